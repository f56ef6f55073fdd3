theorem dX0_init_0 : decode cX0_init 0 = .ok (.aload_n 0, 1) := by decide +kernel
theorem dX0_init_1 : decode cX0_init 1 = .ok (.invokespecial 1, 3) := by decide +kernel
theorem dX0_init_4 : decode cX0_init 4 = .ok (.aload_n 0, 1) := by decide +kernel
theorem dX0_init_5 : decode cX0_init 5 = .ok (.bipush 9, 2) := by decide +kernel
theorem dX0_init_7 : decode cX0_init 7 = .ok (.newarray .int, 2) := by decide +kernel
theorem dX0_init_9 : decode cX0_init 9 = .ok (.putfield 9, 3) := by decide +kernel
theorem dX0_init_12 : decode cX0_init 12 = .ok (.return_, 1) := by decide +kernel
set_option maxRecDepth 20000 in
theorem ggX0_read_X5_within : GoodIn wsX0_read wsX5_within := goodIn_r _ [6] (by decide +kernel) (by decide +kernel)
set_option maxRecDepth 20000 in
theorem gX0_read_X5_within : GoodIn wsX0_read (va_wsS RX0 13 yX5_within wsX5_within) := goodIn_app (goodIn_of _ (by decide +kernel)) ggX0_read_X5_within
set_option maxRecDepth 20000 in
theorem ggX0_read_X5_readDigits : GoodIn wsX0_read wsX5_readDigits := goodIn_r _ [9, 10, 11, 5, 12] (by decide +kernel) (by decide +kernel)
set_option maxRecDepth 20000 in
theorem gX0_read_X5_readDigits : GoodIn wsX0_read (va_wsS RX0 23 yX5_readDigits wsX5_readDigits) := goodIn_app (goodIn_of _ (by decide +kernel)) ggX0_read_X5_readDigits
theorem dX0_read_0 : decode cX0_read 0 = .ok (.iload_n 2, 1) := by decide +kernel
theorem dX0_read_1 : decode cX0_read 1 = .ok (.iconst 1, 1) := by decide +kernel
theorem dX0_read_2 : decode cX0_read 2 = .ok (.bipush 9, 2) := by decide +kernel
theorem dX0_read_4 : decode cX0_read 4 = .ok (.invokestatic 13, 3) := by decide +kernel
theorem dX0_read_7 : decode cX0_read 7 = .ok (.ifCond .ne 5, 3) := by decide +kernel
theorem dX0_read_10 : decode cX0_read 10 = .ok (.iconst 0, 1) := by decide +kernel
theorem dX0_read_11 : decode cX0_read 11 = .ok (.ireturn, 1) := by decide +kernel
theorem dX0_read_12 : decode cX0_read 12 = .ok (.aload_n 0, 1) := by decide +kernel
theorem dX0_read_13 : decode cX0_read 13 = .ok (.iload_n 2, 1) := by decide +kernel
theorem dX0_read_14 : decode cX0_read 14 = .ok (.putfield 19, 3) := by decide +kernel
theorem dX0_read_17 : decode cX0_read 17 = .ok (.iload_n 1, 1) := by decide +kernel
theorem dX0_read_18 : decode cX0_read 18 = .ok (.iload_n 2, 1) := by decide +kernel
theorem dX0_read_19 : decode cX0_read 19 = .ok (.aload_n 0, 1) := by decide +kernel
theorem dX0_read_20 : decode cX0_read 20 = .ok (.getfield 9, 3) := by decide +kernel
theorem dX0_read_23 : decode cX0_read 23 = .ok (.invokestatic 23, 3) := by decide +kernel
theorem dX0_read_26 : decode cX0_read 26 = .ok (.ireturn, 1) := by decide +kernel
set_option maxRecDepth 20000 in
theorem ggX0_judgeStops_X5_at : GoodIn wsX0_judgeStops wsX5_at := goodIn_r _ [10] (by decide +kernel) (by decide +kernel)
set_option maxRecDepth 20000 in
theorem gX0_judgeStops_X5_at : GoodIn wsX0_judgeStops (va_wsS RX0 30 yX5_at wsX5_at) := goodIn_app (goodIn_of _ (by decide +kernel)) ggX0_judgeStops_X5_at
theorem dX0_judgeStops_0 : decode cX0_judgeStops 0 = .ok (.aload_n 0, 1) := by decide +kernel
theorem dX0_judgeStops_1 : decode cX0_judgeStops 1 = .ok (.iconst 0, 1) := by decide +kernel
theorem dX0_judgeStops_2 : decode cX0_judgeStops 2 = .ok (.putfield 27, 3) := by decide +kernel
theorem dX0_judgeStops_5 : decode cX0_judgeStops 5 = .ok (.aload_n 0, 1) := by decide +kernel
theorem dX0_judgeStops_6 : decode cX0_judgeStops 6 = .ok (.aload_n 0, 1) := by decide +kernel
theorem dX0_judgeStops_7 : decode cX0_judgeStops 7 = .ok (.getfield 9, 3) := by decide +kernel
theorem dX0_judgeStops_10 : decode cX0_judgeStops 10 = .ok (.iconst 0, 1) := by decide +kernel
theorem dX0_judgeStops_11 : decode cX0_judgeStops 11 = .ok (.invokestatic 30, 3) := by decide +kernel
theorem dX0_judgeStops_14 : decode cX0_judgeStops 14 = .ok (.i2l, 1) := by decide +kernel
theorem dX0_judgeStops_15 : decode cX0_judgeStops 15 = .ok (.putfield 34, 3) := by decide +kernel
theorem dX0_judgeStops_18 : decode cX0_judgeStops 18 = .ok (.aload_n 0, 1) := by decide +kernel
theorem dX0_judgeStops_19 : decode cX0_judgeStops 19 = .ok (.lconst 1, 1) := by decide +kernel
theorem dX0_judgeStops_20 : decode cX0_judgeStops 20 = .ok (.putfield 38, 3) := by decide +kernel
theorem dX0_judgeStops_23 : decode cX0_judgeStops 23 = .ok (.lconst 1, 1) := by decide +kernel
theorem dX0_judgeStops_24 : decode cX0_judgeStops 24 = .ok (.lstore_n 2, 1) := by decide +kernel
theorem dX0_judgeStops_25 : decode cX0_judgeStops 25 = .ok (.lconst 1, 1) := by decide +kernel
theorem dX0_judgeStops_26 : decode cX0_judgeStops 26 = .ok (.lstore 4, 2) := by decide +kernel
theorem dX0_judgeStops_28 : decode cX0_judgeStops 28 = .ok (.iconst 1, 1) := by decide +kernel
theorem dX0_judgeStops_29 : decode cX0_judgeStops 29 = .ok (.istore 6, 2) := by decide +kernel
theorem dX0_judgeStops_31 : decode cX0_judgeStops 31 = .ok (.iload 6, 2) := by decide +kernel
theorem dX0_judgeStops_33 : decode cX0_judgeStops 33 = .ok (.aload_n 0, 1) := by decide +kernel
theorem dX0_judgeStops_34 : decode cX0_judgeStops 34 = .ok (.getfield 19, 3) := by decide +kernel
theorem dX0_judgeStops_37 : decode cX0_judgeStops 37 = .ok (.if_icmp .ge 82, 3) := by decide +kernel
theorem dX0_judgeStops_40 : decode cX0_judgeStops 40 = .ok (.iload 6, 2) := by decide +kernel
theorem dX0_judgeStops_42 : decode cX0_judgeStops 42 = .ok (.bipush 9, 2) := by decide +kernel
theorem dX0_judgeStops_44 : decode cX0_judgeStops 44 = .ok (.if_icmp .ge 75, 3) := by decide +kernel
theorem dX0_judgeStops_47 : decode cX0_judgeStops 47 = .ok (.lload_n 2, 1) := by decide +kernel
theorem dX0_judgeStops_48 : decode cX0_judgeStops 48 = .ok (.bipush 10, 2) := by decide +kernel
theorem dX0_judgeStops_50 : decode cX0_judgeStops 50 = .ok (.iload_n 1, 1) := by decide +kernel
theorem dX0_judgeStops_51 : decode cX0_judgeStops 51 = .ok (.isub, 1) := by decide +kernel
theorem dX0_judgeStops_52 : decode cX0_judgeStops 52 = .ok (.i2l, 1) := by decide +kernel
theorem dX0_judgeStops_53 : decode cX0_judgeStops 53 = .ok (.lmul, 1) := by decide +kernel
theorem dX0_judgeStops_54 : decode cX0_judgeStops 54 = .ok (.lstore_n 2, 1) := by decide +kernel
theorem dX0_judgeStops_55 : decode cX0_judgeStops 55 = .ok (.lload 4, 2) := by decide +kernel
theorem dX0_judgeStops_57 : decode cX0_judgeStops 57 = .ok (.ldc2_w 41, 3) := by decide +kernel
theorem dX0_judgeStops_60 : decode cX0_judgeStops 60 = .ok (.lmul, 1) := by decide +kernel
theorem dX0_judgeStops_61 : decode cX0_judgeStops 61 = .ok (.lstore 4, 2) := by decide +kernel
theorem dX0_judgeStops_63 : decode cX0_judgeStops 63 = .ok (.aload_n 0, 1) := by decide +kernel
theorem dX0_judgeStops_64 : decode cX0_judgeStops 64 = .ok (.getfield 9, 3) := by decide +kernel
theorem dX0_judgeStops_67 : decode cX0_judgeStops 67 = .ok (.iload 6, 2) := by decide +kernel
theorem dX0_judgeStops_69 : decode cX0_judgeStops 69 = .ok (.invokestatic 30, 3) := by decide +kernel
theorem dX0_judgeStops_72 : decode cX0_judgeStops 72 = .ok (.i2l, 1) := by decide +kernel
theorem dX0_judgeStops_73 : decode cX0_judgeStops 73 = .ok (.lload_n 2, 1) := by decide +kernel
theorem dX0_judgeStops_74 : decode cX0_judgeStops 74 = .ok (.lmul, 1) := by decide +kernel
theorem dX0_judgeStops_75 : decode cX0_judgeStops 75 = .ok (.lstore 7, 2) := by decide +kernel
theorem dX0_judgeStops_77 : decode cX0_judgeStops 77 = .ok (.lload 7, 2) := by decide +kernel
theorem dX0_judgeStops_79 : decode cX0_judgeStops 79 = .ok (.aload_n 0, 1) := by decide +kernel
theorem dX0_judgeStops_80 : decode cX0_judgeStops 80 = .ok (.getfield 38, 3) := by decide +kernel
theorem dX0_judgeStops_83 : decode cX0_judgeStops 83 = .ok (.lmul, 1) := by decide +kernel
theorem dX0_judgeStops_84 : decode cX0_judgeStops 84 = .ok (.aload_n 0, 1) := by decide +kernel
theorem dX0_judgeStops_85 : decode cX0_judgeStops 85 = .ok (.getfield 34, 3) := by decide +kernel
theorem dX0_judgeStops_88 : decode cX0_judgeStops 88 = .ok (.lload 4, 2) := by decide +kernel
theorem dX0_judgeStops_90 : decode cX0_judgeStops 90 = .ok (.lmul, 1) := by decide +kernel
theorem dX0_judgeStops_91 : decode cX0_judgeStops 91 = .ok (.lcmp, 1) := by decide +kernel
theorem dX0_judgeStops_92 : decode cX0_judgeStops 92 = .ok (.ifCond .le 21, 3) := by decide +kernel
theorem dX0_judgeStops_95 : decode cX0_judgeStops 95 = .ok (.aload_n 0, 1) := by decide +kernel
theorem dX0_judgeStops_96 : decode cX0_judgeStops 96 = .ok (.iload 6, 2) := by decide +kernel
theorem dX0_judgeStops_98 : decode cX0_judgeStops 98 = .ok (.putfield 27, 3) := by decide +kernel
theorem dX0_judgeStops_101 : decode cX0_judgeStops 101 = .ok (.aload_n 0, 1) := by decide +kernel
theorem dX0_judgeStops_102 : decode cX0_judgeStops 102 = .ok (.lload 7, 2) := by decide +kernel
theorem dX0_judgeStops_104 : decode cX0_judgeStops 104 = .ok (.putfield 34, 3) := by decide +kernel
theorem dX0_judgeStops_107 : decode cX0_judgeStops 107 = .ok (.aload_n 0, 1) := by decide +kernel
theorem dX0_judgeStops_108 : decode cX0_judgeStops 108 = .ok (.lload 4, 2) := by decide +kernel
theorem dX0_judgeStops_110 : decode cX0_judgeStops 110 = .ok (.putfield 38, 3) := by decide +kernel
theorem dX0_judgeStops_113 : decode cX0_judgeStops 113 = .ok (.iinc 6 1, 3) := by decide +kernel
theorem dX0_judgeStops_116 : decode cX0_judgeStops 116 = .ok (.goto (-85), 3) := by decide +kernel
theorem dX0_judgeStops_119 : decode cX0_judgeStops 119 = .ok (.return_, 1) := by decide +kernel
theorem dX1_init_0 : decode cX1_init 0 = .ok (.aload_n 0, 1) := by decide +kernel
theorem dX1_init_1 : decode cX1_init 1 = .ok (.invokespecial 1, 3) := by decide +kernel
theorem dX1_init_4 : decode cX1_init 4 = .ok (.aload_n 0, 1) := by decide +kernel
theorem dX1_init_5 : decode cX1_init 5 = .ok (.bipush 13, 2) := by decide +kernel
theorem dX1_init_7 : decode cX1_init 7 = .ok (.newarray .long, 2) := by decide +kernel
theorem dX1_init_9 : decode cX1_init 9 = .ok (.putfield 9, 3) := by decide +kernel
theorem dX1_init_12 : decode cX1_init 12 = .ok (.return_, 1) := by decide +kernel
theorem dX1_waysTo_0 : decode cX1_waysTo 0 = .ok (.iload_n 1, 1) := by decide +kernel
theorem dX1_waysTo_1 : decode cX1_waysTo 1 = .ok (.ifCond .lt 21, 3) := by decide +kernel
theorem dX1_waysTo_4 : decode cX1_waysTo 4 = .ok (.iload_n 1, 1) := by decide +kernel
theorem dX1_waysTo_5 : decode cX1_waysTo 5 = .ok (.aload_n 0, 1) := by decide +kernel
theorem dX1_waysTo_6 : decode cX1_waysTo 6 = .ok (.getfield 9, 3) := by decide +kernel
theorem dX1_waysTo_9 : decode cX1_waysTo 9 = .ok (.arraylength, 1) := by decide +kernel
theorem dX1_waysTo_10 : decode cX1_waysTo 10 = .ok (.if_icmp .ge 12, 3) := by decide +kernel
theorem dX1_waysTo_13 : decode cX1_waysTo 13 = .ok (.aload_n 0, 1) := by decide +kernel
theorem dX1_waysTo_14 : decode cX1_waysTo 14 = .ok (.getfield 9, 3) := by decide +kernel
theorem dX1_waysTo_17 : decode cX1_waysTo 17 = .ok (.iload_n 1, 1) := by decide +kernel
theorem dX1_waysTo_18 : decode cX1_waysTo 18 = .ok (.laload, 1) := by decide +kernel
theorem dX1_waysTo_19 : decode cX1_waysTo 19 = .ok (.goto 4, 3) := by decide +kernel
theorem dX1_waysTo_22 : decode cX1_waysTo 22 = .ok (.lconst 0, 1) := by decide +kernel
theorem dX1_waysTo_23 : decode cX1_waysTo 23 = .ok (.lreturn, 1) := by decide +kernel
set_option maxRecDepth 20000 in
theorem ggX1_countWays_X1_waysTo : GoodIn wsX1_countWays wsX1_waysTo := goodIn_r _ [7, 1, 8, 9] (by decide +kernel) (by decide +kernel)
set_option maxRecDepth 20000 in
theorem gX1_countWays_X1_waysTo : GoodIn wsX1_countWays (wsV RX1 17 RX1 yX1_waysTo wsX1_waysTo) := goodIn_app (goodIn_of _ (by decide +kernel)) ggX1_countWays_X1_waysTo
theorem dX1_countWays_0 : decode cX1_countWays 0 = .ok (.iconst 0, 1) := by decide +kernel
theorem dX1_countWays_1 : decode cX1_countWays 1 = .ok (.istore_n 3, 1) := by decide +kernel
theorem dX1_countWays_2 : decode cX1_countWays 2 = .ok (.iload_n 3, 1) := by decide +kernel
theorem dX1_countWays_3 : decode cX1_countWays 3 = .ok (.aload_n 0, 1) := by decide +kernel
theorem dX1_countWays_4 : decode cX1_countWays 4 = .ok (.getfield 9, 3) := by decide +kernel
theorem dX1_countWays_7 : decode cX1_countWays 7 = .ok (.arraylength, 1) := by decide +kernel
theorem dX1_countWays_8 : decode cX1_countWays 8 = .ok (.if_icmp .ge 24, 3) := by decide +kernel
theorem dX1_countWays_11 : decode cX1_countWays 11 = .ok (.aload_n 0, 1) := by decide +kernel
theorem dX1_countWays_12 : decode cX1_countWays 12 = .ok (.getfield 9, 3) := by decide +kernel
theorem dX1_countWays_15 : decode cX1_countWays 15 = .ok (.iload_n 3, 1) := by decide +kernel
theorem dX1_countWays_16 : decode cX1_countWays 16 = .ok (.iload_n 3, 1) := by decide +kernel
theorem dX1_countWays_17 : decode cX1_countWays 17 = .ok (.ifCond .ne 7, 3) := by decide +kernel
theorem dX1_countWays_20 : decode cX1_countWays 20 = .ok (.lconst 1, 1) := by decide +kernel
theorem dX1_countWays_21 : decode cX1_countWays 21 = .ok (.goto 4, 3) := by decide +kernel
theorem dX1_countWays_24 : decode cX1_countWays 24 = .ok (.lconst 0, 1) := by decide +kernel
theorem dX1_countWays_25 : decode cX1_countWays 25 = .ok (.lastore, 1) := by decide +kernel
theorem dX1_countWays_26 : decode cX1_countWays 26 = .ok (.iinc 3 1, 3) := by decide +kernel
theorem dX1_countWays_29 : decode cX1_countWays 29 = .ok (.goto (-27), 3) := by decide +kernel
theorem dX1_countWays_32 : decode cX1_countWays 32 = .ok (.aload_n 0, 1) := by decide +kernel
theorem dX1_countWays_33 : decode cX1_countWays 33 = .ok (.lconst 1, 1) := by decide +kernel
theorem dX1_countWays_34 : decode cX1_countWays 34 = .ok (.putfield 13, 3) := by decide +kernel
theorem dX1_countWays_37 : decode cX1_countWays 37 = .ok (.iconst 0, 1) := by decide +kernel
theorem dX1_countWays_38 : decode cX1_countWays 38 = .ok (.istore_n 3, 1) := by decide +kernel
theorem dX1_countWays_39 : decode cX1_countWays 39 = .ok (.iload_n 3, 1) := by decide +kernel
theorem dX1_countWays_40 : decode cX1_countWays 40 = .ok (.iload_n 1, 1) := by decide +kernel
theorem dX1_countWays_41 : decode cX1_countWays 41 = .ok (.if_icmp .ge 74, 3) := by decide +kernel
theorem dX1_countWays_44 : decode cX1_countWays 44 = .ok (.aload_n 0, 1) := by decide +kernel
theorem dX1_countWays_45 : decode cX1_countWays 45 = .ok (.dup, 1) := by decide +kernel
theorem dX1_countWays_46 : decode cX1_countWays 46 = .ok (.getfield 13, 3) := by decide +kernel
theorem dX1_countWays_49 : decode cX1_countWays 49 = .ok (.iload_n 2, 1) := by decide +kernel
theorem dX1_countWays_50 : decode cX1_countWays 50 = .ok (.i2l, 1) := by decide +kernel
theorem dX1_countWays_51 : decode cX1_countWays 51 = .ok (.lmul, 1) := by decide +kernel
theorem dX1_countWays_52 : decode cX1_countWays 52 = .ok (.putfield 13, 3) := by decide +kernel
theorem dX1_countWays_55 : decode cX1_countWays 55 = .ok (.aload_n 0, 1) := by decide +kernel
theorem dX1_countWays_56 : decode cX1_countWays 56 = .ok (.getfield 9, 3) := by decide +kernel
theorem dX1_countWays_59 : decode cX1_countWays 59 = .ok (.arraylength, 1) := by decide +kernel
theorem dX1_countWays_60 : decode cX1_countWays 60 = .ok (.iconst 1, 1) := by decide +kernel
theorem dX1_countWays_61 : decode cX1_countWays 61 = .ok (.isub, 1) := by decide +kernel
theorem dX1_countWays_62 : decode cX1_countWays 62 = .ok (.istore 4, 2) := by decide +kernel
theorem dX1_countWays_64 : decode cX1_countWays 64 = .ok (.iload 4, 2) := by decide +kernel
theorem dX1_countWays_66 : decode cX1_countWays 66 = .ok (.ifCond .lt 43, 3) := by decide +kernel
theorem dX1_countWays_69 : decode cX1_countWays 69 = .ok (.aload_n 0, 1) := by decide +kernel
theorem dX1_countWays_70 : decode cX1_countWays 70 = .ok (.getfield 9, 3) := by decide +kernel
theorem dX1_countWays_73 : decode cX1_countWays 73 = .ok (.iload 4, 2) := by decide +kernel
theorem dX1_countWays_75 : decode cX1_countWays 75 = .ok (.aload_n 0, 1) := by decide +kernel
theorem dX1_countWays_76 : decode cX1_countWays 76 = .ok (.iload 4, 2) := by decide +kernel
theorem dX1_countWays_78 : decode cX1_countWays 78 = .ok (.invokevirtual 17, 3) := by decide +kernel
theorem dX1_countWays_81 : decode cX1_countWays 81 = .ok (.iload 4, 2) := by decide +kernel
theorem dX1_countWays_83 : decode cX1_countWays 83 = .ok (.i2l, 1) := by decide +kernel
theorem dX1_countWays_84 : decode cX1_countWays 84 = .ok (.lmul, 1) := by decide +kernel
theorem dX1_countWays_85 : decode cX1_countWays 85 = .ok (.aload_n 0, 1) := by decide +kernel
theorem dX1_countWays_86 : decode cX1_countWays 86 = .ok (.iload 4, 2) := by decide +kernel
theorem dX1_countWays_88 : decode cX1_countWays 88 = .ok (.iconst 1, 1) := by decide +kernel
theorem dX1_countWays_89 : decode cX1_countWays 89 = .ok (.isub, 1) := by decide +kernel
theorem dX1_countWays_90 : decode cX1_countWays 90 = .ok (.invokevirtual 17, 3) := by decide +kernel
theorem dX1_countWays_93 : decode cX1_countWays 93 = .ok (.iload_n 2, 1) := by decide +kernel
theorem dX1_countWays_94 : decode cX1_countWays 94 = .ok (.iload 4, 2) := by decide +kernel
theorem dX1_countWays_96 : decode cX1_countWays 96 = .ok (.isub, 1) := by decide +kernel
theorem dX1_countWays_97 : decode cX1_countWays 97 = .ok (.iconst 1, 1) := by decide +kernel
theorem dX1_countWays_98 : decode cX1_countWays 98 = .ok (.iadd, 1) := by decide +kernel
theorem dX1_countWays_99 : decode cX1_countWays 99 = .ok (.i2l, 1) := by decide +kernel
theorem dX1_countWays_100 : decode cX1_countWays 100 = .ok (.lmul, 1) := by decide +kernel
theorem dX1_countWays_101 : decode cX1_countWays 101 = .ok (.ladd, 1) := by decide +kernel
theorem dX1_countWays_102 : decode cX1_countWays 102 = .ok (.lastore, 1) := by decide +kernel
theorem dX1_countWays_103 : decode cX1_countWays 103 = .ok (.iinc 4 (-1), 3) := by decide +kernel
theorem dX1_countWays_106 : decode cX1_countWays 106 = .ok (.goto (-42), 3) := by decide +kernel
theorem dX1_countWays_109 : decode cX1_countWays 109 = .ok (.iinc 3 1, 3) := by decide +kernel
theorem dX1_countWays_112 : decode cX1_countWays 112 = .ok (.goto (-73), 3) := by decide +kernel
theorem dX1_countWays_115 : decode cX1_countWays 115 = .ok (.return_, 1) := by decide +kernel
set_option maxRecDepth 20000 in
theorem ggX1_inLowestTerms_X1_greatestCommon : GoodIn wsX1_inLowestTerms wsX1_greatestCommon := goodIn_r _ [4] (by decide +kernel) (by decide +kernel)
set_option maxRecDepth 20000 in
theorem gX1_inLowestTerms_X1_greatestCommon : GoodIn wsX1_inLowestTerms (va_wsS RX1 21 yX1_greatestCommon wsX1_greatestCommon) := goodIn_app (goodIn_of _ (by decide +kernel)) ggX1_inLowestTerms_X1_greatestCommon
theorem dX1_inLowestTerms_0 : decode cX1_inLowestTerms 0 = .ok (.lload_n 0, 1) := by decide +kernel
theorem dX1_inLowestTerms_1 : decode cX1_inLowestTerms 1 = .ok (.lload_n 2, 1) := by decide +kernel
theorem dX1_inLowestTerms_2 : decode cX1_inLowestTerms 2 = .ok (.invokestatic 21, 3) := by decide +kernel
theorem dX1_inLowestTerms_5 : decode cX1_inLowestTerms 5 = .ok (.lstore 5, 2) := by decide +kernel
theorem dX1_inLowestTerms_7 : decode cX1_inLowestTerms 7 = .ok (.iload 4, 2) := by decide +kernel
theorem dX1_inLowestTerms_9 : decode cX1_inLowestTerms 9 = .ok (.ifCond .ne 7, 3) := by decide +kernel
theorem dX1_inLowestTerms_12 : decode cX1_inLowestTerms 12 = .ok (.lload_n 0, 1) := by decide +kernel
theorem dX1_inLowestTerms_13 : decode cX1_inLowestTerms 13 = .ok (.goto 4, 3) := by decide +kernel
theorem dX1_inLowestTerms_16 : decode cX1_inLowestTerms 16 = .ok (.lload_n 2, 1) := by decide +kernel
theorem dX1_inLowestTerms_17 : decode cX1_inLowestTerms 17 = .ok (.lstore 7, 2) := by decide +kernel
theorem dX1_inLowestTerms_19 : decode cX1_inLowestTerms 19 = .ok (.lload 5, 2) := by decide +kernel
theorem dX1_inLowestTerms_21 : decode cX1_inLowestTerms 21 = .ok (.lconst 0, 1) := by decide +kernel
theorem dX1_inLowestTerms_22 : decode cX1_inLowestTerms 22 = .ok (.lcmp, 1) := by decide +kernel
theorem dX1_inLowestTerms_23 : decode cX1_inLowestTerms 23 = .ok (.ifCond .le 11, 3) := by decide +kernel
theorem dX1_inLowestTerms_26 : decode cX1_inLowestTerms 26 = .ok (.lload 7, 2) := by decide +kernel
theorem dX1_inLowestTerms_28 : decode cX1_inLowestTerms 28 = .ok (.lload 5, 2) := by decide +kernel
theorem dX1_inLowestTerms_30 : decode cX1_inLowestTerms 30 = .ok (.ldiv, 1) := by decide +kernel
theorem dX1_inLowestTerms_31 : decode cX1_inLowestTerms 31 = .ok (.goto 5, 3) := by decide +kernel
theorem dX1_inLowestTerms_34 : decode cX1_inLowestTerms 34 = .ok (.lload 7, 2) := by decide +kernel
theorem dX1_inLowestTerms_36 : decode cX1_inLowestTerms 36 = .ok (.lreturn, 1) := by decide +kernel
theorem dX1_greatestCommon_0 : decode cX1_greatestCommon 0 = .ok (.lload_n 0, 1) := by decide +kernel
theorem dX1_greatestCommon_1 : decode cX1_greatestCommon 1 = .ok (.lstore 4, 2) := by decide +kernel
theorem dX1_greatestCommon_3 : decode cX1_greatestCommon 3 = .ok (.lload_n 2, 1) := by decide +kernel
theorem dX1_greatestCommon_4 : decode cX1_greatestCommon 4 = .ok (.lstore 6, 2) := by decide +kernel
theorem dX1_greatestCommon_6 : decode cX1_greatestCommon 6 = .ok (.iconst 0, 1) := by decide +kernel
theorem dX1_greatestCommon_7 : decode cX1_greatestCommon 7 = .ok (.istore 8, 2) := by decide +kernel
theorem dX1_greatestCommon_9 : decode cX1_greatestCommon 9 = .ok (.iload 8, 2) := by decide +kernel
theorem dX1_greatestCommon_11 : decode cX1_greatestCommon 11 = .ok (.bipush 100, 2) := by decide +kernel
theorem dX1_greatestCommon_13 : decode cX1_greatestCommon 13 = .ok (.if_icmp .ge 31, 3) := by decide +kernel
theorem dX1_greatestCommon_16 : decode cX1_greatestCommon 16 = .ok (.lload 6, 2) := by decide +kernel
theorem dX1_greatestCommon_18 : decode cX1_greatestCommon 18 = .ok (.lconst 0, 1) := by decide +kernel
theorem dX1_greatestCommon_19 : decode cX1_greatestCommon 19 = .ok (.lcmp, 1) := by decide +kernel
theorem dX1_greatestCommon_20 : decode cX1_greatestCommon 20 = .ok (.ifCond .eq 24, 3) := by decide +kernel
theorem dX1_greatestCommon_23 : decode cX1_greatestCommon 23 = .ok (.lload 4, 2) := by decide +kernel
theorem dX1_greatestCommon_25 : decode cX1_greatestCommon 25 = .ok (.lload 6, 2) := by decide +kernel
theorem dX1_greatestCommon_27 : decode cX1_greatestCommon 27 = .ok (.lrem, 1) := by decide +kernel
theorem dX1_greatestCommon_28 : decode cX1_greatestCommon 28 = .ok (.lstore 9, 2) := by decide +kernel
theorem dX1_greatestCommon_30 : decode cX1_greatestCommon 30 = .ok (.lload 6, 2) := by decide +kernel
theorem dX1_greatestCommon_32 : decode cX1_greatestCommon 32 = .ok (.lstore 4, 2) := by decide +kernel
theorem dX1_greatestCommon_34 : decode cX1_greatestCommon 34 = .ok (.lload 9, 2) := by decide +kernel
theorem dX1_greatestCommon_36 : decode cX1_greatestCommon 36 = .ok (.lstore 6, 2) := by decide +kernel
theorem dX1_greatestCommon_38 : decode cX1_greatestCommon 38 = .ok (.iinc 8 1, 3) := by decide +kernel
theorem dX1_greatestCommon_41 : decode cX1_greatestCommon 41 = .ok (.goto (-32), 3) := by decide +kernel
theorem dX1_greatestCommon_44 : decode cX1_greatestCommon 44 = .ok (.lload 4, 2) := by decide +kernel
theorem dX1_greatestCommon_46 : decode cX1_greatestCommon 46 = .ok (.lreturn, 1) := by decide +kernel
theorem dX2_init_0 : decode cX2_init 0 = .ok (.aload_n 0, 1) := by decide +kernel
theorem dX2_init_1 : decode cX2_init 1 = .ok (.invokespecial 3, 3) := by decide +kernel
theorem dX2_init_4 : decode cX2_init 4 = .ok (.aload_n 0, 1) := by decide +kernel
theorem dX2_init_5 : decode cX2_init 5 = .ok (.iconst 5, 1) := by decide +kernel
theorem dX2_init_6 : decode cX2_init 6 = .ok (.newarray .int, 2) := by decide +kernel
theorem dX2_init_8 : decode cX2_init 8 = .ok (.putfield 11, 3) := by decide +kernel
theorem dX2_init_11 : decode cX2_init 11 = .ok (.aload_n 0, 1) := by decide +kernel
theorem dX2_init_12 : decode cX2_init 12 = .ok (.bipush 25, 2) := by decide +kernel
theorem dX2_init_14 : decode cX2_init 14 = .ok (.newarray .int, 2) := by decide +kernel
theorem dX2_init_16 : decode cX2_init 16 = .ok (.putfield 15, 3) := by decide +kernel
theorem dX2_init_19 : decode cX2_init 19 = .ok (.return_, 1) := by decide +kernel
set_option maxRecDepth 20000 in
theorem ggX2_layOut_X5_fill : GoodIn wsX2_layOut wsX5_fill := goodIn_r _ [10] (by decide +kernel) (by decide +kernel)
set_option maxRecDepth 20000 in
theorem gX2_layOut_X5_fill : GoodIn wsX2_layOut (va_wsS RX2 18 yX5_fill wsX5_fill) := goodIn_app (goodIn_of _ (by decide +kernel)) ggX2_layOut_X5_fill
set_option maxRecDepth 20000 in
theorem ggX2_layOut_X2_freeHand : GoodIn wsX2_layOut wsX2_freeHand := goodIn_r _ [15, 1, 16, 17, 9, 18, 22, 23, 24, 25, 26, 27] (by decide +kernel) (by decide +kernel)
set_option maxRecDepth 20000 in
theorem gX2_layOut_X2_freeHand : GoodIn wsX2_layOut (wsV RX2 34 RX2 yX2_freeHand wsX2_freeHand) := goodIn_app (goodIn_of _ (by decide +kernel)) ggX2_layOut_X2_freeHand
set_option maxRecDepth 20000 in
theorem ggX2_layOut_X5_put : GoodIn wsX2_layOut wsX5_put := goodIn_r _ [21] (by decide +kernel) (by decide +kernel)
set_option maxRecDepth 20000 in
theorem gX2_layOut_X5_put : GoodIn wsX2_layOut (va_wsS RX2 38 yX5_put wsX5_put) := goodIn_app (goodIn_of _ (by decide +kernel)) ggX2_layOut_X5_put
theorem dX2_layOut_0 : decode cX2_layOut 0 = .ok (.aload_n 0, 1) := by decide +kernel
theorem dX2_layOut_1 : decode cX2_layOut 1 = .ok (.getfield 11, 3) := by decide +kernel
theorem dX2_layOut_4 : decode cX2_layOut 4 = .ok (.bipush (-6), 2) := by decide +kernel
theorem dX2_layOut_6 : decode cX2_layOut 6 = .ok (.invokestatic 18, 3) := by decide +kernel
theorem dX2_layOut_9 : decode cX2_layOut 9 = .ok (.aload_n 0, 1) := by decide +kernel
theorem dX2_layOut_10 : decode cX2_layOut 10 = .ok (.iconst 0, 1) := by decide +kernel
theorem dX2_layOut_11 : decode cX2_layOut 11 = .ok (.putfield 24, 3) := by decide +kernel
theorem dX2_layOut_14 : decode cX2_layOut 14 = .ok (.iload_n 1, 1) := by decide +kernel
theorem dX2_layOut_15 : decode cX2_layOut 15 = .ok (.istore_n 2, 1) := by decide +kernel
theorem dX2_layOut_16 : decode cX2_layOut 16 = .ok (.bipush 120, 2) := by decide +kernel
theorem dX2_layOut_18 : decode cX2_layOut 18 = .ok (.istore_n 3, 1) := by decide +kernel
theorem dX2_layOut_19 : decode cX2_layOut 19 = .ok (.iconst 0, 1) := by decide +kernel
theorem dX2_layOut_20 : decode cX2_layOut 20 = .ok (.istore 4, 2) := by decide +kernel
theorem dX2_layOut_22 : decode cX2_layOut 22 = .ok (.iload 4, 2) := by decide +kernel
theorem dX2_layOut_24 : decode cX2_layOut 24 = .ok (.iconst 5, 1) := by decide +kernel
theorem dX2_layOut_25 : decode cX2_layOut 25 = .ok (.if_icmp .ge 58, 3) := by decide +kernel
theorem dX2_layOut_28 : decode cX2_layOut 28 = .ok (.iconst 1, 1) := by decide +kernel
theorem dX2_layOut_29 : decode cX2_layOut 29 = .ok (.iload_n 3, 1) := by decide +kernel
theorem dX2_layOut_30 : decode cX2_layOut 30 = .ok (.iconst 5, 1) := by decide +kernel
theorem dX2_layOut_31 : decode cX2_layOut 31 = .ok (.iload 4, 2) := by decide +kernel
theorem dX2_layOut_33 : decode cX2_layOut 33 = .ok (.isub, 1) := by decide +kernel
theorem dX2_layOut_34 : decode cX2_layOut 34 = .ok (.idiv, 1) := by decide +kernel
theorem dX2_layOut_35 : decode cX2_layOut 35 = .ok (.invokestatic 28, 3) := by decide +kernel
theorem dX2_layOut_38 : decode cX2_layOut 38 = .ok (.istore_n 3, 1) := by decide +kernel
theorem dX2_layOut_39 : decode cX2_layOut 39 = .ok (.aload_n 0, 1) := by decide +kernel
theorem dX2_layOut_40 : decode cX2_layOut 40 = .ok (.iload_n 2, 1) := by decide +kernel
theorem dX2_layOut_41 : decode cX2_layOut 41 = .ok (.iload_n 3, 1) := by decide +kernel
theorem dX2_layOut_42 : decode cX2_layOut 42 = .ok (.idiv, 1) := by decide +kernel
theorem dX2_layOut_43 : decode cX2_layOut 43 = .ok (.invokevirtual 34, 3) := by decide +kernel
theorem dX2_layOut_46 : decode cX2_layOut 46 = .ok (.istore 5, 2) := by decide +kernel
theorem dX2_layOut_48 : decode cX2_layOut 48 = .ok (.iload_n 2, 1) := by decide +kernel
theorem dX2_layOut_49 : decode cX2_layOut 49 = .ok (.iload_n 3, 1) := by decide +kernel
theorem dX2_layOut_50 : decode cX2_layOut 50 = .ok (.irem, 1) := by decide +kernel
theorem dX2_layOut_51 : decode cX2_layOut 51 = .ok (.istore_n 2, 1) := by decide +kernel
theorem dX2_layOut_52 : decode cX2_layOut 52 = .ok (.aload_n 0, 1) := by decide +kernel
theorem dX2_layOut_53 : decode cX2_layOut 53 = .ok (.getfield 11, 3) := by decide +kernel
theorem dX2_layOut_56 : decode cX2_layOut 56 = .ok (.iload 5, 2) := by decide +kernel
theorem dX2_layOut_58 : decode cX2_layOut 58 = .ok (.iload 4, 2) := by decide +kernel
theorem dX2_layOut_60 : decode cX2_layOut 60 = .ok (.invokestatic 38, 3) := by decide +kernel
theorem dX2_layOut_63 : decode cX2_layOut 63 = .ok (.aload_n 0, 1) := by decide +kernel
theorem dX2_layOut_64 : decode cX2_layOut 64 = .ok (.aload_n 0, 1) := by decide +kernel
theorem dX2_layOut_65 : decode cX2_layOut 65 = .ok (.getfield 24, 3) := by decide +kernel
theorem dX2_layOut_68 : decode cX2_layOut 68 = .ok (.bipush 10, 2) := by decide +kernel
theorem dX2_layOut_70 : decode cX2_layOut 70 = .ok (.imul, 1) := by decide +kernel
theorem dX2_layOut_71 : decode cX2_layOut 71 = .ok (.iload 5, 2) := by decide +kernel
theorem dX2_layOut_73 : decode cX2_layOut 73 = .ok (.iadd, 1) := by decide +kernel
theorem dX2_layOut_74 : decode cX2_layOut 74 = .ok (.putfield 24, 3) := by decide +kernel
theorem dX2_layOut_77 : decode cX2_layOut 77 = .ok (.iinc 4 1, 3) := by decide +kernel
theorem dX2_layOut_80 : decode cX2_layOut 80 = .ok (.goto (-58), 3) := by decide +kernel
theorem dX2_layOut_83 : decode cX2_layOut 83 = .ok (.return_, 1) := by decide +kernel
set_option maxRecDepth 20000 in
theorem ggX2_freeHand_X5_at : GoodIn wsX2_freeHand wsX5_at := goodIn_r _ [5] (by decide +kernel) (by decide +kernel)
set_option maxRecDepth 20000 in
theorem gX2_freeHand_X5_at : GoodIn wsX2_freeHand (va_wsS RX2 42 yX5_at wsX5_at) := goodIn_app (goodIn_of _ (by decide +kernel)) ggX2_freeHand_X5_at
theorem dX2_freeHand_0 : decode cX2_freeHand 0 = .ok (.iload_n 1, 1) := by decide +kernel
theorem dX2_freeHand_1 : decode cX2_freeHand 1 = .ok (.istore_n 2, 1) := by decide +kernel
theorem dX2_freeHand_2 : decode cX2_freeHand 2 = .ok (.iconst 0, 1) := by decide +kernel
theorem dX2_freeHand_3 : decode cX2_freeHand 3 = .ok (.istore_n 3, 1) := by decide +kernel
theorem dX2_freeHand_4 : decode cX2_freeHand 4 = .ok (.iload_n 3, 1) := by decide +kernel
theorem dX2_freeHand_5 : decode cX2_freeHand 5 = .ok (.iconst 5, 1) := by decide +kernel
theorem dX2_freeHand_6 : decode cX2_freeHand 6 = .ok (.if_icmp .ge 31, 3) := by decide +kernel
theorem dX2_freeHand_9 : decode cX2_freeHand 9 = .ok (.aload_n 0, 1) := by decide +kernel
theorem dX2_freeHand_10 : decode cX2_freeHand 10 = .ok (.getfield 11, 3) := by decide +kernel
theorem dX2_freeHand_13 : decode cX2_freeHand 13 = .ok (.iload_n 3, 1) := by decide +kernel
theorem dX2_freeHand_14 : decode cX2_freeHand 14 = .ok (.invokestatic 42, 3) := by decide +kernel
theorem dX2_freeHand_17 : decode cX2_freeHand 17 = .ok (.bipush (-6), 2) := by decide +kernel
theorem dX2_freeHand_19 : decode cX2_freeHand 19 = .ok (.if_icmp .ne 12, 3) := by decide +kernel
theorem dX2_freeHand_22 : decode cX2_freeHand 22 = .ok (.iload_n 2, 1) := by decide +kernel
theorem dX2_freeHand_23 : decode cX2_freeHand 23 = .ok (.ifCond .ne 5, 3) := by decide +kernel
theorem dX2_freeHand_26 : decode cX2_freeHand 26 = .ok (.iload_n 3, 1) := by decide +kernel
theorem dX2_freeHand_27 : decode cX2_freeHand 27 = .ok (.ireturn, 1) := by decide +kernel
theorem dX2_freeHand_28 : decode cX2_freeHand 28 = .ok (.iinc 2 (-1), 3) := by decide +kernel
theorem dX2_freeHand_31 : decode cX2_freeHand 31 = .ok (.iinc 3 1, 3) := by decide +kernel
theorem dX2_freeHand_34 : decode cX2_freeHand 34 = .ok (.goto (-30), 3) := by decide +kernel
theorem dX2_freeHand_37 : decode cX2_freeHand 37 = .ok (.iconst 0, 1) := by decide +kernel
theorem dX2_freeHand_38 : decode cX2_freeHand 38 = .ok (.ireturn, 1) := by decide +kernel
set_option maxRecDepth 20000 in
theorem ggX2_fittingRow_X2_layOut : GoodIn wsX2_fittingRow wsX2_layOut := goodIn_r _ [7, 1, 2, 8, 9, 10, 11, 12, 13, 14, 15, 16, 17, 18, 6, 19, 20, 21, 22, 23, 24, 25, 35, 36, 37, 38, 39, 40] (by decide +kernel) (by decide +kernel)
set_option maxRecDepth 20000 in
theorem gX2_fittingRow_X2_layOut : GoodIn wsX2_fittingRow (wsV RX2 46 RX2 yX2_layOut wsX2_layOut) := goodIn_app (goodIn_of _ (by decide +kernel)) ggX2_fittingRow_X2_layOut
set_option maxRecDepth 20000 in
theorem ggX2_fittingRow_X8_hold : GoodIn wsX2_fittingRow wsX8_hold := goodIn_r _ [30, 31, 32, 33, 34, 21, 14, 22, 41, 42, 43] (by decide +kernel) (by decide +kernel)
set_option maxRecDepth 20000 in
theorem gX2_fittingRow_X8_hold : GoodIn wsX2_fittingRow (wsV RX2 50 RX8 yX8_hold wsX8_hold) := goodIn_app (goodIn_of _ (by decide +kernel)) ggX2_fittingRow_X8_hold
theorem dX2_fittingRow_0 : decode cX2_fittingRow 0 = .ok (.iconst 0, 1) := by decide +kernel
theorem dX2_fittingRow_1 : decode cX2_fittingRow 1 = .ok (.istore_n 3, 1) := by decide +kernel
theorem dX2_fittingRow_2 : decode cX2_fittingRow 2 = .ok (.iconst 0, 1) := by decide +kernel
theorem dX2_fittingRow_3 : decode cX2_fittingRow 3 = .ok (.istore 4, 2) := by decide +kernel
theorem dX2_fittingRow_5 : decode cX2_fittingRow 5 = .ok (.iload 4, 2) := by decide +kernel
theorem dX2_fittingRow_7 : decode cX2_fittingRow 7 = .ok (.bipush 120, 2) := by decide +kernel
theorem dX2_fittingRow_9 : decode cX2_fittingRow 9 = .ok (.if_icmp .ge 39, 3) := by decide +kernel
theorem dX2_fittingRow_12 : decode cX2_fittingRow 12 = .ok (.aload_n 0, 1) := by decide +kernel
theorem dX2_fittingRow_13 : decode cX2_fittingRow 13 = .ok (.iload 4, 2) := by decide +kernel
theorem dX2_fittingRow_15 : decode cX2_fittingRow 15 = .ok (.invokevirtual 46, 3) := by decide +kernel
theorem dX2_fittingRow_18 : decode cX2_fittingRow 18 = .ok (.aload_n 1, 1) := by decide +kernel
theorem dX2_fittingRow_19 : decode cX2_fittingRow 19 = .ok (.aload_n 0, 1) := by decide +kernel
theorem dX2_fittingRow_20 : decode cX2_fittingRow 20 = .ok (.getfield 11, 3) := by decide +kernel
theorem dX2_fittingRow_23 : decode cX2_fittingRow 23 = .ok (.invokevirtual 50, 3) := by decide +kernel
theorem dX2_fittingRow_26 : decode cX2_fittingRow 26 = .ok (.ifCond .eq 16, 3) := by decide +kernel
theorem dX2_fittingRow_29 : decode cX2_fittingRow 29 = .ok (.iload_n 3, 1) := by decide +kernel
theorem dX2_fittingRow_30 : decode cX2_fittingRow 30 = .ok (.iload_n 2, 1) := by decide +kernel
theorem dX2_fittingRow_31 : decode cX2_fittingRow 31 = .ok (.if_icmp .ne 8, 3) := by decide +kernel
theorem dX2_fittingRow_34 : decode cX2_fittingRow 34 = .ok (.aload_n 0, 1) := by decide +kernel
theorem dX2_fittingRow_35 : decode cX2_fittingRow 35 = .ok (.getfield 24, 3) := by decide +kernel
theorem dX2_fittingRow_38 : decode cX2_fittingRow 38 = .ok (.ireturn, 1) := by decide +kernel
theorem dX2_fittingRow_39 : decode cX2_fittingRow 39 = .ok (.iinc 3 1, 3) := by decide +kernel
theorem dX2_fittingRow_42 : decode cX2_fittingRow 42 = .ok (.iinc 4 1, 3) := by decide +kernel
theorem dX2_fittingRow_45 : decode cX2_fittingRow 45 = .ok (.goto (-40), 3) := by decide +kernel
theorem dX2_fittingRow_48 : decode cX2_fittingRow 48 = .ok (.iload_n 2, 1) := by decide +kernel
theorem dX2_fittingRow_49 : decode cX2_fittingRow 49 = .ok (.iconst (-1), 1) := by decide +kernel
theorem dX2_fittingRow_50 : decode cX2_fittingRow 50 = .ok (.if_icmp .ne 7, 3) := by decide +kernel
theorem dX2_fittingRow_53 : decode cX2_fittingRow 53 = .ok (.iload_n 3, 1) := by decide +kernel
theorem dX2_fittingRow_54 : decode cX2_fittingRow 54 = .ok (.goto 5, 3) := by decide +kernel
theorem dX2_fittingRow_57 : decode cX2_fittingRow 57 = .ok (.bipush (-6), 2) := by decide +kernel
theorem dX2_fittingRow_59 : decode cX2_fittingRow 59 = .ok (.ireturn, 1) := by decide +kernel
set_option maxRecDepth 20000 in
theorem ggX2_chooseQuestion_X2_countPairs : GoodIn wsX2_chooseQuestion wsX2_countPairs := goodIn_r _ [13, 4, 3, 14, 15, 16, 17, 18, 19, 20, 21, 12, 22, 23, 5, 6, 7, 8, 24, 25, 26, 27, 28, 29, 30, 31, 32, 33, 34, 35, 36, 37, 38, 39, 40, 41, 42, 43, 44, 45, 46, 47, 48, 49, 50, 51, 52, 53, 54, 55] (by decide +kernel) (by decide +kernel)
set_option maxRecDepth 20000 in
theorem gX2_chooseQuestion_X2_countPairs : GoodIn wsX2_chooseQuestion (wsV RX2 56 RX2 yX2_countPairs wsX2_countPairs) := goodIn_app (goodIn_of _ (by decide +kernel)) ggX2_chooseQuestion_X2_countPairs
set_option maxRecDepth 20000 in
theorem ggX2_chooseQuestion_X5_at : GoodIn wsX2_chooseQuestion wsX5_at := goodIn_r _ [30] (by decide +kernel) (by decide +kernel)
set_option maxRecDepth 20000 in
theorem gX2_chooseQuestion_X5_at : GoodIn wsX2_chooseQuestion (va_wsS RX2 42 yX5_at wsX5_at) := goodIn_app (goodIn_of _ (by decide +kernel)) ggX2_chooseQuestion_X5_at
theorem dX2_chooseQuestion_0 : decode cX2_chooseQuestion 0 = .ok (.aload_n 0, 1) := by decide +kernel
theorem dX2_chooseQuestion_1 : decode cX2_chooseQuestion 1 = .ok (.aload_n 1, 1) := by decide +kernel
theorem dX2_chooseQuestion_2 : decode cX2_chooseQuestion 2 = .ok (.invokevirtual 56, 3) := by decide +kernel
theorem dX2_chooseQuestion_5 : decode cX2_chooseQuestion 5 = .ok (.aload_n 0, 1) := by decide +kernel
theorem dX2_chooseQuestion_6 : decode cX2_chooseQuestion 6 = .ok (.bipush (-6), 2) := by decide +kernel
theorem dX2_chooseQuestion_8 : decode cX2_chooseQuestion 8 = .ok (.putfield 60, 3) := by decide +kernel
theorem dX2_chooseQuestion_11 : decode cX2_chooseQuestion 11 = .ok (.aload_n 0, 1) := by decide +kernel
theorem dX2_chooseQuestion_12 : decode cX2_chooseQuestion 12 = .ok (.bipush (-6), 2) := by decide +kernel
theorem dX2_chooseQuestion_14 : decode cX2_chooseQuestion 14 = .ok (.putfield 63, 3) := by decide +kernel
theorem dX2_chooseQuestion_17 : decode cX2_chooseQuestion 17 = .ok (.aload_n 0, 1) := by decide +kernel
theorem dX2_chooseQuestion_18 : decode cX2_chooseQuestion 18 = .ok (.getfield 66, 3) := by decide +kernel
theorem dX2_chooseQuestion_21 : decode cX2_chooseQuestion 21 = .ok (.ifCond .ne 4, 3) := by decide +kernel
theorem dX2_chooseQuestion_24 : decode cX2_chooseQuestion 24 = .ok (.return_, 1) := by decide +kernel
theorem dX2_chooseQuestion_25 : decode cX2_chooseQuestion 25 = .ok (.iconst 0, 1) := by decide +kernel
theorem dX2_chooseQuestion_26 : decode cX2_chooseQuestion 26 = .ok (.istore_n 2, 1) := by decide +kernel
theorem dX2_chooseQuestion_27 : decode cX2_chooseQuestion 27 = .ok (.iload_n 2, 1) := by decide +kernel
theorem dX2_chooseQuestion_28 : decode cX2_chooseQuestion 28 = .ok (.iconst 5, 1) := by decide +kernel
theorem dX2_chooseQuestion_29 : decode cX2_chooseQuestion 29 = .ok (.if_icmp .ge 86, 3) := by decide +kernel
theorem dX2_chooseQuestion_32 : decode cX2_chooseQuestion 32 = .ok (.iload_n 2, 1) := by decide +kernel
theorem dX2_chooseQuestion_33 : decode cX2_chooseQuestion 33 = .ok (.iconst 1, 1) := by decide +kernel
theorem dX2_chooseQuestion_34 : decode cX2_chooseQuestion 34 = .ok (.iadd, 1) := by decide +kernel
theorem dX2_chooseQuestion_35 : decode cX2_chooseQuestion 35 = .ok (.istore_n 3, 1) := by decide +kernel
theorem dX2_chooseQuestion_36 : decode cX2_chooseQuestion 36 = .ok (.iload_n 3, 1) := by decide +kernel
theorem dX2_chooseQuestion_37 : decode cX2_chooseQuestion 37 = .ok (.iconst 5, 1) := by decide +kernel
theorem dX2_chooseQuestion_38 : decode cX2_chooseQuestion 38 = .ok (.if_icmp .ge 71, 3) := by decide +kernel
theorem dX2_chooseQuestion_41 : decode cX2_chooseQuestion 41 = .ok (.aload_n 0, 1) := by decide +kernel
theorem dX2_chooseQuestion_42 : decode cX2_chooseQuestion 42 = .ok (.getfield 15, 3) := by decide +kernel
theorem dX2_chooseQuestion_45 : decode cX2_chooseQuestion 45 = .ok (.iload_n 2, 1) := by decide +kernel
theorem dX2_chooseQuestion_46 : decode cX2_chooseQuestion 46 = .ok (.iconst 5, 1) := by decide +kernel
theorem dX2_chooseQuestion_47 : decode cX2_chooseQuestion 47 = .ok (.imul, 1) := by decide +kernel
theorem dX2_chooseQuestion_48 : decode cX2_chooseQuestion 48 = .ok (.iload_n 3, 1) := by decide +kernel
theorem dX2_chooseQuestion_49 : decode cX2_chooseQuestion 49 = .ok (.iadd, 1) := by decide +kernel
theorem dX2_chooseQuestion_50 : decode cX2_chooseQuestion 50 = .ok (.invokestatic 42, 3) := by decide +kernel
theorem dX2_chooseQuestion_53 : decode cX2_chooseQuestion 53 = .ok (.istore 4, 2) := by decide +kernel
theorem dX2_chooseQuestion_55 : decode cX2_chooseQuestion 55 = .ok (.iload 4, 2) := by decide +kernel
theorem dX2_chooseQuestion_57 : decode cX2_chooseQuestion 57 = .ok (.aload_n 0, 1) := by decide +kernel
theorem dX2_chooseQuestion_58 : decode cX2_chooseQuestion 58 = .ok (.getfield 66, 3) := by decide +kernel
theorem dX2_chooseQuestion_61 : decode cX2_chooseQuestion 61 = .ok (.iload 4, 2) := by decide +kernel
theorem dX2_chooseQuestion_63 : decode cX2_chooseQuestion 63 = .ok (.isub, 1) := by decide +kernel
theorem dX2_chooseQuestion_64 : decode cX2_chooseQuestion 64 = .ok (.invokestatic 28, 3) := by decide +kernel
theorem dX2_chooseQuestion_67 : decode cX2_chooseQuestion 67 = .ok (.istore 5, 2) := by decide +kernel
theorem dX2_chooseQuestion_69 : decode cX2_chooseQuestion 69 = .ok (.aload_n 0, 1) := by decide +kernel
theorem dX2_chooseQuestion_70 : decode cX2_chooseQuestion 70 = .ok (.getfield 60, 3) := by decide +kernel
theorem dX2_chooseQuestion_73 : decode cX2_chooseQuestion 73 = .ok (.bipush (-6), 2) := by decide +kernel
theorem dX2_chooseQuestion_75 : decode cX2_chooseQuestion 75 = .ok (.if_icmp .eq 12, 3) := by decide +kernel
theorem dX2_chooseQuestion_78 : decode cX2_chooseQuestion 78 = .ok (.iload 5, 2) := by decide +kernel
theorem dX2_chooseQuestion_80 : decode cX2_chooseQuestion 80 = .ok (.aload_n 0, 1) := by decide +kernel
theorem dX2_chooseQuestion_81 : decode cX2_chooseQuestion 81 = .ok (.getfield 63, 3) := by decide +kernel
theorem dX2_chooseQuestion_84 : decode cX2_chooseQuestion 84 = .ok (.if_icmp .ge 19, 3) := by decide +kernel
theorem dX2_chooseQuestion_87 : decode cX2_chooseQuestion 87 = .ok (.aload_n 0, 1) := by decide +kernel
theorem dX2_chooseQuestion_88 : decode cX2_chooseQuestion 88 = .ok (.bipush 10, 2) := by decide +kernel
theorem dX2_chooseQuestion_90 : decode cX2_chooseQuestion 90 = .ok (.iload_n 2, 1) := by decide +kernel
theorem dX2_chooseQuestion_91 : decode cX2_chooseQuestion 91 = .ok (.imul, 1) := by decide +kernel
theorem dX2_chooseQuestion_92 : decode cX2_chooseQuestion 92 = .ok (.iload_n 3, 1) := by decide +kernel
theorem dX2_chooseQuestion_93 : decode cX2_chooseQuestion 93 = .ok (.iadd, 1) := by decide +kernel
theorem dX2_chooseQuestion_94 : decode cX2_chooseQuestion 94 = .ok (.putfield 60, 3) := by decide +kernel
theorem dX2_chooseQuestion_97 : decode cX2_chooseQuestion 97 = .ok (.aload_n 0, 1) := by decide +kernel
theorem dX2_chooseQuestion_98 : decode cX2_chooseQuestion 98 = .ok (.iload 5, 2) := by decide +kernel
theorem dX2_chooseQuestion_100 : decode cX2_chooseQuestion 100 = .ok (.putfield 63, 3) := by decide +kernel
theorem dX2_chooseQuestion_103 : decode cX2_chooseQuestion 103 = .ok (.iinc 3 1, 3) := by decide +kernel
theorem dX2_chooseQuestion_106 : decode cX2_chooseQuestion 106 = .ok (.goto (-70), 3) := by decide +kernel
theorem dX2_chooseQuestion_109 : decode cX2_chooseQuestion 109 = .ok (.iinc 2 1, 3) := by decide +kernel
theorem dX2_chooseQuestion_112 : decode cX2_chooseQuestion 112 = .ok (.goto (-85), 3) := by decide +kernel
theorem dX2_chooseQuestion_115 : decode cX2_chooseQuestion 115 = .ok (.return_, 1) := by decide +kernel
set_option maxRecDepth 20000 in
theorem ggX2_countPairs_X5_fill : GoodIn wsX2_countPairs wsX5_fill := goodIn_r _ [7] (by decide +kernel) (by decide +kernel)
set_option maxRecDepth 20000 in
theorem gX2_countPairs_X5_fill : GoodIn wsX2_countPairs (va_wsS RX2 18 yX5_fill wsX5_fill) := goodIn_app (goodIn_of _ (by decide +kernel)) ggX2_countPairs_X5_fill
set_option maxRecDepth 20000 in
theorem ggX2_countPairs_X2_layOut : GoodIn wsX2_countPairs wsX2_layOut := goodIn_r _ [12, 3, 13, 14, 15, 16, 17, 4, 5, 6, 7, 18, 19, 20, 11, 21, 22, 23, 24, 25, 26, 27, 41, 42, 43, 44, 45, 46] (by decide +kernel) (by decide +kernel)
set_option maxRecDepth 20000 in
theorem gX2_countPairs_X2_layOut : GoodIn wsX2_countPairs (wsV RX2 46 RX2 yX2_layOut wsX2_layOut) := goodIn_app (goodIn_of _ (by decide +kernel)) ggX2_countPairs_X2_layOut
set_option maxRecDepth 20000 in
theorem ggX2_countPairs_X8_hold : GoodIn wsX2_countPairs wsX8_hold := goodIn_r _ [32, 33, 34, 35, 36, 23, 6, 24, 47, 48, 49] (by decide +kernel) (by decide +kernel)
set_option maxRecDepth 20000 in
theorem gX2_countPairs_X8_hold : GoodIn wsX2_countPairs (wsV RX2 50 RX8 yX8_hold wsX8_hold) := goodIn_app (goodIn_of _ (by decide +kernel)) ggX2_countPairs_X8_hold
set_option maxRecDepth 20000 in
theorem ggX2_countPairs_X2_countPairsOfRow : GoodIn wsX2_countPairs wsX2_countPairsOfRow := goodIn_r _ [40, 3, 1, 22, 23, 6, 24, 25, 26, 27, 41, 42, 43, 44, 45, 46] (by decide +kernel) (by decide +kernel)
set_option maxRecDepth 20000 in
theorem gX2_countPairs_X2_countPairsOfRow : GoodIn wsX2_countPairs (wsV RX2 69 RX2 yX2_countPairsOfRow wsX2_countPairsOfRow) := goodIn_app (goodIn_of _ (by decide +kernel)) ggX2_countPairs_X2_countPairsOfRow
theorem dX2_countPairs_0 : decode cX2_countPairs 0 = .ok (.aload_n 0, 1) := by decide +kernel
theorem dX2_countPairs_1 : decode cX2_countPairs 1 = .ok (.getfield 15, 3) := by decide +kernel
theorem dX2_countPairs_4 : decode cX2_countPairs 4 = .ok (.iconst 0, 1) := by decide +kernel
theorem dX2_countPairs_5 : decode cX2_countPairs 5 = .ok (.invokestatic 18, 3) := by decide +kernel
theorem dX2_countPairs_8 : decode cX2_countPairs 8 = .ok (.aload_n 0, 1) := by decide +kernel
theorem dX2_countPairs_9 : decode cX2_countPairs 9 = .ok (.iconst 0, 1) := by decide +kernel
theorem dX2_countPairs_10 : decode cX2_countPairs 10 = .ok (.putfield 66, 3) := by decide +kernel
theorem dX2_countPairs_13 : decode cX2_countPairs 13 = .ok (.iconst 0, 1) := by decide +kernel
theorem dX2_countPairs_14 : decode cX2_countPairs 14 = .ok (.istore_n 2, 1) := by decide +kernel
theorem dX2_countPairs_15 : decode cX2_countPairs 15 = .ok (.iload_n 2, 1) := by decide +kernel
theorem dX2_countPairs_16 : decode cX2_countPairs 16 = .ok (.bipush 120, 2) := by decide +kernel
theorem dX2_countPairs_18 : decode cX2_countPairs 18 = .ok (.if_icmp .ge 39, 3) := by decide +kernel
theorem dX2_countPairs_21 : decode cX2_countPairs 21 = .ok (.aload_n 0, 1) := by decide +kernel
theorem dX2_countPairs_22 : decode cX2_countPairs 22 = .ok (.iload_n 2, 1) := by decide +kernel
theorem dX2_countPairs_23 : decode cX2_countPairs 23 = .ok (.invokevirtual 46, 3) := by decide +kernel
theorem dX2_countPairs_26 : decode cX2_countPairs 26 = .ok (.aload_n 1, 1) := by decide +kernel
theorem dX2_countPairs_27 : decode cX2_countPairs 27 = .ok (.aload_n 0, 1) := by decide +kernel
theorem dX2_countPairs_28 : decode cX2_countPairs 28 = .ok (.getfield 11, 3) := by decide +kernel
theorem dX2_countPairs_31 : decode cX2_countPairs 31 = .ok (.invokevirtual 50, 3) := by decide +kernel
theorem dX2_countPairs_34 : decode cX2_countPairs 34 = .ok (.ifCond .eq 17, 3) := by decide +kernel
theorem dX2_countPairs_37 : decode cX2_countPairs 37 = .ok (.aload_n 0, 1) := by decide +kernel
theorem dX2_countPairs_38 : decode cX2_countPairs 38 = .ok (.dup, 1) := by decide +kernel
theorem dX2_countPairs_39 : decode cX2_countPairs 39 = .ok (.getfield 66, 3) := by decide +kernel
theorem dX2_countPairs_42 : decode cX2_countPairs 42 = .ok (.iconst 1, 1) := by decide +kernel
theorem dX2_countPairs_43 : decode cX2_countPairs 43 = .ok (.iadd, 1) := by decide +kernel
theorem dX2_countPairs_44 : decode cX2_countPairs 44 = .ok (.putfield 66, 3) := by decide +kernel
theorem dX2_countPairs_47 : decode cX2_countPairs 47 = .ok (.aload_n 0, 1) := by decide +kernel
theorem dX2_countPairs_48 : decode cX2_countPairs 48 = .ok (.invokevirtual 69, 3) := by decide +kernel
theorem dX2_countPairs_51 : decode cX2_countPairs 51 = .ok (.iinc 2 1, 3) := by decide +kernel
theorem dX2_countPairs_54 : decode cX2_countPairs 54 = .ok (.goto (-39), 3) := by decide +kernel
theorem dX2_countPairs_57 : decode cX2_countPairs 57 = .ok (.return_, 1) := by decide +kernel
set_option maxRecDepth 20000 in
theorem ggX2_countPairsOfRow_X5_at : GoodIn wsX2_countPairsOfRow wsX5_at := goodIn_r _ [6] (by decide +kernel) (by decide +kernel)
set_option maxRecDepth 20000 in
theorem gX2_countPairsOfRow_X5_at : GoodIn wsX2_countPairsOfRow (va_wsS RX2 42 yX5_at wsX5_at) := goodIn_app (goodIn_of _ (by decide +kernel)) ggX2_countPairsOfRow_X5_at
set_option maxRecDepth 20000 in
theorem ggX2_countPairsOfRow_X5_put : GoodIn wsX2_countPairsOfRow wsX5_put := goodIn_r _ [9] (by decide +kernel) (by decide +kernel)
set_option maxRecDepth 20000 in
theorem gX2_countPairsOfRow_X5_put : GoodIn wsX2_countPairsOfRow (va_wsS RX2 38 yX5_put wsX5_put) := goodIn_app (goodIn_of _ (by decide +kernel)) ggX2_countPairsOfRow_X5_put
theorem dX2_countPairsOfRow_0 : decode cX2_countPairsOfRow 0 = .ok (.iconst 0, 1) := by decide +kernel
theorem dX2_countPairsOfRow_1 : decode cX2_countPairsOfRow 1 = .ok (.istore_n 1, 1) := by decide +kernel
theorem dX2_countPairsOfRow_2 : decode cX2_countPairsOfRow 2 = .ok (.iload_n 1, 1) := by decide +kernel
theorem dX2_countPairsOfRow_3 : decode cX2_countPairsOfRow 3 = .ok (.iconst 5, 1) := by decide +kernel
theorem dX2_countPairsOfRow_4 : decode cX2_countPairsOfRow 4 = .ok (.if_icmp .ge 67, 3) := by decide +kernel
theorem dX2_countPairsOfRow_7 : decode cX2_countPairsOfRow 7 = .ok (.iload_n 1, 1) := by decide +kernel
theorem dX2_countPairsOfRow_8 : decode cX2_countPairsOfRow 8 = .ok (.iconst 1, 1) := by decide +kernel
theorem dX2_countPairsOfRow_9 : decode cX2_countPairsOfRow 9 = .ok (.iadd, 1) := by decide +kernel
theorem dX2_countPairsOfRow_10 : decode cX2_countPairsOfRow 10 = .ok (.istore_n 2, 1) := by decide +kernel
theorem dX2_countPairsOfRow_11 : decode cX2_countPairsOfRow 11 = .ok (.iload_n 2, 1) := by decide +kernel
theorem dX2_countPairsOfRow_12 : decode cX2_countPairsOfRow 12 = .ok (.iconst 5, 1) := by decide +kernel
theorem dX2_countPairsOfRow_13 : decode cX2_countPairsOfRow 13 = .ok (.if_icmp .ge 52, 3) := by decide +kernel
theorem dX2_countPairsOfRow_16 : decode cX2_countPairsOfRow 16 = .ok (.aload_n 0, 1) := by decide +kernel
theorem dX2_countPairsOfRow_17 : decode cX2_countPairsOfRow 17 = .ok (.getfield 11, 3) := by decide +kernel
theorem dX2_countPairsOfRow_20 : decode cX2_countPairsOfRow 20 = .ok (.iload_n 1, 1) := by decide +kernel
theorem dX2_countPairsOfRow_21 : decode cX2_countPairsOfRow 21 = .ok (.invokestatic 42, 3) := by decide +kernel
theorem dX2_countPairsOfRow_24 : decode cX2_countPairsOfRow 24 = .ok (.aload_n 0, 1) := by decide +kernel
theorem dX2_countPairsOfRow_25 : decode cX2_countPairsOfRow 25 = .ok (.getfield 11, 3) := by decide +kernel
theorem dX2_countPairsOfRow_28 : decode cX2_countPairsOfRow 28 = .ok (.iload_n 2, 1) := by decide +kernel
theorem dX2_countPairsOfRow_29 : decode cX2_countPairsOfRow 29 = .ok (.invokestatic 42, 3) := by decide +kernel
theorem dX2_countPairsOfRow_32 : decode cX2_countPairsOfRow 32 = .ok (.if_icmp .ge 27, 3) := by decide +kernel
theorem dX2_countPairsOfRow_35 : decode cX2_countPairsOfRow 35 = .ok (.iload_n 1, 1) := by decide +kernel
theorem dX2_countPairsOfRow_36 : decode cX2_countPairsOfRow 36 = .ok (.iconst 5, 1) := by decide +kernel
theorem dX2_countPairsOfRow_37 : decode cX2_countPairsOfRow 37 = .ok (.imul, 1) := by decide +kernel
theorem dX2_countPairsOfRow_38 : decode cX2_countPairsOfRow 38 = .ok (.iload_n 2, 1) := by decide +kernel
theorem dX2_countPairsOfRow_39 : decode cX2_countPairsOfRow 39 = .ok (.iadd, 1) := by decide +kernel
theorem dX2_countPairsOfRow_40 : decode cX2_countPairsOfRow 40 = .ok (.istore_n 3, 1) := by decide +kernel
theorem dX2_countPairsOfRow_41 : decode cX2_countPairsOfRow 41 = .ok (.aload_n 0, 1) := by decide +kernel
theorem dX2_countPairsOfRow_42 : decode cX2_countPairsOfRow 42 = .ok (.getfield 15, 3) := by decide +kernel
theorem dX2_countPairsOfRow_45 : decode cX2_countPairsOfRow 45 = .ok (.iload_n 3, 1) := by decide +kernel
theorem dX2_countPairsOfRow_46 : decode cX2_countPairsOfRow 46 = .ok (.aload_n 0, 1) := by decide +kernel
theorem dX2_countPairsOfRow_47 : decode cX2_countPairsOfRow 47 = .ok (.getfield 15, 3) := by decide +kernel
theorem dX2_countPairsOfRow_50 : decode cX2_countPairsOfRow 50 = .ok (.iload_n 3, 1) := by decide +kernel
theorem dX2_countPairsOfRow_51 : decode cX2_countPairsOfRow 51 = .ok (.invokestatic 42, 3) := by decide +kernel
theorem dX2_countPairsOfRow_54 : decode cX2_countPairsOfRow 54 = .ok (.iconst 1, 1) := by decide +kernel
theorem dX2_countPairsOfRow_55 : decode cX2_countPairsOfRow 55 = .ok (.iadd, 1) := by decide +kernel
theorem dX2_countPairsOfRow_56 : decode cX2_countPairsOfRow 56 = .ok (.invokestatic 38, 3) := by decide +kernel
theorem dX2_countPairsOfRow_59 : decode cX2_countPairsOfRow 59 = .ok (.iinc 2 1, 3) := by decide +kernel
theorem dX2_countPairsOfRow_62 : decode cX2_countPairsOfRow 62 = .ok (.goto (-51), 3) := by decide +kernel
theorem dX2_countPairsOfRow_65 : decode cX2_countPairsOfRow 65 = .ok (.iinc 1 1, 3) := by decide +kernel
theorem dX2_countPairsOfRow_68 : decode cX2_countPairsOfRow 68 = .ok (.goto (-66), 3) := by decide +kernel
theorem dX2_countPairsOfRow_71 : decode cX2_countPairsOfRow 71 = .ok (.return_, 1) := by decide +kernel
theorem dX3_init_0 : decode cX3_init 0 = .ok (.aload_n 0, 1) := by decide +kernel
theorem dX3_init_1 : decode cX3_init 1 = .ok (.invokespecial 3, 3) := by decide +kernel
theorem dX3_init_4 : decode cX3_init 4 = .ok (.aload_n 0, 1) := by decide +kernel
theorem dX3_init_5 : decode cX3_init 5 = .ok (.bipush 60, 2) := by decide +kernel
theorem dX3_init_7 : decode cX3_init 7 = .ok (.newarray .int, 2) := by decide +kernel
theorem dX3_init_9 : decode cX3_init 9 = .ok (.putfield 11, 3) := by decide +kernel
theorem dX3_init_12 : decode cX3_init 12 = .ok (.aload_n 0, 1) := by decide +kernel
theorem dX3_init_13 : decode cX3_init 13 = .ok (.iconst 0, 1) := by decide +kernel
theorem dX3_init_14 : decode cX3_init 14 = .ok (.putfield 15, 3) := by decide +kernel
theorem dX3_init_17 : decode cX3_init 17 = .ok (.return_, 1) := by decide +kernel
set_option maxRecDepth 20000 in
theorem ggX3_add_X5_put : GoodIn wsX3_add wsX5_put := goodIn_r _ [6] (by decide +kernel) (by decide +kernel)
set_option maxRecDepth 20000 in
theorem gX3_add_X5_put : GoodIn wsX3_add (va_wsS RX3 19 yX5_put wsX5_put) := goodIn_app (goodIn_of _ (by decide +kernel)) ggX3_add_X5_put
theorem dX3_add_0 : decode cX3_add 0 = .ok (.aload_n 0, 1) := by decide +kernel
theorem dX3_add_1 : decode cX3_add 1 = .ok (.getfield 15, 3) := by decide +kernel
theorem dX3_add_4 : decode cX3_add 4 = .ok (.bipush 60, 2) := by decide +kernel
theorem dX3_add_6 : decode cX3_add 6 = .ok (.if_icmp .ge 25, 3) := by decide +kernel
theorem dX3_add_9 : decode cX3_add 9 = .ok (.aload_n 0, 1) := by decide +kernel
theorem dX3_add_10 : decode cX3_add 10 = .ok (.getfield 11, 3) := by decide +kernel
theorem dX3_add_13 : decode cX3_add 13 = .ok (.aload_n 0, 1) := by decide +kernel
theorem dX3_add_14 : decode cX3_add 14 = .ok (.getfield 15, 3) := by decide +kernel
theorem dX3_add_17 : decode cX3_add 17 = .ok (.iload_n 1, 1) := by decide +kernel
theorem dX3_add_18 : decode cX3_add 18 = .ok (.invokestatic 19, 3) := by decide +kernel
theorem dX3_add_21 : decode cX3_add 21 = .ok (.aload_n 0, 1) := by decide +kernel
theorem dX3_add_22 : decode cX3_add 22 = .ok (.dup, 1) := by decide +kernel
theorem dX3_add_23 : decode cX3_add 23 = .ok (.getfield 15, 3) := by decide +kernel
theorem dX3_add_26 : decode cX3_add 26 = .ok (.iconst 1, 1) := by decide +kernel
theorem dX3_add_27 : decode cX3_add 27 = .ok (.iadd, 1) := by decide +kernel
theorem dX3_add_28 : decode cX3_add 28 = .ok (.putfield 15, 3) := by decide +kernel
theorem dX3_add_31 : decode cX3_add 31 = .ok (.return_, 1) := by decide +kernel
set_option maxRecDepth 20000 in
theorem ggX3_signAt_X5_at : GoodIn wsX3_signAt wsX5_at := goodIn_r _ [5] (by decide +kernel) (by decide +kernel)
set_option maxRecDepth 20000 in
theorem gX3_signAt_X5_at : GoodIn wsX3_signAt (va_wsS RX3 25 yX5_at wsX5_at) := goodIn_app (goodIn_of _ (by decide +kernel)) ggX3_signAt_X5_at
theorem dX3_signAt_0 : decode cX3_signAt 0 = .ok (.aload_n 0, 1) := by decide +kernel
theorem dX3_signAt_1 : decode cX3_signAt 1 = .ok (.getfield 11, 3) := by decide +kernel
theorem dX3_signAt_4 : decode cX3_signAt 4 = .ok (.iload_n 1, 1) := by decide +kernel
theorem dX3_signAt_5 : decode cX3_signAt 5 = .ok (.invokestatic 25, 3) := by decide +kernel
theorem dX3_signAt_8 : decode cX3_signAt 8 = .ok (.ireturn, 1) := by decide +kernel
set_option maxRecDepth 20000 in
theorem ggX3_faultPlace_X3_signAt : GoodIn wsX3_faultPlace wsX3_signAt := goodIn_r _ [6, 7, 8, 9, 10, 11, 18, 19] (by decide +kernel) (by decide +kernel)
set_option maxRecDepth 20000 in
theorem gX3_faultPlace_X3_signAt : GoodIn wsX3_faultPlace (wsV RX3 29 RX3 yX3_signAt wsX3_signAt) := goodIn_app (goodIn_of _ (by decide +kernel)) ggX3_faultPlace_X3_signAt
set_option maxRecDepth 20000 in
theorem ggX3_faultPlace_X3_dueBehind : GoodIn wsX3_faultPlace wsX3_dueBehind := goodIn_r _ [14, 15, 16, 10, 17] (by decide +kernel) (by decide +kernel)
set_option maxRecDepth 20000 in
theorem gX3_faultPlace_X3_dueBehind : GoodIn wsX3_faultPlace (va_wsS RX3 33 yX3_dueBehind wsX3_dueBehind) := goodIn_app (goodIn_of _ (by decide +kernel)) ggX3_faultPlace_X3_dueBehind
theorem dX3_faultPlace_0 : decode cX3_faultPlace 0 = .ok (.iconst 0, 1) := by decide +kernel
theorem dX3_faultPlace_1 : decode cX3_faultPlace 1 = .ok (.istore_n 1, 1) := by decide +kernel
theorem dX3_faultPlace_2 : decode cX3_faultPlace 2 = .ok (.iconst 0, 1) := by decide +kernel
theorem dX3_faultPlace_3 : decode cX3_faultPlace 3 = .ok (.istore_n 2, 1) := by decide +kernel
theorem dX3_faultPlace_4 : decode cX3_faultPlace 4 = .ok (.iload_n 2, 1) := by decide +kernel
theorem dX3_faultPlace_5 : decode cX3_faultPlace 5 = .ok (.aload_n 0, 1) := by decide +kernel
theorem dX3_faultPlace_6 : decode cX3_faultPlace 6 = .ok (.getfield 15, 3) := by decide +kernel
theorem dX3_faultPlace_9 : decode cX3_faultPlace 9 = .ok (.if_icmp .ge 26, 3) := by decide +kernel
theorem dX3_faultPlace_12 : decode cX3_faultPlace 12 = .ok (.iload_n 1, 1) := by decide +kernel
theorem dX3_faultPlace_13 : decode cX3_faultPlace 13 = .ok (.aload_n 0, 1) := by decide +kernel
theorem dX3_faultPlace_14 : decode cX3_faultPlace 14 = .ok (.iload_n 2, 1) := by decide +kernel
theorem dX3_faultPlace_15 : decode cX3_faultPlace 15 = .ok (.invokevirtual 29, 3) := by decide +kernel
theorem dX3_faultPlace_18 : decode cX3_faultPlace 18 = .ok (.invokestatic 33, 3) := by decide +kernel
theorem dX3_faultPlace_21 : decode cX3_faultPlace 21 = .ok (.istore_n 1, 1) := by decide +kernel
theorem dX3_faultPlace_22 : decode cX3_faultPlace 22 = .ok (.iload_n 1, 1) := by decide +kernel
theorem dX3_faultPlace_23 : decode cX3_faultPlace 23 = .ok (.iconst 4, 1) := by decide +kernel
theorem dX3_faultPlace_24 : decode cX3_faultPlace 24 = .ok (.if_icmp .ne 5, 3) := by decide +kernel
theorem dX3_faultPlace_27 : decode cX3_faultPlace 27 = .ok (.iload_n 2, 1) := by decide +kernel
theorem dX3_faultPlace_28 : decode cX3_faultPlace 28 = .ok (.ireturn, 1) := by decide +kernel
theorem dX3_faultPlace_29 : decode cX3_faultPlace 29 = .ok (.iinc 2 1, 3) := by decide +kernel
theorem dX3_faultPlace_32 : decode cX3_faultPlace 32 = .ok (.goto (-28), 3) := by decide +kernel
theorem dX3_faultPlace_35 : decode cX3_faultPlace 35 = .ok (.iload_n 1, 1) := by decide +kernel
theorem dX3_faultPlace_36 : decode cX3_faultPlace 36 = .ok (.ifCond .ne 8, 3) := by decide +kernel
theorem dX3_faultPlace_39 : decode cX3_faultPlace 39 = .ok (.bipush (-6), 2) := by decide +kernel
theorem dX3_faultPlace_41 : decode cX3_faultPlace 41 = .ok (.goto 7, 3) := by decide +kernel
theorem dX3_faultPlace_44 : decode cX3_faultPlace 44 = .ok (.aload_n 0, 1) := by decide +kernel
theorem dX3_faultPlace_45 : decode cX3_faultPlace 45 = .ok (.getfield 15, 3) := by decide +kernel
theorem dX3_faultPlace_48 : decode cX3_faultPlace 48 = .ok (.ireturn, 1) := by decide +kernel
set_option maxRecDepth 20000 in
theorem ggX3_dueBehind_X5_within : GoodIn wsX3_dueBehind wsX5_within := goodIn_r _ [4] (by decide +kernel) (by decide +kernel)
set_option maxRecDepth 20000 in
theorem gX3_dueBehind_X5_within : GoodIn wsX3_dueBehind (va_wsS RX3 37 yX5_within wsX5_within) := goodIn_app (goodIn_of _ (by decide +kernel)) ggX3_dueBehind_X5_within
theorem dX3_dueBehind_0 : decode cX3_dueBehind 0 = .ok (.iload_n 1, 1) := by decide +kernel
theorem dX3_dueBehind_1 : decode cX3_dueBehind 1 = .ok (.bipush 65, 2) := by decide +kernel
theorem dX3_dueBehind_3 : decode cX3_dueBehind 3 = .ok (.bipush 72, 2) := by decide +kernel
theorem dX3_dueBehind_5 : decode cX3_dueBehind 5 = .ok (.invokestatic 37, 3) := by decide +kernel
theorem dX3_dueBehind_8 : decode cX3_dueBehind 8 = .ok (.istore_n 2, 1) := by decide +kernel
theorem dX3_dueBehind_9 : decode cX3_dueBehind 9 = .ok (.iload_n 1, 1) := by decide +kernel
theorem dX3_dueBehind_10 : decode cX3_dueBehind 10 = .ok (.bipush 97, 2) := by decide +kernel
theorem dX3_dueBehind_12 : decode cX3_dueBehind 12 = .ok (.bipush 108, 2) := by decide +kernel
theorem dX3_dueBehind_14 : decode cX3_dueBehind 14 = .ok (.invokestatic 37, 3) := by decide +kernel
theorem dX3_dueBehind_17 : decode cX3_dueBehind 17 = .ok (.istore_n 3, 1) := by decide +kernel
theorem dX3_dueBehind_18 : decode cX3_dueBehind 18 = .ok (.iload_n 0, 1) := by decide +kernel
theorem dX3_dueBehind_19 : decode cX3_dueBehind 19 = .ok (.tableswitch 97 0 3 #[29, 47, 77, 87], 29) := by decide +kernel
theorem dX3_dueBehind_48 : decode cX3_dueBehind 48 = .ok (.iload_n 1, 1) := by decide +kernel
theorem dX3_dueBehind_49 : decode cX3_dueBehind 49 = .ok (.bipush 46, 2) := by decide +kernel
theorem dX3_dueBehind_51 : decode cX3_dueBehind 51 = .ok (.if_icmp .ne 5, 3) := by decide +kernel
theorem dX3_dueBehind_54 : decode cX3_dueBehind 54 = .ok (.iconst 0, 1) := by decide +kernel
theorem dX3_dueBehind_55 : decode cX3_dueBehind 55 = .ok (.ireturn, 1) := by decide +kernel
theorem dX3_dueBehind_56 : decode cX3_dueBehind 56 = .ok (.iload_n 2, 1) := by decide +kernel
theorem dX3_dueBehind_57 : decode cX3_dueBehind 57 = .ok (.ifCond .eq 7, 3) := by decide +kernel
theorem dX3_dueBehind_60 : decode cX3_dueBehind 60 = .ok (.iconst 1, 1) := by decide +kernel
theorem dX3_dueBehind_61 : decode cX3_dueBehind 61 = .ok (.goto 4, 3) := by decide +kernel
theorem dX3_dueBehind_64 : decode cX3_dueBehind 64 = .ok (.iconst 4, 1) := by decide +kernel
theorem dX3_dueBehind_65 : decode cX3_dueBehind 65 = .ok (.ireturn, 1) := by decide +kernel
theorem dX3_dueBehind_66 : decode cX3_dueBehind 66 = .ok (.iload_n 1, 1) := by decide +kernel
theorem dX3_dueBehind_67 : decode cX3_dueBehind 67 = .ok (.bipush 36, 2) := by decide +kernel
theorem dX3_dueBehind_69 : decode cX3_dueBehind 69 = .ok (.if_icmp .eq 9, 3) := by decide +kernel
theorem dX3_dueBehind_72 : decode cX3_dueBehind 72 = .ok (.iload_n 1, 1) := by decide +kernel
theorem dX3_dueBehind_73 : decode cX3_dueBehind 73 = .ok (.bipush 42, 2) := by decide +kernel
theorem dX3_dueBehind_75 : decode cX3_dueBehind 75 = .ok (.if_icmp .ne 5, 3) := by decide +kernel
theorem dX3_dueBehind_78 : decode cX3_dueBehind 78 = .ok (.iconst 2, 1) := by decide +kernel
theorem dX3_dueBehind_79 : decode cX3_dueBehind 79 = .ok (.ireturn, 1) := by decide +kernel
theorem dX3_dueBehind_80 : decode cX3_dueBehind 80 = .ok (.iload_n 3, 1) := by decide +kernel
theorem dX3_dueBehind_81 : decode cX3_dueBehind 81 = .ok (.ifCond .ne 9, 3) := by decide +kernel
theorem dX3_dueBehind_84 : decode cX3_dueBehind 84 = .ok (.iload_n 1, 1) := by decide +kernel
theorem dX3_dueBehind_85 : decode cX3_dueBehind 85 = .ok (.bipush 35, 2) := by decide +kernel
theorem dX3_dueBehind_87 : decode cX3_dueBehind 87 = .ok (.if_icmp .ne 7, 3) := by decide +kernel
theorem dX3_dueBehind_90 : decode cX3_dueBehind 90 = .ok (.iconst 0, 1) := by decide +kernel
theorem dX3_dueBehind_91 : decode cX3_dueBehind 91 = .ok (.goto 4, 3) := by decide +kernel
theorem dX3_dueBehind_94 : decode cX3_dueBehind 94 = .ok (.iconst 4, 1) := by decide +kernel
theorem dX3_dueBehind_95 : decode cX3_dueBehind 95 = .ok (.ireturn, 1) := by decide +kernel
theorem dX3_dueBehind_96 : decode cX3_dueBehind 96 = .ok (.iload_n 3, 1) := by decide +kernel
theorem dX3_dueBehind_97 : decode cX3_dueBehind 97 = .ok (.ifCond .eq 7, 3) := by decide +kernel
theorem dX3_dueBehind_100 : decode cX3_dueBehind 100 = .ok (.iconst 3, 1) := by decide +kernel
theorem dX3_dueBehind_101 : decode cX3_dueBehind 101 = .ok (.goto 4, 3) := by decide +kernel
theorem dX3_dueBehind_104 : decode cX3_dueBehind 104 = .ok (.iconst 4, 1) := by decide +kernel
theorem dX3_dueBehind_105 : decode cX3_dueBehind 105 = .ok (.ireturn, 1) := by decide +kernel
theorem dX3_dueBehind_106 : decode cX3_dueBehind 106 = .ok (.iload_n 2, 1) := by decide +kernel
theorem dX3_dueBehind_107 : decode cX3_dueBehind 107 = .ok (.ifCond .eq 7, 3) := by decide +kernel
theorem dX3_dueBehind_110 : decode cX3_dueBehind 110 = .ok (.iconst 0, 1) := by decide +kernel
theorem dX3_dueBehind_111 : decode cX3_dueBehind 111 = .ok (.goto 4, 3) := by decide +kernel
theorem dX3_dueBehind_114 : decode cX3_dueBehind 114 = .ok (.iconst 4, 1) := by decide +kernel
theorem dX3_dueBehind_115 : decode cX3_dueBehind 115 = .ok (.ireturn, 1) := by decide +kernel
theorem dX3_dueBehind_116 : decode cX3_dueBehind 116 = .ok (.iconst 4, 1) := by decide +kernel
theorem dX3_dueBehind_117 : decode cX3_dueBehind 117 = .ok (.ireturn, 1) := by decide +kernel
set_option maxRecDepth 20000 in
theorem ggX3_kindAt_X3_signAt : GoodIn wsX3_kindAt wsX3_signAt := goodIn_r _ [5, 6, 7, 8, 9, 10, 11, 12] (by decide +kernel) (by decide +kernel)
set_option maxRecDepth 20000 in
theorem gX3_kindAt_X3_signAt : GoodIn wsX3_kindAt (wsV RX3 29 RX3 yX3_signAt wsX3_signAt) := goodIn_app (goodIn_of _ (by decide +kernel)) ggX3_kindAt_X3_signAt
theorem dX3_kindAt_0 : decode cX3_kindAt 0 = .ok (.aload_n 0, 1) := by decide +kernel
theorem dX3_kindAt_1 : decode cX3_kindAt 1 = .ok (.iload_n 1, 1) := by decide +kernel
theorem dX3_kindAt_2 : decode cX3_kindAt 2 = .ok (.invokevirtual 29, 3) := by decide +kernel
theorem dX3_kindAt_5 : decode cX3_kindAt 5 = .ok (.bipush 46, 2) := by decide +kernel
theorem dX3_kindAt_7 : decode cX3_kindAt 7 = .ok (.if_icmp .ne 5, 3) := by decide +kernel
theorem dX3_kindAt_10 : decode cX3_kindAt 10 = .ok (.iconst 4, 1) := by decide +kernel
theorem dX3_kindAt_11 : decode cX3_kindAt 11 = .ok (.ireturn, 1) := by decide +kernel
theorem dX3_kindAt_12 : decode cX3_kindAt 12 = .ok (.aload_n 0, 1) := by decide +kernel
theorem dX3_kindAt_13 : decode cX3_kindAt 13 = .ok (.iload_n 1, 1) := by decide +kernel
theorem dX3_kindAt_14 : decode cX3_kindAt 14 = .ok (.iconst 1, 1) := by decide +kernel
theorem dX3_kindAt_15 : decode cX3_kindAt 15 = .ok (.iadd, 1) := by decide +kernel
theorem dX3_kindAt_16 : decode cX3_kindAt 16 = .ok (.invokevirtual 29, 3) := by decide +kernel
theorem dX3_kindAt_19 : decode cX3_kindAt 19 = .ok (.lookupswitch 39 #[(35, 33), (36, 35), (42, 37)], 33) := by decide +kernel
theorem dX3_kindAt_52 : decode cX3_kindAt 52 = .ok (.iconst 3, 1) := by decide +kernel
theorem dX3_kindAt_53 : decode cX3_kindAt 53 = .ok (.ireturn, 1) := by decide +kernel
theorem dX3_kindAt_54 : decode cX3_kindAt 54 = .ok (.iconst 1, 1) := by decide +kernel
theorem dX3_kindAt_55 : decode cX3_kindAt 55 = .ok (.ireturn, 1) := by decide +kernel
theorem dX3_kindAt_56 : decode cX3_kindAt 56 = .ok (.iconst 2, 1) := by decide +kernel
theorem dX3_kindAt_57 : decode cX3_kindAt 57 = .ok (.ireturn, 1) := by decide +kernel
theorem dX3_kindAt_58 : decode cX3_kindAt 58 = .ok (.iconst 0, 1) := by decide +kernel
theorem dX3_kindAt_59 : decode cX3_kindAt 59 = .ok (.ireturn, 1) := by decide +kernel
theorem dX3_lengthOf_0 : decode cX3_lengthOf 0 = .ok (.iload_n 0, 1) := by decide +kernel
theorem dX3_lengthOf_1 : decode cX3_lengthOf 1 = .ok (.iconst 4, 1) := by decide +kernel
theorem dX3_lengthOf_2 : decode cX3_lengthOf 2 = .ok (.if_icmp .ne 5, 3) := by decide +kernel
theorem dX3_lengthOf_5 : decode cX3_lengthOf 5 = .ok (.iconst 1, 1) := by decide +kernel
theorem dX3_lengthOf_6 : decode cX3_lengthOf 6 = .ok (.ireturn, 1) := by decide +kernel
theorem dX3_lengthOf_7 : decode cX3_lengthOf 7 = .ok (.iload_n 0, 1) := by decide +kernel
theorem dX3_lengthOf_8 : decode cX3_lengthOf 8 = .ok (.iconst 1, 1) := by decide +kernel
theorem dX3_lengthOf_9 : decode cX3_lengthOf 9 = .ok (.if_icmp .eq 8, 3) := by decide +kernel
theorem dX3_lengthOf_12 : decode cX3_lengthOf 12 = .ok (.iload_n 0, 1) := by decide +kernel
theorem dX3_lengthOf_13 : decode cX3_lengthOf 13 = .ok (.iconst 2, 1) := by decide +kernel
theorem dX3_lengthOf_14 : decode cX3_lengthOf 14 = .ok (.if_icmp .ne 7, 3) := by decide +kernel
theorem dX3_lengthOf_17 : decode cX3_lengthOf 17 = .ok (.iconst 4, 1) := by decide +kernel
theorem dX3_lengthOf_18 : decode cX3_lengthOf 18 = .ok (.goto 4, 3) := by decide +kernel
theorem dX3_lengthOf_21 : decode cX3_lengthOf 21 = .ok (.iconst 2, 1) := by decide +kernel
theorem dX3_lengthOf_22 : decode cX3_lengthOf 22 = .ok (.ireturn, 1) := by decide +kernel
theorem dX4_init_0 : decode cX4_init 0 = .ok (.aload_n 0, 1) := by decide +kernel
theorem dX4_init_1 : decode cX4_init 1 = .ok (.invokespecial 3, 3) := by decide +kernel
theorem dX4_init_4 : decode cX4_init 4 = .ok (.aload_n 0, 1) := by decide +kernel
theorem dX4_init_5 : decode cX4_init 5 = .ok (.bipush 8, 2) := by decide +kernel
theorem dX4_init_7 : decode cX4_init 7 = .ok (.newarray .int, 2) := by decide +kernel
theorem dX4_init_9 : decode cX4_init 9 = .ok (.putfield 9, 3) := by decide +kernel
theorem dX4_init_12 : decode cX4_init 12 = .ok (.aload_n 0, 1) := by decide +kernel
theorem dX4_init_13 : decode cX4_init 13 = .ok (.bipush 8, 2) := by decide +kernel
theorem dX4_init_15 : decode cX4_init 15 = .ok (.newarray .int, 2) := by decide +kernel
theorem dX4_init_17 : decode cX4_init 17 = .ok (.putfield 15, 3) := by decide +kernel
theorem dX4_init_20 : decode cX4_init 20 = .ok (.aload_n 0, 1) := by decide +kernel
theorem dX4_init_21 : decode cX4_init 21 = .ok (.bipush 8, 2) := by decide +kernel
theorem dX4_init_23 : decode cX4_init 23 = .ok (.newarray .int, 2) := by decide +kernel
theorem dX4_init_25 : decode cX4_init 25 = .ok (.putfield 18, 3) := by decide +kernel
theorem dX4_init_28 : decode cX4_init 28 = .ok (.return_, 1) := by decide +kernel
set_option maxRecDepth 20000 in
theorem ggX4_read_X5_readDigits : GoodIn wsX4_read wsX5_readDigits := goodIn_r _ [5, 6, 7, 4, 8] (by decide +kernel) (by decide +kernel)
set_option maxRecDepth 20000 in
theorem gX4_read_X5_readDigits : GoodIn wsX4_read (va_wsS RX4 21 yX5_readDigits wsX5_readDigits) := goodIn_app (goodIn_of _ (by decide +kernel)) ggX4_read_X5_readDigits
set_option maxRecDepth 20000 in
theorem ggX4_read_X5_at : GoodIn wsX4_read wsX5_at := goodIn_r _ [11] (by decide +kernel) (by decide +kernel)
set_option maxRecDepth 20000 in
theorem gX4_read_X5_at : GoodIn wsX4_read (va_wsS RX4 27 yX5_at wsX5_at) := goodIn_app (goodIn_of _ (by decide +kernel)) ggX4_read_X5_at
set_option maxRecDepth 20000 in
theorem ggX4_read_X5_within : GoodIn wsX4_read wsX5_within := goodIn_r _ [14] (by decide +kernel) (by decide +kernel)
set_option maxRecDepth 20000 in
theorem gX4_read_X5_within : GoodIn wsX4_read (va_wsS RX4 31 yX5_within wsX5_within) := goodIn_app (goodIn_of _ (by decide +kernel)) ggX4_read_X5_within
theorem dX4_read_0 : decode cX4_read 0 = .ok (.iload_n 1, 1) := by decide +kernel
theorem dX4_read_1 : decode cX4_read 1 = .ok (.bipush 8, 2) := by decide +kernel
theorem dX4_read_3 : decode cX4_read 3 = .ok (.aload_n 0, 1) := by decide +kernel
theorem dX4_read_4 : decode cX4_read 4 = .ok (.getfield 9, 3) := by decide +kernel
theorem dX4_read_7 : decode cX4_read 7 = .ok (.invokestatic 21, 3) := by decide +kernel
theorem dX4_read_10 : decode cX4_read 10 = .ok (.istore_n 2, 1) := by decide +kernel
theorem dX4_read_11 : decode cX4_read 11 = .ok (.iconst 0, 1) := by decide +kernel
theorem dX4_read_12 : decode cX4_read 12 = .ok (.istore_n 3, 1) := by decide +kernel
theorem dX4_read_13 : decode cX4_read 13 = .ok (.iload_n 3, 1) := by decide +kernel
theorem dX4_read_14 : decode cX4_read 14 = .ok (.bipush 8, 2) := by decide +kernel
theorem dX4_read_16 : decode cX4_read 16 = .ok (.if_icmp .ge 36, 3) := by decide +kernel
theorem dX4_read_19 : decode cX4_read 19 = .ok (.iload_n 2, 1) := by decide +kernel
theorem dX4_read_20 : decode cX4_read 20 = .ok (.ifCond .eq 24, 3) := by decide +kernel
theorem dX4_read_23 : decode cX4_read 23 = .ok (.aload_n 0, 1) := by decide +kernel
theorem dX4_read_24 : decode cX4_read 24 = .ok (.getfield 9, 3) := by decide +kernel
theorem dX4_read_27 : decode cX4_read 27 = .ok (.iload_n 3, 1) := by decide +kernel
theorem dX4_read_28 : decode cX4_read 28 = .ok (.invokestatic 27, 3) := by decide +kernel
theorem dX4_read_31 : decode cX4_read 31 = .ok (.iconst 0, 1) := by decide +kernel
theorem dX4_read_32 : decode cX4_read 32 = .ok (.bipush 7, 2) := by decide +kernel
theorem dX4_read_34 : decode cX4_read 34 = .ok (.invokestatic 31, 3) := by decide +kernel
theorem dX4_read_37 : decode cX4_read 37 = .ok (.ifCond .eq 7, 3) := by decide +kernel
theorem dX4_read_40 : decode cX4_read 40 = .ok (.iconst 1, 1) := by decide +kernel
theorem dX4_read_41 : decode cX4_read 41 = .ok (.goto 4, 3) := by decide +kernel
theorem dX4_read_44 : decode cX4_read 44 = .ok (.iconst 0, 1) := by decide +kernel
theorem dX4_read_45 : decode cX4_read 45 = .ok (.istore_n 2, 1) := by decide +kernel
theorem dX4_read_46 : decode cX4_read 46 = .ok (.iinc 3 1, 3) := by decide +kernel
theorem dX4_read_49 : decode cX4_read 49 = .ok (.goto (-36), 3) := by decide +kernel
theorem dX4_read_52 : decode cX4_read 52 = .ok (.iload_n 2, 1) := by decide +kernel
theorem dX4_read_53 : decode cX4_read 53 = .ok (.ireturn, 1) := by decide +kernel
set_option maxRecDepth 20000 in
theorem ggX4_follow_X5_fill : GoodIn wsX4_follow wsX5_fill := goodIn_r _ [10] (by decide +kernel) (by decide +kernel)
set_option maxRecDepth 20000 in
theorem gX4_follow_X5_fill : GoodIn wsX4_follow (va_wsS RX4 35 yX5_fill wsX5_fill) := goodIn_app (goodIn_of _ (by decide +kernel)) ggX4_follow_X5_fill
set_option maxRecDepth 20000 in
theorem ggX4_follow_X5_at : GoodIn wsX4_follow wsX5_at := goodIn_r _ [13] (by decide +kernel) (by decide +kernel)
set_option maxRecDepth 20000 in
theorem gX4_follow_X5_at : GoodIn wsX4_follow (va_wsS RX4 27 yX5_at wsX5_at) := goodIn_app (goodIn_of _ (by decide +kernel)) ggX4_follow_X5_at
set_option maxRecDepth 20000 in
theorem ggX4_follow_X5_put : GoodIn wsX4_follow wsX5_put := goodIn_r _ [16] (by decide +kernel) (by decide +kernel)
set_option maxRecDepth 20000 in
theorem gX4_follow_X5_put : GoodIn wsX4_follow (va_wsS RX4 43 yX5_put wsX5_put) := goodIn_app (goodIn_of _ (by decide +kernel)) ggX4_follow_X5_put
theorem dX4_follow_0 : decode cX4_follow 0 = .ok (.aload_n 0, 1) := by decide +kernel
theorem dX4_follow_1 : decode cX4_follow 1 = .ok (.getfield 18, 3) := by decide +kernel
theorem dX4_follow_4 : decode cX4_follow 4 = .ok (.bipush (-6), 2) := by decide +kernel
theorem dX4_follow_6 : decode cX4_follow 6 = .ok (.invokestatic 35, 3) := by decide +kernel
theorem dX4_follow_9 : decode cX4_follow 9 = .ok (.aload_n 0, 1) := by decide +kernel
theorem dX4_follow_10 : decode cX4_follow 10 = .ok (.iconst 0, 1) := by decide +kernel
theorem dX4_follow_11 : decode cX4_follow 11 = .ok (.putfield 39, 3) := by decide +kernel
theorem dX4_follow_14 : decode cX4_follow 14 = .ok (.iload_n 1, 1) := by decide +kernel
theorem dX4_follow_15 : decode cX4_follow 15 = .ok (.istore_n 2, 1) := by decide +kernel
theorem dX4_follow_16 : decode cX4_follow 16 = .ok (.aload_n 0, 1) := by decide +kernel
theorem dX4_follow_17 : decode cX4_follow 17 = .ok (.getfield 39, 3) := by decide +kernel
theorem dX4_follow_20 : decode cX4_follow 20 = .ok (.bipush 8, 2) := by decide +kernel
theorem dX4_follow_22 : decode cX4_follow 22 = .ok (.if_icmp .ge 62, 3) := by decide +kernel
theorem dX4_follow_25 : decode cX4_follow 25 = .ok (.aload_n 0, 1) := by decide +kernel
theorem dX4_follow_26 : decode cX4_follow 26 = .ok (.getfield 18, 3) := by decide +kernel
theorem dX4_follow_29 : decode cX4_follow 29 = .ok (.iload_n 2, 1) := by decide +kernel
theorem dX4_follow_30 : decode cX4_follow 30 = .ok (.invokestatic 27, 3) := by decide +kernel
theorem dX4_follow_33 : decode cX4_follow 33 = .ok (.bipush (-6), 2) := by decide +kernel
theorem dX4_follow_35 : decode cX4_follow 35 = .ok (.if_icmp .ne 49, 3) := by decide +kernel
theorem dX4_follow_38 : decode cX4_follow 38 = .ok (.aload_n 0, 1) := by decide +kernel
theorem dX4_follow_39 : decode cX4_follow 39 = .ok (.getfield 18, 3) := by decide +kernel
theorem dX4_follow_42 : decode cX4_follow 42 = .ok (.iload_n 2, 1) := by decide +kernel
theorem dX4_follow_43 : decode cX4_follow 43 = .ok (.aload_n 0, 1) := by decide +kernel
theorem dX4_follow_44 : decode cX4_follow 44 = .ok (.getfield 39, 3) := by decide +kernel
theorem dX4_follow_47 : decode cX4_follow 47 = .ok (.invokestatic 43, 3) := by decide +kernel
theorem dX4_follow_50 : decode cX4_follow 50 = .ok (.aload_n 0, 1) := by decide +kernel
theorem dX4_follow_51 : decode cX4_follow 51 = .ok (.getfield 15, 3) := by decide +kernel
theorem dX4_follow_54 : decode cX4_follow 54 = .ok (.aload_n 0, 1) := by decide +kernel
theorem dX4_follow_55 : decode cX4_follow 55 = .ok (.getfield 39, 3) := by decide +kernel
theorem dX4_follow_58 : decode cX4_follow 58 = .ok (.iload_n 2, 1) := by decide +kernel
theorem dX4_follow_59 : decode cX4_follow 59 = .ok (.invokestatic 43, 3) := by decide +kernel
theorem dX4_follow_62 : decode cX4_follow 62 = .ok (.aload_n 0, 1) := by decide +kernel
theorem dX4_follow_63 : decode cX4_follow 63 = .ok (.getfield 9, 3) := by decide +kernel
theorem dX4_follow_66 : decode cX4_follow 66 = .ok (.iload_n 2, 1) := by decide +kernel
theorem dX4_follow_67 : decode cX4_follow 67 = .ok (.invokestatic 27, 3) := by decide +kernel
theorem dX4_follow_70 : decode cX4_follow 70 = .ok (.istore_n 2, 1) := by decide +kernel
theorem dX4_follow_71 : decode cX4_follow 71 = .ok (.aload_n 0, 1) := by decide +kernel
theorem dX4_follow_72 : decode cX4_follow 72 = .ok (.dup, 1) := by decide +kernel
theorem dX4_follow_73 : decode cX4_follow 73 = .ok (.getfield 39, 3) := by decide +kernel
theorem dX4_follow_76 : decode cX4_follow 76 = .ok (.iconst 1, 1) := by decide +kernel
theorem dX4_follow_77 : decode cX4_follow 77 = .ok (.iadd, 1) := by decide +kernel
theorem dX4_follow_78 : decode cX4_follow 78 = .ok (.putfield 39, 3) := by decide +kernel
theorem dX4_follow_81 : decode cX4_follow 81 = .ok (.goto (-65), 3) := by decide +kernel
theorem dX4_follow_84 : decode cX4_follow 84 = .ok (.aload_n 0, 1) := by decide +kernel
theorem dX4_follow_85 : decode cX4_follow 85 = .ok (.aload_n 0, 1) := by decide +kernel
theorem dX4_follow_86 : decode cX4_follow 86 = .ok (.getfield 18, 3) := by decide +kernel
theorem dX4_follow_89 : decode cX4_follow 89 = .ok (.iload_n 2, 1) := by decide +kernel
theorem dX4_follow_90 : decode cX4_follow 90 = .ok (.invokestatic 27, 3) := by decide +kernel
theorem dX4_follow_93 : decode cX4_follow 93 = .ok (.putfield 47, 3) := by decide +kernel
theorem dX4_follow_96 : decode cX4_follow 96 = .ok (.aload_n 0, 1) := by decide +kernel
theorem dX4_follow_97 : decode cX4_follow 97 = .ok (.aload_n 0, 1) := by decide +kernel
theorem dX4_follow_98 : decode cX4_follow 98 = .ok (.getfield 39, 3) := by decide +kernel
theorem dX4_follow_101 : decode cX4_follow 101 = .ok (.aload_n 0, 1) := by decide +kernel
theorem dX4_follow_102 : decode cX4_follow 102 = .ok (.getfield 47, 3) := by decide +kernel
theorem dX4_follow_105 : decode cX4_follow 105 = .ok (.isub, 1) := by decide +kernel
theorem dX4_follow_106 : decode cX4_follow 106 = .ok (.putfield 50, 3) := by decide +kernel
theorem dX4_follow_109 : decode cX4_follow 109 = .ok (.return_, 1) := by decide +kernel
set_option maxRecDepth 20000 in
theorem ggX4_holderBehind_X5_at : GoodIn wsX4_holderBehind wsX5_at := goodIn_r _ [8] (by decide +kernel) (by decide +kernel)
set_option maxRecDepth 20000 in
theorem gX4_holderBehind_X5_at : GoodIn wsX4_holderBehind (va_wsS RX4 27 yX5_at wsX5_at) := goodIn_app (goodIn_of _ (by decide +kernel)) ggX4_holderBehind_X5_at
theorem dX4_holderBehind_0 : decode cX4_holderBehind 0 = .ok (.iload_n 1, 1) := by decide +kernel
theorem dX4_holderBehind_1 : decode cX4_holderBehind 1 = .ok (.aload_n 0, 1) := by decide +kernel
theorem dX4_holderBehind_2 : decode cX4_holderBehind 2 = .ok (.getfield 39, 3) := by decide +kernel
theorem dX4_holderBehind_5 : decode cX4_holderBehind 5 = .ok (.if_icmp .lt 10, 3) := by decide +kernel
theorem dX4_holderBehind_8 : decode cX4_holderBehind 8 = .ok (.aload_n 0, 1) := by decide +kernel
theorem dX4_holderBehind_9 : decode cX4_holderBehind 9 = .ok (.getfield 50, 3) := by decide +kernel
theorem dX4_holderBehind_12 : decode cX4_holderBehind 12 = .ok (.ifCond .gt 12, 3) := by decide +kernel
theorem dX4_holderBehind_15 : decode cX4_holderBehind 15 = .ok (.aload_n 0, 1) := by decide +kernel
theorem dX4_holderBehind_16 : decode cX4_holderBehind 16 = .ok (.getfield 15, 3) := by decide +kernel
theorem dX4_holderBehind_19 : decode cX4_holderBehind 19 = .ok (.iload_n 1, 1) := by decide +kernel
theorem dX4_holderBehind_20 : decode cX4_holderBehind 20 = .ok (.invokestatic 27, 3) := by decide +kernel
theorem dX4_holderBehind_23 : decode cX4_holderBehind 23 = .ok (.ireturn, 1) := by decide +kernel
theorem dX4_holderBehind_24 : decode cX4_holderBehind 24 = .ok (.aload_n 0, 1) := by decide +kernel
theorem dX4_holderBehind_25 : decode cX4_holderBehind 25 = .ok (.getfield 15, 3) := by decide +kernel
theorem dX4_holderBehind_28 : decode cX4_holderBehind 28 = .ok (.aload_n 0, 1) := by decide +kernel
theorem dX4_holderBehind_29 : decode cX4_holderBehind 29 = .ok (.getfield 47, 3) := by decide +kernel
theorem dX4_holderBehind_32 : decode cX4_holderBehind 32 = .ok (.iload_n 1, 1) := by decide +kernel
theorem dX4_holderBehind_33 : decode cX4_holderBehind 33 = .ok (.aload_n 0, 1) := by decide +kernel
theorem dX4_holderBehind_34 : decode cX4_holderBehind 34 = .ok (.getfield 47, 3) := by decide +kernel
theorem dX4_holderBehind_37 : decode cX4_holderBehind 37 = .ok (.isub, 1) := by decide +kernel
theorem dX4_holderBehind_38 : decode cX4_holderBehind 38 = .ok (.aload_n 0, 1) := by decide +kernel
theorem dX4_holderBehind_39 : decode cX4_holderBehind 39 = .ok (.getfield 50, 3) := by decide +kernel
theorem dX4_holderBehind_42 : decode cX4_holderBehind 42 = .ok (.irem, 1) := by decide +kernel
theorem dX4_holderBehind_43 : decode cX4_holderBehind 43 = .ok (.iadd, 1) := by decide +kernel
theorem dX4_holderBehind_44 : decode cX4_holderBehind 44 = .ok (.invokestatic 27, 3) := by decide +kernel
theorem dX4_holderBehind_47 : decode cX4_holderBehind 47 = .ok (.ireturn, 1) := by decide +kernel
theorem dX5_within_0 : decode cX5_within 0 = .ok (.iload_n 0, 1) := by decide +kernel
theorem dX5_within_1 : decode cX5_within 1 = .ok (.iload_n 1, 1) := by decide +kernel
theorem dX5_within_2 : decode cX5_within 2 = .ok (.if_icmp .lt 12, 3) := by decide +kernel
theorem dX5_within_5 : decode cX5_within 5 = .ok (.iload_n 0, 1) := by decide +kernel
theorem dX5_within_6 : decode cX5_within 6 = .ok (.iload_n 2, 1) := by decide +kernel
theorem dX5_within_7 : decode cX5_within 7 = .ok (.if_icmp .gt 7, 3) := by decide +kernel
theorem dX5_within_10 : decode cX5_within 10 = .ok (.iconst 1, 1) := by decide +kernel
theorem dX5_within_11 : decode cX5_within 11 = .ok (.goto 4, 3) := by decide +kernel
theorem dX5_within_14 : decode cX5_within 14 = .ok (.iconst 0, 1) := by decide +kernel
theorem dX5_within_15 : decode cX5_within 15 = .ok (.ireturn, 1) := by decide +kernel
theorem dX5_at_0 : decode cX5_at 0 = .ok (.iload_n 1, 1) := by decide +kernel
theorem dX5_at_1 : decode cX5_at 1 = .ok (.ifCond .lt 15, 3) := by decide +kernel
theorem dX5_at_4 : decode cX5_at 4 = .ok (.iload_n 1, 1) := by decide +kernel
theorem dX5_at_5 : decode cX5_at 5 = .ok (.aload_n 0, 1) := by decide +kernel
theorem dX5_at_6 : decode cX5_at 6 = .ok (.arraylength, 1) := by decide +kernel
theorem dX5_at_7 : decode cX5_at 7 = .ok (.if_icmp .ge 9, 3) := by decide +kernel
theorem dX5_at_10 : decode cX5_at 10 = .ok (.aload_n 0, 1) := by decide +kernel
theorem dX5_at_11 : decode cX5_at 11 = .ok (.iload_n 1, 1) := by decide +kernel
theorem dX5_at_12 : decode cX5_at 12 = .ok (.iaload, 1) := by decide +kernel
theorem dX5_at_13 : decode cX5_at 13 = .ok (.goto 4, 3) := by decide +kernel
theorem dX5_at_16 : decode cX5_at 16 = .ok (.iconst 0, 1) := by decide +kernel
theorem dX5_at_17 : decode cX5_at 17 = .ok (.ireturn, 1) := by decide +kernel
theorem dX5_put_0 : decode cX5_put 0 = .ok (.iload_n 1, 1) := by decide +kernel
theorem dX5_put_1 : decode cX5_put 1 = .ok (.ifCond .lt 13, 3) := by decide +kernel
theorem dX5_put_4 : decode cX5_put 4 = .ok (.iload_n 1, 1) := by decide +kernel
theorem dX5_put_5 : decode cX5_put 5 = .ok (.aload_n 0, 1) := by decide +kernel
theorem dX5_put_6 : decode cX5_put 6 = .ok (.arraylength, 1) := by decide +kernel
theorem dX5_put_7 : decode cX5_put 7 = .ok (.if_icmp .ge 7, 3) := by decide +kernel
theorem dX5_put_10 : decode cX5_put 10 = .ok (.aload_n 0, 1) := by decide +kernel
theorem dX5_put_11 : decode cX5_put 11 = .ok (.iload_n 1, 1) := by decide +kernel
theorem dX5_put_12 : decode cX5_put 12 = .ok (.iload_n 2, 1) := by decide +kernel
theorem dX5_put_13 : decode cX5_put 13 = .ok (.iastore, 1) := by decide +kernel
theorem dX5_put_14 : decode cX5_put 14 = .ok (.return_, 1) := by decide +kernel
theorem dX5_fill_0 : decode cX5_fill 0 = .ok (.iconst 0, 1) := by decide +kernel
theorem dX5_fill_1 : decode cX5_fill 1 = .ok (.istore_n 2, 1) := by decide +kernel
theorem dX5_fill_2 : decode cX5_fill 2 = .ok (.iload_n 2, 1) := by decide +kernel
theorem dX5_fill_3 : decode cX5_fill 3 = .ok (.aload_n 0, 1) := by decide +kernel
theorem dX5_fill_4 : decode cX5_fill 4 = .ok (.arraylength, 1) := by decide +kernel
theorem dX5_fill_5 : decode cX5_fill 5 = .ok (.if_icmp .ge 13, 3) := by decide +kernel
theorem dX5_fill_8 : decode cX5_fill 8 = .ok (.aload_n 0, 1) := by decide +kernel
theorem dX5_fill_9 : decode cX5_fill 9 = .ok (.iload_n 2, 1) := by decide +kernel
theorem dX5_fill_10 : decode cX5_fill 10 = .ok (.iload_n 1, 1) := by decide +kernel
theorem dX5_fill_11 : decode cX5_fill 11 = .ok (.iastore, 1) := by decide +kernel
theorem dX5_fill_12 : decode cX5_fill 12 = .ok (.iinc 2 1, 3) := by decide +kernel
theorem dX5_fill_15 : decode cX5_fill 15 = .ok (.goto (-13), 3) := by decide +kernel
theorem dX5_fill_18 : decode cX5_fill 18 = .ok (.return_, 1) := by decide +kernel
set_option maxRecDepth 20000 in
theorem ggX5_copy_X5_at : GoodIn wsX5_copy wsX5_at := goodIn_r _ [4] (by decide +kernel) (by decide +kernel)
set_option maxRecDepth 20000 in
theorem gX5_copy_X5_at : GoodIn wsX5_copy (va_wsS RX5 7 yX5_at wsX5_at) := goodIn_app (goodIn_of _ (by decide +kernel)) ggX5_copy_X5_at
theorem dX5_copy_0 : decode cX5_copy 0 = .ok (.iconst 0, 1) := by decide +kernel
theorem dX5_copy_1 : decode cX5_copy 1 = .ok (.istore_n 2, 1) := by decide +kernel
theorem dX5_copy_2 : decode cX5_copy 2 = .ok (.iload_n 2, 1) := by decide +kernel
theorem dX5_copy_3 : decode cX5_copy 3 = .ok (.aload_n 1, 1) := by decide +kernel
theorem dX5_copy_4 : decode cX5_copy 4 = .ok (.arraylength, 1) := by decide +kernel
theorem dX5_copy_5 : decode cX5_copy 5 = .ok (.if_icmp .ge 17, 3) := by decide +kernel
theorem dX5_copy_8 : decode cX5_copy 8 = .ok (.aload_n 1, 1) := by decide +kernel
theorem dX5_copy_9 : decode cX5_copy 9 = .ok (.iload_n 2, 1) := by decide +kernel
theorem dX5_copy_10 : decode cX5_copy 10 = .ok (.aload_n 0, 1) := by decide +kernel
theorem dX5_copy_11 : decode cX5_copy 11 = .ok (.iload_n 2, 1) := by decide +kernel
theorem dX5_copy_12 : decode cX5_copy 12 = .ok (.invokestatic 7, 3) := by decide +kernel
theorem dX5_copy_15 : decode cX5_copy 15 = .ok (.iastore, 1) := by decide +kernel
theorem dX5_copy_16 : decode cX5_copy 16 = .ok (.iinc 2 1, 3) := by decide +kernel
theorem dX5_copy_19 : decode cX5_copy 19 = .ok (.goto (-17), 3) := by decide +kernel
theorem dX5_copy_22 : decode cX5_copy 22 = .ok (.return_, 1) := by decide +kernel
set_option maxRecDepth 20000 in
theorem ggX5_readDigits_X5_put : GoodIn wsX5_readDigits wsX5_put := goodIn_r _ [4] (by decide +kernel) (by decide +kernel)
set_option maxRecDepth 20000 in
theorem gX5_readDigits_X5_put : GoodIn wsX5_readDigits (va_wsS RX5 13 yX5_put wsX5_put) := goodIn_app (goodIn_of _ (by decide +kernel)) ggX5_readDigits_X5_put
theorem dX5_readDigits_0 : decode cX5_readDigits 0 = .ok (.iload_n 0, 1) := by decide +kernel
theorem dX5_readDigits_1 : decode cX5_readDigits 1 = .ok (.istore_n 3, 1) := by decide +kernel
theorem dX5_readDigits_2 : decode cX5_readDigits 2 = .ok (.iload_n 1, 1) := by decide +kernel
theorem dX5_readDigits_3 : decode cX5_readDigits 3 = .ok (.iconst 1, 1) := by decide +kernel
theorem dX5_readDigits_4 : decode cX5_readDigits 4 = .ok (.isub, 1) := by decide +kernel
theorem dX5_readDigits_5 : decode cX5_readDigits 5 = .ok (.istore 4, 2) := by decide +kernel
theorem dX5_readDigits_7 : decode cX5_readDigits 7 = .ok (.iload 4, 2) := by decide +kernel
theorem dX5_readDigits_9 : decode cX5_readDigits 9 = .ok (.ifCond .lt 24, 3) := by decide +kernel
theorem dX5_readDigits_12 : decode cX5_readDigits 12 = .ok (.aload_n 2, 1) := by decide +kernel
theorem dX5_readDigits_13 : decode cX5_readDigits 13 = .ok (.iload 4, 2) := by decide +kernel
theorem dX5_readDigits_15 : decode cX5_readDigits 15 = .ok (.iload_n 3, 1) := by decide +kernel
theorem dX5_readDigits_16 : decode cX5_readDigits 16 = .ok (.bipush 10, 2) := by decide +kernel
theorem dX5_readDigits_18 : decode cX5_readDigits 18 = .ok (.irem, 1) := by decide +kernel
theorem dX5_readDigits_19 : decode cX5_readDigits 19 = .ok (.invokestatic 13, 3) := by decide +kernel
theorem dX5_readDigits_22 : decode cX5_readDigits 22 = .ok (.iload_n 3, 1) := by decide +kernel
theorem dX5_readDigits_23 : decode cX5_readDigits 23 = .ok (.bipush 10, 2) := by decide +kernel
theorem dX5_readDigits_25 : decode cX5_readDigits 25 = .ok (.idiv, 1) := by decide +kernel
theorem dX5_readDigits_26 : decode cX5_readDigits 26 = .ok (.istore_n 3, 1) := by decide +kernel
theorem dX5_readDigits_27 : decode cX5_readDigits 27 = .ok (.iinc 4 (-1), 3) := by decide +kernel
theorem dX5_readDigits_30 : decode cX5_readDigits 30 = .ok (.goto (-23), 3) := by decide +kernel
theorem dX5_readDigits_33 : decode cX5_readDigits 33 = .ok (.iload_n 0, 1) := by decide +kernel
theorem dX5_readDigits_34 : decode cX5_readDigits 34 = .ok (.ifCond .lt 11, 3) := by decide +kernel
theorem dX5_readDigits_37 : decode cX5_readDigits 37 = .ok (.iload_n 3, 1) := by decide +kernel
theorem dX5_readDigits_38 : decode cX5_readDigits 38 = .ok (.ifCond .ne 7, 3) := by decide +kernel
theorem dX5_readDigits_41 : decode cX5_readDigits 41 = .ok (.iconst 1, 1) := by decide +kernel
theorem dX5_readDigits_42 : decode cX5_readDigits 42 = .ok (.goto 4, 3) := by decide +kernel
theorem dX5_readDigits_45 : decode cX5_readDigits 45 = .ok (.iconst 0, 1) := by decide +kernel
theorem dX5_readDigits_46 : decode cX5_readDigits 46 = .ok (.ireturn, 1) := by decide +kernel
theorem dX6_init_0 : decode cX6_init 0 = .ok (.aload_n 0, 1) := by decide +kernel
theorem dX6_init_1 : decode cX6_init 1 = .ok (.invokespecial 3, 3) := by decide +kernel
theorem dX6_init_4 : decode cX6_init 4 = .ok (.aload_n 0, 1) := by decide +kernel
theorem dX6_init_5 : decode cX6_init 5 = .ok (.bipush 100, 2) := by decide +kernel
theorem dX6_init_7 : decode cX6_init 7 = .ok (.newarray .int, 2) := by decide +kernel
theorem dX6_init_9 : decode cX6_init 9 = .ok (.putfield 9, 3) := by decide +kernel
theorem dX6_init_12 : decode cX6_init 12 = .ok (.aload_n 0, 1) := by decide +kernel
theorem dX6_init_13 : decode cX6_init 13 = .ok (.bipush 100, 2) := by decide +kernel
theorem dX6_init_15 : decode cX6_init 15 = .ok (.newarray .int, 2) := by decide +kernel
theorem dX6_init_17 : decode cX6_init 17 = .ok (.putfield 15, 3) := by decide +kernel
theorem dX6_init_20 : decode cX6_init 20 = .ok (.return_, 1) := by decide +kernel
set_option maxRecDepth 20000 in
theorem ggX6_fill_X5_fill : GoodIn wsX6_fill wsX5_fill := goodIn_r _ [9] (by decide +kernel) (by decide +kernel)
set_option maxRecDepth 20000 in
theorem gX6_fill_X5_fill : GoodIn wsX6_fill (va_wsS RX6 18 yX5_fill wsX5_fill) := goodIn_app (goodIn_of _ (by decide +kernel)) ggX6_fill_X5_fill
set_option maxRecDepth 20000 in
theorem ggX6_fill_X5_at : GoodIn wsX6_fill wsX5_at := goodIn_r _ [12] (by decide +kernel) (by decide +kernel)
set_option maxRecDepth 20000 in
theorem gX6_fill_X5_at : GoodIn wsX6_fill (va_wsS RX6 29 yX5_at wsX5_at) := goodIn_app (goodIn_of _ (by decide +kernel)) ggX6_fill_X5_at
set_option maxRecDepth 20000 in
theorem ggX6_fill_X6_offer : GoodIn wsX6_fill wsX6_offer := goodIn_r _ [17, 1, 2, 10, 11, 8, 12, 18, 19, 20, 21, 22] (by decide +kernel) (by decide +kernel)
set_option maxRecDepth 20000 in
theorem gX6_fill_X6_offer : GoodIn wsX6_fill (wsV RX6 37 RX6 yX6_offer wsX6_offer) := goodIn_app (goodIn_of _ (by decide +kernel)) ggX6_fill_X6_offer
theorem dX6_fill_0 : decode cX6_fill 0 = .ok (.aload_n 0, 1) := by decide +kernel
theorem dX6_fill_1 : decode cX6_fill 1 = .ok (.getfield 9, 3) := by decide +kernel
theorem dX6_fill_4 : decode cX6_fill 4 = .ok (.iconst 0, 1) := by decide +kernel
theorem dX6_fill_5 : decode cX6_fill 5 = .ok (.invokestatic 18, 3) := by decide +kernel
theorem dX6_fill_8 : decode cX6_fill 8 = .ok (.aload_n 0, 1) := by decide +kernel
theorem dX6_fill_9 : decode cX6_fill 9 = .ok (.getfield 15, 3) := by decide +kernel
theorem dX6_fill_12 : decode cX6_fill 12 = .ok (.iconst 0, 1) := by decide +kernel
theorem dX6_fill_13 : decode cX6_fill 13 = .ok (.invokestatic 18, 3) := by decide +kernel
theorem dX6_fill_16 : decode cX6_fill 16 = .ok (.iconst 0, 1) := by decide +kernel
theorem dX6_fill_17 : decode cX6_fill 17 = .ok (.istore 4, 2) := by decide +kernel
theorem dX6_fill_19 : decode cX6_fill 19 = .ok (.iload 4, 2) := by decide +kernel
theorem dX6_fill_21 : decode cX6_fill 21 = .ok (.bipush 12, 2) := by decide +kernel
theorem dX6_fill_23 : decode cX6_fill 23 = .ok (.if_icmp .ge 47, 3) := by decide +kernel
theorem dX6_fill_26 : decode cX6_fill 26 = .ok (.aload_n 1, 1) := by decide +kernel
theorem dX6_fill_27 : decode cX6_fill 27 = .ok (.getfield 24, 3) := by decide +kernel
theorem dX6_fill_30 : decode cX6_fill 30 = .ok (.iload 4, 2) := by decide +kernel
theorem dX6_fill_32 : decode cX6_fill 32 = .ok (.invokestatic 29, 3) := by decide +kernel
theorem dX6_fill_35 : decode cX6_fill 35 = .ok (.iload_n 2, 1) := by decide +kernel
theorem dX6_fill_36 : decode cX6_fill 36 = .ok (.if_icmp .eq 28, 3) := by decide +kernel
theorem dX6_fill_39 : decode cX6_fill 39 = .ok (.aload_n 0, 1) := by decide +kernel
theorem dX6_fill_40 : decode cX6_fill 40 = .ok (.iload 4, 2) := by decide +kernel
theorem dX6_fill_42 : decode cX6_fill 42 = .ok (.aload_n 1, 1) := by decide +kernel
theorem dX6_fill_43 : decode cX6_fill 43 = .ok (.getfield 33, 3) := by decide +kernel
theorem dX6_fill_46 : decode cX6_fill 46 = .ok (.iload 4, 2) := by decide +kernel
theorem dX6_fill_48 : decode cX6_fill 48 = .ok (.invokestatic 29, 3) := by decide +kernel
theorem dX6_fill_51 : decode cX6_fill 51 = .ok (.aload_n 1, 1) := by decide +kernel
theorem dX6_fill_52 : decode cX6_fill 52 = .ok (.getfield 34, 3) := by decide +kernel
theorem dX6_fill_55 : decode cX6_fill 55 = .ok (.iload 4, 2) := by decide +kernel
theorem dX6_fill_57 : decode cX6_fill 57 = .ok (.invokestatic 29, 3) := by decide +kernel
theorem dX6_fill_60 : decode cX6_fill 60 = .ok (.iload_n 3, 1) := by decide +kernel
theorem dX6_fill_61 : decode cX6_fill 61 = .ok (.invokevirtual 37, 3) := by decide +kernel
theorem dX6_fill_64 : decode cX6_fill 64 = .ok (.iinc 4 1, 3) := by decide +kernel
theorem dX6_fill_67 : decode cX6_fill 67 = .ok (.goto (-48), 3) := by decide +kernel
theorem dX6_fill_70 : decode cX6_fill 70 = .ok (.return_, 1) := by decide +kernel
set_option maxRecDepth 20000 in
theorem ggX6_offer_X5_at : GoodIn wsX6_offer wsX5_at := goodIn_r _ [6] (by decide +kernel) (by decide +kernel)
set_option maxRecDepth 20000 in
theorem gX6_offer_X5_at : GoodIn wsX6_offer (va_wsS RX6 29 yX5_at wsX5_at) := goodIn_app (goodIn_of _ (by decide +kernel)) ggX6_offer_X5_at
set_option maxRecDepth 20000 in
theorem ggX6_offer_X5_put : GoodIn wsX6_offer wsX5_put := goodIn_r _ [9] (by decide +kernel) (by decide +kernel)
set_option maxRecDepth 20000 in
theorem gX6_offer_X5_put : GoodIn wsX6_offer (va_wsS RX6 41 yX5_put wsX5_put) := goodIn_app (goodIn_of _ (by decide +kernel)) ggX6_offer_X5_put
theorem dX6_offer_0 : decode cX6_offer 0 = .ok (.iload 4, 2) := by decide +kernel
theorem dX6_offer_2 : decode cX6_offer 2 = .ok (.istore 5, 2) := by decide +kernel
theorem dX6_offer_4 : decode cX6_offer 4 = .ok (.iload 5, 2) := by decide +kernel
theorem dX6_offer_6 : decode cX6_offer 6 = .ok (.iload_n 3, 1) := by decide +kernel
theorem dX6_offer_7 : decode cX6_offer 7 = .ok (.if_icmp .lt 73, 3) := by decide +kernel
theorem dX6_offer_10 : decode cX6_offer 10 = .ok (.aload_n 0, 1) := by decide +kernel
theorem dX6_offer_11 : decode cX6_offer 11 = .ok (.getfield 9, 3) := by decide +kernel
theorem dX6_offer_14 : decode cX6_offer 14 = .ok (.iload 5, 2) := by decide +kernel
theorem dX6_offer_16 : decode cX6_offer 16 = .ok (.iload_n 3, 1) := by decide +kernel
theorem dX6_offer_17 : decode cX6_offer 17 = .ok (.isub, 1) := by decide +kernel
theorem dX6_offer_18 : decode cX6_offer 18 = .ok (.invokestatic 29, 3) := by decide +kernel
theorem dX6_offer_21 : decode cX6_offer 21 = .ok (.iload_n 2, 1) := by decide +kernel
theorem dX6_offer_22 : decode cX6_offer 22 = .ok (.iadd, 1) := by decide +kernel
theorem dX6_offer_23 : decode cX6_offer 23 = .ok (.istore 6, 2) := by decide +kernel
theorem dX6_offer_25 : decode cX6_offer 25 = .ok (.iload 6, 2) := by decide +kernel
theorem dX6_offer_27 : decode cX6_offer 27 = .ok (.aload_n 0, 1) := by decide +kernel
theorem dX6_offer_28 : decode cX6_offer 28 = .ok (.getfield 9, 3) := by decide +kernel
theorem dX6_offer_31 : decode cX6_offer 31 = .ok (.iload 5, 2) := by decide +kernel
theorem dX6_offer_33 : decode cX6_offer 33 = .ok (.invokestatic 29, 3) := by decide +kernel
theorem dX6_offer_36 : decode cX6_offer 36 = .ok (.if_icmp .le 38, 3) := by decide +kernel
theorem dX6_offer_39 : decode cX6_offer 39 = .ok (.aload_n 0, 1) := by decide +kernel
theorem dX6_offer_40 : decode cX6_offer 40 = .ok (.getfield 9, 3) := by decide +kernel
theorem dX6_offer_43 : decode cX6_offer 43 = .ok (.iload 5, 2) := by decide +kernel
theorem dX6_offer_45 : decode cX6_offer 45 = .ok (.iload 6, 2) := by decide +kernel
theorem dX6_offer_47 : decode cX6_offer 47 = .ok (.invokestatic 41, 3) := by decide +kernel
theorem dX6_offer_50 : decode cX6_offer 50 = .ok (.aload_n 0, 1) := by decide +kernel
theorem dX6_offer_51 : decode cX6_offer 51 = .ok (.getfield 15, 3) := by decide +kernel
theorem dX6_offer_54 : decode cX6_offer 54 = .ok (.iload 5, 2) := by decide +kernel
theorem dX6_offer_56 : decode cX6_offer 56 = .ok (.aload_n 0, 1) := by decide +kernel
theorem dX6_offer_57 : decode cX6_offer 57 = .ok (.getfield 15, 3) := by decide +kernel
theorem dX6_offer_60 : decode cX6_offer 60 = .ok (.iload 5, 2) := by decide +kernel
theorem dX6_offer_62 : decode cX6_offer 62 = .ok (.iload_n 3, 1) := by decide +kernel
theorem dX6_offer_63 : decode cX6_offer 63 = .ok (.isub, 1) := by decide +kernel
theorem dX6_offer_64 : decode cX6_offer 64 = .ok (.invokestatic 29, 3) := by decide +kernel
theorem dX6_offer_67 : decode cX6_offer 67 = .ok (.iconst 1, 1) := by decide +kernel
theorem dX6_offer_68 : decode cX6_offer 68 = .ok (.iload_n 1, 1) := by decide +kernel
theorem dX6_offer_69 : decode cX6_offer 69 = .ok (.ishl, 1) := by decide +kernel
theorem dX6_offer_70 : decode cX6_offer 70 = .ok (.ior, 1) := by decide +kernel
theorem dX6_offer_71 : decode cX6_offer 71 = .ok (.invokestatic 41, 3) := by decide +kernel
theorem dX6_offer_74 : decode cX6_offer 74 = .ok (.iinc 5 (-1), 3) := by decide +kernel
theorem dX6_offer_77 : decode cX6_offer 77 = .ok (.goto (-73), 3) := by decide +kernel
theorem dX6_offer_80 : decode cX6_offer 80 = .ok (.return_, 1) := by decide +kernel
theorem dX7_init_0 : decode cX7_init 0 = .ok (.aload_n 0, 1) := by decide +kernel
theorem dX7_init_1 : decode cX7_init 1 = .ok (.invokespecial 3, 3) := by decide +kernel
theorem dX7_init_4 : decode cX7_init 4 = .ok (.aload_n 0, 1) := by decide +kernel
theorem dX7_init_5 : decode cX7_init 5 = .ok (.sipush 243, 3) := by decide +kernel
theorem dX7_init_8 : decode cX7_init 8 = .ok (.newarray .int, 2) := by decide +kernel
theorem dX7_init_10 : decode cX7_init 10 = .ok (.putfield 11, 3) := by decide +kernel
theorem dX7_init_13 : decode cX7_init 13 = .ok (.aload_n 0, 1) := by decide +kernel
theorem dX7_init_14 : decode cX7_init 14 = .ok (.iconst 5, 1) := by decide +kernel
theorem dX7_init_15 : decode cX7_init 15 = .ok (.newarray .int, 2) := by decide +kernel
theorem dX7_init_17 : decode cX7_init 17 = .ok (.putfield 15, 3) := by decide +kernel
theorem dX7_init_20 : decode cX7_init 20 = .ok (.aload_n 0, 1) := by decide +kernel
theorem dX7_init_21 : decode cX7_init 21 = .ok (.iconst 0, 1) := by decide +kernel
theorem dX7_init_22 : decode cX7_init 22 = .ok (.putfield 18, 3) := by decide +kernel
theorem dX7_init_25 : decode cX7_init 25 = .ok (.return_, 1) := by decide +kernel
set_option maxRecDepth 20000 in
theorem ggX7_firstWinning_X7_learn : GoodIn wsX7_firstWinning wsX7_learn := goodIn_r _ [7, 8, 2, 9, 10, 11, 12, 13, 14, 15, 6, 16, 17, 18, 19, 20, 21, 22, 23, 24, 25, 26, 27, 28, 29, 30, 31, 32, 33, 34, 35, 36, 37, 38, 39, 40, 41] (by decide +kernel) (by decide +kernel)
set_option maxRecDepth 20000 in
theorem gX7_firstWinning_X7_learn : GoodIn wsX7_firstWinning (wsV RX7 22 RX7 yX7_learn wsX7_learn) := goodIn_app (goodIn_of _ (by decide +kernel)) ggX7_firstWinning_X7_learn
set_option maxRecDepth 20000 in
theorem ggX7_firstWinning_X5_put : GoodIn wsX7_firstWinning wsX5_put := goodIn_r _ [22] (by decide +kernel) (by decide +kernel)
set_option maxRecDepth 20000 in
theorem gX7_firstWinning_X5_put : GoodIn wsX7_firstWinning (va_wsS RX7 25 yX5_put wsX5_put) := goodIn_app (goodIn_of _ (by decide +kernel)) ggX7_firstWinning_X5_put
set_option maxRecDepth 20000 in
theorem ggX7_firstWinning_X7_leastWinning : GoodIn wsX7_firstWinning wsX7_leastWinning := goodIn_r _ [26, 2, 17, 18, 11, 19, 27, 28, 29, 6, 30, 31, 32, 33, 34, 35, 36, 37, 38, 8, 39, 40, 41] (by decide +kernel) (by decide +kernel)
set_option maxRecDepth 20000 in
theorem gX7_firstWinning_X7_leastWinning : GoodIn wsX7_firstWinning (wsV RX7 31 RX7 yX7_leastWinning wsX7_leastWinning) := goodIn_app (goodIn_of _ (by decide +kernel)) ggX7_firstWinning_X7_leastWinning
theorem dX7_firstWinning_0 : decode cX7_firstWinning 0 = .ok (.aload_n 0, 1) := by decide +kernel
theorem dX7_firstWinning_1 : decode cX7_firstWinning 1 = .ok (.getfield 18, 3) := by decide +kernel
theorem dX7_firstWinning_4 : decode cX7_firstWinning 4 = .ok (.ifCond .ne 12, 3) := by decide +kernel
theorem dX7_firstWinning_7 : decode cX7_firstWinning 7 = .ok (.aload_n 0, 1) := by decide +kernel
theorem dX7_firstWinning_8 : decode cX7_firstWinning 8 = .ok (.invokevirtual 22, 3) := by decide +kernel
theorem dX7_firstWinning_11 : decode cX7_firstWinning 11 = .ok (.aload_n 0, 1) := by decide +kernel
theorem dX7_firstWinning_12 : decode cX7_firstWinning 12 = .ok (.iconst 1, 1) := by decide +kernel
theorem dX7_firstWinning_13 : decode cX7_firstWinning 13 = .ok (.putfield 18, 3) := by decide +kernel
theorem dX7_firstWinning_16 : decode cX7_firstWinning 16 = .ok (.iconst 0, 1) := by decide +kernel
theorem dX7_firstWinning_17 : decode cX7_firstWinning 17 = .ok (.istore_n 3, 1) := by decide +kernel
theorem dX7_firstWinning_18 : decode cX7_firstWinning 18 = .ok (.iload_n 3, 1) := by decide +kernel
theorem dX7_firstWinning_19 : decode cX7_firstWinning 19 = .ok (.iconst 5, 1) := by decide +kernel
theorem dX7_firstWinning_20 : decode cX7_firstWinning 20 = .ok (.if_icmp .ge 27, 3) := by decide +kernel
theorem dX7_firstWinning_23 : decode cX7_firstWinning 23 = .ok (.aload_n 0, 1) := by decide +kernel
theorem dX7_firstWinning_24 : decode cX7_firstWinning 24 = .ok (.getfield 15, 3) := by decide +kernel
theorem dX7_firstWinning_27 : decode cX7_firstWinning 27 = .ok (.iload_n 3, 1) := by decide +kernel
theorem dX7_firstWinning_28 : decode cX7_firstWinning 28 = .ok (.iload_n 3, 1) := by decide +kernel
theorem dX7_firstWinning_29 : decode cX7_firstWinning 29 = .ok (.iload_n 1, 1) := by decide +kernel
theorem dX7_firstWinning_30 : decode cX7_firstWinning 30 = .ok (.if_icmp .ge 7, 3) := by decide +kernel
theorem dX7_firstWinning_33 : decode cX7_firstWinning 33 = .ok (.iload_n 2, 1) := by decide +kernel
theorem dX7_firstWinning_34 : decode cX7_firstWinning 34 = .ok (.goto 4, 3) := by decide +kernel
theorem dX7_firstWinning_37 : decode cX7_firstWinning 37 = .ok (.iconst 0, 1) := by decide +kernel
theorem dX7_firstWinning_38 : decode cX7_firstWinning 38 = .ok (.invokestatic 25, 3) := by decide +kernel
theorem dX7_firstWinning_41 : decode cX7_firstWinning 41 = .ok (.iinc 3 1, 3) := by decide +kernel
theorem dX7_firstWinning_44 : decode cX7_firstWinning 44 = .ok (.goto (-26), 3) := by decide +kernel
theorem dX7_firstWinning_47 : decode cX7_firstWinning 47 = .ok (.aload_n 0, 1) := by decide +kernel
theorem dX7_firstWinning_48 : decode cX7_firstWinning 48 = .ok (.invokevirtual 31, 3) := by decide +kernel
theorem dX7_firstWinning_51 : decode cX7_firstWinning 51 = .ok (.ireturn, 1) := by decide +kernel
set_option maxRecDepth 20000 in
theorem ggX7_learn_X5_fill : GoodIn wsX7_learn wsX5_fill := goodIn_r _ [6] (by decide +kernel) (by decide +kernel)
set_option maxRecDepth 20000 in
theorem gX7_learn_X5_fill : GoodIn wsX7_learn (va_wsS RX7 35 yX5_fill wsX5_fill) := goodIn_app (goodIn_of _ (by decide +kernel)) ggX7_learn_X5_fill
set_option maxRecDepth 20000 in
theorem ggX7_learn_X7_growToNext : GoodIn wsX7_learn wsX7_growToNext := goodIn_r _ [11, 2, 12, 13, 5, 14, 15, 16, 17, 34, 35, 36] (by decide +kernel) (by decide +kernel)
set_option maxRecDepth 20000 in
theorem gX7_learn_X7_growToNext : GoodIn wsX7_learn (wsV RX7 39 RX7 yX7_growToNext wsX7_growToNext) := goodIn_app (goodIn_of _ (by decide +kernel)) ggX7_learn_X7_growToNext
set_option maxRecDepth 20000 in
theorem ggX7_learn_X7_leastWinning : GoodIn wsX7_learn wsX7_leastWinning := goodIn_r _ [21, 2, 12, 13, 5, 14, 22, 23, 24, 10, 25, 26, 27, 28, 29, 30, 31, 32, 33, 1, 34, 35, 36] (by decide +kernel) (by decide +kernel)
set_option maxRecDepth 20000 in
theorem gX7_learn_X7_leastWinning : GoodIn wsX7_learn (wsV RX7 31 RX7 yX7_leastWinning wsX7_leastWinning) := goodIn_app (goodIn_of _ (by decide +kernel)) ggX7_learn_X7_leastWinning
set_option maxRecDepth 20000 in
theorem ggX7_learn_X7_codeAfter : GoodIn wsX7_learn wsX7_codeAfter := goodIn_r _ [25, 2, 26, 27, 28, 29, 12, 13, 5, 14, 34, 35, 36] (by decide +kernel) (by decide +kernel)
set_option maxRecDepth 20000 in
theorem gX7_learn_X7_codeAfter : GoodIn wsX7_learn (wsV RX7 42 RX7 yX7_codeAfter wsX7_codeAfter) := goodIn_app (goodIn_of _ (by decide +kernel)) ggX7_learn_X7_codeAfter
set_option maxRecDepth 20000 in
theorem ggX7_learn_X5_at : GoodIn wsX7_learn wsX5_at := goodIn_r _ [14] (by decide +kernel) (by decide +kernel)
set_option maxRecDepth 20000 in
theorem gX7_learn_X5_at : GoodIn wsX7_learn (va_wsS RX7 46 yX5_at wsX5_at) := goodIn_app (goodIn_of _ (by decide +kernel)) ggX7_learn_X5_at
set_option maxRecDepth 20000 in
theorem ggX7_learn_X5_put : GoodIn wsX7_learn wsX5_put := goodIn_r _ [17] (by decide +kernel) (by decide +kernel)
set_option maxRecDepth 20000 in
theorem gX7_learn_X5_put : GoodIn wsX7_learn (va_wsS RX7 25 yX5_put wsX5_put) := goodIn_app (goodIn_of _ (by decide +kernel)) ggX7_learn_X5_put
theorem dX7_learn_0 : decode cX7_learn 0 = .ok (.aload_n 0, 1) := by decide +kernel
theorem dX7_learn_1 : decode cX7_learn 1 = .ok (.getfield 11, 3) := by decide +kernel
theorem dX7_learn_4 : decode cX7_learn 4 = .ok (.iconst 0, 1) := by decide +kernel
theorem dX7_learn_5 : decode cX7_learn 5 = .ok (.invokestatic 35, 3) := by decide +kernel
theorem dX7_learn_8 : decode cX7_learn 8 = .ok (.aload_n 0, 1) := by decide +kernel
theorem dX7_learn_9 : decode cX7_learn 9 = .ok (.getfield 15, 3) := by decide +kernel
theorem dX7_learn_12 : decode cX7_learn 12 = .ok (.iconst 0, 1) := by decide +kernel
theorem dX7_learn_13 : decode cX7_learn 13 = .ok (.invokestatic 35, 3) := by decide +kernel
theorem dX7_learn_16 : decode cX7_learn 16 = .ok (.iconst 1, 1) := by decide +kernel
theorem dX7_learn_17 : decode cX7_learn 17 = .ok (.istore_n 1, 1) := by decide +kernel
theorem dX7_learn_18 : decode cX7_learn 18 = .ok (.iload_n 1, 1) := by decide +kernel
theorem dX7_learn_19 : decode cX7_learn 19 = .ok (.sipush 252, 3) := by decide +kernel
theorem dX7_learn_22 : decode cX7_learn 22 = .ok (.if_icmp .ge 58, 3) := by decide +kernel
theorem dX7_learn_25 : decode cX7_learn 25 = .ok (.aload_n 0, 1) := by decide +kernel
theorem dX7_learn_26 : decode cX7_learn 26 = .ok (.invokevirtual 39, 3) := by decide +kernel
theorem dX7_learn_29 : decode cX7_learn 29 = .ok (.aload_n 0, 1) := by decide +kernel
theorem dX7_learn_30 : decode cX7_learn 30 = .ok (.invokevirtual 31, 3) := by decide +kernel
theorem dX7_learn_33 : decode cX7_learn 33 = .ok (.bipush (-6), 2) := by decide +kernel
theorem dX7_learn_35 : decode cX7_learn 35 = .ok (.if_icmp .ne 39, 3) := by decide +kernel
theorem dX7_learn_38 : decode cX7_learn 38 = .ok (.aload_n 0, 1) := by decide +kernel
theorem dX7_learn_39 : decode cX7_learn 39 = .ok (.iconst 5, 1) := by decide +kernel
theorem dX7_learn_40 : decode cX7_learn 40 = .ok (.iconst 0, 1) := by decide +kernel
theorem dX7_learn_41 : decode cX7_learn 41 = .ok (.invokevirtual 42, 3) := by decide +kernel
theorem dX7_learn_44 : decode cX7_learn 44 = .ok (.istore_n 2, 1) := by decide +kernel
theorem dX7_learn_45 : decode cX7_learn 45 = .ok (.aload_n 0, 1) := by decide +kernel
theorem dX7_learn_46 : decode cX7_learn 46 = .ok (.getfield 11, 3) := by decide +kernel
theorem dX7_learn_49 : decode cX7_learn 49 = .ok (.iload_n 2, 1) := by decide +kernel
theorem dX7_learn_50 : decode cX7_learn 50 = .ok (.bipush 32, 2) := by decide +kernel
theorem dX7_learn_52 : decode cX7_learn 52 = .ok (.idiv, 1) := by decide +kernel
theorem dX7_learn_53 : decode cX7_learn 53 = .ok (.aload_n 0, 1) := by decide +kernel
theorem dX7_learn_54 : decode cX7_learn 54 = .ok (.getfield 11, 3) := by decide +kernel
theorem dX7_learn_57 : decode cX7_learn 57 = .ok (.iload_n 2, 1) := by decide +kernel
theorem dX7_learn_58 : decode cX7_learn 58 = .ok (.bipush 32, 2) := by decide +kernel
theorem dX7_learn_60 : decode cX7_learn 60 = .ok (.idiv, 1) := by decide +kernel
theorem dX7_learn_61 : decode cX7_learn 61 = .ok (.invokestatic 46, 3) := by decide +kernel
theorem dX7_learn_64 : decode cX7_learn 64 = .ok (.iconst 1, 1) := by decide +kernel
theorem dX7_learn_65 : decode cX7_learn 65 = .ok (.iload_n 2, 1) := by decide +kernel
theorem dX7_learn_66 : decode cX7_learn 66 = .ok (.bipush 32, 2) := by decide +kernel
theorem dX7_learn_68 : decode cX7_learn 68 = .ok (.irem, 1) := by decide +kernel
theorem dX7_learn_69 : decode cX7_learn 69 = .ok (.ishl, 1) := by decide +kernel
theorem dX7_learn_70 : decode cX7_learn 70 = .ok (.ior, 1) := by decide +kernel
theorem dX7_learn_71 : decode cX7_learn 71 = .ok (.invokestatic 25, 3) := by decide +kernel
theorem dX7_learn_74 : decode cX7_learn 74 = .ok (.iinc 1 1, 3) := by decide +kernel
theorem dX7_learn_77 : decode cX7_learn 77 = .ok (.goto (-59), 3) := by decide +kernel
theorem dX7_learn_80 : decode cX7_learn 80 = .ok (.return_, 1) := by decide +kernel
set_option maxRecDepth 20000 in
theorem ggX7_growToNext_X5_at : GoodIn wsX7_growToNext wsX5_at := goodIn_r _ [5] (by decide +kernel) (by decide +kernel)
set_option maxRecDepth 20000 in
theorem gX7_growToNext_X5_at : GoodIn wsX7_growToNext (va_wsS RX7 46 yX5_at wsX5_at) := goodIn_app (goodIn_of _ (by decide +kernel)) ggX7_growToNext_X5_at
set_option maxRecDepth 20000 in
theorem ggX7_growToNext_X5_put : GoodIn wsX7_growToNext wsX5_put := goodIn_r _ [8] (by decide +kernel) (by decide +kernel)
set_option maxRecDepth 20000 in
theorem gX7_growToNext_X5_put : GoodIn wsX7_growToNext (va_wsS RX7 25 yX5_put wsX5_put) := goodIn_app (goodIn_of _ (by decide +kernel)) ggX7_growToNext_X5_put
theorem dX7_growToNext_0 : decode cX7_growToNext 0 = .ok (.iconst 4, 1) := by decide +kernel
theorem dX7_growToNext_1 : decode cX7_growToNext 1 = .ok (.istore_n 1, 1) := by decide +kernel
theorem dX7_growToNext_2 : decode cX7_growToNext 2 = .ok (.iload_n 1, 1) := by decide +kernel
theorem dX7_growToNext_3 : decode cX7_growToNext 3 = .ok (.ifCond .lt 68, 3) := by decide +kernel
theorem dX7_growToNext_6 : decode cX7_growToNext 6 = .ok (.iload_n 1, 1) := by decide +kernel
theorem dX7_growToNext_7 : decode cX7_growToNext 7 = .ok (.ifCond .ne 7, 3) := by decide +kernel
theorem dX7_growToNext_10 : decode cX7_growToNext 10 = .ok (.iconst 5, 1) := by decide +kernel
theorem dX7_growToNext_11 : decode cX7_growToNext 11 = .ok (.goto 13, 3) := by decide +kernel
theorem dX7_growToNext_14 : decode cX7_growToNext 14 = .ok (.aload_n 0, 1) := by decide +kernel
theorem dX7_growToNext_15 : decode cX7_growToNext 15 = .ok (.getfield 15, 3) := by decide +kernel
theorem dX7_growToNext_18 : decode cX7_growToNext 18 = .ok (.iload_n 1, 1) := by decide +kernel
theorem dX7_growToNext_19 : decode cX7_growToNext 19 = .ok (.iconst 1, 1) := by decide +kernel
theorem dX7_growToNext_20 : decode cX7_growToNext 20 = .ok (.isub, 1) := by decide +kernel
theorem dX7_growToNext_21 : decode cX7_growToNext 21 = .ok (.invokestatic 46, 3) := by decide +kernel
theorem dX7_growToNext_24 : decode cX7_growToNext 24 = .ok (.istore_n 2, 1) := by decide +kernel
theorem dX7_growToNext_25 : decode cX7_growToNext 25 = .ok (.aload_n 0, 1) := by decide +kernel
theorem dX7_growToNext_26 : decode cX7_growToNext 26 = .ok (.getfield 15, 3) := by decide +kernel
theorem dX7_growToNext_29 : decode cX7_growToNext 29 = .ok (.iload_n 1, 1) := by decide +kernel
theorem dX7_growToNext_30 : decode cX7_growToNext 30 = .ok (.invokestatic 46, 3) := by decide +kernel
theorem dX7_growToNext_33 : decode cX7_growToNext 33 = .ok (.iload_n 2, 1) := by decide +kernel
theorem dX7_growToNext_34 : decode cX7_growToNext 34 = .ok (.if_icmp .ge 22, 3) := by decide +kernel
theorem dX7_growToNext_37 : decode cX7_growToNext 37 = .ok (.aload_n 0, 1) := by decide +kernel
theorem dX7_growToNext_38 : decode cX7_growToNext 38 = .ok (.getfield 15, 3) := by decide +kernel
theorem dX7_growToNext_41 : decode cX7_growToNext 41 = .ok (.iload_n 1, 1) := by decide +kernel
theorem dX7_growToNext_42 : decode cX7_growToNext 42 = .ok (.aload_n 0, 1) := by decide +kernel
theorem dX7_growToNext_43 : decode cX7_growToNext 43 = .ok (.getfield 15, 3) := by decide +kernel
theorem dX7_growToNext_46 : decode cX7_growToNext 46 = .ok (.iload_n 1, 1) := by decide +kernel
theorem dX7_growToNext_47 : decode cX7_growToNext 47 = .ok (.invokestatic 46, 3) := by decide +kernel
theorem dX7_growToNext_50 : decode cX7_growToNext 50 = .ok (.iconst 1, 1) := by decide +kernel
theorem dX7_growToNext_51 : decode cX7_growToNext 51 = .ok (.iadd, 1) := by decide +kernel
theorem dX7_growToNext_52 : decode cX7_growToNext 52 = .ok (.invokestatic 25, 3) := by decide +kernel
theorem dX7_growToNext_55 : decode cX7_growToNext 55 = .ok (.return_, 1) := by decide +kernel
theorem dX7_growToNext_56 : decode cX7_growToNext 56 = .ok (.aload_n 0, 1) := by decide +kernel
theorem dX7_growToNext_57 : decode cX7_growToNext 57 = .ok (.getfield 15, 3) := by decide +kernel
theorem dX7_growToNext_60 : decode cX7_growToNext 60 = .ok (.iload_n 1, 1) := by decide +kernel
theorem dX7_growToNext_61 : decode cX7_growToNext 61 = .ok (.iconst 0, 1) := by decide +kernel
theorem dX7_growToNext_62 : decode cX7_growToNext 62 = .ok (.invokestatic 25, 3) := by decide +kernel
theorem dX7_growToNext_65 : decode cX7_growToNext 65 = .ok (.iinc 1 (-1), 3) := by decide +kernel
theorem dX7_growToNext_68 : decode cX7_growToNext 68 = .ok (.goto (-66), 3) := by decide +kernel
theorem dX7_growToNext_71 : decode cX7_growToNext 71 = .ok (.return_, 1) := by decide +kernel
set_option maxRecDepth 20000 in
theorem ggX7_leastWinning_X5_at : GoodIn wsX7_leastWinning wsX5_at := goodIn_r _ [5] (by decide +kernel) (by decide +kernel)
set_option maxRecDepth 20000 in
theorem gX7_leastWinning_X5_at : GoodIn wsX7_leastWinning (va_wsS RX7 46 yX5_at wsX5_at) := goodIn_app (goodIn_of _ (by decide +kernel)) ggX7_leastWinning_X5_at
set_option maxRecDepth 20000 in
theorem ggX7_leastWinning_X7_codeAfter : GoodIn wsX7_leastWinning wsX7_codeAfter := goodIn_r _ [10, 1, 11, 12, 13, 14, 2, 3, 4, 5, 20, 21, 22] (by decide +kernel) (by decide +kernel)
set_option maxRecDepth 20000 in
theorem gX7_leastWinning_X7_codeAfter : GoodIn wsX7_leastWinning (wsV RX7 42 RX7 yX7_codeAfter wsX7_codeAfter) := goodIn_app (goodIn_of _ (by decide +kernel)) ggX7_leastWinning_X7_codeAfter
set_option maxRecDepth 20000 in
theorem ggX7_leastWinning_X7_isLost : GoodIn wsX7_leastWinning wsX7_isLost := goodIn_r _ [18, 19, 2, 3, 4, 5, 20, 21, 22] (by decide +kernel) (by decide +kernel)
set_option maxRecDepth 20000 in
theorem gX7_leastWinning_X7_isLost : GoodIn wsX7_leastWinning (wsV RX7 50 RX7 yX7_isLost wsX7_isLost) := goodIn_app (goodIn_of _ (by decide +kernel)) ggX7_leastWinning_X7_isLost
theorem dX7_leastWinning_0 : decode cX7_leastWinning 0 = .ok (.iconst 0, 1) := by decide +kernel
theorem dX7_leastWinning_1 : decode cX7_leastWinning 1 = .ok (.istore_n 1, 1) := by decide +kernel
theorem dX7_leastWinning_2 : decode cX7_leastWinning 2 = .ok (.iload_n 1, 1) := by decide +kernel
theorem dX7_leastWinning_3 : decode cX7_leastWinning 3 = .ok (.iconst 5, 1) := by decide +kernel
theorem dX7_leastWinning_4 : decode cX7_leastWinning 4 = .ok (.if_icmp .ge 54, 3) := by decide +kernel
theorem dX7_leastWinning_7 : decode cX7_leastWinning 7 = .ok (.iconst 0, 1) := by decide +kernel
theorem dX7_leastWinning_8 : decode cX7_leastWinning 8 = .ok (.istore_n 2, 1) := by decide +kernel
theorem dX7_leastWinning_9 : decode cX7_leastWinning 9 = .ok (.iload_n 2, 1) := by decide +kernel
theorem dX7_leastWinning_10 : decode cX7_leastWinning 10 = .ok (.aload_n 0, 1) := by decide +kernel
theorem dX7_leastWinning_11 : decode cX7_leastWinning 11 = .ok (.getfield 15, 3) := by decide +kernel
theorem dX7_leastWinning_14 : decode cX7_leastWinning 14 = .ok (.iload_n 1, 1) := by decide +kernel
theorem dX7_leastWinning_15 : decode cX7_leastWinning 15 = .ok (.invokestatic 46, 3) := by decide +kernel
theorem dX7_leastWinning_18 : decode cX7_leastWinning 18 = .ok (.if_icmp .ge 34, 3) := by decide +kernel
theorem dX7_leastWinning_21 : decode cX7_leastWinning 21 = .ok (.iload_n 2, 1) := by decide +kernel
theorem dX7_leastWinning_22 : decode cX7_leastWinning 22 = .ok (.iconst 5, 1) := by decide +kernel
theorem dX7_leastWinning_23 : decode cX7_leastWinning 23 = .ok (.if_icmp .ge 29, 3) := by decide +kernel
theorem dX7_leastWinning_26 : decode cX7_leastWinning 26 = .ok (.aload_n 0, 1) := by decide +kernel
theorem dX7_leastWinning_27 : decode cX7_leastWinning 27 = .ok (.aload_n 0, 1) := by decide +kernel
theorem dX7_leastWinning_28 : decode cX7_leastWinning 28 = .ok (.iload_n 1, 1) := by decide +kernel
theorem dX7_leastWinning_29 : decode cX7_leastWinning 29 = .ok (.iload_n 2, 1) := by decide +kernel
theorem dX7_leastWinning_30 : decode cX7_leastWinning 30 = .ok (.invokevirtual 42, 3) := by decide +kernel
theorem dX7_leastWinning_33 : decode cX7_leastWinning 33 = .ok (.invokevirtual 50, 3) := by decide +kernel
theorem dX7_leastWinning_36 : decode cX7_leastWinning 36 = .ok (.ifCond .eq 10, 3) := by decide +kernel
theorem dX7_leastWinning_39 : decode cX7_leastWinning 39 = .ok (.bipush 10, 2) := by decide +kernel
theorem dX7_leastWinning_41 : decode cX7_leastWinning 41 = .ok (.iload_n 1, 1) := by decide +kernel
theorem dX7_leastWinning_42 : decode cX7_leastWinning 42 = .ok (.imul, 1) := by decide +kernel
theorem dX7_leastWinning_43 : decode cX7_leastWinning 43 = .ok (.iload_n 2, 1) := by decide +kernel
theorem dX7_leastWinning_44 : decode cX7_leastWinning 44 = .ok (.iadd, 1) := by decide +kernel
theorem dX7_leastWinning_45 : decode cX7_leastWinning 45 = .ok (.ireturn, 1) := by decide +kernel
theorem dX7_leastWinning_46 : decode cX7_leastWinning 46 = .ok (.iinc 2 1, 3) := by decide +kernel
theorem dX7_leastWinning_49 : decode cX7_leastWinning 49 = .ok (.goto (-40), 3) := by decide +kernel
theorem dX7_leastWinning_52 : decode cX7_leastWinning 52 = .ok (.iinc 1 1, 3) := by decide +kernel
theorem dX7_leastWinning_55 : decode cX7_leastWinning 55 = .ok (.goto (-53), 3) := by decide +kernel
theorem dX7_leastWinning_58 : decode cX7_leastWinning 58 = .ok (.bipush (-6), 2) := by decide +kernel
theorem dX7_leastWinning_60 : decode cX7_leastWinning 60 = .ok (.ireturn, 1) := by decide +kernel
set_option maxRecDepth 20000 in
theorem ggX7_isLost_X5_at : GoodIn wsX7_isLost wsX5_at := goodIn_r _ [5] (by decide +kernel) (by decide +kernel)
set_option maxRecDepth 20000 in
theorem gX7_isLost_X5_at : GoodIn wsX7_isLost (va_wsS RX7 46 yX5_at wsX5_at) := goodIn_app (goodIn_of _ (by decide +kernel)) ggX7_isLost_X5_at
theorem dX7_isLost_0 : decode cX7_isLost 0 = .ok (.aload_n 0, 1) := by decide +kernel
theorem dX7_isLost_1 : decode cX7_isLost 1 = .ok (.getfield 11, 3) := by decide +kernel
theorem dX7_isLost_4 : decode cX7_isLost 4 = .ok (.iload_n 1, 1) := by decide +kernel
theorem dX7_isLost_5 : decode cX7_isLost 5 = .ok (.bipush 32, 2) := by decide +kernel
theorem dX7_isLost_7 : decode cX7_isLost 7 = .ok (.idiv, 1) := by decide +kernel
theorem dX7_isLost_8 : decode cX7_isLost 8 = .ok (.invokestatic 46, 3) := by decide +kernel
theorem dX7_isLost_11 : decode cX7_isLost 11 = .ok (.iload_n 1, 1) := by decide +kernel
theorem dX7_isLost_12 : decode cX7_isLost 12 = .ok (.bipush 32, 2) := by decide +kernel
theorem dX7_isLost_14 : decode cX7_isLost 14 = .ok (.irem, 1) := by decide +kernel
theorem dX7_isLost_15 : decode cX7_isLost 15 = .ok (.ishr, 1) := by decide +kernel
theorem dX7_isLost_16 : decode cX7_isLost 16 = .ok (.iconst 1, 1) := by decide +kernel
theorem dX7_isLost_17 : decode cX7_isLost 17 = .ok (.iand, 1) := by decide +kernel
theorem dX7_isLost_18 : decode cX7_isLost 18 = .ok (.iconst 1, 1) := by decide +kernel
theorem dX7_isLost_19 : decode cX7_isLost 19 = .ok (.if_icmp .ne 7, 3) := by decide +kernel
theorem dX7_isLost_22 : decode cX7_isLost 22 = .ok (.iconst 1, 1) := by decide +kernel
theorem dX7_isLost_23 : decode cX7_isLost 23 = .ok (.goto 4, 3) := by decide +kernel
theorem dX7_isLost_26 : decode cX7_isLost 26 = .ok (.iconst 0, 1) := by decide +kernel
theorem dX7_isLost_27 : decode cX7_isLost 27 = .ok (.ireturn, 1) := by decide +kernel
set_option maxRecDepth 20000 in
theorem ggX7_codeAfter_X5_at : GoodIn wsX7_codeAfter wsX5_at := goodIn_r _ [9] (by decide +kernel) (by decide +kernel)
set_option maxRecDepth 20000 in
theorem gX7_codeAfter_X5_at : GoodIn wsX7_codeAfter (va_wsS RX7 46 yX5_at wsX5_at) := goodIn_app (goodIn_of _ (by decide +kernel)) ggX7_codeAfter_X5_at
theorem dX7_codeAfter_0 : decode cX7_codeAfter 0 = .ok (.iconst 0, 1) := by decide +kernel
theorem dX7_codeAfter_1 : decode cX7_codeAfter 1 = .ok (.istore_n 3, 1) := by decide +kernel
theorem dX7_codeAfter_2 : decode cX7_codeAfter 2 = .ok (.iconst 0, 1) := by decide +kernel
theorem dX7_codeAfter_3 : decode cX7_codeAfter 3 = .ok (.istore 4, 2) := by decide +kernel
theorem dX7_codeAfter_5 : decode cX7_codeAfter 5 = .ok (.iload 4, 2) := by decide +kernel
theorem dX7_codeAfter_7 : decode cX7_codeAfter 7 = .ok (.iconst 5, 1) := by decide +kernel
theorem dX7_codeAfter_8 : decode cX7_codeAfter 8 = .ok (.if_icmp .ge 50, 3) := by decide +kernel
theorem dX7_codeAfter_11 : decode cX7_codeAfter 11 = .ok (.iload 4, 2) := by decide +kernel
theorem dX7_codeAfter_13 : decode cX7_codeAfter 13 = .ok (.iload_n 1, 1) := by decide +kernel
theorem dX7_codeAfter_14 : decode cX7_codeAfter 14 = .ok (.if_icmp .ge 15, 3) := by decide +kernel
theorem dX7_codeAfter_17 : decode cX7_codeAfter 17 = .ok (.aload_n 0, 1) := by decide +kernel
theorem dX7_codeAfter_18 : decode cX7_codeAfter 18 = .ok (.getfield 15, 3) := by decide +kernel
theorem dX7_codeAfter_21 : decode cX7_codeAfter 21 = .ok (.iload 4, 2) := by decide +kernel
theorem dX7_codeAfter_23 : decode cX7_codeAfter 23 = .ok (.invokestatic 46, 3) := by decide +kernel
theorem dX7_codeAfter_26 : decode cX7_codeAfter 26 = .ok (.goto 16, 3) := by decide +kernel
theorem dX7_codeAfter_29 : decode cX7_codeAfter 29 = .ok (.iload_n 2, 1) := by decide +kernel
theorem dX7_codeAfter_30 : decode cX7_codeAfter 30 = .ok (.aload_n 0, 1) := by decide +kernel
theorem dX7_codeAfter_31 : decode cX7_codeAfter 31 = .ok (.getfield 15, 3) := by decide +kernel
theorem dX7_codeAfter_34 : decode cX7_codeAfter 34 = .ok (.iload 4, 2) := by decide +kernel
theorem dX7_codeAfter_36 : decode cX7_codeAfter 36 = .ok (.invokestatic 46, 3) := by decide +kernel
theorem dX7_codeAfter_39 : decode cX7_codeAfter 39 = .ok (.invokestatic 54, 3) := by decide +kernel
theorem dX7_codeAfter_42 : decode cX7_codeAfter 42 = .ok (.istore 5, 2) := by decide +kernel
theorem dX7_codeAfter_44 : decode cX7_codeAfter 44 = .ok (.iload_n 3, 1) := by decide +kernel
theorem dX7_codeAfter_45 : decode cX7_codeAfter 45 = .ok (.bipush 6, 2) := by decide +kernel
theorem dX7_codeAfter_47 : decode cX7_codeAfter 47 = .ok (.imul, 1) := by decide +kernel
theorem dX7_codeAfter_48 : decode cX7_codeAfter 48 = .ok (.iload 5, 2) := by decide +kernel
theorem dX7_codeAfter_50 : decode cX7_codeAfter 50 = .ok (.iadd, 1) := by decide +kernel
theorem dX7_codeAfter_51 : decode cX7_codeAfter 51 = .ok (.istore_n 3, 1) := by decide +kernel
theorem dX7_codeAfter_52 : decode cX7_codeAfter 52 = .ok (.iinc 4 1, 3) := by decide +kernel
theorem dX7_codeAfter_55 : decode cX7_codeAfter 55 = .ok (.goto (-50), 3) := by decide +kernel
theorem dX7_codeAfter_58 : decode cX7_codeAfter 58 = .ok (.iload_n 3, 1) := by decide +kernel
theorem dX7_codeAfter_59 : decode cX7_codeAfter 59 = .ok (.ireturn, 1) := by decide +kernel
theorem dX8_init_0 : decode cX8_init 0 = .ok (.aload_n 0, 1) := by decide +kernel
theorem dX8_init_1 : decode cX8_init 1 = .ok (.invokespecial 1, 3) := by decide +kernel
theorem dX8_init_4 : decode cX8_init 4 = .ok (.aload_n 0, 1) := by decide +kernel
theorem dX8_init_5 : decode cX8_init 5 = .ok (.bipush 8, 2) := by decide +kernel
theorem dX8_init_7 : decode cX8_init 7 = .ok (.newarray .int, 2) := by decide +kernel
theorem dX8_init_9 : decode cX8_init 9 = .ok (.putfield 9, 3) := by decide +kernel
theorem dX8_init_12 : decode cX8_init 12 = .ok (.aload_n 0, 1) := by decide +kernel
theorem dX8_init_13 : decode cX8_init 13 = .ok (.bipush 8, 2) := by decide +kernel
theorem dX8_init_15 : decode cX8_init 15 = .ok (.newarray .int, 2) := by decide +kernel
theorem dX8_init_17 : decode cX8_init 17 = .ok (.putfield 13, 3) := by decide +kernel
theorem dX8_init_20 : decode cX8_init 20 = .ok (.aload_n 0, 1) := by decide +kernel
theorem dX8_init_21 : decode cX8_init 21 = .ok (.iconst 0, 1) := by decide +kernel
theorem dX8_init_22 : decode cX8_init 22 = .ok (.putfield 16, 3) := by decide +kernel
theorem dX8_init_25 : decode cX8_init 25 = .ok (.return_, 1) := by decide +kernel
set_option maxRecDepth 20000 in
theorem ggX8_add_X5_put : GoodIn wsX8_add wsX5_put := goodIn_r _ [7] (by decide +kernel) (by decide +kernel)
set_option maxRecDepth 20000 in
theorem gX8_add_X5_put : GoodIn wsX8_add (va_wsS RX8 20 yX5_put wsX5_put) := goodIn_app (goodIn_of _ (by decide +kernel)) ggX8_add_X5_put
theorem dX8_add_0 : decode cX8_add 0 = .ok (.aload_n 0, 1) := by decide +kernel
theorem dX8_add_1 : decode cX8_add 1 = .ok (.getfield 16, 3) := by decide +kernel
theorem dX8_add_4 : decode cX8_add 4 = .ok (.bipush 8, 2) := by decide +kernel
theorem dX8_add_6 : decode cX8_add 6 = .ok (.if_icmp .ge 37, 3) := by decide +kernel
theorem dX8_add_9 : decode cX8_add 9 = .ok (.aload_n 0, 1) := by decide +kernel
theorem dX8_add_10 : decode cX8_add 10 = .ok (.getfield 9, 3) := by decide +kernel
theorem dX8_add_13 : decode cX8_add 13 = .ok (.aload_n 0, 1) := by decide +kernel
theorem dX8_add_14 : decode cX8_add 14 = .ok (.getfield 16, 3) := by decide +kernel
theorem dX8_add_17 : decode cX8_add 17 = .ok (.iload_n 1, 1) := by decide +kernel
theorem dX8_add_18 : decode cX8_add 18 = .ok (.invokestatic 20, 3) := by decide +kernel
theorem dX8_add_21 : decode cX8_add 21 = .ok (.aload_n 0, 1) := by decide +kernel
theorem dX8_add_22 : decode cX8_add 22 = .ok (.getfield 13, 3) := by decide +kernel
theorem dX8_add_25 : decode cX8_add 25 = .ok (.aload_n 0, 1) := by decide +kernel
theorem dX8_add_26 : decode cX8_add 26 = .ok (.getfield 16, 3) := by decide +kernel
theorem dX8_add_29 : decode cX8_add 29 = .ok (.iload_n 2, 1) := by decide +kernel
theorem dX8_add_30 : decode cX8_add 30 = .ok (.invokestatic 20, 3) := by decide +kernel
theorem dX8_add_33 : decode cX8_add 33 = .ok (.aload_n 0, 1) := by decide +kernel
theorem dX8_add_34 : decode cX8_add 34 = .ok (.dup, 1) := by decide +kernel
theorem dX8_add_35 : decode cX8_add 35 = .ok (.getfield 16, 3) := by decide +kernel
theorem dX8_add_38 : decode cX8_add 38 = .ok (.iconst 1, 1) := by decide +kernel
theorem dX8_add_39 : decode cX8_add 39 = .ok (.iadd, 1) := by decide +kernel
theorem dX8_add_40 : decode cX8_add 40 = .ok (.putfield 16, 3) := by decide +kernel
theorem dX8_add_43 : decode cX8_add 43 = .ok (.return_, 1) := by decide +kernel
set_option maxRecDepth 20000 in
theorem ggX8_copy_X5_copy : GoodIn wsX8_copy wsX5_copy := goodIn_r _ [7, 8, 9, 6, 10] (by decide +kernel) (by decide +kernel)
set_option maxRecDepth 20000 in
theorem gX8_copy_X5_copy : GoodIn wsX8_copy (va_wsS RX8 26 yX5_copy wsX5_copy) := goodIn_app (goodIn_of _ (by decide +kernel)) ggX8_copy_X5_copy
theorem dX8_copy_0 : decode cX8_copy 0 = .ok (.aload_n 1, 1) := by decide +kernel
theorem dX8_copy_1 : decode cX8_copy 1 = .ok (.getfield 9, 3) := by decide +kernel
theorem dX8_copy_4 : decode cX8_copy 4 = .ok (.aload_n 0, 1) := by decide +kernel
theorem dX8_copy_5 : decode cX8_copy 5 = .ok (.getfield 9, 3) := by decide +kernel
theorem dX8_copy_8 : decode cX8_copy 8 = .ok (.invokestatic 26, 3) := by decide +kernel
theorem dX8_copy_11 : decode cX8_copy 11 = .ok (.aload_n 1, 1) := by decide +kernel
theorem dX8_copy_12 : decode cX8_copy 12 = .ok (.getfield 13, 3) := by decide +kernel
theorem dX8_copy_15 : decode cX8_copy 15 = .ok (.aload_n 0, 1) := by decide +kernel
theorem dX8_copy_16 : decode cX8_copy 16 = .ok (.getfield 13, 3) := by decide +kernel
theorem dX8_copy_19 : decode cX8_copy 19 = .ok (.invokestatic 26, 3) := by decide +kernel
theorem dX8_copy_22 : decode cX8_copy 22 = .ok (.aload_n 0, 1) := by decide +kernel
theorem dX8_copy_23 : decode cX8_copy 23 = .ok (.aload_n 1, 1) := by decide +kernel
theorem dX8_copy_24 : decode cX8_copy 24 = .ok (.getfield 16, 3) := by decide +kernel
theorem dX8_copy_27 : decode cX8_copy 27 = .ok (.putfield 16, 3) := by decide +kernel
theorem dX8_copy_30 : decode cX8_copy 30 = .ok (.return_, 1) := by decide +kernel
set_option maxRecDepth 20000 in
theorem ggX8_hold_X5_at : GoodIn wsX8_hold wsX5_at := goodIn_r _ [7] (by decide +kernel) (by decide +kernel)
set_option maxRecDepth 20000 in
theorem gX8_hold_X5_at : GoodIn wsX8_hold (va_wsS RX8 30 yX5_at wsX5_at) := goodIn_app (goodIn_of _ (by decide +kernel)) ggX8_hold_X5_at
theorem dX8_hold_0 : decode cX8_hold 0 = .ok (.iconst 0, 1) := by decide +kernel
theorem dX8_hold_1 : decode cX8_hold 1 = .ok (.istore_n 2, 1) := by decide +kernel
theorem dX8_hold_2 : decode cX8_hold 2 = .ok (.iload_n 2, 1) := by decide +kernel
theorem dX8_hold_3 : decode cX8_hold 3 = .ok (.aload_n 0, 1) := by decide +kernel
theorem dX8_hold_4 : decode cX8_hold 4 = .ok (.getfield 16, 3) := by decide +kernel
theorem dX8_hold_7 : decode cX8_hold 7 = .ok (.if_icmp .ge 44, 3) := by decide +kernel
theorem dX8_hold_10 : decode cX8_hold 10 = .ok (.iload_n 2, 1) := by decide +kernel
theorem dX8_hold_11 : decode cX8_hold 11 = .ok (.bipush 8, 2) := by decide +kernel
theorem dX8_hold_13 : decode cX8_hold 13 = .ok (.if_icmp .ge 38, 3) := by decide +kernel
theorem dX8_hold_16 : decode cX8_hold 16 = .ok (.aload_n 1, 1) := by decide +kernel
theorem dX8_hold_17 : decode cX8_hold 17 = .ok (.aload_n 0, 1) := by decide +kernel
theorem dX8_hold_18 : decode cX8_hold 18 = .ok (.getfield 9, 3) := by decide +kernel
theorem dX8_hold_21 : decode cX8_hold 21 = .ok (.iload_n 2, 1) := by decide +kernel
theorem dX8_hold_22 : decode cX8_hold 22 = .ok (.invokestatic 30, 3) := by decide +kernel
theorem dX8_hold_25 : decode cX8_hold 25 = .ok (.invokestatic 30, 3) := by decide +kernel
theorem dX8_hold_28 : decode cX8_hold 28 = .ok (.aload_n 1, 1) := by decide +kernel
theorem dX8_hold_29 : decode cX8_hold 29 = .ok (.aload_n 0, 1) := by decide +kernel
theorem dX8_hold_30 : decode cX8_hold 30 = .ok (.getfield 13, 3) := by decide +kernel
theorem dX8_hold_33 : decode cX8_hold 33 = .ok (.iload_n 2, 1) := by decide +kernel
theorem dX8_hold_34 : decode cX8_hold 34 = .ok (.invokestatic 30, 3) := by decide +kernel
theorem dX8_hold_37 : decode cX8_hold 37 = .ok (.invokestatic 30, 3) := by decide +kernel
theorem dX8_hold_40 : decode cX8_hold 40 = .ok (.if_icmp .lt 5, 3) := by decide +kernel
theorem dX8_hold_43 : decode cX8_hold 43 = .ok (.iconst 0, 1) := by decide +kernel
theorem dX8_hold_44 : decode cX8_hold 44 = .ok (.ireturn, 1) := by decide +kernel
theorem dX8_hold_45 : decode cX8_hold 45 = .ok (.iinc 2 1, 3) := by decide +kernel
theorem dX8_hold_48 : decode cX8_hold 48 = .ok (.goto (-46), 3) := by decide +kernel
theorem dX8_hold_51 : decode cX8_hold 51 = .ok (.iconst 1, 1) := by decide +kernel
theorem dX8_hold_52 : decode cX8_hold 52 = .ok (.ireturn, 1) := by decide +kernel
set_option maxRecDepth 20000 in
theorem ggX9_init_X10_init : GoodIn wsX9_init wsX10_init := goodIn_r _ [10, 11, 2, 3, 12, 13, 14, 15, 16, 17, 18, 19, 20, 21, 22, 23, 24, 25, 26, 27, 28, 29, 30, 31, 32, 33, 34, 35, 36, 37, 38, 39, 40, 41, 42, 43, 44, 45, 46, 47, 56, 57, 58] (by decide +kernel) (by decide +kernel)
set_option maxRecDepth 20000 in
theorem gX9_init_X10_init : GoodIn wsX9_init (wsX10_init) := ggX9_init_X10_init
theorem dX9_init_0 : decode cX9_init 0 = .ok (.aload_n 0, 1) := by decide +kernel
theorem dX9_init_1 : decode cX9_init 1 = .ok (.invokespecial 3, 3) := by decide +kernel
theorem dX9_init_4 : decode cX9_init 4 = .ok (.aload_n 0, 1) := by decide +kernel
theorem dX9_init_5 : decode cX9_init 5 = .ok (.new 9, 3) := by decide +kernel
theorem dX9_init_8 : decode cX9_init 8 = .ok (.dup, 1) := by decide +kernel
theorem dX9_init_9 : decode cX9_init 9 = .ok (.invokespecial 11, 3) := by decide +kernel
theorem dX9_init_12 : decode cX9_init 12 = .ok (.putfield 12, 3) := by decide +kernel
theorem dX9_init_15 : decode cX9_init 15 = .ok (.return_, 1) := by decide +kernel
set_option maxRecDepth 20000 in
theorem ggX9_run_X3_faultPlace : GoodIn wsX9_run wsX3_faultPlace := goodIn_r _ [11, 12, 13, 14, 15, 10, 16, 17, 18, 19, 20, 21, 22, 23, 24, 25, 26, 27, 135, 136] (by decide +kernel) (by decide +kernel)
set_option maxRecDepth 20000 in
theorem gX9_run_X3_faultPlace : GoodIn wsX9_run (wsV RX9 18 RX3 yX3_faultPlace wsX3_faultPlace) := goodIn_app (goodIn_of _ (by decide +kernel)) ggX9_run_X3_faultPlace
set_option maxRecDepth 20000 in
theorem ggX9_run_X9_begin : GoodIn wsX9_run wsX9_begin := goodIn_r _ [32, 33, 34, 2, 35, 36, 37, 38, 39, 40, 41, 42, 43, 44, 45, 46, 47, 48, 49, 50, 51, 52, 53, 54, 55, 20, 56, 57, 19, 21, 58, 59, 60, 61, 62, 63, 64, 65, 66, 137, 138, 139, 140, 141, 142, 143, 144, 145, 146, 147, 148, 149, 150, 151, 152, 153, 154, 155, 156] (by decide +kernel) (by decide +kernel)
set_option maxRecDepth 20000 in
theorem gX9_run_X9_begin : GoodIn wsX9_run (wsV RX9 24 RX9 yX9_begin wsX9_begin) := goodIn_app (goodIn_of _ (by decide +kernel)) ggX9_run_X9_begin
set_option maxRecDepth 20000 in
theorem ggX9_run_X3_kindAt : GoodIn wsX9_run wsX3_kindAt := goodIn_r _ [70, 13, 14, 15, 10, 16, 17, 18, 19, 20, 21, 135, 136] (by decide +kernel) (by decide +kernel)
set_option maxRecDepth 20000 in
theorem gX9_run_X3_kindAt : GoodIn wsX9_run (wsV RX9 35 RX3 yX3_kindAt wsX3_kindAt) := goodIn_app (goodIn_of _ (by decide +kernel)) ggX9_run_X3_kindAt
set_option maxRecDepth 20000 in
theorem ggX9_run_X9_tryAct : GoodIn wsX9_run wsX9_tryAct := goodIn_r _ [74, 33, 34, 2, 35, 75, 14, 15, 10, 16, 17, 18, 19, 20, 21, 76, 77, 78, 43, 79, 46, 47, 80, 81, 82, 83, 84, 52, 85, 86, 87, 88, 45, 89, 90, 5, 91, 92, 93, 94, 95, 96, 97, 98, 99, 50, 100, 101, 102, 103, 104, 105, 106, 49, 107, 108, 109, 110, 111, 112, 113, 114, 115, 116, 117, 118, 119, 120, 121, 122, 123, 124, 125, 126, 127, 53, 128, 129, 130, 31, 131, 36, 37, 38, 39, 137, 138, 139, 140, 141, 142, 143, 144, 135, 136, 145, 146, 147, 148, 149, 150, 151, 152, 153] (by decide +kernel) (by decide +kernel)
set_option maxRecDepth 20000 in
theorem gX9_run_X9_tryAct : GoodIn wsX9_run (wsV RX9 39 RX9 yX9_tryAct wsX9_tryAct) := goodIn_app (goodIn_of _ (by decide +kernel)) ggX9_run_X9_tryAct
set_option maxRecDepth 20000 in
theorem ggX9_run_X3_lengthOf : GoodIn wsX9_run wsX3_lengthOf := goodIn_r _ [134] (by decide +kernel) (by decide +kernel)
set_option maxRecDepth 20000 in
theorem gX9_run_X3_lengthOf : GoodIn wsX9_run (va_wsS RX9 43 yX3_lengthOf wsX3_lengthOf) := goodIn_app (goodIn_of _ (by decide +kernel)) ggX9_run_X3_lengthOf
theorem dX9_run_0 : decode cX9_run 0 = .ok (.aload_n 2, 1) := by decide +kernel
theorem dX9_run_1 : decode cX9_run 1 = .ok (.invokevirtual 18, 3) := by decide +kernel
theorem dX9_run_4 : decode cX9_run 4 = .ok (.bipush (-6), 2) := by decide +kernel
theorem dX9_run_6 : decode cX9_run 6 = .ok (.if_icmp .eq 6, 3) := by decide +kernel
theorem dX9_run_9 : decode cX9_run 9 = .ok (.bipush (-5), 2) := by decide +kernel
theorem dX9_run_11 : decode cX9_run 11 = .ok (.ireturn, 1) := by decide +kernel
theorem dX9_run_12 : decode cX9_run 12 = .ok (.aload_n 0, 1) := by decide +kernel
theorem dX9_run_13 : decode cX9_run 13 = .ok (.aload_n 1, 1) := by decide +kernel
theorem dX9_run_14 : decode cX9_run 14 = .ok (.invokevirtual 24, 3) := by decide +kernel
theorem dX9_run_17 : decode cX9_run 17 = .ok (.iconst 0, 1) := by decide +kernel
theorem dX9_run_18 : decode cX9_run 18 = .ok (.istore_n 3, 1) := by decide +kernel
theorem dX9_run_19 : decode cX9_run 19 = .ok (.iload_n 3, 1) := by decide +kernel
theorem dX9_run_20 : decode cX9_run 20 = .ok (.aload_n 2, 1) := by decide +kernel
theorem dX9_run_21 : decode cX9_run 21 = .ok (.getfield 28, 3) := by decide +kernel
theorem dX9_run_24 : decode cX9_run 24 = .ok (.if_icmp .ge 42, 3) := by decide +kernel
theorem dX9_run_27 : decode cX9_run 27 = .ok (.aload_n 0, 1) := by decide +kernel
theorem dX9_run_28 : decode cX9_run 28 = .ok (.getfield 32, 3) := by decide +kernel
theorem dX9_run_31 : decode cX9_run 31 = .ok (.bipush (-6), 2) := by decide +kernel
theorem dX9_run_33 : decode cX9_run 33 = .ok (.if_icmp .ne 33, 3) := by decide +kernel
theorem dX9_run_36 : decode cX9_run 36 = .ok (.aload_n 2, 1) := by decide +kernel
theorem dX9_run_37 : decode cX9_run 37 = .ok (.iload_n 3, 1) := by decide +kernel
theorem dX9_run_38 : decode cX9_run 38 = .ok (.invokevirtual 35, 3) := by decide +kernel
theorem dX9_run_41 : decode cX9_run 41 = .ok (.istore 4, 2) := by decide +kernel
theorem dX9_run_43 : decode cX9_run 43 = .ok (.aload_n 0, 1) := by decide +kernel
theorem dX9_run_44 : decode cX9_run 44 = .ok (.iload 4, 2) := by decide +kernel
theorem dX9_run_46 : decode cX9_run 46 = .ok (.aload_n 2, 1) := by decide +kernel
theorem dX9_run_47 : decode cX9_run 47 = .ok (.iload_n 3, 1) := by decide +kernel
theorem dX9_run_48 : decode cX9_run 48 = .ok (.invokevirtual 39, 3) := by decide +kernel
theorem dX9_run_51 : decode cX9_run 51 = .ok (.iload_n 3, 1) := by decide +kernel
theorem dX9_run_52 : decode cX9_run 52 = .ok (.iconst 1, 1) := by decide +kernel
theorem dX9_run_53 : decode cX9_run 53 = .ok (.iload 4, 2) := by decide +kernel
theorem dX9_run_55 : decode cX9_run 55 = .ok (.invokestatic 43, 3) := by decide +kernel
theorem dX9_run_58 : decode cX9_run 58 = .ok (.invokestatic 46, 3) := by decide +kernel
theorem dX9_run_61 : decode cX9_run 61 = .ok (.iadd, 1) := by decide +kernel
theorem dX9_run_62 : decode cX9_run 62 = .ok (.istore_n 3, 1) := by decide +kernel
theorem dX9_run_63 : decode cX9_run 63 = .ok (.goto (-44), 3) := by decide +kernel
theorem dX9_run_66 : decode cX9_run 66 = .ok (.aload_n 0, 1) := by decide +kernel
theorem dX9_run_67 : decode cX9_run 67 = .ok (.getfield 32, 3) := by decide +kernel
theorem dX9_run_70 : decode cX9_run 70 = .ok (.bipush (-6), 2) := by decide +kernel
theorem dX9_run_72 : decode cX9_run 72 = .ok (.if_icmp .ne 7, 3) := by decide +kernel
theorem dX9_run_75 : decode cX9_run 75 = .ok (.iconst 0, 1) := by decide +kernel
theorem dX9_run_76 : decode cX9_run 76 = .ok (.goto 5, 3) := by decide +kernel
theorem dX9_run_79 : decode cX9_run 79 = .ok (.bipush (-3), 2) := by decide +kernel
theorem dX9_run_81 : decode cX9_run 81 = .ok (.ireturn, 1) := by decide +kernel
set_option maxRecDepth 20000 in
theorem ggX9_begin_X10_copy : GoodIn wsX9_begin wsX10_copy := goodIn_r _ [13, 14, 15, 16, 17, 18, 19, 20, 21, 22, 23, 24, 25, 26, 27, 28, 29, 30, 31, 32, 33, 34, 35, 36, 37, 38, 47, 48, 49, 50, 51, 52, 53, 54, 55, 56, 57, 58] (by decide +kernel) (by decide +kernel)
set_option maxRecDepth 20000 in
theorem gX9_begin_X10_copy : GoodIn wsX9_begin (wsV RX9 52 RX10 yX10_copy wsX10_copy) := goodIn_app (goodIn_of _ (by decide +kernel)) ggX9_begin_X10_copy
theorem dX9_begin_0 : decode cX9_begin 0 = .ok (.aload_n 0, 1) := by decide +kernel
theorem dX9_begin_1 : decode cX9_begin 1 = .ok (.getfield 12, 3) := by decide +kernel
theorem dX9_begin_4 : decode cX9_begin 4 = .ok (.aload_n 1, 1) := by decide +kernel
theorem dX9_begin_5 : decode cX9_begin 5 = .ok (.invokevirtual 52, 3) := by decide +kernel
theorem dX9_begin_8 : decode cX9_begin 8 = .ok (.aload_n 0, 1) := by decide +kernel
theorem dX9_begin_9 : decode cX9_begin 9 = .ok (.iconst 0, 1) := by decide +kernel
theorem dX9_begin_10 : decode cX9_begin 10 = .ok (.putfield 55, 3) := by decide +kernel
theorem dX9_begin_13 : decode cX9_begin 13 = .ok (.aload_n 0, 1) := by decide +kernel
theorem dX9_begin_14 : decode cX9_begin 14 = .ok (.bipush (-6), 2) := by decide +kernel
theorem dX9_begin_16 : decode cX9_begin 16 = .ok (.putfield 32, 3) := by decide +kernel
theorem dX9_begin_19 : decode cX9_begin 19 = .ok (.aload_n 0, 1) := by decide +kernel
theorem dX9_begin_20 : decode cX9_begin 20 = .ok (.bipush (-6), 2) := by decide +kernel
theorem dX9_begin_22 : decode cX9_begin 22 = .ok (.putfield 58, 3) := by decide +kernel
theorem dX9_begin_25 : decode cX9_begin 25 = .ok (.aload_n 0, 1) := by decide +kernel
theorem dX9_begin_26 : decode cX9_begin 26 = .ok (.iconst 0, 1) := by decide +kernel
theorem dX9_begin_27 : decode cX9_begin 27 = .ok (.putfield 61, 3) := by decide +kernel
theorem dX9_begin_30 : decode cX9_begin 30 = .ok (.aload_n 0, 1) := by decide +kernel
theorem dX9_begin_31 : decode cX9_begin 31 = .ok (.bipush (-6), 2) := by decide +kernel
theorem dX9_begin_33 : decode cX9_begin 33 = .ok (.putfield 64, 3) := by decide +kernel
theorem dX9_begin_36 : decode cX9_begin 36 = .ok (.aload_n 0, 1) := by decide +kernel
theorem dX9_begin_37 : decode cX9_begin 37 = .ok (.bipush (-6), 2) := by decide +kernel
theorem dX9_begin_39 : decode cX9_begin 39 = .ok (.putfield 67, 3) := by decide +kernel
theorem dX9_begin_42 : decode cX9_begin 42 = .ok (.aload_n 0, 1) := by decide +kernel
theorem dX9_begin_43 : decode cX9_begin 43 = .ok (.iconst 0, 1) := by decide +kernel
theorem dX9_begin_44 : decode cX9_begin 44 = .ok (.putfield 70, 3) := by decide +kernel
theorem dX9_begin_47 : decode cX9_begin 47 = .ok (.return_, 1) := by decide +kernel
set_option maxRecDepth 20000 in
theorem ggX9_tryAct_X3_signAt : GoodIn wsX9_tryAct wsX3_signAt := goodIn_r _ [9, 10, 11, 12, 13, 14, 93, 94] (by decide +kernel) (by decide +kernel)
set_option maxRecDepth 20000 in
theorem gX9_tryAct_X3_signAt : GoodIn wsX9_tryAct (wsV RX9 73 RX3 yX3_signAt wsX3_signAt) := goodIn_app (goodIn_of _ (by decide +kernel)) ggX9_tryAct_X3_signAt
set_option maxRecDepth 20000 in
theorem ggX9_tryAct_X10_priceOf : GoodIn wsX9_tryAct wsX10_priceOf := goodIn_r _ [19, 20, 21, 22, 12, 13, 14, 95, 96, 97, 98, 99, 100, 101, 102, 103] (by decide +kernel) (by decide +kernel)
set_option maxRecDepth 20000 in
theorem gX9_tryAct_X10_priceOf : GoodIn wsX9_tryAct (wsV RX9 76 RX10 yX10_priceOf wsX10_priceOf) := goodIn_app (goodIn_of _ (by decide +kernel)) ggX9_tryAct_X10_priceOf
set_option maxRecDepth 20000 in
theorem ggX9_tryAct_X10_act : GoodIn wsX9_tryAct wsX10_act := goodIn_r _ [26, 27, 28, 29, 30, 18, 31, 32, 20, 33, 34, 35, 36, 22, 12, 13, 14, 37, 38, 39, 40, 41, 42, 43, 44, 45, 46, 47, 48, 49, 50, 51, 52, 53, 54, 55, 56, 57, 58, 59, 60, 61, 62, 16, 17, 19, 21, 63, 64, 65, 66, 67, 68, 69, 70, 71, 72, 73, 74, 75, 95, 96, 97, 98, 99, 100, 101, 102, 103] (by decide +kernel) (by decide +kernel)
set_option maxRecDepth 20000 in
theorem gX9_tryAct_X10_act : GoodIn wsX9_tryAct (wsV RX9 79 RX10 yX10_act wsX10_act) := goodIn_app (goodIn_of _ (by decide +kernel)) ggX9_tryAct_X10_act
set_option maxRecDepth 20000 in
theorem ggX9_tryAct_X9_noteSale : GoodIn wsX9_tryAct wsX9_noteSale := goodIn_r _ [80, 81, 2, 82, 83, 84, 85, 86, 87, 88, 89, 90, 91, 92] (by decide +kernel) (by decide +kernel)
set_option maxRecDepth 20000 in
theorem gX9_tryAct_X9_noteSale : GoodIn wsX9_tryAct (wsV RX9 83 RX9 yX9_noteSale wsX9_noteSale) := goodIn_app (goodIn_of _ (by decide +kernel)) ggX9_tryAct_X9_noteSale
theorem dX9_tryAct_0 : decode cX9_tryAct 0 = .ok (.aload_n 2, 1) := by decide +kernel
theorem dX9_tryAct_1 : decode cX9_tryAct 1 = .ok (.iload_n 3, 1) := by decide +kernel
theorem dX9_tryAct_2 : decode cX9_tryAct 2 = .ok (.invokevirtual 73, 3) := by decide +kernel
theorem dX9_tryAct_5 : decode cX9_tryAct 5 = .ok (.bipush 65, 2) := by decide +kernel
theorem dX9_tryAct_7 : decode cX9_tryAct 7 = .ok (.isub, 1) := by decide +kernel
theorem dX9_tryAct_8 : decode cX9_tryAct 8 = .ok (.istore 4, 2) := by decide +kernel
theorem dX9_tryAct_10 : decode cX9_tryAct 10 = .ok (.aload_n 2, 1) := by decide +kernel
theorem dX9_tryAct_11 : decode cX9_tryAct 11 = .ok (.iload_n 1, 1) := by decide +kernel
theorem dX9_tryAct_12 : decode cX9_tryAct 12 = .ok (.ifCond .ne 9, 3) := by decide +kernel
theorem dX9_tryAct_15 : decode cX9_tryAct 15 = .ok (.iload_n 3, 1) := by decide +kernel
theorem dX9_tryAct_16 : decode cX9_tryAct 16 = .ok (.iconst 1, 1) := by decide +kernel
theorem dX9_tryAct_17 : decode cX9_tryAct 17 = .ok (.iadd, 1) := by decide +kernel
theorem dX9_tryAct_18 : decode cX9_tryAct 18 = .ok (.goto 6, 3) := by decide +kernel
theorem dX9_tryAct_21 : decode cX9_tryAct 21 = .ok (.iload_n 3, 1) := by decide +kernel
theorem dX9_tryAct_22 : decode cX9_tryAct 22 = .ok (.iconst 2, 1) := by decide +kernel
theorem dX9_tryAct_23 : decode cX9_tryAct 23 = .ok (.iadd, 1) := by decide +kernel
theorem dX9_tryAct_24 : decode cX9_tryAct 24 = .ok (.invokevirtual 73, 3) := by decide +kernel
theorem dX9_tryAct_27 : decode cX9_tryAct 27 = .ok (.bipush 97, 2) := by decide +kernel
theorem dX9_tryAct_29 : decode cX9_tryAct 29 = .ok (.isub, 1) := by decide +kernel
theorem dX9_tryAct_30 : decode cX9_tryAct 30 = .ok (.istore 5, 2) := by decide +kernel
theorem dX9_tryAct_32 : decode cX9_tryAct 32 = .ok (.aload_n 2, 1) := by decide +kernel
theorem dX9_tryAct_33 : decode cX9_tryAct 33 = .ok (.iload_n 3, 1) := by decide +kernel
theorem dX9_tryAct_34 : decode cX9_tryAct 34 = .ok (.iconst 3, 1) := by decide +kernel
theorem dX9_tryAct_35 : decode cX9_tryAct 35 = .ok (.iadd, 1) := by decide +kernel
theorem dX9_tryAct_36 : decode cX9_tryAct 36 = .ok (.invokevirtual 73, 3) := by decide +kernel
theorem dX9_tryAct_39 : decode cX9_tryAct 39 = .ok (.bipush 65, 2) := by decide +kernel
theorem dX9_tryAct_41 : decode cX9_tryAct 41 = .ok (.isub, 1) := by decide +kernel
theorem dX9_tryAct_42 : decode cX9_tryAct 42 = .ok (.istore 6, 2) := by decide +kernel
theorem dX9_tryAct_44 : decode cX9_tryAct 44 = .ok (.aload_n 0, 1) := by decide +kernel
theorem dX9_tryAct_45 : decode cX9_tryAct 45 = .ok (.getfield 12, 3) := by decide +kernel
theorem dX9_tryAct_48 : decode cX9_tryAct 48 = .ok (.iload 5, 2) := by decide +kernel
theorem dX9_tryAct_50 : decode cX9_tryAct 50 = .ok (.invokevirtual 76, 3) := by decide +kernel
theorem dX9_tryAct_53 : decode cX9_tryAct 53 = .ok (.istore 7, 2) := by decide +kernel
theorem dX9_tryAct_55 : decode cX9_tryAct 55 = .ok (.aload_n 0, 1) := by decide +kernel
theorem dX9_tryAct_56 : decode cX9_tryAct 56 = .ok (.getfield 12, 3) := by decide +kernel
theorem dX9_tryAct_59 : decode cX9_tryAct 59 = .ok (.iload_n 1, 1) := by decide +kernel
theorem dX9_tryAct_60 : decode cX9_tryAct 60 = .ok (.iload 4, 2) := by decide +kernel
theorem dX9_tryAct_62 : decode cX9_tryAct 62 = .ok (.iload 5, 2) := by decide +kernel
theorem dX9_tryAct_64 : decode cX9_tryAct 64 = .ok (.iload 6, 2) := by decide +kernel
theorem dX9_tryAct_66 : decode cX9_tryAct 66 = .ok (.invokevirtual 79, 3) := by decide +kernel
theorem dX9_tryAct_69 : decode cX9_tryAct 69 = .ok (.istore 8, 2) := by decide +kernel
theorem dX9_tryAct_71 : decode cX9_tryAct 71 = .ok (.iload 8, 2) := by decide +kernel
theorem dX9_tryAct_73 : decode cX9_tryAct 73 = .ok (.ifCond .eq 18, 3) := by decide +kernel
theorem dX9_tryAct_76 : decode cX9_tryAct 76 = .ok (.aload_n 0, 1) := by decide +kernel
theorem dX9_tryAct_77 : decode cX9_tryAct 77 = .ok (.aload_n 0, 1) := by decide +kernel
theorem dX9_tryAct_78 : decode cX9_tryAct 78 = .ok (.getfield 55, 3) := by decide +kernel
theorem dX9_tryAct_81 : decode cX9_tryAct 81 = .ok (.putfield 32, 3) := by decide +kernel
theorem dX9_tryAct_84 : decode cX9_tryAct 84 = .ok (.aload_n 0, 1) := by decide +kernel
theorem dX9_tryAct_85 : decode cX9_tryAct 85 = .ok (.iload 8, 2) := by decide +kernel
theorem dX9_tryAct_87 : decode cX9_tryAct 87 = .ok (.putfield 58, 3) := by decide +kernel
theorem dX9_tryAct_90 : decode cX9_tryAct 90 = .ok (.return_, 1) := by decide +kernel
theorem dX9_tryAct_91 : decode cX9_tryAct 91 = .ok (.iload_n 1, 1) := by decide +kernel
theorem dX9_tryAct_92 : decode cX9_tryAct 92 = .ok (.iconst 1, 1) := by decide +kernel
theorem dX9_tryAct_93 : decode cX9_tryAct 93 = .ok (.if_icmp .ne 11, 3) := by decide +kernel
theorem dX9_tryAct_96 : decode cX9_tryAct 96 = .ok (.aload_n 0, 1) := by decide +kernel
theorem dX9_tryAct_97 : decode cX9_tryAct 97 = .ok (.iload 5, 2) := by decide +kernel
theorem dX9_tryAct_99 : decode cX9_tryAct 99 = .ok (.iload 7, 2) := by decide +kernel
theorem dX9_tryAct_101 : decode cX9_tryAct 101 = .ok (.invokevirtual 83, 3) := by decide +kernel
theorem dX9_tryAct_104 : decode cX9_tryAct 104 = .ok (.aload_n 0, 1) := by decide +kernel
theorem dX9_tryAct_105 : decode cX9_tryAct 105 = .ok (.dup, 1) := by decide +kernel
theorem dX9_tryAct_106 : decode cX9_tryAct 106 = .ok (.getfield 55, 3) := by decide +kernel
theorem dX9_tryAct_109 : decode cX9_tryAct 109 = .ok (.iconst 1, 1) := by decide +kernel
theorem dX9_tryAct_110 : decode cX9_tryAct 110 = .ok (.iadd, 1) := by decide +kernel
theorem dX9_tryAct_111 : decode cX9_tryAct 111 = .ok (.putfield 55, 3) := by decide +kernel
theorem dX9_tryAct_114 : decode cX9_tryAct 114 = .ok (.return_, 1) := by decide +kernel
theorem dX9_noteSale_0 : decode cX9_noteSale 0 = .ok (.aload_n 0, 1) := by decide +kernel
theorem dX9_noteSale_1 : decode cX9_noteSale 1 = .ok (.getfield 61, 3) := by decide +kernel
theorem dX9_noteSale_4 : decode cX9_noteSale 4 = .ok (.ifCond .ne 16, 3) := by decide +kernel
theorem dX9_noteSale_7 : decode cX9_noteSale 7 = .ok (.aload_n 0, 1) := by decide +kernel
theorem dX9_noteSale_8 : decode cX9_noteSale 8 = .ok (.aload_n 0, 1) := by decide +kernel
theorem dX9_noteSale_9 : decode cX9_noteSale 9 = .ok (.getfield 55, 3) := by decide +kernel
theorem dX9_noteSale_12 : decode cX9_noteSale 12 = .ok (.putfield 64, 3) := by decide +kernel
theorem dX9_noteSale_15 : decode cX9_noteSale 15 = .ok (.aload_n 0, 1) := by decide +kernel
theorem dX9_noteSale_16 : decode cX9_noteSale 16 = .ok (.iload_n 1, 1) := by decide +kernel
theorem dX9_noteSale_17 : decode cX9_noteSale 17 = .ok (.putfield 67, 3) := by decide +kernel
theorem dX9_noteSale_20 : decode cX9_noteSale 20 = .ok (.aload_n 0, 1) := by decide +kernel
theorem dX9_noteSale_21 : decode cX9_noteSale 21 = .ok (.dup, 1) := by decide +kernel
theorem dX9_noteSale_22 : decode cX9_noteSale 22 = .ok (.getfield 61, 3) := by decide +kernel
theorem dX9_noteSale_25 : decode cX9_noteSale 25 = .ok (.iconst 1, 1) := by decide +kernel
theorem dX9_noteSale_26 : decode cX9_noteSale 26 = .ok (.iadd, 1) := by decide +kernel
theorem dX9_noteSale_27 : decode cX9_noteSale 27 = .ok (.putfield 61, 3) := by decide +kernel
theorem dX9_noteSale_30 : decode cX9_noteSale 30 = .ok (.aload_n 0, 1) := by decide +kernel
theorem dX9_noteSale_31 : decode cX9_noteSale 31 = .ok (.dup, 1) := by decide +kernel
theorem dX9_noteSale_32 : decode cX9_noteSale 32 = .ok (.getfield 70, 3) := by decide +kernel
theorem dX9_noteSale_35 : decode cX9_noteSale 35 = .ok (.iload_n 2, 1) := by decide +kernel
theorem dX9_noteSale_36 : decode cX9_noteSale 36 = .ok (.iadd, 1) := by decide +kernel
theorem dX9_noteSale_37 : decode cX9_noteSale 37 = .ok (.putfield 70, 3) := by decide +kernel
theorem dX9_noteSale_40 : decode cX9_noteSale 40 = .ok (.return_, 1) := by decide +kernel
set_option maxRecDepth 20000 in
theorem ggX10_init_X8_init : GoodIn wsX10_init wsX8_init := goodIn_r _ [19, 20, 2, 3, 4, 21, 22, 23, 40, 41, 42] (by decide +kernel) (by decide +kernel)
set_option maxRecDepth 20000 in
theorem gX10_init_X8_init : GoodIn wsX10_init (wsX8_init) := ggX10_init_X8_init
set_option maxRecDepth 20000 in
theorem ggX10_init_X5_put : GoodIn wsX10_init wsX5_put := goodIn_r _ [27] (by decide +kernel) (by decide +kernel)
set_option maxRecDepth 20000 in
theorem gX10_init_X5_put : GoodIn wsX10_init (va_wsS RX10 44 yX5_put wsX5_put) := goodIn_app (goodIn_of _ (by decide +kernel)) ggX10_init_X5_put
set_option maxRecDepth 20000 in
theorem ggX10_init_X5_fill : GoodIn wsX10_init wsX5_fill := goodIn_r _ [30] (by decide +kernel) (by decide +kernel)
set_option maxRecDepth 20000 in
theorem gX10_init_X5_fill : GoodIn wsX10_init (va_wsS RX10 50 yX5_fill wsX5_fill) := goodIn_app (goodIn_of _ (by decide +kernel)) ggX10_init_X5_fill
theorem dX10_init_0 : decode cX10_init 0 = .ok (.aload_n 0, 1) := by decide +kernel
theorem dX10_init_1 : decode cX10_init 1 = .ok (.invokespecial 3, 3) := by decide +kernel
theorem dX10_init_4 : decode cX10_init 4 = .ok (.aload_n 0, 1) := by decide +kernel
theorem dX10_init_5 : decode cX10_init 5 = .ok (.bipush 12, 2) := by decide +kernel
theorem dX10_init_7 : decode cX10_init 7 = .ok (.newarray .int, 2) := by decide +kernel
theorem dX10_init_9 : decode cX10_init 9 = .ok (.putfield 9, 3) := by decide +kernel
theorem dX10_init_12 : decode cX10_init 12 = .ok (.aload_n 0, 1) := by decide +kernel
theorem dX10_init_13 : decode cX10_init 13 = .ok (.bipush 12, 2) := by decide +kernel
theorem dX10_init_15 : decode cX10_init 15 = .ok (.newarray .int, 2) := by decide +kernel
theorem dX10_init_17 : decode cX10_init 17 = .ok (.putfield 15, 3) := by decide +kernel
theorem dX10_init_20 : decode cX10_init 20 = .ok (.aload_n 0, 1) := by decide +kernel
theorem dX10_init_21 : decode cX10_init 21 = .ok (.bipush 12, 2) := by decide +kernel
theorem dX10_init_23 : decode cX10_init 23 = .ok (.newarray .int, 2) := by decide +kernel
theorem dX10_init_25 : decode cX10_init 25 = .ok (.putfield 18, 3) := by decide +kernel
theorem dX10_init_28 : decode cX10_init 28 = .ok (.aload_n 0, 1) := by decide +kernel
theorem dX10_init_29 : decode cX10_init 29 = .ok (.bipush 12, 2) := by decide +kernel
theorem dX10_init_31 : decode cX10_init 31 = .ok (.newarray .int, 2) := by decide +kernel
theorem dX10_init_33 : decode cX10_init 33 = .ok (.putfield 21, 3) := by decide +kernel
theorem dX10_init_36 : decode cX10_init 36 = .ok (.aload_n 0, 1) := by decide +kernel
theorem dX10_init_37 : decode cX10_init 37 = .ok (.bipush 8, 2) := by decide +kernel
theorem dX10_init_39 : decode cX10_init 39 = .ok (.newarray .int, 2) := by decide +kernel
theorem dX10_init_41 : decode cX10_init 41 = .ok (.putfield 24, 3) := by decide +kernel
theorem dX10_init_44 : decode cX10_init 44 = .ok (.aload_n 0, 1) := by decide +kernel
theorem dX10_init_45 : decode cX10_init 45 = .ok (.bipush 8, 2) := by decide +kernel
theorem dX10_init_47 : decode cX10_init 47 = .ok (.newarray .int, 2) := by decide +kernel
theorem dX10_init_49 : decode cX10_init 49 = .ok (.putfield 27, 3) := by decide +kernel
theorem dX10_init_52 : decode cX10_init 52 = .ok (.aload_n 0, 1) := by decide +kernel
theorem dX10_init_53 : decode cX10_init 53 = .ok (.new 30, 3) := by decide +kernel
theorem dX10_init_56 : decode cX10_init 56 = .ok (.dup, 1) := by decide +kernel
theorem dX10_init_57 : decode cX10_init 57 = .ok (.invokespecial 32, 3) := by decide +kernel
theorem dX10_init_60 : decode cX10_init 60 = .ok (.putfield 33, 3) := by decide +kernel
theorem dX10_init_63 : decode cX10_init 63 = .ok (.aload_n 0, 1) := by decide +kernel
theorem dX10_init_64 : decode cX10_init 64 = .ok (.sipush 255, 3) := by decide +kernel
theorem dX10_init_67 : decode cX10_init 67 = .ok (.putfield 37, 3) := by decide +kernel
theorem dX10_init_70 : decode cX10_init 70 = .ok (.aload_n 0, 1) := by decide +kernel
theorem dX10_init_71 : decode cX10_init 71 = .ok (.iconst 0, 1) := by decide +kernel
theorem dX10_init_72 : decode cX10_init 72 = .ok (.putfield 41, 3) := by decide +kernel
theorem dX10_init_75 : decode cX10_init 75 = .ok (.iconst 0, 1) := by decide +kernel
theorem dX10_init_76 : decode cX10_init 76 = .ok (.istore_n 1, 1) := by decide +kernel
theorem dX10_init_77 : decode cX10_init 77 = .ok (.iload_n 1, 1) := by decide +kernel
theorem dX10_init_78 : decode cX10_init 78 = .ok (.bipush 12, 2) := by decide +kernel
theorem dX10_init_80 : decode cX10_init 80 = .ok (.if_icmp .ge 21, 3) := by decide +kernel
theorem dX10_init_83 : decode cX10_init 83 = .ok (.aload_n 0, 1) := by decide +kernel
theorem dX10_init_84 : decode cX10_init 84 = .ok (.getfield 9, 3) := by decide +kernel
theorem dX10_init_87 : decode cX10_init 87 = .ok (.iload_n 1, 1) := by decide +kernel
theorem dX10_init_88 : decode cX10_init 88 = .ok (.iload_n 1, 1) := by decide +kernel
theorem dX10_init_89 : decode cX10_init 89 = .ok (.bipush 8, 2) := by decide +kernel
theorem dX10_init_91 : decode cX10_init 91 = .ok (.irem, 1) := by decide +kernel
theorem dX10_init_92 : decode cX10_init 92 = .ok (.invokestatic 44, 3) := by decide +kernel
theorem dX10_init_95 : decode cX10_init 95 = .ok (.iinc 1 1, 3) := by decide +kernel
theorem dX10_init_98 : decode cX10_init 98 = .ok (.goto (-21), 3) := by decide +kernel
theorem dX10_init_101 : decode cX10_init 101 = .ok (.aload_n 0, 1) := by decide +kernel
theorem dX10_init_102 : decode cX10_init 102 = .ok (.getfield 18, 3) := by decide +kernel
theorem dX10_init_105 : decode cX10_init 105 = .ok (.iconst 5, 1) := by decide +kernel
theorem dX10_init_106 : decode cX10_init 106 = .ok (.invokestatic 50, 3) := by decide +kernel
theorem dX10_init_109 : decode cX10_init 109 = .ok (.aload_n 0, 1) := by decide +kernel
theorem dX10_init_110 : decode cX10_init 110 = .ok (.getfield 21, 3) := by decide +kernel
theorem dX10_init_113 : decode cX10_init 113 = .ok (.iconst 1, 1) := by decide +kernel
theorem dX10_init_114 : decode cX10_init 114 = .ok (.invokestatic 50, 3) := by decide +kernel
theorem dX10_init_117 : decode cX10_init 117 = .ok (.aload_n 0, 1) := by decide +kernel
theorem dX10_init_118 : decode cX10_init 118 = .ok (.getfield 24, 3) := by decide +kernel
theorem dX10_init_121 : decode cX10_init 121 = .ok (.bipush 100, 2) := by decide +kernel
theorem dX10_init_123 : decode cX10_init 123 = .ok (.invokestatic 50, 3) := by decide +kernel
theorem dX10_init_126 : decode cX10_init 126 = .ok (.return_, 1) := by decide +kernel
set_option maxRecDepth 20000 in
theorem ggX10_copy_X5_copy : GoodIn wsX10_copy wsX5_copy := goodIn_r _ [13, 14, 15, 12, 16] (by decide +kernel) (by decide +kernel)
set_option maxRecDepth 20000 in
theorem gX10_copy_X5_copy : GoodIn wsX10_copy (va_wsS RX10 54 yX5_copy wsX5_copy) := goodIn_app (goodIn_of _ (by decide +kernel)) ggX10_copy_X5_copy
set_option maxRecDepth 20000 in
theorem ggX10_copy_X8_copy : GoodIn wsX10_copy wsX8_copy := goodIn_r _ [21, 22, 23, 24, 25, 11, 12, 13, 14, 15, 16, 35, 36, 37] (by decide +kernel) (by decide +kernel)
set_option maxRecDepth 20000 in
theorem gX10_copy_X8_copy : GoodIn wsX10_copy (wsV RX10 58 RX8 yX8_copy wsX8_copy) := goodIn_app (goodIn_of _ (by decide +kernel)) ggX10_copy_X8_copy
theorem dX10_copy_0 : decode cX10_copy 0 = .ok (.aload_n 1, 1) := by decide +kernel
theorem dX10_copy_1 : decode cX10_copy 1 = .ok (.getfield 9, 3) := by decide +kernel
theorem dX10_copy_4 : decode cX10_copy 4 = .ok (.aload_n 0, 1) := by decide +kernel
theorem dX10_copy_5 : decode cX10_copy 5 = .ok (.getfield 9, 3) := by decide +kernel
theorem dX10_copy_8 : decode cX10_copy 8 = .ok (.invokestatic 54, 3) := by decide +kernel
theorem dX10_copy_11 : decode cX10_copy 11 = .ok (.aload_n 1, 1) := by decide +kernel
theorem dX10_copy_12 : decode cX10_copy 12 = .ok (.getfield 15, 3) := by decide +kernel
theorem dX10_copy_15 : decode cX10_copy 15 = .ok (.aload_n 0, 1) := by decide +kernel
theorem dX10_copy_16 : decode cX10_copy 16 = .ok (.getfield 15, 3) := by decide +kernel
theorem dX10_copy_19 : decode cX10_copy 19 = .ok (.invokestatic 54, 3) := by decide +kernel
theorem dX10_copy_22 : decode cX10_copy 22 = .ok (.aload_n 1, 1) := by decide +kernel
theorem dX10_copy_23 : decode cX10_copy 23 = .ok (.getfield 18, 3) := by decide +kernel
theorem dX10_copy_26 : decode cX10_copy 26 = .ok (.aload_n 0, 1) := by decide +kernel
theorem dX10_copy_27 : decode cX10_copy 27 = .ok (.getfield 18, 3) := by decide +kernel
theorem dX10_copy_30 : decode cX10_copy 30 = .ok (.invokestatic 54, 3) := by decide +kernel
theorem dX10_copy_33 : decode cX10_copy 33 = .ok (.aload_n 1, 1) := by decide +kernel
theorem dX10_copy_34 : decode cX10_copy 34 = .ok (.getfield 21, 3) := by decide +kernel
theorem dX10_copy_37 : decode cX10_copy 37 = .ok (.aload_n 0, 1) := by decide +kernel
theorem dX10_copy_38 : decode cX10_copy 38 = .ok (.getfield 21, 3) := by decide +kernel
theorem dX10_copy_41 : decode cX10_copy 41 = .ok (.invokestatic 54, 3) := by decide +kernel
theorem dX10_copy_44 : decode cX10_copy 44 = .ok (.aload_n 1, 1) := by decide +kernel
theorem dX10_copy_45 : decode cX10_copy 45 = .ok (.getfield 24, 3) := by decide +kernel
theorem dX10_copy_48 : decode cX10_copy 48 = .ok (.aload_n 0, 1) := by decide +kernel
theorem dX10_copy_49 : decode cX10_copy 49 = .ok (.getfield 24, 3) := by decide +kernel
theorem dX10_copy_52 : decode cX10_copy 52 = .ok (.invokestatic 54, 3) := by decide +kernel
theorem dX10_copy_55 : decode cX10_copy 55 = .ok (.aload_n 1, 1) := by decide +kernel
theorem dX10_copy_56 : decode cX10_copy 56 = .ok (.getfield 27, 3) := by decide +kernel
theorem dX10_copy_59 : decode cX10_copy 59 = .ok (.aload_n 0, 1) := by decide +kernel
theorem dX10_copy_60 : decode cX10_copy 60 = .ok (.getfield 27, 3) := by decide +kernel
theorem dX10_copy_63 : decode cX10_copy 63 = .ok (.invokestatic 54, 3) := by decide +kernel
theorem dX10_copy_66 : decode cX10_copy 66 = .ok (.aload_n 0, 1) := by decide +kernel
theorem dX10_copy_67 : decode cX10_copy 67 = .ok (.getfield 33, 3) := by decide +kernel
theorem dX10_copy_70 : decode cX10_copy 70 = .ok (.aload_n 1, 1) := by decide +kernel
theorem dX10_copy_71 : decode cX10_copy 71 = .ok (.getfield 33, 3) := by decide +kernel
theorem dX10_copy_74 : decode cX10_copy 74 = .ok (.invokevirtual 58, 3) := by decide +kernel
theorem dX10_copy_77 : decode cX10_copy 77 = .ok (.aload_n 0, 1) := by decide +kernel
theorem dX10_copy_78 : decode cX10_copy 78 = .ok (.aload_n 1, 1) := by decide +kernel
theorem dX10_copy_79 : decode cX10_copy 79 = .ok (.getfield 37, 3) := by decide +kernel
theorem dX10_copy_82 : decode cX10_copy 82 = .ok (.putfield 37, 3) := by decide +kernel
theorem dX10_copy_85 : decode cX10_copy 85 = .ok (.aload_n 0, 1) := by decide +kernel
theorem dX10_copy_86 : decode cX10_copy 86 = .ok (.aload_n 1, 1) := by decide +kernel
theorem dX10_copy_87 : decode cX10_copy 87 = .ok (.getfield 41, 3) := by decide +kernel
theorem dX10_copy_90 : decode cX10_copy 90 = .ok (.putfield 41, 3) := by decide +kernel
theorem dX10_copy_93 : decode cX10_copy 93 = .ok (.return_, 1) := by decide +kernel
set_option maxRecDepth 20000 in
theorem ggX10_bind_X5_at : GoodIn wsX10_bind wsX5_at := goodIn_r _ [5] (by decide +kernel) (by decide +kernel)
set_option maxRecDepth 20000 in
theorem gX10_bind_X5_at : GoodIn wsX10_bind (va_wsS RX10 61 yX5_at wsX5_at) := goodIn_app (goodIn_of _ (by decide +kernel)) ggX10_bind_X5_at
set_option maxRecDepth 20000 in
theorem ggX10_bind_X5_put : GoodIn wsX10_bind wsX5_put := goodIn_r _ [8] (by decide +kernel) (by decide +kernel)
set_option maxRecDepth 20000 in
theorem gX10_bind_X5_put : GoodIn wsX10_bind (va_wsS RX10 44 yX5_put wsX5_put) := goodIn_app (goodIn_of _ (by decide +kernel)) ggX10_bind_X5_put
theorem dX10_bind_0 : decode cX10_bind 0 = .ok (.aload_n 0, 1) := by decide +kernel
theorem dX10_bind_1 : decode cX10_bind 1 = .ok (.getfield 27, 3) := by decide +kernel
theorem dX10_bind_4 : decode cX10_bind 4 = .ok (.iload_n 1, 1) := by decide +kernel
theorem dX10_bind_5 : decode cX10_bind 5 = .ok (.invokestatic 61, 3) := by decide +kernel
theorem dX10_bind_8 : decode cX10_bind 8 = .ok (.istore 4, 2) := by decide +kernel
theorem dX10_bind_10 : decode cX10_bind 10 = .ok (.aload_n 0, 1) := by decide +kernel
theorem dX10_bind_11 : decode cX10_bind 11 = .ok (.getfield 27, 3) := by decide +kernel
theorem dX10_bind_14 : decode cX10_bind 14 = .ok (.iload_n 1, 1) := by decide +kernel
theorem dX10_bind_15 : decode cX10_bind 15 = .ok (.iload_n 3, 1) := by decide +kernel
theorem dX10_bind_16 : decode cX10_bind 16 = .ok (.ifCond .eq 12, 3) := by decide +kernel
theorem dX10_bind_19 : decode cX10_bind 19 = .ok (.iload 4, 2) := by decide +kernel
theorem dX10_bind_21 : decode cX10_bind 21 = .ok (.iconst 1, 1) := by decide +kernel
theorem dX10_bind_22 : decode cX10_bind 22 = .ok (.iload_n 2, 1) := by decide +kernel
theorem dX10_bind_23 : decode cX10_bind 23 = .ok (.ishl, 1) := by decide +kernel
theorem dX10_bind_24 : decode cX10_bind 24 = .ok (.ior, 1) := by decide +kernel
theorem dX10_bind_25 : decode cX10_bind 25 = .ok (.goto 11, 3) := by decide +kernel
theorem dX10_bind_28 : decode cX10_bind 28 = .ok (.iload 4, 2) := by decide +kernel
theorem dX10_bind_30 : decode cX10_bind 30 = .ok (.iconst 1, 1) := by decide +kernel
theorem dX10_bind_31 : decode cX10_bind 31 = .ok (.iload_n 2, 1) := by decide +kernel
theorem dX10_bind_32 : decode cX10_bind 32 = .ok (.ishl, 1) := by decide +kernel
theorem dX10_bind_33 : decode cX10_bind 33 = .ok (.iconst (-1), 1) := by decide +kernel
theorem dX10_bind_34 : decode cX10_bind 34 = .ok (.ixor, 1) := by decide +kernel
theorem dX10_bind_35 : decode cX10_bind 35 = .ok (.iand, 1) := by decide +kernel
theorem dX10_bind_36 : decode cX10_bind 36 = .ok (.invokestatic 44, 3) := by decide +kernel
theorem dX10_bind_39 : decode cX10_bind 39 = .ok (.return_, 1) := by decide +kernel
set_option maxRecDepth 20000 in
theorem ggX10_pairsOfBrothers_X5_at : GoodIn wsX10_pairsOfBrothers wsX5_at := goodIn_r _ [5] (by decide +kernel) (by decide +kernel)
set_option maxRecDepth 20000 in
theorem gX10_pairsOfBrothers_X5_at : GoodIn wsX10_pairsOfBrothers (va_wsS RX10 61 yX5_at wsX5_at) := goodIn_app (goodIn_of _ (by decide +kernel)) ggX10_pairsOfBrothers_X5_at
set_option maxRecDepth 20000 in
theorem ggX10_pairsOfBrothers_J6_bitCount_0f7a4 : GoodIn wsX10_pairsOfBrothers wsJ6_bitCount_0f7a4 := goodIn_r _ [9, 10, 11, 12] (by decide +kernel) (by decide +kernel)
set_option maxRecDepth 20000 in
theorem gX10_pairsOfBrothers_J6_bitCount_0f7a4 : GoodIn wsX10_pairsOfBrothers (va_wsS RX10 65 yJ6_bitCount_0f7a4 wsJ6_bitCount_0f7a4) := goodIn_app (goodIn_of _ (by decide +kernel)) ggX10_pairsOfBrothers_J6_bitCount_0f7a4
theorem dX10_pairsOfBrothers_0 : decode cX10_pairsOfBrothers 0 = .ok (.iconst 0, 1) := by decide +kernel
theorem dX10_pairsOfBrothers_1 : decode cX10_pairsOfBrothers 1 = .ok (.istore_n 1, 1) := by decide +kernel
theorem dX10_pairsOfBrothers_2 : decode cX10_pairsOfBrothers 2 = .ok (.iconst 0, 1) := by decide +kernel
theorem dX10_pairsOfBrothers_3 : decode cX10_pairsOfBrothers 3 = .ok (.istore_n 2, 1) := by decide +kernel
theorem dX10_pairsOfBrothers_4 : decode cX10_pairsOfBrothers 4 = .ok (.iload_n 2, 1) := by decide +kernel
theorem dX10_pairsOfBrothers_5 : decode cX10_pairsOfBrothers 5 = .ok (.bipush 8, 2) := by decide +kernel
theorem dX10_pairsOfBrothers_7 : decode cX10_pairsOfBrothers 7 = .ok (.if_icmp .ge 23, 3) := by decide +kernel
theorem dX10_pairsOfBrothers_10 : decode cX10_pairsOfBrothers 10 = .ok (.iload_n 1, 1) := by decide +kernel
theorem dX10_pairsOfBrothers_11 : decode cX10_pairsOfBrothers 11 = .ok (.aload_n 0, 1) := by decide +kernel
theorem dX10_pairsOfBrothers_12 : decode cX10_pairsOfBrothers 12 = .ok (.getfield 27, 3) := by decide +kernel
theorem dX10_pairsOfBrothers_15 : decode cX10_pairsOfBrothers 15 = .ok (.iload_n 2, 1) := by decide +kernel
theorem dX10_pairsOfBrothers_16 : decode cX10_pairsOfBrothers 16 = .ok (.invokestatic 61, 3) := by decide +kernel
theorem dX10_pairsOfBrothers_19 : decode cX10_pairsOfBrothers 19 = .ok (.invokestatic 65, 3) := by decide +kernel
theorem dX10_pairsOfBrothers_22 : decode cX10_pairsOfBrothers 22 = .ok (.iadd, 1) := by decide +kernel
theorem dX10_pairsOfBrothers_23 : decode cX10_pairsOfBrothers 23 = .ok (.istore_n 1, 1) := by decide +kernel
theorem dX10_pairsOfBrothers_24 : decode cX10_pairsOfBrothers 24 = .ok (.iinc 2 1, 3) := by decide +kernel
theorem dX10_pairsOfBrothers_27 : decode cX10_pairsOfBrothers 27 = .ok (.goto (-23), 3) := by decide +kernel
theorem dX10_pairsOfBrothers_30 : decode cX10_pairsOfBrothers 30 = .ok (.iload_n 1, 1) := by decide +kernel
theorem dX10_pairsOfBrothers_31 : decode cX10_pairsOfBrothers 31 = .ok (.iconst 2, 1) := by decide +kernel
theorem dX10_pairsOfBrothers_32 : decode cX10_pairsOfBrothers 32 = .ok (.idiv, 1) := by decide +kernel
theorem dX10_pairsOfBrothers_33 : decode cX10_pairsOfBrothers 33 = .ok (.ireturn, 1) := by decide +kernel
set_option maxRecDepth 20000 in
theorem ggX10_areBrothers_X5_at : GoodIn wsX10_areBrothers wsX5_at := goodIn_r _ [5] (by decide +kernel) (by decide +kernel)
set_option maxRecDepth 20000 in
theorem gX10_areBrothers_X5_at : GoodIn wsX10_areBrothers (va_wsS RX10 61 yX5_at wsX5_at) := goodIn_app (goodIn_of _ (by decide +kernel)) ggX10_areBrothers_X5_at
theorem dX10_areBrothers_0 : decode cX10_areBrothers 0 = .ok (.aload_n 0, 1) := by decide +kernel
theorem dX10_areBrothers_1 : decode cX10_areBrothers 1 = .ok (.getfield 27, 3) := by decide +kernel
theorem dX10_areBrothers_4 : decode cX10_areBrothers 4 = .ok (.iload_n 1, 1) := by decide +kernel
theorem dX10_areBrothers_5 : decode cX10_areBrothers 5 = .ok (.invokestatic 61, 3) := by decide +kernel
theorem dX10_areBrothers_8 : decode cX10_areBrothers 8 = .ok (.iload_n 2, 1) := by decide +kernel
theorem dX10_areBrothers_9 : decode cX10_areBrothers 9 = .ok (.ishr, 1) := by decide +kernel
theorem dX10_areBrothers_10 : decode cX10_areBrothers 10 = .ok (.iconst 1, 1) := by decide +kernel
theorem dX10_areBrothers_11 : decode cX10_areBrothers 11 = .ok (.iand, 1) := by decide +kernel
theorem dX10_areBrothers_12 : decode cX10_areBrothers 12 = .ok (.iconst 1, 1) := by decide +kernel
theorem dX10_areBrothers_13 : decode cX10_areBrothers 13 = .ok (.if_icmp .ne 7, 3) := by decide +kernel
theorem dX10_areBrothers_16 : decode cX10_areBrothers 16 = .ok (.iconst 1, 1) := by decide +kernel
theorem dX10_areBrothers_17 : decode cX10_areBrothers 17 = .ok (.goto 4, 3) := by decide +kernel
theorem dX10_areBrothers_20 : decode cX10_areBrothers 20 = .ok (.iconst 0, 1) := by decide +kernel
theorem dX10_areBrothers_21 : decode cX10_areBrothers 21 = .ok (.ireturn, 1) := by decide +kernel
theorem dX10_isAjar_0 : decode cX10_isAjar 0 = .ok (.aload_n 0, 1) := by decide +kernel
theorem dX10_isAjar_1 : decode cX10_isAjar 1 = .ok (.getfield 37, 3) := by decide +kernel
theorem dX10_isAjar_4 : decode cX10_isAjar 4 = .ok (.iload_n 1, 1) := by decide +kernel
theorem dX10_isAjar_5 : decode cX10_isAjar 5 = .ok (.ishr, 1) := by decide +kernel
theorem dX10_isAjar_6 : decode cX10_isAjar 6 = .ok (.iconst 1, 1) := by decide +kernel
theorem dX10_isAjar_7 : decode cX10_isAjar 7 = .ok (.iand, 1) := by decide +kernel
theorem dX10_isAjar_8 : decode cX10_isAjar 8 = .ok (.iconst 1, 1) := by decide +kernel
theorem dX10_isAjar_9 : decode cX10_isAjar 9 = .ok (.if_icmp .ne 7, 3) := by decide +kernel
