theorem dX12_has_3 : decode cX12_has 3 = .ok (.iconst 1, 1) := by decide +kernel
theorem dX12_has_4 : decode cX12_has 4 = .ok (.iand, 1) := by decide +kernel
theorem dX12_has_5 : decode cX12_has 5 = .ok (.iconst 1, 1) := by decide +kernel
theorem dX12_has_6 : decode cX12_has 6 = .ok (.if_icmp .ne 7, 3) := by decide +kernel
theorem dX12_has_9 : decode cX12_has 9 = .ok (.iconst 1, 1) := by decide +kernel
theorem dX12_has_10 : decode cX12_has 10 = .ok (.goto 4, 3) := by decide +kernel
theorem dX12_has_13 : decode cX12_has 13 = .ok (.iconst 0, 1) := by decide +kernel
theorem dX12_has_14 : decode cX12_has 14 = .ok (.ireturn, 1) := by decide +kernel
theorem dX12_with_0 : decode cX12_with 0 = .ok (.iload_n 2, 1) := by decide +kernel
theorem dX12_with_1 : decode cX12_with 1 = .ok (.ifCond .eq 11, 3) := by decide +kernel
theorem dX12_with_4 : decode cX12_with 4 = .ok (.iload_n 0, 1) := by decide +kernel
theorem dX12_with_5 : decode cX12_with 5 = .ok (.iconst 1, 1) := by decide +kernel
theorem dX12_with_6 : decode cX12_with 6 = .ok (.iload_n 1, 1) := by decide +kernel
theorem dX12_with_7 : decode cX12_with 7 = .ok (.ishl, 1) := by decide +kernel
theorem dX12_with_8 : decode cX12_with 8 = .ok (.ior, 1) := by decide +kernel
theorem dX12_with_9 : decode cX12_with 9 = .ok (.goto 10, 3) := by decide +kernel
theorem dX12_with_12 : decode cX12_with 12 = .ok (.iload_n 0, 1) := by decide +kernel
theorem dX12_with_13 : decode cX12_with 13 = .ok (.iconst 1, 1) := by decide +kernel
theorem dX12_with_14 : decode cX12_with 14 = .ok (.iload_n 1, 1) := by decide +kernel
theorem dX12_with_15 : decode cX12_with 15 = .ok (.ishl, 1) := by decide +kernel
theorem dX12_with_16 : decode cX12_with 16 = .ok (.iconst (-1), 1) := by decide +kernel
theorem dX12_with_17 : decode cX12_with 17 = .ok (.ixor, 1) := by decide +kernel
theorem dX12_with_18 : decode cX12_with 18 = .ok (.iand, 1) := by decide +kernel
theorem dX12_with_19 : decode cX12_with 19 = .ok (.ireturn, 1) := by decide +kernel
set_option maxRecDepth 20000 in
theorem ggX12_thing_X12_isThing : GoodIn wsX12_thing wsX12_isThing := goodIn_r _ [10, 11, 12, 13, 9, 14] (by decide +kernel) (by decide +kernel)
set_option maxRecDepth 20000 in
theorem gX12_thing_X12_isThing : GoodIn wsX12_thing (va_wsS RX12 96 yX12_isThing wsX12_isThing) := goodIn_app (goodIn_of _ (by decide +kernel)) ggX12_thing_X12_isThing
set_option maxRecDepth 20000 in
theorem ggX12_thing_X12_isOne : GoodIn wsX12_thing wsX12_isOne := goodIn_r _ [17, 18, 12, 13, 9, 14] (by decide +kernel) (by decide +kernel)
set_option maxRecDepth 20000 in
theorem gX12_thing_X12_isOne : GoodIn wsX12_thing (va_wsS RX12 100 yX12_isOne wsX12_isOne) := goodIn_app (goodIn_of _ (by decide +kernel)) ggX12_thing_X12_isOne
set_option maxRecDepth 20000 in
theorem ggX12_thing_X12_in : GoodIn wsX12_thing wsX12_in := goodIn_r _ [14] (by decide +kernel) (by decide +kernel)
set_option maxRecDepth 20000 in
theorem gX12_thing_X12_in : GoodIn wsX12_thing (va_wsS RX12 90 yX12_in wsX12_in) := goodIn_app (goodIn_of _ (by decide +kernel)) ggX12_thing_X12_in
theorem dX12_thing_0 : decode cX12_thing 0 = .ok (.iload_n 1, 1) := by decide +kernel
theorem dX12_thing_1 : decode cX12_thing 1 = .ok (.invokestatic 96, 3) := by decide +kernel
theorem dX12_thing_4 : decode cX12_thing 4 = .ok (.ifCond .eq 10, 3) := by decide +kernel
theorem dX12_thing_7 : decode cX12_thing 7 = .ok (.iload_n 2, 1) := by decide +kernel
theorem dX12_thing_8 : decode cX12_thing 8 = .ok (.invokestatic 100, 3) := by decide +kernel
theorem dX12_thing_11 : decode cX12_thing 11 = .ok (.ifCond .ne 5, 3) := by decide +kernel
theorem dX12_thing_14 : decode cX12_thing 14 = .ok (.iconst (-1), 1) := by decide +kernel
theorem dX12_thing_15 : decode cX12_thing 15 = .ok (.ireturn, 1) := by decide +kernel
theorem dX12_thing_16 : decode cX12_thing 16 = .ok (.iload_n 3, 1) := by decide +kernel
theorem dX12_thing_17 : decode cX12_thing 17 = .ok (.i2l, 1) := by decide +kernel
theorem dX12_thing_18 : decode cX12_thing 18 = .ok (.lconst 0, 1) := by decide +kernel
theorem dX12_thing_19 : decode cX12_thing 19 = .ok (.ldc2_w 103, 3) := by decide +kernel
theorem dX12_thing_22 : decode cX12_thing 22 = .ok (.invokestatic 90, 3) := by decide +kernel
theorem dX12_thing_25 : decode cX12_thing 25 = .ok (.ifCond .eq 29, 3) := by decide +kernel
theorem dX12_thing_28 : decode cX12_thing 28 = .ok (.iload 4, 2) := by decide +kernel
theorem dX12_thing_30 : decode cX12_thing 30 = .ok (.i2l, 1) := by decide +kernel
theorem dX12_thing_31 : decode cX12_thing 31 = .ok (.lconst 0, 1) := by decide +kernel
theorem dX12_thing_32 : decode cX12_thing 32 = .ok (.ldc2_w 105, 3) := by decide +kernel
theorem dX12_thing_35 : decode cX12_thing 35 = .ok (.invokestatic 90, 3) := by decide +kernel
theorem dX12_thing_38 : decode cX12_thing 38 = .ok (.ifCond .eq 16, 3) := by decide +kernel
theorem dX12_thing_41 : decode cX12_thing 41 = .ok (.iload 5, 2) := by decide +kernel
theorem dX12_thing_43 : decode cX12_thing 43 = .ok (.i2l, 1) := by decide +kernel
theorem dX12_thing_44 : decode cX12_thing 44 = .ok (.lconst 1, 1) := by decide +kernel
theorem dX12_thing_45 : decode cX12_thing 45 = .ok (.ldc2_w 103, 3) := by decide +kernel
theorem dX12_thing_48 : decode cX12_thing 48 = .ok (.invokestatic 90, 3) := by decide +kernel
theorem dX12_thing_51 : decode cX12_thing 51 = .ok (.ifCond .ne 6, 3) := by decide +kernel
theorem dX12_thing_54 : decode cX12_thing 54 = .ok (.bipush (-2), 2) := by decide +kernel
theorem dX12_thing_56 : decode cX12_thing 56 = .ok (.ireturn, 1) := by decide +kernel
theorem dX12_thing_57 : decode cX12_thing 57 = .ok (.aload_n 0, 1) := by decide +kernel
theorem dX12_thing_58 : decode cX12_thing 58 = .ok (.getfield 7, 3) := by decide +kernel
theorem dX12_thing_61 : decode cX12_thing 61 = .ok (.iload_n 1, 1) := by decide +kernel
theorem dX12_thing_62 : decode cX12_thing 62 = .ok (.iaload, 1) := by decide +kernel
theorem dX12_thing_63 : decode cX12_thing 63 = .ok (.istore 6, 2) := by decide +kernel
theorem dX12_thing_65 : decode cX12_thing 65 = .ok (.aload_n 0, 1) := by decide +kernel
theorem dX12_thing_66 : decode cX12_thing 66 = .ok (.getfield 7, 3) := by decide +kernel
theorem dX12_thing_69 : decode cX12_thing 69 = .ok (.iload_n 1, 1) := by decide +kernel
theorem dX12_thing_70 : decode cX12_thing 70 = .ok (.iload_n 2, 1) := by decide +kernel
theorem dX12_thing_71 : decode cX12_thing 71 = .ok (.iastore, 1) := by decide +kernel
theorem dX12_thing_72 : decode cX12_thing 72 = .ok (.aload_n 0, 1) := by decide +kernel
theorem dX12_thing_73 : decode cX12_thing 73 = .ok (.getfield 13, 3) := by decide +kernel
theorem dX12_thing_76 : decode cX12_thing 76 = .ok (.iload_n 1, 1) := by decide +kernel
theorem dX12_thing_77 : decode cX12_thing 77 = .ok (.iload_n 3, 1) := by decide +kernel
theorem dX12_thing_78 : decode cX12_thing 78 = .ok (.iastore, 1) := by decide +kernel
theorem dX12_thing_79 : decode cX12_thing 79 = .ok (.aload_n 0, 1) := by decide +kernel
theorem dX12_thing_80 : decode cX12_thing 80 = .ok (.getfield 16, 3) := by decide +kernel
theorem dX12_thing_83 : decode cX12_thing 83 = .ok (.iload_n 1, 1) := by decide +kernel
theorem dX12_thing_84 : decode cX12_thing 84 = .ok (.iload 4, 2) := by decide +kernel
theorem dX12_thing_86 : decode cX12_thing 86 = .ok (.iastore, 1) := by decide +kernel
theorem dX12_thing_87 : decode cX12_thing 87 = .ok (.aload_n 0, 1) := by decide +kernel
theorem dX12_thing_88 : decode cX12_thing 88 = .ok (.getfield 19, 3) := by decide +kernel
theorem dX12_thing_91 : decode cX12_thing 91 = .ok (.iload_n 1, 1) := by decide +kernel
theorem dX12_thing_92 : decode cX12_thing 92 = .ok (.iload 5, 2) := by decide +kernel
theorem dX12_thing_94 : decode cX12_thing 94 = .ok (.iastore, 1) := by decide +kernel
theorem dX12_thing_95 : decode cX12_thing 95 = .ok (.iload 6, 2) := by decide +kernel
theorem dX12_thing_97 : decode cX12_thing 97 = .ok (.ireturn, 1) := by decide +kernel
set_option maxRecDepth 20000 in
theorem ggX12_one_X12_isOne : GoodIn wsX12_one wsX12_isOne := goodIn_r _ [7, 8, 9, 10, 6, 11] (by decide +kernel) (by decide +kernel)
set_option maxRecDepth 20000 in
theorem gX12_one_X12_isOne : GoodIn wsX12_one (va_wsS RX12 100 yX12_isOne wsX12_isOne) := goodIn_app (goodIn_of _ (by decide +kernel)) ggX12_one_X12_isOne
set_option maxRecDepth 20000 in
theorem ggX12_one_X12_in : GoodIn wsX12_one wsX12_in := goodIn_r _ [11] (by decide +kernel) (by decide +kernel)
set_option maxRecDepth 20000 in
theorem gX12_one_X12_in : GoodIn wsX12_one (va_wsS RX12 90 yX12_in wsX12_in) := goodIn_app (goodIn_of _ (by decide +kernel)) ggX12_one_X12_in
set_option maxRecDepth 20000 in
theorem ggX12_one_X12_with : GoodIn wsX12_one wsX12_with := goodIn_r _ [14] (by decide +kernel) (by decide +kernel)
set_option maxRecDepth 20000 in
theorem gX12_one_X12_with : GoodIn wsX12_one (va_wsS RX12 109 yX12_with wsX12_with) := goodIn_app (goodIn_of _ (by decide +kernel)) ggX12_one_X12_with
theorem dX12_one_0 : decode cX12_one 0 = .ok (.iload_n 1, 1) := by decide +kernel
theorem dX12_one_1 : decode cX12_one 1 = .ok (.invokestatic 100, 3) := by decide +kernel
theorem dX12_one_4 : decode cX12_one 4 = .ok (.ifCond .ne 5, 3) := by decide +kernel
theorem dX12_one_7 : decode cX12_one 7 = .ok (.iconst (-1), 1) := by decide +kernel
theorem dX12_one_8 : decode cX12_one 8 = .ok (.ireturn, 1) := by decide +kernel
theorem dX12_one_9 : decode cX12_one 9 = .ok (.iload_n 2, 1) := by decide +kernel
theorem dX12_one_10 : decode cX12_one 10 = .ok (.i2l, 1) := by decide +kernel
theorem dX12_one_11 : decode cX12_one 11 = .ok (.lconst 0, 1) := by decide +kernel
theorem dX12_one_12 : decode cX12_one 12 = .ok (.ldc2_w 107, 3) := by decide +kernel
theorem dX12_one_15 : decode cX12_one 15 = .ok (.invokestatic 90, 3) := by decide +kernel
theorem dX12_one_18 : decode cX12_one 18 = .ok (.ifCond .eq 13, 3) := by decide +kernel
theorem dX12_one_21 : decode cX12_one 21 = .ok (.iload_n 3, 1) := by decide +kernel
theorem dX12_one_22 : decode cX12_one 22 = .ok (.i2l, 1) := by decide +kernel
theorem dX12_one_23 : decode cX12_one 23 = .ok (.lconst 0, 1) := by decide +kernel
theorem dX12_one_24 : decode cX12_one 24 = .ok (.lconst 1, 1) := by decide +kernel
theorem dX12_one_25 : decode cX12_one 25 = .ok (.invokestatic 90, 3) := by decide +kernel
theorem dX12_one_28 : decode cX12_one 28 = .ok (.ifCond .ne 6, 3) := by decide +kernel
theorem dX12_one_31 : decode cX12_one 31 = .ok (.bipush (-2), 2) := by decide +kernel
theorem dX12_one_33 : decode cX12_one 33 = .ok (.ireturn, 1) := by decide +kernel
theorem dX12_one_34 : decode cX12_one 34 = .ok (.aload_n 0, 1) := by decide +kernel
theorem dX12_one_35 : decode cX12_one 35 = .ok (.getfield 22, 3) := by decide +kernel
theorem dX12_one_38 : decode cX12_one 38 = .ok (.iload_n 1, 1) := by decide +kernel
theorem dX12_one_39 : decode cX12_one 39 = .ok (.iaload, 1) := by decide +kernel
theorem dX12_one_40 : decode cX12_one 40 = .ok (.istore 4, 2) := by decide +kernel
theorem dX12_one_42 : decode cX12_one 42 = .ok (.aload_n 0, 1) := by decide +kernel
theorem dX12_one_43 : decode cX12_one 43 = .ok (.getfield 22, 3) := by decide +kernel
theorem dX12_one_46 : decode cX12_one 46 = .ok (.iload_n 1, 1) := by decide +kernel
theorem dX12_one_47 : decode cX12_one 47 = .ok (.iload_n 2, 1) := by decide +kernel
theorem dX12_one_48 : decode cX12_one 48 = .ok (.iastore, 1) := by decide +kernel
theorem dX12_one_49 : decode cX12_one 49 = .ok (.aload_n 0, 1) := by decide +kernel
theorem dX12_one_50 : decode cX12_one 50 = .ok (.aload_n 0, 1) := by decide +kernel
theorem dX12_one_51 : decode cX12_one 51 = .ok (.getfield 84, 3) := by decide +kernel
theorem dX12_one_54 : decode cX12_one 54 = .ok (.iload_n 1, 1) := by decide +kernel
theorem dX12_one_55 : decode cX12_one 55 = .ok (.iload_n 3, 1) := by decide +kernel
theorem dX12_one_56 : decode cX12_one 56 = .ok (.iconst 1, 1) := by decide +kernel
theorem dX12_one_57 : decode cX12_one 57 = .ok (.if_icmp .ne 7, 3) := by decide +kernel
theorem dX12_one_60 : decode cX12_one 60 = .ok (.iconst 1, 1) := by decide +kernel
theorem dX12_one_61 : decode cX12_one 61 = .ok (.goto 4, 3) := by decide +kernel
theorem dX12_one_64 : decode cX12_one 64 = .ok (.iconst 0, 1) := by decide +kernel
theorem dX12_one_65 : decode cX12_one 65 = .ok (.invokestatic 109, 3) := by decide +kernel
theorem dX12_one_68 : decode cX12_one 68 = .ok (.putfield 84, 3) := by decide +kernel
theorem dX12_one_71 : decode cX12_one 71 = .ok (.iload 4, 2) := by decide +kernel
theorem dX12_one_73 : decode cX12_one 73 = .ok (.ireturn, 1) := by decide +kernel
set_option maxRecDepth 20000 in
theorem ggX12_brothers_X12_isOne : GoodIn wsX12_brothers wsX12_isOne := goodIn_r _ [5, 6, 7, 8, 4, 9] (by decide +kernel) (by decide +kernel)
set_option maxRecDepth 20000 in
theorem gX12_brothers_X12_isOne : GoodIn wsX12_brothers (va_wsS RX12 100 yX12_isOne wsX12_isOne) := goodIn_app (goodIn_of _ (by decide +kernel)) ggX12_brothers_X12_isOne
set_option maxRecDepth 20000 in
theorem ggX12_brothers_X12_with : GoodIn wsX12_brothers wsX12_with := goodIn_r _ [12] (by decide +kernel) (by decide +kernel)
set_option maxRecDepth 20000 in
theorem gX12_brothers_X12_with : GoodIn wsX12_brothers (va_wsS RX12 109 yX12_with wsX12_with) := goodIn_app (goodIn_of _ (by decide +kernel)) ggX12_brothers_X12_with
set_option maxRecDepth 20000 in
theorem ggX12_brothers_X12_ones : GoodIn wsX12_brothers wsX12_ones := goodIn_r _ [15] (by decide +kernel) (by decide +kernel)
set_option maxRecDepth 20000 in
theorem gX12_brothers_X12_ones : GoodIn wsX12_brothers (va_wsS RX12 113 yX12_ones wsX12_ones) := goodIn_app (goodIn_of _ (by decide +kernel)) ggX12_brothers_X12_ones
theorem dX12_brothers_0 : decode cX12_brothers 0 = .ok (.iload_n 1, 1) := by decide +kernel
theorem dX12_brothers_1 : decode cX12_brothers 1 = .ok (.invokestatic 100, 3) := by decide +kernel
theorem dX12_brothers_4 : decode cX12_brothers 4 = .ok (.ifCond .eq 15, 3) := by decide +kernel
theorem dX12_brothers_7 : decode cX12_brothers 7 = .ok (.iload_n 2, 1) := by decide +kernel
theorem dX12_brothers_8 : decode cX12_brothers 8 = .ok (.invokestatic 100, 3) := by decide +kernel
theorem dX12_brothers_11 : decode cX12_brothers 11 = .ok (.ifCond .eq 8, 3) := by decide +kernel
theorem dX12_brothers_14 : decode cX12_brothers 14 = .ok (.iload_n 1, 1) := by decide +kernel
theorem dX12_brothers_15 : decode cX12_brothers 15 = .ok (.iload_n 2, 1) := by decide +kernel
theorem dX12_brothers_16 : decode cX12_brothers 16 = .ok (.if_icmp .ne 5, 3) := by decide +kernel
theorem dX12_brothers_19 : decode cX12_brothers 19 = .ok (.iconst (-1), 1) := by decide +kernel
theorem dX12_brothers_20 : decode cX12_brothers 20 = .ok (.ireturn, 1) := by decide +kernel
theorem dX12_brothers_21 : decode cX12_brothers 21 = .ok (.aload_n 0, 1) := by decide +kernel
theorem dX12_brothers_22 : decode cX12_brothers 22 = .ok (.getfield 25, 3) := by decide +kernel
theorem dX12_brothers_25 : decode cX12_brothers 25 = .ok (.iload_n 1, 1) := by decide +kernel
theorem dX12_brothers_26 : decode cX12_brothers 26 = .ok (.aload_n 0, 1) := by decide +kernel
theorem dX12_brothers_27 : decode cX12_brothers 27 = .ok (.getfield 25, 3) := by decide +kernel
theorem dX12_brothers_30 : decode cX12_brothers 30 = .ok (.iload_n 1, 1) := by decide +kernel
theorem dX12_brothers_31 : decode cX12_brothers 31 = .ok (.iaload, 1) := by decide +kernel
theorem dX12_brothers_32 : decode cX12_brothers 32 = .ok (.iload_n 2, 1) := by decide +kernel
theorem dX12_brothers_33 : decode cX12_brothers 33 = .ok (.iload_n 3, 1) := by decide +kernel
theorem dX12_brothers_34 : decode cX12_brothers 34 = .ok (.invokestatic 109, 3) := by decide +kernel
theorem dX12_brothers_37 : decode cX12_brothers 37 = .ok (.iastore, 1) := by decide +kernel
theorem dX12_brothers_38 : decode cX12_brothers 38 = .ok (.aload_n 0, 1) := by decide +kernel
theorem dX12_brothers_39 : decode cX12_brothers 39 = .ok (.getfield 25, 3) := by decide +kernel
theorem dX12_brothers_42 : decode cX12_brothers 42 = .ok (.iload_n 2, 1) := by decide +kernel
theorem dX12_brothers_43 : decode cX12_brothers 43 = .ok (.aload_n 0, 1) := by decide +kernel
theorem dX12_brothers_44 : decode cX12_brothers 44 = .ok (.getfield 25, 3) := by decide +kernel
theorem dX12_brothers_47 : decode cX12_brothers 47 = .ok (.iload_n 2, 1) := by decide +kernel
theorem dX12_brothers_48 : decode cX12_brothers 48 = .ok (.iaload, 1) := by decide +kernel
theorem dX12_brothers_49 : decode cX12_brothers 49 = .ok (.iload_n 1, 1) := by decide +kernel
theorem dX12_brothers_50 : decode cX12_brothers 50 = .ok (.iload_n 3, 1) := by decide +kernel
theorem dX12_brothers_51 : decode cX12_brothers 51 = .ok (.invokestatic 109, 3) := by decide +kernel
theorem dX12_brothers_54 : decode cX12_brothers 54 = .ok (.iastore, 1) := by decide +kernel
theorem dX12_brothers_55 : decode cX12_brothers 55 = .ok (.iconst 0, 1) := by decide +kernel
theorem dX12_brothers_56 : decode cX12_brothers 56 = .ok (.istore 4, 2) := by decide +kernel
theorem dX12_brothers_58 : decode cX12_brothers 58 = .ok (.iconst 0, 1) := by decide +kernel
theorem dX12_brothers_59 : decode cX12_brothers 59 = .ok (.istore 5, 2) := by decide +kernel
theorem dX12_brothers_61 : decode cX12_brothers 61 = .ok (.iload 5, 2) := by decide +kernel
theorem dX12_brothers_63 : decode cX12_brothers 63 = .ok (.bipush 8, 2) := by decide +kernel
theorem dX12_brothers_65 : decode cX12_brothers 65 = .ok (.if_icmp .ge 24, 3) := by decide +kernel
theorem dX12_brothers_68 : decode cX12_brothers 68 = .ok (.iload 4, 2) := by decide +kernel
theorem dX12_brothers_70 : decode cX12_brothers 70 = .ok (.aload_n 0, 1) := by decide +kernel
theorem dX12_brothers_71 : decode cX12_brothers 71 = .ok (.getfield 25, 3) := by decide +kernel
theorem dX12_brothers_74 : decode cX12_brothers 74 = .ok (.iload 5, 2) := by decide +kernel
theorem dX12_brothers_76 : decode cX12_brothers 76 = .ok (.iaload, 1) := by decide +kernel
theorem dX12_brothers_77 : decode cX12_brothers 77 = .ok (.invokestatic 113, 3) := by decide +kernel
theorem dX12_brothers_80 : decode cX12_brothers 80 = .ok (.iadd, 1) := by decide +kernel
theorem dX12_brothers_81 : decode cX12_brothers 81 = .ok (.istore 4, 2) := by decide +kernel
theorem dX12_brothers_83 : decode cX12_brothers 83 = .ok (.iinc 5 1, 3) := by decide +kernel
theorem dX12_brothers_86 : decode cX12_brothers 86 = .ok (.goto (-25), 3) := by decide +kernel
theorem dX12_brothers_89 : decode cX12_brothers 89 = .ok (.iload 4, 2) := by decide +kernel
theorem dX12_brothers_91 : decode cX12_brothers 91 = .ok (.iconst 2, 1) := by decide +kernel
theorem dX12_brothers_92 : decode cX12_brothers 92 = .ok (.idiv, 1) := by decide +kernel
theorem dX12_brothers_93 : decode cX12_brothers 93 = .ok (.ireturn, 1) := by decide +kernel
set_option maxRecDepth 20000 in
theorem ggX12_say_X12_in : GoodIn wsX12_say wsX12_in := goodIn_r _ [8] (by decide +kernel) (by decide +kernel)
set_option maxRecDepth 20000 in
theorem gX12_say_X12_in : GoodIn wsX12_say (va_wsS RX12 90 yX12_in wsX12_in) := goodIn_app (goodIn_of _ (by decide +kernel)) ggX12_say_X12_in
theorem dX12_say_0 : decode cX12_say 0 = .ok (.iload_n 1, 1) := by decide +kernel
theorem dX12_say_1 : decode cX12_say 1 = .ok (.i2l, 1) := by decide +kernel
theorem dX12_say_2 : decode cX12_say 2 = .ok (.ldc2_w 117, 3) := by decide +kernel
theorem dX12_say_5 : decode cX12_say 5 = .ok (.ldc2_w 119, 3) := by decide +kernel
theorem dX12_say_8 : decode cX12_say 8 = .ok (.invokestatic 90, 3) := by decide +kernel
theorem dX12_say_11 : decode cX12_say 11 = .ok (.ifCond .ne 6, 3) := by decide +kernel
theorem dX12_say_14 : decode cX12_say 14 = .ok (.bipush (-2), 2) := by decide +kernel
theorem dX12_say_16 : decode cX12_say 16 = .ok (.ireturn, 1) := by decide +kernel
theorem dX12_say_17 : decode cX12_say 17 = .ok (.aload_n 0, 1) := by decide +kernel
theorem dX12_say_18 : decode cX12_say 18 = .ok (.getfield 121, 3) := by decide +kernel
theorem dX12_say_21 : decode cX12_say 21 = .ok (.bipush 60, 2) := by decide +kernel
theorem dX12_say_23 : decode cX12_say 23 = .ok (.if_icmp .ne 6, 3) := by decide +kernel
theorem dX12_say_26 : decode cX12_say 26 = .ok (.bipush (-4), 2) := by decide +kernel
theorem dX12_say_28 : decode cX12_say 28 = .ok (.ireturn, 1) := by decide +kernel
theorem dX12_say_29 : decode cX12_say 29 = .ok (.aload_n 0, 1) := by decide +kernel
theorem dX12_say_30 : decode cX12_say 30 = .ok (.getfield 34, 3) := by decide +kernel
theorem dX12_say_33 : decode cX12_say 33 = .ok (.aload_n 0, 1) := by decide +kernel
theorem dX12_say_34 : decode cX12_say 34 = .ok (.getfield 121, 3) := by decide +kernel
theorem dX12_say_37 : decode cX12_say 37 = .ok (.iload_n 1, 1) := by decide +kernel
theorem dX12_say_38 : decode cX12_say 38 = .ok (.iastore, 1) := by decide +kernel
theorem dX12_say_39 : decode cX12_say 39 = .ok (.aload_n 0, 1) := by decide +kernel
theorem dX12_say_40 : decode cX12_say 40 = .ok (.dup, 1) := by decide +kernel
theorem dX12_say_41 : decode cX12_say 41 = .ok (.getfield 121, 3) := by decide +kernel
theorem dX12_say_44 : decode cX12_say 44 = .ok (.iconst 1, 1) := by decide +kernel
theorem dX12_say_45 : decode cX12_say 45 = .ok (.iadd, 1) := by decide +kernel
theorem dX12_say_46 : decode cX12_say 46 = .ok (.putfield 121, 3) := by decide +kernel
theorem dX12_say_49 : decode cX12_say 49 = .ok (.aload_n 0, 1) := by decide +kernel
theorem dX12_say_50 : decode cX12_say 50 = .ok (.getfield 121, 3) := by decide +kernel
theorem dX12_say_53 : decode cX12_say 53 = .ok (.ireturn, 1) := by decide +kernel
theorem dX12_wipe_0 : decode cX12_wipe 0 = .ok (.aload_n 0, 1) := by decide +kernel
theorem dX12_wipe_1 : decode cX12_wipe 1 = .ok (.getfield 121, 3) := by decide +kernel
theorem dX12_wipe_4 : decode cX12_wipe 4 = .ok (.istore_n 1, 1) := by decide +kernel
theorem dX12_wipe_5 : decode cX12_wipe 5 = .ok (.aload_n 0, 1) := by decide +kernel
theorem dX12_wipe_6 : decode cX12_wipe 6 = .ok (.iconst 0, 1) := by decide +kernel
theorem dX12_wipe_7 : decode cX12_wipe 7 = .ok (.putfield 121, 3) := by decide +kernel
theorem dX12_wipe_10 : decode cX12_wipe 10 = .ok (.iload_n 1, 1) := by decide +kernel
theorem dX12_wipe_11 : decode cX12_wipe 11 = .ok (.ireturn, 1) := by decide +kernel
theorem dX12_close_0 : decode cX12_close 0 = .ok (.aload_n 0, 1) := by decide +kernel
theorem dX12_close_1 : decode cX12_close 1 = .ok (.getfield 37, 3) := by decide +kernel
theorem dX12_close_4 : decode cX12_close 4 = .ok (.aload_n 0, 1) := by decide +kernel
theorem dX12_close_5 : decode cX12_close 5 = .ok (.getfield 124, 3) := by decide +kernel
theorem dX12_close_8 : decode cX12_close 8 = .ok (.iload_n 1, 1) := by decide +kernel
theorem dX12_close_9 : decode cX12_close 9 = .ok (.iastore, 1) := by decide +kernel
theorem dX12_close_10 : decode cX12_close 10 = .ok (.aload_n 0, 1) := by decide +kernel
theorem dX12_close_11 : decode cX12_close 11 = .ok (.dup, 1) := by decide +kernel
theorem dX12_close_12 : decode cX12_close 12 = .ok (.getfield 124, 3) := by decide +kernel
theorem dX12_close_15 : decode cX12_close 15 = .ok (.iconst 1, 1) := by decide +kernel
theorem dX12_close_16 : decode cX12_close 16 = .ok (.iadd, 1) := by decide +kernel
theorem dX12_close_17 : decode cX12_close 17 = .ok (.putfield 124, 3) := by decide +kernel
theorem dX12_close_20 : decode cX12_close 20 = .ok (.iconst 0, 1) := by decide +kernel
theorem dX12_close_21 : decode cX12_close 21 = .ok (.ireturn, 1) := by decide +kernel
set_option maxRecDepth 20000 in
theorem ggX12_isName_X12_in : GoodIn wsX12_isName wsX12_in := goodIn_r _ [6] (by decide +kernel) (by decide +kernel)
set_option maxRecDepth 20000 in
theorem gX12_isName_X12_in : GoodIn wsX12_isName (va_wsS RX12 90 yX12_in wsX12_in) := goodIn_app (goodIn_of _ (by decide +kernel)) ggX12_isName_X12_in
theorem dX12_isName_0 : decode cX12_isName 0 = .ok (.iload_n 0, 1) := by decide +kernel
theorem dX12_isName_1 : decode cX12_isName 1 = .ok (.i2l, 1) := by decide +kernel
theorem dX12_isName_2 : decode cX12_isName 2 = .ok (.ldc2_w 127, 3) := by decide +kernel
theorem dX12_isName_5 : decode cX12_isName 5 = .ok (.ldc2_w 129, 3) := by decide +kernel
theorem dX12_isName_8 : decode cX12_isName 8 = .ok (.invokestatic 90, 3) := by decide +kernel
theorem dX12_isName_11 : decode cX12_isName 11 = .ok (.ireturn, 1) := by decide +kernel
set_option maxRecDepth 20000 in
theorem ggX12_isPiece_X12_in : GoodIn wsX12_isPiece wsX12_in := goodIn_r _ [6] (by decide +kernel) (by decide +kernel)
set_option maxRecDepth 20000 in
theorem gX12_isPiece_X12_in : GoodIn wsX12_isPiece (va_wsS RX12 90 yX12_in wsX12_in) := goodIn_app (goodIn_of _ (by decide +kernel)) ggX12_isPiece_X12_in
theorem dX12_isPiece_0 : decode cX12_isPiece 0 = .ok (.iload_n 0, 1) := by decide +kernel
theorem dX12_isPiece_1 : decode cX12_isPiece 1 = .ok (.i2l, 1) := by decide +kernel
theorem dX12_isPiece_2 : decode cX12_isPiece 2 = .ok (.ldc2_w 131, 3) := by decide +kernel
theorem dX12_isPiece_5 : decode cX12_isPiece 5 = .ok (.ldc2_w 133, 3) := by decide +kernel
theorem dX12_isPiece_8 : decode cX12_isPiece 8 = .ok (.invokestatic 90, 3) := by decide +kernel
theorem dX12_isPiece_11 : decode cX12_isPiece 11 = .ok (.ireturn, 1) := by decide +kernel
set_option maxRecDepth 20000 in
theorem ggX12_begin_X12_isName : GoodIn wsX12_begin wsX12_isName := goodIn_r _ [8, 9, 10, 11, 12, 7, 13] (by decide +kernel) (by decide +kernel)
set_option maxRecDepth 20000 in
theorem gX12_begin_X12_isName : GoodIn wsX12_begin (va_wsS RX12 135 yX12_isName wsX12_isName) := goodIn_app (goodIn_of _ (by decide +kernel)) ggX12_begin_X12_isName
set_option maxRecDepth 20000 in
theorem ggX12_begin_X12_close : GoodIn wsX12_begin wsX12_close := goodIn_r _ [17, 18, 2, 19, 20, 21, 22, 23, 24, 25, 26, 27, 28, 29, 30, 31, 32, 33, 34, 35, 36, 37, 38, 39, 40, 41, 42, 43, 44, 45, 46, 47, 48, 49, 50, 51, 52, 53, 54, 55, 56] (by decide +kernel) (by decide +kernel)
set_option maxRecDepth 20000 in
theorem gX12_begin_X12_close : GoodIn wsX12_begin (wsV RX12 138 RX12 yX12_close wsX12_close) := goodIn_app (goodIn_of _ (by decide +kernel)) ggX12_begin_X12_close
theorem dX12_begin_0 : decode cX12_begin 0 = .ok (.aload_n 0, 1) := by decide +kernel
theorem dX12_begin_1 : decode cX12_begin 1 = .ok (.getfield 40, 3) := by decide +kernel
theorem dX12_begin_4 : decode cX12_begin 4 = .ok (.aload_n 0, 1) := by decide +kernel
theorem dX12_begin_5 : decode cX12_begin 5 = .ok (.getfield 124, 3) := by decide +kernel
theorem dX12_begin_8 : decode cX12_begin 8 = .ok (.iload_n 1, 1) := by decide +kernel
theorem dX12_begin_9 : decode cX12_begin 9 = .ok (.invokestatic 135, 3) := by decide +kernel
theorem dX12_begin_12 : decode cX12_begin 12 = .ok (.ifCond .eq 10, 3) := by decide +kernel
theorem dX12_begin_15 : decode cX12_begin 15 = .ok (.iload_n 1, 1) := by decide +kernel
theorem dX12_begin_16 : decode cX12_begin 16 = .ok (.bipush 65, 2) := by decide +kernel
theorem dX12_begin_18 : decode cX12_begin 18 = .ok (.isub, 1) := by decide +kernel
theorem dX12_begin_19 : decode cX12_begin 19 = .ok (.goto 4, 3) := by decide +kernel
theorem dX12_begin_22 : decode cX12_begin 22 = .ok (.iconst 0, 1) := by decide +kernel
theorem dX12_begin_23 : decode cX12_begin 23 = .ok (.iastore, 1) := by decide +kernel
theorem dX12_begin_24 : decode cX12_begin 24 = .ok (.aload_n 0, 1) := by decide +kernel
theorem dX12_begin_25 : decode cX12_begin 25 = .ok (.getfield 43, 3) := by decide +kernel
theorem dX12_begin_28 : decode cX12_begin 28 = .ok (.aload_n 0, 1) := by decide +kernel
theorem dX12_begin_29 : decode cX12_begin 29 = .ok (.getfield 124, 3) := by decide +kernel
theorem dX12_begin_32 : decode cX12_begin 32 = .ok (.iconst 0, 1) := by decide +kernel
theorem dX12_begin_33 : decode cX12_begin 33 = .ok (.iastore, 1) := by decide +kernel
theorem dX12_begin_34 : decode cX12_begin 34 = .ok (.aload_n 0, 1) := by decide +kernel
theorem dX12_begin_35 : decode cX12_begin 35 = .ok (.getfield 46, 3) := by decide +kernel
theorem dX12_begin_38 : decode cX12_begin 38 = .ok (.aload_n 0, 1) := by decide +kernel
theorem dX12_begin_39 : decode cX12_begin 39 = .ok (.getfield 124, 3) := by decide +kernel
theorem dX12_begin_42 : decode cX12_begin 42 = .ok (.iconst 0, 1) := by decide +kernel
theorem dX12_begin_43 : decode cX12_begin 43 = .ok (.iastore, 1) := by decide +kernel
theorem dX12_begin_44 : decode cX12_begin 44 = .ok (.iload_n 1, 1) := by decide +kernel
theorem dX12_begin_45 : decode cX12_begin 45 = .ok (.invokestatic 135, 3) := by decide +kernel
theorem dX12_begin_48 : decode cX12_begin 48 = .ok (.ifCond .eq 7, 3) := by decide +kernel
theorem dX12_begin_51 : decode cX12_begin 51 = .ok (.iconst 1, 1) := by decide +kernel
theorem dX12_begin_52 : decode cX12_begin 52 = .ok (.goto 19, 3) := by decide +kernel
theorem dX12_begin_55 : decode cX12_begin 55 = .ok (.iload_n 1, 1) := by decide +kernel
theorem dX12_begin_56 : decode cX12_begin 56 = .ok (.bipush 46, 2) := by decide +kernel
theorem dX12_begin_58 : decode cX12_begin 58 = .ok (.if_icmp .ne 11, 3) := by decide +kernel
theorem dX12_begin_61 : decode cX12_begin 61 = .ok (.aload_n 0, 1) := by decide +kernel
theorem dX12_begin_62 : decode cX12_begin 62 = .ok (.iconst 4, 1) := by decide +kernel
theorem dX12_begin_63 : decode cX12_begin 63 = .ok (.invokevirtual 138, 3) := by decide +kernel
theorem dX12_begin_66 : decode cX12_begin 66 = .ok (.goto 5, 3) := by decide +kernel
theorem dX12_begin_69 : decode cX12_begin 69 = .ok (.bipush (-6), 2) := by decide +kernel
theorem dX12_begin_71 : decode cX12_begin 71 = .ok (.ireturn, 1) := by decide +kernel
set_option maxRecDepth 20000 in
theorem ggX12_takeIt_X12_isPiece : GoodIn wsX12_takeIt wsX12_isPiece := goodIn_r _ [6, 7, 8, 9, 10, 5, 11] (by decide +kernel) (by decide +kernel)
set_option maxRecDepth 20000 in
theorem gX12_takeIt_X12_isPiece : GoodIn wsX12_takeIt (va_wsS RX12 141 yX12_isPiece wsX12_isPiece) := goodIn_app (goodIn_of _ (by decide +kernel)) ggX12_takeIt_X12_isPiece
set_option maxRecDepth 20000 in
theorem ggX12_takeIt_X12_close : GoodIn wsX12_takeIt wsX12_close := goodIn_r _ [15, 16, 2, 17, 18, 19, 20, 21, 22, 23, 24, 25, 26, 27, 28, 29, 30, 31, 32, 33, 34, 35, 36, 37, 38, 39, 40, 41, 42, 43, 44, 45, 46, 47, 48, 49, 50, 51, 52, 53, 54] (by decide +kernel) (by decide +kernel)
set_option maxRecDepth 20000 in
theorem gX12_takeIt_X12_close : GoodIn wsX12_takeIt (wsV RX12 138 RX12 yX12_close wsX12_close) := goodIn_app (goodIn_of _ (by decide +kernel)) ggX12_takeIt_X12_close
theorem dX12_takeIt_0 : decode cX12_takeIt 0 = .ok (.aload_n 0, 1) := by decide +kernel
theorem dX12_takeIt_1 : decode cX12_takeIt 1 = .ok (.getfield 43, 3) := by decide +kernel
theorem dX12_takeIt_4 : decode cX12_takeIt 4 = .ok (.aload_n 0, 1) := by decide +kernel
theorem dX12_takeIt_5 : decode cX12_takeIt 5 = .ok (.getfield 124, 3) := by decide +kernel
theorem dX12_takeIt_8 : decode cX12_takeIt 8 = .ok (.iload_n 1, 1) := by decide +kernel
theorem dX12_takeIt_9 : decode cX12_takeIt 9 = .ok (.bipush 97, 2) := by decide +kernel
theorem dX12_takeIt_11 : decode cX12_takeIt 11 = .ok (.isub, 1) := by decide +kernel
theorem dX12_takeIt_12 : decode cX12_takeIt 12 = .ok (.iastore, 1) := by decide +kernel
theorem dX12_takeIt_13 : decode cX12_takeIt 13 = .ok (.iload_n 1, 1) := by decide +kernel
theorem dX12_takeIt_14 : decode cX12_takeIt 14 = .ok (.invokestatic 141, 3) := by decide +kernel
theorem dX12_takeIt_17 : decode cX12_takeIt 17 = .ok (.ifCond .eq 11, 3) := by decide +kernel
theorem dX12_takeIt_20 : decode cX12_takeIt 20 = .ok (.aload_n 0, 1) := by decide +kernel
theorem dX12_takeIt_21 : decode cX12_takeIt 21 = .ok (.iconst 0, 1) := by decide +kernel
theorem dX12_takeIt_22 : decode cX12_takeIt 22 = .ok (.invokevirtual 138, 3) := by decide +kernel
theorem dX12_takeIt_25 : decode cX12_takeIt 25 = .ok (.goto 5, 3) := by decide +kernel
theorem dX12_takeIt_28 : decode cX12_takeIt 28 = .ok (.bipush (-6), 2) := by decide +kernel
theorem dX12_takeIt_30 : decode cX12_takeIt 30 = .ok (.ireturn, 1) := by decide +kernel
set_option maxRecDepth 20000 in
theorem ggX12_deed_X12_close : GoodIn wsX12_deed wsX12_close := goodIn_r _ [5, 6, 7, 21, 22, 23, 24, 25, 26, 27, 28, 29, 30, 31, 32, 33, 34, 35, 36, 37, 38, 39, 40, 41, 42, 43, 44, 45, 46, 47, 48, 49, 50, 51, 52, 53, 54, 55, 56, 57, 58] (by decide +kernel) (by decide +kernel)
set_option maxRecDepth 20000 in
theorem gX12_deed_X12_close : GoodIn wsX12_deed (wsV RX12 138 RX12 yX12_close wsX12_close) := goodIn_app (goodIn_of _ (by decide +kernel)) ggX12_deed_X12_close
set_option maxRecDepth 20000 in
theorem ggX12_deed_X12_takeIt : GoodIn wsX12_deed wsX12_takeIt := goodIn_r _ [11, 12, 7, 13, 14, 4, 15, 16, 17, 18, 19, 20, 1, 2, 3, 5, 6, 21, 22, 23, 24, 25, 26, 27, 28, 29, 30, 31, 32, 33, 34, 35, 36, 37, 38, 39, 40, 41, 42, 43, 44, 45, 46, 47, 48, 49, 50, 51, 52, 53, 54, 55, 56, 57, 58] (by decide +kernel) (by decide +kernel)
set_option maxRecDepth 20000 in
theorem gX12_deed_X12_takeIt : GoodIn wsX12_deed (wsV RX12 144 RX12 yX12_takeIt wsX12_takeIt) := goodIn_app (goodIn_of _ (by decide +kernel)) ggX12_deed_X12_takeIt
theorem dX12_deed_0 : decode cX12_deed 0 = .ok (.iload_n 1, 1) := by decide +kernel
theorem dX12_deed_1 : decode cX12_deed 1 = .ok (.lookupswitch 45 #[(35, 39), (36, 35), (42, 37)], 35) := by decide +kernel
theorem dX12_deed_36 : decode cX12_deed 36 = .ok (.iconst 2, 1) := by decide +kernel
theorem dX12_deed_37 : decode cX12_deed 37 = .ok (.ireturn, 1) := by decide +kernel
theorem dX12_deed_38 : decode cX12_deed 38 = .ok (.iconst 3, 1) := by decide +kernel
theorem dX12_deed_39 : decode cX12_deed 39 = .ok (.ireturn, 1) := by decide +kernel
theorem dX12_deed_40 : decode cX12_deed 40 = .ok (.aload_n 0, 1) := by decide +kernel
theorem dX12_deed_41 : decode cX12_deed 41 = .ok (.iconst 3, 1) := by decide +kernel
theorem dX12_deed_42 : decode cX12_deed 42 = .ok (.invokevirtual 138, 3) := by decide +kernel
theorem dX12_deed_45 : decode cX12_deed 45 = .ok (.ireturn, 1) := by decide +kernel
theorem dX12_deed_46 : decode cX12_deed 46 = .ok (.aload_n 0, 1) := by decide +kernel
theorem dX12_deed_47 : decode cX12_deed 47 = .ok (.iload_n 1, 1) := by decide +kernel
theorem dX12_deed_48 : decode cX12_deed 48 = .ok (.invokevirtual 144, 3) := by decide +kernel
theorem dX12_deed_51 : decode cX12_deed 51 = .ok (.ireturn, 1) := by decide +kernel
set_option maxRecDepth 20000 in
theorem ggX12_piece_X12_isPiece : GoodIn wsX12_piece wsX12_isPiece := goodIn_r _ [6, 7, 8, 9, 10, 5, 11] (by decide +kernel) (by decide +kernel)
set_option maxRecDepth 20000 in
theorem gX12_piece_X12_isPiece : GoodIn wsX12_piece (va_wsS RX12 141 yX12_isPiece wsX12_isPiece) := goodIn_app (goodIn_of _ (by decide +kernel)) ggX12_piece_X12_isPiece
theorem dX12_piece_0 : decode cX12_piece 0 = .ok (.aload_n 0, 1) := by decide +kernel
theorem dX12_piece_1 : decode cX12_piece 1 = .ok (.getfield 43, 3) := by decide +kernel
theorem dX12_piece_4 : decode cX12_piece 4 = .ok (.aload_n 0, 1) := by decide +kernel
theorem dX12_piece_5 : decode cX12_piece 5 = .ok (.getfield 124, 3) := by decide +kernel
theorem dX12_piece_8 : decode cX12_piece 8 = .ok (.iload_n 2, 1) := by decide +kernel
theorem dX12_piece_9 : decode cX12_piece 9 = .ok (.bipush 97, 2) := by decide +kernel
theorem dX12_piece_11 : decode cX12_piece 11 = .ok (.isub, 1) := by decide +kernel
theorem dX12_piece_12 : decode cX12_piece 12 = .ok (.iastore, 1) := by decide +kernel
theorem dX12_piece_13 : decode cX12_piece 13 = .ok (.iload_n 2, 1) := by decide +kernel
theorem dX12_piece_14 : decode cX12_piece 14 = .ok (.invokestatic 141, 3) := by decide +kernel
theorem dX12_piece_17 : decode cX12_piece 17 = .ok (.ifCond .eq 9, 3) := by decide +kernel
theorem dX12_piece_20 : decode cX12_piece 20 = .ok (.iload_n 1, 1) := by decide +kernel
theorem dX12_piece_21 : decode cX12_piece 21 = .ok (.iconst 2, 1) := by decide +kernel
theorem dX12_piece_22 : decode cX12_piece 22 = .ok (.iadd, 1) := by decide +kernel
theorem dX12_piece_23 : decode cX12_piece 23 = .ok (.goto 5, 3) := by decide +kernel
theorem dX12_piece_26 : decode cX12_piece 26 = .ok (.bipush (-6), 2) := by decide +kernel
theorem dX12_piece_28 : decode cX12_piece 28 = .ok (.ireturn, 1) := by decide +kernel
set_option maxRecDepth 20000 in
theorem ggX12_toWhom_X12_isName : GoodIn wsX12_toWhom wsX12_isName := goodIn_r _ [6, 7, 8, 9, 10, 5, 11] (by decide +kernel) (by decide +kernel)
set_option maxRecDepth 20000 in
theorem gX12_toWhom_X12_isName : GoodIn wsX12_toWhom (va_wsS RX12 135 yX12_isName wsX12_isName) := goodIn_app (goodIn_of _ (by decide +kernel)) ggX12_toWhom_X12_isName
set_option maxRecDepth 20000 in
theorem ggX12_toWhom_X12_close : GoodIn wsX12_toWhom wsX12_close := goodIn_r _ [15, 16, 2, 17, 18, 19, 20, 21, 22, 23, 24, 25, 26, 27, 28, 29, 30, 31, 32, 33, 34, 35, 36, 37, 38, 39, 40, 41, 42, 43, 44, 45, 46, 47, 48, 49, 50, 51, 52, 53, 54] (by decide +kernel) (by decide +kernel)
set_option maxRecDepth 20000 in
theorem gX12_toWhom_X12_close : GoodIn wsX12_toWhom (wsV RX12 138 RX12 yX12_close wsX12_close) := goodIn_app (goodIn_of _ (by decide +kernel)) ggX12_toWhom_X12_close
theorem dX12_toWhom_0 : decode cX12_toWhom 0 = .ok (.aload_n 0, 1) := by decide +kernel
theorem dX12_toWhom_1 : decode cX12_toWhom 1 = .ok (.getfield 46, 3) := by decide +kernel
theorem dX12_toWhom_4 : decode cX12_toWhom 4 = .ok (.aload_n 0, 1) := by decide +kernel
theorem dX12_toWhom_5 : decode cX12_toWhom 5 = .ok (.getfield 124, 3) := by decide +kernel
theorem dX12_toWhom_8 : decode cX12_toWhom 8 = .ok (.iload_n 2, 1) := by decide +kernel
theorem dX12_toWhom_9 : decode cX12_toWhom 9 = .ok (.bipush 65, 2) := by decide +kernel
theorem dX12_toWhom_11 : decode cX12_toWhom 11 = .ok (.isub, 1) := by decide +kernel
theorem dX12_toWhom_12 : decode cX12_toWhom 12 = .ok (.iastore, 1) := by decide +kernel
theorem dX12_toWhom_13 : decode cX12_toWhom 13 = .ok (.iload_n 2, 1) := by decide +kernel
theorem dX12_toWhom_14 : decode cX12_toWhom 14 = .ok (.invokestatic 135, 3) := by decide +kernel
theorem dX12_toWhom_17 : decode cX12_toWhom 17 = .ok (.ifCond .eq 20, 3) := by decide +kernel
theorem dX12_toWhom_20 : decode cX12_toWhom 20 = .ok (.aload_n 0, 1) := by decide +kernel
theorem dX12_toWhom_21 : decode cX12_toWhom 21 = .ok (.iload_n 1, 1) := by decide +kernel
theorem dX12_toWhom_22 : decode cX12_toWhom 22 = .ok (.iconst 4, 1) := by decide +kernel
theorem dX12_toWhom_23 : decode cX12_toWhom 23 = .ok (.if_icmp .ne 7, 3) := by decide +kernel
theorem dX12_toWhom_26 : decode cX12_toWhom 26 = .ok (.iconst 1, 1) := by decide +kernel
theorem dX12_toWhom_27 : decode cX12_toWhom 27 = .ok (.goto 4, 3) := by decide +kernel
theorem dX12_toWhom_30 : decode cX12_toWhom 30 = .ok (.iconst 2, 1) := by decide +kernel
theorem dX12_toWhom_31 : decode cX12_toWhom 31 = .ok (.invokevirtual 138, 3) := by decide +kernel
theorem dX12_toWhom_34 : decode cX12_toWhom 34 = .ok (.goto 5, 3) := by decide +kernel
theorem dX12_toWhom_37 : decode cX12_toWhom 37 = .ok (.bipush (-6), 2) := by decide +kernel
theorem dX12_toWhom_39 : decode cX12_toWhom 39 = .ok (.ireturn, 1) := by decide +kernel
set_option maxRecDepth 20000 in
theorem ggX12_readOn_X12_begin : GoodIn wsX12_readOn wsX12_begin := goodIn_r _ [5, 6, 7, 8, 9, 10, 11, 4, 12, 13, 14, 15, 16, 17, 18, 19, 20, 21, 22, 44, 45, 46, 47, 48, 49, 50, 51, 52, 53, 54, 55, 56, 57, 58, 59, 60, 61, 62, 63, 64, 65, 66, 67, 68, 69, 70, 71, 72, 73, 74, 75, 76, 77, 78, 79, 80, 81] (by decide +kernel) (by decide +kernel)
set_option maxRecDepth 20000 in
theorem gX12_readOn_X12_begin : GoodIn wsX12_readOn (wsV RX12 147 RX12 yX12_begin wsX12_begin) := goodIn_app (goodIn_of _ (by decide +kernel)) ggX12_readOn_X12_begin
set_option maxRecDepth 20000 in
theorem ggX12_readOn_X12_deed : GoodIn wsX12_readOn wsX12_deed := goodIn_r _ [26, 18, 19, 20, 4, 21, 22, 7, 27, 28, 29, 30, 8, 31, 32, 33, 34, 35, 15, 16, 17, 44, 45, 46, 47, 48, 49, 50, 51, 52, 53, 54, 55, 56, 57, 58, 59, 60, 61, 62, 63, 64, 65, 66, 67, 68, 69, 70, 71, 72, 73, 74, 75, 76, 77, 78, 79, 80, 81] (by decide +kernel) (by decide +kernel)
set_option maxRecDepth 20000 in
theorem gX12_readOn_X12_deed : GoodIn wsX12_readOn (wsV RX12 150 RX12 yX12_deed wsX12_deed) := goodIn_app (goodIn_of _ (by decide +kernel)) ggX12_readOn_X12_deed
set_option maxRecDepth 20000 in
theorem ggX12_readOn_X12_piece : GoodIn wsX12_readOn wsX12_piece := goodIn_r _ [39, 8, 7, 31, 32, 4, 33, 34, 35, 15, 16, 17, 44, 45, 46, 47, 48, 49, 50, 51, 52, 53, 54, 55, 56, 57, 58, 59, 60, 61, 62, 63, 64, 65, 66, 67, 68, 69, 70, 71, 72, 73, 74, 75, 76, 77, 78, 79, 80, 81] (by decide +kernel) (by decide +kernel)
set_option maxRecDepth 20000 in
theorem gX12_readOn_X12_piece : GoodIn wsX12_readOn (wsV RX12 153 RX12 yX12_piece wsX12_piece) := goodIn_app (goodIn_of _ (by decide +kernel)) ggX12_readOn_X12_piece
set_option maxRecDepth 20000 in
theorem ggX12_readOn_X12_toWhom : GoodIn wsX12_readOn wsX12_toWhom := goodIn_r _ [43, 9, 7, 10, 11, 4, 12, 13, 14, 15, 16, 17, 18, 19, 20, 21, 22, 44, 45, 46, 47, 48, 49, 50, 51, 52, 53, 54, 55, 56, 57, 58, 59, 60, 61, 62, 63, 64, 65, 66, 67, 68, 69, 70, 71, 72, 73, 74, 75, 76, 77, 78, 79, 80, 81] (by decide +kernel) (by decide +kernel)
set_option maxRecDepth 20000 in
theorem gX12_readOn_X12_toWhom : GoodIn wsX12_readOn (wsV RX12 157 RX12 yX12_toWhom wsX12_toWhom) := goodIn_app (goodIn_of _ (by decide +kernel)) ggX12_readOn_X12_toWhom
theorem dX12_readOn_0 : decode cX12_readOn 0 = .ok (.iload_n 1, 1) := by decide +kernel
theorem dX12_readOn_1 : decode cX12_readOn 1 = .ok (.tableswitch 50 0 3 #[31, 37, 43, 43], 31) := by decide +kernel
theorem dX12_readOn_32 : decode cX12_readOn 32 = .ok (.aload_n 0, 1) := by decide +kernel
theorem dX12_readOn_33 : decode cX12_readOn 33 = .ok (.iload_n 2, 1) := by decide +kernel
theorem dX12_readOn_34 : decode cX12_readOn 34 = .ok (.invokevirtual 147, 3) := by decide +kernel
theorem dX12_readOn_37 : decode cX12_readOn 37 = .ok (.ireturn, 1) := by decide +kernel
theorem dX12_readOn_38 : decode cX12_readOn 38 = .ok (.aload_n 0, 1) := by decide +kernel
theorem dX12_readOn_39 : decode cX12_readOn 39 = .ok (.iload_n 2, 1) := by decide +kernel
theorem dX12_readOn_40 : decode cX12_readOn 40 = .ok (.invokevirtual 150, 3) := by decide +kernel
theorem dX12_readOn_43 : decode cX12_readOn 43 = .ok (.ireturn, 1) := by decide +kernel
theorem dX12_readOn_44 : decode cX12_readOn 44 = .ok (.aload_n 0, 1) := by decide +kernel
theorem dX12_readOn_45 : decode cX12_readOn 45 = .ok (.iload_n 1, 1) := by decide +kernel
theorem dX12_readOn_46 : decode cX12_readOn 46 = .ok (.iload_n 2, 1) := by decide +kernel
theorem dX12_readOn_47 : decode cX12_readOn 47 = .ok (.invokevirtual 153, 3) := by decide +kernel
theorem dX12_readOn_50 : decode cX12_readOn 50 = .ok (.ireturn, 1) := by decide +kernel
theorem dX12_readOn_51 : decode cX12_readOn 51 = .ok (.aload_n 0, 1) := by decide +kernel
theorem dX12_readOn_52 : decode cX12_readOn 52 = .ok (.iload_n 1, 1) := by decide +kernel
theorem dX12_readOn_53 : decode cX12_readOn 53 = .ok (.iload_n 2, 1) := by decide +kernel
theorem dX12_readOn_54 : decode cX12_readOn 54 = .ok (.invokevirtual 157, 3) := by decide +kernel
theorem dX12_readOn_57 : decode cX12_readOn 57 = .ok (.ireturn, 1) := by decide +kernel
set_option maxRecDepth 20000 in
theorem ggX12_fault_X12_readOn : GoodIn wsX12_fault wsX12_readOn := goodIn_r _ [8, 9, 10, 11, 7, 12, 13, 1, 14, 15, 16, 17, 18, 19, 20, 21, 22, 23, 24, 25, 26, 27, 28, 29, 30, 31, 32, 33, 34, 35, 36, 37, 38, 39, 40, 41, 42, 43, 44, 45, 46, 47, 48, 49, 50, 51, 52, 53, 54, 55, 56, 57, 58, 59, 60, 61, 62, 63, 64, 65, 66, 67, 68, 69, 70, 71, 72, 73, 74, 75, 76, 77, 78, 79, 80, 81, 82, 83, 84, 85, 86, 87] (by decide +kernel) (by decide +kernel)
set_option maxRecDepth 20000 in
theorem gX12_fault_X12_readOn : GoodIn wsX12_fault (wsV RX12 160 RX12 yX12_readOn wsX12_readOn) := goodIn_app (goodIn_of _ (by decide +kernel)) ggX12_fault_X12_readOn
theorem dX12_fault_0 : decode cX12_fault 0 = .ok (.aload_n 0, 1) := by decide +kernel
theorem dX12_fault_1 : decode cX12_fault 1 = .ok (.iconst 0, 1) := by decide +kernel
theorem dX12_fault_2 : decode cX12_fault 2 = .ok (.putfield 124, 3) := by decide +kernel
theorem dX12_fault_5 : decode cX12_fault 5 = .ok (.iconst 0, 1) := by decide +kernel
theorem dX12_fault_6 : decode cX12_fault 6 = .ok (.istore_n 1, 1) := by decide +kernel
theorem dX12_fault_7 : decode cX12_fault 7 = .ok (.iconst 0, 1) := by decide +kernel
theorem dX12_fault_8 : decode cX12_fault 8 = .ok (.istore_n 2, 1) := by decide +kernel
theorem dX12_fault_9 : decode cX12_fault 9 = .ok (.iload_n 2, 1) := by decide +kernel
theorem dX12_fault_10 : decode cX12_fault 10 = .ok (.aload_n 0, 1) := by decide +kernel
theorem dX12_fault_11 : decode cX12_fault 11 = .ok (.getfield 121, 3) := by decide +kernel
theorem dX12_fault_14 : decode cX12_fault 14 = .ok (.if_icmp .ge 27, 3) := by decide +kernel
theorem dX12_fault_17 : decode cX12_fault 17 = .ok (.aload_n 0, 1) := by decide +kernel
theorem dX12_fault_18 : decode cX12_fault 18 = .ok (.iload_n 1, 1) := by decide +kernel
theorem dX12_fault_19 : decode cX12_fault 19 = .ok (.aload_n 0, 1) := by decide +kernel
theorem dX12_fault_20 : decode cX12_fault 20 = .ok (.getfield 34, 3) := by decide +kernel
theorem dX12_fault_23 : decode cX12_fault 23 = .ok (.iload_n 2, 1) := by decide +kernel
theorem dX12_fault_24 : decode cX12_fault 24 = .ok (.iaload, 1) := by decide +kernel
theorem dX12_fault_25 : decode cX12_fault 25 = .ok (.invokevirtual 160, 3) := by decide +kernel
theorem dX12_fault_28 : decode cX12_fault 28 = .ok (.istore_n 1, 1) := by decide +kernel
theorem dX12_fault_29 : decode cX12_fault 29 = .ok (.iload_n 1, 1) := by decide +kernel
theorem dX12_fault_30 : decode cX12_fault 30 = .ok (.ifCond .ge 5, 3) := by decide +kernel
theorem dX12_fault_33 : decode cX12_fault 33 = .ok (.iload_n 2, 1) := by decide +kernel
theorem dX12_fault_34 : decode cX12_fault 34 = .ok (.ireturn, 1) := by decide +kernel
theorem dX12_fault_35 : decode cX12_fault 35 = .ok (.iinc 2 1, 3) := by decide +kernel
theorem dX12_fault_38 : decode cX12_fault 38 = .ok (.goto (-29), 3) := by decide +kernel
theorem dX12_fault_41 : decode cX12_fault 41 = .ok (.iload_n 1, 1) := by decide +kernel
theorem dX12_fault_42 : decode cX12_fault 42 = .ok (.ifCond .ne 8, 3) := by decide +kernel
theorem dX12_fault_45 : decode cX12_fault 45 = .ok (.bipush (-6), 2) := by decide +kernel
theorem dX12_fault_47 : decode cX12_fault 47 = .ok (.goto 7, 3) := by decide +kernel
theorem dX12_fault_50 : decode cX12_fault 50 = .ok (.aload_n 0, 1) := by decide +kernel
theorem dX12_fault_51 : decode cX12_fault 51 = .ok (.getfield 121, 3) := by decide +kernel
theorem dX12_fault_54 : decode cX12_fault 54 = .ok (.ireturn, 1) := by decide +kernel
theorem dX12_price_0 : decode cX12_price 0 = .ok (.aload_n 0, 1) := by decide +kernel
theorem dX12_price_1 : decode cX12_price 1 = .ok (.getfield 13, 3) := by decide +kernel
theorem dX12_price_4 : decode cX12_price 4 = .ok (.iload_n 1, 1) := by decide +kernel
theorem dX12_price_5 : decode cX12_price 5 = .ok (.iaload, 1) := by decide +kernel
theorem dX12_price_6 : decode cX12_price 6 = .ok (.iconst 2, 1) := by decide +kernel
theorem dX12_price_7 : decode cX12_price 7 = .ok (.if_icmp .lt 14, 3) := by decide +kernel
theorem dX12_price_10 : decode cX12_price 10 = .ok (.aload_n 0, 1) := by decide +kernel
theorem dX12_price_11 : decode cX12_price 11 = .ok (.getfield 13, 3) := by decide +kernel
theorem dX12_price_14 : decode cX12_price 14 = .ok (.iload_n 1, 1) := by decide +kernel
theorem dX12_price_15 : decode cX12_price 15 = .ok (.iaload, 1) := by decide +kernel
theorem dX12_price_16 : decode cX12_price 16 = .ok (.bipush 9, 2) := by decide +kernel
theorem dX12_price_18 : decode cX12_price 18 = .ok (.if_icmp .ne 7, 3) := by decide +kernel
theorem dX12_price_21 : decode cX12_price 21 = .ok (.iconst 0, 1) := by decide +kernel
theorem dX12_price_22 : decode cX12_price 22 = .ok (.goto 18, 3) := by decide +kernel
theorem dX12_price_25 : decode cX12_price 25 = .ok (.aload_n 0, 1) := by decide +kernel
theorem dX12_price_26 : decode cX12_price 26 = .ok (.getfield 16, 3) := by decide +kernel
theorem dX12_price_29 : decode cX12_price 29 = .ok (.iload_n 1, 1) := by decide +kernel
theorem dX12_price_30 : decode cX12_price 30 = .ok (.iaload, 1) := by decide +kernel
theorem dX12_price_31 : decode cX12_price 31 = .ok (.aload_n 0, 1) := by decide +kernel
theorem dX12_price_32 : decode cX12_price 32 = .ok (.getfield 13, 3) := by decide +kernel
theorem dX12_price_35 : decode cX12_price 35 = .ok (.iload_n 1, 1) := by decide +kernel
theorem dX12_price_36 : decode cX12_price 36 = .ok (.iaload, 1) := by decide +kernel
theorem dX12_price_37 : decode cX12_price 37 = .ok (.iconst 1, 1) := by decide +kernel
theorem dX12_price_38 : decode cX12_price 38 = .ok (.isub, 1) := by decide +kernel
theorem dX12_price_39 : decode cX12_price 39 = .ok (.imul, 1) := by decide +kernel
theorem dX12_price_40 : decode cX12_price 40 = .ok (.ireturn, 1) := by decide +kernel
set_option maxRecDepth 20000 in
theorem ggX12_whyNoTake_X12_has : GoodIn wsX12_whyNoTake wsX12_has := goodIn_r _ [6] (by decide +kernel) (by decide +kernel)
set_option maxRecDepth 20000 in
theorem gX12_whyNoTake_X12_has : GoodIn wsX12_whyNoTake (va_wsS RX12 163 yX12_has wsX12_has) := goodIn_app (goodIn_of _ (by decide +kernel)) ggX12_whyNoTake_X12_has
theorem dX12_whyNoTake_0 : decode cX12_whyNoTake 0 = .ok (.aload_n 0, 1) := by decide +kernel
theorem dX12_whyNoTake_1 : decode cX12_whyNoTake 1 = .ok (.getfield 7, 3) := by decide +kernel
theorem dX12_whyNoTake_4 : decode cX12_whyNoTake 4 = .ok (.iload_n 2, 1) := by decide +kernel
theorem dX12_whyNoTake_5 : decode cX12_whyNoTake 5 = .ok (.iaload, 1) := by decide +kernel
theorem dX12_whyNoTake_6 : decode cX12_whyNoTake 6 = .ok (.iload_n 1, 1) := by decide +kernel
theorem dX12_whyNoTake_7 : decode cX12_whyNoTake 7 = .ok (.if_icmp .ne 7, 3) := by decide +kernel
theorem dX12_whyNoTake_10 : decode cX12_whyNoTake 10 = .ok (.iconst 1, 1) := by decide +kernel
theorem dX12_whyNoTake_11 : decode cX12_whyNoTake 11 = .ok (.goto 24, 3) := by decide +kernel
theorem dX12_whyNoTake_14 : decode cX12_whyNoTake 14 = .ok (.aload_n 0, 1) := by decide +kernel
theorem dX12_whyNoTake_15 : decode cX12_whyNoTake 15 = .ok (.getfield 84, 3) := by decide +kernel
theorem dX12_whyNoTake_18 : decode cX12_whyNoTake 18 = .ok (.aload_n 0, 1) := by decide +kernel
theorem dX12_whyNoTake_19 : decode cX12_whyNoTake 19 = .ok (.getfield 7, 3) := by decide +kernel
theorem dX12_whyNoTake_22 : decode cX12_whyNoTake 22 = .ok (.iload_n 2, 1) := by decide +kernel
theorem dX12_whyNoTake_23 : decode cX12_whyNoTake 23 = .ok (.iaload, 1) := by decide +kernel
theorem dX12_whyNoTake_24 : decode cX12_whyNoTake 24 = .ok (.invokestatic 163, 3) := by decide +kernel
theorem dX12_whyNoTake_27 : decode cX12_whyNoTake 27 = .ok (.ifCond .eq 7, 3) := by decide +kernel
theorem dX12_whyNoTake_30 : decode cX12_whyNoTake 30 = .ok (.iconst 0, 1) := by decide +kernel
theorem dX12_whyNoTake_31 : decode cX12_whyNoTake 31 = .ok (.goto 4, 3) := by decide +kernel
theorem dX12_whyNoTake_34 : decode cX12_whyNoTake 34 = .ok (.iconst 2, 1) := by decide +kernel
theorem dX12_whyNoTake_35 : decode cX12_whyNoTake 35 = .ok (.ireturn, 1) := by decide +kernel
theorem dX12_whyNoGift_0 : decode cX12_whyNoGift 0 = .ok (.aload_n 0, 1) := by decide +kernel
theorem dX12_whyNoGift_1 : decode cX12_whyNoGift 1 = .ok (.getfield 7, 3) := by decide +kernel
theorem dX12_whyNoGift_4 : decode cX12_whyNoGift 4 = .ok (.iload_n 2, 1) := by decide +kernel
theorem dX12_whyNoGift_5 : decode cX12_whyNoGift 5 = .ok (.iaload, 1) := by decide +kernel
theorem dX12_whyNoGift_6 : decode cX12_whyNoGift 6 = .ok (.iload_n 1, 1) := by decide +kernel
theorem dX12_whyNoGift_7 : decode cX12_whyNoGift 7 = .ok (.if_icmp .eq 7, 3) := by decide +kernel
theorem dX12_whyNoGift_10 : decode cX12_whyNoGift 10 = .ok (.iconst 1, 1) := by decide +kernel
theorem dX12_whyNoGift_11 : decode cX12_whyNoGift 11 = .ok (.goto 13, 3) := by decide +kernel
theorem dX12_whyNoGift_14 : decode cX12_whyNoGift 14 = .ok (.iload_n 1, 1) := by decide +kernel
theorem dX12_whyNoGift_15 : decode cX12_whyNoGift 15 = .ok (.iload_n 3, 1) := by decide +kernel
theorem dX12_whyNoGift_16 : decode cX12_whyNoGift 16 = .ok (.if_icmp .ne 7, 3) := by decide +kernel
theorem dX12_whyNoGift_19 : decode cX12_whyNoGift 19 = .ok (.iconst 3, 1) := by decide +kernel
theorem dX12_whyNoGift_20 : decode cX12_whyNoGift 20 = .ok (.goto 4, 3) := by decide +kernel
theorem dX12_whyNoGift_23 : decode cX12_whyNoGift 23 = .ok (.iconst 0, 1) := by decide +kernel
theorem dX12_whyNoGift_24 : decode cX12_whyNoGift 24 = .ok (.ireturn, 1) := by decide +kernel
set_option maxRecDepth 20000 in
theorem ggX12_whyNoSale_X12_whyNoGift : GoodIn wsX12_whyNoSale wsX12_whyNoGift := goodIn_r _ [7, 8, 14, 15, 16, 17, 18, 19, 20, 21, 22, 23, 24, 25, 26, 27, 28, 29, 30, 31, 32, 33, 34, 35, 36, 37, 38, 39, 40, 41, 42, 43, 44, 45, 46, 47, 48, 49, 50, 51] (by decide +kernel) (by decide +kernel)
set_option maxRecDepth 20000 in
theorem gX12_whyNoSale_X12_whyNoGift : GoodIn wsX12_whyNoSale (wsV RX12 167 RX12 yX12_whyNoGift wsX12_whyNoGift) := goodIn_app (goodIn_of _ (by decide +kernel)) ggX12_whyNoSale_X12_whyNoGift
set_option maxRecDepth 20000 in
theorem ggX12_whyNoSale_X12_price : GoodIn wsX12_whyNoSale wsX12_price := goodIn_r _ [12, 1, 13, 14, 15, 16, 17, 18, 19, 20, 21, 22, 23, 24, 25, 26, 27, 28, 29, 30, 31, 32, 33, 34, 35, 36, 37, 38, 39, 40, 41, 42, 43, 44, 45, 46, 47, 48, 49, 50, 51] (by decide +kernel) (by decide +kernel)
set_option maxRecDepth 20000 in
theorem gX12_whyNoSale_X12_price : GoodIn wsX12_whyNoSale (wsV RX12 171 RX12 yX12_price wsX12_price) := goodIn_app (goodIn_of _ (by decide +kernel)) ggX12_whyNoSale_X12_price
theorem dX12_whyNoSale_0 : decode cX12_whyNoSale 0 = .ok (.aload_n 0, 1) := by decide +kernel
theorem dX12_whyNoSale_1 : decode cX12_whyNoSale 1 = .ok (.iload_n 1, 1) := by decide +kernel
theorem dX12_whyNoSale_2 : decode cX12_whyNoSale 2 = .ok (.iload_n 2, 1) := by decide +kernel
theorem dX12_whyNoSale_3 : decode cX12_whyNoSale 3 = .ok (.iload_n 3, 1) := by decide +kernel
theorem dX12_whyNoSale_4 : decode cX12_whyNoSale 4 = .ok (.invokevirtual 167, 3) := by decide +kernel
theorem dX12_whyNoSale_7 : decode cX12_whyNoSale 7 = .ok (.istore 4, 2) := by decide +kernel
theorem dX12_whyNoSale_9 : decode cX12_whyNoSale 9 = .ok (.iload 4, 2) := by decide +kernel
theorem dX12_whyNoSale_11 : decode cX12_whyNoSale 11 = .ok (.ifCond .le 8, 3) := by decide +kernel
theorem dX12_whyNoSale_14 : decode cX12_whyNoSale 14 = .ok (.iload 4, 2) := by decide +kernel
theorem dX12_whyNoSale_16 : decode cX12_whyNoSale 16 = .ok (.goto 36, 3) := by decide +kernel
theorem dX12_whyNoSale_19 : decode cX12_whyNoSale 19 = .ok (.aload_n 0, 1) := by decide +kernel
theorem dX12_whyNoSale_20 : decode cX12_whyNoSale 20 = .ok (.getfield 13, 3) := by decide +kernel
theorem dX12_whyNoSale_23 : decode cX12_whyNoSale 23 = .ok (.iload_n 2, 1) := by decide +kernel
theorem dX12_whyNoSale_24 : decode cX12_whyNoSale 24 = .ok (.iaload, 1) := by decide +kernel
theorem dX12_whyNoSale_25 : decode cX12_whyNoSale 25 = .ok (.iconst 2, 1) := by decide +kernel
theorem dX12_whyNoSale_26 : decode cX12_whyNoSale 26 = .ok (.if_icmp .ge 7, 3) := by decide +kernel
theorem dX12_whyNoSale_29 : decode cX12_whyNoSale 29 = .ok (.iconst 4, 1) := by decide +kernel
theorem dX12_whyNoSale_30 : decode cX12_whyNoSale 30 = .ok (.goto 22, 3) := by decide +kernel
theorem dX12_whyNoSale_33 : decode cX12_whyNoSale 33 = .ok (.aload_n 0, 1) := by decide +kernel
theorem dX12_whyNoSale_34 : decode cX12_whyNoSale 34 = .ok (.getfield 22, 3) := by decide +kernel
theorem dX12_whyNoSale_37 : decode cX12_whyNoSale 37 = .ok (.iload_n 3, 1) := by decide +kernel
theorem dX12_whyNoSale_38 : decode cX12_whyNoSale 38 = .ok (.iaload, 1) := by decide +kernel
theorem dX12_whyNoSale_39 : decode cX12_whyNoSale 39 = .ok (.aload_n 0, 1) := by decide +kernel
theorem dX12_whyNoSale_40 : decode cX12_whyNoSale 40 = .ok (.iload_n 2, 1) := by decide +kernel
theorem dX12_whyNoSale_41 : decode cX12_whyNoSale 41 = .ok (.invokevirtual 171, 3) := by decide +kernel
theorem dX12_whyNoSale_44 : decode cX12_whyNoSale 44 = .ok (.if_icmp .ge 7, 3) := by decide +kernel
theorem dX12_whyNoSale_47 : decode cX12_whyNoSale 47 = .ok (.iconst 5, 1) := by decide +kernel
theorem dX12_whyNoSale_48 : decode cX12_whyNoSale 48 = .ok (.goto 4, 3) := by decide +kernel
theorem dX12_whyNoSale_51 : decode cX12_whyNoSale 51 = .ok (.iconst 0, 1) := by decide +kernel
theorem dX12_whyNoSale_52 : decode cX12_whyNoSale 52 = .ok (.ireturn, 1) := by decide +kernel
set_option maxRecDepth 20000 in
theorem ggX12_whyNot_X12_whyNoTake : GoodIn wsX12_whyNot wsX12_whyNoTake := goodIn_r _ [6, 7, 8, 9, 10, 5, 11, 27, 28, 29, 30, 31, 32, 33, 34, 35, 36, 37, 38, 39, 40, 41, 42, 43, 44, 45, 46, 47, 48, 49, 50, 51, 52, 53, 54, 55, 56, 57, 58, 59, 60, 61, 62, 63, 64] (by decide +kernel) (by decide +kernel)
set_option maxRecDepth 20000 in
theorem gX12_whyNot_X12_whyNoTake : GoodIn wsX12_whyNot (wsV RX12 174 RX12 yX12_whyNoTake wsX12_whyNoTake) := goodIn_app (goodIn_of _ (by decide +kernel)) ggX12_whyNot_X12_whyNoTake
set_option maxRecDepth 20000 in
theorem ggX12_whyNot_X12_whyNoSale : GoodIn wsX12_whyNot wsX12_whyNoSale := goodIn_r _ [15, 16, 17, 18, 19, 20, 5, 21, 7, 22, 23, 24, 25, 26, 27, 28, 29, 30, 31, 32, 33, 34, 35, 36, 37, 38, 39, 40, 41, 42, 43, 44, 45, 46, 47, 48, 49, 50, 51, 52, 53, 54, 55, 56, 57, 58, 59, 60, 61, 62, 63, 64] (by decide +kernel) (by decide +kernel)
set_option maxRecDepth 20000 in
theorem gX12_whyNot_X12_whyNoSale : GoodIn wsX12_whyNot (wsV RX12 177 RX12 yX12_whyNoSale wsX12_whyNoSale) := goodIn_app (goodIn_of _ (by decide +kernel)) ggX12_whyNot_X12_whyNoSale
set_option maxRecDepth 20000 in
theorem ggX12_whyNot_X12_whyNoGift : GoodIn wsX12_whyNot wsX12_whyNoGift := goodIn_r _ [21, 7, 27, 28, 29, 30, 31, 32, 33, 34, 35, 36, 37, 38, 39, 40, 41, 42, 43, 44, 45, 46, 47, 48, 49, 50, 51, 52, 53, 54, 55, 56, 57, 58, 59, 60, 61, 62, 63, 64] (by decide +kernel) (by decide +kernel)
set_option maxRecDepth 20000 in
theorem gX12_whyNot_X12_whyNoGift : GoodIn wsX12_whyNot (wsV RX12 167 RX12 yX12_whyNoGift wsX12_whyNoGift) := goodIn_app (goodIn_of _ (by decide +kernel)) ggX12_whyNot_X12_whyNoGift
theorem dX12_whyNot_0 : decode cX12_whyNot 0 = .ok (.iload_n 1, 1) := by decide +kernel
theorem dX12_whyNot_1 : decode cX12_whyNot 1 = .ok (.tableswitch 76 0 4 #[35, 42, 51, 76, 60], 35) := by decide +kernel
theorem dX12_whyNot_36 : decode cX12_whyNot 36 = .ok (.aload_n 0, 1) := by decide +kernel
theorem dX12_whyNot_37 : decode cX12_whyNot 37 = .ok (.iload_n 2, 1) := by decide +kernel
theorem dX12_whyNot_38 : decode cX12_whyNot 38 = .ok (.iload_n 3, 1) := by decide +kernel
theorem dX12_whyNot_39 : decode cX12_whyNot 39 = .ok (.invokevirtual 174, 3) := by decide +kernel
theorem dX12_whyNot_42 : decode cX12_whyNot 42 = .ok (.ireturn, 1) := by decide +kernel
theorem dX12_whyNot_43 : decode cX12_whyNot 43 = .ok (.aload_n 0, 1) := by decide +kernel
theorem dX12_whyNot_44 : decode cX12_whyNot 44 = .ok (.iload_n 2, 1) := by decide +kernel
theorem dX12_whyNot_45 : decode cX12_whyNot 45 = .ok (.iload_n 3, 1) := by decide +kernel
theorem dX12_whyNot_46 : decode cX12_whyNot 46 = .ok (.iload 4, 2) := by decide +kernel
theorem dX12_whyNot_48 : decode cX12_whyNot 48 = .ok (.invokevirtual 177, 3) := by decide +kernel
theorem dX12_whyNot_51 : decode cX12_whyNot 51 = .ok (.ireturn, 1) := by decide +kernel
theorem dX12_whyNot_52 : decode cX12_whyNot 52 = .ok (.aload_n 0, 1) := by decide +kernel
theorem dX12_whyNot_53 : decode cX12_whyNot 53 = .ok (.iload_n 2, 1) := by decide +kernel
theorem dX12_whyNot_54 : decode cX12_whyNot 54 = .ok (.iload_n 3, 1) := by decide +kernel
theorem dX12_whyNot_55 : decode cX12_whyNot 55 = .ok (.iload 4, 2) := by decide +kernel
theorem dX12_whyNot_57 : decode cX12_whyNot 57 = .ok (.invokevirtual 167, 3) := by decide +kernel
theorem dX12_whyNot_60 : decode cX12_whyNot 60 = .ok (.ireturn, 1) := by decide +kernel
theorem dX12_whyNot_61 : decode cX12_whyNot 61 = .ok (.aload_n 0, 1) := by decide +kernel
theorem dX12_whyNot_62 : decode cX12_whyNot 62 = .ok (.getfield 180, 3) := by decide +kernel
theorem dX12_whyNot_65 : decode cX12_whyNot 65 = .ok (.bipush 99, 2) := by decide +kernel
theorem dX12_whyNot_67 : decode cX12_whyNot 67 = .ok (.if_icmp .ne 8, 3) := by decide +kernel
theorem dX12_whyNot_70 : decode cX12_whyNot 70 = .ok (.bipush 6, 2) := by decide +kernel
theorem dX12_whyNot_72 : decode cX12_whyNot 72 = .ok (.goto 4, 3) := by decide +kernel
theorem dX12_whyNot_75 : decode cX12_whyNot 75 = .ok (.iconst 0, 1) := by decide +kernel
theorem dX12_whyNot_76 : decode cX12_whyNot 76 = .ok (.ireturn, 1) := by decide +kernel
theorem dX12_whyNot_77 : decode cX12_whyNot 77 = .ok (.iconst 0, 1) := by decide +kernel
theorem dX12_whyNot_78 : decode cX12_whyNot 78 = .ok (.ireturn, 1) := by decide +kernel
set_option maxRecDepth 20000 in
theorem ggX12_take_X12_has : GoodIn wsX12_take wsX12_has := goodIn_r _ [7] (by decide +kernel) (by decide +kernel)
set_option maxRecDepth 20000 in
theorem gX12_take_X12_has : GoodIn wsX12_take (va_wsS RX12 163 yX12_has wsX12_has) := goodIn_app (goodIn_of _ (by decide +kernel)) ggX12_take_X12_has
theorem dX12_take_0 : decode cX12_take 0 = .ok (.aload_n 0, 1) := by decide +kernel
theorem dX12_take_1 : decode cX12_take 1 = .ok (.getfield 25, 3) := by decide +kernel
theorem dX12_take_4 : decode cX12_take 4 = .ok (.iload_n 1, 1) := by decide +kernel
theorem dX12_take_5 : decode cX12_take 5 = .ok (.iaload, 1) := by decide +kernel
theorem dX12_take_6 : decode cX12_take 6 = .ok (.aload_n 0, 1) := by decide +kernel
theorem dX12_take_7 : decode cX12_take 7 = .ok (.getfield 7, 3) := by decide +kernel
theorem dX12_take_10 : decode cX12_take 10 = .ok (.iload_n 2, 1) := by decide +kernel
theorem dX12_take_11 : decode cX12_take 11 = .ok (.iaload, 1) := by decide +kernel
theorem dX12_take_12 : decode cX12_take 12 = .ok (.invokestatic 163, 3) := by decide +kernel
theorem dX12_take_15 : decode cX12_take 15 = .ok (.ifCond .ne 18, 3) := by decide +kernel
theorem dX12_take_18 : decode cX12_take 18 = .ok (.aload_n 0, 1) := by decide +kernel
theorem dX12_take_19 : decode cX12_take 19 = .ok (.getfield 13, 3) := by decide +kernel
theorem dX12_take_22 : decode cX12_take 22 = .ok (.iload_n 2, 1) := by decide +kernel
theorem dX12_take_23 : decode cX12_take 23 = .ok (.iaload, 1) := by decide +kernel
theorem dX12_take_24 : decode cX12_take 24 = .ok (.bipush 9, 2) := by decide +kernel
theorem dX12_take_26 : decode cX12_take 26 = .ok (.if_icmp .ge 7, 3) := by decide +kernel
theorem dX12_take_29 : decode cX12_take 29 = .ok (.iconst 1, 1) := by decide +kernel
theorem dX12_take_30 : decode cX12_take 30 = .ok (.goto 4, 3) := by decide +kernel
theorem dX12_take_33 : decode cX12_take 33 = .ok (.iconst 0, 1) := by decide +kernel
theorem dX12_take_34 : decode cX12_take 34 = .ok (.istore_n 3, 1) := by decide +kernel
theorem dX12_take_35 : decode cX12_take 35 = .ok (.aload_n 0, 1) := by decide +kernel
theorem dX12_take_36 : decode cX12_take 36 = .ok (.getfield 13, 3) := by decide +kernel
theorem dX12_take_39 : decode cX12_take 39 = .ok (.iload_n 2, 1) := by decide +kernel
theorem dX12_take_40 : decode cX12_take 40 = .ok (.dup2, 1) := by decide +kernel
theorem dX12_take_41 : decode cX12_take 41 = .ok (.iaload, 1) := by decide +kernel
theorem dX12_take_42 : decode cX12_take 42 = .ok (.iload_n 3, 1) := by decide +kernel
theorem dX12_take_43 : decode cX12_take 43 = .ok (.ifCond .eq 7, 3) := by decide +kernel
theorem dX12_take_46 : decode cX12_take 46 = .ok (.iconst 1, 1) := by decide +kernel
theorem dX12_take_47 : decode cX12_take 47 = .ok (.goto 4, 3) := by decide +kernel
theorem dX12_take_50 : decode cX12_take 50 = .ok (.iconst 0, 1) := by decide +kernel
theorem dX12_take_51 : decode cX12_take 51 = .ok (.iadd, 1) := by decide +kernel
theorem dX12_take_52 : decode cX12_take 52 = .ok (.iastore, 1) := by decide +kernel
theorem dX12_take_53 : decode cX12_take 53 = .ok (.aload_n 0, 1) := by decide +kernel
theorem dX12_take_54 : decode cX12_take 54 = .ok (.getfield 7, 3) := by decide +kernel
theorem dX12_take_57 : decode cX12_take 57 = .ok (.iload_n 2, 1) := by decide +kernel
theorem dX12_take_58 : decode cX12_take 58 = .ok (.iload_n 1, 1) := by decide +kernel
theorem dX12_take_59 : decode cX12_take 59 = .ok (.iastore, 1) := by decide +kernel
theorem dX12_take_60 : decode cX12_take 60 = .ok (.return_, 1) := by decide +kernel
theorem dX12_give_0 : decode cX12_give 0 = .ok (.aload_n 0, 1) := by decide +kernel
theorem dX12_give_1 : decode cX12_give 1 = .ok (.getfield 7, 3) := by decide +kernel
theorem dX12_give_4 : decode cX12_give 4 = .ok (.iload_n 1, 1) := by decide +kernel
theorem dX12_give_5 : decode cX12_give 5 = .ok (.iload_n 2, 1) := by decide +kernel
theorem dX12_give_6 : decode cX12_give 6 = .ok (.iastore, 1) := by decide +kernel
theorem dX12_give_7 : decode cX12_give 7 = .ok (.aload_n 0, 1) := by decide +kernel
theorem dX12_give_8 : decode cX12_give 8 = .ok (.getfield 13, 3) := by decide +kernel
theorem dX12_give_11 : decode cX12_give 11 = .ok (.iload_n 1, 1) := by decide +kernel
theorem dX12_give_12 : decode cX12_give 12 = .ok (.iconst 0, 1) := by decide +kernel
theorem dX12_give_13 : decode cX12_give 13 = .ok (.iastore, 1) := by decide +kernel
theorem dX12_give_14 : decode cX12_give 14 = .ok (.return_, 1) := by decide +kernel
set_option maxRecDepth 20000 in
theorem ggX12_sell_X12_price : GoodIn wsX12_sell wsX12_price := goodIn_r _ [8, 9, 10, 16, 17, 18, 19, 20, 21, 22, 23, 24, 25, 26, 27, 28, 29, 30, 31, 32, 33, 34, 35, 36, 37, 38, 39, 40, 41, 42, 43, 44, 45, 46, 47, 48, 49, 50, 51, 52, 53] (by decide +kernel) (by decide +kernel)
set_option maxRecDepth 20000 in
theorem gX12_sell_X12_price : GoodIn wsX12_sell (wsV RX12 171 RX12 yX12_price wsX12_price) := goodIn_app (goodIn_of _ (by decide +kernel)) ggX12_sell_X12_price
set_option maxRecDepth 20000 in
theorem ggX12_sell_X12_give : GoodIn wsX12_sell wsX12_give := goodIn_r _ [14, 15, 9, 16, 17, 18, 19, 20, 21, 22, 23, 24, 25, 26, 27, 28, 29, 30, 31, 32, 33, 34, 35, 36, 37, 38, 39, 40, 41, 42, 43, 44, 45, 46, 47, 48, 49, 50, 51, 52, 53] (by decide +kernel) (by decide +kernel)
set_option maxRecDepth 20000 in
theorem gX12_sell_X12_give : GoodIn wsX12_sell (wsV RX12 189 RX12 yX12_give wsX12_give) := goodIn_app (goodIn_of _ (by decide +kernel)) ggX12_sell_X12_give
theorem dX12_sell_0 : decode cX12_sell 0 = .ok (.aload_n 0, 1) := by decide +kernel
theorem dX12_sell_1 : decode cX12_sell 1 = .ok (.iload_n 2, 1) := by decide +kernel
theorem dX12_sell_2 : decode cX12_sell 2 = .ok (.invokevirtual 171, 3) := by decide +kernel
theorem dX12_sell_5 : decode cX12_sell 5 = .ok (.istore 4, 2) := by decide +kernel
theorem dX12_sell_7 : decode cX12_sell 7 = .ok (.aload_n 0, 1) := by decide +kernel
theorem dX12_sell_8 : decode cX12_sell 8 = .ok (.getfield 22, 3) := by decide +kernel
theorem dX12_sell_11 : decode cX12_sell 11 = .ok (.iload_n 3, 1) := by decide +kernel
theorem dX12_sell_12 : decode cX12_sell 12 = .ok (.dup2, 1) := by decide +kernel
theorem dX12_sell_13 : decode cX12_sell 13 = .ok (.iaload, 1) := by decide +kernel
theorem dX12_sell_14 : decode cX12_sell 14 = .ok (.iload 4, 2) := by decide +kernel
theorem dX12_sell_16 : decode cX12_sell 16 = .ok (.isub, 1) := by decide +kernel
theorem dX12_sell_17 : decode cX12_sell 17 = .ok (.iastore, 1) := by decide +kernel
theorem dX12_sell_18 : decode cX12_sell 18 = .ok (.aload_n 0, 1) := by decide +kernel
theorem dX12_sell_19 : decode cX12_sell 19 = .ok (.getfield 22, 3) := by decide +kernel
theorem dX12_sell_22 : decode cX12_sell 22 = .ok (.iload_n 1, 1) := by decide +kernel
theorem dX12_sell_23 : decode cX12_sell 23 = .ok (.aload_n 0, 1) := by decide +kernel
theorem dX12_sell_24 : decode cX12_sell 24 = .ok (.getfield 22, 3) := by decide +kernel
theorem dX12_sell_27 : decode cX12_sell 27 = .ok (.iload_n 1, 1) := by decide +kernel
theorem dX12_sell_28 : decode cX12_sell 28 = .ok (.iaload, 1) := by decide +kernel
theorem dX12_sell_29 : decode cX12_sell 29 = .ok (.iload 4, 2) := by decide +kernel
theorem dX12_sell_31 : decode cX12_sell 31 = .ok (.iadd, 1) := by decide +kernel
theorem dX12_sell_32 : decode cX12_sell 32 = .ok (.sipush 9999, 3) := by decide +kernel
theorem dX12_sell_35 : decode cX12_sell 35 = .ok (.if_icmp .le 9, 3) := by decide +kernel
theorem dX12_sell_38 : decode cX12_sell 38 = .ok (.sipush 9999, 3) := by decide +kernel
theorem dX12_sell_41 : decode cX12_sell 41 = .ok (.goto 12, 3) := by decide +kernel
theorem dX12_sell_44 : decode cX12_sell 44 = .ok (.aload_n 0, 1) := by decide +kernel
theorem dX12_sell_45 : decode cX12_sell 45 = .ok (.getfield 22, 3) := by decide +kernel
theorem dX12_sell_48 : decode cX12_sell 48 = .ok (.iload_n 1, 1) := by decide +kernel
theorem dX12_sell_49 : decode cX12_sell 49 = .ok (.iaload, 1) := by decide +kernel
theorem dX12_sell_50 : decode cX12_sell 50 = .ok (.iload 4, 2) := by decide +kernel
theorem dX12_sell_52 : decode cX12_sell 52 = .ok (.iadd, 1) := by decide +kernel
theorem dX12_sell_53 : decode cX12_sell 53 = .ok (.iastore, 1) := by decide +kernel
theorem dX12_sell_54 : decode cX12_sell 54 = .ok (.aload_n 0, 1) := by decide +kernel
theorem dX12_sell_55 : decode cX12_sell 55 = .ok (.dup, 1) := by decide +kernel
theorem dX12_sell_56 : decode cX12_sell 56 = .ok (.getfield 183, 3) := by decide +kernel
theorem dX12_sell_59 : decode cX12_sell 59 = .ok (.iconst 1, 1) := by decide +kernel
theorem dX12_sell_60 : decode cX12_sell 60 = .ok (.iadd, 1) := by decide +kernel
theorem dX12_sell_61 : decode cX12_sell 61 = .ok (.putfield 183, 3) := by decide +kernel
theorem dX12_sell_64 : decode cX12_sell 64 = .ok (.aload_n 0, 1) := by decide +kernel
theorem dX12_sell_65 : decode cX12_sell 65 = .ok (.dup, 1) := by decide +kernel
theorem dX12_sell_66 : decode cX12_sell 66 = .ok (.getfield 186, 3) := by decide +kernel
theorem dX12_sell_69 : decode cX12_sell 69 = .ok (.iload 4, 2) := by decide +kernel
theorem dX12_sell_71 : decode cX12_sell 71 = .ok (.iadd, 1) := by decide +kernel
theorem dX12_sell_72 : decode cX12_sell 72 = .ok (.putfield 186, 3) := by decide +kernel
theorem dX12_sell_75 : decode cX12_sell 75 = .ok (.aload_n 0, 1) := by decide +kernel
theorem dX12_sell_76 : decode cX12_sell 76 = .ok (.iload_n 2, 1) := by decide +kernel
theorem dX12_sell_77 : decode cX12_sell 77 = .ok (.iload_n 3, 1) := by decide +kernel
theorem dX12_sell_78 : decode cX12_sell 78 = .ok (.invokevirtual 189, 3) := by decide +kernel
theorem dX12_sell_81 : decode cX12_sell 81 = .ok (.return_, 1) := by decide +kernel
theorem dX12_passNight_0 : decode cX12_passNight 0 = .ok (.aload_n 0, 1) := by decide +kernel
theorem dX12_passNight_1 : decode cX12_passNight 1 = .ok (.sipush 255, 3) := by decide +kernel
theorem dX12_passNight_4 : decode cX12_passNight 4 = .ok (.putfield 84, 3) := by decide +kernel
theorem dX12_passNight_7 : decode cX12_passNight 7 = .ok (.iconst 0, 1) := by decide +kernel
theorem dX12_passNight_8 : decode cX12_passNight 8 = .ok (.istore_n 1, 1) := by decide +kernel
theorem dX12_passNight_9 : decode cX12_passNight 9 = .ok (.iload_n 1, 1) := by decide +kernel
theorem dX12_passNight_10 : decode cX12_passNight 10 = .ok (.bipush 12, 2) := by decide +kernel
theorem dX12_passNight_12 : decode cX12_passNight 12 = .ok (.if_icmp .ge 35, 3) := by decide +kernel
theorem dX12_passNight_15 : decode cX12_passNight 15 = .ok (.aload_n 0, 1) := by decide +kernel
theorem dX12_passNight_16 : decode cX12_passNight 16 = .ok (.getfield 13, 3) := by decide +kernel
theorem dX12_passNight_19 : decode cX12_passNight 19 = .ok (.iload_n 1, 1) := by decide +kernel
theorem dX12_passNight_20 : decode cX12_passNight 20 = .ok (.aload_n 0, 1) := by decide +kernel
theorem dX12_passNight_21 : decode cX12_passNight 21 = .ok (.getfield 13, 3) := by decide +kernel
theorem dX12_passNight_24 : decode cX12_passNight 24 = .ok (.iload_n 1, 1) := by decide +kernel
theorem dX12_passNight_25 : decode cX12_passNight 25 = .ok (.iaload, 1) := by decide +kernel
theorem dX12_passNight_26 : decode cX12_passNight 26 = .ok (.iconst 1, 1) := by decide +kernel
theorem dX12_passNight_27 : decode cX12_passNight 27 = .ok (.if_icmp .ne 7, 3) := by decide +kernel
theorem dX12_passNight_30 : decode cX12_passNight 30 = .ok (.iconst 0, 1) := by decide +kernel
theorem dX12_passNight_31 : decode cX12_passNight 31 = .ok (.goto 9, 3) := by decide +kernel
theorem dX12_passNight_34 : decode cX12_passNight 34 = .ok (.aload_n 0, 1) := by decide +kernel
theorem dX12_passNight_35 : decode cX12_passNight 35 = .ok (.getfield 13, 3) := by decide +kernel
theorem dX12_passNight_38 : decode cX12_passNight 38 = .ok (.iload_n 1, 1) := by decide +kernel
theorem dX12_passNight_39 : decode cX12_passNight 39 = .ok (.iaload, 1) := by decide +kernel
theorem dX12_passNight_40 : decode cX12_passNight 40 = .ok (.iastore, 1) := by decide +kernel
theorem dX12_passNight_41 : decode cX12_passNight 41 = .ok (.iinc 1 1, 3) := by decide +kernel
theorem dX12_passNight_44 : decode cX12_passNight 44 = .ok (.goto (-35), 3) := by decide +kernel
theorem dX12_passNight_47 : decode cX12_passNight 47 = .ok (.aload_n 0, 1) := by decide +kernel
theorem dX12_passNight_48 : decode cX12_passNight 48 = .ok (.dup, 1) := by decide +kernel
theorem dX12_passNight_49 : decode cX12_passNight 49 = .ok (.getfield 180, 3) := by decide +kernel
theorem dX12_passNight_52 : decode cX12_passNight 52 = .ok (.iconst 1, 1) := by decide +kernel
theorem dX12_passNight_53 : decode cX12_passNight 53 = .ok (.iadd, 1) := by decide +kernel
theorem dX12_passNight_54 : decode cX12_passNight 54 = .ok (.putfield 180, 3) := by decide +kernel
theorem dX12_passNight_57 : decode cX12_passNight 57 = .ok (.return_, 1) := by decide +kernel
set_option maxRecDepth 20000 in
theorem ggX12_happen_X12_take : GoodIn wsX12_happen wsX12_take := goodIn_r _ [6, 7, 8, 9, 10, 11, 5, 12, 34, 35, 36, 37, 38, 39, 40, 41, 42, 43, 44, 45, 46, 47, 48, 49, 50, 51, 52, 53, 54, 55, 56, 57, 58, 59, 60, 61, 62, 63, 64, 65, 66, 67, 68, 69, 70, 71] (by decide +kernel) (by decide +kernel)
set_option maxRecDepth 20000 in
theorem gX12_happen_X12_take : GoodIn wsX12_happen (wsV RX12 193 RX12 yX12_take wsX12_take) := goodIn_app (goodIn_of _ (by decide +kernel)) ggX12_happen_X12_take
set_option maxRecDepth 20000 in
theorem ggX12_happen_X12_sell : GoodIn wsX12_happen wsX12_sell := goodIn_r _ [16, 17, 18, 19, 20, 21, 22, 5, 23, 9, 24, 25, 26, 27, 28, 8, 34, 35, 36, 37, 38, 39, 40, 41, 42, 43, 44, 45, 46, 47, 48, 49, 50, 51, 52, 53, 54, 55, 56, 57, 58, 59, 60, 61, 62, 63, 64, 65, 66, 67, 68, 69, 70, 71] (by decide +kernel) (by decide +kernel)
set_option maxRecDepth 20000 in
theorem gX12_happen_X12_sell : GoodIn wsX12_happen (wsV RX12 196 RX12 yX12_sell wsX12_sell) := goodIn_app (goodIn_of _ (by decide +kernel)) ggX12_happen_X12_sell
set_option maxRecDepth 20000 in
theorem ggX12_happen_X12_give : GoodIn wsX12_happen wsX12_give := goodIn_r _ [28, 8, 9, 34, 35, 36, 37, 38, 39, 40, 41, 42, 43, 44, 45, 46, 47, 48, 49, 50, 51, 52, 53, 54, 55, 56, 57, 58, 59, 60, 61, 62, 63, 64, 65, 66, 67, 68, 69, 70, 71] (by decide +kernel) (by decide +kernel)
set_option maxRecDepth 20000 in
theorem gX12_happen_X12_give : GoodIn wsX12_happen (wsV RX12 189 RX12 yX12_give wsX12_give) := goodIn_app (goodIn_of _ (by decide +kernel)) ggX12_happen_X12_give
set_option maxRecDepth 20000 in
theorem ggX12_happen_X12_passNight : GoodIn wsX12_happen wsX12_passNight := goodIn_r _ [32, 1, 9, 33, 34, 35, 36, 37, 38, 39, 40, 41, 42, 43, 44, 45, 46, 47, 48, 49, 50, 51, 52, 53, 54, 55, 56, 57, 58, 59, 60, 61, 62, 63, 64, 65, 66, 67, 68, 69, 70, 71] (by decide +kernel) (by decide +kernel)
set_option maxRecDepth 20000 in
theorem gX12_happen_X12_passNight : GoodIn wsX12_happen (wsV RX12 200 RX12 yX12_passNight wsX12_passNight) := goodIn_app (goodIn_of _ (by decide +kernel)) ggX12_happen_X12_passNight
theorem dX12_happen_0 : decode cX12_happen 0 = .ok (.iload_n 1, 1) := by decide +kernel
theorem dX12_happen_1 : decode cX12_happen 1 = .ok (.tableswitch 76 0 3 #[31, 40, 51, 61], 31) := by decide +kernel
theorem dX12_happen_32 : decode cX12_happen 32 = .ok (.aload_n 0, 1) := by decide +kernel
theorem dX12_happen_33 : decode cX12_happen 33 = .ok (.iload_n 2, 1) := by decide +kernel
theorem dX12_happen_34 : decode cX12_happen 34 = .ok (.iload_n 3, 1) := by decide +kernel
theorem dX12_happen_35 : decode cX12_happen 35 = .ok (.invokevirtual 193, 3) := by decide +kernel
theorem dX12_happen_38 : decode cX12_happen 38 = .ok (.goto 43, 3) := by decide +kernel
theorem dX12_happen_41 : decode cX12_happen 41 = .ok (.aload_n 0, 1) := by decide +kernel
theorem dX12_happen_42 : decode cX12_happen 42 = .ok (.iload_n 2, 1) := by decide +kernel
theorem dX12_happen_43 : decode cX12_happen 43 = .ok (.iload_n 3, 1) := by decide +kernel
theorem dX12_happen_44 : decode cX12_happen 44 = .ok (.iload 4, 2) := by decide +kernel
theorem dX12_happen_46 : decode cX12_happen 46 = .ok (.invokevirtual 196, 3) := by decide +kernel
theorem dX12_happen_49 : decode cX12_happen 49 = .ok (.goto 32, 3) := by decide +kernel
theorem dX12_happen_52 : decode cX12_happen 52 = .ok (.aload_n 0, 1) := by decide +kernel
theorem dX12_happen_53 : decode cX12_happen 53 = .ok (.iload_n 3, 1) := by decide +kernel
theorem dX12_happen_54 : decode cX12_happen 54 = .ok (.iload 4, 2) := by decide +kernel
theorem dX12_happen_56 : decode cX12_happen 56 = .ok (.invokevirtual 189, 3) := by decide +kernel
theorem dX12_happen_59 : decode cX12_happen 59 = .ok (.goto 22, 3) := by decide +kernel
theorem dX12_happen_62 : decode cX12_happen 62 = .ok (.aload_n 0, 1) := by decide +kernel
theorem dX12_happen_63 : decode cX12_happen 63 = .ok (.dup, 1) := by decide +kernel
theorem dX12_happen_64 : decode cX12_happen 64 = .ok (.getfield 84, 3) := by decide +kernel
theorem dX12_happen_67 : decode cX12_happen 67 = .ok (.iconst 1, 1) := by decide +kernel
theorem dX12_happen_68 : decode cX12_happen 68 = .ok (.iload_n 2, 1) := by decide +kernel
theorem dX12_happen_69 : decode cX12_happen 69 = .ok (.ishl, 1) := by decide +kernel
theorem dX12_happen_70 : decode cX12_happen 70 = .ok (.ixor, 1) := by decide +kernel
theorem dX12_happen_71 : decode cX12_happen 71 = .ok (.putfield 84, 3) := by decide +kernel
theorem dX12_happen_74 : decode cX12_happen 74 = .ok (.goto 7, 3) := by decide +kernel
theorem dX12_happen_77 : decode cX12_happen 77 = .ok (.aload_n 0, 1) := by decide +kernel
theorem dX12_happen_78 : decode cX12_happen 78 = .ok (.invokevirtual 200, 3) := by decide +kernel
theorem dX12_happen_81 : decode cX12_happen 81 = .ok (.return_, 1) := by decide +kernel
theorem dX12_keepNow_0 : decode cX12_keepNow 0 = .ok (.iconst 0, 1) := by decide +kernel
theorem dX12_keepNow_1 : decode cX12_keepNow 1 = .ok (.istore_n 1, 1) := by decide +kernel
theorem dX12_keepNow_2 : decode cX12_keepNow 2 = .ok (.iload_n 1, 1) := by decide +kernel
theorem dX12_keepNow_3 : decode cX12_keepNow 3 = .ok (.bipush 12, 2) := by decide +kernel
theorem dX12_keepNow_5 : decode cX12_keepNow 5 = .ok (.if_icmp .ge 36, 3) := by decide +kernel
theorem dX12_keepNow_8 : decode cX12_keepNow 8 = .ok (.aload_n 0, 1) := by decide +kernel
theorem dX12_keepNow_9 : decode cX12_keepNow 9 = .ok (.getfield 49, 3) := by decide +kernel
theorem dX12_keepNow_12 : decode cX12_keepNow 12 = .ok (.iload_n 1, 1) := by decide +kernel
theorem dX12_keepNow_13 : decode cX12_keepNow 13 = .ok (.aload_n 0, 1) := by decide +kernel
theorem dX12_keepNow_14 : decode cX12_keepNow 14 = .ok (.getfield 7, 3) := by decide +kernel
theorem dX12_keepNow_17 : decode cX12_keepNow 17 = .ok (.iload_n 1, 1) := by decide +kernel
theorem dX12_keepNow_18 : decode cX12_keepNow 18 = .ok (.iaload, 1) := by decide +kernel
theorem dX12_keepNow_19 : decode cX12_keepNow 19 = .ok (.iastore, 1) := by decide +kernel
theorem dX12_keepNow_20 : decode cX12_keepNow 20 = .ok (.aload_n 0, 1) := by decide +kernel
theorem dX12_keepNow_21 : decode cX12_keepNow 21 = .ok (.getfield 49, 3) := by decide +kernel
theorem dX12_keepNow_24 : decode cX12_keepNow 24 = .ok (.bipush 12, 2) := by decide +kernel
theorem dX12_keepNow_26 : decode cX12_keepNow 26 = .ok (.iload_n 1, 1) := by decide +kernel
theorem dX12_keepNow_27 : decode cX12_keepNow 27 = .ok (.iadd, 1) := by decide +kernel
theorem dX12_keepNow_28 : decode cX12_keepNow 28 = .ok (.aload_n 0, 1) := by decide +kernel
theorem dX12_keepNow_29 : decode cX12_keepNow 29 = .ok (.getfield 13, 3) := by decide +kernel
theorem dX12_keepNow_32 : decode cX12_keepNow 32 = .ok (.iload_n 1, 1) := by decide +kernel
theorem dX12_keepNow_33 : decode cX12_keepNow 33 = .ok (.iaload, 1) := by decide +kernel
theorem dX12_keepNow_34 : decode cX12_keepNow 34 = .ok (.iastore, 1) := by decide +kernel
theorem dX12_keepNow_35 : decode cX12_keepNow 35 = .ok (.iinc 1 1, 3) := by decide +kernel
theorem dX12_keepNow_38 : decode cX12_keepNow 38 = .ok (.goto (-36), 3) := by decide +kernel
theorem dX12_keepNow_41 : decode cX12_keepNow 41 = .ok (.iconst 0, 1) := by decide +kernel
theorem dX12_keepNow_42 : decode cX12_keepNow 42 = .ok (.istore_n 1, 1) := by decide +kernel
theorem dX12_keepNow_43 : decode cX12_keepNow 43 = .ok (.iload_n 1, 1) := by decide +kernel
theorem dX12_keepNow_44 : decode cX12_keepNow 44 = .ok (.bipush 8, 2) := by decide +kernel
theorem dX12_keepNow_46 : decode cX12_keepNow 46 = .ok (.if_icmp .ge 24, 3) := by decide +kernel
theorem dX12_keepNow_49 : decode cX12_keepNow 49 = .ok (.aload_n 0, 1) := by decide +kernel
theorem dX12_keepNow_50 : decode cX12_keepNow 50 = .ok (.getfield 49, 3) := by decide +kernel
theorem dX12_keepNow_53 : decode cX12_keepNow 53 = .ok (.bipush 24, 2) := by decide +kernel
theorem dX12_keepNow_55 : decode cX12_keepNow 55 = .ok (.iload_n 1, 1) := by decide +kernel
theorem dX12_keepNow_56 : decode cX12_keepNow 56 = .ok (.iadd, 1) := by decide +kernel
theorem dX12_keepNow_57 : decode cX12_keepNow 57 = .ok (.aload_n 0, 1) := by decide +kernel
theorem dX12_keepNow_58 : decode cX12_keepNow 58 = .ok (.getfield 22, 3) := by decide +kernel
theorem dX12_keepNow_61 : decode cX12_keepNow 61 = .ok (.iload_n 1, 1) := by decide +kernel
theorem dX12_keepNow_62 : decode cX12_keepNow 62 = .ok (.iaload, 1) := by decide +kernel
theorem dX12_keepNow_63 : decode cX12_keepNow 63 = .ok (.iastore, 1) := by decide +kernel
theorem dX12_keepNow_64 : decode cX12_keepNow 64 = .ok (.iinc 1 1, 3) := by decide +kernel
theorem dX12_keepNow_67 : decode cX12_keepNow 67 = .ok (.goto (-24), 3) := by decide +kernel
theorem dX12_keepNow_70 : decode cX12_keepNow 70 = .ok (.aload_n 0, 1) := by decide +kernel
theorem dX12_keepNow_71 : decode cX12_keepNow 71 = .ok (.getfield 49, 3) := by decide +kernel
theorem dX12_keepNow_74 : decode cX12_keepNow 74 = .ok (.bipush 32, 2) := by decide +kernel
theorem dX12_keepNow_76 : decode cX12_keepNow 76 = .ok (.aload_n 0, 1) := by decide +kernel
theorem dX12_keepNow_77 : decode cX12_keepNow 77 = .ok (.getfield 84, 3) := by decide +kernel
theorem dX12_keepNow_80 : decode cX12_keepNow 80 = .ok (.iastore, 1) := by decide +kernel
theorem dX12_keepNow_81 : decode cX12_keepNow 81 = .ok (.aload_n 0, 1) := by decide +kernel
theorem dX12_keepNow_82 : decode cX12_keepNow 82 = .ok (.getfield 49, 3) := by decide +kernel
theorem dX12_keepNow_85 : decode cX12_keepNow 85 = .ok (.bipush 33, 2) := by decide +kernel
theorem dX12_keepNow_87 : decode cX12_keepNow 87 = .ok (.aload_n 0, 1) := by decide +kernel
theorem dX12_keepNow_88 : decode cX12_keepNow 88 = .ok (.getfield 180, 3) := by decide +kernel
theorem dX12_keepNow_91 : decode cX12_keepNow 91 = .ok (.iastore, 1) := by decide +kernel
theorem dX12_keepNow_92 : decode cX12_keepNow 92 = .ok (.return_, 1) := by decide +kernel
theorem dX12_back_0 : decode cX12_back 0 = .ok (.iconst 0, 1) := by decide +kernel
theorem dX12_back_1 : decode cX12_back 1 = .ok (.istore_n 2, 1) := by decide +kernel
theorem dX12_back_2 : decode cX12_back 2 = .ok (.iload_n 2, 1) := by decide +kernel
theorem dX12_back_3 : decode cX12_back 3 = .ok (.bipush 12, 2) := by decide +kernel
theorem dX12_back_5 : decode cX12_back 5 = .ok (.if_icmp .ge 36, 3) := by decide +kernel
theorem dX12_back_8 : decode cX12_back 8 = .ok (.aload_n 0, 1) := by decide +kernel
theorem dX12_back_9 : decode cX12_back 9 = .ok (.getfield 7, 3) := by decide +kernel
theorem dX12_back_12 : decode cX12_back 12 = .ok (.iload_n 2, 1) := by decide +kernel
theorem dX12_back_13 : decode cX12_back 13 = .ok (.aload_n 0, 1) := by decide +kernel
theorem dX12_back_14 : decode cX12_back 14 = .ok (.getfield 49, 3) := by decide +kernel
theorem dX12_back_17 : decode cX12_back 17 = .ok (.iload_n 2, 1) := by decide +kernel
theorem dX12_back_18 : decode cX12_back 18 = .ok (.iaload, 1) := by decide +kernel
theorem dX12_back_19 : decode cX12_back 19 = .ok (.iastore, 1) := by decide +kernel
theorem dX12_back_20 : decode cX12_back 20 = .ok (.aload_n 0, 1) := by decide +kernel
theorem dX12_back_21 : decode cX12_back 21 = .ok (.getfield 13, 3) := by decide +kernel
theorem dX12_back_24 : decode cX12_back 24 = .ok (.iload_n 2, 1) := by decide +kernel
theorem dX12_back_25 : decode cX12_back 25 = .ok (.aload_n 0, 1) := by decide +kernel
theorem dX12_back_26 : decode cX12_back 26 = .ok (.getfield 49, 3) := by decide +kernel
theorem dX12_back_29 : decode cX12_back 29 = .ok (.bipush 12, 2) := by decide +kernel
theorem dX12_back_31 : decode cX12_back 31 = .ok (.iload_n 2, 1) := by decide +kernel
theorem dX12_back_32 : decode cX12_back 32 = .ok (.iadd, 1) := by decide +kernel
theorem dX12_back_33 : decode cX12_back 33 = .ok (.iaload, 1) := by decide +kernel
theorem dX12_back_34 : decode cX12_back 34 = .ok (.iastore, 1) := by decide +kernel
theorem dX12_back_35 : decode cX12_back 35 = .ok (.iinc 2 1, 3) := by decide +kernel
theorem dX12_back_38 : decode cX12_back 38 = .ok (.goto (-36), 3) := by decide +kernel
theorem dX12_back_41 : decode cX12_back 41 = .ok (.iconst 0, 1) := by decide +kernel
theorem dX12_back_42 : decode cX12_back 42 = .ok (.istore_n 2, 1) := by decide +kernel
theorem dX12_back_43 : decode cX12_back 43 = .ok (.iload_n 2, 1) := by decide +kernel
theorem dX12_back_44 : decode cX12_back 44 = .ok (.bipush 8, 2) := by decide +kernel
theorem dX12_back_46 : decode cX12_back 46 = .ok (.if_icmp .ge 24, 3) := by decide +kernel
theorem dX12_back_49 : decode cX12_back 49 = .ok (.aload_n 0, 1) := by decide +kernel
theorem dX12_back_50 : decode cX12_back 50 = .ok (.getfield 22, 3) := by decide +kernel
theorem dX12_back_53 : decode cX12_back 53 = .ok (.iload_n 2, 1) := by decide +kernel
theorem dX12_back_54 : decode cX12_back 54 = .ok (.aload_n 0, 1) := by decide +kernel
theorem dX12_back_55 : decode cX12_back 55 = .ok (.getfield 49, 3) := by decide +kernel
theorem dX12_back_58 : decode cX12_back 58 = .ok (.bipush 24, 2) := by decide +kernel
theorem dX12_back_60 : decode cX12_back 60 = .ok (.iload_n 2, 1) := by decide +kernel
theorem dX12_back_61 : decode cX12_back 61 = .ok (.iadd, 1) := by decide +kernel
theorem dX12_back_62 : decode cX12_back 62 = .ok (.iaload, 1) := by decide +kernel
theorem dX12_back_63 : decode cX12_back 63 = .ok (.iastore, 1) := by decide +kernel
theorem dX12_back_64 : decode cX12_back 64 = .ok (.iinc 2 1, 3) := by decide +kernel
theorem dX12_back_67 : decode cX12_back 67 = .ok (.goto (-24), 3) := by decide +kernel
theorem dX12_back_70 : decode cX12_back 70 = .ok (.aload_n 0, 1) := by decide +kernel
theorem dX12_back_71 : decode cX12_back 71 = .ok (.aload_n 0, 1) := by decide +kernel
theorem dX12_back_72 : decode cX12_back 72 = .ok (.getfield 49, 3) := by decide +kernel
theorem dX12_back_75 : decode cX12_back 75 = .ok (.bipush 32, 2) := by decide +kernel
theorem dX12_back_77 : decode cX12_back 77 = .ok (.iaload, 1) := by decide +kernel
theorem dX12_back_78 : decode cX12_back 78 = .ok (.putfield 84, 3) := by decide +kernel
theorem dX12_back_81 : decode cX12_back 81 = .ok (.aload_n 0, 1) := by decide +kernel
theorem dX12_back_82 : decode cX12_back 82 = .ok (.aload_n 0, 1) := by decide +kernel
theorem dX12_back_83 : decode cX12_back 83 = .ok (.getfield 49, 3) := by decide +kernel
theorem dX12_back_86 : decode cX12_back 86 = .ok (.bipush 33, 2) := by decide +kernel
theorem dX12_back_88 : decode cX12_back 88 = .ok (.iaload, 1) := by decide +kernel
theorem dX12_back_89 : decode cX12_back 89 = .ok (.putfield 180, 3) := by decide +kernel
theorem dX12_back_92 : decode cX12_back 92 = .ok (.iload_n 1, 1) := by decide +kernel
theorem dX12_back_93 : decode cX12_back 93 = .ok (.ireturn, 1) := by decide +kernel
set_option maxRecDepth 20000 in
theorem ggX12_goOne_X12_happen : GoodIn wsX12_goOne wsX12_happen := goodIn_r _ [12, 13, 14, 15, 16, 11, 17, 18, 19, 20, 21, 22, 23, 24, 25, 26, 27, 28, 1, 29, 30, 31, 32, 33, 34, 35, 36, 37, 38, 39, 40, 41, 42, 43, 44, 45, 46, 47, 48, 49, 50, 51, 52, 53, 54, 55, 56, 57, 58, 59, 60, 61, 62, 63, 64, 65, 66, 67, 68, 69, 70, 71, 72, 73, 74, 75, 76, 77, 78, 79, 80, 81] (by decide +kernel) (by decide +kernel)
set_option maxRecDepth 20000 in
theorem gX12_goOne_X12_happen : GoodIn wsX12_goOne (wsV RX12 203 RX12 yX12_happen wsX12_happen) := goodIn_app (goodIn_of _ (by decide +kernel)) ggX12_goOne_X12_happen
theorem dX12_goOne_0 : decode cX12_goOne 0 = .ok (.aload_n 0, 1) := by decide +kernel
theorem dX12_goOne_1 : decode cX12_goOne 1 = .ok (.getfield 183, 3) := by decide +kernel
theorem dX12_goOne_4 : decode cX12_goOne 4 = .ok (.istore_n 2, 1) := by decide +kernel
theorem dX12_goOne_5 : decode cX12_goOne 5 = .ok (.aload_n 0, 1) := by decide +kernel
theorem dX12_goOne_6 : decode cX12_goOne 6 = .ok (.aload_n 0, 1) := by decide +kernel
theorem dX12_goOne_7 : decode cX12_goOne 7 = .ok (.getfield 37, 3) := by decide +kernel
theorem dX12_goOne_10 : decode cX12_goOne 10 = .ok (.iload_n 1, 1) := by decide +kernel
theorem dX12_goOne_11 : decode cX12_goOne 11 = .ok (.iaload, 1) := by decide +kernel
theorem dX12_goOne_12 : decode cX12_goOne 12 = .ok (.aload_n 0, 1) := by decide +kernel
theorem dX12_goOne_13 : decode cX12_goOne 13 = .ok (.getfield 40, 3) := by decide +kernel
theorem dX12_goOne_16 : decode cX12_goOne 16 = .ok (.iload_n 1, 1) := by decide +kernel
theorem dX12_goOne_17 : decode cX12_goOne 17 = .ok (.iaload, 1) := by decide +kernel
theorem dX12_goOne_18 : decode cX12_goOne 18 = .ok (.aload_n 0, 1) := by decide +kernel
theorem dX12_goOne_19 : decode cX12_goOne 19 = .ok (.getfield 43, 3) := by decide +kernel
theorem dX12_goOne_22 : decode cX12_goOne 22 = .ok (.iload_n 1, 1) := by decide +kernel
theorem dX12_goOne_23 : decode cX12_goOne 23 = .ok (.iaload, 1) := by decide +kernel
theorem dX12_goOne_24 : decode cX12_goOne 24 = .ok (.aload_n 0, 1) := by decide +kernel
theorem dX12_goOne_25 : decode cX12_goOne 25 = .ok (.getfield 46, 3) := by decide +kernel
theorem dX12_goOne_28 : decode cX12_goOne 28 = .ok (.iload_n 1, 1) := by decide +kernel
theorem dX12_goOne_29 : decode cX12_goOne 29 = .ok (.iaload, 1) := by decide +kernel
theorem dX12_goOne_30 : decode cX12_goOne 30 = .ok (.invokevirtual 203, 3) := by decide +kernel
theorem dX12_goOne_33 : decode cX12_goOne 33 = .ok (.aload_n 0, 1) := by decide +kernel
theorem dX12_goOne_34 : decode cX12_goOne 34 = .ok (.getfield 183, 3) := by decide +kernel
theorem dX12_goOne_37 : decode cX12_goOne 37 = .ok (.iload_n 2, 1) := by decide +kernel
theorem dX12_goOne_38 : decode cX12_goOne 38 = .ok (.if_icmp .le 25, 3) := by decide +kernel
theorem dX12_goOne_41 : decode cX12_goOne 41 = .ok (.aload_n 0, 1) := by decide +kernel
theorem dX12_goOne_42 : decode cX12_goOne 42 = .ok (.getfield 207, 3) := by decide +kernel
theorem dX12_goOne_45 : decode cX12_goOne 45 = .ok (.ifCond .ge 18, 3) := by decide +kernel
theorem dX12_goOne_48 : decode cX12_goOne 48 = .ok (.aload_n 0, 1) := by decide +kernel
theorem dX12_goOne_49 : decode cX12_goOne 49 = .ok (.iload_n 1, 1) := by decide +kernel
theorem dX12_goOne_50 : decode cX12_goOne 50 = .ok (.putfield 207, 3) := by decide +kernel
theorem dX12_goOne_53 : decode cX12_goOne 53 = .ok (.aload_n 0, 1) := by decide +kernel
theorem dX12_goOne_54 : decode cX12_goOne 54 = .ok (.aload_n 0, 1) := by decide +kernel
theorem dX12_goOne_55 : decode cX12_goOne 55 = .ok (.getfield 43, 3) := by decide +kernel
theorem dX12_goOne_58 : decode cX12_goOne 58 = .ok (.iload_n 1, 1) := by decide +kernel
theorem dX12_goOne_59 : decode cX12_goOne 59 = .ok (.iaload, 1) := by decide +kernel
theorem dX12_goOne_60 : decode cX12_goOne 60 = .ok (.putfield 210, 3) := by decide +kernel
theorem dX12_goOne_63 : decode cX12_goOne 63 = .ok (.return_, 1) := by decide +kernel
set_option maxRecDepth 20000 in
theorem ggX12_goNights_X12_whyNot : GoodIn wsX12_goNights wsX12_whyNot := goodIn_r _ [16, 17, 18, 19, 20, 15, 21, 22, 23, 24, 25, 26, 27, 28, 29, 30, 31, 32, 33, 34, 35, 36, 37, 38, 39, 40, 41, 67, 68, 69, 70, 71, 72, 73, 74, 75, 76, 77, 78, 79, 80, 81, 82, 83, 84, 85, 86, 87, 88, 89, 90, 91, 92, 93, 94, 95, 96, 97, 98, 99, 100, 101, 102, 103, 104] (by decide +kernel) (by decide +kernel)
set_option maxRecDepth 20000 in
theorem gX12_goNights_X12_whyNot : GoodIn wsX12_goNights (wsV RX12 219 RX12 yX12_whyNot wsX12_whyNot) := goodIn_app (goodIn_of _ (by decide +kernel)) ggX12_goNights_X12_whyNot
set_option maxRecDepth 20000 in
theorem ggX12_goNights_X12_goOne : GoodIn wsX12_goNights wsX12_goOne := goodIn_r _ [45, 5, 8, 9, 10, 11, 3, 4, 46, 47, 48, 15, 49, 23, 50, 51, 52, 53, 54, 22, 31, 24, 25, 26, 55, 56, 57, 58, 32, 6, 37, 38, 39, 40, 41, 59, 60, 61, 62, 63, 64, 65, 66, 17, 67, 68, 69, 70, 71, 72, 73, 74, 75, 76, 77, 78, 79, 80, 81, 82, 83, 84, 85, 86, 87, 88, 89, 90, 91, 92, 93, 94, 95, 96, 97, 98, 99, 100, 101, 102, 103, 104] (by decide +kernel) (by decide +kernel)
set_option maxRecDepth 20000 in
theorem gX12_goNights_X12_goOne : GoodIn wsX12_goNights (wsV RX12 223 RX12 yX12_goOne wsX12_goOne) := goodIn_app (goodIn_of _ (by decide +kernel)) ggX12_goNights_X12_goOne
theorem dX12_goNights_0 : decode cX12_goNights 0 = .ok (.aload_n 0, 1) := by decide +kernel
theorem dX12_goNights_1 : decode cX12_goNights 1 = .ok (.bipush (-6), 2) := by decide +kernel
theorem dX12_goNights_3 : decode cX12_goNights 3 = .ok (.putfield 213, 3) := by decide +kernel
theorem dX12_goNights_6 : decode cX12_goNights 6 = .ok (.aload_n 0, 1) := by decide +kernel
theorem dX12_goNights_7 : decode cX12_goNights 7 = .ok (.bipush (-6), 2) := by decide +kernel
theorem dX12_goNights_9 : decode cX12_goNights 9 = .ok (.putfield 216, 3) := by decide +kernel
theorem dX12_goNights_12 : decode cX12_goNights 12 = .ok (.aload_n 0, 1) := by decide +kernel
theorem dX12_goNights_13 : decode cX12_goNights 13 = .ok (.bipush (-6), 2) := by decide +kernel
theorem dX12_goNights_15 : decode cX12_goNights 15 = .ok (.putfield 207, 3) := by decide +kernel
theorem dX12_goNights_18 : decode cX12_goNights 18 = .ok (.aload_n 0, 1) := by decide +kernel
theorem dX12_goNights_19 : decode cX12_goNights 19 = .ok (.bipush (-6), 2) := by decide +kernel
theorem dX12_goNights_21 : decode cX12_goNights 21 = .ok (.putfield 210, 3) := by decide +kernel
theorem dX12_goNights_24 : decode cX12_goNights 24 = .ok (.aload_n 0, 1) := by decide +kernel
theorem dX12_goNights_25 : decode cX12_goNights 25 = .ok (.iconst 0, 1) := by decide +kernel
theorem dX12_goNights_26 : decode cX12_goNights 26 = .ok (.putfield 183, 3) := by decide +kernel
theorem dX12_goNights_29 : decode cX12_goNights 29 = .ok (.aload_n 0, 1) := by decide +kernel
theorem dX12_goNights_30 : decode cX12_goNights 30 = .ok (.iconst 0, 1) := by decide +kernel
theorem dX12_goNights_31 : decode cX12_goNights 31 = .ok (.putfield 186, 3) := by decide +kernel
theorem dX12_goNights_34 : decode cX12_goNights 34 = .ok (.iconst 0, 1) := by decide +kernel
theorem dX12_goNights_35 : decode cX12_goNights 35 = .ok (.istore_n 1, 1) := by decide +kernel
theorem dX12_goNights_36 : decode cX12_goNights 36 = .ok (.iload_n 1, 1) := by decide +kernel
theorem dX12_goNights_37 : decode cX12_goNights 37 = .ok (.aload_n 0, 1) := by decide +kernel
theorem dX12_goNights_38 : decode cX12_goNights 38 = .ok (.getfield 124, 3) := by decide +kernel
theorem dX12_goNights_41 : decode cX12_goNights 41 = .ok (.if_icmp .ge 82, 3) := by decide +kernel
theorem dX12_goNights_44 : decode cX12_goNights 44 = .ok (.aload_n 0, 1) := by decide +kernel
theorem dX12_goNights_45 : decode cX12_goNights 45 = .ok (.getfield 213, 3) := by decide +kernel
theorem dX12_goNights_48 : decode cX12_goNights 48 = .ok (.ifCond .ge 75, 3) := by decide +kernel
theorem dX12_goNights_51 : decode cX12_goNights 51 = .ok (.aload_n 0, 1) := by decide +kernel
theorem dX12_goNights_52 : decode cX12_goNights 52 = .ok (.aload_n 0, 1) := by decide +kernel
theorem dX12_goNights_53 : decode cX12_goNights 53 = .ok (.getfield 37, 3) := by decide +kernel
theorem dX12_goNights_56 : decode cX12_goNights 56 = .ok (.iload_n 1, 1) := by decide +kernel
theorem dX12_goNights_57 : decode cX12_goNights 57 = .ok (.iaload, 1) := by decide +kernel
theorem dX12_goNights_58 : decode cX12_goNights 58 = .ok (.aload_n 0, 1) := by decide +kernel
theorem dX12_goNights_59 : decode cX12_goNights 59 = .ok (.getfield 40, 3) := by decide +kernel
theorem dX12_goNights_62 : decode cX12_goNights 62 = .ok (.iload_n 1, 1) := by decide +kernel
theorem dX12_goNights_63 : decode cX12_goNights 63 = .ok (.iaload, 1) := by decide +kernel
theorem dX12_goNights_64 : decode cX12_goNights 64 = .ok (.aload_n 0, 1) := by decide +kernel
theorem dX12_goNights_65 : decode cX12_goNights 65 = .ok (.getfield 43, 3) := by decide +kernel
theorem dX12_goNights_68 : decode cX12_goNights 68 = .ok (.iload_n 1, 1) := by decide +kernel
theorem dX12_goNights_69 : decode cX12_goNights 69 = .ok (.iaload, 1) := by decide +kernel
theorem dX12_goNights_70 : decode cX12_goNights 70 = .ok (.aload_n 0, 1) := by decide +kernel
theorem dX12_goNights_71 : decode cX12_goNights 71 = .ok (.getfield 46, 3) := by decide +kernel
theorem dX12_goNights_74 : decode cX12_goNights 74 = .ok (.iload_n 1, 1) := by decide +kernel
theorem dX12_goNights_75 : decode cX12_goNights 75 = .ok (.iaload, 1) := by decide +kernel
theorem dX12_goNights_76 : decode cX12_goNights 76 = .ok (.invokevirtual 219, 3) := by decide +kernel
theorem dX12_goNights_79 : decode cX12_goNights 79 = .ok (.istore_n 2, 1) := by decide +kernel
theorem dX12_goNights_80 : decode cX12_goNights 80 = .ok (.aload_n 0, 1) := by decide +kernel
theorem dX12_goNights_81 : decode cX12_goNights 81 = .ok (.iload_n 2, 1) := by decide +kernel
theorem dX12_goNights_82 : decode cX12_goNights 82 = .ok (.ifCond .le 7, 3) := by decide +kernel
theorem dX12_goNights_85 : decode cX12_goNights 85 = .ok (.iload_n 1, 1) := by decide +kernel
theorem dX12_goNights_86 : decode cX12_goNights 86 = .ok (.goto 5, 3) := by decide +kernel
theorem dX12_goNights_89 : decode cX12_goNights 89 = .ok (.bipush (-6), 2) := by decide +kernel
theorem dX12_goNights_91 : decode cX12_goNights 91 = .ok (.putfield 213, 3) := by decide +kernel
theorem dX12_goNights_94 : decode cX12_goNights 94 = .ok (.aload_n 0, 1) := by decide +kernel
theorem dX12_goNights_95 : decode cX12_goNights 95 = .ok (.iload_n 2, 1) := by decide +kernel
theorem dX12_goNights_96 : decode cX12_goNights 96 = .ok (.ifCond .le 7, 3) := by decide +kernel
theorem dX12_goNights_99 : decode cX12_goNights 99 = .ok (.iload_n 2, 1) := by decide +kernel
theorem dX12_goNights_100 : decode cX12_goNights 100 = .ok (.goto 5, 3) := by decide +kernel
theorem dX12_goNights_103 : decode cX12_goNights 103 = .ok (.bipush (-6), 2) := by decide +kernel
theorem dX12_goNights_105 : decode cX12_goNights 105 = .ok (.putfield 216, 3) := by decide +kernel
theorem dX12_goNights_108 : decode cX12_goNights 108 = .ok (.iload_n 2, 1) := by decide +kernel
theorem dX12_goNights_109 : decode cX12_goNights 109 = .ok (.ifCond .ne 8, 3) := by decide +kernel
theorem dX12_goNights_112 : decode cX12_goNights 112 = .ok (.aload_n 0, 1) := by decide +kernel
theorem dX12_goNights_113 : decode cX12_goNights 113 = .ok (.iload_n 1, 1) := by decide +kernel
theorem dX12_goNights_114 : decode cX12_goNights 114 = .ok (.invokevirtual 223, 3) := by decide +kernel
theorem dX12_goNights_117 : decode cX12_goNights 117 = .ok (.iinc 1 1, 3) := by decide +kernel
theorem dX12_goNights_120 : decode cX12_goNights 120 = .ok (.goto (-84), 3) := by decide +kernel
theorem dX12_goNights_123 : decode cX12_goNights 123 = .ok (.return_, 1) := by decide +kernel
set_option maxRecDepth 20000 in
theorem ggX12_refusal_X12_keepNow : GoodIn wsX12_refusal wsX12_keepNow := goodIn_r _ [6, 7, 8, 9, 10, 11, 12, 123, 124, 125, 126, 127, 128, 129, 130, 131, 132, 133, 134, 135, 136, 137, 138, 139, 140, 141, 142, 143, 144, 145, 146, 147, 148, 149, 150, 151, 152, 153, 154, 155, 156, 157, 158, 159, 160] (by decide +kernel) (by decide +kernel)
set_option maxRecDepth 20000 in
theorem gX12_refusal_X12_keepNow : GoodIn wsX12_refusal (wsV RX12 227 RX12 yX12_keepNow wsX12_keepNow) := goodIn_app (goodIn_of _ (by decide +kernel)) ggX12_refusal_X12_keepNow
set_option maxRecDepth 20000 in
theorem ggX12_refusal_X12_fault : GoodIn wsX12_refusal wsX12_fault := goodIn_r _ [16, 17, 18, 19, 20, 21, 22, 5, 23, 24, 25, 26, 27, 28, 29, 30, 31, 32, 33, 34, 35, 36, 37, 38, 39, 40, 41, 42, 43, 44, 45, 46, 47, 48, 49, 50, 51, 52, 53, 54, 55, 56, 57, 58, 59, 60, 61, 62, 63, 64, 123, 124, 125, 126, 127, 128, 129, 130, 131, 132, 133, 134, 135, 136, 137, 138, 139, 140, 141, 142, 143, 144, 145, 146, 147, 148, 149, 150, 151, 152, 153, 154, 155, 156, 157, 158, 159, 160] (by decide +kernel) (by decide +kernel)
set_option maxRecDepth 20000 in
theorem gX12_refusal_X12_fault : GoodIn wsX12_refusal (wsV RX12 230 RX12 yX12_fault wsX12_fault) := goodIn_app (goodIn_of _ (by decide +kernel)) ggX12_refusal_X12_fault
set_option maxRecDepth 20000 in
theorem ggX12_refusal_X12_goNights : GoodIn wsX12_refusal wsX12_goNights := goodIn_r _ [68, 1, 69, 70, 71, 72, 73, 17, 43, 28, 29, 30, 74, 75, 76, 5, 77, 12, 78, 79, 80, 81, 8, 11, 82, 83, 84, 85, 86, 87, 88, 9, 10, 89, 90, 91, 92, 93, 94, 95, 96, 97, 98, 99, 100, 101, 102, 103, 104, 105, 106, 107, 108, 109, 110, 111, 112, 113, 114, 115, 116, 117, 118, 119, 120, 121, 122, 123, 124, 125, 126, 127, 128, 129, 130, 131, 132, 133, 134, 135, 136, 137, 138, 139, 140, 141, 142, 143, 144, 145, 146, 147, 148, 149, 150, 151, 152, 153, 154, 155, 156, 157, 158, 159, 160] (by decide +kernel) (by decide +kernel)
set_option maxRecDepth 20000 in
theorem gX12_refusal_X12_goNights : GoodIn wsX12_refusal (wsV RX12 234 RX12 yX12_goNights wsX12_goNights) := goodIn_app (goodIn_of _ (by decide +kernel)) ggX12_refusal_X12_goNights
theorem dX12_refusal_0 : decode cX12_refusal 0 = .ok (.aload_n 0, 1) := by decide +kernel
theorem dX12_refusal_1 : decode cX12_refusal 1 = .ok (.invokevirtual 227, 3) := by decide +kernel
theorem dX12_refusal_4 : decode cX12_refusal 4 = .ok (.aload_n 0, 1) := by decide +kernel
theorem dX12_refusal_5 : decode cX12_refusal 5 = .ok (.invokevirtual 230, 3) := by decide +kernel
theorem dX12_refusal_8 : decode cX12_refusal 8 = .ok (.ifCond .lt 6, 3) := by decide +kernel
theorem dX12_refusal_11 : decode cX12_refusal 11 = .ok (.bipush (-5), 2) := by decide +kernel
theorem dX12_refusal_13 : decode cX12_refusal 13 = .ok (.ireturn, 1) := by decide +kernel
theorem dX12_refusal_14 : decode cX12_refusal 14 = .ok (.aload_n 0, 1) := by decide +kernel
theorem dX12_refusal_15 : decode cX12_refusal 15 = .ok (.invokevirtual 234, 3) := by decide +kernel
theorem dX12_refusal_18 : decode cX12_refusal 18 = .ok (.aload_n 0, 1) := by decide +kernel
theorem dX12_refusal_19 : decode cX12_refusal 19 = .ok (.getfield 213, 3) := by decide +kernel
theorem dX12_refusal_22 : decode cX12_refusal 22 = .ok (.ifCond .lt 8, 3) := by decide +kernel
theorem dX12_refusal_25 : decode cX12_refusal 25 = .ok (.bipush (-3), 2) := by decide +kernel
theorem dX12_refusal_27 : decode cX12_refusal 27 = .ok (.goto 5, 3) := by decide +kernel
theorem dX12_refusal_30 : decode cX12_refusal 30 = .ok (.bipush (-6), 2) := by decide +kernel
theorem dX12_refusal_32 : decode cX12_refusal 32 = .ok (.ireturn, 1) := by decide +kernel
set_option maxRecDepth 20000 in
theorem ggX12_judge_X12_in : GoodIn wsX12_judge wsX12_in := goodIn_r _ [8] (by decide +kernel) (by decide +kernel)
set_option maxRecDepth 20000 in
theorem gX12_judge_X12_in : GoodIn wsX12_judge (va_wsS RX12 90 yX12_in wsX12_in) := goodIn_app (goodIn_of _ (by decide +kernel)) ggX12_judge_X12_in
set_option maxRecDepth 20000 in
theorem ggX12_judge_X12_refusal : GoodIn wsX12_judge wsX12_refusal := goodIn_r _ [12, 2, 13, 14, 15, 7, 16, 17, 18, 19, 20, 21, 22, 23, 24, 25, 26, 27, 28, 29, 30, 31, 32, 33, 34, 35, 36, 37, 38, 39, 40, 41, 42, 43, 44, 45, 5, 6, 8, 46, 47, 48, 49, 50, 51, 52, 53, 54, 55, 56, 57, 58, 59, 60, 61, 62, 63, 64, 65, 66, 67, 68, 69, 70, 71, 72, 73, 74, 75, 3, 76, 77, 4, 78, 79, 80, 81, 82, 83, 84, 85, 86, 87, 88, 89, 90, 91, 92, 93, 94, 95, 96, 97, 98, 99, 100, 101, 102, 103, 104, 105, 106, 107, 108, 109, 110, 111, 112, 113, 114, 115, 116, 117, 118, 119, 120, 121, 122, 123, 124, 125, 126, 127, 132, 133, 134, 135, 136, 137, 138, 139, 140, 141, 142, 143, 144, 145, 146, 147, 148, 149, 150, 151, 152, 153, 154, 155, 156, 157, 158, 159, 160, 161, 162, 163, 164, 165, 166, 167, 168, 169] (by decide +kernel) (by decide +kernel)
set_option maxRecDepth 20000 in
theorem gX12_judge_X12_refusal : GoodIn wsX12_judge (wsV RX12 239 RX12 yX12_refusal wsX12_refusal) := goodIn_app (goodIn_of _ (by decide +kernel)) ggX12_judge_X12_refusal
set_option maxRecDepth 20000 in
theorem ggX12_judge_X12_back : GoodIn wsX12_judge wsX12_back := goodIn_r _ [131, 18, 17, 19, 20, 21, 22, 132, 133, 134, 135, 136, 137, 138, 139, 140, 141, 142, 143, 144, 145, 146, 147, 148, 149, 150, 151, 152, 153, 154, 155, 156, 157, 158, 159, 160, 161, 162, 163, 164, 165, 166, 167, 168, 169] (by decide +kernel) (by decide +kernel)
set_option maxRecDepth 20000 in
theorem gX12_judge_X12_back : GoodIn wsX12_judge (wsV RX12 242 RX12 yX12_back wsX12_back) := goodIn_app (goodIn_of _ (by decide +kernel)) ggX12_judge_X12_back
theorem dX12_judge_0 : decode cX12_judge 0 = .ok (.iload_n 1, 1) := by decide +kernel
theorem dX12_judge_1 : decode cX12_judge 1 = .ok (.i2l, 1) := by decide +kernel
theorem dX12_judge_2 : decode cX12_judge 2 = .ok (.lconst 0, 1) := by decide +kernel
theorem dX12_judge_3 : decode cX12_judge 3 = .ok (.ldc2_w 237, 3) := by decide +kernel
theorem dX12_judge_6 : decode cX12_judge 6 = .ok (.invokestatic 90, 3) := by decide +kernel
theorem dX12_judge_9 : decode cX12_judge 9 = .ok (.ifCond .ne 6, 3) := by decide +kernel
theorem dX12_judge_12 : decode cX12_judge 12 = .ok (.bipush (-2), 2) := by decide +kernel
theorem dX12_judge_14 : decode cX12_judge 14 = .ok (.ireturn, 1) := by decide +kernel
theorem dX12_judge_15 : decode cX12_judge 15 = .ok (.aload_n 0, 1) := by decide +kernel
theorem dX12_judge_16 : decode cX12_judge 16 = .ok (.aload_n 0, 1) := by decide +kernel
theorem dX12_judge_17 : decode cX12_judge 17 = .ok (.invokevirtual 239, 3) := by decide +kernel
theorem dX12_judge_20 : decode cX12_judge 20 = .ok (.invokevirtual 242, 3) := by decide +kernel
theorem dX12_judge_23 : decode cX12_judge 23 = .ok (.istore_n 2, 1) := by decide +kernel
theorem dX12_judge_24 : decode cX12_judge 24 = .ok (.iload_n 2, 1) := by decide +kernel
theorem dX12_judge_25 : decode cX12_judge 25 = .ok (.bipush (-5), 2) := by decide +kernel
theorem dX12_judge_27 : decode cX12_judge 27 = .ok (.if_icmp .eq 14, 3) := by decide +kernel
theorem dX12_judge_30 : decode cX12_judge 30 = .ok (.iload_n 1, 1) := by decide +kernel
theorem dX12_judge_31 : decode cX12_judge 31 = .ok (.iconst 1, 1) := by decide +kernel
theorem dX12_judge_32 : decode cX12_judge 32 = .ok (.if_icmp .le 11, 3) := by decide +kernel
theorem dX12_judge_35 : decode cX12_judge 35 = .ok (.iload_n 2, 1) := by decide +kernel
theorem dX12_judge_36 : decode cX12_judge 36 = .ok (.bipush (-3), 2) := by decide +kernel
theorem dX12_judge_38 : decode cX12_judge 38 = .ok (.if_icmp .ne 5, 3) := by decide +kernel
theorem dX12_judge_41 : decode cX12_judge 41 = .ok (.iload_n 2, 1) := by decide +kernel
theorem dX12_judge_42 : decode cX12_judge 42 = .ok (.ireturn, 1) := by decide +kernel
theorem dX12_judge_43 : decode cX12_judge 43 = .ok (.iload_n 1, 1) := by decide +kernel
theorem dX12_judge_44 : decode cX12_judge 44 = .ok (.ifCond .ne 10, 3) := by decide +kernel
theorem dX12_judge_47 : decode cX12_judge 47 = .ok (.aload_n 0, 1) := by decide +kernel
theorem dX12_judge_48 : decode cX12_judge 48 = .ok (.getfield 213, 3) := by decide +kernel
theorem dX12_judge_51 : decode cX12_judge 51 = .ok (.goto 19, 3) := by decide +kernel
theorem dX12_judge_54 : decode cX12_judge 54 = .ok (.iload_n 1, 1) := by decide +kernel
theorem dX12_judge_55 : decode cX12_judge 55 = .ok (.iconst 1, 1) := by decide +kernel
theorem dX12_judge_56 : decode cX12_judge 56 = .ok (.if_icmp .ne 10, 3) := by decide +kernel
theorem dX12_judge_59 : decode cX12_judge 59 = .ok (.aload_n 0, 1) := by decide +kernel
theorem dX12_judge_60 : decode cX12_judge 60 = .ok (.getfield 216, 3) := by decide +kernel
theorem dX12_judge_63 : decode cX12_judge 63 = .ok (.goto 7, 3) := by decide +kernel
theorem dX12_judge_66 : decode cX12_judge 66 = .ok (.aload_n 0, 1) := by decide +kernel
theorem dX12_judge_67 : decode cX12_judge 67 = .ok (.getfield 183, 3) := by decide +kernel
theorem dX12_judge_70 : decode cX12_judge 70 = .ok (.ireturn, 1) := by decide +kernel
set_option maxRecDepth 20000 in
theorem ggX12_behind_X12_isThing : GoodIn wsX12_behind wsX12_isThing := goodIn_r _ [7, 8, 9, 10, 6, 11] (by decide +kernel) (by decide +kernel)
set_option maxRecDepth 20000 in
theorem gX12_behind_X12_isThing : GoodIn wsX12_behind (va_wsS RX12 96 yX12_isThing wsX12_isThing) := goodIn_app (goodIn_of _ (by decide +kernel)) ggX12_behind_X12_isThing
set_option maxRecDepth 20000 in
theorem ggX12_behind_X12_in : GoodIn wsX12_behind wsX12_in := goodIn_r _ [11] (by decide +kernel) (by decide +kernel)
set_option maxRecDepth 20000 in
theorem gX12_behind_X12_in : GoodIn wsX12_behind (va_wsS RX12 90 yX12_in wsX12_in) := goodIn_app (goodIn_of _ (by decide +kernel)) ggX12_behind_X12_in
set_option maxRecDepth 20000 in
theorem ggX12_behind_X12_refusal : GoodIn wsX12_behind wsX12_refusal := goodIn_r _ [15, 16, 17, 18, 19, 6, 20, 21, 2, 3, 22, 23, 24, 25, 26, 27, 28, 29, 30, 31, 32, 33, 34, 35, 36, 37, 38, 39, 40, 41, 42, 43, 44, 45, 46, 47, 9, 10, 11, 48, 49, 50, 51, 52, 53, 54, 55, 56, 57, 58, 59, 60, 61, 62, 63, 64, 65, 66, 67, 68, 69, 70, 71, 72, 73, 74, 75, 76, 77, 78, 79, 80, 81, 82, 83, 84, 85, 86, 87, 88, 89, 90, 91, 92, 93, 94, 95, 96, 97, 98, 99, 100, 101, 102, 103, 104, 105, 106, 107, 108, 109, 110, 111, 112, 113, 114, 115, 116, 117, 118, 119, 120, 121, 122, 123, 124, 125, 126, 127, 128, 129, 130, 131, 136, 137, 138, 139, 140, 141, 142, 143, 144, 145, 146, 147, 148, 149, 150, 151, 152, 153, 154, 155, 156, 157, 158, 159, 160, 161, 162, 163, 164, 165, 166, 167, 168, 169, 170, 171, 172, 173] (by decide +kernel) (by decide +kernel)
set_option maxRecDepth 20000 in
theorem gX12_behind_X12_refusal : GoodIn wsX12_behind (wsV RX12 239 RX12 yX12_refusal wsX12_refusal) := goodIn_app (goodIn_of _ (by decide +kernel)) ggX12_behind_X12_refusal
set_option maxRecDepth 20000 in
theorem ggX12_behind_X12_price : GoodIn wsX12_behind wsX12_price := goodIn_r _ [105, 3, 106, 136, 137, 138, 139, 140, 141, 142, 143, 144, 145, 146, 147, 148, 149, 150, 151, 152, 153, 154, 155, 156, 157, 158, 159, 160, 161, 162, 163, 164, 165, 166, 167, 168, 169, 170, 171, 172, 173] (by decide +kernel) (by decide +kernel)
set_option maxRecDepth 20000 in
theorem gX12_behind_X12_price : GoodIn wsX12_behind (wsV RX12 171 RX12 yX12_price wsX12_price) := goodIn_app (goodIn_of _ (by decide +kernel)) ggX12_behind_X12_price
set_option maxRecDepth 20000 in
theorem ggX12_behind_X12_back : GoodIn wsX12_behind wsX12_back := goodIn_r _ [135, 2, 21, 3, 22, 23, 24, 136, 137, 138, 139, 140, 141, 142, 143, 144, 145, 146, 147, 148, 149, 150, 151, 152, 153, 154, 155, 156, 157, 158, 159, 160, 161, 162, 163, 164, 165, 166, 167, 168, 169, 170, 171, 172, 173] (by decide +kernel) (by decide +kernel)
set_option maxRecDepth 20000 in
theorem gX12_behind_X12_back : GoodIn wsX12_behind (wsV RX12 242 RX12 yX12_back wsX12_back) := goodIn_app (goodIn_of _ (by decide +kernel)) ggX12_behind_X12_back
theorem dX12_behind_0 : decode cX12_behind 0 = .ok (.iload_n 1, 1) := by decide +kernel
theorem dX12_behind_1 : decode cX12_behind 1 = .ok (.invokestatic 96, 3) := by decide +kernel
theorem dX12_behind_4 : decode cX12_behind 4 = .ok (.ifCond .ne 5, 3) := by decide +kernel
theorem dX12_behind_7 : decode cX12_behind 7 = .ok (.iconst (-1), 1) := by decide +kernel
theorem dX12_behind_8 : decode cX12_behind 8 = .ok (.ireturn, 1) := by decide +kernel
theorem dX12_behind_9 : decode cX12_behind 9 = .ok (.iload_n 2, 1) := by decide +kernel
theorem dX12_behind_10 : decode cX12_behind 10 = .ok (.i2l, 1) := by decide +kernel
theorem dX12_behind_11 : decode cX12_behind 11 = .ok (.lconst 0, 1) := by decide +kernel
theorem dX12_behind_12 : decode cX12_behind 12 = .ok (.ldc2_w 237, 3) := by decide +kernel
theorem dX12_behind_15 : decode cX12_behind 15 = .ok (.invokestatic 90, 3) := by decide +kernel
theorem dX12_behind_18 : decode cX12_behind 18 = .ok (.ifCond .ne 6, 3) := by decide +kernel
theorem dX12_behind_21 : decode cX12_behind 21 = .ok (.bipush (-2), 2) := by decide +kernel
theorem dX12_behind_23 : decode cX12_behind 23 = .ok (.ireturn, 1) := by decide +kernel
theorem dX12_behind_24 : decode cX12_behind 24 = .ok (.aload_n 0, 1) := by decide +kernel
theorem dX12_behind_25 : decode cX12_behind 25 = .ok (.invokevirtual 239, 3) := by decide +kernel
theorem dX12_behind_28 : decode cX12_behind 28 = .ok (.istore_n 3, 1) := by decide +kernel
theorem dX12_behind_29 : decode cX12_behind 29 = .ok (.aload_n 0, 1) := by decide +kernel
theorem dX12_behind_30 : decode cX12_behind 30 = .ok (.iload_n 3, 1) := by decide +kernel
theorem dX12_behind_31 : decode cX12_behind 31 = .ok (.bipush (-6), 2) := by decide +kernel
theorem dX12_behind_33 : decode cX12_behind 33 = .ok (.if_icmp .eq 7, 3) := by decide +kernel
theorem dX12_behind_36 : decode cX12_behind 36 = .ok (.iload_n 3, 1) := by decide +kernel
theorem dX12_behind_37 : decode cX12_behind 37 = .ok (.goto 35, 3) := by decide +kernel
theorem dX12_behind_40 : decode cX12_behind 40 = .ok (.iload_n 2, 1) := by decide +kernel
theorem dX12_behind_41 : decode cX12_behind 41 = .ok (.ifCond .ne 12, 3) := by decide +kernel
theorem dX12_behind_44 : decode cX12_behind 44 = .ok (.aload_n 0, 1) := by decide +kernel
theorem dX12_behind_45 : decode cX12_behind 45 = .ok (.getfield 7, 3) := by decide +kernel
theorem dX12_behind_48 : decode cX12_behind 48 = .ok (.iload_n 1, 1) := by decide +kernel
theorem dX12_behind_49 : decode cX12_behind 49 = .ok (.iaload, 1) := by decide +kernel
theorem dX12_behind_50 : decode cX12_behind 50 = .ok (.goto 22, 3) := by decide +kernel
theorem dX12_behind_53 : decode cX12_behind 53 = .ok (.iload_n 2, 1) := by decide +kernel
theorem dX12_behind_54 : decode cX12_behind 54 = .ok (.iconst 1, 1) := by decide +kernel
theorem dX12_behind_55 : decode cX12_behind 55 = .ok (.if_icmp .ne 12, 3) := by decide +kernel
theorem dX12_behind_58 : decode cX12_behind 58 = .ok (.aload_n 0, 1) := by decide +kernel
theorem dX12_behind_59 : decode cX12_behind 59 = .ok (.getfield 13, 3) := by decide +kernel
theorem dX12_behind_62 : decode cX12_behind 62 = .ok (.iload_n 1, 1) := by decide +kernel
theorem dX12_behind_63 : decode cX12_behind 63 = .ok (.iaload, 1) := by decide +kernel
theorem dX12_behind_64 : decode cX12_behind 64 = .ok (.goto 8, 3) := by decide +kernel
theorem dX12_behind_67 : decode cX12_behind 67 = .ok (.aload_n 0, 1) := by decide +kernel
theorem dX12_behind_68 : decode cX12_behind 68 = .ok (.iload_n 1, 1) := by decide +kernel
theorem dX12_behind_69 : decode cX12_behind 69 = .ok (.invokevirtual 171, 3) := by decide +kernel
theorem dX12_behind_72 : decode cX12_behind 72 = .ok (.invokevirtual 242, 3) := by decide +kernel
theorem dX12_behind_75 : decode cX12_behind 75 = .ok (.ireturn, 1) := by decide +kernel
theorem dX12_manyOf_0 : decode cX12_manyOf 0 = .ok (.iconst 0, 1) := by decide +kernel
theorem dX12_manyOf_1 : decode cX12_manyOf 1 = .ok (.istore_n 2, 1) := by decide +kernel
theorem dX12_manyOf_2 : decode cX12_manyOf 2 = .ok (.iconst 0, 1) := by decide +kernel
theorem dX12_manyOf_3 : decode cX12_manyOf 3 = .ok (.istore_n 3, 1) := by decide +kernel
theorem dX12_manyOf_4 : decode cX12_manyOf 4 = .ok (.iload_n 3, 1) := by decide +kernel
theorem dX12_manyOf_5 : decode cX12_manyOf 5 = .ok (.bipush 12, 2) := by decide +kernel
theorem dX12_manyOf_7 : decode cX12_manyOf 7 = .ok (.if_icmp .ge 27, 3) := by decide +kernel
theorem dX12_manyOf_10 : decode cX12_manyOf 10 = .ok (.iload_n 2, 1) := by decide +kernel
theorem dX12_manyOf_11 : decode cX12_manyOf 11 = .ok (.aload_n 0, 1) := by decide +kernel
theorem dX12_manyOf_12 : decode cX12_manyOf 12 = .ok (.getfield 7, 3) := by decide +kernel
theorem dX12_manyOf_15 : decode cX12_manyOf 15 = .ok (.iload_n 3, 1) := by decide +kernel
theorem dX12_manyOf_16 : decode cX12_manyOf 16 = .ok (.iaload, 1) := by decide +kernel
theorem dX12_manyOf_17 : decode cX12_manyOf 17 = .ok (.iload_n 1, 1) := by decide +kernel
theorem dX12_manyOf_18 : decode cX12_manyOf 18 = .ok (.if_icmp .ne 7, 3) := by decide +kernel
theorem dX12_manyOf_21 : decode cX12_manyOf 21 = .ok (.iconst 1, 1) := by decide +kernel
theorem dX12_manyOf_22 : decode cX12_manyOf 22 = .ok (.goto 4, 3) := by decide +kernel
theorem dX12_manyOf_25 : decode cX12_manyOf 25 = .ok (.iconst 0, 1) := by decide +kernel
theorem dX12_manyOf_26 : decode cX12_manyOf 26 = .ok (.iadd, 1) := by decide +kernel
theorem dX12_manyOf_27 : decode cX12_manyOf 27 = .ok (.istore_n 2, 1) := by decide +kernel
theorem dX12_manyOf_28 : decode cX12_manyOf 28 = .ok (.iinc 3 1, 3) := by decide +kernel
theorem dX12_manyOf_31 : decode cX12_manyOf 31 = .ok (.goto (-27), 3) := by decide +kernel
theorem dX12_manyOf_34 : decode cX12_manyOf 34 = .ok (.iload_n 2, 1) := by decide +kernel
theorem dX12_manyOf_35 : decode cX12_manyOf 35 = .ok (.ireturn, 1) := by decide +kernel
set_option maxRecDepth 20000 in
theorem ggX12_purse_X12_isOne : GoodIn wsX12_purse wsX12_isOne := goodIn_r _ [7, 8, 9, 10, 6, 11] (by decide +kernel) (by decide +kernel)
set_option maxRecDepth 20000 in
theorem gX12_purse_X12_isOne : GoodIn wsX12_purse (va_wsS RX12 100 yX12_isOne wsX12_isOne) := goodIn_app (goodIn_of _ (by decide +kernel)) ggX12_purse_X12_isOne
set_option maxRecDepth 20000 in
theorem ggX12_purse_X12_in : GoodIn wsX12_purse wsX12_in := goodIn_r _ [11] (by decide +kernel) (by decide +kernel)
set_option maxRecDepth 20000 in
theorem gX12_purse_X12_in : GoodIn wsX12_purse (va_wsS RX12 90 yX12_in wsX12_in) := goodIn_app (goodIn_of _ (by decide +kernel)) ggX12_purse_X12_in
set_option maxRecDepth 20000 in
theorem ggX12_purse_X12_refusal : GoodIn wsX12_purse wsX12_refusal := goodIn_r _ [15, 16, 17, 18, 19, 6, 20, 21, 22, 23, 2, 3, 24, 25, 26, 27, 28, 29, 30, 31, 32, 33, 34, 35, 36, 37, 38, 39, 40, 41, 42, 43, 44, 45, 46, 47, 9, 10, 11, 48, 49, 50, 51, 52, 53, 54, 55, 56, 57, 58, 59, 60, 61, 62, 63, 64, 65, 66, 67, 68, 69, 70, 71, 72, 73, 74, 75, 76, 77, 78, 79, 80, 81, 82, 83, 84, 85, 86, 87, 88, 89, 90, 91, 92, 93, 94, 95, 96, 97, 98, 99, 100, 101, 102, 103, 104, 105, 106, 107, 108, 109, 110, 111, 112, 113, 114, 115, 116, 117, 118, 119, 120, 121, 122, 123, 124, 125, 126, 127, 128, 129, 130, 131, 140, 141, 142, 143, 144, 145, 146, 147, 148, 149, 150, 151, 152, 153, 154, 155, 156, 157, 158, 159, 160, 161, 162, 163, 164, 165, 166, 167, 168, 169, 170, 171, 172, 173, 174, 175, 176, 177] (by decide +kernel) (by decide +kernel)
set_option maxRecDepth 20000 in
theorem gX12_purse_X12_refusal : GoodIn wsX12_purse (wsV RX12 239 RX12 yX12_refusal wsX12_refusal) := goodIn_app (goodIn_of _ (by decide +kernel)) ggX12_purse_X12_refusal
set_option maxRecDepth 20000 in
theorem ggX12_purse_X12_manyOf : GoodIn wsX12_purse wsX12_manyOf := goodIn_r _ [135, 22, 140, 141, 142, 143, 144, 145, 146, 147, 148, 149, 150, 151, 152, 153, 154, 155, 156, 157, 158, 159, 160, 161, 162, 163, 164, 165, 166, 167, 168, 169, 170, 171, 172, 173, 174, 175, 176, 177] (by decide +kernel) (by decide +kernel)
set_option maxRecDepth 20000 in
theorem gX12_purse_X12_manyOf : GoodIn wsX12_purse (wsV RX12 245 RX12 yX12_manyOf wsX12_manyOf) := goodIn_app (goodIn_of _ (by decide +kernel)) ggX12_purse_X12_manyOf
set_option maxRecDepth 20000 in
theorem ggX12_purse_X12_back : GoodIn wsX12_purse wsX12_back := goodIn_r _ [139, 22, 21, 23, 2, 3, 24, 140, 141, 142, 143, 144, 145, 146, 147, 148, 149, 150, 151, 152, 153, 154, 155, 156, 157, 158, 159, 160, 161, 162, 163, 164, 165, 166, 167, 168, 169, 170, 171, 172, 173, 174, 175, 176, 177] (by decide +kernel) (by decide +kernel)
set_option maxRecDepth 20000 in
theorem gX12_purse_X12_back : GoodIn wsX12_purse (wsV RX12 242 RX12 yX12_back wsX12_back) := goodIn_app (goodIn_of _ (by decide +kernel)) ggX12_purse_X12_back
theorem dX12_purse_0 : decode cX12_purse 0 = .ok (.iload_n 1, 1) := by decide +kernel
theorem dX12_purse_1 : decode cX12_purse 1 = .ok (.invokestatic 100, 3) := by decide +kernel
theorem dX12_purse_4 : decode cX12_purse 4 = .ok (.ifCond .ne 5, 3) := by decide +kernel
theorem dX12_purse_7 : decode cX12_purse 7 = .ok (.iconst (-1), 1) := by decide +kernel
theorem dX12_purse_8 : decode cX12_purse 8 = .ok (.ireturn, 1) := by decide +kernel
theorem dX12_purse_9 : decode cX12_purse 9 = .ok (.iload_n 2, 1) := by decide +kernel
theorem dX12_purse_10 : decode cX12_purse 10 = .ok (.i2l, 1) := by decide +kernel
theorem dX12_purse_11 : decode cX12_purse 11 = .ok (.lconst 0, 1) := by decide +kernel
theorem dX12_purse_12 : decode cX12_purse 12 = .ok (.ldc2_w 237, 3) := by decide +kernel
theorem dX12_purse_15 : decode cX12_purse 15 = .ok (.invokestatic 90, 3) := by decide +kernel
theorem dX12_purse_18 : decode cX12_purse 18 = .ok (.ifCond .ne 6, 3) := by decide +kernel
theorem dX12_purse_21 : decode cX12_purse 21 = .ok (.bipush (-2), 2) := by decide +kernel
theorem dX12_purse_23 : decode cX12_purse 23 = .ok (.ireturn, 1) := by decide +kernel
theorem dX12_purse_24 : decode cX12_purse 24 = .ok (.aload_n 0, 1) := by decide +kernel
theorem dX12_purse_25 : decode cX12_purse 25 = .ok (.invokevirtual 239, 3) := by decide +kernel
theorem dX12_purse_28 : decode cX12_purse 28 = .ok (.istore_n 3, 1) := by decide +kernel
theorem dX12_purse_29 : decode cX12_purse 29 = .ok (.aload_n 0, 1) := by decide +kernel
theorem dX12_purse_30 : decode cX12_purse 30 = .ok (.iload_n 3, 1) := by decide +kernel
theorem dX12_purse_31 : decode cX12_purse 31 = .ok (.bipush (-6), 2) := by decide +kernel
theorem dX12_purse_33 : decode cX12_purse 33 = .ok (.if_icmp .eq 7, 3) := by decide +kernel
theorem dX12_purse_36 : decode cX12_purse 36 = .ok (.iload_n 3, 1) := by decide +kernel
theorem dX12_purse_37 : decode cX12_purse 37 = .ok (.goto 37, 3) := by decide +kernel
theorem dX12_purse_40 : decode cX12_purse 40 = .ok (.iload_n 2, 1) := by decide +kernel
theorem dX12_purse_41 : decode cX12_purse 41 = .ok (.ifCond .ne 12, 3) := by decide +kernel
theorem dX12_purse_44 : decode cX12_purse 44 = .ok (.aload_n 0, 1) := by decide +kernel
theorem dX12_purse_45 : decode cX12_purse 45 = .ok (.getfield 22, 3) := by decide +kernel
theorem dX12_purse_48 : decode cX12_purse 48 = .ok (.iload_n 1, 1) := by decide +kernel
theorem dX12_purse_49 : decode cX12_purse 49 = .ok (.iaload, 1) := by decide +kernel
theorem dX12_purse_50 : decode cX12_purse 50 = .ok (.goto 24, 3) := by decide +kernel
theorem dX12_purse_53 : decode cX12_purse 53 = .ok (.iload_n 2, 1) := by decide +kernel
theorem dX12_purse_54 : decode cX12_purse 54 = .ok (.iconst 1, 1) := by decide +kernel
theorem dX12_purse_55 : decode cX12_purse 55 = .ok (.if_icmp .ne 11, 3) := by decide +kernel
theorem dX12_purse_58 : decode cX12_purse 58 = .ok (.aload_n 0, 1) := by decide +kernel
theorem dX12_purse_59 : decode cX12_purse 59 = .ok (.iload_n 1, 1) := by decide +kernel
theorem dX12_purse_60 : decode cX12_purse 60 = .ok (.invokevirtual 245, 3) := by decide +kernel
theorem dX12_purse_63 : decode cX12_purse 63 = .ok (.goto 11, 3) := by decide +kernel
theorem dX12_purse_66 : decode cX12_purse 66 = .ok (.aload_n 0, 1) := by decide +kernel
theorem dX12_purse_67 : decode cX12_purse 67 = .ok (.getfield 84, 3) := by decide +kernel
theorem dX12_purse_70 : decode cX12_purse 70 = .ok (.iload_n 1, 1) := by decide +kernel
theorem dX12_purse_71 : decode cX12_purse 71 = .ok (.ishr, 1) := by decide +kernel
theorem dX12_purse_72 : decode cX12_purse 72 = .ok (.iconst 1, 1) := by decide +kernel
theorem dX12_purse_73 : decode cX12_purse 73 = .ok (.iand, 1) := by decide +kernel
theorem dX12_purse_74 : decode cX12_purse 74 = .ok (.invokevirtual 242, 3) := by decide +kernel
theorem dX12_purse_77 : decode cX12_purse 77 = .ok (.ireturn, 1) := by decide +kernel
set_option maxRecDepth 20000 in
theorem ggX12_sold_X12_in : GoodIn wsX12_sold wsX12_in := goodIn_r _ [8] (by decide +kernel) (by decide +kernel)
set_option maxRecDepth 20000 in
theorem gX12_sold_X12_in : GoodIn wsX12_sold (va_wsS RX12 90 yX12_in wsX12_in) := goodIn_app (goodIn_of _ (by decide +kernel)) ggX12_sold_X12_in
set_option maxRecDepth 20000 in
theorem ggX12_sold_X12_refusal : GoodIn wsX12_sold wsX12_refusal := goodIn_r _ [12, 13, 14, 15, 16, 7, 17, 18, 19, 20, 21, 22, 23, 24, 25, 26, 27, 28, 29, 30, 31, 32, 33, 34, 35, 36, 37, 38, 39, 40, 41, 42, 43, 44, 45, 46, 5, 6, 8, 47, 48, 49, 50, 51, 52, 53, 54, 55, 56, 57, 58, 59, 60, 61, 62, 63, 64, 65, 66, 67, 68, 69, 70, 71, 72, 73, 74, 75, 76, 77, 2, 3, 78, 4, 79, 80, 81, 82, 83, 84, 85, 86, 87, 88, 89, 90, 91, 92, 93, 94, 95, 96, 97, 98, 99, 100, 101, 102, 103, 104, 105, 106, 107, 108, 109, 110, 111, 112, 113, 114, 115, 116, 117, 118, 119, 120, 121, 122, 123, 124, 125, 126, 127, 132, 133, 134, 135, 136, 137, 138, 139, 140, 141, 142, 143, 144, 145, 146, 147, 148, 149, 150, 151, 152, 153, 154, 155, 156, 157, 158, 159, 160, 161, 162, 163, 164, 165, 166, 167, 168, 169] (by decide +kernel) (by decide +kernel)
set_option maxRecDepth 20000 in
theorem gX12_sold_X12_refusal : GoodIn wsX12_sold (wsV RX12 239 RX12 yX12_refusal wsX12_refusal) := goodIn_app (goodIn_of _ (by decide +kernel)) ggX12_sold_X12_refusal
set_option maxRecDepth 20000 in
theorem ggX12_sold_X12_back : GoodIn wsX12_sold wsX12_back := goodIn_r _ [131, 19, 18, 20, 21, 22, 23, 132, 133, 134, 135, 136, 137, 138, 139, 140, 141, 142, 143, 144, 145, 146, 147, 148, 149, 150, 151, 152, 153, 154, 155, 156, 157, 158, 159, 160, 161, 162, 163, 164, 165, 166, 167, 168, 169] (by decide +kernel) (by decide +kernel)
set_option maxRecDepth 20000 in
theorem gX12_sold_X12_back : GoodIn wsX12_sold (wsV RX12 242 RX12 yX12_back wsX12_back) := goodIn_app (goodIn_of _ (by decide +kernel)) ggX12_sold_X12_back
theorem dX12_sold_0 : decode cX12_sold 0 = .ok (.iload_n 1, 1) := by decide +kernel
theorem dX12_sold_1 : decode cX12_sold 1 = .ok (.i2l, 1) := by decide +kernel
theorem dX12_sold_2 : decode cX12_sold 2 = .ok (.lconst 0, 1) := by decide +kernel
theorem dX12_sold_3 : decode cX12_sold 3 = .ok (.ldc2_w 237, 3) := by decide +kernel
theorem dX12_sold_6 : decode cX12_sold 6 = .ok (.invokestatic 90, 3) := by decide +kernel
theorem dX12_sold_9 : decode cX12_sold 9 = .ok (.ifCond .ne 6, 3) := by decide +kernel
theorem dX12_sold_12 : decode cX12_sold 12 = .ok (.bipush (-2), 2) := by decide +kernel
theorem dX12_sold_14 : decode cX12_sold 14 = .ok (.ireturn, 1) := by decide +kernel
theorem dX12_sold_15 : decode cX12_sold 15 = .ok (.aload_n 0, 1) := by decide +kernel
theorem dX12_sold_16 : decode cX12_sold 16 = .ok (.aload_n 0, 1) := by decide +kernel
theorem dX12_sold_17 : decode cX12_sold 17 = .ok (.invokevirtual 239, 3) := by decide +kernel
theorem dX12_sold_20 : decode cX12_sold 20 = .ok (.invokevirtual 242, 3) := by decide +kernel
theorem dX12_sold_23 : decode cX12_sold 23 = .ok (.istore_n 2, 1) := by decide +kernel
theorem dX12_sold_24 : decode cX12_sold 24 = .ok (.iload_n 2, 1) := by decide +kernel
theorem dX12_sold_25 : decode cX12_sold 25 = .ok (.bipush (-6), 2) := by decide +kernel
theorem dX12_sold_27 : decode cX12_sold 27 = .ok (.if_icmp .eq 7, 3) := by decide +kernel
theorem dX12_sold_30 : decode cX12_sold 30 = .ok (.iload_n 2, 1) := by decide +kernel
theorem dX12_sold_31 : decode cX12_sold 31 = .ok (.goto 30, 3) := by decide +kernel
theorem dX12_sold_34 : decode cX12_sold 34 = .ok (.iload_n 1, 1) := by decide +kernel
theorem dX12_sold_35 : decode cX12_sold 35 = .ok (.ifCond .ne 10, 3) := by decide +kernel
theorem dX12_sold_38 : decode cX12_sold 38 = .ok (.aload_n 0, 1) := by decide +kernel
theorem dX12_sold_39 : decode cX12_sold 39 = .ok (.getfield 207, 3) := by decide +kernel
theorem dX12_sold_42 : decode cX12_sold 42 = .ok (.goto 19, 3) := by decide +kernel
theorem dX12_sold_45 : decode cX12_sold 45 = .ok (.iload_n 1, 1) := by decide +kernel
theorem dX12_sold_46 : decode cX12_sold 46 = .ok (.iconst 1, 1) := by decide +kernel
theorem dX12_sold_47 : decode cX12_sold 47 = .ok (.if_icmp .ne 10, 3) := by decide +kernel
theorem dX12_sold_50 : decode cX12_sold 50 = .ok (.aload_n 0, 1) := by decide +kernel
theorem dX12_sold_51 : decode cX12_sold 51 = .ok (.getfield 210, 3) := by decide +kernel
theorem dX12_sold_54 : decode cX12_sold 54 = .ok (.goto 7, 3) := by decide +kernel
theorem dX12_sold_57 : decode cX12_sold 57 = .ok (.aload_n 0, 1) := by decide +kernel
theorem dX12_sold_58 : decode cX12_sold 58 = .ok (.getfield 186, 3) := by decide +kernel
theorem dX12_sold_61 : decode cX12_sold 61 = .ok (.ireturn, 1) := by decide +kernel
set_option maxRecDepth 20000 in
theorem ggX12_done_X12_refusal : GoodIn wsX12_done wsX12_refusal := goodIn_r _ [7, 8, 9, 10, 11, 6, 12, 13, 14, 15, 16, 17, 18, 19, 20, 21, 22, 2, 1, 23, 24, 25, 26, 27, 28, 29, 30, 31, 32, 33, 34, 35, 36, 37, 38, 39, 40, 41, 42, 43, 44, 45, 46, 47, 48, 49, 50, 51, 52, 53, 54, 55, 56, 57, 58, 59, 60, 61, 62, 63, 64, 65, 66, 67, 68, 69, 70, 71, 72, 73, 74, 75, 76, 77, 78, 79, 80, 81, 82, 83, 84, 85, 86, 87, 88, 89, 90, 91, 92, 93, 94, 95, 96, 97, 98, 99, 100, 101, 102, 103, 104, 105, 106, 107, 108, 109, 110, 111, 112, 113, 114, 115, 116, 117, 118, 119, 120, 121, 122, 123, 124, 125, 126, 131, 132, 133, 134, 135, 136, 137, 138, 139, 140, 141, 142, 143, 144, 145, 146, 147, 148, 149, 150, 151, 152, 153, 154, 155, 156, 157, 158, 159, 160, 161, 162, 163, 164, 165, 166, 167, 168] (by decide +kernel) (by decide +kernel)
set_option maxRecDepth 20000 in
theorem gX12_done_X12_refusal : GoodIn wsX12_done (wsV RX12 239 RX12 yX12_refusal wsX12_refusal) := goodIn_app (goodIn_of _ (by decide +kernel)) ggX12_done_X12_refusal
set_option maxRecDepth 20000 in
theorem ggX12_done_X12_back : GoodIn wsX12_done wsX12_back := goodIn_r _ [130, 14, 13, 15, 16, 17, 18, 131, 132, 133, 134, 135, 136, 137, 138, 139, 140, 141, 142, 143, 144, 145, 146, 147, 148, 149, 150, 151, 152, 153, 154, 155, 156, 157, 158, 159, 160, 161, 162, 163, 164, 165, 166, 167, 168] (by decide +kernel) (by decide +kernel)
set_option maxRecDepth 20000 in
theorem gX12_done_X12_back : GoodIn wsX12_done (wsV RX12 242 RX12 yX12_back wsX12_back) := goodIn_app (goodIn_of _ (by decide +kernel)) ggX12_done_X12_back
theorem dX12_done_0 : decode cX12_done 0 = .ok (.aload_n 0, 1) := by decide +kernel
theorem dX12_done_1 : decode cX12_done 1 = .ok (.invokevirtual 239, 3) := by decide +kernel
theorem dX12_done_4 : decode cX12_done 4 = .ok (.istore_n 1, 1) := by decide +kernel
theorem dX12_done_5 : decode cX12_done 5 = .ok (.iload_n 1, 1) := by decide +kernel
theorem dX12_done_6 : decode cX12_done 6 = .ok (.bipush (-6), 2) := by decide +kernel
theorem dX12_done_8 : decode cX12_done 8 = .ok (.if_icmp .eq 9, 3) := by decide +kernel
theorem dX12_done_11 : decode cX12_done 11 = .ok (.aload_n 0, 1) := by decide +kernel
theorem dX12_done_12 : decode cX12_done 12 = .ok (.iload_n 1, 1) := by decide +kernel
theorem dX12_done_13 : decode cX12_done 13 = .ok (.invokevirtual 242, 3) := by decide +kernel
theorem dX12_done_16 : decode cX12_done 16 = .ok (.ireturn, 1) := by decide +kernel
theorem dX12_done_17 : decode cX12_done 17 = .ok (.aload_n 0, 1) := by decide +kernel
theorem dX12_done_18 : decode cX12_done 18 = .ok (.iconst 0, 1) := by decide +kernel
theorem dX12_done_19 : decode cX12_done 19 = .ok (.putfield 121, 3) := by decide +kernel
theorem dX12_done_22 : decode cX12_done 22 = .ok (.aload_n 0, 1) := by decide +kernel
theorem dX12_done_23 : decode cX12_done 23 = .ok (.getfield 124, 3) := by decide +kernel
theorem dX12_done_26 : decode cX12_done 26 = .ok (.ireturn, 1) := by decide +kernel
set_option maxRecDepth 20000 in
theorem ggX12_worthOf_X12_has : GoodIn wsX12_worthOf wsX12_has := goodIn_r _ [5] (by decide +kernel) (by decide +kernel)
set_option maxRecDepth 20000 in
theorem gX12_worthOf_X12_has : GoodIn wsX12_worthOf (va_wsS RX12 163 yX12_has wsX12_has) := goodIn_app (goodIn_of _ (by decide +kernel)) ggX12_worthOf_X12_has
theorem dX12_worthOf_0 : decode cX12_worthOf 0 = .ok (.iconst 0, 1) := by decide +kernel
theorem dX12_worthOf_1 : decode cX12_worthOf 1 = .ok (.istore_n 2, 1) := by decide +kernel
theorem dX12_worthOf_2 : decode cX12_worthOf 2 = .ok (.iconst 0, 1) := by decide +kernel
theorem dX12_worthOf_3 : decode cX12_worthOf 3 = .ok (.istore_n 3, 1) := by decide +kernel
theorem dX12_worthOf_4 : decode cX12_worthOf 4 = .ok (.iload_n 3, 1) := by decide +kernel
theorem dX12_worthOf_5 : decode cX12_worthOf 5 = .ok (.bipush 12, 2) := by decide +kernel
theorem dX12_worthOf_7 : decode cX12_worthOf 7 = .ok (.if_icmp .ge 30, 3) := by decide +kernel
theorem dX12_worthOf_10 : decode cX12_worthOf 10 = .ok (.iload_n 2, 1) := by decide +kernel
theorem dX12_worthOf_11 : decode cX12_worthOf 11 = .ok (.iload_n 1, 1) := by decide +kernel
theorem dX12_worthOf_12 : decode cX12_worthOf 12 = .ok (.iload_n 3, 1) := by decide +kernel
theorem dX12_worthOf_13 : decode cX12_worthOf 13 = .ok (.invokestatic 163, 3) := by decide +kernel
theorem dX12_worthOf_16 : decode cX12_worthOf 16 = .ok (.ifCond .eq 12, 3) := by decide +kernel
theorem dX12_worthOf_19 : decode cX12_worthOf 19 = .ok (.aload_n 0, 1) := by decide +kernel
theorem dX12_worthOf_20 : decode cX12_worthOf 20 = .ok (.getfield 16, 3) := by decide +kernel
theorem dX12_worthOf_23 : decode cX12_worthOf 23 = .ok (.iload_n 3, 1) := by decide +kernel
theorem dX12_worthOf_24 : decode cX12_worthOf 24 = .ok (.iaload, 1) := by decide +kernel
theorem dX12_worthOf_25 : decode cX12_worthOf 25 = .ok (.goto 4, 3) := by decide +kernel
theorem dX12_worthOf_28 : decode cX12_worthOf 28 = .ok (.iconst 0, 1) := by decide +kernel
theorem dX12_worthOf_29 : decode cX12_worthOf 29 = .ok (.iadd, 1) := by decide +kernel
theorem dX12_worthOf_30 : decode cX12_worthOf 30 = .ok (.istore_n 2, 1) := by decide +kernel
theorem dX12_worthOf_31 : decode cX12_worthOf 31 = .ok (.iinc 3 1, 3) := by decide +kernel
theorem dX12_worthOf_34 : decode cX12_worthOf 34 = .ok (.goto (-30), 3) := by decide +kernel
theorem dX12_worthOf_37 : decode cX12_worthOf 37 = .ok (.iload_n 2, 1) := by decide +kernel
theorem dX12_worthOf_38 : decode cX12_worthOf 38 = .ok (.ireturn, 1) := by decide +kernel
set_option maxRecDepth 20000 in
theorem ggX12_weightOf_X12_has : GoodIn wsX12_weightOf wsX12_has := goodIn_r _ [5] (by decide +kernel) (by decide +kernel)
set_option maxRecDepth 20000 in
theorem gX12_weightOf_X12_has : GoodIn wsX12_weightOf (va_wsS RX12 163 yX12_has wsX12_has) := goodIn_app (goodIn_of _ (by decide +kernel)) ggX12_weightOf_X12_has
theorem dX12_weightOf_0 : decode cX12_weightOf 0 = .ok (.iconst 0, 1) := by decide +kernel
theorem dX12_weightOf_1 : decode cX12_weightOf 1 = .ok (.istore_n 2, 1) := by decide +kernel
theorem dX12_weightOf_2 : decode cX12_weightOf 2 = .ok (.iconst 0, 1) := by decide +kernel
theorem dX12_weightOf_3 : decode cX12_weightOf 3 = .ok (.istore_n 3, 1) := by decide +kernel
theorem dX12_weightOf_4 : decode cX12_weightOf 4 = .ok (.iload_n 3, 1) := by decide +kernel
theorem dX12_weightOf_5 : decode cX12_weightOf 5 = .ok (.bipush 12, 2) := by decide +kernel
theorem dX12_weightOf_7 : decode cX12_weightOf 7 = .ok (.if_icmp .ge 30, 3) := by decide +kernel
theorem dX12_weightOf_10 : decode cX12_weightOf 10 = .ok (.iload_n 2, 1) := by decide +kernel
theorem dX12_weightOf_11 : decode cX12_weightOf 11 = .ok (.iload_n 1, 1) := by decide +kernel
theorem dX12_weightOf_12 : decode cX12_weightOf 12 = .ok (.iload_n 3, 1) := by decide +kernel
theorem dX12_weightOf_13 : decode cX12_weightOf 13 = .ok (.invokestatic 163, 3) := by decide +kernel
theorem dX12_weightOf_16 : decode cX12_weightOf 16 = .ok (.ifCond .eq 12, 3) := by decide +kernel
theorem dX12_weightOf_19 : decode cX12_weightOf 19 = .ok (.aload_n 0, 1) := by decide +kernel
theorem dX12_weightOf_20 : decode cX12_weightOf 20 = .ok (.getfield 19, 3) := by decide +kernel
theorem dX12_weightOf_23 : decode cX12_weightOf 23 = .ok (.iload_n 3, 1) := by decide +kernel
theorem dX12_weightOf_24 : decode cX12_weightOf 24 = .ok (.iaload, 1) := by decide +kernel
theorem dX12_weightOf_25 : decode cX12_weightOf 25 = .ok (.goto 4, 3) := by decide +kernel
theorem dX12_weightOf_28 : decode cX12_weightOf 28 = .ok (.iconst 0, 1) := by decide +kernel
theorem dX12_weightOf_29 : decode cX12_weightOf 29 = .ok (.iadd, 1) := by decide +kernel
theorem dX12_weightOf_30 : decode cX12_weightOf 30 = .ok (.istore_n 2, 1) := by decide +kernel
theorem dX12_weightOf_31 : decode cX12_weightOf 31 = .ok (.iinc 3 1, 3) := by decide +kernel
theorem dX12_weightOf_34 : decode cX12_weightOf 34 = .ok (.goto (-30), 3) := by decide +kernel
theorem dX12_weightOf_37 : decode cX12_weightOf 37 = .ok (.iload_n 2, 1) := by decide +kernel
theorem dX12_weightOf_38 : decode cX12_weightOf 38 = .ok (.ireturn, 1) := by decide +kernel
theorem dX12_notWith_0 : decode cX12_notWith 0 = .ok (.iconst 0, 1) := by decide +kernel
theorem dX12_notWith_1 : decode cX12_notWith 1 = .ok (.istore_n 2, 1) := by decide +kernel
theorem dX12_notWith_2 : decode cX12_notWith 2 = .ok (.iconst 0, 1) := by decide +kernel
theorem dX12_notWith_3 : decode cX12_notWith 3 = .ok (.istore_n 3, 1) := by decide +kernel
theorem dX12_notWith_4 : decode cX12_notWith 4 = .ok (.iload_n 3, 1) := by decide +kernel
theorem dX12_notWith_5 : decode cX12_notWith 5 = .ok (.bipush 12, 2) := by decide +kernel
theorem dX12_notWith_7 : decode cX12_notWith 7 = .ok (.if_icmp .ge 29, 3) := by decide +kernel
theorem dX12_notWith_10 : decode cX12_notWith 10 = .ok (.iload_n 2, 1) := by decide +kernel
theorem dX12_notWith_11 : decode cX12_notWith 11 = .ok (.aload_n 0, 1) := by decide +kernel
theorem dX12_notWith_12 : decode cX12_notWith 12 = .ok (.getfield 7, 3) := by decide +kernel
theorem dX12_notWith_15 : decode cX12_notWith 15 = .ok (.iload_n 3, 1) := by decide +kernel
theorem dX12_notWith_16 : decode cX12_notWith 16 = .ok (.iaload, 1) := by decide +kernel
theorem dX12_notWith_17 : decode cX12_notWith 17 = .ok (.iload_n 1, 1) := by decide +kernel
theorem dX12_notWith_18 : decode cX12_notWith 18 = .ok (.if_icmp .ne 7, 3) := by decide +kernel
theorem dX12_notWith_21 : decode cX12_notWith 21 = .ok (.iconst 0, 1) := by decide +kernel
theorem dX12_notWith_22 : decode cX12_notWith 22 = .ok (.goto 6, 3) := by decide +kernel
theorem dX12_notWith_25 : decode cX12_notWith 25 = .ok (.iconst 1, 1) := by decide +kernel
theorem dX12_notWith_26 : decode cX12_notWith 26 = .ok (.iload_n 3, 1) := by decide +kernel
theorem dX12_notWith_27 : decode cX12_notWith 27 = .ok (.ishl, 1) := by decide +kernel
theorem dX12_notWith_28 : decode cX12_notWith 28 = .ok (.ior, 1) := by decide +kernel
theorem dX12_notWith_29 : decode cX12_notWith 29 = .ok (.istore_n 2, 1) := by decide +kernel
theorem dX12_notWith_30 : decode cX12_notWith 30 = .ok (.iinc 3 1, 3) := by decide +kernel
theorem dX12_notWith_33 : decode cX12_notWith 33 = .ok (.goto (-29), 3) := by decide +kernel
theorem dX12_notWith_36 : decode cX12_notWith 36 = .ok (.iload_n 2, 1) := by decide +kernel
theorem dX12_notWith_37 : decode cX12_notWith 37 = .ok (.ireturn, 1) := by decide +kernel
set_option maxRecDepth 20000 in
theorem ggX12_sack_X12_isOne : GoodIn wsX12_sack wsX12_isOne := goodIn_r _ [5, 6, 7, 8, 4, 9] (by decide +kernel) (by decide +kernel)
set_option maxRecDepth 20000 in
theorem gX12_sack_X12_isOne : GoodIn wsX12_sack (va_wsS RX12 100 yX12_isOne wsX12_isOne) := goodIn_app (goodIn_of _ (by decide +kernel)) ggX12_sack_X12_isOne
set_option maxRecDepth 20000 in
theorem ggX12_sack_X12_in : GoodIn wsX12_sack wsX12_in := goodIn_r _ [9] (by decide +kernel) (by decide +kernel)
set_option maxRecDepth 20000 in
theorem gX12_sack_X12_in : GoodIn wsX12_sack (va_wsS RX12 90 yX12_in wsX12_in) := goodIn_app (goodIn_of _ (by decide +kernel)) ggX12_sack_X12_in
set_option maxRecDepth 20000 in
theorem ggX12_sack_X12_notWith : GoodIn wsX12_sack wsX12_notWith := goodIn_r _ [13, 14, 28, 29, 30, 31, 32, 33, 34, 35, 36, 37, 38, 39, 40, 41, 42, 43, 44, 45, 46, 47, 48, 49, 50, 51, 52, 53, 54, 55, 56, 57, 58, 59, 60, 61, 62, 63, 64, 65] (by decide +kernel) (by decide +kernel)
set_option maxRecDepth 20000 in
theorem gX12_sack_X12_notWith : GoodIn wsX12_sack (wsV RX12 248 RX12 yX12_notWith wsX12_notWith) := goodIn_app (goodIn_of _ (by decide +kernel)) ggX12_sack_X12_notWith
set_option maxRecDepth 20000 in
theorem ggX12_sack_X12_weightOf : GoodIn wsX12_sack wsX12_weightOf := goodIn_r _ [18, 19, 20, 21, 4, 22, 28, 29, 30, 31, 32, 33, 34, 35, 36, 37, 38, 39, 40, 41, 42, 43, 44, 45, 46, 47, 48, 49, 50, 51, 52, 53, 54, 55, 56, 57, 58, 59, 60, 61, 62, 63, 64, 65] (by decide +kernel) (by decide +kernel)
set_option maxRecDepth 20000 in
theorem gX12_sack_X12_weightOf : GoodIn wsX12_sack (wsV RX12 251 RX12 yX12_weightOf wsX12_weightOf) := goodIn_app (goodIn_of _ (by decide +kernel)) ggX12_sack_X12_weightOf
set_option maxRecDepth 20000 in
theorem ggX12_sack_X12_worthOf : GoodIn wsX12_sack wsX12_worthOf := goodIn_r _ [26, 27, 20, 21, 4, 22, 28, 29, 30, 31, 32, 33, 34, 35, 36, 37, 38, 39, 40, 41, 42, 43, 44, 45, 46, 47, 48, 49, 50, 51, 52, 53, 54, 55, 56, 57, 58, 59, 60, 61, 62, 63, 64, 65] (by decide +kernel) (by decide +kernel)
set_option maxRecDepth 20000 in
theorem gX12_sack_X12_worthOf : GoodIn wsX12_sack (wsV RX12 254 RX12 yX12_worthOf wsX12_worthOf) := goodIn_app (goodIn_of _ (by decide +kernel)) ggX12_sack_X12_worthOf
theorem dX12_sack_0 : decode cX12_sack 0 = .ok (.iload_n 1, 1) := by decide +kernel
theorem dX12_sack_1 : decode cX12_sack 1 = .ok (.invokestatic 100, 3) := by decide +kernel
theorem dX12_sack_4 : decode cX12_sack 4 = .ok (.ifCond .ne 5, 3) := by decide +kernel
theorem dX12_sack_7 : decode cX12_sack 7 = .ok (.iconst (-1), 1) := by decide +kernel
theorem dX12_sack_8 : decode cX12_sack 8 = .ok (.ireturn, 1) := by decide +kernel
theorem dX12_sack_9 : decode cX12_sack 9 = .ok (.iload_n 2, 1) := by decide +kernel
theorem dX12_sack_10 : decode cX12_sack 10 = .ok (.i2l, 1) := by decide +kernel
theorem dX12_sack_11 : decode cX12_sack 11 = .ok (.lconst 0, 1) := by decide +kernel
theorem dX12_sack_12 : decode cX12_sack 12 = .ok (.ldc2_w 105, 3) := by decide +kernel
theorem dX12_sack_15 : decode cX12_sack 15 = .ok (.invokestatic 90, 3) := by decide +kernel
theorem dX12_sack_18 : decode cX12_sack 18 = .ok (.ifCond .eq 13, 3) := by decide +kernel
theorem dX12_sack_21 : decode cX12_sack 21 = .ok (.iload_n 3, 1) := by decide +kernel
theorem dX12_sack_22 : decode cX12_sack 22 = .ok (.i2l, 1) := by decide +kernel
theorem dX12_sack_23 : decode cX12_sack 23 = .ok (.lconst 0, 1) := by decide +kernel
theorem dX12_sack_24 : decode cX12_sack 24 = .ok (.lconst 1, 1) := by decide +kernel
theorem dX12_sack_25 : decode cX12_sack 25 = .ok (.invokestatic 90, 3) := by decide +kernel
theorem dX12_sack_28 : decode cX12_sack 28 = .ok (.ifCond .ne 6, 3) := by decide +kernel
theorem dX12_sack_31 : decode cX12_sack 31 = .ok (.bipush (-2), 2) := by decide +kernel
theorem dX12_sack_33 : decode cX12_sack 33 = .ok (.ireturn, 1) := by decide +kernel
theorem dX12_sack_34 : decode cX12_sack 34 = .ok (.aload_n 0, 1) := by decide +kernel
theorem dX12_sack_35 : decode cX12_sack 35 = .ok (.iload_n 1, 1) := by decide +kernel
theorem dX12_sack_36 : decode cX12_sack 36 = .ok (.invokevirtual 248, 3) := by decide +kernel
theorem dX12_sack_39 : decode cX12_sack 39 = .ok (.istore 4, 2) := by decide +kernel
theorem dX12_sack_41 : decode cX12_sack 41 = .ok (.iconst 0, 1) := by decide +kernel
theorem dX12_sack_42 : decode cX12_sack 42 = .ok (.istore 5, 2) := by decide +kernel
theorem dX12_sack_44 : decode cX12_sack 44 = .ok (.iconst 0, 1) := by decide +kernel
theorem dX12_sack_45 : decode cX12_sack 45 = .ok (.istore 6, 2) := by decide +kernel
theorem dX12_sack_47 : decode cX12_sack 47 = .ok (.iconst 1, 1) := by decide +kernel
theorem dX12_sack_48 : decode cX12_sack 48 = .ok (.istore 7, 2) := by decide +kernel
theorem dX12_sack_50 : decode cX12_sack 50 = .ok (.iload 7, 2) := by decide +kernel
theorem dX12_sack_52 : decode cX12_sack 52 = .ok (.sipush 4096, 3) := by decide +kernel
theorem dX12_sack_55 : decode cX12_sack 55 = .ok (.if_icmp .ge 85, 3) := by decide +kernel
theorem dX12_sack_58 : decode cX12_sack 58 = .ok (.iload 7, 2) := by decide +kernel
theorem dX12_sack_60 : decode cX12_sack 60 = .ok (.iload 4, 2) := by decide +kernel
theorem dX12_sack_62 : decode cX12_sack 62 = .ok (.iconst (-1), 1) := by decide +kernel
theorem dX12_sack_63 : decode cX12_sack 63 = .ok (.ixor, 1) := by decide +kernel
theorem dX12_sack_64 : decode cX12_sack 64 = .ok (.iand, 1) := by decide +kernel
theorem dX12_sack_65 : decode cX12_sack 65 = .ok (.ifCond .ne 17, 3) := by decide +kernel
theorem dX12_sack_68 : decode cX12_sack 68 = .ok (.aload_n 0, 1) := by decide +kernel
theorem dX12_sack_69 : decode cX12_sack 69 = .ok (.iload 7, 2) := by decide +kernel
theorem dX12_sack_71 : decode cX12_sack 71 = .ok (.invokevirtual 251, 3) := by decide +kernel
theorem dX12_sack_74 : decode cX12_sack 74 = .ok (.iload_n 2, 1) := by decide +kernel
theorem dX12_sack_75 : decode cX12_sack 75 = .ok (.if_icmp .gt 7, 3) := by decide +kernel
theorem dX12_sack_78 : decode cX12_sack 78 = .ok (.iconst 1, 1) := by decide +kernel
theorem dX12_sack_79 : decode cX12_sack 79 = .ok (.goto 4, 3) := by decide +kernel
theorem dX12_sack_82 : decode cX12_sack 82 = .ok (.iconst 0, 1) := by decide +kernel
theorem dX12_sack_83 : decode cX12_sack 83 = .ok (.istore 8, 2) := by decide +kernel
theorem dX12_sack_85 : decode cX12_sack 85 = .ok (.iload 8, 2) := by decide +kernel
theorem dX12_sack_87 : decode cX12_sack 87 = .ok (.ifCond .eq 12, 3) := by decide +kernel
theorem dX12_sack_90 : decode cX12_sack 90 = .ok (.aload_n 0, 1) := by decide +kernel
theorem dX12_sack_91 : decode cX12_sack 91 = .ok (.iload 7, 2) := by decide +kernel
theorem dX12_sack_93 : decode cX12_sack 93 = .ok (.invokevirtual 254, 3) := by decide +kernel
theorem dX12_sack_96 : decode cX12_sack 96 = .ok (.goto 4, 3) := by decide +kernel
theorem dX12_sack_99 : decode cX12_sack 99 = .ok (.iconst 0, 1) := by decide +kernel
theorem dX12_sack_100 : decode cX12_sack 100 = .ok (.istore 9, 2) := by decide +kernel
theorem dX12_sack_102 : decode cX12_sack 102 = .ok (.iload 9, 2) := by decide +kernel
theorem dX12_sack_104 : decode cX12_sack 104 = .ok (.iload 6, 2) := by decide +kernel
theorem dX12_sack_106 : decode cX12_sack 106 = .ok (.if_icmp .le 8, 3) := by decide +kernel
theorem dX12_sack_109 : decode cX12_sack 109 = .ok (.iload 7, 2) := by decide +kernel
theorem dX12_sack_111 : decode cX12_sack 111 = .ok (.goto 5, 3) := by decide +kernel
theorem dX12_sack_114 : decode cX12_sack 114 = .ok (.iload 5, 2) := by decide +kernel
theorem dX12_sack_116 : decode cX12_sack 116 = .ok (.istore 5, 2) := by decide +kernel
theorem dX12_sack_118 : decode cX12_sack 118 = .ok (.iload 9, 2) := by decide +kernel
theorem dX12_sack_120 : decode cX12_sack 120 = .ok (.iload 6, 2) := by decide +kernel
theorem dX12_sack_122 : decode cX12_sack 122 = .ok (.if_icmp .le 8, 3) := by decide +kernel
theorem dX12_sack_125 : decode cX12_sack 125 = .ok (.iload 9, 2) := by decide +kernel
theorem dX12_sack_127 : decode cX12_sack 127 = .ok (.goto 5, 3) := by decide +kernel
theorem dX12_sack_130 : decode cX12_sack 130 = .ok (.iload 6, 2) := by decide +kernel
theorem dX12_sack_132 : decode cX12_sack 132 = .ok (.istore 6, 2) := by decide +kernel
theorem dX12_sack_134 : decode cX12_sack 134 = .ok (.iinc 7 1, 3) := by decide +kernel
theorem dX12_sack_137 : decode cX12_sack 137 = .ok (.goto (-87), 3) := by decide +kernel
theorem dX12_sack_140 : decode cX12_sack 140 = .ok (.iload_n 3, 1) := by decide +kernel
theorem dX12_sack_141 : decode cX12_sack 141 = .ok (.ifCond .ne 8, 3) := by decide +kernel
theorem dX12_sack_144 : decode cX12_sack 144 = .ok (.iload 6, 2) := by decide +kernel
theorem dX12_sack_146 : decode cX12_sack 146 = .ok (.goto 5, 3) := by decide +kernel
theorem dX12_sack_149 : decode cX12_sack 149 = .ok (.iload 5, 2) := by decide +kernel
theorem dX12_sack_151 : decode cX12_sack 151 = .ok (.ireturn, 1) := by decide +kernel
set_option maxRecDepth 20000 in
theorem ggX12_careers_X12_in : GoodIn wsX12_careers wsX12_in := goodIn_r _ [7] (by decide +kernel) (by decide +kernel)
set_option maxRecDepth 20000 in
theorem gX12_careers_X12_in : GoodIn wsX12_careers (va_wsS RX12 90 yX12_in wsX12_in) := goodIn_app (goodIn_of _ (by decide +kernel)) ggX12_careers_X12_in
set_option maxRecDepth 20000 in
theorem ggX12_careers_X12_has : GoodIn wsX12_careers wsX12_has := goodIn_r _ [10] (by decide +kernel) (by decide +kernel)
set_option maxRecDepth 20000 in
theorem gX12_careers_X12_has : GoodIn wsX12_careers (va_wsS RX12 163 yX12_has wsX12_has) := goodIn_app (goodIn_of _ (by decide +kernel)) ggX12_careers_X12_has
theorem dX12_careers_0 : decode cX12_careers 0 = .ok (.iload_n 1, 1) := by decide +kernel
theorem dX12_careers_1 : decode cX12_careers 1 = .ok (.i2l, 1) := by decide +kernel
theorem dX12_careers_2 : decode cX12_careers 2 = .ok (.lconst 1, 1) := by decide +kernel
theorem dX12_careers_3 : decode cX12_careers 3 = .ok (.ldc2_w 257, 3) := by decide +kernel
theorem dX12_careers_6 : decode cX12_careers 6 = .ok (.invokestatic 90, 3) := by decide +kernel
theorem dX12_careers_9 : decode cX12_careers 9 = .ok (.ifCond .eq 15, 3) := by decide +kernel
theorem dX12_careers_12 : decode cX12_careers 12 = .ok (.iload_n 2, 1) := by decide +kernel
theorem dX12_careers_13 : decode cX12_careers 13 = .ok (.i2l, 1) := by decide +kernel
theorem dX12_careers_14 : decode cX12_careers 14 = .ok (.lconst 0, 1) := by decide +kernel
theorem dX12_careers_15 : decode cX12_careers 15 = .ok (.ldc2_w 259, 3) := by decide +kernel
theorem dX12_careers_18 : decode cX12_careers 18 = .ok (.invokestatic 90, 3) := by decide +kernel
theorem dX12_careers_21 : decode cX12_careers 21 = .ok (.ifCond .ne 6, 3) := by decide +kernel
theorem dX12_careers_24 : decode cX12_careers 24 = .ok (.bipush (-2), 2) := by decide +kernel
theorem dX12_careers_26 : decode cX12_careers 26 = .ok (.ireturn, 1) := by decide +kernel
theorem dX12_careers_27 : decode cX12_careers 27 = .ok (.iconst 0, 1) := by decide +kernel
theorem dX12_careers_28 : decode cX12_careers 28 = .ok (.istore_n 3, 1) := by decide +kernel
theorem dX12_careers_29 : decode cX12_careers 29 = .ok (.iconst 0, 1) := by decide +kernel
theorem dX12_careers_30 : decode cX12_careers 30 = .ok (.istore 4, 2) := by decide +kernel
theorem dX12_careers_32 : decode cX12_careers 32 = .ok (.iconst 0, 1) := by decide +kernel
theorem dX12_careers_33 : decode cX12_careers 33 = .ok (.istore 5, 2) := by decide +kernel
theorem dX12_careers_35 : decode cX12_careers 35 = .ok (.iload 5, 2) := by decide +kernel
theorem dX12_careers_37 : decode cX12_careers 37 = .ok (.bipush 12, 2) := by decide +kernel
theorem dX12_careers_39 : decode cX12_careers 39 = .ok (.if_icmp .ge 65, 3) := by decide +kernel
theorem dX12_careers_42 : decode cX12_careers 42 = .ok (.iload_n 2, 1) := by decide +kernel
theorem dX12_careers_43 : decode cX12_careers 43 = .ok (.iload 5, 2) := by decide +kernel
theorem dX12_careers_45 : decode cX12_careers 45 = .ok (.invokestatic 163, 3) := by decide +kernel
theorem dX12_careers_48 : decode cX12_careers 48 = .ok (.ifCond .eq 26, 3) := by decide +kernel
theorem dX12_careers_51 : decode cX12_careers 51 = .ok (.aload_n 0, 1) := by decide +kernel
theorem dX12_careers_52 : decode cX12_careers 52 = .ok (.getfield 13, 3) := by decide +kernel
theorem dX12_careers_55 : decode cX12_careers 55 = .ok (.iload 5, 2) := by decide +kernel
theorem dX12_careers_57 : decode cX12_careers 57 = .ok (.iaload, 1) := by decide +kernel
theorem dX12_careers_58 : decode cX12_careers 58 = .ok (.iconst 2, 1) := by decide +kernel
theorem dX12_careers_59 : decode cX12_careers 59 = .ok (.if_icmp .ge 15, 3) := by decide +kernel
theorem dX12_careers_62 : decode cX12_careers 62 = .ok (.iconst 2, 1) := by decide +kernel
theorem dX12_careers_63 : decode cX12_careers 63 = .ok (.aload_n 0, 1) := by decide +kernel
theorem dX12_careers_64 : decode cX12_careers 64 = .ok (.getfield 13, 3) := by decide +kernel
theorem dX12_careers_67 : decode cX12_careers 67 = .ok (.iload 5, 2) := by decide +kernel
theorem dX12_careers_69 : decode cX12_careers 69 = .ok (.iaload, 1) := by decide +kernel
theorem dX12_careers_70 : decode cX12_careers 70 = .ok (.isub, 1) := by decide +kernel
theorem dX12_careers_71 : decode cX12_careers 71 = .ok (.goto 4, 3) := by decide +kernel
theorem dX12_careers_74 : decode cX12_careers 74 = .ok (.iconst 0, 1) := by decide +kernel
theorem dX12_careers_75 : decode cX12_careers 75 = .ok (.istore 6, 2) := by decide +kernel
theorem dX12_careers_77 : decode cX12_careers 77 = .ok (.iload_n 3, 1) := by decide +kernel
theorem dX12_careers_78 : decode cX12_careers 78 = .ok (.iload 6, 2) := by decide +kernel
theorem dX12_careers_80 : decode cX12_careers 80 = .ok (.iadd, 1) := by decide +kernel
theorem dX12_careers_81 : decode cX12_careers 81 = .ok (.istore_n 3, 1) := by decide +kernel
theorem dX12_careers_82 : decode cX12_careers 82 = .ok (.iload 6, 2) := by decide +kernel
theorem dX12_careers_84 : decode cX12_careers 84 = .ok (.iload 4, 2) := by decide +kernel
theorem dX12_careers_86 : decode cX12_careers 86 = .ok (.if_icmp .le 8, 3) := by decide +kernel
theorem dX12_careers_89 : decode cX12_careers 89 = .ok (.iload 6, 2) := by decide +kernel
theorem dX12_careers_91 : decode cX12_careers 91 = .ok (.goto 5, 3) := by decide +kernel
theorem dX12_careers_94 : decode cX12_careers 94 = .ok (.iload 4, 2) := by decide +kernel
theorem dX12_careers_96 : decode cX12_careers 96 = .ok (.istore 4, 2) := by decide +kernel
theorem dX12_careers_98 : decode cX12_careers 98 = .ok (.iinc 5 1, 3) := by decide +kernel
theorem dX12_careers_101 : decode cX12_careers 101 = .ok (.goto (-66), 3) := by decide +kernel
theorem dX12_careers_104 : decode cX12_careers 104 = .ok (.iload_n 3, 1) := by decide +kernel
theorem dX12_careers_105 : decode cX12_careers 105 = .ok (.iload_n 1, 1) := by decide +kernel
theorem dX12_careers_106 : decode cX12_careers 106 = .ok (.iadd, 1) := by decide +kernel
theorem dX12_careers_107 : decode cX12_careers 107 = .ok (.iconst 1, 1) := by decide +kernel
theorem dX12_careers_108 : decode cX12_careers 108 = .ok (.isub, 1) := by decide +kernel
theorem dX12_careers_109 : decode cX12_careers 109 = .ok (.iload_n 1, 1) := by decide +kernel
theorem dX12_careers_110 : decode cX12_careers 110 = .ok (.idiv, 1) := by decide +kernel
theorem dX12_careers_111 : decode cX12_careers 111 = .ok (.istore 5, 2) := by decide +kernel
theorem dX12_careers_113 : decode cX12_careers 113 = .ok (.iload 4, 2) := by decide +kernel
theorem dX12_careers_115 : decode cX12_careers 115 = .ok (.iload 5, 2) := by decide +kernel
theorem dX12_careers_117 : decode cX12_careers 117 = .ok (.if_icmp .le 8, 3) := by decide +kernel
theorem dX12_careers_120 : decode cX12_careers 120 = .ok (.iload 4, 2) := by decide +kernel
theorem dX12_careers_122 : decode cX12_careers 122 = .ok (.goto 5, 3) := by decide +kernel
theorem dX12_careers_125 : decode cX12_careers 125 = .ok (.iload 5, 2) := by decide +kernel
theorem dX12_careers_127 : decode cX12_careers 127 = .ok (.ireturn, 1) := by decide +kernel
theorem dX12_readRing_0 : decode cX12_readRing 0 = .ok (.iload_n 1, 1) := by decide +kernel
theorem dX12_readRing_1 : decode cX12_readRing 1 = .ok (.istore_n 2, 1) := by decide +kernel
theorem dX12_readRing_2 : decode cX12_readRing 2 = .ok (.iload_n 1, 1) := by decide +kernel
theorem dX12_readRing_3 : decode cX12_readRing 3 = .ok (.ifCond .lt 7, 3) := by decide +kernel
theorem dX12_readRing_6 : decode cX12_readRing 6 = .ok (.iconst 1, 1) := by decide +kernel
theorem dX12_readRing_7 : decode cX12_readRing 7 = .ok (.goto 4, 3) := by decide +kernel
theorem dX12_readRing_10 : decode cX12_readRing 10 = .ok (.iconst 0, 1) := by decide +kernel
theorem dX12_readRing_11 : decode cX12_readRing 11 = .ok (.istore_n 3, 1) := by decide +kernel
theorem dX12_readRing_12 : decode cX12_readRing 12 = .ok (.bipush 7, 2) := by decide +kernel
theorem dX12_readRing_14 : decode cX12_readRing 14 = .ok (.istore 4, 2) := by decide +kernel
theorem dX12_readRing_16 : decode cX12_readRing 16 = .ok (.iload 4, 2) := by decide +kernel
theorem dX12_readRing_18 : decode cX12_readRing 18 = .ok (.ifCond .lt 55, 3) := by decide +kernel
theorem dX12_readRing_21 : decode cX12_readRing 21 = .ok (.aload_n 0, 1) := by decide +kernel
theorem dX12_readRing_22 : decode cX12_readRing 22 = .ok (.getfield 52, 3) := by decide +kernel
theorem dX12_readRing_25 : decode cX12_readRing 25 = .ok (.iload 4, 2) := by decide +kernel
theorem dX12_readRing_27 : decode cX12_readRing 27 = .ok (.iload_n 3, 1) := by decide +kernel
theorem dX12_readRing_28 : decode cX12_readRing 28 = .ok (.ifCond .eq 10, 3) := by decide +kernel
theorem dX12_readRing_31 : decode cX12_readRing 31 = .ok (.iload_n 2, 1) := by decide +kernel
theorem dX12_readRing_32 : decode cX12_readRing 32 = .ok (.bipush 10, 2) := by decide +kernel
theorem dX12_readRing_34 : decode cX12_readRing 34 = .ok (.irem, 1) := by decide +kernel
theorem dX12_readRing_35 : decode cX12_readRing 35 = .ok (.goto 4, 3) := by decide +kernel
theorem dX12_readRing_38 : decode cX12_readRing 38 = .ok (.iconst 0, 1) := by decide +kernel
theorem dX12_readRing_39 : decode cX12_readRing 39 = .ok (.iastore, 1) := by decide +kernel
theorem dX12_readRing_40 : decode cX12_readRing 40 = .ok (.iload_n 3, 1) := by decide +kernel
theorem dX12_readRing_41 : decode cX12_readRing 41 = .ok (.ifCond .eq 19, 3) := by decide +kernel
theorem dX12_readRing_44 : decode cX12_readRing 44 = .ok (.aload_n 0, 1) := by decide +kernel
theorem dX12_readRing_45 : decode cX12_readRing 45 = .ok (.getfield 52, 3) := by decide +kernel
theorem dX12_readRing_48 : decode cX12_readRing 48 = .ok (.iload 4, 2) := by decide +kernel
theorem dX12_readRing_50 : decode cX12_readRing 50 = .ok (.iaload, 1) := by decide +kernel
theorem dX12_readRing_51 : decode cX12_readRing 51 = .ok (.bipush 8, 2) := by decide +kernel
theorem dX12_readRing_53 : decode cX12_readRing 53 = .ok (.if_icmp .ge 7, 3) := by decide +kernel
theorem dX12_readRing_56 : decode cX12_readRing 56 = .ok (.iconst 1, 1) := by decide +kernel
theorem dX12_readRing_57 : decode cX12_readRing 57 = .ok (.goto 4, 3) := by decide +kernel
theorem dX12_readRing_60 : decode cX12_readRing 60 = .ok (.iconst 0, 1) := by decide +kernel
theorem dX12_readRing_61 : decode cX12_readRing 61 = .ok (.istore_n 3, 1) := by decide +kernel
theorem dX12_readRing_62 : decode cX12_readRing 62 = .ok (.iload_n 2, 1) := by decide +kernel
theorem dX12_readRing_63 : decode cX12_readRing 63 = .ok (.bipush 10, 2) := by decide +kernel
theorem dX12_readRing_65 : decode cX12_readRing 65 = .ok (.idiv, 1) := by decide +kernel
theorem dX12_readRing_66 : decode cX12_readRing 66 = .ok (.istore_n 2, 1) := by decide +kernel
theorem dX12_readRing_67 : decode cX12_readRing 67 = .ok (.iinc 4 (-1), 3) := by decide +kernel
theorem dX12_readRing_70 : decode cX12_readRing 70 = .ok (.goto (-54), 3) := by decide +kernel
theorem dX12_readRing_73 : decode cX12_readRing 73 = .ok (.iload_n 3, 1) := by decide +kernel
theorem dX12_readRing_74 : decode cX12_readRing 74 = .ok (.ifCond .eq 11, 3) := by decide +kernel
theorem dX12_readRing_77 : decode cX12_readRing 77 = .ok (.iload_n 2, 1) := by decide +kernel
theorem dX12_readRing_78 : decode cX12_readRing 78 = .ok (.ifCond .ne 7, 3) := by decide +kernel
theorem dX12_readRing_81 : decode cX12_readRing 81 = .ok (.iconst 1, 1) := by decide +kernel
theorem dX12_readRing_82 : decode cX12_readRing 82 = .ok (.goto 4, 3) := by decide +kernel
theorem dX12_readRing_85 : decode cX12_readRing 85 = .ok (.iconst 0, 1) := by decide +kernel
theorem dX12_readRing_86 : decode cX12_readRing 86 = .ok (.ireturn, 1) := by decide +kernel
theorem dX12_goRing_0 : decode cX12_goRing 0 = .ok (.iconst 0, 1) := by decide +kernel
theorem dX12_goRing_1 : decode cX12_goRing 1 = .ok (.istore_n 2, 1) := by decide +kernel
theorem dX12_goRing_2 : decode cX12_goRing 2 = .ok (.iload_n 2, 1) := by decide +kernel
theorem dX12_goRing_3 : decode cX12_goRing 3 = .ok (.bipush 8, 2) := by decide +kernel
theorem dX12_goRing_5 : decode cX12_goRing 5 = .ok (.if_icmp .ge 16, 3) := by decide +kernel
theorem dX12_goRing_8 : decode cX12_goRing 8 = .ok (.aload_n 0, 1) := by decide +kernel
theorem dX12_goRing_9 : decode cX12_goRing 9 = .ok (.getfield 55, 3) := by decide +kernel
theorem dX12_goRing_12 : decode cX12_goRing 12 = .ok (.iload_n 2, 1) := by decide +kernel
theorem dX12_goRing_13 : decode cX12_goRing 13 = .ok (.iconst 0, 1) := by decide +kernel
theorem dX12_goRing_14 : decode cX12_goRing 14 = .ok (.iastore, 1) := by decide +kernel
theorem dX12_goRing_15 : decode cX12_goRing 15 = .ok (.iinc 2 1, 3) := by decide +kernel
theorem dX12_goRing_18 : decode cX12_goRing 18 = .ok (.goto (-16), 3) := by decide +kernel
theorem dX12_goRing_21 : decode cX12_goRing 21 = .ok (.iload_n 1, 1) := by decide +kernel
theorem dX12_goRing_22 : decode cX12_goRing 22 = .ok (.istore_n 2, 1) := by decide +kernel
theorem dX12_goRing_23 : decode cX12_goRing 23 = .ok (.iconst 0, 1) := by decide +kernel
theorem dX12_goRing_24 : decode cX12_goRing 24 = .ok (.istore_n 3, 1) := by decide +kernel
theorem dX12_goRing_25 : decode cX12_goRing 25 = .ok (.aload_n 0, 1) := by decide +kernel
theorem dX12_goRing_26 : decode cX12_goRing 26 = .ok (.getfield 55, 3) := by decide +kernel
theorem dX12_goRing_29 : decode cX12_goRing 29 = .ok (.iload_n 2, 1) := by decide +kernel
theorem dX12_goRing_30 : decode cX12_goRing 30 = .ok (.iaload, 1) := by decide +kernel
theorem dX12_goRing_31 : decode cX12_goRing 31 = .ok (.ifCond .ne 23, 3) := by decide +kernel
theorem dX12_goRing_34 : decode cX12_goRing 34 = .ok (.iinc 3 1, 3) := by decide +kernel
theorem dX12_goRing_37 : decode cX12_goRing 37 = .ok (.aload_n 0, 1) := by decide +kernel
theorem dX12_goRing_38 : decode cX12_goRing 38 = .ok (.getfield 55, 3) := by decide +kernel
theorem dX12_goRing_41 : decode cX12_goRing 41 = .ok (.iload_n 2, 1) := by decide +kernel
theorem dX12_goRing_42 : decode cX12_goRing 42 = .ok (.iload_n 3, 1) := by decide +kernel
theorem dX12_goRing_43 : decode cX12_goRing 43 = .ok (.iastore, 1) := by decide +kernel
theorem dX12_goRing_44 : decode cX12_goRing 44 = .ok (.aload_n 0, 1) := by decide +kernel
theorem dX12_goRing_45 : decode cX12_goRing 45 = .ok (.getfield 52, 3) := by decide +kernel
theorem dX12_goRing_48 : decode cX12_goRing 48 = .ok (.iload_n 2, 1) := by decide +kernel
theorem dX12_goRing_49 : decode cX12_goRing 49 = .ok (.iaload, 1) := by decide +kernel
theorem dX12_goRing_50 : decode cX12_goRing 50 = .ok (.istore_n 2, 1) := by decide +kernel
theorem dX12_goRing_51 : decode cX12_goRing 51 = .ok (.goto (-26), 3) := by decide +kernel
theorem dX12_goRing_54 : decode cX12_goRing 54 = .ok (.iload_n 3, 1) := by decide +kernel
theorem dX12_goRing_55 : decode cX12_goRing 55 = .ok (.ireturn, 1) := by decide +kernel
theorem dX12_walk_0 : decode cX12_walk 0 = .ok (.iload_n 1, 1) := by decide +kernel
theorem dX12_walk_1 : decode cX12_walk 1 = .ok (.istore_n 3, 1) := by decide +kernel
theorem dX12_walk_2 : decode cX12_walk 2 = .ok (.iconst 0, 1) := by decide +kernel
theorem dX12_walk_3 : decode cX12_walk 3 = .ok (.istore 4, 2) := by decide +kernel
theorem dX12_walk_5 : decode cX12_walk 5 = .ok (.iload 4, 2) := by decide +kernel
theorem dX12_walk_7 : decode cX12_walk 7 = .ok (.iload_n 2, 1) := by decide +kernel
theorem dX12_walk_8 : decode cX12_walk 8 = .ok (.if_icmp .ge 16, 3) := by decide +kernel
theorem dX12_walk_11 : decode cX12_walk 11 = .ok (.aload_n 0, 1) := by decide +kernel
theorem dX12_walk_12 : decode cX12_walk 12 = .ok (.getfield 52, 3) := by decide +kernel
theorem dX12_walk_15 : decode cX12_walk 15 = .ok (.iload_n 3, 1) := by decide +kernel
theorem dX12_walk_16 : decode cX12_walk 16 = .ok (.iaload, 1) := by decide +kernel
theorem dX12_walk_17 : decode cX12_walk 17 = .ok (.istore_n 3, 1) := by decide +kernel
theorem dX12_walk_18 : decode cX12_walk 18 = .ok (.iinc 4 1, 3) := by decide +kernel
theorem dX12_walk_21 : decode cX12_walk 21 = .ok (.goto (-16), 3) := by decide +kernel
theorem dX12_walk_24 : decode cX12_walk 24 = .ok (.iload_n 3, 1) := by decide +kernel
theorem dX12_walk_25 : decode cX12_walk 25 = .ok (.ireturn, 1) := by decide +kernel
set_option maxRecDepth 20000 in
theorem ggX12_ring_X12_isOne : GoodIn wsX12_ring wsX12_isOne := goodIn_r _ [7, 8, 9, 10, 6, 11] (by decide +kernel) (by decide +kernel)
set_option maxRecDepth 20000 in
theorem gX12_ring_X12_isOne : GoodIn wsX12_ring (va_wsS RX12 100 yX12_isOne wsX12_isOne) := goodIn_app (goodIn_of _ (by decide +kernel)) ggX12_ring_X12_isOne
set_option maxRecDepth 20000 in
theorem ggX12_ring_X12_readRing : GoodIn wsX12_ring wsX12_readRing := goodIn_r _ [15, 16, 25, 26, 27, 28, 29, 30, 31, 32, 33, 34, 35, 36, 37, 38, 39, 40, 41, 42, 43, 44, 45, 46, 47, 48, 49, 50, 51, 52, 53, 54, 55, 56, 57, 58, 59, 60, 61, 62] (by decide +kernel) (by decide +kernel)
set_option maxRecDepth 20000 in
theorem gX12_ring_X12_readRing : GoodIn wsX12_ring (wsV RX12 261 RX12 yX12_readRing wsX12_readRing) := goodIn_app (goodIn_of _ (by decide +kernel)) ggX12_ring_X12_readRing
set_option maxRecDepth 20000 in
theorem ggX12_ring_X12_in : GoodIn wsX12_ring wsX12_in := goodIn_r _ [11] (by decide +kernel) (by decide +kernel)
set_option maxRecDepth 20000 in
theorem gX12_ring_X12_in : GoodIn wsX12_ring (va_wsS RX12 90 yX12_in wsX12_in) := goodIn_app (goodIn_of _ (by decide +kernel)) ggX12_ring_X12_in
set_option maxRecDepth 20000 in
theorem ggX12_ring_X12_goRing : GoodIn wsX12_ring wsX12_goRing := goodIn_r _ [20, 3, 16, 25, 26, 27, 28, 29, 30, 31, 32, 33, 34, 35, 36, 37, 38, 39, 40, 41, 42, 43, 44, 45, 46, 47, 48, 49, 50, 51, 52, 53, 54, 55, 56, 57, 58, 59, 60, 61, 62] (by decide +kernel) (by decide +kernel)
set_option maxRecDepth 20000 in
theorem gX12_ring_X12_goRing : GoodIn wsX12_ring (wsV RX12 266 RX12 yX12_goRing wsX12_goRing) := goodIn_app (goodIn_of _ (by decide +kernel)) ggX12_ring_X12_goRing
set_option maxRecDepth 20000 in
theorem ggX12_ring_X12_walk : GoodIn wsX12_ring wsX12_walk := goodIn_r _ [24, 16, 25, 26, 27, 28, 29, 30, 31, 32, 33, 34, 35, 36, 37, 38, 39, 40, 41, 42, 43, 44, 45, 46, 47, 48, 49, 50, 51, 52, 53, 54, 55, 56, 57, 58, 59, 60, 61, 62] (by decide +kernel) (by decide +kernel)
set_option maxRecDepth 20000 in
theorem gX12_ring_X12_walk : GoodIn wsX12_ring (wsV RX12 269 RX12 yX12_walk wsX12_walk) := goodIn_app (goodIn_of _ (by decide +kernel)) ggX12_ring_X12_walk
theorem dX12_ring_0 : decode cX12_ring 0 = .ok (.iload_n 2, 1) := by decide +kernel
theorem dX12_ring_1 : decode cX12_ring 1 = .ok (.invokestatic 100, 3) := by decide +kernel
theorem dX12_ring_4 : decode cX12_ring 4 = .ok (.ifCond .ne 5, 3) := by decide +kernel
theorem dX12_ring_7 : decode cX12_ring 7 = .ok (.iconst (-1), 1) := by decide +kernel
theorem dX12_ring_8 : decode cX12_ring 8 = .ok (.ireturn, 1) := by decide +kernel
theorem dX12_ring_9 : decode cX12_ring 9 = .ok (.aload_n 0, 1) := by decide +kernel
theorem dX12_ring_10 : decode cX12_ring 10 = .ok (.iload_n 1, 1) := by decide +kernel
theorem dX12_ring_11 : decode cX12_ring 11 = .ok (.invokevirtual 261, 3) := by decide +kernel
theorem dX12_ring_14 : decode cX12_ring 14 = .ok (.ifCond .eq 28, 3) := by decide +kernel
theorem dX12_ring_17 : decode cX12_ring 17 = .ok (.iload_n 3, 1) := by decide +kernel
theorem dX12_ring_18 : decode cX12_ring 18 = .ok (.i2l, 1) := by decide +kernel
theorem dX12_ring_19 : decode cX12_ring 19 = .ok (.lconst 0, 1) := by decide +kernel
theorem dX12_ring_20 : decode cX12_ring 20 = .ok (.ldc2_w 264, 3) := by decide +kernel
theorem dX12_ring_23 : decode cX12_ring 23 = .ok (.invokestatic 90, 3) := by decide +kernel
theorem dX12_ring_26 : decode cX12_ring 26 = .ok (.ifCond .eq 16, 3) := by decide +kernel
theorem dX12_ring_29 : decode cX12_ring 29 = .ok (.iload 4, 2) := by decide +kernel
theorem dX12_ring_31 : decode cX12_ring 31 = .ok (.i2l, 1) := by decide +kernel
theorem dX12_ring_32 : decode cX12_ring 32 = .ok (.lconst 0, 1) := by decide +kernel
theorem dX12_ring_33 : decode cX12_ring 33 = .ok (.ldc2_w 237, 3) := by decide +kernel
theorem dX12_ring_36 : decode cX12_ring 36 = .ok (.invokestatic 90, 3) := by decide +kernel
theorem dX12_ring_39 : decode cX12_ring 39 = .ok (.ifCond .ne 6, 3) := by decide +kernel
theorem dX12_ring_42 : decode cX12_ring 42 = .ok (.bipush (-2), 2) := by decide +kernel
theorem dX12_ring_44 : decode cX12_ring 44 = .ok (.ireturn, 1) := by decide +kernel
theorem dX12_ring_45 : decode cX12_ring 45 = .ok (.aload_n 0, 1) := by decide +kernel
theorem dX12_ring_46 : decode cX12_ring 46 = .ok (.iload_n 2, 1) := by decide +kernel
theorem dX12_ring_47 : decode cX12_ring 47 = .ok (.invokevirtual 266, 3) := by decide +kernel
theorem dX12_ring_50 : decode cX12_ring 50 = .ok (.istore 5, 2) := by decide +kernel
theorem dX12_ring_52 : decode cX12_ring 52 = .ok (.iload 5, 2) := by decide +kernel
theorem dX12_ring_54 : decode cX12_ring 54 = .ok (.iconst 1, 1) := by decide +kernel
theorem dX12_ring_55 : decode cX12_ring 55 = .ok (.iadd, 1) := by decide +kernel
theorem dX12_ring_56 : decode cX12_ring 56 = .ok (.aload_n 0, 1) := by decide +kernel
theorem dX12_ring_57 : decode cX12_ring 57 = .ok (.getfield 55, 3) := by decide +kernel
theorem dX12_ring_60 : decode cX12_ring 60 = .ok (.aload_n 0, 1) := by decide +kernel
theorem dX12_ring_61 : decode cX12_ring 61 = .ok (.iload_n 2, 1) := by decide +kernel
theorem dX12_ring_62 : decode cX12_ring 62 = .ok (.iload 5, 2) := by decide +kernel
theorem dX12_ring_64 : decode cX12_ring 64 = .ok (.invokevirtual 269, 3) := by decide +kernel
theorem dX12_ring_67 : decode cX12_ring 67 = .ok (.iaload, 1) := by decide +kernel
theorem dX12_ring_68 : decode cX12_ring 68 = .ok (.isub, 1) := by decide +kernel
theorem dX12_ring_69 : decode cX12_ring 69 = .ok (.istore 6, 2) := by decide +kernel
theorem dX12_ring_71 : decode cX12_ring 71 = .ok (.iload 5, 2) := by decide +kernel
theorem dX12_ring_73 : decode cX12_ring 73 = .ok (.iload 6, 2) := by decide +kernel
theorem dX12_ring_75 : decode cX12_ring 75 = .ok (.isub, 1) := by decide +kernel
theorem dX12_ring_76 : decode cX12_ring 76 = .ok (.istore 7, 2) := by decide +kernel
theorem dX12_ring_78 : decode cX12_ring 78 = .ok (.iload_n 3, 1) := by decide +kernel
theorem dX12_ring_79 : decode cX12_ring 79 = .ok (.iload 7, 2) := by decide +kernel
theorem dX12_ring_81 : decode cX12_ring 81 = .ok (.if_icmp .ge 7, 3) := by decide +kernel
theorem dX12_ring_84 : decode cX12_ring 84 = .ok (.iload_n 3, 1) := by decide +kernel
theorem dX12_ring_85 : decode cX12_ring 85 = .ok (.goto 13, 3) := by decide +kernel
theorem dX12_ring_88 : decode cX12_ring 88 = .ok (.iload 7, 2) := by decide +kernel
theorem dX12_ring_90 : decode cX12_ring 90 = .ok (.iload_n 3, 1) := by decide +kernel
theorem dX12_ring_91 : decode cX12_ring 91 = .ok (.iload 7, 2) := by decide +kernel
theorem dX12_ring_93 : decode cX12_ring 93 = .ok (.isub, 1) := by decide +kernel
theorem dX12_ring_94 : decode cX12_ring 94 = .ok (.iload 6, 2) := by decide +kernel
theorem dX12_ring_96 : decode cX12_ring 96 = .ok (.irem, 1) := by decide +kernel
theorem dX12_ring_97 : decode cX12_ring 97 = .ok (.iadd, 1) := by decide +kernel
theorem dX12_ring_98 : decode cX12_ring 98 = .ok (.istore 8, 2) := by decide +kernel
theorem dX12_ring_100 : decode cX12_ring 100 = .ok (.iload 4, 2) := by decide +kernel
theorem dX12_ring_102 : decode cX12_ring 102 = .ok (.ifCond .ne 13, 3) := by decide +kernel
theorem dX12_ring_105 : decode cX12_ring 105 = .ok (.aload_n 0, 1) := by decide +kernel
theorem dX12_ring_106 : decode cX12_ring 106 = .ok (.iload_n 2, 1) := by decide +kernel
theorem dX12_ring_107 : decode cX12_ring 107 = .ok (.iload 8, 2) := by decide +kernel
theorem dX12_ring_109 : decode cX12_ring 109 = .ok (.invokevirtual 269, 3) := by decide +kernel
theorem dX12_ring_112 : decode cX12_ring 112 = .ok (.goto 16, 3) := by decide +kernel
theorem dX12_ring_115 : decode cX12_ring 115 = .ok (.iload 4, 2) := by decide +kernel
theorem dX12_ring_117 : decode cX12_ring 117 = .ok (.iconst 1, 1) := by decide +kernel
theorem dX12_ring_118 : decode cX12_ring 118 = .ok (.if_icmp .ne 8, 3) := by decide +kernel
theorem dX12_ring_121 : decode cX12_ring 121 = .ok (.iload 5, 2) := by decide +kernel
theorem dX12_ring_123 : decode cX12_ring 123 = .ok (.goto 5, 3) := by decide +kernel
theorem dX12_ring_126 : decode cX12_ring 126 = .ok (.iload 6, 2) := by decide +kernel
theorem dX12_ring_128 : decode cX12_ring 128 = .ok (.ireturn, 1) := by decide +kernel
theorem dX12_readDigits_0 : decode cX12_readDigits 0 = .ok (.iload_n 1, 1) := by decide +kernel
theorem dX12_readDigits_1 : decode cX12_readDigits 1 = .ok (.istore_n 3, 1) := by decide +kernel
theorem dX12_readDigits_2 : decode cX12_readDigits 2 = .ok (.iload_n 2, 1) := by decide +kernel
theorem dX12_readDigits_3 : decode cX12_readDigits 3 = .ok (.iconst 1, 1) := by decide +kernel
theorem dX12_readDigits_4 : decode cX12_readDigits 4 = .ok (.isub, 1) := by decide +kernel
theorem dX12_readDigits_5 : decode cX12_readDigits 5 = .ok (.istore 4, 2) := by decide +kernel
theorem dX12_readDigits_7 : decode cX12_readDigits 7 = .ok (.iload 4, 2) := by decide +kernel
theorem dX12_readDigits_9 : decode cX12_readDigits 9 = .ok (.ifCond .lt 25, 3) := by decide +kernel
theorem dX12_readDigits_12 : decode cX12_readDigits 12 = .ok (.aload_n 0, 1) := by decide +kernel
theorem dX12_readDigits_13 : decode cX12_readDigits 13 = .ok (.getfield 58, 3) := by decide +kernel
theorem dX12_readDigits_16 : decode cX12_readDigits 16 = .ok (.iload 4, 2) := by decide +kernel
theorem dX12_readDigits_18 : decode cX12_readDigits 18 = .ok (.iload_n 3, 1) := by decide +kernel
theorem dX12_readDigits_19 : decode cX12_readDigits 19 = .ok (.bipush 10, 2) := by decide +kernel
theorem dX12_readDigits_21 : decode cX12_readDigits 21 = .ok (.irem, 1) := by decide +kernel
theorem dX12_readDigits_22 : decode cX12_readDigits 22 = .ok (.iastore, 1) := by decide +kernel
theorem dX12_readDigits_23 : decode cX12_readDigits 23 = .ok (.iload_n 3, 1) := by decide +kernel
theorem dX12_readDigits_24 : decode cX12_readDigits 24 = .ok (.bipush 10, 2) := by decide +kernel
theorem dX12_readDigits_26 : decode cX12_readDigits 26 = .ok (.idiv, 1) := by decide +kernel
theorem dX12_readDigits_27 : decode cX12_readDigits 27 = .ok (.istore_n 3, 1) := by decide +kernel
theorem dX12_readDigits_28 : decode cX12_readDigits 28 = .ok (.iinc 4 (-1), 3) := by decide +kernel
theorem dX12_readDigits_31 : decode cX12_readDigits 31 = .ok (.goto (-24), 3) := by decide +kernel
theorem dX12_readDigits_34 : decode cX12_readDigits 34 = .ok (.iload_n 3, 1) := by decide +kernel
theorem dX12_readDigits_35 : decode cX12_readDigits 35 = .ok (.ifCond .ne 7, 3) := by decide +kernel
theorem dX12_readDigits_38 : decode cX12_readDigits 38 = .ok (.iconst 1, 1) := by decide +kernel
theorem dX12_readDigits_39 : decode cX12_readDigits 39 = .ok (.goto 4, 3) := by decide +kernel
theorem dX12_readDigits_42 : decode cX12_readDigits 42 = .ok (.iconst 0, 1) := by decide +kernel
theorem dX12_readDigits_43 : decode cX12_readDigits 43 = .ok (.ireturn, 1) := by decide +kernel
set_option maxRecDepth 20000 in
theorem ggX12_isStop_X12_in : GoodIn wsX12_isStop wsX12_in := goodIn_r _ [6] (by decide +kernel) (by decide +kernel)
set_option maxRecDepth 20000 in
theorem gX12_isStop_X12_in : GoodIn wsX12_isStop (va_wsS RX12 90 yX12_in wsX12_in) := goodIn_app (goodIn_of _ (by decide +kernel)) ggX12_isStop_X12_in
set_option maxRecDepth 20000 in
theorem ggX12_isStop_X12_readDigits : GoodIn wsX12_isStop wsX12_readDigits := goodIn_r _ [10, 11, 12, 13, 14, 15, 16, 17, 18, 19, 20, 21, 22, 23, 24, 25, 26, 27, 28, 29, 30, 31, 32, 33, 34, 35, 36, 37, 38, 39, 40, 41, 42, 43, 44, 45, 46, 47, 48, 49] (by decide +kernel) (by decide +kernel)
set_option maxRecDepth 20000 in
theorem gX12_isStop_X12_readDigits : GoodIn wsX12_isStop (wsV RX12 274 RX12 yX12_readDigits wsX12_readDigits) := goodIn_app (goodIn_of _ (by decide +kernel)) ggX12_isStop_X12_readDigits
theorem dX12_isStop_0 : decode cX12_isStop 0 = .ok (.iload_n 2, 1) := by decide +kernel
theorem dX12_isStop_1 : decode cX12_isStop 1 = .ok (.i2l, 1) := by decide +kernel
theorem dX12_isStop_2 : decode cX12_isStop 2 = .ok (.lconst 1, 1) := by decide +kernel
theorem dX12_isStop_3 : decode cX12_isStop 3 = .ok (.ldc2_w 103, 3) := by decide +kernel
theorem dX12_isStop_6 : decode cX12_isStop 6 = .ok (.invokestatic 90, 3) := by decide +kernel
theorem dX12_isStop_9 : decode cX12_isStop 9 = .ok (.ifCond .eq 32, 3) := by decide +kernel
theorem dX12_isStop_12 : decode cX12_isStop 12 = .ok (.iload_n 1, 1) := by decide +kernel
theorem dX12_isStop_13 : decode cX12_isStop 13 = .ok (.ifCond .lt 28, 3) := by decide +kernel
theorem dX12_isStop_16 : decode cX12_isStop 16 = .ok (.iload_n 3, 1) := by decide +kernel
theorem dX12_isStop_17 : decode cX12_isStop 17 = .ok (.i2l, 1) := by decide +kernel
theorem dX12_isStop_18 : decode cX12_isStop 18 = .ok (.lconst 0, 1) := by decide +kernel
theorem dX12_isStop_19 : decode cX12_isStop 19 = .ok (.ldc2_w 272, 3) := by decide +kernel
theorem dX12_isStop_22 : decode cX12_isStop 22 = .ok (.invokestatic 90, 3) := by decide +kernel
theorem dX12_isStop_25 : decode cX12_isStop 25 = .ok (.ifCond .eq 16, 3) := by decide +kernel
theorem dX12_isStop_28 : decode cX12_isStop 28 = .ok (.aload_n 0, 1) := by decide +kernel
theorem dX12_isStop_29 : decode cX12_isStop 29 = .ok (.iload_n 1, 1) := by decide +kernel
theorem dX12_isStop_30 : decode cX12_isStop 30 = .ok (.iload_n 2, 1) := by decide +kernel
theorem dX12_isStop_31 : decode cX12_isStop 31 = .ok (.invokevirtual 274, 3) := by decide +kernel
theorem dX12_isStop_34 : decode cX12_isStop 34 = .ok (.ifCond .eq 7, 3) := by decide +kernel
theorem dX12_isStop_37 : decode cX12_isStop 37 = .ok (.iconst 1, 1) := by decide +kernel
theorem dX12_isStop_38 : decode cX12_isStop 38 = .ok (.goto 4, 3) := by decide +kernel
theorem dX12_isStop_41 : decode cX12_isStop 41 = .ok (.iconst 0, 1) := by decide +kernel
theorem dX12_isStop_42 : decode cX12_isStop 42 = .ok (.ireturn, 1) := by decide +kernel
theorem dX12_power_0 : decode cX12_power 0 = .ok (.lconst 1, 1) := by decide +kernel
theorem dX12_power_1 : decode cX12_power 1 = .ok (.lstore_n 3, 1) := by decide +kernel
theorem dX12_power_2 : decode cX12_power 2 = .ok (.iconst 0, 1) := by decide +kernel
theorem dX12_power_3 : decode cX12_power 3 = .ok (.istore 5, 2) := by decide +kernel
theorem dX12_power_5 : decode cX12_power 5 = .ok (.iload 5, 2) := by decide +kernel
theorem dX12_power_7 : decode cX12_power 7 = .ok (.iload_n 2, 1) := by decide +kernel
theorem dX12_power_8 : decode cX12_power 8 = .ok (.if_icmp .ge 13, 3) := by decide +kernel
theorem dX12_power_11 : decode cX12_power 11 = .ok (.lload_n 3, 1) := by decide +kernel
theorem dX12_power_12 : decode cX12_power 12 = .ok (.lload_n 0, 1) := by decide +kernel
theorem dX12_power_13 : decode cX12_power 13 = .ok (.lmul, 1) := by decide +kernel
theorem dX12_power_14 : decode cX12_power 14 = .ok (.lstore_n 3, 1) := by decide +kernel
theorem dX12_power_15 : decode cX12_power 15 = .ok (.iinc 5 1, 3) := by decide +kernel
theorem dX12_power_18 : decode cX12_power 18 = .ok (.goto (-13), 3) := by decide +kernel
theorem dX12_power_21 : decode cX12_power 21 = .ok (.lload_n 3, 1) := by decide +kernel
theorem dX12_power_22 : decode cX12_power 22 = .ok (.lreturn, 1) := by decide +kernel
set_option maxRecDepth 20000 in
theorem ggX12_meanOf_X12_power : GoodIn wsX12_meanOf wsX12_power := goodIn_r _ [6] (by decide +kernel) (by decide +kernel)
set_option maxRecDepth 20000 in
theorem gX12_meanOf_X12_power : GoodIn wsX12_meanOf (va_wsS RX12 277 yX12_power wsX12_power) := goodIn_app (goodIn_of _ (by decide +kernel)) ggX12_meanOf_X12_power
theorem dX12_meanOf_0 : decode cX12_meanOf 0 = .ok (.aload_n 0, 1) := by decide +kernel
theorem dX12_meanOf_1 : decode cX12_meanOf 1 = .ok (.getfield 58, 3) := by decide +kernel
theorem dX12_meanOf_4 : decode cX12_meanOf 4 = .ok (.iload_n 1, 1) := by decide +kernel
theorem dX12_meanOf_5 : decode cX12_meanOf 5 = .ok (.iaload, 1) := by decide +kernel
theorem dX12_meanOf_6 : decode cX12_meanOf 6 = .ok (.i2l, 1) := by decide +kernel
theorem dX12_meanOf_7 : decode cX12_meanOf 7 = .ok (.ldc2_w 272, 3) := by decide +kernel
theorem dX12_meanOf_10 : decode cX12_meanOf 10 = .ok (.iload_n 3, 1) := by decide +kernel
theorem dX12_meanOf_11 : decode cX12_meanOf 11 = .ok (.i2l, 1) := by decide +kernel
theorem dX12_meanOf_12 : decode cX12_meanOf 12 = .ok (.lsub, 1) := by decide +kernel
theorem dX12_meanOf_13 : decode cX12_meanOf 13 = .ok (.iload_n 1, 1) := by decide +kernel
theorem dX12_meanOf_14 : decode cX12_meanOf 14 = .ok (.invokestatic 277, 3) := by decide +kernel
theorem dX12_meanOf_17 : decode cX12_meanOf 17 = .ok (.lmul, 1) := by decide +kernel
theorem dX12_meanOf_18 : decode cX12_meanOf 18 = .ok (.ldc2_w 272, 3) := by decide +kernel
theorem dX12_meanOf_21 : decode cX12_meanOf 21 = .ok (.iload_n 2, 1) := by decide +kernel
theorem dX12_meanOf_22 : decode cX12_meanOf 22 = .ok (.iload_n 1, 1) := by decide +kernel
theorem dX12_meanOf_23 : decode cX12_meanOf 23 = .ok (.isub, 1) := by decide +kernel
theorem dX12_meanOf_24 : decode cX12_meanOf 24 = .ok (.invokestatic 277, 3) := by decide +kernel
theorem dX12_meanOf_27 : decode cX12_meanOf 27 = .ok (.lmul, 1) := by decide +kernel
theorem dX12_meanOf_28 : decode cX12_meanOf 28 = .ok (.lreturn, 1) := by decide +kernel
set_option maxRecDepth 20000 in
theorem ggX12_bestOf_X12_meanOf : GoodIn wsX12_bestOf wsX12_meanOf := goodIn_r _ [5, 6, 7, 8, 9, 4, 10, 11, 12, 13, 14, 15, 16, 17, 18, 19, 20, 21, 22, 23, 24, 25, 26, 27, 28, 29, 30, 31, 32, 33, 34, 35, 36, 37, 38, 39, 40, 41, 42, 43, 44, 45, 46, 47, 48] (by decide +kernel) (by decide +kernel)
set_option maxRecDepth 20000 in
theorem gX12_bestOf_X12_meanOf : GoodIn wsX12_bestOf (wsV RX12 281 RX12 yX12_meanOf wsX12_meanOf) := goodIn_app (goodIn_of _ (by decide +kernel)) ggX12_bestOf_X12_meanOf
theorem dX12_bestOf_0 : decode cX12_bestOf 0 = .ok (.iconst 0, 1) := by decide +kernel
theorem dX12_bestOf_1 : decode cX12_bestOf 1 = .ok (.istore_n 3, 1) := by decide +kernel
theorem dX12_bestOf_2 : decode cX12_bestOf 2 = .ok (.iconst 1, 1) := by decide +kernel
theorem dX12_bestOf_3 : decode cX12_bestOf 3 = .ok (.istore 4, 2) := by decide +kernel
theorem dX12_bestOf_5 : decode cX12_bestOf 5 = .ok (.iload 4, 2) := by decide +kernel
theorem dX12_bestOf_7 : decode cX12_bestOf 7 = .ok (.iload_n 1, 1) := by decide +kernel
theorem dX12_bestOf_8 : decode cX12_bestOf 8 = .ok (.if_icmp .ge 35, 3) := by decide +kernel
theorem dX12_bestOf_11 : decode cX12_bestOf 11 = .ok (.aload_n 0, 1) := by decide +kernel
theorem dX12_bestOf_12 : decode cX12_bestOf 12 = .ok (.iload 4, 2) := by decide +kernel
theorem dX12_bestOf_14 : decode cX12_bestOf 14 = .ok (.iload_n 1, 1) := by decide +kernel
theorem dX12_bestOf_15 : decode cX12_bestOf 15 = .ok (.iload_n 2, 1) := by decide +kernel
theorem dX12_bestOf_16 : decode cX12_bestOf 16 = .ok (.invokevirtual 281, 3) := by decide +kernel
theorem dX12_bestOf_19 : decode cX12_bestOf 19 = .ok (.aload_n 0, 1) := by decide +kernel
theorem dX12_bestOf_20 : decode cX12_bestOf 20 = .ok (.iload_n 3, 1) := by decide +kernel
theorem dX12_bestOf_21 : decode cX12_bestOf 21 = .ok (.iload_n 1, 1) := by decide +kernel
theorem dX12_bestOf_22 : decode cX12_bestOf 22 = .ok (.iload_n 2, 1) := by decide +kernel
theorem dX12_bestOf_23 : decode cX12_bestOf 23 = .ok (.invokevirtual 281, 3) := by decide +kernel
theorem dX12_bestOf_26 : decode cX12_bestOf 26 = .ok (.lcmp, 1) := by decide +kernel
theorem dX12_bestOf_27 : decode cX12_bestOf 27 = .ok (.ifCond .le 8, 3) := by decide +kernel
theorem dX12_bestOf_30 : decode cX12_bestOf 30 = .ok (.iload 4, 2) := by decide +kernel
theorem dX12_bestOf_32 : decode cX12_bestOf 32 = .ok (.goto 4, 3) := by decide +kernel
theorem dX12_bestOf_35 : decode cX12_bestOf 35 = .ok (.iload_n 3, 1) := by decide +kernel
theorem dX12_bestOf_36 : decode cX12_bestOf 36 = .ok (.istore_n 3, 1) := by decide +kernel
theorem dX12_bestOf_37 : decode cX12_bestOf 37 = .ok (.iinc 4 1, 3) := by decide +kernel
theorem dX12_bestOf_40 : decode cX12_bestOf 40 = .ok (.goto (-35), 3) := by decide +kernel
theorem dX12_bestOf_43 : decode cX12_bestOf 43 = .ok (.iload_n 3, 1) := by decide +kernel
theorem dX12_bestOf_44 : decode cX12_bestOf 44 = .ok (.ireturn, 1) := by decide +kernel
theorem dX12_lowest_0 : decode cX12_lowest 0 = .ok (.lload_n 2, 1) := by decide +kernel
theorem dX12_lowest_1 : decode cX12_lowest 1 = .ok (.lstore 5, 2) := by decide +kernel
theorem dX12_lowest_3 : decode cX12_lowest 3 = .ok (.lload_n 0, 1) := by decide +kernel
theorem dX12_lowest_4 : decode cX12_lowest 4 = .ok (.lstore 7, 2) := by decide +kernel
theorem dX12_lowest_6 : decode cX12_lowest 6 = .ok (.lload 7, 2) := by decide +kernel
theorem dX12_lowest_8 : decode cX12_lowest 8 = .ok (.lconst 0, 1) := by decide +kernel
theorem dX12_lowest_9 : decode cX12_lowest 9 = .ok (.lcmp, 1) := by decide +kernel
theorem dX12_lowest_10 : decode cX12_lowest 10 = .ok (.ifCond .eq 21, 3) := by decide +kernel
theorem dX12_lowest_13 : decode cX12_lowest 13 = .ok (.lload 5, 2) := by decide +kernel
theorem dX12_lowest_15 : decode cX12_lowest 15 = .ok (.lload 7, 2) := by decide +kernel
theorem dX12_lowest_17 : decode cX12_lowest 17 = .ok (.lrem, 1) := by decide +kernel
theorem dX12_lowest_18 : decode cX12_lowest 18 = .ok (.lstore 9, 2) := by decide +kernel
theorem dX12_lowest_20 : decode cX12_lowest 20 = .ok (.lload 7, 2) := by decide +kernel
theorem dX12_lowest_22 : decode cX12_lowest 22 = .ok (.lstore 5, 2) := by decide +kernel
theorem dX12_lowest_24 : decode cX12_lowest 24 = .ok (.lload 9, 2) := by decide +kernel
theorem dX12_lowest_26 : decode cX12_lowest 26 = .ok (.lstore 7, 2) := by decide +kernel
theorem dX12_lowest_28 : decode cX12_lowest 28 = .ok (.goto (-22), 3) := by decide +kernel
theorem dX12_lowest_31 : decode cX12_lowest 31 = .ok (.iload 4, 2) := by decide +kernel
theorem dX12_lowest_33 : decode cX12_lowest 33 = .ok (.ifCond .ne 10, 3) := by decide +kernel
theorem dX12_lowest_36 : decode cX12_lowest 36 = .ok (.lload_n 0, 1) := by decide +kernel
theorem dX12_lowest_37 : decode cX12_lowest 37 = .ok (.lload 5, 2) := by decide +kernel
theorem dX12_lowest_39 : decode cX12_lowest 39 = .ok (.ldiv, 1) := by decide +kernel
theorem dX12_lowest_40 : decode cX12_lowest 40 = .ok (.goto 7, 3) := by decide +kernel
theorem dX12_lowest_43 : decode cX12_lowest 43 = .ok (.lload_n 2, 1) := by decide +kernel
theorem dX12_lowest_44 : decode cX12_lowest 44 = .ok (.lload 5, 2) := by decide +kernel
theorem dX12_lowest_46 : decode cX12_lowest 46 = .ok (.ldiv, 1) := by decide +kernel
theorem dX12_lowest_47 : decode cX12_lowest 47 = .ok (.lreturn, 1) := by decide +kernel
set_option maxRecDepth 20000 in
theorem ggX12_stop_X12_isStop : GoodIn wsX12_stop wsX12_isStop := goodIn_r _ [7, 8, 2, 9, 10, 6, 11, 12, 13, 14, 15, 16, 31, 32, 33, 34, 35, 36, 37, 38, 39, 40, 41, 42, 43, 44, 45, 46, 47, 48, 49, 50, 51, 52, 53, 54, 55, 56, 57, 58, 59, 60, 61, 62, 63, 64, 65, 66, 67, 68] (by decide +kernel) (by decide +kernel)
set_option maxRecDepth 20000 in
theorem gX12_stop_X12_isStop : GoodIn wsX12_stop (wsV RX12 285 RX12 yX12_isStop wsX12_isStop) := goodIn_app (goodIn_of _ (by decide +kernel)) ggX12_stop_X12_isStop
set_option maxRecDepth 20000 in
theorem ggX12_stop_X12_in : GoodIn wsX12_stop wsX12_in := goodIn_r _ [11] (by decide +kernel) (by decide +kernel)
set_option maxRecDepth 20000 in
theorem gX12_stop_X12_in : GoodIn wsX12_stop (va_wsS RX12 90 yX12_in wsX12_in) := goodIn_app (goodIn_of _ (by decide +kernel)) ggX12_stop_X12_in
set_option maxRecDepth 20000 in
theorem ggX12_stop_X12_bestOf : GoodIn wsX12_stop wsX12_bestOf := goodIn_r _ [20, 21, 22, 23, 6, 24, 16, 2, 25, 26, 27, 31, 32, 33, 34, 35, 36, 37, 38, 39, 40, 41, 42, 43, 44, 45, 46, 47, 48, 49, 50, 51, 52, 53, 54, 55, 56, 57, 58, 59, 60, 61, 62, 63, 64, 65, 66, 67, 68] (by decide +kernel) (by decide +kernel)
set_option maxRecDepth 20000 in
theorem gX12_stop_X12_bestOf : GoodIn wsX12_stop (wsV RX12 291 RX12 yX12_bestOf wsX12_bestOf) := goodIn_app (goodIn_of _ (by decide +kernel)) ggX12_stop_X12_bestOf
set_option maxRecDepth 20000 in
theorem ggX12_stop_X12_meanOf : GoodIn wsX12_stop wsX12_meanOf := goodIn_r _ [24, 16, 2, 25, 26, 6, 27, 31, 32, 33, 34, 35, 36, 37, 38, 39, 40, 41, 42, 43, 44, 45, 46, 47, 48, 49, 50, 51, 52, 53, 54, 55, 56, 57, 58, 59, 60, 61, 62, 63, 64, 65, 66, 67, 68] (by decide +kernel) (by decide +kernel)
set_option maxRecDepth 20000 in
theorem gX12_stop_X12_meanOf : GoodIn wsX12_stop (wsV RX12 281 RX12 yX12_meanOf wsX12_meanOf) := goodIn_app (goodIn_of _ (by decide +kernel)) ggX12_stop_X12_meanOf
set_option maxRecDepth 20000 in
theorem ggX12_stop_X12_power : GoodIn wsX12_stop wsX12_power := goodIn_r _ [27] (by decide +kernel) (by decide +kernel)
set_option maxRecDepth 20000 in
theorem gX12_stop_X12_power : GoodIn wsX12_stop (va_wsS RX12 277 yX12_power wsX12_power) := goodIn_app (goodIn_of _ (by decide +kernel)) ggX12_stop_X12_power
set_option maxRecDepth 20000 in
theorem ggX12_stop_X12_lowest : GoodIn wsX12_stop wsX12_lowest := goodIn_r _ [30] (by decide +kernel) (by decide +kernel)
set_option maxRecDepth 20000 in
theorem gX12_stop_X12_lowest : GoodIn wsX12_stop (va_wsS RX12 294 yX12_lowest wsX12_lowest) := goodIn_app (goodIn_of _ (by decide +kernel)) ggX12_stop_X12_lowest
theorem dX12_stop_0 : decode cX12_stop 0 = .ok (.aload_n 0, 1) := by decide +kernel
theorem dX12_stop_1 : decode cX12_stop 1 = .ok (.iload_n 1, 1) := by decide +kernel
theorem dX12_stop_2 : decode cX12_stop 2 = .ok (.iload_n 2, 1) := by decide +kernel
theorem dX12_stop_3 : decode cX12_stop 3 = .ok (.iload_n 3, 1) := by decide +kernel
theorem dX12_stop_4 : decode cX12_stop 4 = .ok (.invokevirtual 285, 3) := by decide +kernel
theorem dX12_stop_7 : decode cX12_stop 7 = .ok (.ifCond .eq 14, 3) := by decide +kernel
theorem dX12_stop_10 : decode cX12_stop 10 = .ok (.iload 4, 2) := by decide +kernel
theorem dX12_stop_12 : decode cX12_stop 12 = .ok (.i2l, 1) := by decide +kernel
theorem dX12_stop_13 : decode cX12_stop 13 = .ok (.lconst 0, 1) := by decide +kernel
theorem dX12_stop_14 : decode cX12_stop 14 = .ok (.lconst 1, 1) := by decide +kernel
theorem dX12_stop_15 : decode cX12_stop 15 = .ok (.invokestatic 90, 3) := by decide +kernel
theorem dX12_stop_18 : decode cX12_stop 18 = .ok (.ifCond .ne 7, 3) := by decide +kernel
theorem dX12_stop_21 : decode cX12_stop 21 = .ok (.ldc2_w 289, 3) := by decide +kernel
theorem dX12_stop_24 : decode cX12_stop 24 = .ok (.lreturn, 1) := by decide +kernel
theorem dX12_stop_25 : decode cX12_stop 25 = .ok (.aload_n 0, 1) := by decide +kernel
