theorem dX12_stop_26 : decode cX12_stop 26 = .ok (.aload_n 0, 1) := by decide +kernel
theorem dX12_stop_27 : decode cX12_stop 27 = .ok (.iload_n 2, 1) := by decide +kernel
theorem dX12_stop_28 : decode cX12_stop 28 = .ok (.iload_n 3, 1) := by decide +kernel
theorem dX12_stop_29 : decode cX12_stop 29 = .ok (.invokevirtual 291, 3) := by decide +kernel
theorem dX12_stop_32 : decode cX12_stop 32 = .ok (.iload_n 2, 1) := by decide +kernel
theorem dX12_stop_33 : decode cX12_stop 33 = .ok (.iload_n 3, 1) := by decide +kernel
theorem dX12_stop_34 : decode cX12_stop 34 = .ok (.invokevirtual 281, 3) := by decide +kernel
theorem dX12_stop_37 : decode cX12_stop 37 = .ok (.ldc2_w 272, 3) := by decide +kernel
theorem dX12_stop_40 : decode cX12_stop 40 = .ok (.iload_n 2, 1) := by decide +kernel
theorem dX12_stop_41 : decode cX12_stop 41 = .ok (.invokestatic 277, 3) := by decide +kernel
theorem dX12_stop_44 : decode cX12_stop 44 = .ok (.iload 4, 2) := by decide +kernel
theorem dX12_stop_46 : decode cX12_stop 46 = .ok (.invokestatic 294, 3) := by decide +kernel
theorem dX12_stop_49 : decode cX12_stop 49 = .ok (.lreturn, 1) := by decide +kernel
set_option maxRecDepth 20000 in
theorem ggX12_sells_X12_isStop : GoodIn wsX12_sells wsX12_isStop := goodIn_r _ [5, 6, 7, 8, 9, 4, 10, 11, 12, 13, 14, 15, 27, 28, 29, 30, 31, 32, 33, 34, 35, 36, 37, 38, 39, 40, 41, 42, 43, 44, 45, 46, 47, 48, 49, 50, 51, 52, 53, 54, 55, 56, 57, 58, 59, 60, 61, 62, 63, 64] (by decide +kernel) (by decide +kernel)
set_option maxRecDepth 20000 in
theorem gX12_sells_X12_isStop : GoodIn wsX12_sells (wsV RX12 285 RX12 yX12_isStop wsX12_isStop) := goodIn_app (goodIn_of _ (by decide +kernel)) ggX12_sells_X12_isStop
set_option maxRecDepth 20000 in
theorem ggX12_sells_X12_bestOf : GoodIn wsX12_sells wsX12_bestOf := goodIn_r _ [19, 20, 21, 22, 4, 23, 15, 7, 24, 25, 26, 27, 28, 29, 30, 31, 32, 33, 34, 35, 36, 37, 38, 39, 40, 41, 42, 43, 44, 45, 46, 47, 48, 49, 50, 51, 52, 53, 54, 55, 56, 57, 58, 59, 60, 61, 62, 63, 64] (by decide +kernel) (by decide +kernel)
set_option maxRecDepth 20000 in
theorem gX12_sells_X12_bestOf : GoodIn wsX12_sells (wsV RX12 291 RX12 yX12_bestOf wsX12_bestOf) := goodIn_app (goodIn_of _ (by decide +kernel)) ggX12_sells_X12_bestOf
theorem dX12_sells_0 : decode cX12_sells 0 = .ok (.aload_n 0, 1) := by decide +kernel
theorem dX12_sells_1 : decode cX12_sells 1 = .ok (.iload_n 1, 1) := by decide +kernel
theorem dX12_sells_2 : decode cX12_sells 2 = .ok (.iload_n 2, 1) := by decide +kernel
theorem dX12_sells_3 : decode cX12_sells 3 = .ok (.iload_n 3, 1) := by decide +kernel
theorem dX12_sells_4 : decode cX12_sells 4 = .ok (.invokevirtual 285, 3) := by decide +kernel
theorem dX12_sells_7 : decode cX12_sells 7 = .ok (.ifCond .eq 12, 3) := by decide +kernel
theorem dX12_sells_10 : decode cX12_sells 10 = .ok (.aload_n 0, 1) := by decide +kernel
theorem dX12_sells_11 : decode cX12_sells 11 = .ok (.iload_n 2, 1) := by decide +kernel
theorem dX12_sells_12 : decode cX12_sells 12 = .ok (.iload_n 3, 1) := by decide +kernel
theorem dX12_sells_13 : decode cX12_sells 13 = .ok (.invokevirtual 291, 3) := by decide +kernel
theorem dX12_sells_16 : decode cX12_sells 16 = .ok (.goto 5, 3) := by decide +kernel
theorem dX12_sells_19 : decode cX12_sells 19 = .ok (.bipush (-2), 2) := by decide +kernel
theorem dX12_sells_21 : decode cX12_sells 21 = .ok (.ireturn, 1) := by decide +kernel
set_option maxRecDepth 20000 in
theorem ggX12_ahead_X12_in : GoodIn wsX12_ahead wsX12_in := goodIn_r _ [8] (by decide +kernel) (by decide +kernel)
set_option maxRecDepth 20000 in
theorem gX12_ahead_X12_in : GoodIn wsX12_ahead (va_wsS RX12 90 yX12_in wsX12_in) := goodIn_app (goodIn_of _ (by decide +kernel)) ggX12_ahead_X12_in
theorem dX12_ahead_0 : decode cX12_ahead 0 = .ok (.iload_n 1, 1) := by decide +kernel
theorem dX12_ahead_1 : decode cX12_ahead 1 = .ok (.i2l, 1) := by decide +kernel
theorem dX12_ahead_2 : decode cX12_ahead 2 = .ok (.lconst 0, 1) := by decide +kernel
theorem dX12_ahead_3 : decode cX12_ahead 3 = .ok (.ldc2_w 298, 3) := by decide +kernel
theorem dX12_ahead_6 : decode cX12_ahead 6 = .ok (.invokestatic 90, 3) := by decide +kernel
theorem dX12_ahead_9 : decode cX12_ahead 9 = .ok (.ifCond .eq 20, 3) := by decide +kernel
theorem dX12_ahead_12 : decode cX12_ahead 12 = .ok (.iload_n 2, 1) := by decide +kernel
theorem dX12_ahead_13 : decode cX12_ahead 13 = .ok (.i2l, 1) := by decide +kernel
theorem dX12_ahead_14 : decode cX12_ahead 14 = .ok (.lconst 0, 1) := by decide +kernel
theorem dX12_ahead_15 : decode cX12_ahead 15 = .ok (.ldc2_w 298, 3) := by decide +kernel
theorem dX12_ahead_18 : decode cX12_ahead 18 = .ok (.invokestatic 90, 3) := by decide +kernel
theorem dX12_ahead_21 : decode cX12_ahead 21 = .ok (.ifCond .eq 8, 3) := by decide +kernel
theorem dX12_ahead_24 : decode cX12_ahead 24 = .ok (.iload_n 1, 1) := by decide +kernel
theorem dX12_ahead_25 : decode cX12_ahead 25 = .ok (.iload_n 2, 1) := by decide +kernel
theorem dX12_ahead_26 : decode cX12_ahead 26 = .ok (.if_icmp .ne 6, 3) := by decide +kernel
theorem dX12_ahead_29 : decode cX12_ahead 29 = .ok (.bipush (-2), 2) := by decide +kernel
theorem dX12_ahead_31 : decode cX12_ahead 31 = .ok (.ireturn, 1) := by decide +kernel
theorem dX12_ahead_32 : decode cX12_ahead 32 = .ok (.aload_n 0, 1) := by decide +kernel
theorem dX12_ahead_33 : decode cX12_ahead 33 = .ok (.getfield 300, 3) := by decide +kernel
theorem dX12_ahead_36 : decode cX12_ahead 36 = .ok (.bipush 8, 2) := by decide +kernel
theorem dX12_ahead_38 : decode cX12_ahead 38 = .ok (.if_icmp .ne 6, 3) := by decide +kernel
theorem dX12_ahead_41 : decode cX12_ahead 41 = .ok (.bipush (-4), 2) := by decide +kernel
theorem dX12_ahead_43 : decode cX12_ahead 43 = .ok (.ireturn, 1) := by decide +kernel
theorem dX12_ahead_44 : decode cX12_ahead 44 = .ok (.aload_n 0, 1) := by decide +kernel
theorem dX12_ahead_45 : decode cX12_ahead 45 = .ok (.getfield 28, 3) := by decide +kernel
theorem dX12_ahead_48 : decode cX12_ahead 48 = .ok (.aload_n 0, 1) := by decide +kernel
theorem dX12_ahead_49 : decode cX12_ahead 49 = .ok (.getfield 300, 3) := by decide +kernel
theorem dX12_ahead_52 : decode cX12_ahead 52 = .ok (.iload_n 1, 1) := by decide +kernel
theorem dX12_ahead_53 : decode cX12_ahead 53 = .ok (.iastore, 1) := by decide +kernel
theorem dX12_ahead_54 : decode cX12_ahead 54 = .ok (.aload_n 0, 1) := by decide +kernel
theorem dX12_ahead_55 : decode cX12_ahead 55 = .ok (.getfield 31, 3) := by decide +kernel
theorem dX12_ahead_58 : decode cX12_ahead 58 = .ok (.aload_n 0, 1) := by decide +kernel
theorem dX12_ahead_59 : decode cX12_ahead 59 = .ok (.getfield 300, 3) := by decide +kernel
theorem dX12_ahead_62 : decode cX12_ahead 62 = .ok (.iload_n 2, 1) := by decide +kernel
theorem dX12_ahead_63 : decode cX12_ahead 63 = .ok (.iastore, 1) := by decide +kernel
theorem dX12_ahead_64 : decode cX12_ahead 64 = .ok (.aload_n 0, 1) := by decide +kernel
theorem dX12_ahead_65 : decode cX12_ahead 65 = .ok (.dup, 1) := by decide +kernel
theorem dX12_ahead_66 : decode cX12_ahead 66 = .ok (.getfield 300, 3) := by decide +kernel
theorem dX12_ahead_69 : decode cX12_ahead 69 = .ok (.iconst 1, 1) := by decide +kernel
theorem dX12_ahead_70 : decode cX12_ahead 70 = .ok (.iadd, 1) := by decide +kernel
theorem dX12_ahead_71 : decode cX12_ahead 71 = .ok (.putfield 300, 3) := by decide +kernel
theorem dX12_ahead_74 : decode cX12_ahead 74 = .ok (.aload_n 0, 1) := by decide +kernel
theorem dX12_ahead_75 : decode cX12_ahead 75 = .ok (.getfield 300, 3) := by decide +kernel
theorem dX12_ahead_78 : decode cX12_ahead 78 = .ok (.ireturn, 1) := by decide +kernel
theorem dX12_forget_0 : decode cX12_forget 0 = .ok (.aload_n 0, 1) := by decide +kernel
theorem dX12_forget_1 : decode cX12_forget 1 = .ok (.getfield 300, 3) := by decide +kernel
theorem dX12_forget_4 : decode cX12_forget 4 = .ok (.istore_n 1, 1) := by decide +kernel
theorem dX12_forget_5 : decode cX12_forget 5 = .ok (.aload_n 0, 1) := by decide +kernel
theorem dX12_forget_6 : decode cX12_forget 6 = .ok (.iconst 0, 1) := by decide +kernel
theorem dX12_forget_7 : decode cX12_forget 7 = .ok (.putfield 300, 3) := by decide +kernel
theorem dX12_forget_10 : decode cX12_forget 10 = .ok (.iload_n 1, 1) := by decide +kernel
theorem dX12_forget_11 : decode cX12_forget 11 = .ok (.ireturn, 1) := by decide +kernel
theorem dX12_readRow_0 : decode cX12_readRow 0 = .ok (.iload_n 1, 1) := by decide +kernel
theorem dX12_readRow_1 : decode cX12_readRow 1 = .ok (.istore_n 2, 1) := by decide +kernel
theorem dX12_readRow_2 : decode cX12_readRow 2 = .ok (.iconst 0, 1) := by decide +kernel
theorem dX12_readRow_3 : decode cX12_readRow 3 = .ok (.istore_n 3, 1) := by decide +kernel
theorem dX12_readRow_4 : decode cX12_readRow 4 = .ok (.iconst 4, 1) := by decide +kernel
theorem dX12_readRow_5 : decode cX12_readRow 5 = .ok (.istore 4, 2) := by decide +kernel
theorem dX12_readRow_7 : decode cX12_readRow 7 = .ok (.iload 4, 2) := by decide +kernel
theorem dX12_readRow_9 : decode cX12_readRow 9 = .ok (.ifCond .lt 34, 3) := by decide +kernel
theorem dX12_readRow_12 : decode cX12_readRow 12 = .ok (.aload_n 0, 1) := by decide +kernel
theorem dX12_readRow_13 : decode cX12_readRow 13 = .ok (.getfield 61, 3) := by decide +kernel
theorem dX12_readRow_16 : decode cX12_readRow 16 = .ok (.iload_n 2, 1) := by decide +kernel
theorem dX12_readRow_17 : decode cX12_readRow 17 = .ok (.bipush 10, 2) := by decide +kernel
theorem dX12_readRow_19 : decode cX12_readRow 19 = .ok (.irem, 1) := by decide +kernel
theorem dX12_readRow_20 : decode cX12_readRow 20 = .ok (.iload 4, 2) := by decide +kernel
theorem dX12_readRow_22 : decode cX12_readRow 22 = .ok (.iastore, 1) := by decide +kernel
theorem dX12_readRow_23 : decode cX12_readRow 23 = .ok (.iload_n 3, 1) := by decide +kernel
theorem dX12_readRow_24 : decode cX12_readRow 24 = .ok (.iconst 1, 1) := by decide +kernel
theorem dX12_readRow_25 : decode cX12_readRow 25 = .ok (.iload_n 2, 1) := by decide +kernel
theorem dX12_readRow_26 : decode cX12_readRow 26 = .ok (.bipush 10, 2) := by decide +kernel
theorem dX12_readRow_28 : decode cX12_readRow 28 = .ok (.irem, 1) := by decide +kernel
theorem dX12_readRow_29 : decode cX12_readRow 29 = .ok (.ishl, 1) := by decide +kernel
theorem dX12_readRow_30 : decode cX12_readRow 30 = .ok (.ior, 1) := by decide +kernel
theorem dX12_readRow_31 : decode cX12_readRow 31 = .ok (.istore_n 3, 1) := by decide +kernel
theorem dX12_readRow_32 : decode cX12_readRow 32 = .ok (.iload_n 2, 1) := by decide +kernel
theorem dX12_readRow_33 : decode cX12_readRow 33 = .ok (.bipush 10, 2) := by decide +kernel
theorem dX12_readRow_35 : decode cX12_readRow 35 = .ok (.idiv, 1) := by decide +kernel
theorem dX12_readRow_36 : decode cX12_readRow 36 = .ok (.istore_n 2, 1) := by decide +kernel
theorem dX12_readRow_37 : decode cX12_readRow 37 = .ok (.iinc 4 (-1), 3) := by decide +kernel
theorem dX12_readRow_40 : decode cX12_readRow 40 = .ok (.goto (-33), 3) := by decide +kernel
theorem dX12_readRow_43 : decode cX12_readRow 43 = .ok (.iload_n 3, 1) := by decide +kernel
theorem dX12_readRow_44 : decode cX12_readRow 44 = .ok (.bipush 31, 2) := by decide +kernel
theorem dX12_readRow_46 : decode cX12_readRow 46 = .ok (.if_icmp .ne 7, 3) := by decide +kernel
theorem dX12_readRow_49 : decode cX12_readRow 49 = .ok (.iconst 1, 1) := by decide +kernel
theorem dX12_readRow_50 : decode cX12_readRow 50 = .ok (.goto 4, 3) := by decide +kernel
theorem dX12_readRow_53 : decode cX12_readRow 53 = .ok (.iconst 0, 1) := by decide +kernel
theorem dX12_readRow_54 : decode cX12_readRow 54 = .ok (.ireturn, 1) := by decide +kernel
set_option maxRecDepth 20000 in
theorem ggX12_isFit_X12_readRow : GoodIn wsX12_isFit wsX12_readRow := goodIn_r _ [9, 2, 10, 11, 12, 13, 14, 15, 16, 17, 18, 19, 20, 21, 22, 23, 24, 25, 26, 27, 28, 29, 30, 31, 32, 33, 34, 35, 36, 37, 38, 39, 40, 41, 42, 43, 44, 45, 46, 47] (by decide +kernel) (by decide +kernel)
set_option maxRecDepth 20000 in
theorem gX12_isFit_X12_readRow : GoodIn wsX12_isFit (wsV RX12 303 RX12 yX12_readRow wsX12_readRow) := goodIn_app (goodIn_of _ (by decide +kernel)) ggX12_isFit_X12_readRow
theorem dX12_isFit_0 : decode cX12_isFit 0 = .ok (.aload_n 0, 1) := by decide +kernel
theorem dX12_isFit_1 : decode cX12_isFit 1 = .ok (.iload_n 1, 1) := by decide +kernel
theorem dX12_isFit_2 : decode cX12_isFit 2 = .ok (.invokevirtual 303, 3) := by decide +kernel
theorem dX12_isFit_5 : decode cX12_isFit 5 = .ok (.istore_n 2, 1) := by decide +kernel
theorem dX12_isFit_6 : decode cX12_isFit 6 = .ok (.iconst 0, 1) := by decide +kernel
theorem dX12_isFit_7 : decode cX12_isFit 7 = .ok (.istore_n 3, 1) := by decide +kernel
theorem dX12_isFit_8 : decode cX12_isFit 8 = .ok (.iload_n 3, 1) := by decide +kernel
theorem dX12_isFit_9 : decode cX12_isFit 9 = .ok (.aload_n 0, 1) := by decide +kernel
theorem dX12_isFit_10 : decode cX12_isFit 10 = .ok (.getfield 300, 3) := by decide +kernel
theorem dX12_isFit_13 : decode cX12_isFit 13 = .ok (.if_icmp .ge 44, 3) := by decide +kernel
theorem dX12_isFit_16 : decode cX12_isFit 16 = .ok (.iload_n 2, 1) := by decide +kernel
theorem dX12_isFit_17 : decode cX12_isFit 17 = .ok (.ifCond .eq 40, 3) := by decide +kernel
theorem dX12_isFit_20 : decode cX12_isFit 20 = .ok (.aload_n 0, 1) := by decide +kernel
theorem dX12_isFit_21 : decode cX12_isFit 21 = .ok (.getfield 61, 3) := by decide +kernel
theorem dX12_isFit_24 : decode cX12_isFit 24 = .ok (.aload_n 0, 1) := by decide +kernel
theorem dX12_isFit_25 : decode cX12_isFit 25 = .ok (.getfield 28, 3) := by decide +kernel
theorem dX12_isFit_28 : decode cX12_isFit 28 = .ok (.iload_n 3, 1) := by decide +kernel
theorem dX12_isFit_29 : decode cX12_isFit 29 = .ok (.iaload, 1) := by decide +kernel
theorem dX12_isFit_30 : decode cX12_isFit 30 = .ok (.iaload, 1) := by decide +kernel
theorem dX12_isFit_31 : decode cX12_isFit 31 = .ok (.aload_n 0, 1) := by decide +kernel
theorem dX12_isFit_32 : decode cX12_isFit 32 = .ok (.getfield 61, 3) := by decide +kernel
theorem dX12_isFit_35 : decode cX12_isFit 35 = .ok (.aload_n 0, 1) := by decide +kernel
theorem dX12_isFit_36 : decode cX12_isFit 36 = .ok (.getfield 31, 3) := by decide +kernel
theorem dX12_isFit_39 : decode cX12_isFit 39 = .ok (.iload_n 3, 1) := by decide +kernel
theorem dX12_isFit_40 : decode cX12_isFit 40 = .ok (.iaload, 1) := by decide +kernel
theorem dX12_isFit_41 : decode cX12_isFit 41 = .ok (.iaload, 1) := by decide +kernel
theorem dX12_isFit_42 : decode cX12_isFit 42 = .ok (.if_icmp .ge 7, 3) := by decide +kernel
theorem dX12_isFit_45 : decode cX12_isFit 45 = .ok (.iconst 1, 1) := by decide +kernel
theorem dX12_isFit_46 : decode cX12_isFit 46 = .ok (.goto 4, 3) := by decide +kernel
theorem dX12_isFit_49 : decode cX12_isFit 49 = .ok (.iconst 0, 1) := by decide +kernel
theorem dX12_isFit_50 : decode cX12_isFit 50 = .ok (.istore_n 2, 1) := by decide +kernel
theorem dX12_isFit_51 : decode cX12_isFit 51 = .ok (.iinc 3 1, 3) := by decide +kernel
theorem dX12_isFit_54 : decode cX12_isFit 54 = .ok (.goto (-46), 3) := by decide +kernel
theorem dX12_isFit_57 : decode cX12_isFit 57 = .ok (.iload_n 2, 1) := by decide +kernel
theorem dX12_isFit_58 : decode cX12_isFit 58 = .ok (.ireturn, 1) := by decide +kernel
set_option maxRecDepth 20000 in
theorem ggX12_findFits_X12_isFit : GoodIn wsX12_findFits wsX12_isFit := goodIn_r _ [8, 9, 10, 11, 12, 13, 14, 15, 7, 16, 17, 18, 19, 20, 21, 22, 23, 24, 25, 26, 27, 28, 29, 30, 31, 32, 33, 34, 35, 36, 37, 38, 39, 40, 41, 42, 43, 44, 45, 46, 47, 48, 49, 50, 51, 52, 53, 54] (by decide +kernel) (by decide +kernel)
set_option maxRecDepth 20000 in
theorem gX12_findFits_X12_isFit : GoodIn wsX12_findFits (wsV RX12 310 RX12 yX12_isFit wsX12_isFit) := goodIn_app (goodIn_of _ (by decide +kernel)) ggX12_findFits_X12_isFit
theorem dX12_findFits_0 : decode cX12_findFits 0 = .ok (.aload_n 0, 1) := by decide +kernel
theorem dX12_findFits_1 : decode cX12_findFits 1 = .ok (.iconst 0, 1) := by decide +kernel
theorem dX12_findFits_2 : decode cX12_findFits 2 = .ok (.putfield 306, 3) := by decide +kernel
theorem dX12_findFits_5 : decode cX12_findFits 5 = .ok (.sipush 1234, 3) := by decide +kernel
theorem dX12_findFits_8 : decode cX12_findFits 8 = .ok (.istore_n 1, 1) := by decide +kernel
theorem dX12_findFits_9 : decode cX12_findFits 9 = .ok (.iload_n 1, 1) := by decide +kernel
theorem dX12_findFits_10 : decode cX12_findFits 10 = .ok (.ldc_w 309, 3) := by decide +kernel
theorem dX12_findFits_13 : decode cX12_findFits 13 = .ok (.if_icmp .gt 37, 3) := by decide +kernel
theorem dX12_findFits_16 : decode cX12_findFits 16 = .ok (.aload_n 0, 1) := by decide +kernel
theorem dX12_findFits_17 : decode cX12_findFits 17 = .ok (.iload_n 1, 1) := by decide +kernel
theorem dX12_findFits_18 : decode cX12_findFits 18 = .ok (.invokevirtual 310, 3) := by decide +kernel
theorem dX12_findFits_21 : decode cX12_findFits 21 = .ok (.ifCond .eq 23, 3) := by decide +kernel
theorem dX12_findFits_24 : decode cX12_findFits 24 = .ok (.aload_n 0, 1) := by decide +kernel
theorem dX12_findFits_25 : decode cX12_findFits 25 = .ok (.getfield 64, 3) := by decide +kernel
theorem dX12_findFits_28 : decode cX12_findFits 28 = .ok (.aload_n 0, 1) := by decide +kernel
theorem dX12_findFits_29 : decode cX12_findFits 29 = .ok (.getfield 306, 3) := by decide +kernel
theorem dX12_findFits_32 : decode cX12_findFits 32 = .ok (.iload_n 1, 1) := by decide +kernel
theorem dX12_findFits_33 : decode cX12_findFits 33 = .ok (.iastore, 1) := by decide +kernel
theorem dX12_findFits_34 : decode cX12_findFits 34 = .ok (.aload_n 0, 1) := by decide +kernel
theorem dX12_findFits_35 : decode cX12_findFits 35 = .ok (.dup, 1) := by decide +kernel
theorem dX12_findFits_36 : decode cX12_findFits 36 = .ok (.getfield 306, 3) := by decide +kernel
theorem dX12_findFits_39 : decode cX12_findFits 39 = .ok (.iconst 1, 1) := by decide +kernel
theorem dX12_findFits_40 : decode cX12_findFits 40 = .ok (.iadd, 1) := by decide +kernel
theorem dX12_findFits_41 : decode cX12_findFits 41 = .ok (.putfield 306, 3) := by decide +kernel
theorem dX12_findFits_44 : decode cX12_findFits 44 = .ok (.iinc 1 1, 3) := by decide +kernel
theorem dX12_findFits_47 : decode cX12_findFits 47 = .ok (.goto (-38), 3) := by decide +kernel
theorem dX12_findFits_50 : decode cX12_findFits 50 = .ok (.return_, 1) := by decide +kernel
set_option maxRecDepth 20000 in
theorem ggX12_fits_X12_findFits : GoodIn wsX12_fits wsX12_findFits := goodIn_r _ [7, 1, 8, 2, 9, 10, 11, 6, 12, 13, 14, 15, 16, 17, 18, 19, 20, 24, 25, 26, 27, 28, 29, 30, 31, 32, 33, 34, 35, 36, 37, 38, 39, 40, 41, 42, 43, 44, 45, 46, 47, 48, 49, 50, 51, 52, 53, 54, 55, 56, 57, 58, 59, 60, 61] (by decide +kernel) (by decide +kernel)
set_option maxRecDepth 20000 in
theorem gX12_fits_X12_findFits : GoodIn wsX12_fits (wsV RX12 313 RX12 yX12_findFits wsX12_findFits) := goodIn_app (goodIn_of _ (by decide +kernel)) ggX12_fits_X12_findFits
set_option maxRecDepth 20000 in
theorem ggX12_fits_X12_in : GoodIn wsX12_fits wsX12_in := goodIn_r _ [23] (by decide +kernel) (by decide +kernel)
set_option maxRecDepth 20000 in
theorem gX12_fits_X12_in : GoodIn wsX12_fits (va_wsS RX12 90 yX12_in wsX12_in) := goodIn_app (goodIn_of _ (by decide +kernel)) ggX12_fits_X12_in
theorem dX12_fits_0 : decode cX12_fits 0 = .ok (.aload_n 0, 1) := by decide +kernel
theorem dX12_fits_1 : decode cX12_fits 1 = .ok (.invokevirtual 313, 3) := by decide +kernel
theorem dX12_fits_4 : decode cX12_fits 4 = .ok (.iload_n 1, 1) := by decide +kernel
theorem dX12_fits_5 : decode cX12_fits 5 = .ok (.iconst (-1), 1) := by decide +kernel
theorem dX12_fits_6 : decode cX12_fits 6 = .ok (.if_icmp .ne 10, 3) := by decide +kernel
theorem dX12_fits_9 : decode cX12_fits 9 = .ok (.aload_n 0, 1) := by decide +kernel
theorem dX12_fits_10 : decode cX12_fits 10 = .ok (.getfield 306, 3) := by decide +kernel
theorem dX12_fits_13 : decode cX12_fits 13 = .ok (.goto 30, 3) := by decide +kernel
theorem dX12_fits_16 : decode cX12_fits 16 = .ok (.iload_n 1, 1) := by decide +kernel
theorem dX12_fits_17 : decode cX12_fits 17 = .ok (.i2l, 1) := by decide +kernel
theorem dX12_fits_18 : decode cX12_fits 18 = .ok (.lconst 0, 1) := by decide +kernel
theorem dX12_fits_19 : decode cX12_fits 19 = .ok (.aload_n 0, 1) := by decide +kernel
theorem dX12_fits_20 : decode cX12_fits 20 = .ok (.getfield 306, 3) := by decide +kernel
theorem dX12_fits_23 : decode cX12_fits 23 = .ok (.iconst 1, 1) := by decide +kernel
theorem dX12_fits_24 : decode cX12_fits 24 = .ok (.isub, 1) := by decide +kernel
theorem dX12_fits_25 : decode cX12_fits 25 = .ok (.i2l, 1) := by decide +kernel
theorem dX12_fits_26 : decode cX12_fits 26 = .ok (.invokestatic 90, 3) := by decide +kernel
theorem dX12_fits_29 : decode cX12_fits 29 = .ok (.ifCond .eq 12, 3) := by decide +kernel
theorem dX12_fits_32 : decode cX12_fits 32 = .ok (.aload_n 0, 1) := by decide +kernel
theorem dX12_fits_33 : decode cX12_fits 33 = .ok (.getfield 64, 3) := by decide +kernel
theorem dX12_fits_36 : decode cX12_fits 36 = .ok (.iload_n 1, 1) := by decide +kernel
theorem dX12_fits_37 : decode cX12_fits 37 = .ok (.iaload, 1) := by decide +kernel
theorem dX12_fits_38 : decode cX12_fits 38 = .ok (.goto 5, 3) := by decide +kernel
theorem dX12_fits_41 : decode cX12_fits 41 = .ok (.bipush (-6), 2) := by decide +kernel
theorem dX12_fits_43 : decode cX12_fits 43 = .ok (.ireturn, 1) := by decide +kernel
set_option maxRecDepth 20000 in
theorem ggX12_mostLeft_X12_readRow : GoodIn wsX12_mostLeft wsX12_readRow := goodIn_r _ [8, 3, 9, 10, 11, 12, 13, 14, 15, 16, 17, 18, 19, 20, 21, 22, 23, 24, 25, 26, 27, 28, 29, 30, 31, 32, 33, 34, 35, 36, 37, 38, 39, 40, 41, 42, 43, 44, 45, 46] (by decide +kernel) (by decide +kernel)
set_option maxRecDepth 20000 in
theorem gX12_mostLeft_X12_readRow : GoodIn wsX12_mostLeft (wsV RX12 303 RX12 yX12_readRow wsX12_readRow) := goodIn_app (goodIn_of _ (by decide +kernel)) ggX12_mostLeft_X12_readRow
theorem dX12_mostLeft_0 : decode cX12_mostLeft 0 = .ok (.iconst 0, 1) := by decide +kernel
theorem dX12_mostLeft_1 : decode cX12_mostLeft 1 = .ok (.istore_n 3, 1) := by decide +kernel
theorem dX12_mostLeft_2 : decode cX12_mostLeft 2 = .ok (.iconst 0, 1) := by decide +kernel
theorem dX12_mostLeft_3 : decode cX12_mostLeft 3 = .ok (.istore 4, 2) := by decide +kernel
theorem dX12_mostLeft_5 : decode cX12_mostLeft 5 = .ok (.iload 4, 2) := by decide +kernel
theorem dX12_mostLeft_7 : decode cX12_mostLeft 7 = .ok (.aload_n 0, 1) := by decide +kernel
theorem dX12_mostLeft_8 : decode cX12_mostLeft 8 = .ok (.getfield 306, 3) := by decide +kernel
theorem dX12_mostLeft_11 : decode cX12_mostLeft 11 = .ok (.if_icmp .ge 46, 3) := by decide +kernel
theorem dX12_mostLeft_14 : decode cX12_mostLeft 14 = .ok (.iload_n 3, 1) := by decide +kernel
theorem dX12_mostLeft_15 : decode cX12_mostLeft 15 = .ok (.aload_n 0, 1) := by decide +kernel
theorem dX12_mostLeft_16 : decode cX12_mostLeft 16 = .ok (.aload_n 0, 1) := by decide +kernel
theorem dX12_mostLeft_17 : decode cX12_mostLeft 17 = .ok (.getfield 64, 3) := by decide +kernel
theorem dX12_mostLeft_20 : decode cX12_mostLeft 20 = .ok (.iload 4, 2) := by decide +kernel
theorem dX12_mostLeft_22 : decode cX12_mostLeft 22 = .ok (.iaload, 1) := by decide +kernel
theorem dX12_mostLeft_23 : decode cX12_mostLeft 23 = .ok (.invokevirtual 303, 3) := by decide +kernel
theorem dX12_mostLeft_26 : decode cX12_mostLeft 26 = .ok (.ifCond .eq 22, 3) := by decide +kernel
theorem dX12_mostLeft_29 : decode cX12_mostLeft 29 = .ok (.aload_n 0, 1) := by decide +kernel
theorem dX12_mostLeft_30 : decode cX12_mostLeft 30 = .ok (.getfield 61, 3) := by decide +kernel
theorem dX12_mostLeft_33 : decode cX12_mostLeft 33 = .ok (.iload_n 1, 1) := by decide +kernel
theorem dX12_mostLeft_34 : decode cX12_mostLeft 34 = .ok (.iaload, 1) := by decide +kernel
theorem dX12_mostLeft_35 : decode cX12_mostLeft 35 = .ok (.aload_n 0, 1) := by decide +kernel
theorem dX12_mostLeft_36 : decode cX12_mostLeft 36 = .ok (.getfield 61, 3) := by decide +kernel
theorem dX12_mostLeft_39 : decode cX12_mostLeft 39 = .ok (.iload_n 2, 1) := by decide +kernel
theorem dX12_mostLeft_40 : decode cX12_mostLeft 40 = .ok (.iaload, 1) := by decide +kernel
theorem dX12_mostLeft_41 : decode cX12_mostLeft 41 = .ok (.if_icmp .ge 7, 3) := by decide +kernel
theorem dX12_mostLeft_44 : decode cX12_mostLeft 44 = .ok (.iconst 1, 1) := by decide +kernel
theorem dX12_mostLeft_45 : decode cX12_mostLeft 45 = .ok (.goto 4, 3) := by decide +kernel
theorem dX12_mostLeft_48 : decode cX12_mostLeft 48 = .ok (.iconst 0, 1) := by decide +kernel
theorem dX12_mostLeft_49 : decode cX12_mostLeft 49 = .ok (.iadd, 1) := by decide +kernel
theorem dX12_mostLeft_50 : decode cX12_mostLeft 50 = .ok (.istore_n 3, 1) := by decide +kernel
theorem dX12_mostLeft_51 : decode cX12_mostLeft 51 = .ok (.iinc 4 1, 3) := by decide +kernel
theorem dX12_mostLeft_54 : decode cX12_mostLeft 54 = .ok (.goto (-49), 3) := by decide +kernel
theorem dX12_mostLeft_57 : decode cX12_mostLeft 57 = .ok (.iload_n 3, 1) := by decide +kernel
theorem dX12_mostLeft_58 : decode cX12_mostLeft 58 = .ok (.aload_n 0, 1) := by decide +kernel
theorem dX12_mostLeft_59 : decode cX12_mostLeft 59 = .ok (.getfield 306, 3) := by decide +kernel
theorem dX12_mostLeft_62 : decode cX12_mostLeft 62 = .ok (.iload_n 3, 1) := by decide +kernel
theorem dX12_mostLeft_63 : decode cX12_mostLeft 63 = .ok (.isub, 1) := by decide +kernel
theorem dX12_mostLeft_64 : decode cX12_mostLeft 64 = .ok (.if_icmp .le 7, 3) := by decide +kernel
theorem dX12_mostLeft_67 : decode cX12_mostLeft 67 = .ok (.iload_n 3, 1) := by decide +kernel
theorem dX12_mostLeft_68 : decode cX12_mostLeft 68 = .ok (.goto 9, 3) := by decide +kernel
theorem dX12_mostLeft_71 : decode cX12_mostLeft 71 = .ok (.aload_n 0, 1) := by decide +kernel
theorem dX12_mostLeft_72 : decode cX12_mostLeft 72 = .ok (.getfield 306, 3) := by decide +kernel
theorem dX12_mostLeft_75 : decode cX12_mostLeft 75 = .ok (.iload_n 3, 1) := by decide +kernel
theorem dX12_mostLeft_76 : decode cX12_mostLeft 76 = .ok (.isub, 1) := by decide +kernel
theorem dX12_mostLeft_77 : decode cX12_mostLeft 77 = .ok (.ireturn, 1) := by decide +kernel
set_option maxRecDepth 20000 in
theorem ggX12_ask_X12_in : GoodIn wsX12_ask wsX12_in := goodIn_r _ [5] (by decide +kernel) (by decide +kernel)
set_option maxRecDepth 20000 in
theorem gX12_ask_X12_in : GoodIn wsX12_ask (va_wsS RX12 90 yX12_in wsX12_in) := goodIn_app (goodIn_of _ (by decide +kernel)) ggX12_ask_X12_in
set_option maxRecDepth 20000 in
theorem ggX12_ask_X12_findFits : GoodIn wsX12_ask wsX12_findFits := goodIn_r _ [9, 1, 10, 11, 12, 13, 14, 4, 15, 16, 17, 18, 19, 20, 21, 22, 23, 28, 29, 30, 31, 32, 33, 34, 35, 36, 37, 38, 39, 40, 41, 42, 43, 44, 45, 46, 47, 48, 49, 50, 51, 52, 53, 54, 55, 56, 57, 58, 59, 60, 61, 62, 63, 64, 65] (by decide +kernel) (by decide +kernel)
set_option maxRecDepth 20000 in
theorem gX12_ask_X12_findFits : GoodIn wsX12_ask (wsV RX12 313 RX12 yX12_findFits wsX12_findFits) := goodIn_app (goodIn_of _ (by decide +kernel)) ggX12_ask_X12_findFits
set_option maxRecDepth 20000 in
theorem ggX12_ask_X12_mostLeft : GoodIn wsX12_ask wsX12_mostLeft := goodIn_r _ [27, 1, 11, 17, 20, 21, 22, 4, 23, 28, 29, 30, 31, 32, 33, 34, 35, 36, 37, 38, 39, 40, 41, 42, 43, 44, 45, 46, 47, 48, 49, 50, 51, 52, 53, 54, 55, 56, 57, 58, 59, 60, 61, 62, 63, 64, 65] (by decide +kernel) (by decide +kernel)
set_option maxRecDepth 20000 in
theorem gX12_ask_X12_mostLeft : GoodIn wsX12_ask (wsV RX12 316 RX12 yX12_mostLeft wsX12_mostLeft) := goodIn_app (goodIn_of _ (by decide +kernel)) ggX12_ask_X12_mostLeft
theorem dX12_ask_0 : decode cX12_ask 0 = .ok (.iload_n 1, 1) := by decide +kernel
theorem dX12_ask_1 : decode cX12_ask 1 = .ok (.i2l, 1) := by decide +kernel
theorem dX12_ask_2 : decode cX12_ask 2 = .ok (.lconst 0, 1) := by decide +kernel
theorem dX12_ask_3 : decode cX12_ask 3 = .ok (.lconst 1, 1) := by decide +kernel
theorem dX12_ask_4 : decode cX12_ask 4 = .ok (.invokestatic 90, 3) := by decide +kernel
theorem dX12_ask_7 : decode cX12_ask 7 = .ok (.ifCond .ne 6, 3) := by decide +kernel
theorem dX12_ask_10 : decode cX12_ask 10 = .ok (.bipush (-2), 2) := by decide +kernel
theorem dX12_ask_12 : decode cX12_ask 12 = .ok (.ireturn, 1) := by decide +kernel
theorem dX12_ask_13 : decode cX12_ask 13 = .ok (.aload_n 0, 1) := by decide +kernel
theorem dX12_ask_14 : decode cX12_ask 14 = .ok (.invokevirtual 313, 3) := by decide +kernel
theorem dX12_ask_17 : decode cX12_ask 17 = .ok (.bipush (-6), 2) := by decide +kernel
theorem dX12_ask_19 : decode cX12_ask 19 = .ok (.istore_n 2, 1) := by decide +kernel
theorem dX12_ask_20 : decode cX12_ask 20 = .ok (.aload_n 0, 1) := by decide +kernel
theorem dX12_ask_21 : decode cX12_ask 21 = .ok (.getfield 306, 3) := by decide +kernel
theorem dX12_ask_24 : decode cX12_ask 24 = .ok (.iconst 1, 1) := by decide +kernel
theorem dX12_ask_25 : decode cX12_ask 25 = .ok (.iadd, 1) := by decide +kernel
theorem dX12_ask_26 : decode cX12_ask 26 = .ok (.istore_n 3, 1) := by decide +kernel
theorem dX12_ask_27 : decode cX12_ask 27 = .ok (.iconst 1, 1) := by decide +kernel
theorem dX12_ask_28 : decode cX12_ask 28 = .ok (.istore 4, 2) := by decide +kernel
theorem dX12_ask_30 : decode cX12_ask 30 = .ok (.iload 4, 2) := by decide +kernel
theorem dX12_ask_32 : decode cX12_ask 32 = .ok (.bipush 35, 2) := by decide +kernel
theorem dX12_ask_34 : decode cX12_ask 34 = .ok (.if_icmp .ge 96, 3) := by decide +kernel
theorem dX12_ask_37 : decode cX12_ask 37 = .ok (.aload_n 0, 1) := by decide +kernel
theorem dX12_ask_38 : decode cX12_ask 38 = .ok (.getfield 306, 3) := by decide +kernel
theorem dX12_ask_41 : decode cX12_ask 41 = .ok (.ifCond .le 89, 3) := by decide +kernel
theorem dX12_ask_44 : decode cX12_ask 44 = .ok (.iload 4, 2) := by decide +kernel
theorem dX12_ask_46 : decode cX12_ask 46 = .ok (.bipush 10, 2) := by decide +kernel
theorem dX12_ask_48 : decode cX12_ask 48 = .ok (.idiv, 1) := by decide +kernel
theorem dX12_ask_49 : decode cX12_ask 49 = .ok (.iload 4, 2) := by decide +kernel
theorem dX12_ask_51 : decode cX12_ask 51 = .ok (.bipush 10, 2) := by decide +kernel
theorem dX12_ask_53 : decode cX12_ask 53 = .ok (.irem, 1) := by decide +kernel
theorem dX12_ask_54 : decode cX12_ask 54 = .ok (.if_icmp .ge 16, 3) := by decide +kernel
theorem dX12_ask_57 : decode cX12_ask 57 = .ok (.iload 4, 2) := by decide +kernel
theorem dX12_ask_59 : decode cX12_ask 59 = .ok (.bipush 10, 2) := by decide +kernel
theorem dX12_ask_61 : decode cX12_ask 61 = .ok (.irem, 1) := by decide +kernel
theorem dX12_ask_62 : decode cX12_ask 62 = .ok (.iconst 5, 1) := by decide +kernel
theorem dX12_ask_63 : decode cX12_ask 63 = .ok (.if_icmp .ge 7, 3) := by decide +kernel
theorem dX12_ask_66 : decode cX12_ask 66 = .ok (.iconst 1, 1) := by decide +kernel
theorem dX12_ask_67 : decode cX12_ask 67 = .ok (.goto 4, 3) := by decide +kernel
theorem dX12_ask_70 : decode cX12_ask 70 = .ok (.iconst 0, 1) := by decide +kernel
theorem dX12_ask_71 : decode cX12_ask 71 = .ok (.istore 5, 2) := by decide +kernel
theorem dX12_ask_73 : decode cX12_ask 73 = .ok (.iload 5, 2) := by decide +kernel
theorem dX12_ask_75 : decode cX12_ask 75 = .ok (.ifCond .eq 20, 3) := by decide +kernel
theorem dX12_ask_78 : decode cX12_ask 78 = .ok (.aload_n 0, 1) := by decide +kernel
theorem dX12_ask_79 : decode cX12_ask 79 = .ok (.iload 4, 2) := by decide +kernel
theorem dX12_ask_81 : decode cX12_ask 81 = .ok (.bipush 10, 2) := by decide +kernel
theorem dX12_ask_83 : decode cX12_ask 83 = .ok (.idiv, 1) := by decide +kernel
theorem dX12_ask_84 : decode cX12_ask 84 = .ok (.iload 4, 2) := by decide +kernel
theorem dX12_ask_86 : decode cX12_ask 86 = .ok (.bipush 10, 2) := by decide +kernel
theorem dX12_ask_88 : decode cX12_ask 88 = .ok (.irem, 1) := by decide +kernel
theorem dX12_ask_89 : decode cX12_ask 89 = .ok (.invokevirtual 316, 3) := by decide +kernel
theorem dX12_ask_92 : decode cX12_ask 92 = .ok (.goto 4, 3) := by decide +kernel
theorem dX12_ask_95 : decode cX12_ask 95 = .ok (.iload_n 3, 1) := by decide +kernel
theorem dX12_ask_96 : decode cX12_ask 96 = .ok (.istore 6, 2) := by decide +kernel
theorem dX12_ask_98 : decode cX12_ask 98 = .ok (.iload 6, 2) := by decide +kernel
theorem dX12_ask_100 : decode cX12_ask 100 = .ok (.iload_n 3, 1) := by decide +kernel
theorem dX12_ask_101 : decode cX12_ask 101 = .ok (.if_icmp .ge 8, 3) := by decide +kernel
theorem dX12_ask_104 : decode cX12_ask 104 = .ok (.iload 4, 2) := by decide +kernel
theorem dX12_ask_106 : decode cX12_ask 106 = .ok (.goto 4, 3) := by decide +kernel
theorem dX12_ask_109 : decode cX12_ask 109 = .ok (.iload_n 2, 1) := by decide +kernel
theorem dX12_ask_110 : decode cX12_ask 110 = .ok (.istore_n 2, 1) := by decide +kernel
theorem dX12_ask_111 : decode cX12_ask 111 = .ok (.iload 6, 2) := by decide +kernel
theorem dX12_ask_113 : decode cX12_ask 113 = .ok (.iload_n 3, 1) := by decide +kernel
theorem dX12_ask_114 : decode cX12_ask 114 = .ok (.if_icmp .ge 8, 3) := by decide +kernel
theorem dX12_ask_117 : decode cX12_ask 117 = .ok (.iload 6, 2) := by decide +kernel
theorem dX12_ask_119 : decode cX12_ask 119 = .ok (.goto 4, 3) := by decide +kernel
theorem dX12_ask_122 : decode cX12_ask 122 = .ok (.iload_n 3, 1) := by decide +kernel
theorem dX12_ask_123 : decode cX12_ask 123 = .ok (.istore_n 3, 1) := by decide +kernel
theorem dX12_ask_124 : decode cX12_ask 124 = .ok (.iinc 4 1, 3) := by decide +kernel
theorem dX12_ask_127 : decode cX12_ask 127 = .ok (.goto (-97), 3) := by decide +kernel
theorem dX12_ask_130 : decode cX12_ask 130 = .ok (.iload_n 2, 1) := by decide +kernel
theorem dX12_ask_131 : decode cX12_ask 131 = .ok (.ifCond .lt 7, 3) := by decide +kernel
theorem dX12_ask_134 : decode cX12_ask 134 = .ok (.iload_n 1, 1) := by decide +kernel
theorem dX12_ask_135 : decode cX12_ask 135 = .ok (.ifCond .ne 7, 3) := by decide +kernel
theorem dX12_ask_138 : decode cX12_ask 138 = .ok (.iload_n 2, 1) := by decide +kernel
theorem dX12_ask_139 : decode cX12_ask 139 = .ok (.goto 4, 3) := by decide +kernel
theorem dX12_ask_142 : decode cX12_ask 142 = .ok (.iload_n 3, 1) := by decide +kernel
theorem dX12_ask_143 : decode cX12_ask 143 = .ok (.ireturn, 1) := by decide +kernel
theorem dX12_readShelf_0 : decode cX12_readShelf 0 = .ok (.iload_n 1, 1) := by decide +kernel
theorem dX12_readShelf_1 : decode cX12_readShelf 1 = .ok (.istore_n 2, 1) := by decide +kernel
theorem dX12_readShelf_2 : decode cX12_readShelf 2 = .ok (.iconst 1, 1) := by decide +kernel
theorem dX12_readShelf_3 : decode cX12_readShelf 3 = .ok (.istore_n 3, 1) := by decide +kernel
theorem dX12_readShelf_4 : decode cX12_readShelf 4 = .ok (.iconst 0, 1) := by decide +kernel
theorem dX12_readShelf_5 : decode cX12_readShelf 5 = .ok (.istore 4, 2) := by decide +kernel
theorem dX12_readShelf_7 : decode cX12_readShelf 7 = .ok (.iload 4, 2) := by decide +kernel
theorem dX12_readShelf_9 : decode cX12_readShelf 9 = .ok (.iconst 5, 1) := by decide +kernel
theorem dX12_readShelf_10 : decode cX12_readShelf 10 = .ok (.if_icmp .ge 59, 3) := by decide +kernel
theorem dX12_readShelf_13 : decode cX12_readShelf 13 = .ok (.aload_n 0, 1) := by decide +kernel
theorem dX12_readShelf_14 : decode cX12_readShelf 14 = .ok (.getfield 71, 3) := by decide +kernel
theorem dX12_readShelf_17 : decode cX12_readShelf 17 = .ok (.iload 4, 2) := by decide +kernel
theorem dX12_readShelf_19 : decode cX12_readShelf 19 = .ok (.iload_n 2, 1) := by decide +kernel
theorem dX12_readShelf_20 : decode cX12_readShelf 20 = .ok (.bipush 6, 2) := by decide +kernel
theorem dX12_readShelf_22 : decode cX12_readShelf 22 = .ok (.irem, 1) := by decide +kernel
theorem dX12_readShelf_23 : decode cX12_readShelf 23 = .ok (.iastore, 1) := by decide +kernel
theorem dX12_readShelf_24 : decode cX12_readShelf 24 = .ok (.iload_n 3, 1) := by decide +kernel
theorem dX12_readShelf_25 : decode cX12_readShelf 25 = .ok (.ifCond .eq 31, 3) := by decide +kernel
theorem dX12_readShelf_28 : decode cX12_readShelf 28 = .ok (.iload 4, 2) := by decide +kernel
theorem dX12_readShelf_30 : decode cX12_readShelf 30 = .ok (.ifCond .eq 22, 3) := by decide +kernel
theorem dX12_readShelf_33 : decode cX12_readShelf 33 = .ok (.aload_n 0, 1) := by decide +kernel
theorem dX12_readShelf_34 : decode cX12_readShelf 34 = .ok (.getfield 71, 3) := by decide +kernel
theorem dX12_readShelf_37 : decode cX12_readShelf 37 = .ok (.iload 4, 2) := by decide +kernel
theorem dX12_readShelf_39 : decode cX12_readShelf 39 = .ok (.iaload, 1) := by decide +kernel
theorem dX12_readShelf_40 : decode cX12_readShelf 40 = .ok (.aload_n 0, 1) := by decide +kernel
theorem dX12_readShelf_41 : decode cX12_readShelf 41 = .ok (.getfield 71, 3) := by decide +kernel
theorem dX12_readShelf_44 : decode cX12_readShelf 44 = .ok (.iload 4, 2) := by decide +kernel
theorem dX12_readShelf_46 : decode cX12_readShelf 46 = .ok (.iconst 1, 1) := by decide +kernel
theorem dX12_readShelf_47 : decode cX12_readShelf 47 = .ok (.isub, 1) := by decide +kernel
theorem dX12_readShelf_48 : decode cX12_readShelf 48 = .ok (.iaload, 1) := by decide +kernel
theorem dX12_readShelf_49 : decode cX12_readShelf 49 = .ok (.if_icmp .gt 7, 3) := by decide +kernel
theorem dX12_readShelf_52 : decode cX12_readShelf 52 = .ok (.iconst 1, 1) := by decide +kernel
theorem dX12_readShelf_53 : decode cX12_readShelf 53 = .ok (.goto 4, 3) := by decide +kernel
theorem dX12_readShelf_56 : decode cX12_readShelf 56 = .ok (.iconst 0, 1) := by decide +kernel
theorem dX12_readShelf_57 : decode cX12_readShelf 57 = .ok (.istore_n 3, 1) := by decide +kernel
theorem dX12_readShelf_58 : decode cX12_readShelf 58 = .ok (.iload_n 2, 1) := by decide +kernel
theorem dX12_readShelf_59 : decode cX12_readShelf 59 = .ok (.bipush 6, 2) := by decide +kernel
theorem dX12_readShelf_61 : decode cX12_readShelf 61 = .ok (.idiv, 1) := by decide +kernel
theorem dX12_readShelf_62 : decode cX12_readShelf 62 = .ok (.istore_n 2, 1) := by decide +kernel
theorem dX12_readShelf_63 : decode cX12_readShelf 63 = .ok (.iinc 4 1, 3) := by decide +kernel
theorem dX12_readShelf_66 : decode cX12_readShelf 66 = .ok (.goto (-59), 3) := by decide +kernel
theorem dX12_readShelf_69 : decode cX12_readShelf 69 = .ok (.iload_n 3, 1) := by decide +kernel
theorem dX12_readShelf_70 : decode cX12_readShelf 70 = .ok (.ireturn, 1) := by decide +kernel
theorem dX12_without_0 : decode cX12_without 0 = .ok (.iconst 0, 1) := by decide +kernel
theorem dX12_without_1 : decode cX12_without 1 = .ok (.istore_n 3, 1) := by decide +kernel
theorem dX12_without_2 : decode cX12_without 2 = .ok (.iconst 4, 1) := by decide +kernel
theorem dX12_without_3 : decode cX12_without 3 = .ok (.istore 4, 2) := by decide +kernel
theorem dX12_without_5 : decode cX12_without 5 = .ok (.iload 4, 2) := by decide +kernel
theorem dX12_without_7 : decode cX12_without 7 = .ok (.ifCond .lt 47, 3) := by decide +kernel
theorem dX12_without_10 : decode cX12_without 10 = .ok (.iload 4, 2) := by decide +kernel
theorem dX12_without_12 : decode cX12_without 12 = .ok (.iload_n 1, 1) := by decide +kernel
theorem dX12_without_13 : decode cX12_without 13 = .ok (.if_icmp .lt 18, 3) := by decide +kernel
theorem dX12_without_16 : decode cX12_without 16 = .ok (.aload_n 0, 1) := by decide +kernel
theorem dX12_without_17 : decode cX12_without 17 = .ok (.getfield 71, 3) := by decide +kernel
theorem dX12_without_20 : decode cX12_without 20 = .ok (.iload 4, 2) := by decide +kernel
theorem dX12_without_22 : decode cX12_without 22 = .ok (.iaload, 1) := by decide +kernel
theorem dX12_without_23 : decode cX12_without 23 = .ok (.iload_n 2, 1) := by decide +kernel
theorem dX12_without_24 : decode cX12_without 24 = .ok (.if_icmp .le 7, 3) := by decide +kernel
theorem dX12_without_27 : decode cX12_without 27 = .ok (.iload_n 2, 1) := by decide +kernel
theorem dX12_without_28 : decode cX12_without 28 = .ok (.goto 10, 3) := by decide +kernel
theorem dX12_without_31 : decode cX12_without 31 = .ok (.aload_n 0, 1) := by decide +kernel
theorem dX12_without_32 : decode cX12_without 32 = .ok (.getfield 71, 3) := by decide +kernel
theorem dX12_without_35 : decode cX12_without 35 = .ok (.iload 4, 2) := by decide +kernel
theorem dX12_without_37 : decode cX12_without 37 = .ok (.iaload, 1) := by decide +kernel
theorem dX12_without_38 : decode cX12_without 38 = .ok (.istore 5, 2) := by decide +kernel
theorem dX12_without_40 : decode cX12_without 40 = .ok (.bipush 6, 2) := by decide +kernel
theorem dX12_without_42 : decode cX12_without 42 = .ok (.iload_n 3, 1) := by decide +kernel
theorem dX12_without_43 : decode cX12_without 43 = .ok (.imul, 1) := by decide +kernel
theorem dX12_without_44 : decode cX12_without 44 = .ok (.iload 5, 2) := by decide +kernel
theorem dX12_without_46 : decode cX12_without 46 = .ok (.iadd, 1) := by decide +kernel
theorem dX12_without_47 : decode cX12_without 47 = .ok (.istore_n 3, 1) := by decide +kernel
theorem dX12_without_48 : decode cX12_without 48 = .ok (.iinc 4 (-1), 3) := by decide +kernel
theorem dX12_without_51 : decode cX12_without 51 = .ok (.goto (-46), 3) := by decide +kernel
theorem dX12_without_54 : decode cX12_without 54 = .ok (.iload_n 3, 1) := by decide +kernel
theorem dX12_without_55 : decode cX12_without 55 = .ok (.ireturn, 1) := by decide +kernel
set_option maxRecDepth 20000 in
theorem ggX12_leastPoint_X12_without : GoodIn wsX12_leastPoint wsX12_without := goodIn_r _ [7, 1, 8, 9, 10, 11, 12, 13, 14, 15, 16, 17, 18, 19, 20, 21, 22, 23, 24, 25, 26, 27, 28, 29, 30, 31, 32, 33, 34, 35, 36, 37, 38, 39, 40, 41, 42, 43, 44, 45] (by decide +kernel) (by decide +kernel)
set_option maxRecDepth 20000 in
theorem gX12_leastPoint_X12_without : GoodIn wsX12_leastPoint (wsV RX12 319 RX12 yX12_without wsX12_without) := goodIn_app (goodIn_of _ (by decide +kernel)) ggX12_leastPoint_X12_without
theorem dX12_leastPoint_0 : decode cX12_leastPoint 0 = .ok (.iconst 0, 1) := by decide +kernel
theorem dX12_leastPoint_1 : decode cX12_leastPoint 1 = .ok (.istore_n 1, 1) := by decide +kernel
theorem dX12_leastPoint_2 : decode cX12_leastPoint 2 = .ok (.iload_n 1, 1) := by decide +kernel
theorem dX12_leastPoint_3 : decode cX12_leastPoint 3 = .ok (.iconst 5, 1) := by decide +kernel
theorem dX12_leastPoint_4 : decode cX12_leastPoint 4 = .ok (.if_icmp .ge 48, 3) := by decide +kernel
theorem dX12_leastPoint_7 : decode cX12_leastPoint 7 = .ok (.iconst 0, 1) := by decide +kernel
theorem dX12_leastPoint_8 : decode cX12_leastPoint 8 = .ok (.istore_n 2, 1) := by decide +kernel
theorem dX12_leastPoint_9 : decode cX12_leastPoint 9 = .ok (.iload_n 2, 1) := by decide +kernel
theorem dX12_leastPoint_10 : decode cX12_leastPoint 10 = .ok (.aload_n 0, 1) := by decide +kernel
theorem dX12_leastPoint_11 : decode cX12_leastPoint 11 = .ok (.getfield 71, 3) := by decide +kernel
theorem dX12_leastPoint_14 : decode cX12_leastPoint 14 = .ok (.iload_n 1, 1) := by decide +kernel
theorem dX12_leastPoint_15 : decode cX12_leastPoint 15 = .ok (.iaload, 1) := by decide +kernel
theorem dX12_leastPoint_16 : decode cX12_leastPoint 16 = .ok (.if_icmp .ge 30, 3) := by decide +kernel
theorem dX12_leastPoint_19 : decode cX12_leastPoint 19 = .ok (.aload_n 0, 1) := by decide +kernel
theorem dX12_leastPoint_20 : decode cX12_leastPoint 20 = .ok (.getfield 67, 3) := by decide +kernel
theorem dX12_leastPoint_23 : decode cX12_leastPoint 23 = .ok (.aload_n 0, 1) := by decide +kernel
theorem dX12_leastPoint_24 : decode cX12_leastPoint 24 = .ok (.iload_n 1, 1) := by decide +kernel
theorem dX12_leastPoint_25 : decode cX12_leastPoint 25 = .ok (.iload_n 2, 1) := by decide +kernel
theorem dX12_leastPoint_26 : decode cX12_leastPoint 26 = .ok (.invokevirtual 319, 3) := by decide +kernel
theorem dX12_leastPoint_29 : decode cX12_leastPoint 29 = .ok (.baload, 1) := by decide +kernel
theorem dX12_leastPoint_30 : decode cX12_leastPoint 30 = .ok (.ifCond .ne 10, 3) := by decide +kernel
theorem dX12_leastPoint_33 : decode cX12_leastPoint 33 = .ok (.bipush 10, 2) := by decide +kernel
theorem dX12_leastPoint_35 : decode cX12_leastPoint 35 = .ok (.iload_n 1, 1) := by decide +kernel
theorem dX12_leastPoint_36 : decode cX12_leastPoint 36 = .ok (.imul, 1) := by decide +kernel
theorem dX12_leastPoint_37 : decode cX12_leastPoint 37 = .ok (.iload_n 2, 1) := by decide +kernel
theorem dX12_leastPoint_38 : decode cX12_leastPoint 38 = .ok (.iadd, 1) := by decide +kernel
theorem dX12_leastPoint_39 : decode cX12_leastPoint 39 = .ok (.ireturn, 1) := by decide +kernel
theorem dX12_leastPoint_40 : decode cX12_leastPoint 40 = .ok (.iinc 2 1, 3) := by decide +kernel
theorem dX12_leastPoint_43 : decode cX12_leastPoint 43 = .ok (.goto (-34), 3) := by decide +kernel
theorem dX12_leastPoint_46 : decode cX12_leastPoint 46 = .ok (.iinc 1 1, 3) := by decide +kernel
theorem dX12_leastPoint_49 : decode cX12_leastPoint 49 = .ok (.goto (-47), 3) := by decide +kernel
theorem dX12_leastPoint_52 : decode cX12_leastPoint 52 = .ok (.bipush (-6), 2) := by decide +kernel
theorem dX12_leastPoint_54 : decode cX12_leastPoint 54 = .ok (.ireturn, 1) := by decide +kernel
set_option maxRecDepth 20000 in
theorem ggX12_shelf_X12_in : GoodIn wsX12_shelf wsX12_in := goodIn_r _ [6] (by decide +kernel) (by decide +kernel)
set_option maxRecDepth 20000 in
theorem gX12_shelf_X12_in : GoodIn wsX12_shelf (va_wsS RX12 90 yX12_in wsX12_in) := goodIn_app (goodIn_of _ (by decide +kernel)) ggX12_shelf_X12_in
set_option maxRecDepth 20000 in
theorem ggX12_shelf_X12_readShelf : GoodIn wsX12_shelf wsX12_readShelf := goodIn_r _ [10, 11, 20, 21, 22, 23, 24, 25, 26, 27, 28, 29, 30, 31, 32, 33, 34, 35, 36, 37, 38, 39, 40, 41, 42, 43, 44, 45, 46, 47, 48, 49, 50, 51, 52, 53, 54, 55, 56, 57] (by decide +kernel) (by decide +kernel)
set_option maxRecDepth 20000 in
theorem gX12_shelf_X12_readShelf : GoodIn wsX12_shelf (wsV RX12 324 RX12 yX12_readShelf wsX12_readShelf) := goodIn_app (goodIn_of _ (by decide +kernel)) ggX12_shelf_X12_readShelf
set_option maxRecDepth 20000 in
theorem ggX12_shelf_X12_leastPoint : GoodIn wsX12_shelf wsX12_leastPoint := goodIn_r _ [15, 11, 2, 16, 17, 18, 5, 19, 20, 21, 22, 23, 24, 25, 26, 27, 28, 29, 30, 31, 32, 33, 34, 35, 36, 37, 38, 39, 40, 41, 42, 43, 44, 45, 46, 47, 48, 49, 50, 51, 52, 53, 54, 55, 56, 57] (by decide +kernel) (by decide +kernel)
set_option maxRecDepth 20000 in
theorem gX12_shelf_X12_leastPoint : GoodIn wsX12_shelf (wsV RX12 327 RX12 yX12_leastPoint wsX12_leastPoint) := goodIn_app (goodIn_of _ (by decide +kernel)) ggX12_shelf_X12_leastPoint
theorem dX12_shelf_0 : decode cX12_shelf 0 = .ok (.iload_n 1, 1) := by decide +kernel
theorem dX12_shelf_1 : decode cX12_shelf 1 = .ok (.i2l, 1) := by decide +kernel
theorem dX12_shelf_2 : decode cX12_shelf 2 = .ok (.lconst 1, 1) := by decide +kernel
theorem dX12_shelf_3 : decode cX12_shelf 3 = .ok (.ldc2_w 322, 3) := by decide +kernel
theorem dX12_shelf_6 : decode cX12_shelf 6 = .ok (.invokestatic 90, 3) := by decide +kernel
theorem dX12_shelf_9 : decode cX12_shelf 9 = .ok (.ifCond .eq 25, 3) := by decide +kernel
theorem dX12_shelf_12 : decode cX12_shelf 12 = .ok (.iload_n 2, 1) := by decide +kernel
theorem dX12_shelf_13 : decode cX12_shelf 13 = .ok (.i2l, 1) := by decide +kernel
theorem dX12_shelf_14 : decode cX12_shelf 14 = .ok (.lconst 1, 1) := by decide +kernel
theorem dX12_shelf_15 : decode cX12_shelf 15 = .ok (.ldc2_w 322, 3) := by decide +kernel
theorem dX12_shelf_18 : decode cX12_shelf 18 = .ok (.invokestatic 90, 3) := by decide +kernel
theorem dX12_shelf_21 : decode cX12_shelf 21 = .ok (.ifCond .eq 13, 3) := by decide +kernel
theorem dX12_shelf_24 : decode cX12_shelf 24 = .ok (.iload_n 3, 1) := by decide +kernel
theorem dX12_shelf_25 : decode cX12_shelf 25 = .ok (.i2l, 1) := by decide +kernel
theorem dX12_shelf_26 : decode cX12_shelf 26 = .ok (.lconst 0, 1) := by decide +kernel
theorem dX12_shelf_27 : decode cX12_shelf 27 = .ok (.lconst 1, 1) := by decide +kernel
theorem dX12_shelf_28 : decode cX12_shelf 28 = .ok (.invokestatic 90, 3) := by decide +kernel
theorem dX12_shelf_31 : decode cX12_shelf 31 = .ok (.ifCond .ne 6, 3) := by decide +kernel
theorem dX12_shelf_34 : decode cX12_shelf 34 = .ok (.bipush (-2), 2) := by decide +kernel
theorem dX12_shelf_36 : decode cX12_shelf 36 = .ok (.ireturn, 1) := by decide +kernel
theorem dX12_shelf_37 : decode cX12_shelf 37 = .ok (.iconst 0, 1) := by decide +kernel
theorem dX12_shelf_38 : decode cX12_shelf 38 = .ok (.istore 4, 2) := by decide +kernel
theorem dX12_shelf_40 : decode cX12_shelf 40 = .ok (.iconst 0, 1) := by decide +kernel
theorem dX12_shelf_41 : decode cX12_shelf 41 = .ok (.istore 5, 2) := by decide +kernel
theorem dX12_shelf_43 : decode cX12_shelf 43 = .ok (.iload 5, 2) := by decide +kernel
theorem dX12_shelf_45 : decode cX12_shelf 45 = .ok (.iload_n 1, 1) := by decide +kernel
theorem dX12_shelf_46 : decode cX12_shelf 46 = .ok (.if_icmp .ge 18, 3) := by decide +kernel
theorem dX12_shelf_49 : decode cX12_shelf 49 = .ok (.bipush 6, 2) := by decide +kernel
theorem dX12_shelf_51 : decode cX12_shelf 51 = .ok (.iload 4, 2) := by decide +kernel
theorem dX12_shelf_53 : decode cX12_shelf 53 = .ok (.imul, 1) := by decide +kernel
theorem dX12_shelf_54 : decode cX12_shelf 54 = .ok (.iload_n 2, 1) := by decide +kernel
theorem dX12_shelf_55 : decode cX12_shelf 55 = .ok (.iadd, 1) := by decide +kernel
theorem dX12_shelf_56 : decode cX12_shelf 56 = .ok (.istore 4, 2) := by decide +kernel
theorem dX12_shelf_58 : decode cX12_shelf 58 = .ok (.iinc 5 1, 3) := by decide +kernel
theorem dX12_shelf_61 : decode cX12_shelf 61 = .ok (.goto (-18), 3) := by decide +kernel
theorem dX12_shelf_64 : decode cX12_shelf 64 = .ok (.aload_n 0, 1) := by decide +kernel
theorem dX12_shelf_65 : decode cX12_shelf 65 = .ok (.getfield 67, 3) := by decide +kernel
theorem dX12_shelf_68 : decode cX12_shelf 68 = .ok (.iconst 0, 1) := by decide +kernel
theorem dX12_shelf_69 : decode cX12_shelf 69 = .ok (.iconst 1, 1) := by decide +kernel
theorem dX12_shelf_70 : decode cX12_shelf 70 = .ok (.bastore, 1) := by decide +kernel
theorem dX12_shelf_71 : decode cX12_shelf 71 = .ok (.iconst 1, 1) := by decide +kernel
theorem dX12_shelf_72 : decode cX12_shelf 72 = .ok (.istore 5, 2) := by decide +kernel
theorem dX12_shelf_74 : decode cX12_shelf 74 = .ok (.iload 5, 2) := by decide +kernel
theorem dX12_shelf_76 : decode cX12_shelf 76 = .ok (.iload 4, 2) := by decide +kernel
theorem dX12_shelf_78 : decode cX12_shelf 78 = .ok (.if_icmp .gt 37, 3) := by decide +kernel
theorem dX12_shelf_81 : decode cX12_shelf 81 = .ok (.aload_n 0, 1) := by decide +kernel
theorem dX12_shelf_82 : decode cX12_shelf 82 = .ok (.getfield 67, 3) := by decide +kernel
theorem dX12_shelf_85 : decode cX12_shelf 85 = .ok (.iload 5, 2) := by decide +kernel
theorem dX12_shelf_87 : decode cX12_shelf 87 = .ok (.aload_n 0, 1) := by decide +kernel
theorem dX12_shelf_88 : decode cX12_shelf 88 = .ok (.iload 5, 2) := by decide +kernel
theorem dX12_shelf_90 : decode cX12_shelf 90 = .ok (.invokevirtual 324, 3) := by decide +kernel
theorem dX12_shelf_93 : decode cX12_shelf 93 = .ok (.ifCond .eq 14, 3) := by decide +kernel
theorem dX12_shelf_96 : decode cX12_shelf 96 = .ok (.aload_n 0, 1) := by decide +kernel
theorem dX12_shelf_97 : decode cX12_shelf 97 = .ok (.invokevirtual 327, 3) := by decide +kernel
theorem dX12_shelf_100 : decode cX12_shelf 100 = .ok (.ifCond .lt 7, 3) := by decide +kernel
theorem dX12_shelf_103 : decode cX12_shelf 103 = .ok (.iconst 1, 1) := by decide +kernel
theorem dX12_shelf_104 : decode cX12_shelf 104 = .ok (.goto 4, 3) := by decide +kernel
theorem dX12_shelf_107 : decode cX12_shelf 107 = .ok (.iconst 0, 1) := by decide +kernel
theorem dX12_shelf_108 : decode cX12_shelf 108 = .ok (.bastore, 1) := by decide +kernel
theorem dX12_shelf_109 : decode cX12_shelf 109 = .ok (.iinc 5 1, 3) := by decide +kernel
theorem dX12_shelf_112 : decode cX12_shelf 112 = .ok (.goto (-38), 3) := by decide +kernel
theorem dX12_shelf_115 : decode cX12_shelf 115 = .ok (.aload_n 0, 1) := by decide +kernel
theorem dX12_shelf_116 : decode cX12_shelf 116 = .ok (.iload 4, 2) := by decide +kernel
theorem dX12_shelf_118 : decode cX12_shelf 118 = .ok (.invokevirtual 324, 3) := by decide +kernel
theorem dX12_shelf_121 : decode cX12_shelf 121 = .ok (.pop, 1) := by decide +kernel
theorem dX12_shelf_122 : decode cX12_shelf 122 = .ok (.iload_n 3, 1) := by decide +kernel
theorem dX12_shelf_123 : decode cX12_shelf 123 = .ok (.iconst 1, 1) := by decide +kernel
theorem dX12_shelf_124 : decode cX12_shelf 124 = .ok (.if_icmp .ne 10, 3) := by decide +kernel
theorem dX12_shelf_127 : decode cX12_shelf 127 = .ok (.aload_n 0, 1) := by decide +kernel
theorem dX12_shelf_128 : decode cX12_shelf 128 = .ok (.invokevirtual 327, 3) := by decide +kernel
theorem dX12_shelf_131 : decode cX12_shelf 131 = .ok (.goto 18, 3) := by decide +kernel
theorem dX12_shelf_134 : decode cX12_shelf 134 = .ok (.aload_n 0, 1) := by decide +kernel
theorem dX12_shelf_135 : decode cX12_shelf 135 = .ok (.getfield 67, 3) := by decide +kernel
theorem dX12_shelf_138 : decode cX12_shelf 138 = .ok (.iload 4, 2) := by decide +kernel
theorem dX12_shelf_140 : decode cX12_shelf 140 = .ok (.baload, 1) := by decide +kernel
theorem dX12_shelf_141 : decode cX12_shelf 141 = .ok (.ifCond .eq 7, 3) := by decide +kernel
theorem dX12_shelf_144 : decode cX12_shelf 144 = .ok (.iconst 1, 1) := by decide +kernel
theorem dX12_shelf_145 : decode cX12_shelf 145 = .ok (.goto 4, 3) := by decide +kernel
theorem dX12_shelf_148 : decode cX12_shelf 148 = .ok (.iconst 0, 1) := by decide +kernel
theorem dX12_shelf_149 : decode cX12_shelf 149 = .ok (.ireturn, 1) := by decide +kernel
theorem dX12_oneThief_0 : decode cX12_oneThief 0 = .ok (.iload_n 1, 1) := by decide +kernel
theorem dX12_oneThief_1 : decode cX12_oneThief 1 = .ok (.istore_n 2, 1) := by decide +kernel
theorem dX12_oneThief_2 : decode cX12_oneThief 2 = .ok (.iload_n 2, 1) := by decide +kernel
theorem dX12_oneThief_3 : decode cX12_oneThief 3 = .ok (.ifCond .le 40, 3) := by decide +kernel
theorem dX12_oneThief_6 : decode cX12_oneThief 6 = .ok (.aload_n 0, 1) := by decide +kernel
theorem dX12_oneThief_7 : decode cX12_oneThief 7 = .ok (.getfield 74, 3) := by decide +kernel
theorem dX12_oneThief_10 : decode cX12_oneThief 10 = .ok (.iload_n 2, 1) := by decide +kernel
theorem dX12_oneThief_11 : decode cX12_oneThief 11 = .ok (.aload_n 0, 1) := by decide +kernel
theorem dX12_oneThief_12 : decode cX12_oneThief 12 = .ok (.getfield 74, 3) := by decide +kernel
theorem dX12_oneThief_15 : decode cX12_oneThief 15 = .ok (.iload_n 2, 1) := by decide +kernel
theorem dX12_oneThief_16 : decode cX12_oneThief 16 = .ok (.laload, 1) := by decide +kernel
theorem dX12_oneThief_17 : decode cX12_oneThief 17 = .ok (.iload_n 2, 1) := by decide +kernel
theorem dX12_oneThief_18 : decode cX12_oneThief 18 = .ok (.i2l, 1) := by decide +kernel
theorem dX12_oneThief_19 : decode cX12_oneThief 19 = .ok (.lmul, 1) := by decide +kernel
theorem dX12_oneThief_20 : decode cX12_oneThief 20 = .ok (.aload_n 0, 1) := by decide +kernel
theorem dX12_oneThief_21 : decode cX12_oneThief 21 = .ok (.getfield 74, 3) := by decide +kernel
theorem dX12_oneThief_24 : decode cX12_oneThief 24 = .ok (.iload_n 2, 1) := by decide +kernel
theorem dX12_oneThief_25 : decode cX12_oneThief 25 = .ok (.iconst 1, 1) := by decide +kernel
theorem dX12_oneThief_26 : decode cX12_oneThief 26 = .ok (.isub, 1) := by decide +kernel
theorem dX12_oneThief_27 : decode cX12_oneThief 27 = .ok (.laload, 1) := by decide +kernel
theorem dX12_oneThief_28 : decode cX12_oneThief 28 = .ok (.iload_n 1, 1) := by decide +kernel
theorem dX12_oneThief_29 : decode cX12_oneThief 29 = .ok (.iload_n 2, 1) := by decide +kernel
theorem dX12_oneThief_30 : decode cX12_oneThief 30 = .ok (.isub, 1) := by decide +kernel
theorem dX12_oneThief_31 : decode cX12_oneThief 31 = .ok (.iconst 1, 1) := by decide +kernel
theorem dX12_oneThief_32 : decode cX12_oneThief 32 = .ok (.iadd, 1) := by decide +kernel
theorem dX12_oneThief_33 : decode cX12_oneThief 33 = .ok (.i2l, 1) := by decide +kernel
theorem dX12_oneThief_34 : decode cX12_oneThief 34 = .ok (.lmul, 1) := by decide +kernel
theorem dX12_oneThief_35 : decode cX12_oneThief 35 = .ok (.ladd, 1) := by decide +kernel
theorem dX12_oneThief_36 : decode cX12_oneThief 36 = .ok (.lastore, 1) := by decide +kernel
theorem dX12_oneThief_37 : decode cX12_oneThief 37 = .ok (.iinc 2 (-1), 3) := by decide +kernel
theorem dX12_oneThief_40 : decode cX12_oneThief 40 = .ok (.goto (-38), 3) := by decide +kernel
theorem dX12_oneThief_43 : decode cX12_oneThief 43 = .ok (.aload_n 0, 1) := by decide +kernel
theorem dX12_oneThief_44 : decode cX12_oneThief 44 = .ok (.getfield 74, 3) := by decide +kernel
theorem dX12_oneThief_47 : decode cX12_oneThief 47 = .ok (.iconst 0, 1) := by decide +kernel
theorem dX12_oneThief_48 : decode cX12_oneThief 48 = .ok (.lconst 0, 1) := by decide +kernel
theorem dX12_oneThief_49 : decode cX12_oneThief 49 = .ok (.lastore, 1) := by decide +kernel
theorem dX12_oneThief_50 : decode cX12_oneThief 50 = .ok (.return_, 1) := by decide +kernel
set_option maxRecDepth 20000 in
theorem ggX12_doors_X12_in : GoodIn wsX12_doors wsX12_in := goodIn_r _ [8] (by decide +kernel) (by decide +kernel)
set_option maxRecDepth 20000 in
theorem gX12_doors_X12_in : GoodIn wsX12_doors (va_wsS RX12 90 yX12_in wsX12_in) := goodIn_app (goodIn_of _ (by decide +kernel)) ggX12_doors_X12_in
set_option maxRecDepth 20000 in
theorem ggX12_doors_X12_oneThief : GoodIn wsX12_doors wsX12_oneThief := goodIn_r _ [12, 4, 19, 20, 21, 22, 23, 24, 25, 26, 27, 28, 29, 30, 31, 32, 33, 34, 35, 36, 37, 38, 39, 40, 41, 42, 43, 44, 45, 46, 47, 48, 49, 50, 51, 52, 53, 54, 55, 56] (by decide +kernel) (by decide +kernel)
set_option maxRecDepth 20000 in
theorem gX12_doors_X12_oneThief : GoodIn wsX12_doors (wsV RX12 332 RX12 yX12_oneThief wsX12_oneThief) := goodIn_app (goodIn_of _ (by decide +kernel)) ggX12_doors_X12_oneThief
set_option maxRecDepth 20000 in
theorem ggX12_doors_X12_power : GoodIn wsX12_doors wsX12_power := goodIn_r _ [15] (by decide +kernel) (by decide +kernel)
set_option maxRecDepth 20000 in
theorem gX12_doors_X12_power : GoodIn wsX12_doors (va_wsS RX12 277 yX12_power wsX12_power) := goodIn_app (goodIn_of _ (by decide +kernel)) ggX12_doors_X12_power
set_option maxRecDepth 20000 in
theorem ggX12_doors_X12_lowest : GoodIn wsX12_doors wsX12_lowest := goodIn_r _ [18] (by decide +kernel) (by decide +kernel)
set_option maxRecDepth 20000 in
theorem gX12_doors_X12_lowest : GoodIn wsX12_doors (va_wsS RX12 294 yX12_lowest wsX12_lowest) := goodIn_app (goodIn_of _ (by decide +kernel)) ggX12_doors_X12_lowest
theorem dX12_doors_0 : decode cX12_doors 0 = .ok (.iload_n 1, 1) := by decide +kernel
theorem dX12_doors_1 : decode cX12_doors 1 = .ok (.i2l, 1) := by decide +kernel
theorem dX12_doors_2 : decode cX12_doors 2 = .ok (.lconst 0, 1) := by decide +kernel
theorem dX12_doors_3 : decode cX12_doors 3 = .ok (.ldc2_w 330, 3) := by decide +kernel
theorem dX12_doors_6 : decode cX12_doors 6 = .ok (.invokestatic 90, 3) := by decide +kernel
theorem dX12_doors_9 : decode cX12_doors 9 = .ok (.ifCond .eq 36, 3) := by decide +kernel
theorem dX12_doors_12 : decode cX12_doors 12 = .ok (.iload_n 2, 1) := by decide +kernel
theorem dX12_doors_13 : decode cX12_doors 13 = .ok (.i2l, 1) := by decide +kernel
theorem dX12_doors_14 : decode cX12_doors 14 = .ok (.lconst 1, 1) := by decide +kernel
theorem dX12_doors_15 : decode cX12_doors 15 = .ok (.ldc2_w 272, 3) := by decide +kernel
theorem dX12_doors_18 : decode cX12_doors 18 = .ok (.invokestatic 90, 3) := by decide +kernel
theorem dX12_doors_21 : decode cX12_doors 21 = .ok (.ifCond .eq 24, 3) := by decide +kernel
theorem dX12_doors_24 : decode cX12_doors 24 = .ok (.iload_n 3, 1) := by decide +kernel
theorem dX12_doors_25 : decode cX12_doors 25 = .ok (.i2l, 1) := by decide +kernel
theorem dX12_doors_26 : decode cX12_doors 26 = .ok (.lconst 0, 1) := by decide +kernel
theorem dX12_doors_27 : decode cX12_doors 27 = .ok (.lconst 1, 1) := by decide +kernel
theorem dX12_doors_28 : decode cX12_doors 28 = .ok (.invokestatic 90, 3) := by decide +kernel
theorem dX12_doors_31 : decode cX12_doors 31 = .ok (.ifCond .eq 14, 3) := by decide +kernel
theorem dX12_doors_34 : decode cX12_doors 34 = .ok (.iload 4, 2) := by decide +kernel
theorem dX12_doors_36 : decode cX12_doors 36 = .ok (.i2l, 1) := by decide +kernel
theorem dX12_doors_37 : decode cX12_doors 37 = .ok (.lconst 0, 1) := by decide +kernel
theorem dX12_doors_38 : decode cX12_doors 38 = .ok (.lconst 1, 1) := by decide +kernel
theorem dX12_doors_39 : decode cX12_doors 39 = .ok (.invokestatic 90, 3) := by decide +kernel
theorem dX12_doors_42 : decode cX12_doors 42 = .ok (.ifCond .ne 7, 3) := by decide +kernel
theorem dX12_doors_45 : decode cX12_doors 45 = .ok (.ldc2_w 289, 3) := by decide +kernel
theorem dX12_doors_48 : decode cX12_doors 48 = .ok (.lreturn, 1) := by decide +kernel
theorem dX12_doors_49 : decode cX12_doors 49 = .ok (.iconst 0, 1) := by decide +kernel
theorem dX12_doors_50 : decode cX12_doors 50 = .ok (.istore 5, 2) := by decide +kernel
theorem dX12_doors_52 : decode cX12_doors 52 = .ok (.iload 5, 2) := by decide +kernel
theorem dX12_doors_54 : decode cX12_doors 54 = .ok (.iload_n 2, 1) := by decide +kernel
theorem dX12_doors_55 : decode cX12_doors 55 = .ok (.if_icmp .gt 26, 3) := by decide +kernel
theorem dX12_doors_58 : decode cX12_doors 58 = .ok (.aload_n 0, 1) := by decide +kernel
theorem dX12_doors_59 : decode cX12_doors 59 = .ok (.getfield 74, 3) := by decide +kernel
theorem dX12_doors_62 : decode cX12_doors 62 = .ok (.iload 5, 2) := by decide +kernel
theorem dX12_doors_64 : decode cX12_doors 64 = .ok (.iload 5, 2) := by decide +kernel
theorem dX12_doors_66 : decode cX12_doors 66 = .ok (.ifCond .ne 7, 3) := by decide +kernel
theorem dX12_doors_69 : decode cX12_doors 69 = .ok (.lconst 1, 1) := by decide +kernel
theorem dX12_doors_70 : decode cX12_doors 70 = .ok (.goto 4, 3) := by decide +kernel
theorem dX12_doors_73 : decode cX12_doors 73 = .ok (.lconst 0, 1) := by decide +kernel
theorem dX12_doors_74 : decode cX12_doors 74 = .ok (.lastore, 1) := by decide +kernel
theorem dX12_doors_75 : decode cX12_doors 75 = .ok (.iinc 5 1, 3) := by decide +kernel
theorem dX12_doors_78 : decode cX12_doors 78 = .ok (.goto (-26), 3) := by decide +kernel
theorem dX12_doors_81 : decode cX12_doors 81 = .ok (.iconst 0, 1) := by decide +kernel
theorem dX12_doors_82 : decode cX12_doors 82 = .ok (.istore 5, 2) := by decide +kernel
theorem dX12_doors_84 : decode cX12_doors 84 = .ok (.iload 5, 2) := by decide +kernel
theorem dX12_doors_86 : decode cX12_doors 86 = .ok (.iload_n 1, 1) := by decide +kernel
theorem dX12_doors_87 : decode cX12_doors 87 = .ok (.if_icmp .ge 14, 3) := by decide +kernel
theorem dX12_doors_90 : decode cX12_doors 90 = .ok (.aload_n 0, 1) := by decide +kernel
theorem dX12_doors_91 : decode cX12_doors 91 = .ok (.iload_n 2, 1) := by decide +kernel
theorem dX12_doors_92 : decode cX12_doors 92 = .ok (.invokevirtual 332, 3) := by decide +kernel
theorem dX12_doors_95 : decode cX12_doors 95 = .ok (.iinc 5 1, 3) := by decide +kernel
theorem dX12_doors_98 : decode cX12_doors 98 = .ok (.goto (-14), 3) := by decide +kernel
theorem dX12_doors_101 : decode cX12_doors 101 = .ok (.iload_n 3, 1) := by decide +kernel
theorem dX12_doors_102 : decode cX12_doors 102 = .ok (.iconst 1, 1) := by decide +kernel
theorem dX12_doors_103 : decode cX12_doors 103 = .ok (.if_icmp .ne 12, 3) := by decide +kernel
theorem dX12_doors_106 : decode cX12_doors 106 = .ok (.aload_n 0, 1) := by decide +kernel
theorem dX12_doors_107 : decode cX12_doors 107 = .ok (.getfield 74, 3) := by decide +kernel
theorem dX12_doors_110 : decode cX12_doors 110 = .ok (.iload_n 2, 1) := by decide +kernel
theorem dX12_doors_111 : decode cX12_doors 111 = .ok (.laload, 1) := by decide +kernel
theorem dX12_doors_112 : decode cX12_doors 112 = .ok (.goto 18, 3) := by decide +kernel
theorem dX12_doors_115 : decode cX12_doors 115 = .ok (.iload_n 1, 1) := by decide +kernel
theorem dX12_doors_116 : decode cX12_doors 116 = .ok (.iload_n 2, 1) := by decide +kernel
theorem dX12_doors_117 : decode cX12_doors 117 = .ok (.if_icmp .le 7, 3) := by decide +kernel
theorem dX12_doors_120 : decode cX12_doors 120 = .ok (.lconst 0, 1) := by decide +kernel
theorem dX12_doors_121 : decode cX12_doors 121 = .ok (.goto 9, 3) := by decide +kernel
theorem dX12_doors_124 : decode cX12_doors 124 = .ok (.aload_n 0, 1) := by decide +kernel
theorem dX12_doors_125 : decode cX12_doors 125 = .ok (.getfield 74, 3) := by decide +kernel
theorem dX12_doors_128 : decode cX12_doors 128 = .ok (.iload_n 1, 1) := by decide +kernel
theorem dX12_doors_129 : decode cX12_doors 129 = .ok (.laload, 1) := by decide +kernel
theorem dX12_doors_130 : decode cX12_doors 130 = .ok (.lstore 5, 2) := by decide +kernel
theorem dX12_doors_132 : decode cX12_doors 132 = .ok (.lload 5, 2) := by decide +kernel
theorem dX12_doors_134 : decode cX12_doors 134 = .ok (.iload_n 2, 1) := by decide +kernel
theorem dX12_doors_135 : decode cX12_doors 135 = .ok (.i2l, 1) := by decide +kernel
theorem dX12_doors_136 : decode cX12_doors 136 = .ok (.iload_n 1, 1) := by decide +kernel
theorem dX12_doors_137 : decode cX12_doors 137 = .ok (.invokestatic 277, 3) := by decide +kernel
theorem dX12_doors_140 : decode cX12_doors 140 = .ok (.iload 4, 2) := by decide +kernel
theorem dX12_doors_142 : decode cX12_doors 142 = .ok (.invokestatic 294, 3) := by decide +kernel
theorem dX12_doors_145 : decode cX12_doors 145 = .ok (.lreturn, 1) := by decide +kernel
theorem dX12_actBy_0 : decode cX12_actBy 0 = .ok (.iload_n 0, 1) := by decide +kernel
theorem dX12_actBy_1 : decode cX12_actBy 1 = .ok (.tableswitch 47 0 5 #[39, 39, 39, 41, 43, 45], 39) := by decide +kernel
theorem dX12_actBy_40 : decode cX12_actBy 40 = .ok (.iconst 0, 1) := by decide +kernel
theorem dX12_actBy_41 : decode cX12_actBy 41 = .ok (.ireturn, 1) := by decide +kernel
theorem dX12_actBy_42 : decode cX12_actBy 42 = .ok (.iconst 1, 1) := by decide +kernel
theorem dX12_actBy_43 : decode cX12_actBy 43 = .ok (.ireturn, 1) := by decide +kernel
theorem dX12_actBy_44 : decode cX12_actBy 44 = .ok (.iconst 2, 1) := by decide +kernel
theorem dX12_actBy_45 : decode cX12_actBy 45 = .ok (.ireturn, 1) := by decide +kernel
theorem dX12_actBy_46 : decode cX12_actBy 46 = .ok (.iconst 3, 1) := by decide +kernel
theorem dX12_actBy_47 : decode cX12_actBy 47 = .ok (.ireturn, 1) := by decide +kernel
theorem dX12_actBy_48 : decode cX12_actBy 48 = .ok (.iconst 4, 1) := by decide +kernel
theorem dX12_actBy_49 : decode cX12_actBy 49 = .ok (.ireturn, 1) := by decide +kernel
theorem dX12_fitForSale_0 : decode cX12_fitForSale 0 = .ok (.iconst 0, 1) := by decide +kernel
theorem dX12_fitForSale_1 : decode cX12_fitForSale 1 = .ok (.istore_n 1, 1) := by decide +kernel
theorem dX12_fitForSale_2 : decode cX12_fitForSale 2 = .ok (.iconst 0, 1) := by decide +kernel
theorem dX12_fitForSale_3 : decode cX12_fitForSale 3 = .ok (.istore_n 2, 1) := by decide +kernel
theorem dX12_fitForSale_4 : decode cX12_fitForSale 4 = .ok (.iload_n 2, 1) := by decide +kernel
theorem dX12_fitForSale_5 : decode cX12_fitForSale 5 = .ok (.bipush 12, 2) := by decide +kernel
theorem dX12_fitForSale_7 : decode cX12_fitForSale 7 = .ok (.if_icmp .ge 27, 3) := by decide +kernel
theorem dX12_fitForSale_10 : decode cX12_fitForSale 10 = .ok (.iload_n 1, 1) := by decide +kernel
theorem dX12_fitForSale_11 : decode cX12_fitForSale 11 = .ok (.aload_n 0, 1) := by decide +kernel
theorem dX12_fitForSale_12 : decode cX12_fitForSale 12 = .ok (.getfield 13, 3) := by decide +kernel
theorem dX12_fitForSale_15 : decode cX12_fitForSale 15 = .ok (.iload_n 2, 1) := by decide +kernel
theorem dX12_fitForSale_16 : decode cX12_fitForSale 16 = .ok (.iaload, 1) := by decide +kernel
theorem dX12_fitForSale_17 : decode cX12_fitForSale 17 = .ok (.iconst 1, 1) := by decide +kernel
theorem dX12_fitForSale_18 : decode cX12_fitForSale 18 = .ok (.if_icmp .le 7, 3) := by decide +kernel
theorem dX12_fitForSale_21 : decode cX12_fitForSale 21 = .ok (.iconst 1, 1) := by decide +kernel
theorem dX12_fitForSale_22 : decode cX12_fitForSale 22 = .ok (.goto 4, 3) := by decide +kernel
theorem dX12_fitForSale_25 : decode cX12_fitForSale 25 = .ok (.iconst 0, 1) := by decide +kernel
theorem dX12_fitForSale_26 : decode cX12_fitForSale 26 = .ok (.iadd, 1) := by decide +kernel
theorem dX12_fitForSale_27 : decode cX12_fitForSale 27 = .ok (.istore_n 1, 1) := by decide +kernel
theorem dX12_fitForSale_28 : decode cX12_fitForSale 28 = .ok (.iinc 2 1, 3) := by decide +kernel
theorem dX12_fitForSale_31 : decode cX12_fitForSale 31 = .ok (.goto (-27), 3) := by decide +kernel
theorem dX12_fitForSale_34 : decode cX12_fitForSale 34 = .ok (.iload_n 1, 1) := by decide +kernel
theorem dX12_fitForSale_35 : decode cX12_fitForSale 35 = .ok (.ireturn, 1) := by decide +kernel
set_option maxRecDepth 20000 in
theorem ggX12_year_X12_in : GoodIn wsX12_year wsX12_in := goodIn_r _ [11] (by decide +kernel) (by decide +kernel)
set_option maxRecDepth 20000 in
theorem gX12_year_X12_in : GoodIn wsX12_year (va_wsS RX12 90 yX12_in wsX12_in) := goodIn_app (goodIn_of _ (by decide +kernel)) ggX12_year_X12_in
set_option maxRecDepth 20000 in
theorem ggX12_year_X12_keepNow : GoodIn wsX12_year wsX12_keepNow := goodIn_r _ [15, 16, 17, 18, 7, 19, 20, 83, 84, 85, 86, 87, 88, 89, 90, 91, 92, 93, 94, 95, 96, 97, 98, 99, 100, 101, 102, 103, 104, 105, 106, 107, 108, 109, 110, 111, 112, 113, 114, 115, 116, 117, 118, 119, 120] (by decide +kernel) (by decide +kernel)
set_option maxRecDepth 20000 in
theorem gX12_year_X12_keepNow : GoodIn wsX12_year (wsV RX12 227 RX12 yX12_keepNow wsX12_keepNow) := goodIn_app (goodIn_of _ (by decide +kernel)) ggX12_year_X12_keepNow
set_option maxRecDepth 20000 in
theorem ggX12_year_X12_actBy : GoodIn wsX12_year wsX12_actBy := goodIn_r _ [23] (by decide +kernel) (by decide +kernel)
set_option maxRecDepth 20000 in
theorem gX12_year_X12_actBy : GoodIn wsX12_year (va_wsS RX12 341 yX12_actBy wsX12_actBy) := goodIn_app (goodIn_of _ (by decide +kernel)) ggX12_year_X12_actBy
set_option maxRecDepth 20000 in
theorem ggX12_year_X12_whyNot : GoodIn wsX12_year wsX12_whyNot := goodIn_r _ [27, 20, 28, 29, 30, 10, 31, 17, 19, 32, 33, 34, 35, 36, 37, 38, 18, 7, 39, 40, 41, 42, 43, 44, 45, 46, 47, 83, 84, 85, 86, 87, 88, 89, 90, 91, 92, 93, 94, 95, 96, 97, 98, 99, 100, 101, 102, 103, 104, 105, 106, 107, 108, 109, 110, 111, 112, 113, 114, 115, 116, 117, 118, 119, 120] (by decide +kernel) (by decide +kernel)
set_option maxRecDepth 20000 in
theorem gX12_year_X12_whyNot : GoodIn wsX12_year (wsV RX12 219 RX12 yX12_whyNot wsX12_whyNot) := goodIn_app (goodIn_of _ (by decide +kernel)) ggX12_year_X12_whyNot
set_option maxRecDepth 20000 in
theorem ggX12_year_X12_happen : GoodIn wsX12_year wsX12_happen := goodIn_r _ [51, 19, 52, 53, 54, 10, 55, 56, 17, 18, 32, 33, 34, 57, 58, 59, 60, 7, 61, 62, 43, 44, 45, 46, 47, 63, 64, 65, 66, 67, 68, 69, 70, 20, 83, 84, 85, 86, 87, 88, 89, 90, 91, 92, 93, 94, 95, 96, 97, 98, 99, 100, 101, 102, 103, 104, 105, 106, 107, 108, 109, 110, 111, 112, 113, 114, 115, 116, 117, 118, 119, 120] (by decide +kernel) (by decide +kernel)
set_option maxRecDepth 20000 in
theorem gX12_year_X12_happen : GoodIn wsX12_year (wsV RX12 203 RX12 yX12_happen wsX12_happen) := goodIn_app (goodIn_of _ (by decide +kernel)) ggX12_year_X12_happen
set_option maxRecDepth 20000 in
theorem ggX12_year_X12_fitForSale : GoodIn wsX12_year wsX12_fitForSale := goodIn_r _ [74, 18, 83, 84, 85, 86, 87, 88, 89, 90, 91, 92, 93, 94, 95, 96, 97, 98, 99, 100, 101, 102, 103, 104, 105, 106, 107, 108, 109, 110, 111, 112, 113, 114, 115, 116, 117, 118, 119, 120] (by decide +kernel) (by decide +kernel)
set_option maxRecDepth 20000 in
theorem gX12_year_X12_fitForSale : GoodIn wsX12_year (wsV RX12 344 RX12 yX12_fitForSale wsX12_fitForSale) := goodIn_app (goodIn_of _ (by decide +kernel)) ggX12_year_X12_fitForSale
set_option maxRecDepth 20000 in
theorem ggX12_year_X12_manyOf : GoodIn wsX12_year wsX12_manyOf := goodIn_r _ [78, 17, 83, 84, 85, 86, 87, 88, 89, 90, 91, 92, 93, 94, 95, 96, 97, 98, 99, 100, 101, 102, 103, 104, 105, 106, 107, 108, 109, 110, 111, 112, 113, 114, 115, 116, 117, 118, 119, 120] (by decide +kernel) (by decide +kernel)
set_option maxRecDepth 20000 in
theorem gX12_year_X12_manyOf : GoodIn wsX12_year (wsV RX12 245 RX12 yX12_manyOf wsX12_manyOf) := goodIn_app (goodIn_of _ (by decide +kernel)) ggX12_year_X12_manyOf
set_option maxRecDepth 20000 in
theorem ggX12_year_X12_back : GoodIn wsX12_year wsX12_back := goodIn_r _ [82, 17, 16, 18, 7, 19, 20, 83, 84, 85, 86, 87, 88, 89, 90, 91, 92, 93, 94, 95, 96, 97, 98, 99, 100, 101, 102, 103, 104, 105, 106, 107, 108, 109, 110, 111, 112, 113, 114, 115, 116, 117, 118, 119, 120] (by decide +kernel) (by decide +kernel)
set_option maxRecDepth 20000 in
theorem gX12_year_X12_back : GoodIn wsX12_year (wsV RX12 242 RX12 yX12_back wsX12_back) := goodIn_app (goodIn_of _ (by decide +kernel)) ggX12_year_X12_back
theorem dX12_year_0 : decode cX12_year 0 = .ok (.iload_n 1, 1) := by decide +kernel
theorem dX12_year_1 : decode cX12_year 1 = .ok (.i2l, 1) := by decide +kernel
theorem dX12_year_2 : decode cX12_year 2 = .ok (.lconst 0, 1) := by decide +kernel
theorem dX12_year_3 : decode cX12_year 3 = .ok (.ldc2_w 107, 3) := by decide +kernel
theorem dX12_year_6 : decode cX12_year 6 = .ok (.invokestatic 90, 3) := by decide +kernel
theorem dX12_year_9 : decode cX12_year 9 = .ok (.ifCond .eq 27, 3) := by decide +kernel
theorem dX12_year_12 : decode cX12_year 12 = .ok (.iload_n 2, 1) := by decide +kernel
theorem dX12_year_13 : decode cX12_year 13 = .ok (.i2l, 1) := by decide +kernel
theorem dX12_year_14 : decode cX12_year 14 = .ok (.lconst 1, 1) := by decide +kernel
theorem dX12_year_15 : decode cX12_year 15 = .ok (.ldc2_w 105, 3) := by decide +kernel
theorem dX12_year_18 : decode cX12_year 18 = .ok (.invokestatic 90, 3) := by decide +kernel
theorem dX12_year_21 : decode cX12_year 21 = .ok (.ifCond .eq 15, 3) := by decide +kernel
theorem dX12_year_24 : decode cX12_year 24 = .ok (.iload_n 3, 1) := by decide +kernel
theorem dX12_year_25 : decode cX12_year 25 = .ok (.i2l, 1) := by decide +kernel
theorem dX12_year_26 : decode cX12_year 26 = .ok (.lconst 0, 1) := by decide +kernel
theorem dX12_year_27 : decode cX12_year 27 = .ok (.ldc2_w 237, 3) := by decide +kernel
theorem dX12_year_30 : decode cX12_year 30 = .ok (.invokestatic 90, 3) := by decide +kernel
theorem dX12_year_33 : decode cX12_year 33 = .ok (.ifCond .ne 6, 3) := by decide +kernel
theorem dX12_year_36 : decode cX12_year 36 = .ok (.bipush (-2), 2) := by decide +kernel
theorem dX12_year_38 : decode cX12_year 38 = .ok (.ireturn, 1) := by decide +kernel
theorem dX12_year_39 : decode cX12_year 39 = .ok (.aload_n 0, 1) := by decide +kernel
theorem dX12_year_40 : decode cX12_year 40 = .ok (.invokevirtual 227, 3) := by decide +kernel
theorem dX12_year_43 : decode cX12_year 43 = .ok (.iload_n 1, 1) := by decide +kernel
theorem dX12_year_44 : decode cX12_year 44 = .ok (.istore 4, 2) := by decide +kernel
theorem dX12_year_46 : decode cX12_year 46 = .ok (.iconst 0, 1) := by decide +kernel
theorem dX12_year_47 : decode cX12_year 47 = .ok (.istore 5, 2) := by decide +kernel
theorem dX12_year_49 : decode cX12_year 49 = .ok (.iload 5, 2) := by decide +kernel
theorem dX12_year_51 : decode cX12_year 51 = .ok (.iload_n 2, 1) := by decide +kernel
theorem dX12_year_52 : decode cX12_year 52 = .ok (.if_icmp .ge 96, 3) := by decide +kernel
theorem dX12_year_55 : decode cX12_year 55 = .ok (.ldc2_w 335, 3) := by decide +kernel
theorem dX12_year_58 : decode cX12_year 58 = .ok (.iload 4, 2) := by decide +kernel
theorem dX12_year_60 : decode cX12_year 60 = .ok (.i2l, 1) := by decide +kernel
theorem dX12_year_61 : decode cX12_year 61 = .ok (.lmul, 1) := by decide +kernel
theorem dX12_year_62 : decode cX12_year 62 = .ok (.ldc2_w 337, 3) := by decide +kernel
theorem dX12_year_65 : decode cX12_year 65 = .ok (.ladd, 1) := by decide +kernel
theorem dX12_year_66 : decode cX12_year 66 = .ok (.ldc2_w 339, 3) := by decide +kernel
theorem dX12_year_69 : decode cX12_year 69 = .ok (.lrem, 1) := by decide +kernel
theorem dX12_year_70 : decode cX12_year 70 = .ok (.l2i, 1) := by decide +kernel
theorem dX12_year_71 : decode cX12_year 71 = .ok (.istore 4, 2) := by decide +kernel
theorem dX12_year_73 : decode cX12_year 73 = .ok (.iload 4, 2) := by decide +kernel
theorem dX12_year_75 : decode cX12_year 75 = .ok (.bipush 8, 2) := by decide +kernel
theorem dX12_year_77 : decode cX12_year 77 = .ok (.idiv, 1) := by decide +kernel
theorem dX12_year_78 : decode cX12_year 78 = .ok (.bipush 8, 2) := by decide +kernel
theorem dX12_year_80 : decode cX12_year 80 = .ok (.irem, 1) := by decide +kernel
theorem dX12_year_81 : decode cX12_year 81 = .ok (.invokestatic 341, 3) := by decide +kernel
theorem dX12_year_84 : decode cX12_year 84 = .ok (.istore 6, 2) := by decide +kernel
theorem dX12_year_86 : decode cX12_year 86 = .ok (.iload 4, 2) := by decide +kernel
theorem dX12_year_88 : decode cX12_year 88 = .ok (.bipush 64, 2) := by decide +kernel
theorem dX12_year_90 : decode cX12_year 90 = .ok (.idiv, 1) := by decide +kernel
theorem dX12_year_91 : decode cX12_year 91 = .ok (.bipush 12, 2) := by decide +kernel
theorem dX12_year_93 : decode cX12_year 93 = .ok (.irem, 1) := by decide +kernel
theorem dX12_year_94 : decode cX12_year 94 = .ok (.istore 7, 2) := by decide +kernel
theorem dX12_year_96 : decode cX12_year 96 = .ok (.iload 4, 2) := by decide +kernel
theorem dX12_year_98 : decode cX12_year 98 = .ok (.bipush 64, 2) := by decide +kernel
theorem dX12_year_100 : decode cX12_year 100 = .ok (.idiv, 1) := by decide +kernel
theorem dX12_year_101 : decode cX12_year 101 = .ok (.bipush 12, 2) := by decide +kernel
theorem dX12_year_103 : decode cX12_year 103 = .ok (.idiv, 1) := by decide +kernel
theorem dX12_year_104 : decode cX12_year 104 = .ok (.bipush 8, 2) := by decide +kernel
theorem dX12_year_106 : decode cX12_year 106 = .ok (.irem, 1) := by decide +kernel
theorem dX12_year_107 : decode cX12_year 107 = .ok (.istore 8, 2) := by decide +kernel
theorem dX12_year_109 : decode cX12_year 109 = .ok (.aload_n 0, 1) := by decide +kernel
theorem dX12_year_110 : decode cX12_year 110 = .ok (.iload 6, 2) := by decide +kernel
theorem dX12_year_112 : decode cX12_year 112 = .ok (.iload 4, 2) := by decide +kernel
theorem dX12_year_114 : decode cX12_year 114 = .ok (.bipush 8, 2) := by decide +kernel
theorem dX12_year_116 : decode cX12_year 116 = .ok (.irem, 1) := by decide +kernel
theorem dX12_year_117 : decode cX12_year 117 = .ok (.iload 7, 2) := by decide +kernel
theorem dX12_year_119 : decode cX12_year 119 = .ok (.iload 8, 2) := by decide +kernel
theorem dX12_year_121 : decode cX12_year 121 = .ok (.invokevirtual 219, 3) := by decide +kernel
theorem dX12_year_124 : decode cX12_year 124 = .ok (.ifCond .ne 18, 3) := by decide +kernel
theorem dX12_year_127 : decode cX12_year 127 = .ok (.aload_n 0, 1) := by decide +kernel
theorem dX12_year_128 : decode cX12_year 128 = .ok (.iload 6, 2) := by decide +kernel
theorem dX12_year_130 : decode cX12_year 130 = .ok (.iload 4, 2) := by decide +kernel
theorem dX12_year_132 : decode cX12_year 132 = .ok (.bipush 8, 2) := by decide +kernel
theorem dX12_year_134 : decode cX12_year 134 = .ok (.irem, 1) := by decide +kernel
theorem dX12_year_135 : decode cX12_year 135 = .ok (.iload 7, 2) := by decide +kernel
theorem dX12_year_137 : decode cX12_year 137 = .ok (.iload 8, 2) := by decide +kernel
theorem dX12_year_139 : decode cX12_year 139 = .ok (.invokevirtual 203, 3) := by decide +kernel
theorem dX12_year_142 : decode cX12_year 142 = .ok (.iinc 5 1, 3) := by decide +kernel
theorem dX12_year_145 : decode cX12_year 145 = .ok (.goto (-96), 3) := by decide +kernel
theorem dX12_year_148 : decode cX12_year 148 = .ok (.aload_n 0, 1) := by decide +kernel
theorem dX12_year_149 : decode cX12_year 149 = .ok (.iload_n 3, 1) := by decide +kernel
theorem dX12_year_150 : decode cX12_year 150 = .ok (.ifCond .ne 10, 3) := by decide +kernel
theorem dX12_year_153 : decode cX12_year 153 = .ok (.aload_n 0, 1) := by decide +kernel
theorem dX12_year_154 : decode cX12_year 154 = .ok (.invokevirtual 344, 3) := by decide +kernel
theorem dX12_year_157 : decode cX12_year 157 = .ok (.goto 22, 3) := by decide +kernel
theorem dX12_year_160 : decode cX12_year 160 = .ok (.iload_n 3, 1) := by decide +kernel
theorem dX12_year_161 : decode cX12_year 161 = .ok (.iconst 1, 1) := by decide +kernel
theorem dX12_year_162 : decode cX12_year 162 = .ok (.if_icmp .ne 12, 3) := by decide +kernel
theorem dX12_year_165 : decode cX12_year 165 = .ok (.aload_n 0, 1) := by decide +kernel
theorem dX12_year_166 : decode cX12_year 166 = .ok (.getfield 22, 3) := by decide +kernel
theorem dX12_year_169 : decode cX12_year 169 = .ok (.iconst 0, 1) := by decide +kernel
theorem dX12_year_170 : decode cX12_year 170 = .ok (.iaload, 1) := by decide +kernel
theorem dX12_year_171 : decode cX12_year 171 = .ok (.goto 8, 3) := by decide +kernel
theorem dX12_year_174 : decode cX12_year 174 = .ok (.aload_n 0, 1) := by decide +kernel
theorem dX12_year_175 : decode cX12_year 175 = .ok (.iconst 0, 1) := by decide +kernel
theorem dX12_year_176 : decode cX12_year 176 = .ok (.invokevirtual 245, 3) := by decide +kernel
theorem dX12_year_179 : decode cX12_year 179 = .ok (.invokevirtual 242, 3) := by decide +kernel
theorem dX12_year_182 : decode cX12_year 182 = .ok (.ireturn, 1) := by decide +kernel
theorem dX12_pass_0 : decode cX12_pass 0 = .ok (.aload_n 0, 1) := by decide +kernel
theorem dX12_pass_1 : decode cX12_pass 1 = .ok (.getfield 347, 3) := by decide +kernel
theorem dX12_pass_4 : decode cX12_pass 4 = .ok (.ifCond .eq 7, 3) := by decide +kernel
theorem dX12_pass_7 : decode cX12_pass 7 = .ok (.iload_n 1, 1) := by decide +kernel
theorem dX12_pass_8 : decode cX12_pass 8 = .ok (.goto 12, 3) := by decide +kernel
theorem dX12_pass_11 : decode cX12_pass 11 = .ok (.aload_n 0, 1) := by decide +kernel
theorem dX12_pass_12 : decode cX12_pass 12 = .ok (.getfield 78, 3) := by decide +kernel
theorem dX12_pass_15 : decode cX12_pass 15 = .ok (.aload_n 0, 1) := by decide +kernel
theorem dX12_pass_16 : decode cX12_pass 16 = .ok (.getfield 351, 3) := by decide +kernel
theorem dX12_pass_19 : decode cX12_pass 19 = .ok (.iaload, 1) := by decide +kernel
theorem dX12_pass_20 : decode cX12_pass 20 = .ok (.istore_n 2, 1) := by decide +kernel
theorem dX12_pass_21 : decode cX12_pass 21 = .ok (.aload_n 0, 1) := by decide +kernel
theorem dX12_pass_22 : decode cX12_pass 22 = .ok (.getfield 78, 3) := by decide +kernel
theorem dX12_pass_25 : decode cX12_pass 25 = .ok (.aload_n 0, 1) := by decide +kernel
theorem dX12_pass_26 : decode cX12_pass 26 = .ok (.getfield 351, 3) := by decide +kernel
theorem dX12_pass_29 : decode cX12_pass 29 = .ok (.iload_n 2, 1) := by decide +kernel
theorem dX12_pass_30 : decode cX12_pass 30 = .ok (.iastore, 1) := by decide +kernel
theorem dX12_pass_31 : decode cX12_pass 31 = .ok (.aload_n 0, 1) := by decide +kernel
theorem dX12_pass_32 : decode cX12_pass 32 = .ok (.dup, 1) := by decide +kernel
theorem dX12_pass_33 : decode cX12_pass 33 = .ok (.getfield 351, 3) := by decide +kernel
theorem dX12_pass_36 : decode cX12_pass 36 = .ok (.iconst 1, 1) := by decide +kernel
theorem dX12_pass_37 : decode cX12_pass 37 = .ok (.iadd, 1) := by decide +kernel
theorem dX12_pass_38 : decode cX12_pass 38 = .ok (.putfield 351, 3) := by decide +kernel
theorem dX12_pass_41 : decode cX12_pass 41 = .ok (.iload_n 2, 1) := by decide +kernel
theorem dX12_pass_42 : decode cX12_pass 42 = .ok (.ireturn, 1) := by decide +kernel
set_option maxRecDepth 20000 in
theorem ggX12_passRow_X12_pass : GoodIn wsX12_passRow wsX12_pass := goodIn_r _ [5, 6, 7, 8, 9, 10, 11, 12, 13, 14, 15, 16, 17, 18, 19, 20, 21, 22, 23, 24, 25, 26, 27, 28, 29, 30, 31, 32, 33, 34, 35, 36, 37, 38, 39, 40, 41, 42, 43, 44, 45, 46] (by decide +kernel) (by decide +kernel)
set_option maxRecDepth 20000 in
theorem gX12_passRow_X12_pass : GoodIn wsX12_passRow (wsV RX12 354 RX12 yX12_pass wsX12_pass) := goodIn_app (goodIn_of _ (by decide +kernel)) ggX12_passRow_X12_pass
theorem dX12_passRow_0 : decode cX12_passRow 0 = .ok (.iconst 0, 1) := by decide +kernel
theorem dX12_passRow_1 : decode cX12_passRow 1 = .ok (.istore_n 3, 1) := by decide +kernel
theorem dX12_passRow_2 : decode cX12_passRow 2 = .ok (.iload_n 3, 1) := by decide +kernel
theorem dX12_passRow_3 : decode cX12_passRow 3 = .ok (.iload_n 2, 1) := by decide +kernel
theorem dX12_passRow_4 : decode cX12_passRow 4 = .ok (.if_icmp .ge 19, 3) := by decide +kernel
theorem dX12_passRow_7 : decode cX12_passRow 7 = .ok (.aload_n 1, 1) := by decide +kernel
theorem dX12_passRow_8 : decode cX12_passRow 8 = .ok (.iload_n 3, 1) := by decide +kernel
theorem dX12_passRow_9 : decode cX12_passRow 9 = .ok (.aload_n 0, 1) := by decide +kernel
theorem dX12_passRow_10 : decode cX12_passRow 10 = .ok (.aload_n 1, 1) := by decide +kernel
theorem dX12_passRow_11 : decode cX12_passRow 11 = .ok (.iload_n 3, 1) := by decide +kernel
theorem dX12_passRow_12 : decode cX12_passRow 12 = .ok (.iaload, 1) := by decide +kernel
theorem dX12_passRow_13 : decode cX12_passRow 13 = .ok (.invokevirtual 354, 3) := by decide +kernel
theorem dX12_passRow_16 : decode cX12_passRow 16 = .ok (.iastore, 1) := by decide +kernel
theorem dX12_passRow_17 : decode cX12_passRow 17 = .ok (.iinc 3 1, 3) := by decide +kernel
theorem dX12_passRow_20 : decode cX12_passRow 20 = .ok (.goto (-18), 3) := by decide +kernel
theorem dX12_passRow_23 : decode cX12_passRow 23 = .ok (.return_, 1) := by decide +kernel
set_option maxRecDepth 20000 in
theorem ggX12_passAll_X12_pass : GoodIn wsX12_passAll wsX12_pass := goodIn_r _ [16, 17, 18, 19, 24, 25, 26, 27, 28, 29, 30, 31, 32, 33, 34, 35, 36, 37, 38, 39, 40, 41, 42, 43, 44, 45, 46, 47, 48, 49, 50, 51, 52, 53, 54, 55, 56, 57, 58, 59, 60, 61] (by decide +kernel) (by decide +kernel)
set_option maxRecDepth 20000 in
theorem gX12_passAll_X12_pass : GoodIn wsX12_passAll (wsV RX12 354 RX12 yX12_pass wsX12_pass) := goodIn_app (goodIn_of _ (by decide +kernel)) ggX12_passAll_X12_pass
set_option maxRecDepth 20000 in
theorem ggX12_passAll_X12_passRow : GoodIn wsX12_passAll wsX12_passRow := goodIn_r _ [23, 12, 13, 14, 15, 16, 17, 18, 19, 24, 25, 26, 27, 28, 29, 30, 31, 32, 33, 34, 35, 36, 37, 38, 39, 40, 41, 42, 43, 44, 45, 46, 47, 48, 49, 50, 51, 52, 53, 54, 55, 56, 57, 58, 59, 60, 61] (by decide +kernel) (by decide +kernel)
set_option maxRecDepth 20000 in
theorem gX12_passAll_X12_passRow : GoodIn wsX12_passAll (wsV RX12 357 RX12 yX12_passRow wsX12_passRow) := goodIn_app (goodIn_of _ (by decide +kernel)) ggX12_passAll_X12_passRow
theorem dX12_passAll_0 : decode cX12_passAll 0 = .ok (.aload_n 0, 1) := by decide +kernel
theorem dX12_passAll_1 : decode cX12_passAll 1 = .ok (.aload_n 0, 1) := by decide +kernel
theorem dX12_passAll_2 : decode cX12_passAll 2 = .ok (.aload_n 0, 1) := by decide +kernel
theorem dX12_passAll_3 : decode cX12_passAll 3 = .ok (.getfield 84, 3) := by decide +kernel
theorem dX12_passAll_6 : decode cX12_passAll 6 = .ok (.invokevirtual 354, 3) := by decide +kernel
theorem dX12_passAll_9 : decode cX12_passAll 9 = .ok (.putfield 84, 3) := by decide +kernel
theorem dX12_passAll_12 : decode cX12_passAll 12 = .ok (.aload_n 0, 1) := by decide +kernel
theorem dX12_passAll_13 : decode cX12_passAll 13 = .ok (.aload_n 0, 1) := by decide +kernel
theorem dX12_passAll_14 : decode cX12_passAll 14 = .ok (.aload_n 0, 1) := by decide +kernel
theorem dX12_passAll_15 : decode cX12_passAll 15 = .ok (.getfield 180, 3) := by decide +kernel
theorem dX12_passAll_18 : decode cX12_passAll 18 = .ok (.invokevirtual 354, 3) := by decide +kernel
theorem dX12_passAll_21 : decode cX12_passAll 21 = .ok (.putfield 180, 3) := by decide +kernel
theorem dX12_passAll_24 : decode cX12_passAll 24 = .ok (.aload_n 0, 1) := by decide +kernel
theorem dX12_passAll_25 : decode cX12_passAll 25 = .ok (.aload_n 0, 1) := by decide +kernel
theorem dX12_passAll_26 : decode cX12_passAll 26 = .ok (.aload_n 0, 1) := by decide +kernel
theorem dX12_passAll_27 : decode cX12_passAll 27 = .ok (.getfield 300, 3) := by decide +kernel
theorem dX12_passAll_30 : decode cX12_passAll 30 = .ok (.invokevirtual 354, 3) := by decide +kernel
theorem dX12_passAll_33 : decode cX12_passAll 33 = .ok (.putfield 300, 3) := by decide +kernel
theorem dX12_passAll_36 : decode cX12_passAll 36 = .ok (.aload_n 0, 1) := by decide +kernel
theorem dX12_passAll_37 : decode cX12_passAll 37 = .ok (.aload_n 0, 1) := by decide +kernel
theorem dX12_passAll_38 : decode cX12_passAll 38 = .ok (.getfield 7, 3) := by decide +kernel
theorem dX12_passAll_41 : decode cX12_passAll 41 = .ok (.bipush 12, 2) := by decide +kernel
theorem dX12_passAll_43 : decode cX12_passAll 43 = .ok (.invokevirtual 357, 3) := by decide +kernel
theorem dX12_passAll_46 : decode cX12_passAll 46 = .ok (.aload_n 0, 1) := by decide +kernel
theorem dX12_passAll_47 : decode cX12_passAll 47 = .ok (.aload_n 0, 1) := by decide +kernel
theorem dX12_passAll_48 : decode cX12_passAll 48 = .ok (.getfield 13, 3) := by decide +kernel
theorem dX12_passAll_51 : decode cX12_passAll 51 = .ok (.bipush 12, 2) := by decide +kernel
theorem dX12_passAll_53 : decode cX12_passAll 53 = .ok (.invokevirtual 357, 3) := by decide +kernel
theorem dX12_passAll_56 : decode cX12_passAll 56 = .ok (.aload_n 0, 1) := by decide +kernel
theorem dX12_passAll_57 : decode cX12_passAll 57 = .ok (.aload_n 0, 1) := by decide +kernel
theorem dX12_passAll_58 : decode cX12_passAll 58 = .ok (.getfield 16, 3) := by decide +kernel
theorem dX12_passAll_61 : decode cX12_passAll 61 = .ok (.bipush 12, 2) := by decide +kernel
theorem dX12_passAll_63 : decode cX12_passAll 63 = .ok (.invokevirtual 357, 3) := by decide +kernel
theorem dX12_passAll_66 : decode cX12_passAll 66 = .ok (.aload_n 0, 1) := by decide +kernel
theorem dX12_passAll_67 : decode cX12_passAll 67 = .ok (.aload_n 0, 1) := by decide +kernel
theorem dX12_passAll_68 : decode cX12_passAll 68 = .ok (.getfield 19, 3) := by decide +kernel
theorem dX12_passAll_71 : decode cX12_passAll 71 = .ok (.bipush 12, 2) := by decide +kernel
theorem dX12_passAll_73 : decode cX12_passAll 73 = .ok (.invokevirtual 357, 3) := by decide +kernel
theorem dX12_passAll_76 : decode cX12_passAll 76 = .ok (.aload_n 0, 1) := by decide +kernel
theorem dX12_passAll_77 : decode cX12_passAll 77 = .ok (.aload_n 0, 1) := by decide +kernel
theorem dX12_passAll_78 : decode cX12_passAll 78 = .ok (.getfield 22, 3) := by decide +kernel
theorem dX12_passAll_81 : decode cX12_passAll 81 = .ok (.bipush 8, 2) := by decide +kernel
theorem dX12_passAll_83 : decode cX12_passAll 83 = .ok (.invokevirtual 357, 3) := by decide +kernel
theorem dX12_passAll_86 : decode cX12_passAll 86 = .ok (.aload_n 0, 1) := by decide +kernel
theorem dX12_passAll_87 : decode cX12_passAll 87 = .ok (.aload_n 0, 1) := by decide +kernel
theorem dX12_passAll_88 : decode cX12_passAll 88 = .ok (.getfield 25, 3) := by decide +kernel
theorem dX12_passAll_91 : decode cX12_passAll 91 = .ok (.bipush 8, 2) := by decide +kernel
theorem dX12_passAll_93 : decode cX12_passAll 93 = .ok (.invokevirtual 357, 3) := by decide +kernel
theorem dX12_passAll_96 : decode cX12_passAll 96 = .ok (.aload_n 0, 1) := by decide +kernel
theorem dX12_passAll_97 : decode cX12_passAll 97 = .ok (.aload_n 0, 1) := by decide +kernel
theorem dX12_passAll_98 : decode cX12_passAll 98 = .ok (.getfield 28, 3) := by decide +kernel
theorem dX12_passAll_101 : decode cX12_passAll 101 = .ok (.bipush 8, 2) := by decide +kernel
theorem dX12_passAll_103 : decode cX12_passAll 103 = .ok (.invokevirtual 357, 3) := by decide +kernel
theorem dX12_passAll_106 : decode cX12_passAll 106 = .ok (.aload_n 0, 1) := by decide +kernel
theorem dX12_passAll_107 : decode cX12_passAll 107 = .ok (.aload_n 0, 1) := by decide +kernel
theorem dX12_passAll_108 : decode cX12_passAll 108 = .ok (.getfield 31, 3) := by decide +kernel
theorem dX12_passAll_111 : decode cX12_passAll 111 = .ok (.bipush 8, 2) := by decide +kernel
theorem dX12_passAll_113 : decode cX12_passAll 113 = .ok (.invokevirtual 357, 3) := by decide +kernel
theorem dX12_passAll_116 : decode cX12_passAll 116 = .ok (.return_, 1) := by decide +kernel
set_option maxRecDepth 20000 in
theorem ggX12_image_X12_in : GoodIn wsX12_image wsX12_in := goodIn_r _ [7] (by decide +kernel) (by decide +kernel)
set_option maxRecDepth 20000 in
theorem gX12_image_X12_in : GoodIn wsX12_image (va_wsS RX12 90 yX12_in wsX12_in) := goodIn_app (goodIn_of _ (by decide +kernel)) ggX12_image_X12_in
set_option maxRecDepth 20000 in
theorem ggX12_image_X12_passAll : GoodIn wsX12_image wsX12_passAll := goodIn_r _ [11, 12, 13, 14, 15, 16, 17, 18, 19, 20, 21, 22, 23, 24, 25, 6, 26, 2, 27, 1, 28, 29, 30, 31, 32, 33, 34, 35, 36, 37, 38, 39, 40, 41, 42, 43, 44, 45, 46, 47, 48, 49, 50, 51, 52, 53, 54, 55, 56, 57, 58, 59, 60, 61, 62, 63, 64, 65, 66, 67, 68, 69] (by decide +kernel) (by decide +kernel)
set_option maxRecDepth 20000 in
theorem gX12_image_X12_passAll : GoodIn wsX12_image (wsV RX12 361 RX12 yX12_passAll wsX12_passAll) := goodIn_app (goodIn_of _ (by decide +kernel)) ggX12_image_X12_passAll
theorem dX12_image_0 : decode cX12_image 0 = .ok (.iload_n 1, 1) := by decide +kernel
theorem dX12_image_1 : decode cX12_image 1 = .ok (.i2l, 1) := by decide +kernel
theorem dX12_image_2 : decode cX12_image 2 = .ok (.lconst 0, 1) := by decide +kernel
theorem dX12_image_3 : decode cX12_image 3 = .ok (.lconst 1, 1) := by decide +kernel
theorem dX12_image_4 : decode cX12_image 4 = .ok (.invokestatic 90, 3) := by decide +kernel
theorem dX12_image_7 : decode cX12_image 7 = .ok (.ifCond .ne 6, 3) := by decide +kernel
theorem dX12_image_10 : decode cX12_image 10 = .ok (.bipush (-2), 2) := by decide +kernel
theorem dX12_image_12 : decode cX12_image 12 = .ok (.ireturn, 1) := by decide +kernel
theorem dX12_image_13 : decode cX12_image 13 = .ok (.aload_n 0, 1) := by decide +kernel
theorem dX12_image_14 : decode cX12_image 14 = .ok (.bipush 90, 2) := by decide +kernel
theorem dX12_image_16 : decode cX12_image 16 = .ok (.iload_n 1, 1) := by decide +kernel
theorem dX12_image_17 : decode cX12_image 17 = .ok (.imul, 1) := by decide +kernel
theorem dX12_image_18 : decode cX12_image 18 = .ok (.putfield 351, 3) := by decide +kernel
theorem dX12_image_21 : decode cX12_image 21 = .ok (.aload_n 0, 1) := by decide +kernel
theorem dX12_image_22 : decode cX12_image 22 = .ok (.iconst 1, 1) := by decide +kernel
theorem dX12_image_23 : decode cX12_image 23 = .ok (.putfield 347, 3) := by decide +kernel
theorem dX12_image_26 : decode cX12_image 26 = .ok (.aload_n 0, 1) := by decide +kernel
theorem dX12_image_27 : decode cX12_image 27 = .ok (.invokevirtual 361, 3) := by decide +kernel
theorem dX12_image_30 : decode cX12_image 30 = .ok (.aload_n 0, 1) := by decide +kernel
theorem dX12_image_31 : decode cX12_image 31 = .ok (.getfield 81, 3) := by decide +kernel
theorem dX12_image_34 : decode cX12_image 34 = .ok (.iload_n 1, 1) := by decide +kernel
theorem dX12_image_35 : decode cX12_image 35 = .ok (.iconst 1, 1) := by decide +kernel
theorem dX12_image_36 : decode cX12_image 36 = .ok (.bastore, 1) := by decide +kernel
theorem dX12_image_37 : decode cX12_image 37 = .ok (.iconst 1, 1) := by decide +kernel
theorem dX12_image_38 : decode cX12_image 38 = .ok (.ireturn, 1) := by decide +kernel
set_option maxRecDepth 20000 in
theorem ggX12_restore_X12_in : GoodIn wsX12_restore wsX12_in := goodIn_r _ [7] (by decide +kernel) (by decide +kernel)
set_option maxRecDepth 20000 in
theorem gX12_restore_X12_in : GoodIn wsX12_restore (va_wsS RX12 90 yX12_in wsX12_in) := goodIn_app (goodIn_of _ (by decide +kernel)) ggX12_restore_X12_in
set_option maxRecDepth 20000 in
theorem ggX12_restore_X12_passAll : GoodIn wsX12_restore wsX12_passAll := goodIn_r _ [11, 12, 13, 14, 15, 16, 17, 18, 19, 20, 21, 22, 23, 24, 25, 6, 26, 3, 27, 2, 28, 29, 30, 31, 32, 33, 34, 35, 36, 37, 38, 39, 40, 41, 42, 43, 44, 45, 46, 47, 48, 49, 50, 51, 52, 53, 54, 55, 56, 57, 58, 59, 60, 61, 62, 63, 64, 65, 66, 67, 68, 69] (by decide +kernel) (by decide +kernel)
set_option maxRecDepth 20000 in
theorem gX12_restore_X12_passAll : GoodIn wsX12_restore (wsV RX12 361 RX12 yX12_passAll wsX12_passAll) := goodIn_app (goodIn_of _ (by decide +kernel)) ggX12_restore_X12_passAll
theorem dX12_restore_0 : decode cX12_restore 0 = .ok (.iload_n 1, 1) := by decide +kernel
theorem dX12_restore_1 : decode cX12_restore 1 = .ok (.i2l, 1) := by decide +kernel
theorem dX12_restore_2 : decode cX12_restore 2 = .ok (.lconst 0, 1) := by decide +kernel
theorem dX12_restore_3 : decode cX12_restore 3 = .ok (.lconst 1, 1) := by decide +kernel
theorem dX12_restore_4 : decode cX12_restore 4 = .ok (.invokestatic 90, 3) := by decide +kernel
theorem dX12_restore_7 : decode cX12_restore 7 = .ok (.ifCond .ne 6, 3) := by decide +kernel
theorem dX12_restore_10 : decode cX12_restore 10 = .ok (.bipush (-2), 2) := by decide +kernel
theorem dX12_restore_12 : decode cX12_restore 12 = .ok (.ireturn, 1) := by decide +kernel
theorem dX12_restore_13 : decode cX12_restore 13 = .ok (.aload_n 0, 1) := by decide +kernel
theorem dX12_restore_14 : decode cX12_restore 14 = .ok (.getfield 81, 3) := by decide +kernel
theorem dX12_restore_17 : decode cX12_restore 17 = .ok (.iload_n 1, 1) := by decide +kernel
theorem dX12_restore_18 : decode cX12_restore 18 = .ok (.baload, 1) := by decide +kernel
theorem dX12_restore_19 : decode cX12_restore 19 = .ok (.ifCond .ne 6, 3) := by decide +kernel
theorem dX12_restore_22 : decode cX12_restore 22 = .ok (.bipush (-3), 2) := by decide +kernel
theorem dX12_restore_24 : decode cX12_restore 24 = .ok (.ireturn, 1) := by decide +kernel
theorem dX12_restore_25 : decode cX12_restore 25 = .ok (.aload_n 0, 1) := by decide +kernel
theorem dX12_restore_26 : decode cX12_restore 26 = .ok (.bipush 90, 2) := by decide +kernel
theorem dX12_restore_28 : decode cX12_restore 28 = .ok (.iload_n 1, 1) := by decide +kernel
theorem dX12_restore_29 : decode cX12_restore 29 = .ok (.imul, 1) := by decide +kernel
theorem dX12_restore_30 : decode cX12_restore 30 = .ok (.putfield 351, 3) := by decide +kernel
theorem dX12_restore_33 : decode cX12_restore 33 = .ok (.aload_n 0, 1) := by decide +kernel
theorem dX12_restore_34 : decode cX12_restore 34 = .ok (.iconst 0, 1) := by decide +kernel
theorem dX12_restore_35 : decode cX12_restore 35 = .ok (.putfield 347, 3) := by decide +kernel
theorem dX12_restore_38 : decode cX12_restore 38 = .ok (.aload_n 0, 1) := by decide +kernel
theorem dX12_restore_39 : decode cX12_restore 39 = .ok (.invokevirtual 361, 3) := by decide +kernel
theorem dX12_restore_42 : decode cX12_restore 42 = .ok (.iconst 1, 1) := by decide +kernel
theorem dX12_restore_43 : decode cX12_restore 43 = .ok (.ireturn, 1) := by decide +kernel
theorem dX12_ofThing_0 : decode cX12_ofThing 0 = .ok (.iload_n 2, 1) := by decide +kernel
theorem dX12_ofThing_1 : decode cX12_ofThing 1 = .ok (.tableswitch 59 0 3 #[31, 38, 45, 52], 31) := by decide +kernel
theorem dX12_ofThing_32 : decode cX12_ofThing 32 = .ok (.aload_n 0, 1) := by decide +kernel
theorem dX12_ofThing_33 : decode cX12_ofThing 33 = .ok (.getfield 7, 3) := by decide +kernel
theorem dX12_ofThing_36 : decode cX12_ofThing 36 = .ok (.iload_n 1, 1) := by decide +kernel
theorem dX12_ofThing_37 : decode cX12_ofThing 37 = .ok (.iaload, 1) := by decide +kernel
theorem dX12_ofThing_38 : decode cX12_ofThing 38 = .ok (.ireturn, 1) := by decide +kernel
theorem dX12_ofThing_39 : decode cX12_ofThing 39 = .ok (.aload_n 0, 1) := by decide +kernel
theorem dX12_ofThing_40 : decode cX12_ofThing 40 = .ok (.getfield 13, 3) := by decide +kernel
theorem dX12_ofThing_43 : decode cX12_ofThing 43 = .ok (.iload_n 1, 1) := by decide +kernel
theorem dX12_ofThing_44 : decode cX12_ofThing 44 = .ok (.iaload, 1) := by decide +kernel
theorem dX12_ofThing_45 : decode cX12_ofThing 45 = .ok (.ireturn, 1) := by decide +kernel
theorem dX12_ofThing_46 : decode cX12_ofThing 46 = .ok (.aload_n 0, 1) := by decide +kernel
theorem dX12_ofThing_47 : decode cX12_ofThing 47 = .ok (.getfield 16, 3) := by decide +kernel
theorem dX12_ofThing_50 : decode cX12_ofThing 50 = .ok (.iload_n 1, 1) := by decide +kernel
theorem dX12_ofThing_51 : decode cX12_ofThing 51 = .ok (.iaload, 1) := by decide +kernel
theorem dX12_ofThing_52 : decode cX12_ofThing 52 = .ok (.ireturn, 1) := by decide +kernel
theorem dX12_ofThing_53 : decode cX12_ofThing 53 = .ok (.aload_n 0, 1) := by decide +kernel
theorem dX12_ofThing_54 : decode cX12_ofThing 54 = .ok (.getfield 19, 3) := by decide +kernel
theorem dX12_ofThing_57 : decode cX12_ofThing 57 = .ok (.iload_n 1, 1) := by decide +kernel
theorem dX12_ofThing_58 : decode cX12_ofThing 58 = .ok (.iaload, 1) := by decide +kernel
theorem dX12_ofThing_59 : decode cX12_ofThing 59 = .ok (.ireturn, 1) := by decide +kernel
theorem dX12_ofThing_60 : decode cX12_ofThing 60 = .ok (.bipush (-2), 2) := by decide +kernel
theorem dX12_ofThing_62 : decode cX12_ofThing 62 = .ok (.ireturn, 1) := by decide +kernel
set_option maxRecDepth 20000 in
theorem ggX12_told_X12_in : GoodIn wsX12_told wsX12_in := goodIn_r _ [16] (by decide +kernel) (by decide +kernel)
set_option maxRecDepth 20000 in
theorem gX12_told_X12_in : GoodIn wsX12_told (va_wsS RX12 90 yX12_in wsX12_in) := goodIn_app (goodIn_of _ (by decide +kernel)) ggX12_told_X12_in
set_option maxRecDepth 20000 in
theorem ggX12_told_X12_ofThing : GoodIn wsX12_told wsX12_ofThing := goodIn_r _ [20, 21, 22, 23, 24, 25, 26, 27, 28, 29, 30, 31, 32, 33, 34, 35, 36, 37, 38, 39, 40, 41, 42, 43, 44, 45, 46, 47, 48, 49, 50, 51, 52, 53, 54, 55, 56, 57, 58, 59, 60, 61, 62] (by decide +kernel) (by decide +kernel)
set_option maxRecDepth 20000 in
theorem gX12_told_X12_ofThing : GoodIn wsX12_told (wsV RX12 368 RX12 yX12_ofThing wsX12_ofThing) := goodIn_app (goodIn_of _ (by decide +kernel)) ggX12_told_X12_ofThing
theorem dX12_told_0 : decode cX12_told 0 = .ok (.iload_n 1, 1) := by decide +kernel
theorem dX12_told_1 : decode cX12_told 1 = .ok (.i2l, 1) := by decide +kernel
theorem dX12_told_2 : decode cX12_told 2 = .ok (.ldc2_w 364, 3) := by decide +kernel
theorem dX12_told_5 : decode cX12_told 5 = .ok (.ldc2_w 366, 3) := by decide +kernel
theorem dX12_told_8 : decode cX12_told 8 = .ok (.invokestatic 90, 3) := by decide +kernel
theorem dX12_told_11 : decode cX12_told 11 = .ok (.ifCond .eq 19, 3) := by decide +kernel
theorem dX12_told_14 : decode cX12_told 14 = .ok (.aload_n 0, 1) := by decide +kernel
theorem dX12_told_15 : decode cX12_told 15 = .ok (.iload_n 1, 1) := by decide +kernel
theorem dX12_told_16 : decode cX12_told 16 = .ok (.bipush 100, 2) := by decide +kernel
theorem dX12_told_18 : decode cX12_told 18 = .ok (.isub, 1) := by decide +kernel
theorem dX12_told_19 : decode cX12_told 19 = .ok (.bipush 10, 2) := by decide +kernel
theorem dX12_told_21 : decode cX12_told 21 = .ok (.idiv, 1) := by decide +kernel
theorem dX12_told_22 : decode cX12_told 22 = .ok (.iload_n 1, 1) := by decide +kernel
theorem dX12_told_23 : decode cX12_told 23 = .ok (.bipush 10, 2) := by decide +kernel
theorem dX12_told_25 : decode cX12_told 25 = .ok (.irem, 1) := by decide +kernel
theorem dX12_told_26 : decode cX12_told 26 = .ok (.invokevirtual 368, 3) := by decide +kernel
theorem dX12_told_29 : decode cX12_told 29 = .ok (.ireturn, 1) := by decide +kernel
theorem dX12_told_30 : decode cX12_told 30 = .ok (.iload_n 1, 1) := by decide +kernel
theorem dX12_told_31 : decode cX12_told 31 = .ok (.i2l, 1) := by decide +kernel
theorem dX12_told_32 : decode cX12_told 32 = .ok (.ldc2_w 272, 3) := by decide +kernel
theorem dX12_told_35 : decode cX12_told 35 = .ok (.ldc2_w 371, 3) := by decide +kernel
theorem dX12_told_38 : decode cX12_told 38 = .ok (.invokestatic 90, 3) := by decide +kernel
theorem dX12_told_41 : decode cX12_told 41 = .ok (.ifCond .eq 13, 3) := by decide +kernel
theorem dX12_told_44 : decode cX12_told 44 = .ok (.aload_n 0, 1) := by decide +kernel
theorem dX12_told_45 : decode cX12_told 45 = .ok (.getfield 22, 3) := by decide +kernel
theorem dX12_told_48 : decode cX12_told 48 = .ok (.iload_n 1, 1) := by decide +kernel
theorem dX12_told_49 : decode cX12_told 49 = .ok (.bipush 10, 2) := by decide +kernel
theorem dX12_told_51 : decode cX12_told 51 = .ok (.isub, 1) := by decide +kernel
theorem dX12_told_52 : decode cX12_told 52 = .ok (.iaload, 1) := by decide +kernel
theorem dX12_told_53 : decode cX12_told 53 = .ok (.ireturn, 1) := by decide +kernel
theorem dX12_told_54 : decode cX12_told 54 = .ok (.iload_n 1, 1) := by decide +kernel
theorem dX12_told_55 : decode cX12_told 55 = .ok (.i2l, 1) := by decide +kernel
theorem dX12_told_56 : decode cX12_told 56 = .ok (.ldc2_w 373, 3) := by decide +kernel
theorem dX12_told_59 : decode cX12_told 59 = .ok (.ldc2_w 375, 3) := by decide +kernel
theorem dX12_told_62 : decode cX12_told 62 = .ok (.invokestatic 90, 3) := by decide +kernel
theorem dX12_told_65 : decode cX12_told 65 = .ok (.ifCond .eq 13, 3) := by decide +kernel
theorem dX12_told_68 : decode cX12_told 68 = .ok (.aload_n 0, 1) := by decide +kernel
theorem dX12_told_69 : decode cX12_told 69 = .ok (.getfield 25, 3) := by decide +kernel
theorem dX12_told_72 : decode cX12_told 72 = .ok (.iload_n 1, 1) := by decide +kernel
theorem dX12_told_73 : decode cX12_told 73 = .ok (.bipush 20, 2) := by decide +kernel
theorem dX12_told_75 : decode cX12_told 75 = .ok (.isub, 1) := by decide +kernel
theorem dX12_told_76 : decode cX12_told 76 = .ok (.iaload, 1) := by decide +kernel
theorem dX12_told_77 : decode cX12_told 77 = .ok (.ireturn, 1) := by decide +kernel
theorem dX12_told_78 : decode cX12_told 78 = .ok (.iload_n 1, 1) := by decide +kernel
theorem dX12_told_79 : decode cX12_told 79 = .ok (.tableswitch 49 0 3 #[29, 34, 39, 44], 29) := by decide +kernel
theorem dX12_told_108 : decode cX12_told 108 = .ok (.aload_n 0, 1) := by decide +kernel
theorem dX12_told_109 : decode cX12_told 109 = .ok (.getfield 121, 3) := by decide +kernel
theorem dX12_told_112 : decode cX12_told 112 = .ok (.ireturn, 1) := by decide +kernel
theorem dX12_told_113 : decode cX12_told 113 = .ok (.aload_n 0, 1) := by decide +kernel
theorem dX12_told_114 : decode cX12_told 114 = .ok (.getfield 84, 3) := by decide +kernel
theorem dX12_told_117 : decode cX12_told 117 = .ok (.ireturn, 1) := by decide +kernel
theorem dX12_told_118 : decode cX12_told 118 = .ok (.aload_n 0, 1) := by decide +kernel
theorem dX12_told_119 : decode cX12_told 119 = .ok (.getfield 180, 3) := by decide +kernel
theorem dX12_told_122 : decode cX12_told 122 = .ok (.ireturn, 1) := by decide +kernel
theorem dX12_told_123 : decode cX12_told 123 = .ok (.aload_n 0, 1) := by decide +kernel
theorem dX12_told_124 : decode cX12_told 124 = .ok (.getfield 300, 3) := by decide +kernel
theorem dX12_told_127 : decode cX12_told 127 = .ok (.ireturn, 1) := by decide +kernel
theorem dX12_told_128 : decode cX12_told 128 = .ok (.bipush (-2), 2) := by decide +kernel
theorem dX12_told_130 : decode cX12_told 130 = .ok (.ireturn, 1) := by decide +kernel
theorem dJ6_bitCount_0f7a4_0 : decode cJ6_bitCount_0f7a4 0 = .ok (.iload_n 0, 1) := by decide +kernel
theorem dJ6_bitCount_0f7a4_1 : decode cJ6_bitCount_0f7a4 1 = .ok (.iload_n 0, 1) := by decide +kernel
theorem dJ6_bitCount_0f7a4_2 : decode cJ6_bitCount_0f7a4 2 = .ok (.iconst 1, 1) := by decide +kernel
theorem dJ6_bitCount_0f7a4_3 : decode cJ6_bitCount_0f7a4 3 = .ok (.iushr, 1) := by decide +kernel
theorem dJ6_bitCount_0f7a4_4 : decode cJ6_bitCount_0f7a4 4 = .ok (.ldc_w 265, 3) := by decide +kernel
theorem dJ6_bitCount_0f7a4_7 : decode cJ6_bitCount_0f7a4 7 = .ok (.iand, 1) := by decide +kernel
theorem dJ6_bitCount_0f7a4_8 : decode cJ6_bitCount_0f7a4 8 = .ok (.isub, 1) := by decide +kernel
theorem dJ6_bitCount_0f7a4_9 : decode cJ6_bitCount_0f7a4 9 = .ok (.istore_n 0, 1) := by decide +kernel
theorem dJ6_bitCount_0f7a4_10 : decode cJ6_bitCount_0f7a4 10 = .ok (.iload_n 0, 1) := by decide +kernel
theorem dJ6_bitCount_0f7a4_11 : decode cJ6_bitCount_0f7a4 11 = .ok (.ldc_w 266, 3) := by decide +kernel
theorem dJ6_bitCount_0f7a4_14 : decode cJ6_bitCount_0f7a4 14 = .ok (.iand, 1) := by decide +kernel
theorem dJ6_bitCount_0f7a4_15 : decode cJ6_bitCount_0f7a4 15 = .ok (.iload_n 0, 1) := by decide +kernel
theorem dJ6_bitCount_0f7a4_16 : decode cJ6_bitCount_0f7a4 16 = .ok (.iconst 2, 1) := by decide +kernel
theorem dJ6_bitCount_0f7a4_17 : decode cJ6_bitCount_0f7a4 17 = .ok (.iushr, 1) := by decide +kernel
theorem dJ6_bitCount_0f7a4_18 : decode cJ6_bitCount_0f7a4 18 = .ok (.ldc_w 266, 3) := by decide +kernel
theorem dJ6_bitCount_0f7a4_21 : decode cJ6_bitCount_0f7a4 21 = .ok (.iand, 1) := by decide +kernel
theorem dJ6_bitCount_0f7a4_22 : decode cJ6_bitCount_0f7a4 22 = .ok (.iadd, 1) := by decide +kernel
theorem dJ6_bitCount_0f7a4_23 : decode cJ6_bitCount_0f7a4 23 = .ok (.istore_n 0, 1) := by decide +kernel
theorem dJ6_bitCount_0f7a4_24 : decode cJ6_bitCount_0f7a4 24 = .ok (.iload_n 0, 1) := by decide +kernel
theorem dJ6_bitCount_0f7a4_25 : decode cJ6_bitCount_0f7a4 25 = .ok (.iload_n 0, 1) := by decide +kernel
theorem dJ6_bitCount_0f7a4_26 : decode cJ6_bitCount_0f7a4 26 = .ok (.iconst 4, 1) := by decide +kernel
theorem dJ6_bitCount_0f7a4_27 : decode cJ6_bitCount_0f7a4 27 = .ok (.iushr, 1) := by decide +kernel
theorem dJ6_bitCount_0f7a4_28 : decode cJ6_bitCount_0f7a4 28 = .ok (.iadd, 1) := by decide +kernel
theorem dJ6_bitCount_0f7a4_29 : decode cJ6_bitCount_0f7a4 29 = .ok (.ldc_w 267, 3) := by decide +kernel
theorem dJ6_bitCount_0f7a4_32 : decode cJ6_bitCount_0f7a4 32 = .ok (.iand, 1) := by decide +kernel
theorem dJ6_bitCount_0f7a4_33 : decode cJ6_bitCount_0f7a4 33 = .ok (.istore_n 0, 1) := by decide +kernel
theorem dJ6_bitCount_0f7a4_34 : decode cJ6_bitCount_0f7a4 34 = .ok (.iload_n 0, 1) := by decide +kernel
theorem dJ6_bitCount_0f7a4_35 : decode cJ6_bitCount_0f7a4 35 = .ok (.iload_n 0, 1) := by decide +kernel
theorem dJ6_bitCount_0f7a4_36 : decode cJ6_bitCount_0f7a4 36 = .ok (.bipush 8, 2) := by decide +kernel
theorem dJ6_bitCount_0f7a4_38 : decode cJ6_bitCount_0f7a4 38 = .ok (.iushr, 1) := by decide +kernel
theorem dJ6_bitCount_0f7a4_39 : decode cJ6_bitCount_0f7a4 39 = .ok (.iadd, 1) := by decide +kernel
theorem dJ6_bitCount_0f7a4_40 : decode cJ6_bitCount_0f7a4 40 = .ok (.istore_n 0, 1) := by decide +kernel
theorem dJ6_bitCount_0f7a4_41 : decode cJ6_bitCount_0f7a4 41 = .ok (.iload_n 0, 1) := by decide +kernel
theorem dJ6_bitCount_0f7a4_42 : decode cJ6_bitCount_0f7a4 42 = .ok (.iload_n 0, 1) := by decide +kernel
theorem dJ6_bitCount_0f7a4_43 : decode cJ6_bitCount_0f7a4 43 = .ok (.bipush 16, 2) := by decide +kernel
theorem dJ6_bitCount_0f7a4_45 : decode cJ6_bitCount_0f7a4 45 = .ok (.iushr, 1) := by decide +kernel
theorem dJ6_bitCount_0f7a4_46 : decode cJ6_bitCount_0f7a4 46 = .ok (.iadd, 1) := by decide +kernel
theorem dJ6_bitCount_0f7a4_47 : decode cJ6_bitCount_0f7a4 47 = .ok (.istore_n 0, 1) := by decide +kernel
theorem dJ6_bitCount_0f7a4_48 : decode cJ6_bitCount_0f7a4 48 = .ok (.iload_n 0, 1) := by decide +kernel
theorem dJ6_bitCount_0f7a4_49 : decode cJ6_bitCount_0f7a4 49 = .ok (.bipush 63, 2) := by decide +kernel
theorem dJ6_bitCount_0f7a4_51 : decode cJ6_bitCount_0f7a4 51 = .ok (.iand, 1) := by decide +kernel
theorem dJ6_bitCount_0f7a4_52 : decode cJ6_bitCount_0f7a4 52 = .ok (.ireturn, 1) := by decide +kernel
theorem dJ9_max_7cf53_0 : decode cJ9_max_7cf53 0 = .ok (.iload_n 0, 1) := by decide +kernel
theorem dJ9_max_7cf53_1 : decode cJ9_max_7cf53 1 = .ok (.iload_n 1, 1) := by decide +kernel
theorem dJ9_max_7cf53_2 : decode cJ9_max_7cf53 2 = .ok (.if_icmp .lt 7, 3) := by decide +kernel
theorem dJ9_max_7cf53_5 : decode cJ9_max_7cf53 5 = .ok (.iload_n 0, 1) := by decide +kernel
theorem dJ9_max_7cf53_6 : decode cJ9_max_7cf53 6 = .ok (.goto 4, 3) := by decide +kernel
theorem dJ9_max_7cf53_9 : decode cJ9_max_7cf53 9 = .ok (.iload_n 1, 1) := by decide +kernel
theorem dJ9_max_7cf53_10 : decode cJ9_max_7cf53 10 = .ok (.ireturn, 1) := by decide +kernel
theorem dJ9_min_7cf53_0 : decode cJ9_min_7cf53 0 = .ok (.iload_n 0, 1) := by decide +kernel
theorem dJ9_min_7cf53_1 : decode cJ9_min_7cf53 1 = .ok (.iload_n 1, 1) := by decide +kernel
theorem dJ9_min_7cf53_2 : decode cJ9_min_7cf53 2 = .ok (.if_icmp .gt 7, 3) := by decide +kernel
theorem dJ9_min_7cf53_5 : decode cJ9_min_7cf53 5 = .ok (.iload_n 0, 1) := by decide +kernel
theorem dJ9_min_7cf53_6 : decode cJ9_min_7cf53 6 = .ok (.goto 4, 3) := by decide +kernel
theorem dJ9_min_7cf53_9 : decode cJ9_min_7cf53 9 = .ok (.iload_n 1, 1) := by decide +kernel
theorem dJ9_min_7cf53_10 : decode cJ9_min_7cf53 10 = .ok (.ireturn, 1) := by decide +kernel
theorem dL_law_0 : decode cL_law 0 = .ok (.new 7, 3) := by decide +kernel
theorem dL_law_3 : decode cL_law 3 = .ok (.dup, 1) := by decide +kernel
theorem dL_law_4 : decode cL_law 4 = .ok (.invokespecial 9, 3) := by decide +kernel
theorem dL_law_7 : decode cL_law 7 = .ok (.astore_n 1, 1) := by decide +kernel
theorem dL_law_8 : decode cL_law 8 = .ok (.new 10, 3) := by decide +kernel
theorem dL_law_11 : decode cL_law 11 = .ok (.dup, 1) := by decide +kernel
theorem dL_law_12 : decode cL_law 12 = .ok (.invokespecial 12, 3) := by decide +kernel
theorem dL_law_15 : decode cL_law 15 = .ok (.astore_n 2, 1) := by decide +kernel
theorem dL_law_16 : decode cL_law 16 = .ok (.iconst 0, 1) := by decide +kernel
theorem dL_law_17 : decode cL_law 17 = .ok (.istore_n 3, 1) := by decide +kernel
theorem dL_law_18 : decode cL_law 18 = .ok (.iload_n 3, 1) := by decide +kernel
theorem dL_law_19 : decode cL_law 19 = .ok (.aload_n 0, 1) := by decide +kernel
theorem dL_law_20 : decode cL_law 20 = .ok (.arraylength, 1) := by decide +kernel
theorem dL_law_21 : decode cL_law 21 = .ok (.bipush 6, 2) := by decide +kernel
theorem dL_law_23 : decode cL_law 23 = .ok (.isub, 1) := by decide +kernel
theorem dL_law_24 : decode cL_law 24 = .ok (.if_icmp .gt 1000, 3) := by decide +kernel
theorem dL_law_27 : decode cL_law 27 = .ok (.aload_n 0, 1) := by decide +kernel
theorem dL_law_28 : decode cL_law 28 = .ok (.iload_n 3, 1) := by decide +kernel
theorem dL_law_29 : decode cL_law 29 = .ok (.iaload, 1) := by decide +kernel
theorem dL_law_30 : decode cL_law 30 = .ok (.bipush 31, 2) := by decide +kernel
theorem dL_law_32 : decode cL_law 32 = .ok (.iand, 1) := by decide +kernel
theorem dL_law_33 : decode cL_law 33 = .ok (.tableswitch 985 0 25 #[119, 182, 225, 284, 307, 320, 333, 356, 389, 422, 445, 458, 501, 534, 587, 641, 684, 717, 730, 753, 776, 819, 873, 916, 939, 962], 119) := by decide +kernel
theorem dL_law_152 : decode cL_law 152 = .ok (.aload_n 1, 1) := by decide +kernel
theorem dL_law_153 : decode cL_law 153 = .ok (.aload_n 0, 1) := by decide +kernel
theorem dL_law_154 : decode cL_law 154 = .ok (.iload_n 3, 1) := by decide +kernel
theorem dL_law_155 : decode cL_law 155 = .ok (.iconst 1, 1) := by decide +kernel
theorem dL_law_156 : decode cL_law 156 = .ok (.iadd, 1) := by decide +kernel
theorem dL_law_157 : decode cL_law 157 = .ok (.iaload, 1) := by decide +kernel
theorem dL_law_158 : decode cL_law 158 = .ok (.aload_n 0, 1) := by decide +kernel
theorem dL_law_159 : decode cL_law 159 = .ok (.iload_n 3, 1) := by decide +kernel
theorem dL_law_160 : decode cL_law 160 = .ok (.iconst 2, 1) := by decide +kernel
theorem dL_law_161 : decode cL_law 161 = .ok (.iadd, 1) := by decide +kernel
theorem dL_law_162 : decode cL_law 162 = .ok (.iaload, 1) := by decide +kernel
theorem dL_law_163 : decode cL_law 163 = .ok (.aload_n 0, 1) := by decide +kernel
theorem dL_law_164 : decode cL_law 164 = .ok (.iload_n 3, 1) := by decide +kernel
theorem dL_law_165 : decode cL_law 165 = .ok (.iconst 3, 1) := by decide +kernel
theorem dL_law_166 : decode cL_law 166 = .ok (.iadd, 1) := by decide +kernel
theorem dL_law_167 : decode cL_law 167 = .ok (.iaload, 1) := by decide +kernel
theorem dL_law_168 : decode cL_law 168 = .ok (.aload_n 0, 1) := by decide +kernel
theorem dL_law_169 : decode cL_law 169 = .ok (.iload_n 3, 1) := by decide +kernel
theorem dL_law_170 : decode cL_law 170 = .ok (.iconst 4, 1) := by decide +kernel
theorem dL_law_171 : decode cL_law 171 = .ok (.iadd, 1) := by decide +kernel
theorem dL_law_172 : decode cL_law 172 = .ok (.iaload, 1) := by decide +kernel
theorem dL_law_173 : decode cL_law 173 = .ok (.aload_n 0, 1) := by decide +kernel
theorem dL_law_174 : decode cL_law 174 = .ok (.iload_n 3, 1) := by decide +kernel
theorem dL_law_175 : decode cL_law 175 = .ok (.iconst 5, 1) := by decide +kernel
theorem dL_law_176 : decode cL_law 176 = .ok (.iadd, 1) := by decide +kernel
theorem dL_law_177 : decode cL_law 177 = .ok (.iaload, 1) := by decide +kernel
theorem dL_law_178 : decode cL_law 178 = .ok (.invokevirtual 13, 3) := by decide +kernel
theorem dL_law_181 : decode cL_law 181 = .ok (.aload_n 2, 1) := by decide +kernel
theorem dL_law_182 : decode cL_law 182 = .ok (.aload_n 0, 1) := by decide +kernel
theorem dL_law_183 : decode cL_law 183 = .ok (.iload_n 3, 1) := by decide +kernel
theorem dL_law_184 : decode cL_law 184 = .ok (.iconst 1, 1) := by decide +kernel
theorem dL_law_185 : decode cL_law 185 = .ok (.iadd, 1) := by decide +kernel
theorem dL_law_186 : decode cL_law 186 = .ok (.iaload, 1) := by decide +kernel
theorem dL_law_187 : decode cL_law 187 = .ok (.aload_n 0, 1) := by decide +kernel
theorem dL_law_188 : decode cL_law 188 = .ok (.iload_n 3, 1) := by decide +kernel
theorem dL_law_189 : decode cL_law 189 = .ok (.iconst 2, 1) := by decide +kernel
theorem dL_law_190 : decode cL_law 190 = .ok (.iadd, 1) := by decide +kernel
theorem dL_law_191 : decode cL_law 191 = .ok (.iaload, 1) := by decide +kernel
theorem dL_law_192 : decode cL_law 192 = .ok (.aload_n 0, 1) := by decide +kernel
theorem dL_law_193 : decode cL_law 193 = .ok (.iload_n 3, 1) := by decide +kernel
theorem dL_law_194 : decode cL_law 194 = .ok (.iconst 3, 1) := by decide +kernel
theorem dL_law_195 : decode cL_law 195 = .ok (.iadd, 1) := by decide +kernel
theorem dL_law_196 : decode cL_law 196 = .ok (.iaload, 1) := by decide +kernel
theorem dL_law_197 : decode cL_law 197 = .ok (.aload_n 0, 1) := by decide +kernel
theorem dL_law_198 : decode cL_law 198 = .ok (.iload_n 3, 1) := by decide +kernel
theorem dL_law_199 : decode cL_law 199 = .ok (.iconst 4, 1) := by decide +kernel
theorem dL_law_200 : decode cL_law 200 = .ok (.iadd, 1) := by decide +kernel
theorem dL_law_201 : decode cL_law 201 = .ok (.iaload, 1) := by decide +kernel
theorem dL_law_202 : decode cL_law 202 = .ok (.aload_n 0, 1) := by decide +kernel
theorem dL_law_203 : decode cL_law 203 = .ok (.iload_n 3, 1) := by decide +kernel
theorem dL_law_204 : decode cL_law 204 = .ok (.iconst 5, 1) := by decide +kernel
theorem dL_law_205 : decode cL_law 205 = .ok (.iadd, 1) := by decide +kernel
theorem dL_law_206 : decode cL_law 206 = .ok (.iaload, 1) := by decide +kernel
theorem dL_law_207 : decode cL_law 207 = .ok (.invokevirtual 17, 3) := by decide +kernel
theorem dL_law_210 : decode cL_law 210 = .ok (.if_icmp .eq 808, 3) := by decide +kernel
theorem dL_law_213 : decode cL_law 213 = .ok (.iconst 0, 1) := by decide +kernel
theorem dL_law_214 : decode cL_law 214 = .ok (.ireturn, 1) := by decide +kernel
theorem dL_law_215 : decode cL_law 215 = .ok (.aload_n 1, 1) := by decide +kernel
theorem dL_law_216 : decode cL_law 216 = .ok (.aload_n 0, 1) := by decide +kernel
theorem dL_law_217 : decode cL_law 217 = .ok (.iload_n 3, 1) := by decide +kernel
theorem dL_law_218 : decode cL_law 218 = .ok (.iconst 1, 1) := by decide +kernel
theorem dL_law_219 : decode cL_law 219 = .ok (.iadd, 1) := by decide +kernel
theorem dL_law_220 : decode cL_law 220 = .ok (.iaload, 1) := by decide +kernel
theorem dL_law_221 : decode cL_law 221 = .ok (.aload_n 0, 1) := by decide +kernel
theorem dL_law_222 : decode cL_law 222 = .ok (.iload_n 3, 1) := by decide +kernel
theorem dL_law_223 : decode cL_law 223 = .ok (.iconst 2, 1) := by decide +kernel
theorem dL_law_224 : decode cL_law 224 = .ok (.iadd, 1) := by decide +kernel
theorem dL_law_225 : decode cL_law 225 = .ok (.iaload, 1) := by decide +kernel
theorem dL_law_226 : decode cL_law 226 = .ok (.aload_n 0, 1) := by decide +kernel
theorem dL_law_227 : decode cL_law 227 = .ok (.iload_n 3, 1) := by decide +kernel
theorem dL_law_228 : decode cL_law 228 = .ok (.iconst 3, 1) := by decide +kernel
theorem dL_law_229 : decode cL_law 229 = .ok (.iadd, 1) := by decide +kernel
theorem dL_law_230 : decode cL_law 230 = .ok (.iaload, 1) := by decide +kernel
theorem dL_law_231 : decode cL_law 231 = .ok (.invokevirtual 18, 3) := by decide +kernel
theorem dL_law_234 : decode cL_law 234 = .ok (.aload_n 2, 1) := by decide +kernel
theorem dL_law_235 : decode cL_law 235 = .ok (.aload_n 0, 1) := by decide +kernel
theorem dL_law_236 : decode cL_law 236 = .ok (.iload_n 3, 1) := by decide +kernel
theorem dL_law_237 : decode cL_law 237 = .ok (.iconst 1, 1) := by decide +kernel
theorem dL_law_238 : decode cL_law 238 = .ok (.iadd, 1) := by decide +kernel
theorem dL_law_239 : decode cL_law 239 = .ok (.iaload, 1) := by decide +kernel
theorem dL_law_240 : decode cL_law 240 = .ok (.aload_n 0, 1) := by decide +kernel
theorem dL_law_241 : decode cL_law 241 = .ok (.iload_n 3, 1) := by decide +kernel
theorem dL_law_242 : decode cL_law 242 = .ok (.iconst 2, 1) := by decide +kernel
theorem dL_law_243 : decode cL_law 243 = .ok (.iadd, 1) := by decide +kernel
theorem dL_law_244 : decode cL_law 244 = .ok (.iaload, 1) := by decide +kernel
theorem dL_law_245 : decode cL_law 245 = .ok (.aload_n 0, 1) := by decide +kernel
theorem dL_law_246 : decode cL_law 246 = .ok (.iload_n 3, 1) := by decide +kernel
theorem dL_law_247 : decode cL_law 247 = .ok (.iconst 3, 1) := by decide +kernel
theorem dL_law_248 : decode cL_law 248 = .ok (.iadd, 1) := by decide +kernel
theorem dL_law_249 : decode cL_law 249 = .ok (.iaload, 1) := by decide +kernel
theorem dL_law_250 : decode cL_law 250 = .ok (.invokevirtual 22, 3) := by decide +kernel
theorem dL_law_253 : decode cL_law 253 = .ok (.if_icmp .eq 765, 3) := by decide +kernel
theorem dL_law_256 : decode cL_law 256 = .ok (.iconst 0, 1) := by decide +kernel
theorem dL_law_257 : decode cL_law 257 = .ok (.ireturn, 1) := by decide +kernel
theorem dL_law_258 : decode cL_law 258 = .ok (.aload_n 1, 1) := by decide +kernel
theorem dL_law_259 : decode cL_law 259 = .ok (.aload_n 0, 1) := by decide +kernel
theorem dL_law_260 : decode cL_law 260 = .ok (.iload_n 3, 1) := by decide +kernel
theorem dL_law_261 : decode cL_law 261 = .ok (.iconst 1, 1) := by decide +kernel
theorem dL_law_262 : decode cL_law 262 = .ok (.iadd, 1) := by decide +kernel
theorem dL_law_263 : decode cL_law 263 = .ok (.iaload, 1) := by decide +kernel
theorem dL_law_264 : decode cL_law 264 = .ok (.aload_n 0, 1) := by decide +kernel
theorem dL_law_265 : decode cL_law 265 = .ok (.iload_n 3, 1) := by decide +kernel
theorem dL_law_266 : decode cL_law 266 = .ok (.iconst 2, 1) := by decide +kernel
theorem dL_law_267 : decode cL_law 267 = .ok (.iadd, 1) := by decide +kernel
theorem dL_law_268 : decode cL_law 268 = .ok (.iaload, 1) := by decide +kernel
theorem dL_law_269 : decode cL_law 269 = .ok (.aload_n 0, 1) := by decide +kernel
theorem dL_law_270 : decode cL_law 270 = .ok (.iload_n 3, 1) := by decide +kernel
theorem dL_law_271 : decode cL_law 271 = .ok (.iconst 3, 1) := by decide +kernel
theorem dL_law_272 : decode cL_law 272 = .ok (.iadd, 1) := by decide +kernel
theorem dL_law_273 : decode cL_law 273 = .ok (.iaload, 1) := by decide +kernel
theorem dL_law_274 : decode cL_law 274 = .ok (.ifCond .eq 7, 3) := by decide +kernel
theorem dL_law_277 : decode cL_law 277 = .ok (.iconst 1, 1) := by decide +kernel
theorem dL_law_278 : decode cL_law 278 = .ok (.goto 4, 3) := by decide +kernel
theorem dL_law_281 : decode cL_law 281 = .ok (.iconst 0, 1) := by decide +kernel
theorem dL_law_282 : decode cL_law 282 = .ok (.invokevirtual 23, 3) := by decide +kernel
theorem dL_law_285 : decode cL_law 285 = .ok (.aload_n 2, 1) := by decide +kernel
theorem dL_law_286 : decode cL_law 286 = .ok (.aload_n 0, 1) := by decide +kernel
theorem dL_law_287 : decode cL_law 287 = .ok (.iload_n 3, 1) := by decide +kernel
theorem dL_law_288 : decode cL_law 288 = .ok (.iconst 1, 1) := by decide +kernel
theorem dL_law_289 : decode cL_law 289 = .ok (.iadd, 1) := by decide +kernel
theorem dL_law_290 : decode cL_law 290 = .ok (.iaload, 1) := by decide +kernel
theorem dL_law_291 : decode cL_law 291 = .ok (.aload_n 0, 1) := by decide +kernel
theorem dL_law_292 : decode cL_law 292 = .ok (.iload_n 3, 1) := by decide +kernel
theorem dL_law_293 : decode cL_law 293 = .ok (.iconst 2, 1) := by decide +kernel
theorem dL_law_294 : decode cL_law 294 = .ok (.iadd, 1) := by decide +kernel
theorem dL_law_295 : decode cL_law 295 = .ok (.iaload, 1) := by decide +kernel
theorem dL_law_296 : decode cL_law 296 = .ok (.aload_n 0, 1) := by decide +kernel
theorem dL_law_297 : decode cL_law 297 = .ok (.iload_n 3, 1) := by decide +kernel
theorem dL_law_298 : decode cL_law 298 = .ok (.iconst 3, 1) := by decide +kernel
theorem dL_law_299 : decode cL_law 299 = .ok (.iadd, 1) := by decide +kernel
theorem dL_law_300 : decode cL_law 300 = .ok (.iaload, 1) := by decide +kernel
theorem dL_law_301 : decode cL_law 301 = .ok (.ifCond .eq 7, 3) := by decide +kernel
theorem dL_law_304 : decode cL_law 304 = .ok (.iconst 1, 1) := by decide +kernel
theorem dL_law_305 : decode cL_law 305 = .ok (.goto 4, 3) := by decide +kernel
theorem dL_law_308 : decode cL_law 308 = .ok (.iconst 0, 1) := by decide +kernel
theorem dL_law_309 : decode cL_law 309 = .ok (.invokevirtual 27, 3) := by decide +kernel
theorem dL_law_312 : decode cL_law 312 = .ok (.if_icmp .eq 706, 3) := by decide +kernel
theorem dL_law_315 : decode cL_law 315 = .ok (.iconst 0, 1) := by decide +kernel
theorem dL_law_316 : decode cL_law 316 = .ok (.ireturn, 1) := by decide +kernel
theorem dL_law_317 : decode cL_law 317 = .ok (.aload_n 1, 1) := by decide +kernel
theorem dL_law_318 : decode cL_law 318 = .ok (.aload_n 0, 1) := by decide +kernel
theorem dL_law_319 : decode cL_law 319 = .ok (.iload_n 3, 1) := by decide +kernel
theorem dL_law_320 : decode cL_law 320 = .ok (.iconst 1, 1) := by decide +kernel
theorem dL_law_321 : decode cL_law 321 = .ok (.iadd, 1) := by decide +kernel
theorem dL_law_322 : decode cL_law 322 = .ok (.iaload, 1) := by decide +kernel
theorem dL_law_323 : decode cL_law 323 = .ok (.invokevirtual 28, 3) := by decide +kernel
theorem dL_law_326 : decode cL_law 326 = .ok (.aload_n 2, 1) := by decide +kernel
theorem dL_law_327 : decode cL_law 327 = .ok (.aload_n 0, 1) := by decide +kernel
theorem dL_law_328 : decode cL_law 328 = .ok (.iload_n 3, 1) := by decide +kernel
theorem dL_law_329 : decode cL_law 329 = .ok (.iconst 1, 1) := by decide +kernel
theorem dL_law_330 : decode cL_law 330 = .ok (.iadd, 1) := by decide +kernel
theorem dL_law_331 : decode cL_law 331 = .ok (.iaload, 1) := by decide +kernel
theorem dL_law_332 : decode cL_law 332 = .ok (.invokevirtual 32, 3) := by decide +kernel
theorem dL_law_335 : decode cL_law 335 = .ok (.if_icmp .eq 683, 3) := by decide +kernel
theorem dL_law_338 : decode cL_law 338 = .ok (.iconst 0, 1) := by decide +kernel
theorem dL_law_339 : decode cL_law 339 = .ok (.ireturn, 1) := by decide +kernel
theorem dL_law_340 : decode cL_law 340 = .ok (.aload_n 1, 1) := by decide +kernel
theorem dL_law_341 : decode cL_law 341 = .ok (.invokevirtual 33, 3) := by decide +kernel
theorem dL_law_344 : decode cL_law 344 = .ok (.aload_n 2, 1) := by decide +kernel
theorem dL_law_345 : decode cL_law 345 = .ok (.invokevirtual 37, 3) := by decide +kernel
theorem dL_law_348 : decode cL_law 348 = .ok (.if_icmp .eq 670, 3) := by decide +kernel
theorem dL_law_351 : decode cL_law 351 = .ok (.iconst 0, 1) := by decide +kernel
theorem dL_law_352 : decode cL_law 352 = .ok (.ireturn, 1) := by decide +kernel
theorem dL_law_353 : decode cL_law 353 = .ok (.aload_n 1, 1) := by decide +kernel
theorem dL_law_354 : decode cL_law 354 = .ok (.invokevirtual 38, 3) := by decide +kernel
theorem dL_law_357 : decode cL_law 357 = .ok (.aload_n 2, 1) := by decide +kernel
theorem dL_law_358 : decode cL_law 358 = .ok (.invokevirtual 41, 3) := by decide +kernel
theorem dL_law_361 : decode cL_law 361 = .ok (.if_icmp .eq 657, 3) := by decide +kernel
theorem dL_law_364 : decode cL_law 364 = .ok (.iconst 0, 1) := by decide +kernel
theorem dL_law_365 : decode cL_law 365 = .ok (.ireturn, 1) := by decide +kernel
theorem dL_law_366 : decode cL_law 366 = .ok (.aload_n 1, 1) := by decide +kernel
theorem dL_law_367 : decode cL_law 367 = .ok (.aload_n 0, 1) := by decide +kernel
theorem dL_law_368 : decode cL_law 368 = .ok (.iload_n 3, 1) := by decide +kernel
theorem dL_law_369 : decode cL_law 369 = .ok (.iconst 1, 1) := by decide +kernel
theorem dL_law_370 : decode cL_law 370 = .ok (.iadd, 1) := by decide +kernel
theorem dL_law_371 : decode cL_law 371 = .ok (.iaload, 1) := by decide +kernel
theorem dL_law_372 : decode cL_law 372 = .ok (.invokevirtual 42, 3) := by decide +kernel
theorem dL_law_375 : decode cL_law 375 = .ok (.aload_n 2, 1) := by decide +kernel
theorem dL_law_376 : decode cL_law 376 = .ok (.aload_n 0, 1) := by decide +kernel
theorem dL_law_377 : decode cL_law 377 = .ok (.iload_n 3, 1) := by decide +kernel
theorem dL_law_378 : decode cL_law 378 = .ok (.iconst 1, 1) := by decide +kernel
theorem dL_law_379 : decode cL_law 379 = .ok (.iadd, 1) := by decide +kernel
theorem dL_law_380 : decode cL_law 380 = .ok (.iaload, 1) := by decide +kernel
theorem dL_law_381 : decode cL_law 381 = .ok (.invokevirtual 45, 3) := by decide +kernel
theorem dL_law_384 : decode cL_law 384 = .ok (.if_icmp .eq 634, 3) := by decide +kernel
theorem dL_law_387 : decode cL_law 387 = .ok (.iconst 0, 1) := by decide +kernel
theorem dL_law_388 : decode cL_law 388 = .ok (.ireturn, 1) := by decide +kernel
theorem dL_law_389 : decode cL_law 389 = .ok (.aload_n 1, 1) := by decide +kernel
theorem dL_law_390 : decode cL_law 390 = .ok (.aload_n 0, 1) := by decide +kernel
theorem dL_law_391 : decode cL_law 391 = .ok (.iload_n 3, 1) := by decide +kernel
theorem dL_law_392 : decode cL_law 392 = .ok (.iconst 1, 1) := by decide +kernel
theorem dL_law_393 : decode cL_law 393 = .ok (.iadd, 1) := by decide +kernel
theorem dL_law_394 : decode cL_law 394 = .ok (.iaload, 1) := by decide +kernel
theorem dL_law_395 : decode cL_law 395 = .ok (.aload_n 0, 1) := by decide +kernel
theorem dL_law_396 : decode cL_law 396 = .ok (.iload_n 3, 1) := by decide +kernel
theorem dL_law_397 : decode cL_law 397 = .ok (.iconst 2, 1) := by decide +kernel
theorem dL_law_398 : decode cL_law 398 = .ok (.iadd, 1) := by decide +kernel
theorem dL_law_399 : decode cL_law 399 = .ok (.iaload, 1) := by decide +kernel
theorem dL_law_400 : decode cL_law 400 = .ok (.invokevirtual 46, 3) := by decide +kernel
theorem dL_law_403 : decode cL_law 403 = .ok (.aload_n 2, 1) := by decide +kernel
theorem dL_law_404 : decode cL_law 404 = .ok (.aload_n 0, 1) := by decide +kernel
theorem dL_law_405 : decode cL_law 405 = .ok (.iload_n 3, 1) := by decide +kernel
theorem dL_law_406 : decode cL_law 406 = .ok (.iconst 1, 1) := by decide +kernel
theorem dL_law_407 : decode cL_law 407 = .ok (.iadd, 1) := by decide +kernel
theorem dL_law_408 : decode cL_law 408 = .ok (.iaload, 1) := by decide +kernel
theorem dL_law_409 : decode cL_law 409 = .ok (.aload_n 0, 1) := by decide +kernel
theorem dL_law_410 : decode cL_law 410 = .ok (.iload_n 3, 1) := by decide +kernel
theorem dL_law_411 : decode cL_law 411 = .ok (.iconst 2, 1) := by decide +kernel
theorem dL_law_412 : decode cL_law 412 = .ok (.iadd, 1) := by decide +kernel
theorem dL_law_413 : decode cL_law 413 = .ok (.iaload, 1) := by decide +kernel
theorem dL_law_414 : decode cL_law 414 = .ok (.invokevirtual 50, 3) := by decide +kernel
theorem dL_law_417 : decode cL_law 417 = .ok (.if_icmp .eq 601, 3) := by decide +kernel
theorem dL_law_420 : decode cL_law 420 = .ok (.iconst 0, 1) := by decide +kernel
theorem dL_law_421 : decode cL_law 421 = .ok (.ireturn, 1) := by decide +kernel
theorem dL_law_422 : decode cL_law 422 = .ok (.aload_n 1, 1) := by decide +kernel
theorem dL_law_423 : decode cL_law 423 = .ok (.aload_n 0, 1) := by decide +kernel
theorem dL_law_424 : decode cL_law 424 = .ok (.iload_n 3, 1) := by decide +kernel
theorem dL_law_425 : decode cL_law 425 = .ok (.iconst 1, 1) := by decide +kernel
theorem dL_law_426 : decode cL_law 426 = .ok (.iadd, 1) := by decide +kernel
theorem dL_law_427 : decode cL_law 427 = .ok (.iaload, 1) := by decide +kernel
theorem dL_law_428 : decode cL_law 428 = .ok (.aload_n 0, 1) := by decide +kernel
theorem dL_law_429 : decode cL_law 429 = .ok (.iload_n 3, 1) := by decide +kernel
theorem dL_law_430 : decode cL_law 430 = .ok (.iconst 2, 1) := by decide +kernel
theorem dL_law_431 : decode cL_law 431 = .ok (.iadd, 1) := by decide +kernel
theorem dL_law_432 : decode cL_law 432 = .ok (.iaload, 1) := by decide +kernel
theorem dL_law_433 : decode cL_law 433 = .ok (.invokevirtual 51, 3) := by decide +kernel
theorem dL_law_436 : decode cL_law 436 = .ok (.aload_n 2, 1) := by decide +kernel
theorem dL_law_437 : decode cL_law 437 = .ok (.aload_n 0, 1) := by decide +kernel
theorem dL_law_438 : decode cL_law 438 = .ok (.iload_n 3, 1) := by decide +kernel
theorem dL_law_439 : decode cL_law 439 = .ok (.iconst 1, 1) := by decide +kernel
theorem dL_law_440 : decode cL_law 440 = .ok (.iadd, 1) := by decide +kernel
theorem dL_law_441 : decode cL_law 441 = .ok (.iaload, 1) := by decide +kernel
theorem dL_law_442 : decode cL_law 442 = .ok (.aload_n 0, 1) := by decide +kernel
theorem dL_law_443 : decode cL_law 443 = .ok (.iload_n 3, 1) := by decide +kernel
theorem dL_law_444 : decode cL_law 444 = .ok (.iconst 2, 1) := by decide +kernel
theorem dL_law_445 : decode cL_law 445 = .ok (.iadd, 1) := by decide +kernel
theorem dL_law_446 : decode cL_law 446 = .ok (.iaload, 1) := by decide +kernel
theorem dL_law_447 : decode cL_law 447 = .ok (.invokevirtual 54, 3) := by decide +kernel
theorem dL_law_450 : decode cL_law 450 = .ok (.if_icmp .eq 568, 3) := by decide +kernel
theorem dL_law_453 : decode cL_law 453 = .ok (.iconst 0, 1) := by decide +kernel
theorem dL_law_454 : decode cL_law 454 = .ok (.ireturn, 1) := by decide +kernel
theorem dL_law_455 : decode cL_law 455 = .ok (.aload_n 1, 1) := by decide +kernel
theorem dL_law_456 : decode cL_law 456 = .ok (.aload_n 0, 1) := by decide +kernel
theorem dL_law_457 : decode cL_law 457 = .ok (.iload_n 3, 1) := by decide +kernel
theorem dL_law_458 : decode cL_law 458 = .ok (.iconst 1, 1) := by decide +kernel
theorem dL_law_459 : decode cL_law 459 = .ok (.iadd, 1) := by decide +kernel
theorem dL_law_460 : decode cL_law 460 = .ok (.iaload, 1) := by decide +kernel
theorem dL_law_461 : decode cL_law 461 = .ok (.invokevirtual 55, 3) := by decide +kernel
theorem dL_law_464 : decode cL_law 464 = .ok (.aload_n 2, 1) := by decide +kernel
theorem dL_law_465 : decode cL_law 465 = .ok (.aload_n 0, 1) := by decide +kernel
theorem dL_law_466 : decode cL_law 466 = .ok (.iload_n 3, 1) := by decide +kernel
theorem dL_law_467 : decode cL_law 467 = .ok (.iconst 1, 1) := by decide +kernel
theorem dL_law_468 : decode cL_law 468 = .ok (.iadd, 1) := by decide +kernel
theorem dL_law_469 : decode cL_law 469 = .ok (.iaload, 1) := by decide +kernel
theorem dL_law_470 : decode cL_law 470 = .ok (.invokevirtual 58, 3) := by decide +kernel
theorem dL_law_473 : decode cL_law 473 = .ok (.if_icmp .eq 545, 3) := by decide +kernel
theorem dL_law_476 : decode cL_law 476 = .ok (.iconst 0, 1) := by decide +kernel
theorem dL_law_477 : decode cL_law 477 = .ok (.ireturn, 1) := by decide +kernel
theorem dL_law_478 : decode cL_law 478 = .ok (.aload_n 1, 1) := by decide +kernel
theorem dL_law_479 : decode cL_law 479 = .ok (.invokevirtual 59, 3) := by decide +kernel
theorem dL_law_482 : decode cL_law 482 = .ok (.aload_n 2, 1) := by decide +kernel
theorem dL_law_483 : decode cL_law 483 = .ok (.invokevirtual 62, 3) := by decide +kernel
theorem dL_law_486 : decode cL_law 486 = .ok (.if_icmp .eq 532, 3) := by decide +kernel
theorem dL_law_489 : decode cL_law 489 = .ok (.iconst 0, 1) := by decide +kernel
theorem dL_law_490 : decode cL_law 490 = .ok (.ireturn, 1) := by decide +kernel
theorem dL_law_491 : decode cL_law 491 = .ok (.aload_n 1, 1) := by decide +kernel
theorem dL_law_492 : decode cL_law 492 = .ok (.aload_n 0, 1) := by decide +kernel
theorem dL_law_493 : decode cL_law 493 = .ok (.iload_n 3, 1) := by decide +kernel
theorem dL_law_494 : decode cL_law 494 = .ok (.iconst 1, 1) := by decide +kernel
theorem dL_law_495 : decode cL_law 495 = .ok (.iadd, 1) := by decide +kernel
theorem dL_law_496 : decode cL_law 496 = .ok (.iaload, 1) := by decide +kernel
theorem dL_law_497 : decode cL_law 497 = .ok (.aload_n 0, 1) := by decide +kernel
theorem dL_law_498 : decode cL_law 498 = .ok (.iload_n 3, 1) := by decide +kernel
theorem dL_law_499 : decode cL_law 499 = .ok (.iconst 2, 1) := by decide +kernel
theorem dL_law_500 : decode cL_law 500 = .ok (.iadd, 1) := by decide +kernel
theorem dL_law_501 : decode cL_law 501 = .ok (.iaload, 1) := by decide +kernel
theorem dL_law_502 : decode cL_law 502 = .ok (.aload_n 0, 1) := by decide +kernel
theorem dL_law_503 : decode cL_law 503 = .ok (.iload_n 3, 1) := by decide +kernel
theorem dL_law_504 : decode cL_law 504 = .ok (.iconst 3, 1) := by decide +kernel
theorem dL_law_505 : decode cL_law 505 = .ok (.iadd, 1) := by decide +kernel
theorem dL_law_506 : decode cL_law 506 = .ok (.iaload, 1) := by decide +kernel
theorem dL_law_507 : decode cL_law 507 = .ok (.invokevirtual 63, 3) := by decide +kernel
theorem dL_law_510 : decode cL_law 510 = .ok (.aload_n 2, 1) := by decide +kernel
theorem dL_law_511 : decode cL_law 511 = .ok (.aload_n 0, 1) := by decide +kernel
theorem dL_law_512 : decode cL_law 512 = .ok (.iload_n 3, 1) := by decide +kernel
theorem dL_law_513 : decode cL_law 513 = .ok (.iconst 1, 1) := by decide +kernel
theorem dL_law_514 : decode cL_law 514 = .ok (.iadd, 1) := by decide +kernel
theorem dL_law_515 : decode cL_law 515 = .ok (.iaload, 1) := by decide +kernel
theorem dL_law_516 : decode cL_law 516 = .ok (.aload_n 0, 1) := by decide +kernel
theorem dL_law_517 : decode cL_law 517 = .ok (.iload_n 3, 1) := by decide +kernel
theorem dL_law_518 : decode cL_law 518 = .ok (.iconst 2, 1) := by decide +kernel
theorem dL_law_519 : decode cL_law 519 = .ok (.iadd, 1) := by decide +kernel
theorem dL_law_520 : decode cL_law 520 = .ok (.iaload, 1) := by decide +kernel
theorem dL_law_521 : decode cL_law 521 = .ok (.aload_n 0, 1) := by decide +kernel
theorem dL_law_522 : decode cL_law 522 = .ok (.iload_n 3, 1) := by decide +kernel
theorem dL_law_523 : decode cL_law 523 = .ok (.iconst 3, 1) := by decide +kernel
theorem dL_law_524 : decode cL_law 524 = .ok (.iadd, 1) := by decide +kernel
theorem dL_law_525 : decode cL_law 525 = .ok (.iaload, 1) := by decide +kernel
theorem dL_law_526 : decode cL_law 526 = .ok (.invokevirtual 66, 3) := by decide +kernel
theorem dL_law_529 : decode cL_law 529 = .ok (.if_icmp .eq 489, 3) := by decide +kernel
theorem dL_law_532 : decode cL_law 532 = .ok (.iconst 0, 1) := by decide +kernel
theorem dL_law_533 : decode cL_law 533 = .ok (.ireturn, 1) := by decide +kernel
theorem dL_law_534 : decode cL_law 534 = .ok (.aload_n 1, 1) := by decide +kernel
theorem dL_law_535 : decode cL_law 535 = .ok (.aload_n 0, 1) := by decide +kernel
theorem dL_law_536 : decode cL_law 536 = .ok (.iload_n 3, 1) := by decide +kernel
theorem dL_law_537 : decode cL_law 537 = .ok (.iconst 1, 1) := by decide +kernel
theorem dL_law_538 : decode cL_law 538 = .ok (.iadd, 1) := by decide +kernel
theorem dL_law_539 : decode cL_law 539 = .ok (.iaload, 1) := by decide +kernel
theorem dL_law_540 : decode cL_law 540 = .ok (.aload_n 0, 1) := by decide +kernel
theorem dL_law_541 : decode cL_law 541 = .ok (.iload_n 3, 1) := by decide +kernel
theorem dL_law_542 : decode cL_law 542 = .ok (.iconst 2, 1) := by decide +kernel
theorem dL_law_543 : decode cL_law 543 = .ok (.iadd, 1) := by decide +kernel
theorem dL_law_544 : decode cL_law 544 = .ok (.iaload, 1) := by decide +kernel
theorem dL_law_545 : decode cL_law 545 = .ok (.invokevirtual 67, 3) := by decide +kernel
theorem dL_law_548 : decode cL_law 548 = .ok (.aload_n 2, 1) := by decide +kernel
theorem dL_law_549 : decode cL_law 549 = .ok (.aload_n 0, 1) := by decide +kernel
theorem dL_law_550 : decode cL_law 550 = .ok (.iload_n 3, 1) := by decide +kernel
theorem dL_law_551 : decode cL_law 551 = .ok (.iconst 1, 1) := by decide +kernel
theorem dL_law_552 : decode cL_law 552 = .ok (.iadd, 1) := by decide +kernel
theorem dL_law_553 : decode cL_law 553 = .ok (.iaload, 1) := by decide +kernel
theorem dL_law_554 : decode cL_law 554 = .ok (.aload_n 0, 1) := by decide +kernel
theorem dL_law_555 : decode cL_law 555 = .ok (.iload_n 3, 1) := by decide +kernel
theorem dL_law_556 : decode cL_law 556 = .ok (.iconst 2, 1) := by decide +kernel
theorem dL_law_557 : decode cL_law 557 = .ok (.iadd, 1) := by decide +kernel
theorem dL_law_558 : decode cL_law 558 = .ok (.iaload, 1) := by decide +kernel
theorem dL_law_559 : decode cL_law 559 = .ok (.invokevirtual 70, 3) := by decide +kernel
theorem dL_law_562 : decode cL_law 562 = .ok (.if_icmp .eq 456, 3) := by decide +kernel
theorem dL_law_565 : decode cL_law 565 = .ok (.iconst 0, 1) := by decide +kernel
theorem dL_law_566 : decode cL_law 566 = .ok (.ireturn, 1) := by decide +kernel
theorem dL_law_567 : decode cL_law 567 = .ok (.aload_n 1, 1) := by decide +kernel
theorem dL_law_568 : decode cL_law 568 = .ok (.aload_n 0, 1) := by decide +kernel
theorem dL_law_569 : decode cL_law 569 = .ok (.iload_n 3, 1) := by decide +kernel
theorem dL_law_570 : decode cL_law 570 = .ok (.iconst 1, 1) := by decide +kernel
theorem dL_law_571 : decode cL_law 571 = .ok (.iadd, 1) := by decide +kernel
theorem dL_law_572 : decode cL_law 572 = .ok (.iaload, 1) := by decide +kernel
theorem dL_law_573 : decode cL_law 573 = .ok (.aload_n 0, 1) := by decide +kernel
theorem dL_law_574 : decode cL_law 574 = .ok (.iload_n 3, 1) := by decide +kernel
theorem dL_law_575 : decode cL_law 575 = .ok (.iconst 2, 1) := by decide +kernel
theorem dL_law_576 : decode cL_law 576 = .ok (.iadd, 1) := by decide +kernel
theorem dL_law_577 : decode cL_law 577 = .ok (.iaload, 1) := by decide +kernel
theorem dL_law_578 : decode cL_law 578 = .ok (.aload_n 0, 1) := by decide +kernel
theorem dL_law_579 : decode cL_law 579 = .ok (.iload_n 3, 1) := by decide +kernel
theorem dL_law_580 : decode cL_law 580 = .ok (.iconst 3, 1) := by decide +kernel
theorem dL_law_581 : decode cL_law 581 = .ok (.iadd, 1) := by decide +kernel
theorem dL_law_582 : decode cL_law 582 = .ok (.iaload, 1) := by decide +kernel
theorem dL_law_583 : decode cL_law 583 = .ok (.aload_n 0, 1) := by decide +kernel
theorem dL_law_584 : decode cL_law 584 = .ok (.iload_n 3, 1) := by decide +kernel
theorem dL_law_585 : decode cL_law 585 = .ok (.iconst 4, 1) := by decide +kernel
theorem dL_law_586 : decode cL_law 586 = .ok (.iadd, 1) := by decide +kernel
theorem dL_law_587 : decode cL_law 587 = .ok (.iaload, 1) := by decide +kernel
theorem dL_law_588 : decode cL_law 588 = .ok (.invokevirtual 71, 3) := by decide +kernel
theorem dL_law_591 : decode cL_law 591 = .ok (.aload_n 2, 1) := by decide +kernel
theorem dL_law_592 : decode cL_law 592 = .ok (.aload_n 0, 1) := by decide +kernel
theorem dL_law_593 : decode cL_law 593 = .ok (.iload_n 3, 1) := by decide +kernel
theorem dL_law_594 : decode cL_law 594 = .ok (.iconst 1, 1) := by decide +kernel
theorem dL_law_595 : decode cL_law 595 = .ok (.iadd, 1) := by decide +kernel
theorem dL_law_596 : decode cL_law 596 = .ok (.iaload, 1) := by decide +kernel
theorem dL_law_597 : decode cL_law 597 = .ok (.aload_n 0, 1) := by decide +kernel
theorem dL_law_598 : decode cL_law 598 = .ok (.iload_n 3, 1) := by decide +kernel
theorem dL_law_599 : decode cL_law 599 = .ok (.iconst 2, 1) := by decide +kernel
theorem dL_law_600 : decode cL_law 600 = .ok (.iadd, 1) := by decide +kernel
theorem dL_law_601 : decode cL_law 601 = .ok (.iaload, 1) := by decide +kernel
theorem dL_law_602 : decode cL_law 602 = .ok (.aload_n 0, 1) := by decide +kernel
theorem dL_law_603 : decode cL_law 603 = .ok (.iload_n 3, 1) := by decide +kernel
theorem dL_law_604 : decode cL_law 604 = .ok (.iconst 3, 1) := by decide +kernel
theorem dL_law_605 : decode cL_law 605 = .ok (.iadd, 1) := by decide +kernel
theorem dL_law_606 : decode cL_law 606 = .ok (.iaload, 1) := by decide +kernel
theorem dL_law_607 : decode cL_law 607 = .ok (.aload_n 0, 1) := by decide +kernel
theorem dL_law_608 : decode cL_law 608 = .ok (.iload_n 3, 1) := by decide +kernel
theorem dL_law_609 : decode cL_law 609 = .ok (.iconst 4, 1) := by decide +kernel
theorem dL_law_610 : decode cL_law 610 = .ok (.iadd, 1) := by decide +kernel
theorem dL_law_611 : decode cL_law 611 = .ok (.iaload, 1) := by decide +kernel
theorem dL_law_612 : decode cL_law 612 = .ok (.invokevirtual 75, 3) := by decide +kernel
theorem dL_law_615 : decode cL_law 615 = .ok (.if_icmp .eq 403, 3) := by decide +kernel
theorem dL_law_618 : decode cL_law 618 = .ok (.iconst 0, 1) := by decide +kernel
theorem dL_law_619 : decode cL_law 619 = .ok (.ireturn, 1) := by decide +kernel
theorem dL_law_620 : decode cL_law 620 = .ok (.aload_n 1, 1) := by decide +kernel
theorem dL_law_621 : decode cL_law 621 = .ok (.aload_n 0, 1) := by decide +kernel
theorem dL_law_622 : decode cL_law 622 = .ok (.iload_n 3, 1) := by decide +kernel
theorem dL_law_623 : decode cL_law 623 = .ok (.iconst 1, 1) := by decide +kernel
theorem dL_law_624 : decode cL_law 624 = .ok (.iadd, 1) := by decide +kernel
theorem dL_law_625 : decode cL_law 625 = .ok (.iaload, 1) := by decide +kernel
theorem dL_law_626 : decode cL_law 626 = .ok (.aload_n 0, 1) := by decide +kernel
theorem dL_law_627 : decode cL_law 627 = .ok (.iload_n 3, 1) := by decide +kernel
theorem dL_law_628 : decode cL_law 628 = .ok (.iconst 2, 1) := by decide +kernel
theorem dL_law_629 : decode cL_law 629 = .ok (.iadd, 1) := by decide +kernel
theorem dL_law_630 : decode cL_law 630 = .ok (.iaload, 1) := by decide +kernel
theorem dL_law_631 : decode cL_law 631 = .ok (.aload_n 0, 1) := by decide +kernel
theorem dL_law_632 : decode cL_law 632 = .ok (.iload_n 3, 1) := by decide +kernel
theorem dL_law_633 : decode cL_law 633 = .ok (.iconst 3, 1) := by decide +kernel
theorem dL_law_634 : decode cL_law 634 = .ok (.iadd, 1) := by decide +kernel
theorem dL_law_635 : decode cL_law 635 = .ok (.iaload, 1) := by decide +kernel
theorem dL_law_636 : decode cL_law 636 = .ok (.aload_n 0, 1) := by decide +kernel
theorem dL_law_637 : decode cL_law 637 = .ok (.iload_n 3, 1) := by decide +kernel
theorem dL_law_638 : decode cL_law 638 = .ok (.iconst 4, 1) := by decide +kernel
theorem dL_law_639 : decode cL_law 639 = .ok (.iadd, 1) := by decide +kernel
theorem dL_law_640 : decode cL_law 640 = .ok (.iaload, 1) := by decide +kernel
theorem dL_law_641 : decode cL_law 641 = .ok (.invokevirtual 76, 3) := by decide +kernel
theorem dL_law_644 : decode cL_law 644 = .ok (.aload_n 2, 1) := by decide +kernel
theorem dL_law_645 : decode cL_law 645 = .ok (.aload_n 0, 1) := by decide +kernel
theorem dL_law_646 : decode cL_law 646 = .ok (.iload_n 3, 1) := by decide +kernel
theorem dL_law_647 : decode cL_law 647 = .ok (.iconst 1, 1) := by decide +kernel
theorem dL_law_648 : decode cL_law 648 = .ok (.iadd, 1) := by decide +kernel
theorem dL_law_649 : decode cL_law 649 = .ok (.iaload, 1) := by decide +kernel
theorem dL_law_650 : decode cL_law 650 = .ok (.aload_n 0, 1) := by decide +kernel
theorem dL_law_651 : decode cL_law 651 = .ok (.iload_n 3, 1) := by decide +kernel
theorem dL_law_652 : decode cL_law 652 = .ok (.iconst 2, 1) := by decide +kernel
theorem dL_law_653 : decode cL_law 653 = .ok (.iadd, 1) := by decide +kernel
theorem dL_law_654 : decode cL_law 654 = .ok (.iaload, 1) := by decide +kernel
theorem dL_law_655 : decode cL_law 655 = .ok (.aload_n 0, 1) := by decide +kernel
theorem dL_law_656 : decode cL_law 656 = .ok (.iload_n 3, 1) := by decide +kernel
theorem dL_law_657 : decode cL_law 657 = .ok (.iconst 3, 1) := by decide +kernel
theorem dL_law_658 : decode cL_law 658 = .ok (.iadd, 1) := by decide +kernel
theorem dL_law_659 : decode cL_law 659 = .ok (.iaload, 1) := by decide +kernel
theorem dL_law_660 : decode cL_law 660 = .ok (.aload_n 0, 1) := by decide +kernel
theorem dL_law_661 : decode cL_law 661 = .ok (.iload_n 3, 1) := by decide +kernel
theorem dL_law_662 : decode cL_law 662 = .ok (.iconst 4, 1) := by decide +kernel
theorem dL_law_663 : decode cL_law 663 = .ok (.iadd, 1) := by decide +kernel
theorem dL_law_664 : decode cL_law 664 = .ok (.iaload, 1) := by decide +kernel
theorem dL_law_665 : decode cL_law 665 = .ok (.invokevirtual 80, 3) := by decide +kernel
theorem dL_law_668 : decode cL_law 668 = .ok (.lcmp, 1) := by decide +kernel
theorem dL_law_669 : decode cL_law 669 = .ok (.ifCond .eq 349, 3) := by decide +kernel
theorem dL_law_672 : decode cL_law 672 = .ok (.iconst 0, 1) := by decide +kernel
theorem dL_law_673 : decode cL_law 673 = .ok (.ireturn, 1) := by decide +kernel
theorem dL_law_674 : decode cL_law 674 = .ok (.aload_n 1, 1) := by decide +kernel
theorem dL_law_675 : decode cL_law 675 = .ok (.aload_n 0, 1) := by decide +kernel
theorem dL_law_676 : decode cL_law 676 = .ok (.iload_n 3, 1) := by decide +kernel
theorem dL_law_677 : decode cL_law 677 = .ok (.iconst 1, 1) := by decide +kernel
theorem dL_law_678 : decode cL_law 678 = .ok (.iadd, 1) := by decide +kernel
theorem dL_law_679 : decode cL_law 679 = .ok (.iaload, 1) := by decide +kernel
theorem dL_law_680 : decode cL_law 680 = .ok (.aload_n 0, 1) := by decide +kernel
theorem dL_law_681 : decode cL_law 681 = .ok (.iload_n 3, 1) := by decide +kernel
theorem dL_law_682 : decode cL_law 682 = .ok (.iconst 2, 1) := by decide +kernel
theorem dL_law_683 : decode cL_law 683 = .ok (.iadd, 1) := by decide +kernel
theorem dL_law_684 : decode cL_law 684 = .ok (.iaload, 1) := by decide +kernel
theorem dL_law_685 : decode cL_law 685 = .ok (.aload_n 0, 1) := by decide +kernel
theorem dL_law_686 : decode cL_law 686 = .ok (.iload_n 3, 1) := by decide +kernel
theorem dL_law_687 : decode cL_law 687 = .ok (.iconst 3, 1) := by decide +kernel
theorem dL_law_688 : decode cL_law 688 = .ok (.iadd, 1) := by decide +kernel
theorem dL_law_689 : decode cL_law 689 = .ok (.iaload, 1) := by decide +kernel
theorem dL_law_690 : decode cL_law 690 = .ok (.invokevirtual 81, 3) := by decide +kernel
theorem dL_law_693 : decode cL_law 693 = .ok (.aload_n 2, 1) := by decide +kernel
theorem dL_law_694 : decode cL_law 694 = .ok (.aload_n 0, 1) := by decide +kernel
theorem dL_law_695 : decode cL_law 695 = .ok (.iload_n 3, 1) := by decide +kernel
theorem dL_law_696 : decode cL_law 696 = .ok (.iconst 1, 1) := by decide +kernel
theorem dL_law_697 : decode cL_law 697 = .ok (.iadd, 1) := by decide +kernel
theorem dL_law_698 : decode cL_law 698 = .ok (.iaload, 1) := by decide +kernel
theorem dL_law_699 : decode cL_law 699 = .ok (.aload_n 0, 1) := by decide +kernel
theorem dL_law_700 : decode cL_law 700 = .ok (.iload_n 3, 1) := by decide +kernel
theorem dL_law_701 : decode cL_law 701 = .ok (.iconst 2, 1) := by decide +kernel
theorem dL_law_702 : decode cL_law 702 = .ok (.iadd, 1) := by decide +kernel
theorem dL_law_703 : decode cL_law 703 = .ok (.iaload, 1) := by decide +kernel
theorem dL_law_704 : decode cL_law 704 = .ok (.aload_n 0, 1) := by decide +kernel
theorem dL_law_705 : decode cL_law 705 = .ok (.iload_n 3, 1) := by decide +kernel
theorem dL_law_706 : decode cL_law 706 = .ok (.iconst 3, 1) := by decide +kernel
theorem dL_law_707 : decode cL_law 707 = .ok (.iadd, 1) := by decide +kernel
theorem dL_law_708 : decode cL_law 708 = .ok (.iaload, 1) := by decide +kernel
theorem dL_law_709 : decode cL_law 709 = .ok (.invokevirtual 84, 3) := by decide +kernel
theorem dL_law_712 : decode cL_law 712 = .ok (.if_icmp .eq 306, 3) := by decide +kernel
theorem dL_law_715 : decode cL_law 715 = .ok (.iconst 0, 1) := by decide +kernel
theorem dL_law_716 : decode cL_law 716 = .ok (.ireturn, 1) := by decide +kernel
theorem dL_law_717 : decode cL_law 717 = .ok (.aload_n 1, 1) := by decide +kernel
theorem dL_law_718 : decode cL_law 718 = .ok (.aload_n 0, 1) := by decide +kernel
theorem dL_law_719 : decode cL_law 719 = .ok (.iload_n 3, 1) := by decide +kernel
theorem dL_law_720 : decode cL_law 720 = .ok (.iconst 1, 1) := by decide +kernel
theorem dL_law_721 : decode cL_law 721 = .ok (.iadd, 1) := by decide +kernel
theorem dL_law_722 : decode cL_law 722 = .ok (.iaload, 1) := by decide +kernel
theorem dL_law_723 : decode cL_law 723 = .ok (.aload_n 0, 1) := by decide +kernel
theorem dL_law_724 : decode cL_law 724 = .ok (.iload_n 3, 1) := by decide +kernel
theorem dL_law_725 : decode cL_law 725 = .ok (.iconst 2, 1) := by decide +kernel
theorem dL_law_726 : decode cL_law 726 = .ok (.iadd, 1) := by decide +kernel
theorem dL_law_727 : decode cL_law 727 = .ok (.iaload, 1) := by decide +kernel
theorem dL_law_728 : decode cL_law 728 = .ok (.invokevirtual 85, 3) := by decide +kernel
theorem dL_law_731 : decode cL_law 731 = .ok (.aload_n 2, 1) := by decide +kernel
theorem dL_law_732 : decode cL_law 732 = .ok (.aload_n 0, 1) := by decide +kernel
theorem dL_law_733 : decode cL_law 733 = .ok (.iload_n 3, 1) := by decide +kernel
theorem dL_law_734 : decode cL_law 734 = .ok (.iconst 1, 1) := by decide +kernel
theorem dL_law_735 : decode cL_law 735 = .ok (.iadd, 1) := by decide +kernel
theorem dL_law_736 : decode cL_law 736 = .ok (.iaload, 1) := by decide +kernel
theorem dL_law_737 : decode cL_law 737 = .ok (.aload_n 0, 1) := by decide +kernel
theorem dL_law_738 : decode cL_law 738 = .ok (.iload_n 3, 1) := by decide +kernel
theorem dL_law_739 : decode cL_law 739 = .ok (.iconst 2, 1) := by decide +kernel
theorem dL_law_740 : decode cL_law 740 = .ok (.iadd, 1) := by decide +kernel
theorem dL_law_741 : decode cL_law 741 = .ok (.iaload, 1) := by decide +kernel
theorem dL_law_742 : decode cL_law 742 = .ok (.invokevirtual 88, 3) := by decide +kernel
theorem dL_law_745 : decode cL_law 745 = .ok (.if_icmp .eq 273, 3) := by decide +kernel
theorem dL_law_748 : decode cL_law 748 = .ok (.iconst 0, 1) := by decide +kernel
theorem dL_law_749 : decode cL_law 749 = .ok (.ireturn, 1) := by decide +kernel
theorem dL_law_750 : decode cL_law 750 = .ok (.aload_n 1, 1) := by decide +kernel
theorem dL_law_751 : decode cL_law 751 = .ok (.invokevirtual 89, 3) := by decide +kernel
theorem dL_law_754 : decode cL_law 754 = .ok (.aload_n 2, 1) := by decide +kernel
theorem dL_law_755 : decode cL_law 755 = .ok (.invokevirtual 92, 3) := by decide +kernel
theorem dL_law_758 : decode cL_law 758 = .ok (.if_icmp .eq 260, 3) := by decide +kernel
theorem dL_law_761 : decode cL_law 761 = .ok (.iconst 0, 1) := by decide +kernel
theorem dL_law_762 : decode cL_law 762 = .ok (.ireturn, 1) := by decide +kernel
theorem dL_law_763 : decode cL_law 763 = .ok (.aload_n 1, 1) := by decide +kernel
theorem dL_law_764 : decode cL_law 764 = .ok (.aload_n 0, 1) := by decide +kernel
theorem dL_law_765 : decode cL_law 765 = .ok (.iload_n 3, 1) := by decide +kernel
theorem dL_law_766 : decode cL_law 766 = .ok (.iconst 1, 1) := by decide +kernel
theorem dL_law_767 : decode cL_law 767 = .ok (.iadd, 1) := by decide +kernel
theorem dL_law_768 : decode cL_law 768 = .ok (.iaload, 1) := by decide +kernel
theorem dL_law_769 : decode cL_law 769 = .ok (.invokevirtual 93, 3) := by decide +kernel
theorem dL_law_772 : decode cL_law 772 = .ok (.aload_n 2, 1) := by decide +kernel
theorem dL_law_773 : decode cL_law 773 = .ok (.aload_n 0, 1) := by decide +kernel
theorem dL_law_774 : decode cL_law 774 = .ok (.iload_n 3, 1) := by decide +kernel
theorem dL_law_775 : decode cL_law 775 = .ok (.iconst 1, 1) := by decide +kernel
theorem dL_law_776 : decode cL_law 776 = .ok (.iadd, 1) := by decide +kernel
theorem dL_law_777 : decode cL_law 777 = .ok (.iaload, 1) := by decide +kernel
theorem dL_law_778 : decode cL_law 778 = .ok (.invokevirtual 96, 3) := by decide +kernel
theorem dL_law_781 : decode cL_law 781 = .ok (.if_icmp .eq 237, 3) := by decide +kernel
theorem dL_law_784 : decode cL_law 784 = .ok (.iconst 0, 1) := by decide +kernel
theorem dL_law_785 : decode cL_law 785 = .ok (.ireturn, 1) := by decide +kernel
theorem dL_law_786 : decode cL_law 786 = .ok (.aload_n 1, 1) := by decide +kernel
theorem dL_law_787 : decode cL_law 787 = .ok (.aload_n 0, 1) := by decide +kernel
theorem dL_law_788 : decode cL_law 788 = .ok (.iload_n 3, 1) := by decide +kernel
theorem dL_law_789 : decode cL_law 789 = .ok (.iconst 1, 1) := by decide +kernel
theorem dL_law_790 : decode cL_law 790 = .ok (.iadd, 1) := by decide +kernel
theorem dL_law_791 : decode cL_law 791 = .ok (.iaload, 1) := by decide +kernel
theorem dL_law_792 : decode cL_law 792 = .ok (.invokevirtual 97, 3) := by decide +kernel
theorem dL_law_795 : decode cL_law 795 = .ok (.aload_n 2, 1) := by decide +kernel
theorem dL_law_796 : decode cL_law 796 = .ok (.aload_n 0, 1) := by decide +kernel
theorem dL_law_797 : decode cL_law 797 = .ok (.iload_n 3, 1) := by decide +kernel
theorem dL_law_798 : decode cL_law 798 = .ok (.iconst 1, 1) := by decide +kernel
theorem dL_law_799 : decode cL_law 799 = .ok (.iadd, 1) := by decide +kernel
theorem dL_law_800 : decode cL_law 800 = .ok (.iaload, 1) := by decide +kernel
theorem dL_law_801 : decode cL_law 801 = .ok (.invokevirtual 100, 3) := by decide +kernel
theorem dL_law_804 : decode cL_law 804 = .ok (.if_icmp .eq 214, 3) := by decide +kernel
theorem dL_law_807 : decode cL_law 807 = .ok (.iconst 0, 1) := by decide +kernel
theorem dL_law_808 : decode cL_law 808 = .ok (.ireturn, 1) := by decide +kernel
theorem dL_law_809 : decode cL_law 809 = .ok (.aload_n 1, 1) := by decide +kernel
theorem dL_law_810 : decode cL_law 810 = .ok (.aload_n 0, 1) := by decide +kernel
theorem dL_law_811 : decode cL_law 811 = .ok (.iload_n 3, 1) := by decide +kernel
theorem dL_law_812 : decode cL_law 812 = .ok (.iconst 1, 1) := by decide +kernel
theorem dL_law_813 : decode cL_law 813 = .ok (.iadd, 1) := by decide +kernel
theorem dL_law_814 : decode cL_law 814 = .ok (.iaload, 1) := by decide +kernel
theorem dL_law_815 : decode cL_law 815 = .ok (.aload_n 0, 1) := by decide +kernel
theorem dL_law_816 : decode cL_law 816 = .ok (.iload_n 3, 1) := by decide +kernel
theorem dL_law_817 : decode cL_law 817 = .ok (.iconst 2, 1) := by decide +kernel
theorem dL_law_818 : decode cL_law 818 = .ok (.iadd, 1) := by decide +kernel
theorem dL_law_819 : decode cL_law 819 = .ok (.iaload, 1) := by decide +kernel
theorem dL_law_820 : decode cL_law 820 = .ok (.aload_n 0, 1) := by decide +kernel
theorem dL_law_821 : decode cL_law 821 = .ok (.iload_n 3, 1) := by decide +kernel
theorem dL_law_822 : decode cL_law 822 = .ok (.iconst 3, 1) := by decide +kernel
theorem dL_law_823 : decode cL_law 823 = .ok (.iadd, 1) := by decide +kernel
theorem dL_law_824 : decode cL_law 824 = .ok (.iaload, 1) := by decide +kernel
theorem dL_law_825 : decode cL_law 825 = .ok (.invokevirtual 101, 3) := by decide +kernel
theorem dL_law_828 : decode cL_law 828 = .ok (.aload_n 2, 1) := by decide +kernel
theorem dL_law_829 : decode cL_law 829 = .ok (.aload_n 0, 1) := by decide +kernel
theorem dL_law_830 : decode cL_law 830 = .ok (.iload_n 3, 1) := by decide +kernel
theorem dL_law_831 : decode cL_law 831 = .ok (.iconst 1, 1) := by decide +kernel
theorem dL_law_832 : decode cL_law 832 = .ok (.iadd, 1) := by decide +kernel
theorem dL_law_833 : decode cL_law 833 = .ok (.iaload, 1) := by decide +kernel
theorem dL_law_834 : decode cL_law 834 = .ok (.aload_n 0, 1) := by decide +kernel
theorem dL_law_835 : decode cL_law 835 = .ok (.iload_n 3, 1) := by decide +kernel
theorem dL_law_836 : decode cL_law 836 = .ok (.iconst 2, 1) := by decide +kernel
theorem dL_law_837 : decode cL_law 837 = .ok (.iadd, 1) := by decide +kernel
theorem dL_law_838 : decode cL_law 838 = .ok (.iaload, 1) := by decide +kernel
theorem dL_law_839 : decode cL_law 839 = .ok (.aload_n 0, 1) := by decide +kernel
theorem dL_law_840 : decode cL_law 840 = .ok (.iload_n 3, 1) := by decide +kernel
theorem dL_law_841 : decode cL_law 841 = .ok (.iconst 3, 1) := by decide +kernel
theorem dL_law_842 : decode cL_law 842 = .ok (.iadd, 1) := by decide +kernel
theorem dL_law_843 : decode cL_law 843 = .ok (.iaload, 1) := by decide +kernel
theorem dL_law_844 : decode cL_law 844 = .ok (.invokevirtual 104, 3) := by decide +kernel
theorem dL_law_847 : decode cL_law 847 = .ok (.if_icmp .eq 171, 3) := by decide +kernel
theorem dL_law_850 : decode cL_law 850 = .ok (.iconst 0, 1) := by decide +kernel
theorem dL_law_851 : decode cL_law 851 = .ok (.ireturn, 1) := by decide +kernel
theorem dL_law_852 : decode cL_law 852 = .ok (.aload_n 1, 1) := by decide +kernel
theorem dL_law_853 : decode cL_law 853 = .ok (.aload_n 0, 1) := by decide +kernel
theorem dL_law_854 : decode cL_law 854 = .ok (.iload_n 3, 1) := by decide +kernel
theorem dL_law_855 : decode cL_law 855 = .ok (.iconst 1, 1) := by decide +kernel
theorem dL_law_856 : decode cL_law 856 = .ok (.iadd, 1) := by decide +kernel
theorem dL_law_857 : decode cL_law 857 = .ok (.iaload, 1) := by decide +kernel
theorem dL_law_858 : decode cL_law 858 = .ok (.aload_n 0, 1) := by decide +kernel
theorem dL_law_859 : decode cL_law 859 = .ok (.iload_n 3, 1) := by decide +kernel
theorem dL_law_860 : decode cL_law 860 = .ok (.iconst 2, 1) := by decide +kernel
theorem dL_law_861 : decode cL_law 861 = .ok (.iadd, 1) := by decide +kernel
theorem dL_law_862 : decode cL_law 862 = .ok (.iaload, 1) := by decide +kernel
theorem dL_law_863 : decode cL_law 863 = .ok (.aload_n 0, 1) := by decide +kernel
theorem dL_law_864 : decode cL_law 864 = .ok (.iload_n 3, 1) := by decide +kernel
theorem dL_law_865 : decode cL_law 865 = .ok (.iconst 3, 1) := by decide +kernel
theorem dL_law_866 : decode cL_law 866 = .ok (.iadd, 1) := by decide +kernel
theorem dL_law_867 : decode cL_law 867 = .ok (.iaload, 1) := by decide +kernel
theorem dL_law_868 : decode cL_law 868 = .ok (.aload_n 0, 1) := by decide +kernel
theorem dL_law_869 : decode cL_law 869 = .ok (.iload_n 3, 1) := by decide +kernel
theorem dL_law_870 : decode cL_law 870 = .ok (.iconst 4, 1) := by decide +kernel
theorem dL_law_871 : decode cL_law 871 = .ok (.iadd, 1) := by decide +kernel
theorem dL_law_872 : decode cL_law 872 = .ok (.iaload, 1) := by decide +kernel
theorem dL_law_873 : decode cL_law 873 = .ok (.invokevirtual 105, 3) := by decide +kernel
theorem dL_law_876 : decode cL_law 876 = .ok (.aload_n 2, 1) := by decide +kernel
theorem dL_law_877 : decode cL_law 877 = .ok (.aload_n 0, 1) := by decide +kernel
theorem dL_law_878 : decode cL_law 878 = .ok (.iload_n 3, 1) := by decide +kernel
theorem dL_law_879 : decode cL_law 879 = .ok (.iconst 1, 1) := by decide +kernel
theorem dL_law_880 : decode cL_law 880 = .ok (.iadd, 1) := by decide +kernel
theorem dL_law_881 : decode cL_law 881 = .ok (.iaload, 1) := by decide +kernel
theorem dL_law_882 : decode cL_law 882 = .ok (.aload_n 0, 1) := by decide +kernel
theorem dL_law_883 : decode cL_law 883 = .ok (.iload_n 3, 1) := by decide +kernel
theorem dL_law_884 : decode cL_law 884 = .ok (.iconst 2, 1) := by decide +kernel
theorem dL_law_885 : decode cL_law 885 = .ok (.iadd, 1) := by decide +kernel
theorem dL_law_886 : decode cL_law 886 = .ok (.iaload, 1) := by decide +kernel
theorem dL_law_887 : decode cL_law 887 = .ok (.aload_n 0, 1) := by decide +kernel
theorem dL_law_888 : decode cL_law 888 = .ok (.iload_n 3, 1) := by decide +kernel
theorem dL_law_889 : decode cL_law 889 = .ok (.iconst 3, 1) := by decide +kernel
theorem dL_law_890 : decode cL_law 890 = .ok (.iadd, 1) := by decide +kernel
theorem dL_law_891 : decode cL_law 891 = .ok (.iaload, 1) := by decide +kernel
theorem dL_law_892 : decode cL_law 892 = .ok (.aload_n 0, 1) := by decide +kernel
theorem dL_law_893 : decode cL_law 893 = .ok (.iload_n 3, 1) := by decide +kernel
theorem dL_law_894 : decode cL_law 894 = .ok (.iconst 4, 1) := by decide +kernel
theorem dL_law_895 : decode cL_law 895 = .ok (.iadd, 1) := by decide +kernel
theorem dL_law_896 : decode cL_law 896 = .ok (.iaload, 1) := by decide +kernel
theorem dL_law_897 : decode cL_law 897 = .ok (.invokevirtual 108, 3) := by decide +kernel
theorem dL_law_900 : decode cL_law 900 = .ok (.lcmp, 1) := by decide +kernel
theorem dL_law_901 : decode cL_law 901 = .ok (.ifCond .eq 117, 3) := by decide +kernel
theorem dL_law_904 : decode cL_law 904 = .ok (.iconst 0, 1) := by decide +kernel
theorem dL_law_905 : decode cL_law 905 = .ok (.ireturn, 1) := by decide +kernel
theorem dL_law_906 : decode cL_law 906 = .ok (.aload_n 1, 1) := by decide +kernel
theorem dL_law_907 : decode cL_law 907 = .ok (.aload_n 0, 1) := by decide +kernel
theorem dL_law_908 : decode cL_law 908 = .ok (.iload_n 3, 1) := by decide +kernel
theorem dL_law_909 : decode cL_law 909 = .ok (.iconst 1, 1) := by decide +kernel
theorem dL_law_910 : decode cL_law 910 = .ok (.iadd, 1) := by decide +kernel
theorem dL_law_911 : decode cL_law 911 = .ok (.iaload, 1) := by decide +kernel
theorem dL_law_912 : decode cL_law 912 = .ok (.aload_n 0, 1) := by decide +kernel
theorem dL_law_913 : decode cL_law 913 = .ok (.iload_n 3, 1) := by decide +kernel
theorem dL_law_914 : decode cL_law 914 = .ok (.iconst 2, 1) := by decide +kernel
theorem dL_law_915 : decode cL_law 915 = .ok (.iadd, 1) := by decide +kernel
theorem dL_law_916 : decode cL_law 916 = .ok (.iaload, 1) := by decide +kernel
theorem dL_law_917 : decode cL_law 917 = .ok (.aload_n 0, 1) := by decide +kernel
theorem dL_law_918 : decode cL_law 918 = .ok (.iload_n 3, 1) := by decide +kernel
theorem dL_law_919 : decode cL_law 919 = .ok (.iconst 3, 1) := by decide +kernel
theorem dL_law_920 : decode cL_law 920 = .ok (.iadd, 1) := by decide +kernel
theorem dL_law_921 : decode cL_law 921 = .ok (.iaload, 1) := by decide +kernel
theorem dL_law_922 : decode cL_law 922 = .ok (.invokevirtual 109, 3) := by decide +kernel
theorem dL_law_925 : decode cL_law 925 = .ok (.aload_n 2, 1) := by decide +kernel
theorem dL_law_926 : decode cL_law 926 = .ok (.aload_n 0, 1) := by decide +kernel
theorem dL_law_927 : decode cL_law 927 = .ok (.iload_n 3, 1) := by decide +kernel
theorem dL_law_928 : decode cL_law 928 = .ok (.iconst 1, 1) := by decide +kernel
theorem dL_law_929 : decode cL_law 929 = .ok (.iadd, 1) := by decide +kernel
theorem dL_law_930 : decode cL_law 930 = .ok (.iaload, 1) := by decide +kernel
theorem dL_law_931 : decode cL_law 931 = .ok (.aload_n 0, 1) := by decide +kernel
theorem dL_law_932 : decode cL_law 932 = .ok (.iload_n 3, 1) := by decide +kernel
theorem dL_law_933 : decode cL_law 933 = .ok (.iconst 2, 1) := by decide +kernel
theorem dL_law_934 : decode cL_law 934 = .ok (.iadd, 1) := by decide +kernel
theorem dL_law_935 : decode cL_law 935 = .ok (.iaload, 1) := by decide +kernel
theorem dL_law_936 : decode cL_law 936 = .ok (.aload_n 0, 1) := by decide +kernel
theorem dL_law_937 : decode cL_law 937 = .ok (.iload_n 3, 1) := by decide +kernel
theorem dL_law_938 : decode cL_law 938 = .ok (.iconst 3, 1) := by decide +kernel
theorem dL_law_939 : decode cL_law 939 = .ok (.iadd, 1) := by decide +kernel
theorem dL_law_940 : decode cL_law 940 = .ok (.iaload, 1) := by decide +kernel
theorem dL_law_941 : decode cL_law 941 = .ok (.invokevirtual 112, 3) := by decide +kernel
theorem dL_law_944 : decode cL_law 944 = .ok (.if_icmp .eq 74, 3) := by decide +kernel
theorem dL_law_947 : decode cL_law 947 = .ok (.iconst 0, 1) := by decide +kernel
theorem dL_law_948 : decode cL_law 948 = .ok (.ireturn, 1) := by decide +kernel
theorem dL_law_949 : decode cL_law 949 = .ok (.aload_n 1, 1) := by decide +kernel
theorem dL_law_950 : decode cL_law 950 = .ok (.aload_n 0, 1) := by decide +kernel
theorem dL_law_951 : decode cL_law 951 = .ok (.iload_n 3, 1) := by decide +kernel
theorem dL_law_952 : decode cL_law 952 = .ok (.iconst 1, 1) := by decide +kernel
theorem dL_law_953 : decode cL_law 953 = .ok (.iadd, 1) := by decide +kernel
theorem dL_law_954 : decode cL_law 954 = .ok (.iaload, 1) := by decide +kernel
theorem dL_law_955 : decode cL_law 955 = .ok (.invokevirtual 113, 3) := by decide +kernel
theorem dL_law_958 : decode cL_law 958 = .ok (.aload_n 2, 1) := by decide +kernel
theorem dL_law_959 : decode cL_law 959 = .ok (.aload_n 0, 1) := by decide +kernel
theorem dL_law_960 : decode cL_law 960 = .ok (.iload_n 3, 1) := by decide +kernel
theorem dL_law_961 : decode cL_law 961 = .ok (.iconst 1, 1) := by decide +kernel
theorem dL_law_962 : decode cL_law 962 = .ok (.iadd, 1) := by decide +kernel
theorem dL_law_963 : decode cL_law 963 = .ok (.iaload, 1) := by decide +kernel
theorem dL_law_964 : decode cL_law 964 = .ok (.invokevirtual 116, 3) := by decide +kernel
theorem dL_law_967 : decode cL_law 967 = .ok (.if_icmp .eq 51, 3) := by decide +kernel
theorem dL_law_970 : decode cL_law 970 = .ok (.iconst 0, 1) := by decide +kernel
theorem dL_law_971 : decode cL_law 971 = .ok (.ireturn, 1) := by decide +kernel
theorem dL_law_972 : decode cL_law 972 = .ok (.aload_n 1, 1) := by decide +kernel
theorem dL_law_973 : decode cL_law 973 = .ok (.aload_n 0, 1) := by decide +kernel
theorem dL_law_974 : decode cL_law 974 = .ok (.iload_n 3, 1) := by decide +kernel
theorem dL_law_975 : decode cL_law 975 = .ok (.iconst 1, 1) := by decide +kernel
theorem dL_law_976 : decode cL_law 976 = .ok (.iadd, 1) := by decide +kernel
theorem dL_law_977 : decode cL_law 977 = .ok (.iaload, 1) := by decide +kernel
theorem dL_law_978 : decode cL_law 978 = .ok (.invokevirtual 117, 3) := by decide +kernel
theorem dL_law_981 : decode cL_law 981 = .ok (.aload_n 2, 1) := by decide +kernel
theorem dL_law_982 : decode cL_law 982 = .ok (.aload_n 0, 1) := by decide +kernel
theorem dL_law_983 : decode cL_law 983 = .ok (.iload_n 3, 1) := by decide +kernel
theorem dL_law_984 : decode cL_law 984 = .ok (.iconst 1, 1) := by decide +kernel
theorem dL_law_985 : decode cL_law 985 = .ok (.iadd, 1) := by decide +kernel
theorem dL_law_986 : decode cL_law 986 = .ok (.iaload, 1) := by decide +kernel
theorem dL_law_987 : decode cL_law 987 = .ok (.invokevirtual 120, 3) := by decide +kernel
theorem dL_law_990 : decode cL_law 990 = .ok (.if_icmp .eq 28, 3) := by decide +kernel
theorem dL_law_993 : decode cL_law 993 = .ok (.iconst 0, 1) := by decide +kernel
theorem dL_law_994 : decode cL_law 994 = .ok (.ireturn, 1) := by decide +kernel
theorem dL_law_995 : decode cL_law 995 = .ok (.aload_n 1, 1) := by decide +kernel
theorem dL_law_996 : decode cL_law 996 = .ok (.aload_n 0, 1) := by decide +kernel
theorem dL_law_997 : decode cL_law 997 = .ok (.iload_n 3, 1) := by decide +kernel
theorem dL_law_998 : decode cL_law 998 = .ok (.iconst 1, 1) := by decide +kernel
theorem dL_law_999 : decode cL_law 999 = .ok (.iadd, 1) := by decide +kernel
theorem dL_law_1000 : decode cL_law 1000 = .ok (.iaload, 1) := by decide +kernel
theorem dL_law_1001 : decode cL_law 1001 = .ok (.invokevirtual 121, 3) := by decide +kernel
theorem dL_law_1004 : decode cL_law 1004 = .ok (.aload_n 2, 1) := by decide +kernel
theorem dL_law_1005 : decode cL_law 1005 = .ok (.aload_n 0, 1) := by decide +kernel
theorem dL_law_1006 : decode cL_law 1006 = .ok (.iload_n 3, 1) := by decide +kernel
theorem dL_law_1007 : decode cL_law 1007 = .ok (.iconst 1, 1) := by decide +kernel
theorem dL_law_1008 : decode cL_law 1008 = .ok (.iadd, 1) := by decide +kernel
theorem dL_law_1009 : decode cL_law 1009 = .ok (.iaload, 1) := by decide +kernel
theorem dL_law_1010 : decode cL_law 1010 = .ok (.invokevirtual 124, 3) := by decide +kernel
theorem dL_law_1013 : decode cL_law 1013 = .ok (.if_icmp .eq 5, 3) := by decide +kernel
theorem dL_law_1016 : decode cL_law 1016 = .ok (.iconst 0, 1) := by decide +kernel
theorem dL_law_1017 : decode cL_law 1017 = .ok (.ireturn, 1) := by decide +kernel
theorem dL_law_1018 : decode cL_law 1018 = .ok (.iinc 3 6, 3) := by decide +kernel
theorem dL_law_1021 : decode cL_law 1021 = .ok (.goto (-1003), 3) := by decide +kernel
theorem dL_law_1024 : decode cL_law 1024 = .ok (.iconst 1, 1) := by decide +kernel
theorem dL_law_1025 : decode cL_law 1025 = .ok (.ireturn, 1) := by decide +kernel
abbrev vwCl : List vw_C := [(RX0, TX0, 5), (RX1, TX1, 2), (RX2, TX2, 6), (RX3, TX3, 2), (RX4, TX4, 6), (RX6, TX6, 2), (RX7, TX7, 3), (RX8, TX8, 3), (RX9, TX9, 8), (RX10, TX10, 9), (RX11, TX11, 13), (RX12, TX12, 38)]
