theorem dX10_isAjar_12 : decode cX10_isAjar 12 = .ok (.iconst 1, 1) := by decide +kernel
theorem dX10_isAjar_13 : decode cX10_isAjar 13 = .ok (.goto 4, 3) := by decide +kernel
theorem dX10_isAjar_16 : decode cX10_isAjar 16 = .ok (.iconst 0, 1) := by decide +kernel
theorem dX10_isAjar_17 : decode cX10_isAjar 17 = .ok (.ireturn, 1) := by decide +kernel
set_option maxRecDepth 20000 in
theorem ggX10_isFitForSale_X5_at : GoodIn wsX10_isFitForSale wsX5_at := goodIn_r _ [5] (by decide +kernel) (by decide +kernel)
set_option maxRecDepth 20000 in
theorem gX10_isFitForSale_X5_at : GoodIn wsX10_isFitForSale (va_wsS RX10 61 yX5_at wsX5_at) := goodIn_app (goodIn_of _ (by decide +kernel)) ggX10_isFitForSale_X5_at
theorem dX10_isFitForSale_0 : decode cX10_isFitForSale 0 = .ok (.aload_n 0, 1) := by decide +kernel
theorem dX10_isFitForSale_1 : decode cX10_isFitForSale 1 = .ok (.getfield 15, 3) := by decide +kernel
theorem dX10_isFitForSale_4 : decode cX10_isFitForSale 4 = .ok (.iload_n 1, 1) := by decide +kernel
theorem dX10_isFitForSale_5 : decode cX10_isFitForSale 5 = .ok (.invokestatic 61, 3) := by decide +kernel
theorem dX10_isFitForSale_8 : decode cX10_isFitForSale 8 = .ok (.iconst 2, 1) := by decide +kernel
theorem dX10_isFitForSale_9 : decode cX10_isFitForSale 9 = .ok (.if_icmp .lt 7, 3) := by decide +kernel
theorem dX10_isFitForSale_12 : decode cX10_isFitForSale 12 = .ok (.iconst 1, 1) := by decide +kernel
theorem dX10_isFitForSale_13 : decode cX10_isFitForSale 13 = .ok (.goto 4, 3) := by decide +kernel
theorem dX10_isFitForSale_16 : decode cX10_isFitForSale 16 = .ok (.iconst 0, 1) := by decide +kernel
theorem dX10_isFitForSale_17 : decode cX10_isFitForSale 17 = .ok (.ireturn, 1) := by decide +kernel
set_option maxRecDepth 20000 in
theorem ggX10_priceOf_X5_at : GoodIn wsX10_priceOf wsX5_at := goodIn_r _ [6] (by decide +kernel) (by decide +kernel)
set_option maxRecDepth 20000 in
theorem gX10_priceOf_X5_at : GoodIn wsX10_priceOf (va_wsS RX10 61 yX5_at wsX5_at) := goodIn_app (goodIn_of _ (by decide +kernel)) ggX10_priceOf_X5_at
theorem dX10_priceOf_0 : decode cX10_priceOf 0 = .ok (.aload_n 0, 1) := by decide +kernel
theorem dX10_priceOf_1 : decode cX10_priceOf 1 = .ok (.getfield 15, 3) := by decide +kernel
theorem dX10_priceOf_4 : decode cX10_priceOf 4 = .ok (.iload_n 1, 1) := by decide +kernel
theorem dX10_priceOf_5 : decode cX10_priceOf 5 = .ok (.invokestatic 61, 3) := by decide +kernel
theorem dX10_priceOf_8 : decode cX10_priceOf 8 = .ok (.istore_n 2, 1) := by decide +kernel
theorem dX10_priceOf_9 : decode cX10_priceOf 9 = .ok (.iload_n 2, 1) := by decide +kernel
theorem dX10_priceOf_10 : decode cX10_priceOf 10 = .ok (.bipush 9, 2) := by decide +kernel
theorem dX10_priceOf_12 : decode cX10_priceOf 12 = .ok (.if_icmp .ne 7, 3) := by decide +kernel
theorem dX10_priceOf_15 : decode cX10_priceOf 15 = .ok (.iconst 0, 1) := by decide +kernel
theorem dX10_priceOf_16 : decode cX10_priceOf 16 = .ok (.goto 15, 3) := by decide +kernel
theorem dX10_priceOf_19 : decode cX10_priceOf 19 = .ok (.aload_n 0, 1) := by decide +kernel
theorem dX10_priceOf_20 : decode cX10_priceOf 20 = .ok (.getfield 18, 3) := by decide +kernel
theorem dX10_priceOf_23 : decode cX10_priceOf 23 = .ok (.iload_n 1, 1) := by decide +kernel
theorem dX10_priceOf_24 : decode cX10_priceOf 24 = .ok (.invokestatic 61, 3) := by decide +kernel
theorem dX10_priceOf_27 : decode cX10_priceOf 27 = .ok (.iload_n 2, 1) := by decide +kernel
theorem dX10_priceOf_28 : decode cX10_priceOf 28 = .ok (.iconst 1, 1) := by decide +kernel
theorem dX10_priceOf_29 : decode cX10_priceOf 29 = .ok (.isub, 1) := by decide +kernel
theorem dX10_priceOf_30 : decode cX10_priceOf 30 = .ok (.imul, 1) := by decide +kernel
theorem dX10_priceOf_31 : decode cX10_priceOf 31 = .ok (.ireturn, 1) := by decide +kernel
set_option maxRecDepth 20000 in
theorem ggX10_thingsOf_X5_at : GoodIn wsX10_thingsOf wsX5_at := goodIn_r _ [5] (by decide +kernel) (by decide +kernel)
set_option maxRecDepth 20000 in
theorem gX10_thingsOf_X5_at : GoodIn wsX10_thingsOf (va_wsS RX10 61 yX5_at wsX5_at) := goodIn_app (goodIn_of _ (by decide +kernel)) ggX10_thingsOf_X5_at
theorem dX10_thingsOf_0 : decode cX10_thingsOf 0 = .ok (.iconst 0, 1) := by decide +kernel
theorem dX10_thingsOf_1 : decode cX10_thingsOf 1 = .ok (.istore_n 2, 1) := by decide +kernel
theorem dX10_thingsOf_2 : decode cX10_thingsOf 2 = .ok (.iconst 0, 1) := by decide +kernel
theorem dX10_thingsOf_3 : decode cX10_thingsOf 3 = .ok (.istore_n 3, 1) := by decide +kernel
theorem dX10_thingsOf_4 : decode cX10_thingsOf 4 = .ok (.iload_n 3, 1) := by decide +kernel
theorem dX10_thingsOf_5 : decode cX10_thingsOf 5 = .ok (.bipush 12, 2) := by decide +kernel
theorem dX10_thingsOf_7 : decode cX10_thingsOf 7 = .ok (.if_icmp .ge 24, 3) := by decide +kernel
theorem dX10_thingsOf_10 : decode cX10_thingsOf 10 = .ok (.aload_n 0, 1) := by decide +kernel
theorem dX10_thingsOf_11 : decode cX10_thingsOf 11 = .ok (.getfield 9, 3) := by decide +kernel
theorem dX10_thingsOf_14 : decode cX10_thingsOf 14 = .ok (.iload_n 3, 1) := by decide +kernel
theorem dX10_thingsOf_15 : decode cX10_thingsOf 15 = .ok (.invokestatic 61, 3) := by decide +kernel
theorem dX10_thingsOf_18 : decode cX10_thingsOf 18 = .ok (.iload_n 1, 1) := by decide +kernel
theorem dX10_thingsOf_19 : decode cX10_thingsOf 19 = .ok (.if_icmp .ne 6, 3) := by decide +kernel
theorem dX10_thingsOf_22 : decode cX10_thingsOf 22 = .ok (.iinc 2 1, 3) := by decide +kernel
theorem dX10_thingsOf_25 : decode cX10_thingsOf 25 = .ok (.iinc 3 1, 3) := by decide +kernel
theorem dX10_thingsOf_28 : decode cX10_thingsOf 28 = .ok (.goto (-24), 3) := by decide +kernel
theorem dX10_thingsOf_31 : decode cX10_thingsOf 31 = .ok (.iload_n 2, 1) := by decide +kernel
theorem dX10_thingsOf_32 : decode cX10_thingsOf 32 = .ok (.ireturn, 1) := by decide +kernel
set_option maxRecDepth 20000 in
theorem ggX10_thingsFitForSale_X10_isFitForSale : GoodIn wsX10_thingsFitForSale wsX10_isFitForSale := goodIn_r _ [5, 6, 7, 8, 9, 10, 11, 12, 13, 14, 15, 16, 17, 18, 19] (by decide +kernel) (by decide +kernel)
set_option maxRecDepth 20000 in
theorem gX10_thingsFitForSale_X10_isFitForSale : GoodIn wsX10_thingsFitForSale (wsV RX10 71 RX10 yX10_isFitForSale wsX10_isFitForSale) := goodIn_app (goodIn_of _ (by decide +kernel)) ggX10_thingsFitForSale_X10_isFitForSale
theorem dX10_thingsFitForSale_0 : decode cX10_thingsFitForSale 0 = .ok (.iconst 0, 1) := by decide +kernel
theorem dX10_thingsFitForSale_1 : decode cX10_thingsFitForSale 1 = .ok (.istore_n 1, 1) := by decide +kernel
theorem dX10_thingsFitForSale_2 : decode cX10_thingsFitForSale 2 = .ok (.iconst 0, 1) := by decide +kernel
theorem dX10_thingsFitForSale_3 : decode cX10_thingsFitForSale 3 = .ok (.istore_n 2, 1) := by decide +kernel
theorem dX10_thingsFitForSale_4 : decode cX10_thingsFitForSale 4 = .ok (.iload_n 2, 1) := by decide +kernel
theorem dX10_thingsFitForSale_5 : decode cX10_thingsFitForSale 5 = .ok (.bipush 12, 2) := by decide +kernel
theorem dX10_thingsFitForSale_7 : decode cX10_thingsFitForSale 7 = .ok (.if_icmp .ge 20, 3) := by decide +kernel
theorem dX10_thingsFitForSale_10 : decode cX10_thingsFitForSale 10 = .ok (.aload_n 0, 1) := by decide +kernel
theorem dX10_thingsFitForSale_11 : decode cX10_thingsFitForSale 11 = .ok (.iload_n 2, 1) := by decide +kernel
theorem dX10_thingsFitForSale_12 : decode cX10_thingsFitForSale 12 = .ok (.invokevirtual 71, 3) := by decide +kernel
theorem dX10_thingsFitForSale_15 : decode cX10_thingsFitForSale 15 = .ok (.ifCond .eq 6, 3) := by decide +kernel
theorem dX10_thingsFitForSale_18 : decode cX10_thingsFitForSale 18 = .ok (.iinc 1 1, 3) := by decide +kernel
theorem dX10_thingsFitForSale_21 : decode cX10_thingsFitForSale 21 = .ok (.iinc 2 1, 3) := by decide +kernel
theorem dX10_thingsFitForSale_24 : decode cX10_thingsFitForSale 24 = .ok (.goto (-20), 3) := by decide +kernel
theorem dX10_thingsFitForSale_27 : decode cX10_thingsFitForSale 27 = .ok (.iload_n 1, 1) := by decide +kernel
theorem dX10_thingsFitForSale_28 : decode cX10_thingsFitForSale 28 = .ok (.ireturn, 1) := by decide +kernel
set_option maxRecDepth 20000 in
theorem ggX10_act_X10_take : GoodIn wsX10_act wsX10_take := goodIn_r _ [6, 7, 8, 9, 10, 11, 12, 13, 14, 15, 16, 17, 18, 19, 5, 20, 1, 21, 22, 23, 24, 25, 26, 27, 28, 60, 61, 62, 63, 64, 65, 66, 67, 68] (by decide +kernel) (by decide +kernel)
set_option maxRecDepth 20000 in
theorem gX10_act_X10_take : GoodIn wsX10_act (wsV RX10 75 RX10 yX10_take wsX10_take) := goodIn_app (goodIn_of _ (by decide +kernel)) ggX10_act_X10_take
set_option maxRecDepth 20000 in
theorem ggX10_act_X10_sell : GoodIn wsX10_act wsX10_sell := goodIn_r _ [32, 33, 9, 10, 11, 12, 34, 35, 36, 5, 37, 7, 13, 14, 15, 16, 38, 39, 40, 41, 8, 42, 43, 44, 45, 46, 26, 27, 28, 47, 48, 49, 50, 60, 61, 62, 63, 64, 65, 66, 67, 68] (by decide +kernel) (by decide +kernel)
set_option maxRecDepth 20000 in
theorem gX10_act_X10_sell : GoodIn wsX10_act (wsV RX10 79 RX10 yX10_sell wsX10_sell) := goodIn_app (goodIn_of _ (by decide +kernel)) ggX10_act_X10_sell
set_option maxRecDepth 20000 in
theorem ggX10_act_X10_give : GoodIn wsX10_act wsX10_give := goodIn_r _ [54, 34, 35, 36, 5, 37, 7, 13, 14, 15, 16, 47, 48, 49, 50, 8, 26, 27, 28, 60, 61, 62, 63, 64, 65, 66, 67, 68] (by decide +kernel) (by decide +kernel)
set_option maxRecDepth 20000 in
theorem gX10_act_X10_give : GoodIn wsX10_act (wsV RX10 83 RX10 yX10_give wsX10_give) := goodIn_app (goodIn_of _ (by decide +kernel)) ggX10_act_X10_give
set_option maxRecDepth 20000 in
theorem ggX10_act_X10_passNight : GoodIn wsX10_act wsX10_passNight := goodIn_r _ [58, 59, 1, 8, 13, 14, 15, 16, 26, 27, 28, 60, 61, 62, 63, 64, 65, 66, 67, 68] (by decide +kernel) (by decide +kernel)
set_option maxRecDepth 20000 in
theorem gX10_act_X10_passNight : GoodIn wsX10_act (wsV RX10 86 RX10 yX10_passNight wsX10_passNight) := goodIn_app (goodIn_of _ (by decide +kernel)) ggX10_act_X10_passNight
theorem dX10_act_0 : decode cX10_act 0 = .ok (.iload_n 1, 1) := by decide +kernel
theorem dX10_act_1 : decode cX10_act 1 = .ok (.tableswitch 70 0 3 #[31, 38, 47, 56], 31) := by decide +kernel
theorem dX10_act_32 : decode cX10_act 32 = .ok (.aload_n 0, 1) := by decide +kernel
theorem dX10_act_33 : decode cX10_act 33 = .ok (.iload_n 2, 1) := by decide +kernel
theorem dX10_act_34 : decode cX10_act 34 = .ok (.iload_n 3, 1) := by decide +kernel
theorem dX10_act_35 : decode cX10_act 35 = .ok (.invokevirtual 75, 3) := by decide +kernel
theorem dX10_act_38 : decode cX10_act 38 = .ok (.ireturn, 1) := by decide +kernel
theorem dX10_act_39 : decode cX10_act 39 = .ok (.aload_n 0, 1) := by decide +kernel
theorem dX10_act_40 : decode cX10_act 40 = .ok (.iload_n 2, 1) := by decide +kernel
theorem dX10_act_41 : decode cX10_act 41 = .ok (.iload_n 3, 1) := by decide +kernel
theorem dX10_act_42 : decode cX10_act 42 = .ok (.iload 4, 2) := by decide +kernel
theorem dX10_act_44 : decode cX10_act 44 = .ok (.invokevirtual 79, 3) := by decide +kernel
theorem dX10_act_47 : decode cX10_act 47 = .ok (.ireturn, 1) := by decide +kernel
theorem dX10_act_48 : decode cX10_act 48 = .ok (.aload_n 0, 1) := by decide +kernel
theorem dX10_act_49 : decode cX10_act 49 = .ok (.iload_n 2, 1) := by decide +kernel
theorem dX10_act_50 : decode cX10_act 50 = .ok (.iload_n 3, 1) := by decide +kernel
theorem dX10_act_51 : decode cX10_act 51 = .ok (.iload 4, 2) := by decide +kernel
theorem dX10_act_53 : decode cX10_act 53 = .ok (.invokevirtual 83, 3) := by decide +kernel
theorem dX10_act_56 : decode cX10_act 56 = .ok (.ireturn, 1) := by decide +kernel
theorem dX10_act_57 : decode cX10_act 57 = .ok (.aload_n 0, 1) := by decide +kernel
theorem dX10_act_58 : decode cX10_act 58 = .ok (.dup, 1) := by decide +kernel
theorem dX10_act_59 : decode cX10_act 59 = .ok (.getfield 37, 3) := by decide +kernel
theorem dX10_act_62 : decode cX10_act 62 = .ok (.iconst 1, 1) := by decide +kernel
theorem dX10_act_63 : decode cX10_act 63 = .ok (.iload_n 2, 1) := by decide +kernel
theorem dX10_act_64 : decode cX10_act 64 = .ok (.ishl, 1) := by decide +kernel
theorem dX10_act_65 : decode cX10_act 65 = .ok (.ixor, 1) := by decide +kernel
theorem dX10_act_66 : decode cX10_act 66 = .ok (.putfield 37, 3) := by decide +kernel
theorem dX10_act_69 : decode cX10_act 69 = .ok (.iconst 0, 1) := by decide +kernel
theorem dX10_act_70 : decode cX10_act 70 = .ok (.ireturn, 1) := by decide +kernel
theorem dX10_act_71 : decode cX10_act 71 = .ok (.aload_n 0, 1) := by decide +kernel
theorem dX10_act_72 : decode cX10_act 72 = .ok (.invokevirtual 86, 3) := by decide +kernel
theorem dX10_act_75 : decode cX10_act 75 = .ok (.ireturn, 1) := by decide +kernel
set_option maxRecDepth 20000 in
theorem ggX10_take_X5_at : GoodIn wsX10_take wsX5_at := goodIn_r _ [10] (by decide +kernel) (by decide +kernel)
set_option maxRecDepth 20000 in
theorem gX10_take_X5_at : GoodIn wsX10_take (va_wsS RX10 61 yX5_at wsX5_at) := goodIn_app (goodIn_of _ (by decide +kernel)) ggX10_take_X5_at
set_option maxRecDepth 20000 in
theorem ggX10_take_X10_isAjar : GoodIn wsX10_take wsX10_isAjar := goodIn_r _ [15, 16, 25, 26, 27, 28, 29, 30, 31, 32, 33] (by decide +kernel) (by decide +kernel)
set_option maxRecDepth 20000 in
theorem gX10_take_X10_isAjar : GoodIn wsX10_take (wsV RX10 90 RX10 yX10_isAjar wsX10_isAjar) := goodIn_app (goodIn_of _ (by decide +kernel)) ggX10_take_X10_isAjar
set_option maxRecDepth 20000 in
theorem ggX10_take_X10_areBrothers : GoodIn wsX10_take wsX10_areBrothers := goodIn_r _ [20, 21, 7, 8, 9, 10, 25, 26, 27, 28, 29, 30, 31, 32, 33] (by decide +kernel) (by decide +kernel)
set_option maxRecDepth 20000 in
theorem gX10_take_X10_areBrothers : GoodIn wsX10_take (wsV RX10 93 RX10 yX10_areBrothers wsX10_areBrothers) := goodIn_app (goodIn_of _ (by decide +kernel)) ggX10_take_X10_areBrothers
set_option maxRecDepth 20000 in
theorem ggX10_take_X5_put : GoodIn wsX10_take wsX5_put := goodIn_r _ [24] (by decide +kernel) (by decide +kernel)
set_option maxRecDepth 20000 in
theorem gX10_take_X5_put : GoodIn wsX10_take (va_wsS RX10 44 yX5_put wsX5_put) := goodIn_app (goodIn_of _ (by decide +kernel)) ggX10_take_X5_put
theorem dX10_take_0 : decode cX10_take 0 = .ok (.aload_n 0, 1) := by decide +kernel
theorem dX10_take_1 : decode cX10_take 1 = .ok (.getfield 9, 3) := by decide +kernel
theorem dX10_take_4 : decode cX10_take 4 = .ok (.iload_n 2, 1) := by decide +kernel
theorem dX10_take_5 : decode cX10_take 5 = .ok (.invokestatic 61, 3) := by decide +kernel
theorem dX10_take_8 : decode cX10_take 8 = .ok (.istore_n 3, 1) := by decide +kernel
theorem dX10_take_9 : decode cX10_take 9 = .ok (.iload_n 3, 1) := by decide +kernel
theorem dX10_take_10 : decode cX10_take 10 = .ok (.iload_n 1, 1) := by decide +kernel
theorem dX10_take_11 : decode cX10_take 11 = .ok (.if_icmp .ne 5, 3) := by decide +kernel
theorem dX10_take_14 : decode cX10_take 14 = .ok (.iconst 1, 1) := by decide +kernel
theorem dX10_take_15 : decode cX10_take 15 = .ok (.ireturn, 1) := by decide +kernel
theorem dX10_take_16 : decode cX10_take 16 = .ok (.aload_n 0, 1) := by decide +kernel
theorem dX10_take_17 : decode cX10_take 17 = .ok (.iload_n 3, 1) := by decide +kernel
theorem dX10_take_18 : decode cX10_take 18 = .ok (.invokevirtual 90, 3) := by decide +kernel
theorem dX10_take_21 : decode cX10_take 21 = .ok (.ifCond .ne 5, 3) := by decide +kernel
theorem dX10_take_24 : decode cX10_take 24 = .ok (.iconst 2, 1) := by decide +kernel
theorem dX10_take_25 : decode cX10_take 25 = .ok (.ireturn, 1) := by decide +kernel
theorem dX10_take_26 : decode cX10_take 26 = .ok (.aload_n 0, 1) := by decide +kernel
theorem dX10_take_27 : decode cX10_take 27 = .ok (.iload_n 3, 1) := by decide +kernel
theorem dX10_take_28 : decode cX10_take 28 = .ok (.iload_n 1, 1) := by decide +kernel
theorem dX10_take_29 : decode cX10_take 29 = .ok (.invokevirtual 93, 3) := by decide +kernel
theorem dX10_take_32 : decode cX10_take 32 = .ok (.ifCond .ne 26, 3) := by decide +kernel
theorem dX10_take_35 : decode cX10_take 35 = .ok (.aload_n 0, 1) := by decide +kernel
theorem dX10_take_36 : decode cX10_take 36 = .ok (.getfield 15, 3) := by decide +kernel
theorem dX10_take_39 : decode cX10_take 39 = .ok (.iload_n 2, 1) := by decide +kernel
theorem dX10_take_40 : decode cX10_take 40 = .ok (.bipush 9, 2) := by decide +kernel
theorem dX10_take_42 : decode cX10_take 42 = .ok (.aload_n 0, 1) := by decide +kernel
theorem dX10_take_43 : decode cX10_take 43 = .ok (.getfield 15, 3) := by decide +kernel
theorem dX10_take_46 : decode cX10_take 46 = .ok (.iload_n 2, 1) := by decide +kernel
theorem dX10_take_47 : decode cX10_take 47 = .ok (.invokestatic 61, 3) := by decide +kernel
theorem dX10_take_50 : decode cX10_take 50 = .ok (.iconst 1, 1) := by decide +kernel
theorem dX10_take_51 : decode cX10_take 51 = .ok (.iadd, 1) := by decide +kernel
theorem dX10_take_52 : decode cX10_take 52 = .ok (.invokestatic 97, 3) := by decide +kernel
theorem dX10_take_55 : decode cX10_take 55 = .ok (.invokestatic 44, 3) := by decide +kernel
theorem dX10_take_58 : decode cX10_take 58 = .ok (.aload_n 0, 1) := by decide +kernel
theorem dX10_take_59 : decode cX10_take 59 = .ok (.getfield 9, 3) := by decide +kernel
theorem dX10_take_62 : decode cX10_take 62 = .ok (.iload_n 2, 1) := by decide +kernel
theorem dX10_take_63 : decode cX10_take 63 = .ok (.iload_n 1, 1) := by decide +kernel
theorem dX10_take_64 : decode cX10_take 64 = .ok (.invokestatic 44, 3) := by decide +kernel
theorem dX10_take_67 : decode cX10_take 67 = .ok (.iconst 0, 1) := by decide +kernel
theorem dX10_take_68 : decode cX10_take 68 = .ok (.ireturn, 1) := by decide +kernel
set_option maxRecDepth 20000 in
theorem ggX10_sell_X10_reasonAgainstHanding : GoodIn wsX10_sell wsX10_reasonAgainstHanding := goodIn_r _ [10, 11, 12, 13, 14, 15, 33, 34, 35, 36, 37, 38, 39, 40, 41] (by decide +kernel) (by decide +kernel)
set_option maxRecDepth 20000 in
theorem gX10_sell_X10_reasonAgainstHanding : GoodIn wsX10_sell (wsV RX10 102 RX10 yX10_reasonAgainstHanding wsX10_reasonAgainstHanding) := goodIn_app (goodIn_of _ (by decide +kernel)) ggX10_sell_X10_reasonAgainstHanding
set_option maxRecDepth 20000 in
theorem ggX10_sell_X10_isFitForSale : GoodIn wsX10_sell wsX10_isFitForSale := goodIn_r _ [19, 20, 12, 13, 14, 15, 33, 34, 35, 36, 37, 38, 39, 40, 41] (by decide +kernel) (by decide +kernel)
set_option maxRecDepth 20000 in
theorem gX10_sell_X10_isFitForSale : GoodIn wsX10_sell (wsV RX10 71 RX10 yX10_isFitForSale wsX10_isFitForSale) := goodIn_app (goodIn_of _ (by decide +kernel)) ggX10_sell_X10_isFitForSale
set_option maxRecDepth 20000 in
theorem ggX10_sell_X10_priceOf : GoodIn wsX10_sell wsX10_priceOf := goodIn_r _ [24, 20, 25, 12, 13, 14, 15, 33, 34, 35, 36, 37, 38, 39, 40, 41] (by decide +kernel) (by decide +kernel)
set_option maxRecDepth 20000 in
theorem gX10_sell_X10_priceOf : GoodIn wsX10_sell (wsV RX10 105 RX10 yX10_priceOf wsX10_priceOf) := goodIn_app (goodIn_of _ (by decide +kernel)) ggX10_sell_X10_priceOf
set_option maxRecDepth 20000 in
theorem ggX10_sell_X5_at : GoodIn wsX10_sell wsX5_at := goodIn_r _ [15] (by decide +kernel) (by decide +kernel)
set_option maxRecDepth 20000 in
theorem gX10_sell_X5_at : GoodIn wsX10_sell (va_wsS RX10 61 yX5_at wsX5_at) := goodIn_app (goodIn_of _ (by decide +kernel)) ggX10_sell_X5_at
set_option maxRecDepth 20000 in
theorem ggX10_sell_X5_put : GoodIn wsX10_sell wsX5_put := goodIn_r _ [28] (by decide +kernel) (by decide +kernel)
set_option maxRecDepth 20000 in
theorem gX10_sell_X5_put : GoodIn wsX10_sell (va_wsS RX10 44 yX5_put wsX5_put) := goodIn_app (goodIn_of _ (by decide +kernel)) ggX10_sell_X5_put
set_option maxRecDepth 20000 in
theorem ggX10_sell_X10_hand : GoodIn wsX10_sell wsX10_hand := goodIn_r _ [32, 11, 20, 26, 27, 14, 28, 33, 34, 35, 36, 37, 38, 39, 40, 41] (by decide +kernel) (by decide +kernel)
set_option maxRecDepth 20000 in
theorem gX10_sell_X10_hand : GoodIn wsX10_sell (wsV RX10 108 RX10 yX10_hand wsX10_hand) := goodIn_app (goodIn_of _ (by decide +kernel)) ggX10_sell_X10_hand
theorem dX10_sell_0 : decode cX10_sell 0 = .ok (.aload_n 0, 1) := by decide +kernel
theorem dX10_sell_1 : decode cX10_sell 1 = .ok (.iload_n 1, 1) := by decide +kernel
theorem dX10_sell_2 : decode cX10_sell 2 = .ok (.iload_n 2, 1) := by decide +kernel
theorem dX10_sell_3 : decode cX10_sell 3 = .ok (.iload_n 3, 1) := by decide +kernel
theorem dX10_sell_4 : decode cX10_sell 4 = .ok (.invokevirtual 102, 3) := by decide +kernel
theorem dX10_sell_7 : decode cX10_sell 7 = .ok (.istore 4, 2) := by decide +kernel
theorem dX10_sell_9 : decode cX10_sell 9 = .ok (.iload 4, 2) := by decide +kernel
theorem dX10_sell_11 : decode cX10_sell 11 = .ok (.ifCond .eq 6, 3) := by decide +kernel
theorem dX10_sell_14 : decode cX10_sell 14 = .ok (.iload 4, 2) := by decide +kernel
theorem dX10_sell_16 : decode cX10_sell 16 = .ok (.ireturn, 1) := by decide +kernel
theorem dX10_sell_17 : decode cX10_sell 17 = .ok (.aload_n 0, 1) := by decide +kernel
theorem dX10_sell_18 : decode cX10_sell 18 = .ok (.iload_n 2, 1) := by decide +kernel
theorem dX10_sell_19 : decode cX10_sell 19 = .ok (.invokevirtual 71, 3) := by decide +kernel
theorem dX10_sell_22 : decode cX10_sell 22 = .ok (.ifCond .ne 5, 3) := by decide +kernel
theorem dX10_sell_25 : decode cX10_sell 25 = .ok (.iconst 4, 1) := by decide +kernel
theorem dX10_sell_26 : decode cX10_sell 26 = .ok (.ireturn, 1) := by decide +kernel
theorem dX10_sell_27 : decode cX10_sell 27 = .ok (.aload_n 0, 1) := by decide +kernel
theorem dX10_sell_28 : decode cX10_sell 28 = .ok (.iload_n 2, 1) := by decide +kernel
theorem dX10_sell_29 : decode cX10_sell 29 = .ok (.invokevirtual 105, 3) := by decide +kernel
theorem dX10_sell_32 : decode cX10_sell 32 = .ok (.istore 5, 2) := by decide +kernel
theorem dX10_sell_34 : decode cX10_sell 34 = .ok (.aload_n 0, 1) := by decide +kernel
theorem dX10_sell_35 : decode cX10_sell 35 = .ok (.getfield 24, 3) := by decide +kernel
theorem dX10_sell_38 : decode cX10_sell 38 = .ok (.iload_n 3, 1) := by decide +kernel
theorem dX10_sell_39 : decode cX10_sell 39 = .ok (.invokestatic 61, 3) := by decide +kernel
theorem dX10_sell_42 : decode cX10_sell 42 = .ok (.iload 5, 2) := by decide +kernel
theorem dX10_sell_44 : decode cX10_sell 44 = .ok (.if_icmp .ge 5, 3) := by decide +kernel
theorem dX10_sell_47 : decode cX10_sell 47 = .ok (.iconst 5, 1) := by decide +kernel
theorem dX10_sell_48 : decode cX10_sell 48 = .ok (.ireturn, 1) := by decide +kernel
theorem dX10_sell_49 : decode cX10_sell 49 = .ok (.aload_n 0, 1) := by decide +kernel
theorem dX10_sell_50 : decode cX10_sell 50 = .ok (.getfield 24, 3) := by decide +kernel
theorem dX10_sell_53 : decode cX10_sell 53 = .ok (.iload_n 3, 1) := by decide +kernel
theorem dX10_sell_54 : decode cX10_sell 54 = .ok (.aload_n 0, 1) := by decide +kernel
theorem dX10_sell_55 : decode cX10_sell 55 = .ok (.getfield 24, 3) := by decide +kernel
theorem dX10_sell_58 : decode cX10_sell 58 = .ok (.iload_n 3, 1) := by decide +kernel
theorem dX10_sell_59 : decode cX10_sell 59 = .ok (.invokestatic 61, 3) := by decide +kernel
theorem dX10_sell_62 : decode cX10_sell 62 = .ok (.iload 5, 2) := by decide +kernel
theorem dX10_sell_64 : decode cX10_sell 64 = .ok (.isub, 1) := by decide +kernel
theorem dX10_sell_65 : decode cX10_sell 65 = .ok (.invokestatic 44, 3) := by decide +kernel
theorem dX10_sell_68 : decode cX10_sell 68 = .ok (.aload_n 0, 1) := by decide +kernel
theorem dX10_sell_69 : decode cX10_sell 69 = .ok (.getfield 24, 3) := by decide +kernel
theorem dX10_sell_72 : decode cX10_sell 72 = .ok (.iload_n 1, 1) := by decide +kernel
theorem dX10_sell_73 : decode cX10_sell 73 = .ok (.sipush 9999, 3) := by decide +kernel
theorem dX10_sell_76 : decode cX10_sell 76 = .ok (.aload_n 0, 1) := by decide +kernel
theorem dX10_sell_77 : decode cX10_sell 77 = .ok (.getfield 24, 3) := by decide +kernel
theorem dX10_sell_80 : decode cX10_sell 80 = .ok (.iload_n 1, 1) := by decide +kernel
theorem dX10_sell_81 : decode cX10_sell 81 = .ok (.invokestatic 61, 3) := by decide +kernel
theorem dX10_sell_84 : decode cX10_sell 84 = .ok (.iload 5, 2) := by decide +kernel
theorem dX10_sell_86 : decode cX10_sell 86 = .ok (.iadd, 1) := by decide +kernel
theorem dX10_sell_87 : decode cX10_sell 87 = .ok (.invokestatic 97, 3) := by decide +kernel
theorem dX10_sell_90 : decode cX10_sell 90 = .ok (.invokestatic 44, 3) := by decide +kernel
theorem dX10_sell_93 : decode cX10_sell 93 = .ok (.aload_n 0, 1) := by decide +kernel
theorem dX10_sell_94 : decode cX10_sell 94 = .ok (.iload_n 2, 1) := by decide +kernel
theorem dX10_sell_95 : decode cX10_sell 95 = .ok (.iload_n 3, 1) := by decide +kernel
theorem dX10_sell_96 : decode cX10_sell 96 = .ok (.invokevirtual 108, 3) := by decide +kernel
theorem dX10_sell_99 : decode cX10_sell 99 = .ok (.iconst 0, 1) := by decide +kernel
theorem dX10_sell_100 : decode cX10_sell 100 = .ok (.ireturn, 1) := by decide +kernel
set_option maxRecDepth 20000 in
theorem ggX10_give_X10_reasonAgainstHanding : GoodIn wsX10_give wsX10_reasonAgainstHanding := goodIn_r _ [5, 6, 7, 8, 9, 10, 19, 20, 21, 22, 23, 24, 25, 26, 27] (by decide +kernel) (by decide +kernel)
set_option maxRecDepth 20000 in
theorem gX10_give_X10_reasonAgainstHanding : GoodIn wsX10_give (wsV RX10 102 RX10 yX10_reasonAgainstHanding wsX10_reasonAgainstHanding) := goodIn_app (goodIn_of _ (by decide +kernel)) ggX10_give_X10_reasonAgainstHanding
set_option maxRecDepth 20000 in
theorem ggX10_give_X10_hand : GoodIn wsX10_give wsX10_hand := goodIn_r _ [14, 6, 15, 16, 17, 9, 18, 19, 20, 21, 22, 23, 24, 25, 26, 27] (by decide +kernel) (by decide +kernel)
set_option maxRecDepth 20000 in
theorem gX10_give_X10_hand : GoodIn wsX10_give (wsV RX10 108 RX10 yX10_hand wsX10_hand) := goodIn_app (goodIn_of _ (by decide +kernel)) ggX10_give_X10_hand
theorem dX10_give_0 : decode cX10_give 0 = .ok (.aload_n 0, 1) := by decide +kernel
theorem dX10_give_1 : decode cX10_give 1 = .ok (.iload_n 1, 1) := by decide +kernel
theorem dX10_give_2 : decode cX10_give 2 = .ok (.iload_n 2, 1) := by decide +kernel
theorem dX10_give_3 : decode cX10_give 3 = .ok (.iload_n 3, 1) := by decide +kernel
theorem dX10_give_4 : decode cX10_give 4 = .ok (.invokevirtual 102, 3) := by decide +kernel
theorem dX10_give_7 : decode cX10_give 7 = .ok (.istore 4, 2) := by decide +kernel
theorem dX10_give_9 : decode cX10_give 9 = .ok (.iload 4, 2) := by decide +kernel
theorem dX10_give_11 : decode cX10_give 11 = .ok (.ifCond .ne 9, 3) := by decide +kernel
theorem dX10_give_14 : decode cX10_give 14 = .ok (.aload_n 0, 1) := by decide +kernel
theorem dX10_give_15 : decode cX10_give 15 = .ok (.iload_n 2, 1) := by decide +kernel
theorem dX10_give_16 : decode cX10_give 16 = .ok (.iload_n 3, 1) := by decide +kernel
theorem dX10_give_17 : decode cX10_give 17 = .ok (.invokevirtual 108, 3) := by decide +kernel
theorem dX10_give_20 : decode cX10_give 20 = .ok (.iload 4, 2) := by decide +kernel
theorem dX10_give_22 : decode cX10_give 22 = .ok (.ireturn, 1) := by decide +kernel
set_option maxRecDepth 20000 in
theorem ggX10_reasonAgainstHanding_X5_at : GoodIn wsX10_reasonAgainstHanding wsX5_at := goodIn_r _ [5] (by decide +kernel) (by decide +kernel)
set_option maxRecDepth 20000 in
theorem gX10_reasonAgainstHanding_X5_at : GoodIn wsX10_reasonAgainstHanding (va_wsS RX10 61 yX5_at wsX5_at) := goodIn_app (goodIn_of _ (by decide +kernel)) ggX10_reasonAgainstHanding_X5_at
theorem dX10_reasonAgainstHanding_0 : decode cX10_reasonAgainstHanding 0 = .ok (.aload_n 0, 1) := by decide +kernel
theorem dX10_reasonAgainstHanding_1 : decode cX10_reasonAgainstHanding 1 = .ok (.getfield 9, 3) := by decide +kernel
theorem dX10_reasonAgainstHanding_4 : decode cX10_reasonAgainstHanding 4 = .ok (.iload_n 2, 1) := by decide +kernel
theorem dX10_reasonAgainstHanding_5 : decode cX10_reasonAgainstHanding 5 = .ok (.invokestatic 61, 3) := by decide +kernel
theorem dX10_reasonAgainstHanding_8 : decode cX10_reasonAgainstHanding 8 = .ok (.iload_n 1, 1) := by decide +kernel
theorem dX10_reasonAgainstHanding_9 : decode cX10_reasonAgainstHanding 9 = .ok (.if_icmp .eq 5, 3) := by decide +kernel
theorem dX10_reasonAgainstHanding_12 : decode cX10_reasonAgainstHanding 12 = .ok (.iconst 1, 1) := by decide +kernel
theorem dX10_reasonAgainstHanding_13 : decode cX10_reasonAgainstHanding 13 = .ok (.ireturn, 1) := by decide +kernel
theorem dX10_reasonAgainstHanding_14 : decode cX10_reasonAgainstHanding 14 = .ok (.iload_n 1, 1) := by decide +kernel
theorem dX10_reasonAgainstHanding_15 : decode cX10_reasonAgainstHanding 15 = .ok (.iload_n 3, 1) := by decide +kernel
theorem dX10_reasonAgainstHanding_16 : decode cX10_reasonAgainstHanding 16 = .ok (.if_icmp .ne 7, 3) := by decide +kernel
theorem dX10_reasonAgainstHanding_19 : decode cX10_reasonAgainstHanding 19 = .ok (.iconst 3, 1) := by decide +kernel
theorem dX10_reasonAgainstHanding_20 : decode cX10_reasonAgainstHanding 20 = .ok (.goto 4, 3) := by decide +kernel
theorem dX10_reasonAgainstHanding_23 : decode cX10_reasonAgainstHanding 23 = .ok (.iconst 0, 1) := by decide +kernel
theorem dX10_reasonAgainstHanding_24 : decode cX10_reasonAgainstHanding 24 = .ok (.ireturn, 1) := by decide +kernel
set_option maxRecDepth 20000 in
theorem ggX10_hand_X5_put : GoodIn wsX10_hand wsX5_put := goodIn_r _ [6] (by decide +kernel) (by decide +kernel)
set_option maxRecDepth 20000 in
theorem gX10_hand_X5_put : GoodIn wsX10_hand (va_wsS RX10 44 yX5_put wsX5_put) := goodIn_app (goodIn_of _ (by decide +kernel)) ggX10_hand_X5_put
theorem dX10_hand_0 : decode cX10_hand 0 = .ok (.aload_n 0, 1) := by decide +kernel
theorem dX10_hand_1 : decode cX10_hand 1 = .ok (.getfield 9, 3) := by decide +kernel
theorem dX10_hand_4 : decode cX10_hand 4 = .ok (.iload_n 1, 1) := by decide +kernel
theorem dX10_hand_5 : decode cX10_hand 5 = .ok (.iload_n 2, 1) := by decide +kernel
theorem dX10_hand_6 : decode cX10_hand 6 = .ok (.invokestatic 44, 3) := by decide +kernel
theorem dX10_hand_9 : decode cX10_hand 9 = .ok (.aload_n 0, 1) := by decide +kernel
theorem dX10_hand_10 : decode cX10_hand 10 = .ok (.getfield 15, 3) := by decide +kernel
theorem dX10_hand_13 : decode cX10_hand 13 = .ok (.iload_n 1, 1) := by decide +kernel
theorem dX10_hand_14 : decode cX10_hand 14 = .ok (.iconst 0, 1) := by decide +kernel
theorem dX10_hand_15 : decode cX10_hand 15 = .ok (.invokestatic 44, 3) := by decide +kernel
theorem dX10_hand_18 : decode cX10_hand 18 = .ok (.return_, 1) := by decide +kernel
set_option maxRecDepth 20000 in
theorem ggX10_passNight_X5_at : GoodIn wsX10_passNight wsX5_at := goodIn_r _ [7] (by decide +kernel) (by decide +kernel)
set_option maxRecDepth 20000 in
theorem gX10_passNight_X5_at : GoodIn wsX10_passNight (va_wsS RX10 61 yX5_at wsX5_at) := goodIn_app (goodIn_of _ (by decide +kernel)) ggX10_passNight_X5_at
set_option maxRecDepth 20000 in
theorem ggX10_passNight_X5_put : GoodIn wsX10_passNight wsX5_put := goodIn_r _ [10] (by decide +kernel) (by decide +kernel)
set_option maxRecDepth 20000 in
theorem gX10_passNight_X5_put : GoodIn wsX10_passNight (va_wsS RX10 44 yX5_put wsX5_put) := goodIn_app (goodIn_of _ (by decide +kernel)) ggX10_passNight_X5_put
theorem dX10_passNight_0 : decode cX10_passNight 0 = .ok (.aload_n 0, 1) := by decide +kernel
theorem dX10_passNight_1 : decode cX10_passNight 1 = .ok (.getfield 41, 3) := by decide +kernel
theorem dX10_passNight_4 : decode cX10_passNight 4 = .ok (.bipush 99, 2) := by decide +kernel
theorem dX10_passNight_6 : decode cX10_passNight 6 = .ok (.if_icmp .lt 6, 3) := by decide +kernel
theorem dX10_passNight_9 : decode cX10_passNight 9 = .ok (.bipush 6, 2) := by decide +kernel
theorem dX10_passNight_11 : decode cX10_passNight 11 = .ok (.ireturn, 1) := by decide +kernel
theorem dX10_passNight_12 : decode cX10_passNight 12 = .ok (.aload_n 0, 1) := by decide +kernel
theorem dX10_passNight_13 : decode cX10_passNight 13 = .ok (.dup, 1) := by decide +kernel
theorem dX10_passNight_14 : decode cX10_passNight 14 = .ok (.getfield 41, 3) := by decide +kernel
theorem dX10_passNight_17 : decode cX10_passNight 17 = .ok (.iconst 1, 1) := by decide +kernel
theorem dX10_passNight_18 : decode cX10_passNight 18 = .ok (.iadd, 1) := by decide +kernel
theorem dX10_passNight_19 : decode cX10_passNight 19 = .ok (.putfield 41, 3) := by decide +kernel
theorem dX10_passNight_22 : decode cX10_passNight 22 = .ok (.aload_n 0, 1) := by decide +kernel
theorem dX10_passNight_23 : decode cX10_passNight 23 = .ok (.sipush 255, 3) := by decide +kernel
theorem dX10_passNight_26 : decode cX10_passNight 26 = .ok (.putfield 37, 3) := by decide +kernel
theorem dX10_passNight_29 : decode cX10_passNight 29 = .ok (.iconst 0, 1) := by decide +kernel
theorem dX10_passNight_30 : decode cX10_passNight 30 = .ok (.istore_n 1, 1) := by decide +kernel
theorem dX10_passNight_31 : decode cX10_passNight 31 = .ok (.iload_n 1, 1) := by decide +kernel
theorem dX10_passNight_32 : decode cX10_passNight 32 = .ok (.bipush 12, 2) := by decide +kernel
theorem dX10_passNight_34 : decode cX10_passNight 34 = .ok (.if_icmp .ge 30, 3) := by decide +kernel
theorem dX10_passNight_37 : decode cX10_passNight 37 = .ok (.aload_n 0, 1) := by decide +kernel
theorem dX10_passNight_38 : decode cX10_passNight 38 = .ok (.getfield 15, 3) := by decide +kernel
theorem dX10_passNight_41 : decode cX10_passNight 41 = .ok (.iload_n 1, 1) := by decide +kernel
theorem dX10_passNight_42 : decode cX10_passNight 42 = .ok (.invokestatic 61, 3) := by decide +kernel
theorem dX10_passNight_45 : decode cX10_passNight 45 = .ok (.iconst 1, 1) := by decide +kernel
theorem dX10_passNight_46 : decode cX10_passNight 46 = .ok (.if_icmp .ne 12, 3) := by decide +kernel
theorem dX10_passNight_49 : decode cX10_passNight 49 = .ok (.aload_n 0, 1) := by decide +kernel
theorem dX10_passNight_50 : decode cX10_passNight 50 = .ok (.getfield 15, 3) := by decide +kernel
theorem dX10_passNight_53 : decode cX10_passNight 53 = .ok (.iload_n 1, 1) := by decide +kernel
theorem dX10_passNight_54 : decode cX10_passNight 54 = .ok (.iconst 0, 1) := by decide +kernel
theorem dX10_passNight_55 : decode cX10_passNight 55 = .ok (.invokestatic 44, 3) := by decide +kernel
theorem dX10_passNight_58 : decode cX10_passNight 58 = .ok (.iinc 1 1, 3) := by decide +kernel
theorem dX10_passNight_61 : decode cX10_passNight 61 = .ok (.goto (-30), 3) := by decide +kernel
theorem dX10_passNight_64 : decode cX10_passNight 64 = .ok (.iconst 0, 1) := by decide +kernel
theorem dX10_passNight_65 : decode cX10_passNight 65 = .ok (.ireturn, 1) := by decide +kernel
set_option maxRecDepth 20000 in
theorem ggX11_init_X10_init : GoodIn wsX11_init wsX10_init := goodIn_r _ [46, 47, 2, 3, 48, 49, 50, 51, 52, 53, 54, 55, 56, 57, 58, 59, 60, 61, 62, 63, 64, 65, 66, 67, 68, 69, 70, 71, 72, 73, 74, 125, 126, 127, 128, 129, 130, 131, 132, 133, 181, 182, 183] (by decide +kernel) (by decide +kernel)
set_option maxRecDepth 20000 in
theorem gX11_init_X10_init : GoodIn wsX11_init (wsX10_init) := ggX11_init_X10_init
set_option maxRecDepth 20000 in
theorem ggX11_init_X3_init : GoodIn wsX11_init wsX3_init := goodIn_r _ [77, 78, 2, 3, 48, 79, 80, 147, 148] (by decide +kernel) (by decide +kernel)
set_option maxRecDepth 20000 in
theorem gX11_init_X3_init : GoodIn wsX11_init (wsX3_init) := ggX11_init_X3_init
set_option maxRecDepth 20000 in
theorem ggX11_init_X9_init : GoodIn wsX11_init wsX9_init := goodIn_r _ [83, 84, 2, 3, 85, 5, 6, 86, 87, 45, 46, 47, 48, 49, 50, 51, 52, 53, 54, 55, 56, 57, 58, 59, 60, 61, 62, 63, 64, 65, 66, 67, 68, 69, 70, 71, 72, 73, 74, 125, 126, 127, 128, 129, 130, 131, 132, 133, 149, 150, 151, 152, 153, 154, 155, 156, 181, 182, 183] (by decide +kernel) (by decide +kernel)
set_option maxRecDepth 20000 in
theorem gX11_init_X9_init : GoodIn wsX11_init (wsX9_init) := ggX11_init_X9_init
set_option maxRecDepth 20000 in
theorem ggX11_init_X6_init : GoodIn wsX11_init wsX6_init := goodIn_r _ [90, 91, 2, 3, 48, 92, 93, 157, 158] (by decide +kernel) (by decide +kernel)
set_option maxRecDepth 20000 in
theorem gX11_init_X6_init : GoodIn wsX11_init (wsX6_init) := ggX11_init_X6_init
set_option maxRecDepth 20000 in
theorem ggX11_init_X4_init : GoodIn wsX11_init wsX4_init := goodIn_r _ [96, 97, 2, 3, 48, 98, 99, 100, 159, 160, 161, 162, 163, 164] (by decide +kernel) (by decide +kernel)
set_option maxRecDepth 20000 in
theorem gX11_init_X4_init : GoodIn wsX11_init (wsX4_init) := ggX11_init_X4_init
set_option maxRecDepth 20000 in
theorem ggX11_init_X0_init : GoodIn wsX11_init wsX0_init := goodIn_r _ [103, 104, 2, 3, 48, 105, 165, 166, 167, 168, 169] (by decide +kernel) (by decide +kernel)
set_option maxRecDepth 20000 in
theorem gX11_init_X0_init : GoodIn wsX11_init (wsX0_init) := ggX11_init_X0_init
set_option maxRecDepth 20000 in
theorem ggX11_init_X2_init : GoodIn wsX11_init wsX2_init := goodIn_r _ [108, 109, 2, 3, 48, 110, 111, 170, 171, 172, 173, 174, 175] (by decide +kernel) (by decide +kernel)
set_option maxRecDepth 20000 in
theorem gX11_init_X2_init : GoodIn wsX11_init (wsX2_init) := ggX11_init_X2_init
set_option maxRecDepth 20000 in
theorem ggX11_init_X7_init : GoodIn wsX11_init wsX7_init := goodIn_r _ [114, 115, 2, 3, 48, 116, 117, 118, 176, 177, 178] (by decide +kernel) (by decide +kernel)
set_option maxRecDepth 20000 in
theorem gX11_init_X7_init : GoodIn wsX11_init (wsX7_init) := ggX11_init_X7_init
set_option maxRecDepth 20000 in
theorem ggX11_init_X1_init : GoodIn wsX11_init wsX1_init := goodIn_r _ [121, 122, 2, 3, 123, 124, 179, 180] (by decide +kernel) (by decide +kernel)
set_option maxRecDepth 20000 in
theorem gX11_init_X1_init : GoodIn wsX11_init (wsX1_init) := ggX11_init_X1_init
theorem dX11_init_0 : decode cX11_init 0 = .ok (.aload_n 0, 1) := by decide +kernel
theorem dX11_init_1 : decode cX11_init 1 = .ok (.invokespecial 1, 3) := by decide +kernel
theorem dX11_init_4 : decode cX11_init 4 = .ok (.aload_n 0, 1) := by decide +kernel
theorem dX11_init_5 : decode cX11_init 5 = .ok (.new 7, 3) := by decide +kernel
theorem dX11_init_8 : decode cX11_init 8 = .ok (.dup, 1) := by decide +kernel
theorem dX11_init_9 : decode cX11_init 9 = .ok (.invokespecial 9, 3) := by decide +kernel
theorem dX11_init_12 : decode cX11_init 12 = .ok (.putfield 10, 3) := by decide +kernel
theorem dX11_init_15 : decode cX11_init 15 = .ok (.aload_n 0, 1) := by decide +kernel
theorem dX11_init_16 : decode cX11_init 16 = .ok (.new 7, 3) := by decide +kernel
theorem dX11_init_19 : decode cX11_init 19 = .ok (.dup, 1) := by decide +kernel
theorem dX11_init_20 : decode cX11_init 20 = .ok (.invokespecial 9, 3) := by decide +kernel
theorem dX11_init_23 : decode cX11_init 23 = .ok (.putfield 16, 3) := by decide +kernel
theorem dX11_init_26 : decode cX11_init 26 = .ok (.aload_n 0, 1) := by decide +kernel
theorem dX11_init_27 : decode cX11_init 27 = .ok (.new 19, 3) := by decide +kernel
theorem dX11_init_30 : decode cX11_init 30 = .ok (.dup, 1) := by decide +kernel
theorem dX11_init_31 : decode cX11_init 31 = .ok (.invokespecial 21, 3) := by decide +kernel
theorem dX11_init_34 : decode cX11_init 34 = .ok (.putfield 22, 3) := by decide +kernel
theorem dX11_init_37 : decode cX11_init 37 = .ok (.aload_n 0, 1) := by decide +kernel
theorem dX11_init_38 : decode cX11_init 38 = .ok (.new 26, 3) := by decide +kernel
theorem dX11_init_41 : decode cX11_init 41 = .ok (.dup, 1) := by decide +kernel
theorem dX11_init_42 : decode cX11_init 42 = .ok (.invokespecial 28, 3) := by decide +kernel
theorem dX11_init_45 : decode cX11_init 45 = .ok (.putfield 29, 3) := by decide +kernel
theorem dX11_init_48 : decode cX11_init 48 = .ok (.aload_n 0, 1) := by decide +kernel
theorem dX11_init_49 : decode cX11_init 49 = .ok (.new 33, 3) := by decide +kernel
theorem dX11_init_52 : decode cX11_init 52 = .ok (.dup, 1) := by decide +kernel
theorem dX11_init_53 : decode cX11_init 53 = .ok (.invokespecial 35, 3) := by decide +kernel
theorem dX11_init_56 : decode cX11_init 56 = .ok (.putfield 36, 3) := by decide +kernel
theorem dX11_init_59 : decode cX11_init 59 = .ok (.aload_n 0, 1) := by decide +kernel
theorem dX11_init_60 : decode cX11_init 60 = .ok (.new 40, 3) := by decide +kernel
theorem dX11_init_63 : decode cX11_init 63 = .ok (.dup, 1) := by decide +kernel
theorem dX11_init_64 : decode cX11_init 64 = .ok (.invokespecial 42, 3) := by decide +kernel
theorem dX11_init_67 : decode cX11_init 67 = .ok (.putfield 43, 3) := by decide +kernel
theorem dX11_init_70 : decode cX11_init 70 = .ok (.aload_n 0, 1) := by decide +kernel
theorem dX11_init_71 : decode cX11_init 71 = .ok (.new 47, 3) := by decide +kernel
theorem dX11_init_74 : decode cX11_init 74 = .ok (.dup, 1) := by decide +kernel
theorem dX11_init_75 : decode cX11_init 75 = .ok (.invokespecial 49, 3) := by decide +kernel
theorem dX11_init_78 : decode cX11_init 78 = .ok (.putfield 50, 3) := by decide +kernel
theorem dX11_init_81 : decode cX11_init 81 = .ok (.aload_n 0, 1) := by decide +kernel
theorem dX11_init_82 : decode cX11_init 82 = .ok (.new 54, 3) := by decide +kernel
theorem dX11_init_85 : decode cX11_init 85 = .ok (.dup, 1) := by decide +kernel
theorem dX11_init_86 : decode cX11_init 86 = .ok (.invokespecial 56, 3) := by decide +kernel
theorem dX11_init_89 : decode cX11_init 89 = .ok (.putfield 57, 3) := by decide +kernel
theorem dX11_init_92 : decode cX11_init 92 = .ok (.aload_n 0, 1) := by decide +kernel
theorem dX11_init_93 : decode cX11_init 93 = .ok (.new 61, 3) := by decide +kernel
theorem dX11_init_96 : decode cX11_init 96 = .ok (.dup, 1) := by decide +kernel
theorem dX11_init_97 : decode cX11_init 97 = .ok (.invokespecial 63, 3) := by decide +kernel
theorem dX11_init_100 : decode cX11_init 100 = .ok (.putfield 64, 3) := by decide +kernel
theorem dX11_init_103 : decode cX11_init 103 = .ok (.aload_n 0, 1) := by decide +kernel
theorem dX11_init_104 : decode cX11_init 104 = .ok (.new 68, 3) := by decide +kernel
theorem dX11_init_107 : decode cX11_init 107 = .ok (.dup, 1) := by decide +kernel
theorem dX11_init_108 : decode cX11_init 108 = .ok (.invokespecial 70, 3) := by decide +kernel
theorem dX11_init_111 : decode cX11_init 111 = .ok (.putfield 71, 3) := by decide +kernel
theorem dX11_init_114 : decode cX11_init 114 = .ok (.aload_n 0, 1) := by decide +kernel
theorem dX11_init_115 : decode cX11_init 115 = .ok (.new 7, 3) := by decide +kernel
theorem dX11_init_118 : decode cX11_init 118 = .ok (.dup, 1) := by decide +kernel
theorem dX11_init_119 : decode cX11_init 119 = .ok (.invokespecial 9, 3) := by decide +kernel
theorem dX11_init_122 : decode cX11_init 122 = .ok (.putfield 75, 3) := by decide +kernel
theorem dX11_init_125 : decode cX11_init 125 = .ok (.aload_n 0, 1) := by decide +kernel
theorem dX11_init_126 : decode cX11_init 126 = .ok (.new 7, 3) := by decide +kernel
theorem dX11_init_129 : decode cX11_init 129 = .ok (.dup, 1) := by decide +kernel
theorem dX11_init_130 : decode cX11_init 130 = .ok (.invokespecial 9, 3) := by decide +kernel
theorem dX11_init_133 : decode cX11_init 133 = .ok (.putfield 78, 3) := by decide +kernel
theorem dX11_init_136 : decode cX11_init 136 = .ok (.aload_n 0, 1) := by decide +kernel
theorem dX11_init_137 : decode cX11_init 137 = .ok (.iconst 0, 1) := by decide +kernel
theorem dX11_init_138 : decode cX11_init 138 = .ok (.putfield 81, 3) := by decide +kernel
theorem dX11_init_141 : decode cX11_init 141 = .ok (.return_, 1) := by decide +kernel
set_option maxRecDepth 20000 in
theorem ggX11_thing_X11_isThing : GoodIn wsX11_thing wsX11_isThing := goodIn_r _ [9, 10, 11, 12, 13] (by decide +kernel) (by decide +kernel)
set_option maxRecDepth 20000 in
theorem gX11_thing_X11_isThing : GoodIn wsX11_thing (va_wsS RX11 85 yX11_isThing wsX11_isThing) := goodIn_app (goodIn_of _ (by decide +kernel)) ggX11_thing_X11_isThing
set_option maxRecDepth 20000 in
theorem ggX11_thing_X11_isOne : GoodIn wsX11_thing wsX11_isOne := goodIn_r _ [16, 10, 11, 12, 13] (by decide +kernel) (by decide +kernel)
set_option maxRecDepth 20000 in
theorem gX11_thing_X11_isOne : GoodIn wsX11_thing (va_wsS RX11 89 yX11_isOne wsX11_isOne) := goodIn_app (goodIn_of _ (by decide +kernel)) ggX11_thing_X11_isOne
set_option maxRecDepth 20000 in
theorem ggX11_thing_X5_within : GoodIn wsX11_thing wsX5_within := goodIn_r _ [13] (by decide +kernel) (by decide +kernel)
set_option maxRecDepth 20000 in
theorem gX11_thing_X5_within : GoodIn wsX11_thing (va_wsS RX11 92 yX5_within wsX5_within) := goodIn_app (goodIn_of _ (by decide +kernel)) ggX11_thing_X5_within
set_option maxRecDepth 20000 in
theorem ggX11_thing_X5_at : GoodIn wsX11_thing wsX5_at := goodIn_r _ [19] (by decide +kernel) (by decide +kernel)
set_option maxRecDepth 20000 in
theorem gX11_thing_X5_at : GoodIn wsX11_thing (va_wsS RX11 102 yX5_at wsX5_at) := goodIn_app (goodIn_of _ (by decide +kernel)) ggX11_thing_X5_at
set_option maxRecDepth 20000 in
theorem ggX11_thing_X5_put : GoodIn wsX11_thing wsX5_put := goodIn_r _ [22] (by decide +kernel) (by decide +kernel)
set_option maxRecDepth 20000 in
theorem gX11_thing_X5_put : GoodIn wsX11_thing (va_wsS RX11 106 yX5_put wsX5_put) := goodIn_app (goodIn_of _ (by decide +kernel)) ggX11_thing_X5_put
theorem dX11_thing_0 : decode cX11_thing 0 = .ok (.iload_n 1, 1) := by decide +kernel
theorem dX11_thing_1 : decode cX11_thing 1 = .ok (.invokestatic 85, 3) := by decide +kernel
theorem dX11_thing_4 : decode cX11_thing 4 = .ok (.ifCond .eq 10, 3) := by decide +kernel
theorem dX11_thing_7 : decode cX11_thing 7 = .ok (.iload_n 2, 1) := by decide +kernel
theorem dX11_thing_8 : decode cX11_thing 8 = .ok (.invokestatic 89, 3) := by decide +kernel
theorem dX11_thing_11 : decode cX11_thing 11 = .ok (.ifCond .ne 5, 3) := by decide +kernel
theorem dX11_thing_14 : decode cX11_thing 14 = .ok (.iconst (-1), 1) := by decide +kernel
theorem dX11_thing_15 : decode cX11_thing 15 = .ok (.ireturn, 1) := by decide +kernel
theorem dX11_thing_16 : decode cX11_thing 16 = .ok (.iload_n 3, 1) := by decide +kernel
theorem dX11_thing_17 : decode cX11_thing 17 = .ok (.iconst 0, 1) := by decide +kernel
theorem dX11_thing_18 : decode cX11_thing 18 = .ok (.bipush 9, 2) := by decide +kernel
theorem dX11_thing_20 : decode cX11_thing 20 = .ok (.invokestatic 92, 3) := by decide +kernel
theorem dX11_thing_23 : decode cX11_thing 23 = .ok (.ifCond .eq 25, 3) := by decide +kernel
theorem dX11_thing_26 : decode cX11_thing 26 = .ok (.iload 4, 2) := by decide +kernel
theorem dX11_thing_28 : decode cX11_thing 28 = .ok (.iconst 0, 1) := by decide +kernel
theorem dX11_thing_29 : decode cX11_thing 29 = .ok (.bipush 99, 2) := by decide +kernel
theorem dX11_thing_31 : decode cX11_thing 31 = .ok (.invokestatic 92, 3) := by decide +kernel
theorem dX11_thing_34 : decode cX11_thing 34 = .ok (.ifCond .eq 14, 3) := by decide +kernel
theorem dX11_thing_37 : decode cX11_thing 37 = .ok (.iload 5, 2) := by decide +kernel
theorem dX11_thing_39 : decode cX11_thing 39 = .ok (.iconst 1, 1) := by decide +kernel
theorem dX11_thing_40 : decode cX11_thing 40 = .ok (.bipush 9, 2) := by decide +kernel
theorem dX11_thing_42 : decode cX11_thing 42 = .ok (.invokestatic 92, 3) := by decide +kernel
theorem dX11_thing_45 : decode cX11_thing 45 = .ok (.ifCond .ne 6, 3) := by decide +kernel
theorem dX11_thing_48 : decode cX11_thing 48 = .ok (.bipush (-2), 2) := by decide +kernel
theorem dX11_thing_50 : decode cX11_thing 50 = .ok (.ireturn, 1) := by decide +kernel
theorem dX11_thing_51 : decode cX11_thing 51 = .ok (.aload_n 0, 1) := by decide +kernel
theorem dX11_thing_52 : decode cX11_thing 52 = .ok (.getfield 10, 3) := by decide +kernel
theorem dX11_thing_55 : decode cX11_thing 55 = .ok (.getfield 98, 3) := by decide +kernel
theorem dX11_thing_58 : decode cX11_thing 58 = .ok (.iload_n 1, 1) := by decide +kernel
theorem dX11_thing_59 : decode cX11_thing 59 = .ok (.invokestatic 102, 3) := by decide +kernel
theorem dX11_thing_62 : decode cX11_thing 62 = .ok (.istore 6, 2) := by decide +kernel
theorem dX11_thing_64 : decode cX11_thing 64 = .ok (.aload_n 0, 1) := by decide +kernel
theorem dX11_thing_65 : decode cX11_thing 65 = .ok (.getfield 10, 3) := by decide +kernel
theorem dX11_thing_68 : decode cX11_thing 68 = .ok (.getfield 98, 3) := by decide +kernel
theorem dX11_thing_71 : decode cX11_thing 71 = .ok (.iload_n 1, 1) := by decide +kernel
theorem dX11_thing_72 : decode cX11_thing 72 = .ok (.iload_n 2, 1) := by decide +kernel
theorem dX11_thing_73 : decode cX11_thing 73 = .ok (.invokestatic 106, 3) := by decide +kernel
theorem dX11_thing_76 : decode cX11_thing 76 = .ok (.aload_n 0, 1) := by decide +kernel
theorem dX11_thing_77 : decode cX11_thing 77 = .ok (.getfield 10, 3) := by decide +kernel
theorem dX11_thing_80 : decode cX11_thing 80 = .ok (.getfield 110, 3) := by decide +kernel
theorem dX11_thing_83 : decode cX11_thing 83 = .ok (.iload_n 1, 1) := by decide +kernel
theorem dX11_thing_84 : decode cX11_thing 84 = .ok (.iload_n 3, 1) := by decide +kernel
theorem dX11_thing_85 : decode cX11_thing 85 = .ok (.invokestatic 106, 3) := by decide +kernel
theorem dX11_thing_88 : decode cX11_thing 88 = .ok (.aload_n 0, 1) := by decide +kernel
theorem dX11_thing_89 : decode cX11_thing 89 = .ok (.getfield 10, 3) := by decide +kernel
theorem dX11_thing_92 : decode cX11_thing 92 = .ok (.getfield 113, 3) := by decide +kernel
theorem dX11_thing_95 : decode cX11_thing 95 = .ok (.iload_n 1, 1) := by decide +kernel
theorem dX11_thing_96 : decode cX11_thing 96 = .ok (.iload 4, 2) := by decide +kernel
theorem dX11_thing_98 : decode cX11_thing 98 = .ok (.invokestatic 106, 3) := by decide +kernel
theorem dX11_thing_101 : decode cX11_thing 101 = .ok (.aload_n 0, 1) := by decide +kernel
theorem dX11_thing_102 : decode cX11_thing 102 = .ok (.getfield 10, 3) := by decide +kernel
theorem dX11_thing_105 : decode cX11_thing 105 = .ok (.getfield 116, 3) := by decide +kernel
theorem dX11_thing_108 : decode cX11_thing 108 = .ok (.iload_n 1, 1) := by decide +kernel
theorem dX11_thing_109 : decode cX11_thing 109 = .ok (.iload 5, 2) := by decide +kernel
theorem dX11_thing_111 : decode cX11_thing 111 = .ok (.invokestatic 106, 3) := by decide +kernel
theorem dX11_thing_114 : decode cX11_thing 114 = .ok (.iload 6, 2) := by decide +kernel
theorem dX11_thing_116 : decode cX11_thing 116 = .ok (.ireturn, 1) := by decide +kernel
set_option maxRecDepth 20000 in
theorem ggX11_one_X11_isOne : GoodIn wsX11_one wsX11_isOne := goodIn_r _ [7, 8, 9, 10, 11] (by decide +kernel) (by decide +kernel)
set_option maxRecDepth 20000 in
theorem gX11_one_X11_isOne : GoodIn wsX11_one (va_wsS RX11 89 yX11_isOne wsX11_isOne) := goodIn_app (goodIn_of _ (by decide +kernel)) ggX11_one_X11_isOne
set_option maxRecDepth 20000 in
theorem ggX11_one_X5_within : GoodIn wsX11_one wsX5_within := goodIn_r _ [11] (by decide +kernel) (by decide +kernel)
set_option maxRecDepth 20000 in
theorem gX11_one_X5_within : GoodIn wsX11_one (va_wsS RX11 92 yX5_within wsX5_within) := goodIn_app (goodIn_of _ (by decide +kernel)) ggX11_one_X5_within
set_option maxRecDepth 20000 in
theorem ggX11_one_X5_at : GoodIn wsX11_one wsX5_at := goodIn_r _ [14] (by decide +kernel) (by decide +kernel)
set_option maxRecDepth 20000 in
theorem gX11_one_X5_at : GoodIn wsX11_one (va_wsS RX11 102 yX5_at wsX5_at) := goodIn_app (goodIn_of _ (by decide +kernel)) ggX11_one_X5_at
set_option maxRecDepth 20000 in
theorem ggX11_one_X5_put : GoodIn wsX11_one wsX5_put := goodIn_r _ [17] (by decide +kernel) (by decide +kernel)
set_option maxRecDepth 20000 in
theorem gX11_one_X5_put : GoodIn wsX11_one (va_wsS RX11 106 yX5_put wsX5_put) := goodIn_app (goodIn_of _ (by decide +kernel)) ggX11_one_X5_put
theorem dX11_one_0 : decode cX11_one 0 = .ok (.iload_n 1, 1) := by decide +kernel
theorem dX11_one_1 : decode cX11_one 1 = .ok (.invokestatic 89, 3) := by decide +kernel
theorem dX11_one_4 : decode cX11_one 4 = .ok (.ifCond .ne 5, 3) := by decide +kernel
theorem dX11_one_7 : decode cX11_one 7 = .ok (.iconst (-1), 1) := by decide +kernel
theorem dX11_one_8 : decode cX11_one 8 = .ok (.ireturn, 1) := by decide +kernel
theorem dX11_one_9 : decode cX11_one 9 = .ok (.iload_n 2, 1) := by decide +kernel
theorem dX11_one_10 : decode cX11_one 10 = .ok (.iconst 0, 1) := by decide +kernel
theorem dX11_one_11 : decode cX11_one 11 = .ok (.sipush 9999, 3) := by decide +kernel
theorem dX11_one_14 : decode cX11_one 14 = .ok (.invokestatic 92, 3) := by decide +kernel
theorem dX11_one_17 : decode cX11_one 17 = .ok (.ifCond .eq 12, 3) := by decide +kernel
theorem dX11_one_20 : decode cX11_one 20 = .ok (.iload_n 3, 1) := by decide +kernel
theorem dX11_one_21 : decode cX11_one 21 = .ok (.iconst 0, 1) := by decide +kernel
theorem dX11_one_22 : decode cX11_one 22 = .ok (.iconst 1, 1) := by decide +kernel
theorem dX11_one_23 : decode cX11_one 23 = .ok (.invokestatic 92, 3) := by decide +kernel
theorem dX11_one_26 : decode cX11_one 26 = .ok (.ifCond .ne 6, 3) := by decide +kernel
theorem dX11_one_29 : decode cX11_one 29 = .ok (.bipush (-2), 2) := by decide +kernel
theorem dX11_one_31 : decode cX11_one 31 = .ok (.ireturn, 1) := by decide +kernel
theorem dX11_one_32 : decode cX11_one 32 = .ok (.aload_n 0, 1) := by decide +kernel
theorem dX11_one_33 : decode cX11_one 33 = .ok (.getfield 10, 3) := by decide +kernel
theorem dX11_one_36 : decode cX11_one 36 = .ok (.getfield 119, 3) := by decide +kernel
theorem dX11_one_39 : decode cX11_one 39 = .ok (.iload_n 1, 1) := by decide +kernel
theorem dX11_one_40 : decode cX11_one 40 = .ok (.invokestatic 102, 3) := by decide +kernel
theorem dX11_one_43 : decode cX11_one 43 = .ok (.istore 4, 2) := by decide +kernel
theorem dX11_one_45 : decode cX11_one 45 = .ok (.aload_n 0, 1) := by decide +kernel
theorem dX11_one_46 : decode cX11_one 46 = .ok (.getfield 10, 3) := by decide +kernel
theorem dX11_one_49 : decode cX11_one 49 = .ok (.getfield 119, 3) := by decide +kernel
theorem dX11_one_52 : decode cX11_one 52 = .ok (.iload_n 1, 1) := by decide +kernel
theorem dX11_one_53 : decode cX11_one 53 = .ok (.iload_n 2, 1) := by decide +kernel
theorem dX11_one_54 : decode cX11_one 54 = .ok (.invokestatic 106, 3) := by decide +kernel
theorem dX11_one_57 : decode cX11_one 57 = .ok (.aload_n 0, 1) := by decide +kernel
theorem dX11_one_58 : decode cX11_one 58 = .ok (.getfield 10, 3) := by decide +kernel
theorem dX11_one_61 : decode cX11_one 61 = .ok (.iload_n 3, 1) := by decide +kernel
theorem dX11_one_62 : decode cX11_one 62 = .ok (.iconst 1, 1) := by decide +kernel
theorem dX11_one_63 : decode cX11_one 63 = .ok (.if_icmp .ne 17, 3) := by decide +kernel
theorem dX11_one_66 : decode cX11_one 66 = .ok (.aload_n 0, 1) := by decide +kernel
theorem dX11_one_67 : decode cX11_one 67 = .ok (.getfield 10, 3) := by decide +kernel
theorem dX11_one_70 : decode cX11_one 70 = .ok (.getfield 122, 3) := by decide +kernel
theorem dX11_one_73 : decode cX11_one 73 = .ok (.iconst 1, 1) := by decide +kernel
theorem dX11_one_74 : decode cX11_one 74 = .ok (.iload_n 1, 1) := by decide +kernel
theorem dX11_one_75 : decode cX11_one 75 = .ok (.ishl, 1) := by decide +kernel
theorem dX11_one_76 : decode cX11_one 76 = .ok (.ior, 1) := by decide +kernel
theorem dX11_one_77 : decode cX11_one 77 = .ok (.goto 16, 3) := by decide +kernel
theorem dX11_one_80 : decode cX11_one 80 = .ok (.aload_n 0, 1) := by decide +kernel
theorem dX11_one_81 : decode cX11_one 81 = .ok (.getfield 10, 3) := by decide +kernel
theorem dX11_one_84 : decode cX11_one 84 = .ok (.getfield 122, 3) := by decide +kernel
theorem dX11_one_87 : decode cX11_one 87 = .ok (.iconst 1, 1) := by decide +kernel
theorem dX11_one_88 : decode cX11_one 88 = .ok (.iload_n 1, 1) := by decide +kernel
theorem dX11_one_89 : decode cX11_one 89 = .ok (.ishl, 1) := by decide +kernel
theorem dX11_one_90 : decode cX11_one 90 = .ok (.iconst (-1), 1) := by decide +kernel
theorem dX11_one_91 : decode cX11_one 91 = .ok (.ixor, 1) := by decide +kernel
theorem dX11_one_92 : decode cX11_one 92 = .ok (.iand, 1) := by decide +kernel
theorem dX11_one_93 : decode cX11_one 93 = .ok (.putfield 122, 3) := by decide +kernel
theorem dX11_one_96 : decode cX11_one 96 = .ok (.iload 4, 2) := by decide +kernel
theorem dX11_one_98 : decode cX11_one 98 = .ok (.ireturn, 1) := by decide +kernel
set_option maxRecDepth 20000 in
theorem ggX11_brothers_X11_isOne : GoodIn wsX11_brothers wsX11_isOne := goodIn_r _ [5, 6, 7, 8, 9] (by decide +kernel) (by decide +kernel)
set_option maxRecDepth 20000 in
theorem gX11_brothers_X11_isOne : GoodIn wsX11_brothers (va_wsS RX11 89 yX11_isOne wsX11_isOne) := goodIn_app (goodIn_of _ (by decide +kernel)) ggX11_brothers_X11_isOne
set_option maxRecDepth 20000 in
theorem ggX11_brothers_X10_bind : GoodIn wsX11_brothers wsX10_bind := goodIn_r _ [14, 15, 16, 17, 8, 18, 19, 20, 21, 46, 47, 48, 49, 50, 51, 52, 53, 54] (by decide +kernel) (by decide +kernel)
set_option maxRecDepth 20000 in
theorem gX11_brothers_X10_bind : GoodIn wsX11_brothers (wsV RX11 125 RX10 yX10_bind wsX10_bind) := goodIn_app (goodIn_of _ (by decide +kernel)) ggX11_brothers_X10_bind
set_option maxRecDepth 20000 in
theorem ggX11_brothers_X10_pairsOfBrothers : GoodIn wsX11_brothers wsX10_pairsOfBrothers := goodIn_r _ [25, 15, 16, 17, 8, 18, 26, 27, 28, 29, 30, 31, 32, 46, 47, 48, 49, 50, 51, 52, 53, 54] (by decide +kernel) (by decide +kernel)
set_option maxRecDepth 20000 in
theorem gX11_brothers_X10_pairsOfBrothers : GoodIn wsX11_brothers (wsV RX11 129 RX10 yX10_pairsOfBrothers wsX10_pairsOfBrothers) := goodIn_app (goodIn_of _ (by decide +kernel)) ggX11_brothers_X10_pairsOfBrothers
theorem dX11_brothers_0 : decode cX11_brothers 0 = .ok (.iload_n 1, 1) := by decide +kernel
theorem dX11_brothers_1 : decode cX11_brothers 1 = .ok (.invokestatic 89, 3) := by decide +kernel
theorem dX11_brothers_4 : decode cX11_brothers 4 = .ok (.ifCond .eq 15, 3) := by decide +kernel
theorem dX11_brothers_7 : decode cX11_brothers 7 = .ok (.iload_n 2, 1) := by decide +kernel
theorem dX11_brothers_8 : decode cX11_brothers 8 = .ok (.invokestatic 89, 3) := by decide +kernel
theorem dX11_brothers_11 : decode cX11_brothers 11 = .ok (.ifCond .eq 8, 3) := by decide +kernel
theorem dX11_brothers_14 : decode cX11_brothers 14 = .ok (.iload_n 1, 1) := by decide +kernel
theorem dX11_brothers_15 : decode cX11_brothers 15 = .ok (.iload_n 2, 1) := by decide +kernel
theorem dX11_brothers_16 : decode cX11_brothers 16 = .ok (.if_icmp .ne 5, 3) := by decide +kernel
theorem dX11_brothers_19 : decode cX11_brothers 19 = .ok (.iconst (-1), 1) := by decide +kernel
theorem dX11_brothers_20 : decode cX11_brothers 20 = .ok (.ireturn, 1) := by decide +kernel
theorem dX11_brothers_21 : decode cX11_brothers 21 = .ok (.aload_n 0, 1) := by decide +kernel
theorem dX11_brothers_22 : decode cX11_brothers 22 = .ok (.getfield 10, 3) := by decide +kernel
theorem dX11_brothers_25 : decode cX11_brothers 25 = .ok (.iload_n 1, 1) := by decide +kernel
theorem dX11_brothers_26 : decode cX11_brothers 26 = .ok (.iload_n 2, 1) := by decide +kernel
theorem dX11_brothers_27 : decode cX11_brothers 27 = .ok (.iload_n 3, 1) := by decide +kernel
theorem dX11_brothers_28 : decode cX11_brothers 28 = .ok (.invokevirtual 125, 3) := by decide +kernel
theorem dX11_brothers_31 : decode cX11_brothers 31 = .ok (.aload_n 0, 1) := by decide +kernel
theorem dX11_brothers_32 : decode cX11_brothers 32 = .ok (.getfield 10, 3) := by decide +kernel
theorem dX11_brothers_35 : decode cX11_brothers 35 = .ok (.iload_n 2, 1) := by decide +kernel
theorem dX11_brothers_36 : decode cX11_brothers 36 = .ok (.iload_n 1, 1) := by decide +kernel
theorem dX11_brothers_37 : decode cX11_brothers 37 = .ok (.iload_n 3, 1) := by decide +kernel
theorem dX11_brothers_38 : decode cX11_brothers 38 = .ok (.invokevirtual 125, 3) := by decide +kernel
theorem dX11_brothers_41 : decode cX11_brothers 41 = .ok (.aload_n 0, 1) := by decide +kernel
theorem dX11_brothers_42 : decode cX11_brothers 42 = .ok (.getfield 10, 3) := by decide +kernel
theorem dX11_brothers_45 : decode cX11_brothers 45 = .ok (.invokevirtual 129, 3) := by decide +kernel
theorem dX11_brothers_48 : decode cX11_brothers 48 = .ok (.ireturn, 1) := by decide +kernel
set_option maxRecDepth 20000 in
theorem ggX11_say_X5_within : GoodIn wsX11_say wsX5_within := goodIn_r _ [6] (by decide +kernel) (by decide +kernel)
set_option maxRecDepth 20000 in
theorem gX11_say_X5_within : GoodIn wsX11_say (va_wsS RX11 92 yX5_within wsX5_within) := goodIn_app (goodIn_of _ (by decide +kernel)) ggX11_say_X5_within
set_option maxRecDepth 20000 in
theorem ggX11_say_X3_add : GoodIn wsX11_say wsX3_add := goodIn_r _ [11, 12, 13, 14, 15, 5, 16, 30, 31] (by decide +kernel) (by decide +kernel)
set_option maxRecDepth 20000 in
theorem gX11_say_X3_add : GoodIn wsX11_say (wsV RX11 136 RX3 yX3_add wsX3_add) := goodIn_app (goodIn_of _ (by decide +kernel)) ggX11_say_X3_add
theorem dX11_say_0 : decode cX11_say 0 = .ok (.iload_n 1, 1) := by decide +kernel
theorem dX11_say_1 : decode cX11_say 1 = .ok (.bipush 33, 2) := by decide +kernel
theorem dX11_say_3 : decode cX11_say 3 = .ok (.bipush 126, 2) := by decide +kernel
theorem dX11_say_5 : decode cX11_say 5 = .ok (.invokestatic 92, 3) := by decide +kernel
theorem dX11_say_8 : decode cX11_say 8 = .ok (.ifCond .ne 6, 3) := by decide +kernel
theorem dX11_say_11 : decode cX11_say 11 = .ok (.bipush (-2), 2) := by decide +kernel
theorem dX11_say_13 : decode cX11_say 13 = .ok (.ireturn, 1) := by decide +kernel
theorem dX11_say_14 : decode cX11_say 14 = .ok (.aload_n 0, 1) := by decide +kernel
theorem dX11_say_15 : decode cX11_say 15 = .ok (.getfield 22, 3) := by decide +kernel
theorem dX11_say_18 : decode cX11_say 18 = .ok (.getfield 133, 3) := by decide +kernel
theorem dX11_say_21 : decode cX11_say 21 = .ok (.bipush 60, 2) := by decide +kernel
theorem dX11_say_23 : decode cX11_say 23 = .ok (.if_icmp .lt 6, 3) := by decide +kernel
theorem dX11_say_26 : decode cX11_say 26 = .ok (.bipush (-4), 2) := by decide +kernel
theorem dX11_say_28 : decode cX11_say 28 = .ok (.ireturn, 1) := by decide +kernel
theorem dX11_say_29 : decode cX11_say 29 = .ok (.aload_n 0, 1) := by decide +kernel
theorem dX11_say_30 : decode cX11_say 30 = .ok (.getfield 22, 3) := by decide +kernel
theorem dX11_say_33 : decode cX11_say 33 = .ok (.iload_n 1, 1) := by decide +kernel
theorem dX11_say_34 : decode cX11_say 34 = .ok (.invokevirtual 136, 3) := by decide +kernel
theorem dX11_say_37 : decode cX11_say 37 = .ok (.aload_n 0, 1) := by decide +kernel
theorem dX11_say_38 : decode cX11_say 38 = .ok (.getfield 22, 3) := by decide +kernel
theorem dX11_say_41 : decode cX11_say 41 = .ok (.getfield 133, 3) := by decide +kernel
theorem dX11_say_44 : decode cX11_say 44 = .ok (.ireturn, 1) := by decide +kernel
theorem dX11_wipe_0 : decode cX11_wipe 0 = .ok (.aload_n 0, 1) := by decide +kernel
theorem dX11_wipe_1 : decode cX11_wipe 1 = .ok (.getfield 22, 3) := by decide +kernel
theorem dX11_wipe_4 : decode cX11_wipe 4 = .ok (.getfield 133, 3) := by decide +kernel
theorem dX11_wipe_7 : decode cX11_wipe 7 = .ok (.istore_n 1, 1) := by decide +kernel
theorem dX11_wipe_8 : decode cX11_wipe 8 = .ok (.aload_n 0, 1) := by decide +kernel
theorem dX11_wipe_9 : decode cX11_wipe 9 = .ok (.getfield 22, 3) := by decide +kernel
theorem dX11_wipe_12 : decode cX11_wipe 12 = .ok (.iconst 0, 1) := by decide +kernel
theorem dX11_wipe_13 : decode cX11_wipe 13 = .ok (.putfield 133, 3) := by decide +kernel
theorem dX11_wipe_16 : decode cX11_wipe 16 = .ok (.iload_n 1, 1) := by decide +kernel
theorem dX11_wipe_17 : decode cX11_wipe 17 = .ok (.ireturn, 1) := by decide +kernel
set_option maxRecDepth 20000 in
theorem ggX11_fault_X3_faultPlace : GoodIn wsX11_fault wsX3_faultPlace := goodIn_r _ [6, 7, 8, 9, 10, 5, 11, 12, 13, 14, 15, 16, 17, 18, 19, 20, 21, 22, 36, 37] (by decide +kernel) (by decide +kernel)
set_option maxRecDepth 20000 in
theorem gX11_fault_X3_faultPlace : GoodIn wsX11_fault (wsV RX11 140 RX3 yX3_faultPlace wsX3_faultPlace) := goodIn_app (goodIn_of _ (by decide +kernel)) ggX11_fault_X3_faultPlace
theorem dX11_fault_0 : decode cX11_fault 0 = .ok (.aload_n 0, 1) := by decide +kernel
theorem dX11_fault_1 : decode cX11_fault 1 = .ok (.getfield 22, 3) := by decide +kernel
theorem dX11_fault_4 : decode cX11_fault 4 = .ok (.invokevirtual 140, 3) := by decide +kernel
theorem dX11_fault_7 : decode cX11_fault 7 = .ok (.ireturn, 1) := by decide +kernel
set_option maxRecDepth 20000 in
theorem ggX11_judge_X5_within : GoodIn wsX11_judge wsX5_within := goodIn_r _ [10] (by decide +kernel) (by decide +kernel)
set_option maxRecDepth 20000 in
theorem gX11_judge_X5_within : GoodIn wsX11_judge (va_wsS RX11 92 yX5_within wsX5_within) := goodIn_app (goodIn_of _ (by decide +kernel)) ggX11_judge_X5_within
set_option maxRecDepth 20000 in
theorem ggX11_judge_X9_run : GoodIn wsX11_judge wsX9_run := goodIn_r _ [15, 16, 17, 18, 19, 20, 21, 22, 23, 24, 25, 26, 27, 28, 29, 30, 31, 32, 33, 34, 9, 35, 36, 37, 38, 39, 8, 10, 40, 41, 42, 14, 43, 44, 45, 46, 47, 48, 49, 50, 51, 52, 53, 54, 55, 56, 57, 58, 59, 60, 61, 62, 63, 64, 65, 66, 67, 68, 69, 70, 71, 72, 73, 74, 75, 76, 77, 78, 79, 80, 81, 82, 83, 84, 85, 86, 87, 88, 89, 90, 91, 92, 93, 94, 95, 96, 97, 98, 99, 100, 101, 102, 103, 104, 105, 106, 107, 108, 109, 110, 111, 112, 113, 114, 115, 116, 117, 118, 119, 120, 121, 122, 123, 124, 125, 126, 127, 128, 129, 130, 131, 132, 133, 134, 135, 136, 137, 138, 139, 140, 141, 142, 143, 144, 145, 167, 168, 159, 160, 161, 162, 163, 164, 165, 166, 169, 170, 171, 172, 173, 174, 175, 176, 177, 178, 179, 180] (by decide +kernel) (by decide +kernel)
set_option maxRecDepth 20000 in
theorem gX11_judge_X9_run : GoodIn wsX11_judge (wsV RX11 143 RX9 yX9_run wsX9_run) := goodIn_app (goodIn_of _ (by decide +kernel)) ggX11_judge_X9_run
theorem dX11_judge_0 : decode cX11_judge 0 = .ok (.iload_n 1, 1) := by decide +kernel
theorem dX11_judge_1 : decode cX11_judge 1 = .ok (.iconst 0, 1) := by decide +kernel
theorem dX11_judge_2 : decode cX11_judge 2 = .ok (.iconst 2, 1) := by decide +kernel
theorem dX11_judge_3 : decode cX11_judge 3 = .ok (.invokestatic 92, 3) := by decide +kernel
theorem dX11_judge_6 : decode cX11_judge 6 = .ok (.ifCond .ne 6, 3) := by decide +kernel
theorem dX11_judge_9 : decode cX11_judge 9 = .ok (.bipush (-2), 2) := by decide +kernel
theorem dX11_judge_11 : decode cX11_judge 11 = .ok (.ireturn, 1) := by decide +kernel
theorem dX11_judge_12 : decode cX11_judge 12 = .ok (.aload_n 0, 1) := by decide +kernel
theorem dX11_judge_13 : decode cX11_judge 13 = .ok (.getfield 29, 3) := by decide +kernel
theorem dX11_judge_16 : decode cX11_judge 16 = .ok (.aload_n 0, 1) := by decide +kernel
theorem dX11_judge_17 : decode cX11_judge 17 = .ok (.getfield 10, 3) := by decide +kernel
theorem dX11_judge_20 : decode cX11_judge 20 = .ok (.aload_n 0, 1) := by decide +kernel
theorem dX11_judge_21 : decode cX11_judge 21 = .ok (.getfield 22, 3) := by decide +kernel
theorem dX11_judge_24 : decode cX11_judge 24 = .ok (.invokevirtual 143, 3) := by decide +kernel
theorem dX11_judge_27 : decode cX11_judge 27 = .ok (.istore_n 2, 1) := by decide +kernel
theorem dX11_judge_28 : decode cX11_judge 28 = .ok (.iload_n 2, 1) := by decide +kernel
theorem dX11_judge_29 : decode cX11_judge 29 = .ok (.bipush (-5), 2) := by decide +kernel
theorem dX11_judge_31 : decode cX11_judge 31 = .ok (.if_icmp .ne 6, 3) := by decide +kernel
theorem dX11_judge_34 : decode cX11_judge 34 = .ok (.bipush (-5), 2) := by decide +kernel
theorem dX11_judge_36 : decode cX11_judge 36 = .ok (.ireturn, 1) := by decide +kernel
theorem dX11_judge_37 : decode cX11_judge 37 = .ok (.iload_n 1, 1) := by decide +kernel
theorem dX11_judge_38 : decode cX11_judge 38 = .ok (.ifCond .ne 11, 3) := by decide +kernel
theorem dX11_judge_41 : decode cX11_judge 41 = .ok (.aload_n 0, 1) := by decide +kernel
theorem dX11_judge_42 : decode cX11_judge 42 = .ok (.getfield 29, 3) := by decide +kernel
theorem dX11_judge_45 : decode cX11_judge 45 = .ok (.getfield 147, 3) := by decide +kernel
theorem dX11_judge_48 : decode cX11_judge 48 = .ok (.ireturn, 1) := by decide +kernel
theorem dX11_judge_49 : decode cX11_judge 49 = .ok (.iload_n 1, 1) := by decide +kernel
theorem dX11_judge_50 : decode cX11_judge 50 = .ok (.iconst 1, 1) := by decide +kernel
theorem dX11_judge_51 : decode cX11_judge 51 = .ok (.if_icmp .ne 11, 3) := by decide +kernel
theorem dX11_judge_54 : decode cX11_judge 54 = .ok (.aload_n 0, 1) := by decide +kernel
theorem dX11_judge_55 : decode cX11_judge 55 = .ok (.getfield 29, 3) := by decide +kernel
theorem dX11_judge_58 : decode cX11_judge 58 = .ok (.getfield 150, 3) := by decide +kernel
theorem dX11_judge_61 : decode cX11_judge 61 = .ok (.ireturn, 1) := by decide +kernel
theorem dX11_judge_62 : decode cX11_judge 62 = .ok (.iload_n 2, 1) := by decide +kernel
theorem dX11_judge_63 : decode cX11_judge 63 = .ok (.bipush (-3), 2) := by decide +kernel
theorem dX11_judge_65 : decode cX11_judge 65 = .ok (.if_icmp .ne 8, 3) := by decide +kernel
theorem dX11_judge_68 : decode cX11_judge 68 = .ok (.bipush (-3), 2) := by decide +kernel
theorem dX11_judge_70 : decode cX11_judge 70 = .ok (.goto 10, 3) := by decide +kernel
theorem dX11_judge_73 : decode cX11_judge 73 = .ok (.aload_n 0, 1) := by decide +kernel
theorem dX11_judge_74 : decode cX11_judge 74 = .ok (.getfield 29, 3) := by decide +kernel
theorem dX11_judge_77 : decode cX11_judge 77 = .ok (.getfield 153, 3) := by decide +kernel
theorem dX11_judge_80 : decode cX11_judge 80 = .ok (.ireturn, 1) := by decide +kernel
set_option maxRecDepth 20000 in
theorem ggX11_behind_X11_isThing : GoodIn wsX11_behind wsX11_isThing := goodIn_r _ [10, 11, 12, 13, 14] (by decide +kernel) (by decide +kernel)
set_option maxRecDepth 20000 in
theorem gX11_behind_X11_isThing : GoodIn wsX11_behind (va_wsS RX11 85 yX11_isThing wsX11_isThing) := goodIn_app (goodIn_of _ (by decide +kernel)) ggX11_behind_X11_isThing
set_option maxRecDepth 20000 in
theorem ggX11_behind_X5_within : GoodIn wsX11_behind wsX5_within := goodIn_r _ [14] (by decide +kernel) (by decide +kernel)
set_option maxRecDepth 20000 in
theorem gX11_behind_X5_within : GoodIn wsX11_behind (va_wsS RX11 92 yX5_within wsX5_within) := goodIn_app (goodIn_of _ (by decide +kernel)) ggX11_behind_X5_within
set_option maxRecDepth 20000 in
theorem ggX11_behind_X9_run : GoodIn wsX11_behind wsX9_run := goodIn_r _ [19, 20, 21, 22, 23, 24, 25, 26, 27, 28, 29, 30, 31, 32, 33, 34, 35, 36, 37, 38, 13, 39, 40, 41, 42, 43, 12, 14, 44, 45, 46, 18, 47, 48, 49, 50, 51, 52, 53, 54, 55, 56, 57, 58, 59, 60, 61, 62, 63, 64, 65, 66, 67, 68, 69, 70, 71, 72, 73, 74, 75, 76, 77, 78, 79, 80, 81, 82, 83, 84, 85, 86, 87, 88, 89, 90, 91, 92, 93, 94, 95, 96, 97, 98, 99, 100, 101, 102, 103, 104, 105, 106, 107, 108, 109, 110, 111, 112, 113, 114, 115, 116, 117, 118, 119, 120, 121, 122, 123, 124, 125, 126, 127, 128, 129, 130, 131, 132, 133, 134, 135, 136, 137, 138, 139, 140, 141, 142, 143, 144, 145, 146, 147, 148, 149, 183, 184, 166, 167, 168, 169, 170, 171, 172, 173, 174, 175, 176, 177, 178, 179, 180, 181, 182, 185, 186, 187] (by decide +kernel) (by decide +kernel)
set_option maxRecDepth 20000 in
theorem gX11_behind_X9_run : GoodIn wsX11_behind (wsV RX11 143 RX9 yX9_run wsX9_run) := goodIn_app (goodIn_of _ (by decide +kernel)) ggX11_behind_X9_run
set_option maxRecDepth 20000 in
theorem ggX11_behind_X5_at : GoodIn wsX11_behind wsX5_at := goodIn_r _ [39] (by decide +kernel) (by decide +kernel)
set_option maxRecDepth 20000 in
theorem gX11_behind_X5_at : GoodIn wsX11_behind (va_wsS RX11 102 yX5_at wsX5_at) := goodIn_app (goodIn_of _ (by decide +kernel)) ggX11_behind_X5_at
set_option maxRecDepth 20000 in
theorem ggX11_behind_X10_isFitForSale : GoodIn wsX11_behind wsX10_isFitForSale := goodIn_r _ [129, 61, 95, 38, 13, 39, 174, 175, 176, 177, 178, 179, 180, 181, 182] (by decide +kernel) (by decide +kernel)
set_option maxRecDepth 20000 in
theorem gX11_behind_X10_isFitForSale : GoodIn wsX11_behind (wsV RX11 159 RX10 yX10_isFitForSale wsX10_isFitForSale) := goodIn_app (goodIn_of _ (by decide +kernel)) ggX11_behind_X10_isFitForSale
set_option maxRecDepth 20000 in
theorem ggX11_behind_X10_priceOf : GoodIn wsX11_behind wsX10_priceOf := goodIn_r _ [94, 61, 62, 95, 38, 13, 39, 174, 175, 176, 177, 178, 179, 180, 181, 182] (by decide +kernel) (by decide +kernel)
set_option maxRecDepth 20000 in
theorem gX11_behind_X10_priceOf : GoodIn wsX11_behind (wsV RX11 162 RX10 yX10_priceOf wsX10_priceOf) := goodIn_app (goodIn_of _ (by decide +kernel)) ggX11_behind_X10_priceOf
theorem dX11_behind_0 : decode cX11_behind 0 = .ok (.iload_n 1, 1) := by decide +kernel
theorem dX11_behind_1 : decode cX11_behind 1 = .ok (.invokestatic 85, 3) := by decide +kernel
theorem dX11_behind_4 : decode cX11_behind 4 = .ok (.ifCond .ne 5, 3) := by decide +kernel
theorem dX11_behind_7 : decode cX11_behind 7 = .ok (.iconst (-1), 1) := by decide +kernel
theorem dX11_behind_8 : decode cX11_behind 8 = .ok (.ireturn, 1) := by decide +kernel
theorem dX11_behind_9 : decode cX11_behind 9 = .ok (.iload_n 2, 1) := by decide +kernel
theorem dX11_behind_10 : decode cX11_behind 10 = .ok (.iconst 0, 1) := by decide +kernel
theorem dX11_behind_11 : decode cX11_behind 11 = .ok (.iconst 2, 1) := by decide +kernel
theorem dX11_behind_12 : decode cX11_behind 12 = .ok (.invokestatic 92, 3) := by decide +kernel
theorem dX11_behind_15 : decode cX11_behind 15 = .ok (.ifCond .ne 6, 3) := by decide +kernel
theorem dX11_behind_18 : decode cX11_behind 18 = .ok (.bipush (-2), 2) := by decide +kernel
theorem dX11_behind_20 : decode cX11_behind 20 = .ok (.ireturn, 1) := by decide +kernel
theorem dX11_behind_21 : decode cX11_behind 21 = .ok (.aload_n 0, 1) := by decide +kernel
theorem dX11_behind_22 : decode cX11_behind 22 = .ok (.getfield 29, 3) := by decide +kernel
theorem dX11_behind_25 : decode cX11_behind 25 = .ok (.aload_n 0, 1) := by decide +kernel
theorem dX11_behind_26 : decode cX11_behind 26 = .ok (.getfield 10, 3) := by decide +kernel
theorem dX11_behind_29 : decode cX11_behind 29 = .ok (.aload_n 0, 1) := by decide +kernel
theorem dX11_behind_30 : decode cX11_behind 30 = .ok (.getfield 22, 3) := by decide +kernel
theorem dX11_behind_33 : decode cX11_behind 33 = .ok (.invokevirtual 143, 3) := by decide +kernel
theorem dX11_behind_36 : decode cX11_behind 36 = .ok (.istore_n 3, 1) := by decide +kernel
theorem dX11_behind_37 : decode cX11_behind 37 = .ok (.iload_n 3, 1) := by decide +kernel
theorem dX11_behind_38 : decode cX11_behind 38 = .ok (.ifCond .eq 5, 3) := by decide +kernel
theorem dX11_behind_41 : decode cX11_behind 41 = .ok (.iload_n 3, 1) := by decide +kernel
theorem dX11_behind_42 : decode cX11_behind 42 = .ok (.ireturn, 1) := by decide +kernel
theorem dX11_behind_43 : decode cX11_behind 43 = .ok (.iload_n 2, 1) := by decide +kernel
theorem dX11_behind_44 : decode cX11_behind 44 = .ok (.ifCond .ne 18, 3) := by decide +kernel
theorem dX11_behind_47 : decode cX11_behind 47 = .ok (.aload_n 0, 1) := by decide +kernel
theorem dX11_behind_48 : decode cX11_behind 48 = .ok (.getfield 29, 3) := by decide +kernel
theorem dX11_behind_51 : decode cX11_behind 51 = .ok (.getfield 156, 3) := by decide +kernel
theorem dX11_behind_54 : decode cX11_behind 54 = .ok (.getfield 98, 3) := by decide +kernel
theorem dX11_behind_57 : decode cX11_behind 57 = .ok (.iload_n 1, 1) := by decide +kernel
theorem dX11_behind_58 : decode cX11_behind 58 = .ok (.invokestatic 102, 3) := by decide +kernel
theorem dX11_behind_61 : decode cX11_behind 61 = .ok (.ireturn, 1) := by decide +kernel
theorem dX11_behind_62 : decode cX11_behind 62 = .ok (.iload_n 2, 1) := by decide +kernel
theorem dX11_behind_63 : decode cX11_behind 63 = .ok (.iconst 1, 1) := by decide +kernel
theorem dX11_behind_64 : decode cX11_behind 64 = .ok (.if_icmp .ne 18, 3) := by decide +kernel
theorem dX11_behind_67 : decode cX11_behind 67 = .ok (.aload_n 0, 1) := by decide +kernel
theorem dX11_behind_68 : decode cX11_behind 68 = .ok (.getfield 29, 3) := by decide +kernel
theorem dX11_behind_71 : decode cX11_behind 71 = .ok (.getfield 156, 3) := by decide +kernel
theorem dX11_behind_74 : decode cX11_behind 74 = .ok (.getfield 110, 3) := by decide +kernel
theorem dX11_behind_77 : decode cX11_behind 77 = .ok (.iload_n 1, 1) := by decide +kernel
theorem dX11_behind_78 : decode cX11_behind 78 = .ok (.invokestatic 102, 3) := by decide +kernel
theorem dX11_behind_81 : decode cX11_behind 81 = .ok (.ireturn, 1) := by decide +kernel
theorem dX11_behind_82 : decode cX11_behind 82 = .ok (.aload_n 0, 1) := by decide +kernel
theorem dX11_behind_83 : decode cX11_behind 83 = .ok (.getfield 29, 3) := by decide +kernel
theorem dX11_behind_86 : decode cX11_behind 86 = .ok (.getfield 156, 3) := by decide +kernel
theorem dX11_behind_89 : decode cX11_behind 89 = .ok (.iload_n 1, 1) := by decide +kernel
theorem dX11_behind_90 : decode cX11_behind 90 = .ok (.invokevirtual 159, 3) := by decide +kernel
theorem dX11_behind_93 : decode cX11_behind 93 = .ok (.ifCond .eq 17, 3) := by decide +kernel
theorem dX11_behind_96 : decode cX11_behind 96 = .ok (.aload_n 0, 1) := by decide +kernel
theorem dX11_behind_97 : decode cX11_behind 97 = .ok (.getfield 29, 3) := by decide +kernel
theorem dX11_behind_100 : decode cX11_behind 100 = .ok (.getfield 156, 3) := by decide +kernel
theorem dX11_behind_103 : decode cX11_behind 103 = .ok (.iload_n 1, 1) := by decide +kernel
theorem dX11_behind_104 : decode cX11_behind 104 = .ok (.invokevirtual 162, 3) := by decide +kernel
theorem dX11_behind_107 : decode cX11_behind 107 = .ok (.goto 4, 3) := by decide +kernel
theorem dX11_behind_110 : decode cX11_behind 110 = .ok (.iconst 0, 1) := by decide +kernel
theorem dX11_behind_111 : decode cX11_behind 111 = .ok (.ireturn, 1) := by decide +kernel
set_option maxRecDepth 20000 in
theorem ggX11_purse_X11_isOne : GoodIn wsX11_purse wsX11_isOne := goodIn_r _ [9, 10, 11, 12, 13] (by decide +kernel) (by decide +kernel)
set_option maxRecDepth 20000 in
theorem gX11_purse_X11_isOne : GoodIn wsX11_purse (va_wsS RX11 89 yX11_isOne wsX11_isOne) := goodIn_app (goodIn_of _ (by decide +kernel)) ggX11_purse_X11_isOne
set_option maxRecDepth 20000 in
theorem ggX11_purse_X5_within : GoodIn wsX11_purse wsX5_within := goodIn_r _ [13] (by decide +kernel) (by decide +kernel)
set_option maxRecDepth 20000 in
theorem gX11_purse_X5_within : GoodIn wsX11_purse (va_wsS RX11 92 yX5_within wsX5_within) := goodIn_app (goodIn_of _ (by decide +kernel)) ggX11_purse_X5_within
set_option maxRecDepth 20000 in
theorem ggX11_purse_X9_run : GoodIn wsX11_purse wsX9_run := goodIn_r _ [18, 19, 20, 21, 22, 23, 24, 25, 26, 27, 28, 29, 30, 31, 32, 33, 34, 35, 36, 37, 12, 38, 39, 40, 41, 42, 11, 13, 43, 44, 45, 17, 46, 47, 48, 49, 50, 51, 52, 53, 54, 55, 56, 57, 58, 59, 60, 61, 62, 63, 64, 65, 66, 67, 68, 69, 70, 71, 72, 73, 74, 75, 76, 77, 78, 79, 80, 81, 82, 83, 84, 85, 86, 87, 88, 89, 90, 91, 92, 93, 94, 95, 96, 97, 98, 99, 100, 101, 102, 103, 104, 105, 106, 107, 108, 109, 110, 111, 112, 113, 114, 115, 116, 117, 118, 119, 120, 121, 122, 123, 124, 125, 126, 127, 128, 129, 130, 131, 132, 133, 134, 135, 136, 137, 138, 139, 140, 141, 142, 143, 144, 145, 146, 147, 148, 185, 186, 168, 169, 170, 171, 172, 173, 174, 175, 176, 177, 178, 179, 180, 181, 182, 183, 184, 187, 188, 189] (by decide +kernel) (by decide +kernel)
set_option maxRecDepth 20000 in
theorem gX11_purse_X9_run : GoodIn wsX11_purse (wsV RX11 143 RX9 yX9_run wsX9_run) := goodIn_app (goodIn_of _ (by decide +kernel)) ggX11_purse_X9_run
set_option maxRecDepth 20000 in
theorem ggX11_purse_X5_at : GoodIn wsX11_purse wsX5_at := goodIn_r _ [38] (by decide +kernel) (by decide +kernel)
set_option maxRecDepth 20000 in
theorem gX11_purse_X5_at : GoodIn wsX11_purse (va_wsS RX11 102 yX5_at wsX5_at) := goodIn_app (goodIn_of _ (by decide +kernel)) ggX11_purse_X5_at
set_option maxRecDepth 20000 in
theorem ggX11_purse_X10_thingsOf : GoodIn wsX11_purse wsX10_thingsOf := goodIn_r _ [153, 59, 94, 37, 12, 38, 176, 177, 178, 179, 180, 181, 182, 183, 184] (by decide +kernel) (by decide +kernel)
set_option maxRecDepth 20000 in
theorem gX11_purse_X10_thingsOf : GoodIn wsX11_purse (wsV RX11 166 RX10 yX10_thingsOf wsX10_thingsOf) := goodIn_app (goodIn_of _ (by decide +kernel)) ggX11_purse_X10_thingsOf
set_option maxRecDepth 20000 in
theorem ggX11_purse_X10_isAjar : GoodIn wsX11_purse wsX10_isAjar := goodIn_r _ [109, 66, 176, 177, 178, 179, 180, 181, 182, 183, 184] (by decide +kernel) (by decide +kernel)
set_option maxRecDepth 20000 in
theorem gX11_purse_X10_isAjar : GoodIn wsX11_purse (wsV RX11 169 RX10 yX10_isAjar wsX10_isAjar) := goodIn_app (goodIn_of _ (by decide +kernel)) ggX11_purse_X10_isAjar
theorem dX11_purse_0 : decode cX11_purse 0 = .ok (.iload_n 1, 1) := by decide +kernel
theorem dX11_purse_1 : decode cX11_purse 1 = .ok (.invokestatic 89, 3) := by decide +kernel
theorem dX11_purse_4 : decode cX11_purse 4 = .ok (.ifCond .ne 5, 3) := by decide +kernel
theorem dX11_purse_7 : decode cX11_purse 7 = .ok (.iconst (-1), 1) := by decide +kernel
theorem dX11_purse_8 : decode cX11_purse 8 = .ok (.ireturn, 1) := by decide +kernel
theorem dX11_purse_9 : decode cX11_purse 9 = .ok (.iload_n 2, 1) := by decide +kernel
theorem dX11_purse_10 : decode cX11_purse 10 = .ok (.iconst 0, 1) := by decide +kernel
theorem dX11_purse_11 : decode cX11_purse 11 = .ok (.iconst 2, 1) := by decide +kernel
theorem dX11_purse_12 : decode cX11_purse 12 = .ok (.invokestatic 92, 3) := by decide +kernel
theorem dX11_purse_15 : decode cX11_purse 15 = .ok (.ifCond .ne 6, 3) := by decide +kernel
theorem dX11_purse_18 : decode cX11_purse 18 = .ok (.bipush (-2), 2) := by decide +kernel
theorem dX11_purse_20 : decode cX11_purse 20 = .ok (.ireturn, 1) := by decide +kernel
theorem dX11_purse_21 : decode cX11_purse 21 = .ok (.aload_n 0, 1) := by decide +kernel
theorem dX11_purse_22 : decode cX11_purse 22 = .ok (.getfield 29, 3) := by decide +kernel
theorem dX11_purse_25 : decode cX11_purse 25 = .ok (.aload_n 0, 1) := by decide +kernel
theorem dX11_purse_26 : decode cX11_purse 26 = .ok (.getfield 10, 3) := by decide +kernel
theorem dX11_purse_29 : decode cX11_purse 29 = .ok (.aload_n 0, 1) := by decide +kernel
theorem dX11_purse_30 : decode cX11_purse 30 = .ok (.getfield 22, 3) := by decide +kernel
theorem dX11_purse_33 : decode cX11_purse 33 = .ok (.invokevirtual 143, 3) := by decide +kernel
theorem dX11_purse_36 : decode cX11_purse 36 = .ok (.istore_n 3, 1) := by decide +kernel
theorem dX11_purse_37 : decode cX11_purse 37 = .ok (.iload_n 3, 1) := by decide +kernel
theorem dX11_purse_38 : decode cX11_purse 38 = .ok (.ifCond .eq 5, 3) := by decide +kernel
theorem dX11_purse_41 : decode cX11_purse 41 = .ok (.iload_n 3, 1) := by decide +kernel
theorem dX11_purse_42 : decode cX11_purse 42 = .ok (.ireturn, 1) := by decide +kernel
theorem dX11_purse_43 : decode cX11_purse 43 = .ok (.iload_n 2, 1) := by decide +kernel
theorem dX11_purse_44 : decode cX11_purse 44 = .ok (.ifCond .ne 18, 3) := by decide +kernel
theorem dX11_purse_47 : decode cX11_purse 47 = .ok (.aload_n 0, 1) := by decide +kernel
theorem dX11_purse_48 : decode cX11_purse 48 = .ok (.getfield 29, 3) := by decide +kernel
theorem dX11_purse_51 : decode cX11_purse 51 = .ok (.getfield 156, 3) := by decide +kernel
theorem dX11_purse_54 : decode cX11_purse 54 = .ok (.getfield 119, 3) := by decide +kernel
theorem dX11_purse_57 : decode cX11_purse 57 = .ok (.iload_n 1, 1) := by decide +kernel
theorem dX11_purse_58 : decode cX11_purse 58 = .ok (.invokestatic 102, 3) := by decide +kernel
theorem dX11_purse_61 : decode cX11_purse 61 = .ok (.ireturn, 1) := by decide +kernel
theorem dX11_purse_62 : decode cX11_purse 62 = .ok (.iload_n 2, 1) := by decide +kernel
theorem dX11_purse_63 : decode cX11_purse 63 = .ok (.iconst 1, 1) := by decide +kernel
theorem dX11_purse_64 : decode cX11_purse 64 = .ok (.if_icmp .ne 15, 3) := by decide +kernel
theorem dX11_purse_67 : decode cX11_purse 67 = .ok (.aload_n 0, 1) := by decide +kernel
theorem dX11_purse_68 : decode cX11_purse 68 = .ok (.getfield 29, 3) := by decide +kernel
theorem dX11_purse_71 : decode cX11_purse 71 = .ok (.getfield 156, 3) := by decide +kernel
theorem dX11_purse_74 : decode cX11_purse 74 = .ok (.iload_n 1, 1) := by decide +kernel
theorem dX11_purse_75 : decode cX11_purse 75 = .ok (.invokevirtual 166, 3) := by decide +kernel
theorem dX11_purse_78 : decode cX11_purse 78 = .ok (.ireturn, 1) := by decide +kernel
theorem dX11_purse_79 : decode cX11_purse 79 = .ok (.aload_n 0, 1) := by decide +kernel
theorem dX11_purse_80 : decode cX11_purse 80 = .ok (.getfield 29, 3) := by decide +kernel
theorem dX11_purse_83 : decode cX11_purse 83 = .ok (.getfield 156, 3) := by decide +kernel
theorem dX11_purse_86 : decode cX11_purse 86 = .ok (.iload_n 1, 1) := by decide +kernel
theorem dX11_purse_87 : decode cX11_purse 87 = .ok (.invokevirtual 169, 3) := by decide +kernel
theorem dX11_purse_90 : decode cX11_purse 90 = .ok (.ifCond .eq 7, 3) := by decide +kernel
theorem dX11_purse_93 : decode cX11_purse 93 = .ok (.iconst 1, 1) := by decide +kernel
theorem dX11_purse_94 : decode cX11_purse 94 = .ok (.goto 4, 3) := by decide +kernel
theorem dX11_purse_97 : decode cX11_purse 97 = .ok (.iconst 0, 1) := by decide +kernel
theorem dX11_purse_98 : decode cX11_purse 98 = .ok (.ireturn, 1) := by decide +kernel
set_option maxRecDepth 20000 in
theorem ggX11_sold_X5_within : GoodIn wsX11_sold wsX5_within := goodIn_r _ [10] (by decide +kernel) (by decide +kernel)
set_option maxRecDepth 20000 in
theorem gX11_sold_X5_within : GoodIn wsX11_sold (va_wsS RX11 92 yX5_within wsX5_within) := goodIn_app (goodIn_of _ (by decide +kernel)) ggX11_sold_X5_within
set_option maxRecDepth 20000 in
theorem ggX11_sold_X9_run : GoodIn wsX11_sold wsX9_run := goodIn_r _ [15, 16, 17, 18, 19, 20, 21, 22, 23, 24, 25, 26, 27, 28, 29, 30, 31, 32, 33, 34, 9, 35, 36, 37, 38, 39, 8, 10, 40, 41, 42, 14, 43, 44, 45, 46, 47, 48, 49, 50, 51, 52, 53, 54, 55, 56, 57, 58, 59, 60, 61, 62, 63, 64, 65, 66, 67, 68, 69, 70, 71, 72, 73, 74, 75, 76, 77, 78, 79, 80, 81, 82, 83, 84, 85, 86, 87, 88, 89, 90, 91, 92, 93, 94, 95, 96, 97, 98, 99, 100, 101, 102, 103, 104, 105, 106, 107, 108, 109, 110, 111, 112, 113, 114, 115, 116, 117, 118, 119, 120, 121, 122, 123, 124, 125, 126, 127, 128, 129, 130, 131, 132, 133, 134, 135, 136, 137, 138, 139, 140, 141, 142, 143, 144, 145, 167, 168, 159, 160, 161, 162, 163, 164, 165, 166, 169, 170, 171, 172, 173, 174, 175, 176, 177, 178, 179, 180] (by decide +kernel) (by decide +kernel)
set_option maxRecDepth 20000 in
theorem gX11_sold_X9_run : GoodIn wsX11_sold (wsV RX11 143 RX9 yX9_run wsX9_run) := goodIn_app (goodIn_of _ (by decide +kernel)) ggX11_sold_X9_run
theorem dX11_sold_0 : decode cX11_sold 0 = .ok (.iload_n 1, 1) := by decide +kernel
theorem dX11_sold_1 : decode cX11_sold 1 = .ok (.iconst 0, 1) := by decide +kernel
theorem dX11_sold_2 : decode cX11_sold 2 = .ok (.iconst 2, 1) := by decide +kernel
theorem dX11_sold_3 : decode cX11_sold 3 = .ok (.invokestatic 92, 3) := by decide +kernel
theorem dX11_sold_6 : decode cX11_sold 6 = .ok (.ifCond .ne 6, 3) := by decide +kernel
theorem dX11_sold_9 : decode cX11_sold 9 = .ok (.bipush (-2), 2) := by decide +kernel
theorem dX11_sold_11 : decode cX11_sold 11 = .ok (.ireturn, 1) := by decide +kernel
theorem dX11_sold_12 : decode cX11_sold 12 = .ok (.aload_n 0, 1) := by decide +kernel
theorem dX11_sold_13 : decode cX11_sold 13 = .ok (.getfield 29, 3) := by decide +kernel
theorem dX11_sold_16 : decode cX11_sold 16 = .ok (.aload_n 0, 1) := by decide +kernel
theorem dX11_sold_17 : decode cX11_sold 17 = .ok (.getfield 10, 3) := by decide +kernel
theorem dX11_sold_20 : decode cX11_sold 20 = .ok (.aload_n 0, 1) := by decide +kernel
theorem dX11_sold_21 : decode cX11_sold 21 = .ok (.getfield 22, 3) := by decide +kernel
theorem dX11_sold_24 : decode cX11_sold 24 = .ok (.invokevirtual 143, 3) := by decide +kernel
theorem dX11_sold_27 : decode cX11_sold 27 = .ok (.istore_n 2, 1) := by decide +kernel
theorem dX11_sold_28 : decode cX11_sold 28 = .ok (.iload_n 2, 1) := by decide +kernel
theorem dX11_sold_29 : decode cX11_sold 29 = .ok (.ifCond .eq 5, 3) := by decide +kernel
theorem dX11_sold_32 : decode cX11_sold 32 = .ok (.iload_n 2, 1) := by decide +kernel
theorem dX11_sold_33 : decode cX11_sold 33 = .ok (.ireturn, 1) := by decide +kernel
theorem dX11_sold_34 : decode cX11_sold 34 = .ok (.iload_n 1, 1) := by decide +kernel
theorem dX11_sold_35 : decode cX11_sold 35 = .ok (.ifCond .ne 11, 3) := by decide +kernel
theorem dX11_sold_38 : decode cX11_sold 38 = .ok (.aload_n 0, 1) := by decide +kernel
theorem dX11_sold_39 : decode cX11_sold 39 = .ok (.getfield 29, 3) := by decide +kernel
theorem dX11_sold_42 : decode cX11_sold 42 = .ok (.getfield 172, 3) := by decide +kernel
theorem dX11_sold_45 : decode cX11_sold 45 = .ok (.ireturn, 1) := by decide +kernel
theorem dX11_sold_46 : decode cX11_sold 46 = .ok (.iload_n 1, 1) := by decide +kernel
theorem dX11_sold_47 : decode cX11_sold 47 = .ok (.iconst 1, 1) := by decide +kernel
theorem dX11_sold_48 : decode cX11_sold 48 = .ok (.if_icmp .ne 13, 3) := by decide +kernel
theorem dX11_sold_51 : decode cX11_sold 51 = .ok (.aload_n 0, 1) := by decide +kernel
theorem dX11_sold_52 : decode cX11_sold 52 = .ok (.getfield 29, 3) := by decide +kernel
theorem dX11_sold_55 : decode cX11_sold 55 = .ok (.getfield 175, 3) := by decide +kernel
theorem dX11_sold_58 : decode cX11_sold 58 = .ok (.goto 10, 3) := by decide +kernel
theorem dX11_sold_61 : decode cX11_sold 61 = .ok (.aload_n 0, 1) := by decide +kernel
theorem dX11_sold_62 : decode cX11_sold 62 = .ok (.getfield 29, 3) := by decide +kernel
theorem dX11_sold_65 : decode cX11_sold 65 = .ok (.getfield 178, 3) := by decide +kernel
theorem dX11_sold_68 : decode cX11_sold 68 = .ok (.ireturn, 1) := by decide +kernel
set_option maxRecDepth 20000 in
theorem ggX11_done_X9_run : GoodIn wsX11_done wsX9_run := goodIn_r _ [11, 12, 13, 14, 15, 16, 17, 18, 19, 20, 21, 22, 23, 24, 25, 26, 27, 28, 29, 30, 31, 32, 33, 34, 35, 36, 37, 38, 39, 40, 41, 10, 42, 43, 44, 45, 46, 47, 48, 49, 50, 51, 52, 53, 54, 55, 56, 57, 58, 59, 60, 61, 62, 63, 64, 65, 66, 67, 68, 69, 70, 71, 72, 73, 74, 75, 76, 77, 78, 79, 80, 81, 82, 83, 84, 85, 86, 87, 88, 89, 90, 91, 92, 93, 94, 95, 96, 97, 98, 99, 100, 101, 102, 103, 104, 105, 106, 107, 108, 109, 110, 111, 112, 113, 114, 115, 116, 117, 118, 119, 120, 121, 122, 123, 124, 125, 126, 127, 128, 129, 130, 131, 132, 133, 134, 135, 136, 137, 138, 139, 140, 141, 142, 143, 144, 167, 168, 159, 160, 161, 162, 163, 164, 165, 166, 169, 170, 171, 172, 173, 174, 175, 176, 177, 178, 179, 180] (by decide +kernel) (by decide +kernel)
set_option maxRecDepth 20000 in
theorem gX11_done_X9_run : GoodIn wsX11_done (wsV RX11 143 RX9 yX9_run wsX9_run) := goodIn_app (goodIn_of _ (by decide +kernel)) ggX11_done_X9_run
set_option maxRecDepth 20000 in
theorem ggX11_done_X10_copy : GoodIn wsX11_done wsX10_copy := goodIn_r _ [54, 55, 56, 57, 58, 59, 60, 61, 62, 63, 64, 65, 31, 66, 67, 30, 32, 68, 69, 70, 71, 72, 73, 74, 75, 76, 169, 170, 171, 172, 173, 174, 175, 176, 177, 178, 179, 180] (by decide +kernel) (by decide +kernel)
set_option maxRecDepth 20000 in
theorem gX11_done_X10_copy : GoodIn wsX11_done (wsV RX11 181 RX10 yX10_copy wsX10_copy) := goodIn_app (goodIn_of _ (by decide +kernel)) ggX11_done_X10_copy
theorem dX11_done_0 : decode cX11_done 0 = .ok (.aload_n 0, 1) := by decide +kernel
theorem dX11_done_1 : decode cX11_done 1 = .ok (.getfield 29, 3) := by decide +kernel
theorem dX11_done_4 : decode cX11_done 4 = .ok (.aload_n 0, 1) := by decide +kernel
theorem dX11_done_5 : decode cX11_done 5 = .ok (.getfield 10, 3) := by decide +kernel
theorem dX11_done_8 : decode cX11_done 8 = .ok (.aload_n 0, 1) := by decide +kernel
theorem dX11_done_9 : decode cX11_done 9 = .ok (.getfield 22, 3) := by decide +kernel
theorem dX11_done_12 : decode cX11_done 12 = .ok (.invokevirtual 143, 3) := by decide +kernel
theorem dX11_done_15 : decode cX11_done 15 = .ok (.istore_n 1, 1) := by decide +kernel
theorem dX11_done_16 : decode cX11_done 16 = .ok (.iload_n 1, 1) := by decide +kernel
theorem dX11_done_17 : decode cX11_done 17 = .ok (.ifCond .eq 5, 3) := by decide +kernel
theorem dX11_done_20 : decode cX11_done 20 = .ok (.iload_n 1, 1) := by decide +kernel
theorem dX11_done_21 : decode cX11_done 21 = .ok (.ireturn, 1) := by decide +kernel
theorem dX11_done_22 : decode cX11_done 22 = .ok (.aload_n 0, 1) := by decide +kernel
theorem dX11_done_23 : decode cX11_done 23 = .ok (.getfield 10, 3) := by decide +kernel
theorem dX11_done_26 : decode cX11_done 26 = .ok (.aload_n 0, 1) := by decide +kernel
theorem dX11_done_27 : decode cX11_done 27 = .ok (.getfield 29, 3) := by decide +kernel
theorem dX11_done_30 : decode cX11_done 30 = .ok (.getfield 156, 3) := by decide +kernel
theorem dX11_done_33 : decode cX11_done 33 = .ok (.invokevirtual 181, 3) := by decide +kernel
theorem dX11_done_36 : decode cX11_done 36 = .ok (.aload_n 0, 1) := by decide +kernel
theorem dX11_done_37 : decode cX11_done 37 = .ok (.getfield 22, 3) := by decide +kernel
theorem dX11_done_40 : decode cX11_done 40 = .ok (.iconst 0, 1) := by decide +kernel
theorem dX11_done_41 : decode cX11_done 41 = .ok (.putfield 133, 3) := by decide +kernel
theorem dX11_done_44 : decode cX11_done 44 = .ok (.aload_n 0, 1) := by decide +kernel
theorem dX11_done_45 : decode cX11_done 45 = .ok (.getfield 29, 3) := by decide +kernel
theorem dX11_done_48 : decode cX11_done 48 = .ok (.getfield 185, 3) := by decide +kernel
theorem dX11_done_51 : decode cX11_done 51 = .ok (.ireturn, 1) := by decide +kernel
set_option maxRecDepth 20000 in
theorem ggX11_sack_X11_isOne : GoodIn wsX11_sack wsX11_isOne := goodIn_r _ [8, 9, 10, 11, 12] (by decide +kernel) (by decide +kernel)
set_option maxRecDepth 20000 in
theorem gX11_sack_X11_isOne : GoodIn wsX11_sack (va_wsS RX11 89 yX11_isOne wsX11_isOne) := goodIn_app (goodIn_of _ (by decide +kernel)) ggX11_sack_X11_isOne
set_option maxRecDepth 20000 in
theorem ggX11_sack_X5_within : GoodIn wsX11_sack wsX5_within := goodIn_r _ [12] (by decide +kernel) (by decide +kernel)
set_option maxRecDepth 20000 in
theorem gX11_sack_X5_within : GoodIn wsX11_sack (va_wsS RX11 92 yX5_within wsX5_within) := goodIn_app (goodIn_of _ (by decide +kernel)) ggX11_sack_X5_within
set_option maxRecDepth 20000 in
theorem ggX11_sack_X6_fill : GoodIn wsX11_sack wsX6_fill := goodIn_r _ [17, 18, 19, 20, 21, 22, 23, 24, 11, 25, 26, 27, 28, 29, 30, 31, 16, 32, 33, 34, 35, 50, 51, 52, 53, 54, 55, 56, 57, 58, 59, 60] (by decide +kernel) (by decide +kernel)
set_option maxRecDepth 20000 in
theorem gX11_sack_X6_fill : GoodIn wsX11_sack (wsV RX11 188 RX6 yX6_fill wsX6_fill) := goodIn_app (goodIn_of _ (by decide +kernel)) ggX11_sack_X6_fill
set_option maxRecDepth 20000 in
theorem ggX11_sack_X5_at : GoodIn wsX11_sack wsX5_at := goodIn_r _ [28] (by decide +kernel) (by decide +kernel)
set_option maxRecDepth 20000 in
theorem gX11_sack_X5_at : GoodIn wsX11_sack (va_wsS RX11 102 yX5_at wsX5_at) := goodIn_app (goodIn_of _ (by decide +kernel)) ggX11_sack_X5_at
theorem dX11_sack_0 : decode cX11_sack 0 = .ok (.iload_n 1, 1) := by decide +kernel
theorem dX11_sack_1 : decode cX11_sack 1 = .ok (.invokestatic 89, 3) := by decide +kernel
theorem dX11_sack_4 : decode cX11_sack 4 = .ok (.ifCond .ne 5, 3) := by decide +kernel
theorem dX11_sack_7 : decode cX11_sack 7 = .ok (.iconst (-1), 1) := by decide +kernel
theorem dX11_sack_8 : decode cX11_sack 8 = .ok (.ireturn, 1) := by decide +kernel
theorem dX11_sack_9 : decode cX11_sack 9 = .ok (.iload_n 2, 1) := by decide +kernel
theorem dX11_sack_10 : decode cX11_sack 10 = .ok (.iconst 0, 1) := by decide +kernel
theorem dX11_sack_11 : decode cX11_sack 11 = .ok (.bipush 99, 2) := by decide +kernel
theorem dX11_sack_13 : decode cX11_sack 13 = .ok (.invokestatic 92, 3) := by decide +kernel
theorem dX11_sack_16 : decode cX11_sack 16 = .ok (.ifCond .eq 12, 3) := by decide +kernel
theorem dX11_sack_19 : decode cX11_sack 19 = .ok (.iload_n 3, 1) := by decide +kernel
theorem dX11_sack_20 : decode cX11_sack 20 = .ok (.iconst 0, 1) := by decide +kernel
theorem dX11_sack_21 : decode cX11_sack 21 = .ok (.iconst 1, 1) := by decide +kernel
theorem dX11_sack_22 : decode cX11_sack 22 = .ok (.invokestatic 92, 3) := by decide +kernel
theorem dX11_sack_25 : decode cX11_sack 25 = .ok (.ifCond .ne 6, 3) := by decide +kernel
theorem dX11_sack_28 : decode cX11_sack 28 = .ok (.bipush (-2), 2) := by decide +kernel
theorem dX11_sack_30 : decode cX11_sack 30 = .ok (.ireturn, 1) := by decide +kernel
theorem dX11_sack_31 : decode cX11_sack 31 = .ok (.aload_n 0, 1) := by decide +kernel
theorem dX11_sack_32 : decode cX11_sack 32 = .ok (.getfield 36, 3) := by decide +kernel
theorem dX11_sack_35 : decode cX11_sack 35 = .ok (.aload_n 0, 1) := by decide +kernel
theorem dX11_sack_36 : decode cX11_sack 36 = .ok (.getfield 10, 3) := by decide +kernel
theorem dX11_sack_39 : decode cX11_sack 39 = .ok (.iload_n 1, 1) := by decide +kernel
theorem dX11_sack_40 : decode cX11_sack 40 = .ok (.iload_n 2, 1) := by decide +kernel
theorem dX11_sack_41 : decode cX11_sack 41 = .ok (.invokevirtual 188, 3) := by decide +kernel
theorem dX11_sack_44 : decode cX11_sack 44 = .ok (.iload_n 3, 1) := by decide +kernel
theorem dX11_sack_45 : decode cX11_sack 45 = .ok (.ifCond .ne 17, 3) := by decide +kernel
theorem dX11_sack_48 : decode cX11_sack 48 = .ok (.aload_n 0, 1) := by decide +kernel
theorem dX11_sack_49 : decode cX11_sack 49 = .ok (.getfield 36, 3) := by decide +kernel
theorem dX11_sack_52 : decode cX11_sack 52 = .ok (.getfield 192, 3) := by decide +kernel
theorem dX11_sack_55 : decode cX11_sack 55 = .ok (.iload_n 2, 1) := by decide +kernel
theorem dX11_sack_56 : decode cX11_sack 56 = .ok (.invokestatic 102, 3) := by decide +kernel
theorem dX11_sack_59 : decode cX11_sack 59 = .ok (.goto 14, 3) := by decide +kernel
theorem dX11_sack_62 : decode cX11_sack 62 = .ok (.aload_n 0, 1) := by decide +kernel
theorem dX11_sack_63 : decode cX11_sack 63 = .ok (.getfield 36, 3) := by decide +kernel
theorem dX11_sack_66 : decode cX11_sack 66 = .ok (.getfield 193, 3) := by decide +kernel
theorem dX11_sack_69 : decode cX11_sack 69 = .ok (.iload_n 2, 1) := by decide +kernel
theorem dX11_sack_70 : decode cX11_sack 70 = .ok (.invokestatic 102, 3) := by decide +kernel
theorem dX11_sack_73 : decode cX11_sack 73 = .ok (.ireturn, 1) := by decide +kernel
set_option maxRecDepth 20000 in
theorem ggX11_careers_X5_within : GoodIn wsX11_careers wsX5_within := goodIn_r _ [4] (by decide +kernel) (by decide +kernel)
set_option maxRecDepth 20000 in
theorem gX11_careers_X5_within : GoodIn wsX11_careers (va_wsS RX11 92 yX5_within wsX5_within) := goodIn_app (goodIn_of _ (by decide +kernel)) ggX11_careers_X5_within
set_option maxRecDepth 20000 in
theorem ggX11_careers_X11_fewestNights : GoodIn wsX11_careers wsX11_fewestNights := goodIn_r _ [9, 10, 11, 12, 13, 14, 15, 16, 17, 3, 18, 19, 20, 21, 22, 23, 24, 25, 26, 27, 28, 29, 30, 31, 32, 33, 34, 35, 36, 37, 38, 39, 40] (by decide +kernel) (by decide +kernel)
set_option maxRecDepth 20000 in
theorem gX11_careers_X11_fewestNights : GoodIn wsX11_careers (wsV RX11 196 RX11 yX11_fewestNights wsX11_fewestNights) := goodIn_app (goodIn_of _ (by decide +kernel)) ggX11_careers_X11_fewestNights
theorem dX11_careers_0 : decode cX11_careers 0 = .ok (.iload_n 1, 1) := by decide +kernel
theorem dX11_careers_1 : decode cX11_careers 1 = .ok (.iconst 1, 1) := by decide +kernel
theorem dX11_careers_2 : decode cX11_careers 2 = .ok (.bipush 8, 2) := by decide +kernel
theorem dX11_careers_4 : decode cX11_careers 4 = .ok (.invokestatic 92, 3) := by decide +kernel
theorem dX11_careers_7 : decode cX11_careers 7 = .ok (.ifCond .eq 14, 3) := by decide +kernel
theorem dX11_careers_10 : decode cX11_careers 10 = .ok (.iload_n 2, 1) := by decide +kernel
theorem dX11_careers_11 : decode cX11_careers 11 = .ok (.iconst 0, 1) := by decide +kernel
theorem dX11_careers_12 : decode cX11_careers 12 = .ok (.sipush 4095, 3) := by decide +kernel
theorem dX11_careers_15 : decode cX11_careers 15 = .ok (.invokestatic 92, 3) := by decide +kernel
theorem dX11_careers_18 : decode cX11_careers 18 = .ok (.ifCond .ne 6, 3) := by decide +kernel
theorem dX11_careers_21 : decode cX11_careers 21 = .ok (.bipush (-2), 2) := by decide +kernel
theorem dX11_careers_23 : decode cX11_careers 23 = .ok (.ireturn, 1) := by decide +kernel
theorem dX11_careers_24 : decode cX11_careers 24 = .ok (.aload_n 0, 1) := by decide +kernel
theorem dX11_careers_25 : decode cX11_careers 25 = .ok (.iload_n 1, 1) := by decide +kernel
theorem dX11_careers_26 : decode cX11_careers 26 = .ok (.iload_n 2, 1) := by decide +kernel
theorem dX11_careers_27 : decode cX11_careers 27 = .ok (.invokevirtual 196, 3) := by decide +kernel
theorem dX11_careers_30 : decode cX11_careers 30 = .ok (.ireturn, 1) := by decide +kernel
set_option maxRecDepth 20000 in
theorem ggX11_ring_X11_isOne : GoodIn wsX11_ring wsX11_isOne := goodIn_r _ [8, 9, 10, 11, 12] (by decide +kernel) (by decide +kernel)
set_option maxRecDepth 20000 in
theorem gX11_ring_X11_isOne : GoodIn wsX11_ring (va_wsS RX11 89 yX11_isOne wsX11_isOne) := goodIn_app (goodIn_of _ (by decide +kernel)) ggX11_ring_X11_isOne
set_option maxRecDepth 20000 in
theorem ggX11_ring_X5_within : GoodIn wsX11_ring wsX5_within := goodIn_r _ [12] (by decide +kernel) (by decide +kernel)
set_option maxRecDepth 20000 in
theorem gX11_ring_X5_within : GoodIn wsX11_ring (va_wsS RX11 92 yX5_within wsX5_within) := goodIn_app (goodIn_of _ (by decide +kernel)) ggX11_ring_X5_within
set_option maxRecDepth 20000 in
theorem ggX11_ring_X4_read : GoodIn wsX11_ring wsX4_read := goodIn_r _ [17, 18, 19, 20, 11, 21, 22, 23, 24, 25, 26, 27, 28, 10, 12, 59, 60, 61, 62, 63, 64] (by decide +kernel) (by decide +kernel)
set_option maxRecDepth 20000 in
theorem gX11_ring_X4_read : GoodIn wsX11_ring (wsV RX11 201 RX4 yX4_read wsX4_read) := goodIn_app (goodIn_of _ (by decide +kernel)) ggX11_ring_X4_read
set_option maxRecDepth 20000 in
theorem ggX11_ring_X4_follow : GoodIn wsX11_ring wsX4_follow := goodIn_r _ [32, 33, 34, 35, 18, 36, 37, 38, 39, 11, 40, 25, 26, 27, 41, 23, 24, 59, 60, 61, 62, 63, 64] (by decide +kernel) (by decide +kernel)
set_option maxRecDepth 20000 in
theorem gX11_ring_X4_follow : GoodIn wsX11_ring (wsV RX11 204 RX4 yX4_follow wsX4_follow) := goodIn_app (goodIn_of _ (by decide +kernel)) ggX11_ring_X4_follow
set_option maxRecDepth 20000 in
theorem ggX11_ring_X4_holderBehind : GoodIn wsX11_ring wsX4_holderBehind := goodIn_r _ [45, 34, 37, 35, 36, 25, 26, 11, 27, 59, 60, 61, 62, 63, 64] (by decide +kernel) (by decide +kernel)
set_option maxRecDepth 20000 in
theorem gX11_ring_X4_holderBehind : GoodIn wsX11_ring (wsV RX11 207 RX4 yX4_holderBehind wsX4_holderBehind) := goodIn_app (goodIn_of _ (by decide +kernel)) ggX11_ring_X4_holderBehind
theorem dX11_ring_0 : decode cX11_ring 0 = .ok (.iload_n 2, 1) := by decide +kernel
theorem dX11_ring_1 : decode cX11_ring 1 = .ok (.invokestatic 89, 3) := by decide +kernel
theorem dX11_ring_4 : decode cX11_ring 4 = .ok (.ifCond .ne 5, 3) := by decide +kernel
theorem dX11_ring_7 : decode cX11_ring 7 = .ok (.iconst (-1), 1) := by decide +kernel
theorem dX11_ring_8 : decode cX11_ring 8 = .ok (.ireturn, 1) := by decide +kernel
theorem dX11_ring_9 : decode cX11_ring 9 = .ok (.iload_n 3, 1) := by decide +kernel
theorem dX11_ring_10 : decode cX11_ring 10 = .ok (.iconst 0, 1) := by decide +kernel
theorem dX11_ring_11 : decode cX11_ring 11 = .ok (.ldc 200, 2) := by decide +kernel
theorem dX11_ring_13 : decode cX11_ring 13 = .ok (.invokestatic 92, 3) := by decide +kernel
theorem dX11_ring_16 : decode cX11_ring 16 = .ok (.ifCond .eq 24, 3) := by decide +kernel
theorem dX11_ring_19 : decode cX11_ring 19 = .ok (.iload 4, 2) := by decide +kernel
theorem dX11_ring_21 : decode cX11_ring 21 = .ok (.iconst 0, 1) := by decide +kernel
theorem dX11_ring_22 : decode cX11_ring 22 = .ok (.iconst 2, 1) := by decide +kernel
theorem dX11_ring_23 : decode cX11_ring 23 = .ok (.invokestatic 92, 3) := by decide +kernel
theorem dX11_ring_26 : decode cX11_ring 26 = .ok (.ifCond .eq 14, 3) := by decide +kernel
theorem dX11_ring_29 : decode cX11_ring 29 = .ok (.aload_n 0, 1) := by decide +kernel
theorem dX11_ring_30 : decode cX11_ring 30 = .ok (.getfield 43, 3) := by decide +kernel
theorem dX11_ring_33 : decode cX11_ring 33 = .ok (.iload_n 1, 1) := by decide +kernel
theorem dX11_ring_34 : decode cX11_ring 34 = .ok (.invokevirtual 201, 3) := by decide +kernel
theorem dX11_ring_37 : decode cX11_ring 37 = .ok (.ifCond .ne 6, 3) := by decide +kernel
theorem dX11_ring_40 : decode cX11_ring 40 = .ok (.bipush (-2), 2) := by decide +kernel
theorem dX11_ring_42 : decode cX11_ring 42 = .ok (.ireturn, 1) := by decide +kernel
theorem dX11_ring_43 : decode cX11_ring 43 = .ok (.aload_n 0, 1) := by decide +kernel
theorem dX11_ring_44 : decode cX11_ring 44 = .ok (.getfield 43, 3) := by decide +kernel
theorem dX11_ring_47 : decode cX11_ring 47 = .ok (.iload_n 2, 1) := by decide +kernel
theorem dX11_ring_48 : decode cX11_ring 48 = .ok (.invokevirtual 204, 3) := by decide +kernel
theorem dX11_ring_51 : decode cX11_ring 51 = .ok (.iload 4, 2) := by decide +kernel
theorem dX11_ring_53 : decode cX11_ring 53 = .ok (.ifCond .ne 12, 3) := by decide +kernel
theorem dX11_ring_56 : decode cX11_ring 56 = .ok (.aload_n 0, 1) := by decide +kernel
theorem dX11_ring_57 : decode cX11_ring 57 = .ok (.getfield 43, 3) := by decide +kernel
theorem dX11_ring_60 : decode cX11_ring 60 = .ok (.iload_n 3, 1) := by decide +kernel
theorem dX11_ring_61 : decode cX11_ring 61 = .ok (.invokevirtual 207, 3) := by decide +kernel
theorem dX11_ring_64 : decode cX11_ring 64 = .ok (.ireturn, 1) := by decide +kernel
theorem dX11_ring_65 : decode cX11_ring 65 = .ok (.iload 4, 2) := by decide +kernel
theorem dX11_ring_67 : decode cX11_ring 67 = .ok (.iconst 1, 1) := by decide +kernel
theorem dX11_ring_68 : decode cX11_ring 68 = .ok (.if_icmp .ne 13, 3) := by decide +kernel
theorem dX11_ring_71 : decode cX11_ring 71 = .ok (.aload_n 0, 1) := by decide +kernel
theorem dX11_ring_72 : decode cX11_ring 72 = .ok (.getfield 43, 3) := by decide +kernel
theorem dX11_ring_75 : decode cX11_ring 75 = .ok (.getfield 210, 3) := by decide +kernel
theorem dX11_ring_78 : decode cX11_ring 78 = .ok (.goto 10, 3) := by decide +kernel
theorem dX11_ring_81 : decode cX11_ring 81 = .ok (.aload_n 0, 1) := by decide +kernel
theorem dX11_ring_82 : decode cX11_ring 82 = .ok (.getfield 43, 3) := by decide +kernel
theorem dX11_ring_85 : decode cX11_ring 85 = .ok (.getfield 213, 3) := by decide +kernel
theorem dX11_ring_88 : decode cX11_ring 88 = .ok (.ireturn, 1) := by decide +kernel
set_option maxRecDepth 20000 in
theorem ggX11_stop_X5_within : GoodIn wsX11_stop wsX5_within := goodIn_r _ [8] (by decide +kernel) (by decide +kernel)
set_option maxRecDepth 20000 in
theorem gX11_stop_X5_within : GoodIn wsX11_stop (va_wsS RX11 92 yX5_within wsX5_within) := goodIn_app (goodIn_of _ (by decide +kernel)) ggX11_stop_X5_within
set_option maxRecDepth 20000 in
theorem ggX11_stop_X0_read : GoodIn wsX11_stop wsX0_read := goodIn_r _ [13, 14, 15, 16, 6, 7, 8, 17, 18, 19, 20, 21, 22, 54, 55, 56, 57, 58] (by decide +kernel) (by decide +kernel)
set_option maxRecDepth 20000 in
theorem gX11_stop_X0_read : GoodIn wsX11_stop (wsV RX11 216 RX0 yX0_read wsX0_read) := goodIn_app (goodIn_of _ (by decide +kernel)) ggX11_stop_X0_read
set_option maxRecDepth 20000 in
theorem ggX11_stop_X0_judgeStops : GoodIn wsX11_stop wsX0_judgeStops := goodIn_r _ [26, 27, 15, 28, 29, 14, 30, 31, 32, 7, 33, 54, 55, 56, 57, 58] (by decide +kernel) (by decide +kernel)
set_option maxRecDepth 20000 in
theorem gX11_stop_X0_judgeStops : GoodIn wsX11_stop (wsV RX11 221 RX0 yX0_judgeStops wsX0_judgeStops) := goodIn_app (goodIn_of _ (by decide +kernel)) ggX11_stop_X0_judgeStops
set_option maxRecDepth 20000 in
theorem ggX11_stop_X1_inLowestTerms : GoodIn wsX11_stop wsX1_inLowestTerms := goodIn_r _ [37, 38, 39, 36, 40] (by decide +kernel) (by decide +kernel)
set_option maxRecDepth 20000 in
theorem gX11_stop_X1_inLowestTerms : GoodIn wsX11_stop (va_wsS RX11 231 yX1_inLowestTerms wsX1_inLowestTerms) := goodIn_app (goodIn_of _ (by decide +kernel)) ggX11_stop_X1_inLowestTerms
theorem dX11_stop_0 : decode cX11_stop 0 = .ok (.iload 4, 2) := by decide +kernel
theorem dX11_stop_2 : decode cX11_stop 2 = .ok (.iconst 0, 1) := by decide +kernel
theorem dX11_stop_3 : decode cX11_stop 3 = .ok (.iconst 1, 1) := by decide +kernel
theorem dX11_stop_4 : decode cX11_stop 4 = .ok (.invokestatic 92, 3) := by decide +kernel
theorem dX11_stop_7 : decode cX11_stop 7 = .ok (.ifCond .eq 25, 3) := by decide +kernel
theorem dX11_stop_10 : decode cX11_stop 10 = .ok (.iload_n 3, 1) := by decide +kernel
theorem dX11_stop_11 : decode cX11_stop 11 = .ok (.iconst 0, 1) := by decide +kernel
theorem dX11_stop_12 : decode cX11_stop 12 = .ok (.bipush 10, 2) := by decide +kernel
theorem dX11_stop_14 : decode cX11_stop 14 = .ok (.invokestatic 92, 3) := by decide +kernel
theorem dX11_stop_17 : decode cX11_stop 17 = .ok (.ifCond .eq 15, 3) := by decide +kernel
theorem dX11_stop_20 : decode cX11_stop 20 = .ok (.aload_n 0, 1) := by decide +kernel
theorem dX11_stop_21 : decode cX11_stop 21 = .ok (.getfield 50, 3) := by decide +kernel
theorem dX11_stop_24 : decode cX11_stop 24 = .ok (.iload_n 1, 1) := by decide +kernel
theorem dX11_stop_25 : decode cX11_stop 25 = .ok (.iload_n 2, 1) := by decide +kernel
theorem dX11_stop_26 : decode cX11_stop 26 = .ok (.invokevirtual 216, 3) := by decide +kernel
theorem dX11_stop_29 : decode cX11_stop 29 = .ok (.ifCond .ne 7, 3) := by decide +kernel
theorem dX11_stop_32 : decode cX11_stop 32 = .ok (.ldc2_w 219, 3) := by decide +kernel
theorem dX11_stop_35 : decode cX11_stop 35 = .ok (.lreturn, 1) := by decide +kernel
theorem dX11_stop_36 : decode cX11_stop 36 = .ok (.aload_n 0, 1) := by decide +kernel
theorem dX11_stop_37 : decode cX11_stop 37 = .ok (.getfield 50, 3) := by decide +kernel
theorem dX11_stop_40 : decode cX11_stop 40 = .ok (.iload_n 3, 1) := by decide +kernel
theorem dX11_stop_41 : decode cX11_stop 41 = .ok (.invokevirtual 221, 3) := by decide +kernel
theorem dX11_stop_44 : decode cX11_stop 44 = .ok (.aload_n 0, 1) := by decide +kernel
theorem dX11_stop_45 : decode cX11_stop 45 = .ok (.getfield 50, 3) := by decide +kernel
theorem dX11_stop_48 : decode cX11_stop 48 = .ok (.getfield 224, 3) := by decide +kernel
theorem dX11_stop_51 : decode cX11_stop 51 = .ok (.aload_n 0, 1) := by decide +kernel
theorem dX11_stop_52 : decode cX11_stop 52 = .ok (.getfield 50, 3) := by decide +kernel
theorem dX11_stop_55 : decode cX11_stop 55 = .ok (.getfield 228, 3) := by decide +kernel
theorem dX11_stop_58 : decode cX11_stop 58 = .ok (.iload 4, 2) := by decide +kernel
theorem dX11_stop_60 : decode cX11_stop 60 = .ok (.invokestatic 231, 3) := by decide +kernel
theorem dX11_stop_63 : decode cX11_stop 63 = .ok (.lreturn, 1) := by decide +kernel
set_option maxRecDepth 20000 in
theorem ggX11_sells_X5_within : GoodIn wsX11_sells wsX5_within := goodIn_r _ [6] (by decide +kernel) (by decide +kernel)
set_option maxRecDepth 20000 in
theorem gX11_sells_X5_within : GoodIn wsX11_sells (va_wsS RX11 92 yX5_within wsX5_within) := goodIn_app (goodIn_of _ (by decide +kernel)) ggX11_sells_X5_within
set_option maxRecDepth 20000 in
theorem ggX11_sells_X0_read : GoodIn wsX11_sells wsX0_read := goodIn_r _ [11, 12, 13, 14, 4, 5, 6, 15, 16, 17, 18, 19, 20, 45, 46, 47, 48, 49] (by decide +kernel) (by decide +kernel)
set_option maxRecDepth 20000 in
theorem gX11_sells_X0_read : GoodIn wsX11_sells (wsV RX11 216 RX0 yX0_read wsX0_read) := goodIn_app (goodIn_of _ (by decide +kernel)) ggX11_sells_X0_read
set_option maxRecDepth 20000 in
theorem ggX11_sells_X0_judgeStops : GoodIn wsX11_sells wsX0_judgeStops := goodIn_r _ [24, 25, 13, 26, 27, 12, 28, 29, 30, 5, 31, 45, 46, 47, 48, 49] (by decide +kernel) (by decide +kernel)
set_option maxRecDepth 20000 in
theorem gX11_sells_X0_judgeStops : GoodIn wsX11_sells (wsV RX11 221 RX0 yX0_judgeStops wsX0_judgeStops) := goodIn_app (goodIn_of _ (by decide +kernel)) ggX11_sells_X0_judgeStops
theorem dX11_sells_0 : decode cX11_sells 0 = .ok (.iload_n 3, 1) := by decide +kernel
theorem dX11_sells_1 : decode cX11_sells 1 = .ok (.iconst 0, 1) := by decide +kernel
theorem dX11_sells_2 : decode cX11_sells 2 = .ok (.bipush 10, 2) := by decide +kernel
theorem dX11_sells_4 : decode cX11_sells 4 = .ok (.invokestatic 92, 3) := by decide +kernel
theorem dX11_sells_7 : decode cX11_sells 7 = .ok (.ifCond .eq 15, 3) := by decide +kernel
theorem dX11_sells_10 : decode cX11_sells 10 = .ok (.aload_n 0, 1) := by decide +kernel
theorem dX11_sells_11 : decode cX11_sells 11 = .ok (.getfield 50, 3) := by decide +kernel
theorem dX11_sells_14 : decode cX11_sells 14 = .ok (.iload_n 1, 1) := by decide +kernel
theorem dX11_sells_15 : decode cX11_sells 15 = .ok (.iload_n 2, 1) := by decide +kernel
theorem dX11_sells_16 : decode cX11_sells 16 = .ok (.invokevirtual 216, 3) := by decide +kernel
theorem dX11_sells_19 : decode cX11_sells 19 = .ok (.ifCond .ne 6, 3) := by decide +kernel
theorem dX11_sells_22 : decode cX11_sells 22 = .ok (.bipush (-2), 2) := by decide +kernel
theorem dX11_sells_24 : decode cX11_sells 24 = .ok (.ireturn, 1) := by decide +kernel
theorem dX11_sells_25 : decode cX11_sells 25 = .ok (.aload_n 0, 1) := by decide +kernel
theorem dX11_sells_26 : decode cX11_sells 26 = .ok (.getfield 50, 3) := by decide +kernel
theorem dX11_sells_29 : decode cX11_sells 29 = .ok (.iload_n 3, 1) := by decide +kernel
theorem dX11_sells_30 : decode cX11_sells 30 = .ok (.invokevirtual 221, 3) := by decide +kernel
theorem dX11_sells_33 : decode cX11_sells 33 = .ok (.aload_n 0, 1) := by decide +kernel
theorem dX11_sells_34 : decode cX11_sells 34 = .ok (.getfield 50, 3) := by decide +kernel
theorem dX11_sells_37 : decode cX11_sells 37 = .ok (.getfield 235, 3) := by decide +kernel
theorem dX11_sells_40 : decode cX11_sells 40 = .ok (.ireturn, 1) := by decide +kernel
set_option maxRecDepth 20000 in
theorem ggX11_ahead_X5_within : GoodIn wsX11_ahead wsX5_within := goodIn_r _ [7] (by decide +kernel) (by decide +kernel)
set_option maxRecDepth 20000 in
theorem gX11_ahead_X5_within : GoodIn wsX11_ahead (va_wsS RX11 92 yX5_within wsX5_within) := goodIn_app (goodIn_of _ (by decide +kernel)) ggX11_ahead_X5_within
set_option maxRecDepth 20000 in
theorem ggX11_ahead_X8_add : GoodIn wsX11_ahead wsX8_add := goodIn_r _ [12, 13, 14, 15, 16, 17, 6, 18, 41, 42, 43] (by decide +kernel) (by decide +kernel)
set_option maxRecDepth 20000 in
theorem gX11_ahead_X8_add : GoodIn wsX11_ahead (wsV RX11 247 RX8 yX8_add wsX8_add) := goodIn_app (goodIn_of _ (by decide +kernel)) ggX11_ahead_X8_add
theorem dX11_ahead_0 : decode cX11_ahead 0 = .ok (.iload_n 1, 1) := by decide +kernel
theorem dX11_ahead_1 : decode cX11_ahead 1 = .ok (.iconst 0, 1) := by decide +kernel
theorem dX11_ahead_2 : decode cX11_ahead 2 = .ok (.iconst 4, 1) := by decide +kernel
theorem dX11_ahead_3 : decode cX11_ahead 3 = .ok (.invokestatic 92, 3) := by decide +kernel
theorem dX11_ahead_6 : decode cX11_ahead 6 = .ok (.ifCond .eq 17, 3) := by decide +kernel
theorem dX11_ahead_9 : decode cX11_ahead 9 = .ok (.iload_n 2, 1) := by decide +kernel
theorem dX11_ahead_10 : decode cX11_ahead 10 = .ok (.iconst 0, 1) := by decide +kernel
theorem dX11_ahead_11 : decode cX11_ahead 11 = .ok (.iconst 4, 1) := by decide +kernel
theorem dX11_ahead_12 : decode cX11_ahead 12 = .ok (.invokestatic 92, 3) := by decide +kernel
theorem dX11_ahead_15 : decode cX11_ahead 15 = .ok (.ifCond .eq 8, 3) := by decide +kernel
theorem dX11_ahead_18 : decode cX11_ahead 18 = .ok (.iload_n 1, 1) := by decide +kernel
theorem dX11_ahead_19 : decode cX11_ahead 19 = .ok (.iload_n 2, 1) := by decide +kernel
theorem dX11_ahead_20 : decode cX11_ahead 20 = .ok (.if_icmp .ne 6, 3) := by decide +kernel
theorem dX11_ahead_23 : decode cX11_ahead 23 = .ok (.bipush (-2), 2) := by decide +kernel
theorem dX11_ahead_25 : decode cX11_ahead 25 = .ok (.ireturn, 1) := by decide +kernel
theorem dX11_ahead_26 : decode cX11_ahead 26 = .ok (.aload_n 0, 1) := by decide +kernel
theorem dX11_ahead_27 : decode cX11_ahead 27 = .ok (.getfield 10, 3) := by decide +kernel
theorem dX11_ahead_30 : decode cX11_ahead 30 = .ok (.getfield 238, 3) := by decide +kernel
theorem dX11_ahead_33 : decode cX11_ahead 33 = .ok (.getfield 242, 3) := by decide +kernel
theorem dX11_ahead_36 : decode cX11_ahead 36 = .ok (.bipush 8, 2) := by decide +kernel
theorem dX11_ahead_38 : decode cX11_ahead 38 = .ok (.if_icmp .lt 6, 3) := by decide +kernel
theorem dX11_ahead_41 : decode cX11_ahead 41 = .ok (.bipush (-4), 2) := by decide +kernel
theorem dX11_ahead_43 : decode cX11_ahead 43 = .ok (.ireturn, 1) := by decide +kernel
theorem dX11_ahead_44 : decode cX11_ahead 44 = .ok (.aload_n 0, 1) := by decide +kernel
theorem dX11_ahead_45 : decode cX11_ahead 45 = .ok (.getfield 10, 3) := by decide +kernel
theorem dX11_ahead_48 : decode cX11_ahead 48 = .ok (.getfield 238, 3) := by decide +kernel
theorem dX11_ahead_51 : decode cX11_ahead 51 = .ok (.iload_n 1, 1) := by decide +kernel
theorem dX11_ahead_52 : decode cX11_ahead 52 = .ok (.iload_n 2, 1) := by decide +kernel
theorem dX11_ahead_53 : decode cX11_ahead 53 = .ok (.invokevirtual 247, 3) := by decide +kernel
theorem dX11_ahead_56 : decode cX11_ahead 56 = .ok (.aload_n 0, 1) := by decide +kernel
theorem dX11_ahead_57 : decode cX11_ahead 57 = .ok (.getfield 10, 3) := by decide +kernel
theorem dX11_ahead_60 : decode cX11_ahead 60 = .ok (.getfield 238, 3) := by decide +kernel
theorem dX11_ahead_63 : decode cX11_ahead 63 = .ok (.getfield 242, 3) := by decide +kernel
theorem dX11_ahead_66 : decode cX11_ahead 66 = .ok (.ireturn, 1) := by decide +kernel
theorem dX11_forget_0 : decode cX11_forget 0 = .ok (.aload_n 0, 1) := by decide +kernel
theorem dX11_forget_1 : decode cX11_forget 1 = .ok (.getfield 10, 3) := by decide +kernel
theorem dX11_forget_4 : decode cX11_forget 4 = .ok (.getfield 238, 3) := by decide +kernel
theorem dX11_forget_7 : decode cX11_forget 7 = .ok (.getfield 242, 3) := by decide +kernel
theorem dX11_forget_10 : decode cX11_forget 10 = .ok (.istore_n 1, 1) := by decide +kernel
theorem dX11_forget_11 : decode cX11_forget 11 = .ok (.aload_n 0, 1) := by decide +kernel
theorem dX11_forget_12 : decode cX11_forget 12 = .ok (.getfield 10, 3) := by decide +kernel
theorem dX11_forget_15 : decode cX11_forget 15 = .ok (.getfield 238, 3) := by decide +kernel
theorem dX11_forget_18 : decode cX11_forget 18 = .ok (.iconst 0, 1) := by decide +kernel
theorem dX11_forget_19 : decode cX11_forget 19 = .ok (.putfield 242, 3) := by decide +kernel
theorem dX11_forget_22 : decode cX11_forget 22 = .ok (.iload_n 1, 1) := by decide +kernel
theorem dX11_forget_23 : decode cX11_forget 23 = .ok (.ireturn, 1) := by decide +kernel
set_option maxRecDepth 20000 in
theorem ggX11_fits_X2_fittingRow : GoodIn wsX11_fits wsX2_fittingRow := goodIn_r _ [8, 9, 10, 11, 12, 13, 7, 14, 15, 16, 17, 18, 19, 20, 21, 22, 23, 24, 25, 26, 27, 28, 29, 30, 31, 32, 33, 34, 35, 36, 37, 38, 39, 40, 41, 64, 65, 66, 67, 68, 69, 70, 71, 72] (by decide +kernel) (by decide +kernel)
set_option maxRecDepth 20000 in
theorem gX11_fits_X2_fittingRow : GoodIn wsX11_fits (wsV RX11 250 RX2 yX2_fittingRow wsX2_fittingRow) := goodIn_app (goodIn_of _ (by decide +kernel)) ggX11_fits_X2_fittingRow
theorem dX11_fits_0 : decode cX11_fits 0 = .ok (.aload_n 0, 1) := by decide +kernel
theorem dX11_fits_1 : decode cX11_fits 1 = .ok (.getfield 57, 3) := by decide +kernel
theorem dX11_fits_4 : decode cX11_fits 4 = .ok (.aload_n 0, 1) := by decide +kernel
theorem dX11_fits_5 : decode cX11_fits 5 = .ok (.getfield 10, 3) := by decide +kernel
theorem dX11_fits_8 : decode cX11_fits 8 = .ok (.getfield 238, 3) := by decide +kernel
theorem dX11_fits_11 : decode cX11_fits 11 = .ok (.iload_n 1, 1) := by decide +kernel
theorem dX11_fits_12 : decode cX11_fits 12 = .ok (.invokevirtual 250, 3) := by decide +kernel
theorem dX11_fits_15 : decode cX11_fits 15 = .ok (.ireturn, 1) := by decide +kernel
set_option maxRecDepth 20000 in
theorem ggX11_ask_X5_within : GoodIn wsX11_ask wsX5_within := goodIn_r _ [9] (by decide +kernel) (by decide +kernel)
set_option maxRecDepth 20000 in
theorem gX11_ask_X5_within : GoodIn wsX11_ask (va_wsS RX11 92 yX5_within wsX5_within) := goodIn_app (goodIn_of _ (by decide +kernel)) ggX11_ask_X5_within
set_option maxRecDepth 20000 in
theorem ggX11_ask_X2_chooseQuestion : GoodIn wsX11_ask wsX2_chooseQuestion := goodIn_r _ [14, 15, 16, 17, 18, 19, 20, 21, 22, 23, 24, 25, 13, 26, 27, 28, 29, 8, 30, 31, 32, 33, 34, 35, 36, 37, 38, 39, 40, 41, 42, 43, 44, 45, 46, 47, 48, 49, 50, 51, 52, 53, 54, 55, 56, 57, 58, 81, 82, 83, 84, 85, 86, 87, 88, 89] (by decide +kernel) (by decide +kernel)
set_option maxRecDepth 20000 in
theorem gX11_ask_X2_chooseQuestion : GoodIn wsX11_ask (wsV RX11 254 RX2 yX2_chooseQuestion wsX2_chooseQuestion) := goodIn_app (goodIn_of _ (by decide +kernel)) ggX11_ask_X2_chooseQuestion
theorem dX11_ask_0 : decode cX11_ask 0 = .ok (.iload_n 1, 1) := by decide +kernel
theorem dX11_ask_1 : decode cX11_ask 1 = .ok (.iconst 0, 1) := by decide +kernel
theorem dX11_ask_2 : decode cX11_ask 2 = .ok (.iconst 1, 1) := by decide +kernel
theorem dX11_ask_3 : decode cX11_ask 3 = .ok (.invokestatic 92, 3) := by decide +kernel
theorem dX11_ask_6 : decode cX11_ask 6 = .ok (.ifCond .ne 6, 3) := by decide +kernel
theorem dX11_ask_9 : decode cX11_ask 9 = .ok (.bipush (-2), 2) := by decide +kernel
theorem dX11_ask_11 : decode cX11_ask 11 = .ok (.ireturn, 1) := by decide +kernel
theorem dX11_ask_12 : decode cX11_ask 12 = .ok (.aload_n 0, 1) := by decide +kernel
theorem dX11_ask_13 : decode cX11_ask 13 = .ok (.getfield 57, 3) := by decide +kernel
theorem dX11_ask_16 : decode cX11_ask 16 = .ok (.aload_n 0, 1) := by decide +kernel
theorem dX11_ask_17 : decode cX11_ask 17 = .ok (.getfield 10, 3) := by decide +kernel
theorem dX11_ask_20 : decode cX11_ask 20 = .ok (.getfield 238, 3) := by decide +kernel
theorem dX11_ask_23 : decode cX11_ask 23 = .ok (.invokevirtual 254, 3) := by decide +kernel
theorem dX11_ask_26 : decode cX11_ask 26 = .ok (.iload_n 1, 1) := by decide +kernel
theorem dX11_ask_27 : decode cX11_ask 27 = .ok (.ifCond .ne 13, 3) := by decide +kernel
theorem dX11_ask_30 : decode cX11_ask 30 = .ok (.aload_n 0, 1) := by decide +kernel
theorem dX11_ask_31 : decode cX11_ask 31 = .ok (.getfield 57, 3) := by decide +kernel
theorem dX11_ask_34 : decode cX11_ask 34 = .ok (.getfield 258, 3) := by decide +kernel
theorem dX11_ask_37 : decode cX11_ask 37 = .ok (.goto 10, 3) := by decide +kernel
theorem dX11_ask_40 : decode cX11_ask 40 = .ok (.aload_n 0, 1) := by decide +kernel
theorem dX11_ask_41 : decode cX11_ask 41 = .ok (.getfield 57, 3) := by decide +kernel
theorem dX11_ask_44 : decode cX11_ask 44 = .ok (.getfield 261, 3) := by decide +kernel
theorem dX11_ask_47 : decode cX11_ask 47 = .ok (.ireturn, 1) := by decide +kernel
set_option maxRecDepth 20000 in
theorem ggX11_shelf_X5_within : GoodIn wsX11_shelf wsX5_within := goodIn_r _ [5] (by decide +kernel) (by decide +kernel)
set_option maxRecDepth 20000 in
theorem gX11_shelf_X5_within : GoodIn wsX11_shelf (va_wsS RX11 92 yX5_within wsX5_within) := goodIn_app (goodIn_of _ (by decide +kernel)) ggX11_shelf_X5_within
set_option maxRecDepth 20000 in
theorem ggX11_shelf_X7_firstWinning : GoodIn wsX11_shelf wsX7_firstWinning := goodIn_r _ [10, 11, 12, 13, 14, 15, 9, 16, 17, 18, 19, 4, 20, 21, 22, 23, 24, 25, 26, 27, 28, 29, 30, 31, 32, 33, 34, 35, 36, 37, 38, 39, 40, 41, 42, 43, 44, 45, 46, 60, 61, 62] (by decide +kernel) (by decide +kernel)
set_option maxRecDepth 20000 in
theorem gX11_shelf_X7_firstWinning : GoodIn wsX11_shelf (wsV RX11 264 RX7 yX7_firstWinning wsX7_firstWinning) := goodIn_app (goodIn_of _ (by decide +kernel)) ggX11_shelf_X7_firstWinning
theorem dX11_shelf_0 : decode cX11_shelf 0 = .ok (.iload_n 1, 1) := by decide +kernel
theorem dX11_shelf_1 : decode cX11_shelf 1 = .ok (.iconst 1, 1) := by decide +kernel
theorem dX11_shelf_2 : decode cX11_shelf 2 = .ok (.iconst 5, 1) := by decide +kernel
theorem dX11_shelf_3 : decode cX11_shelf 3 = .ok (.invokestatic 92, 3) := by decide +kernel
theorem dX11_shelf_6 : decode cX11_shelf 6 = .ok (.ifCond .eq 21, 3) := by decide +kernel
theorem dX11_shelf_9 : decode cX11_shelf 9 = .ok (.iload_n 2, 1) := by decide +kernel
theorem dX11_shelf_10 : decode cX11_shelf 10 = .ok (.iconst 1, 1) := by decide +kernel
theorem dX11_shelf_11 : decode cX11_shelf 11 = .ok (.iconst 5, 1) := by decide +kernel
theorem dX11_shelf_12 : decode cX11_shelf 12 = .ok (.invokestatic 92, 3) := by decide +kernel
theorem dX11_shelf_15 : decode cX11_shelf 15 = .ok (.ifCond .eq 12, 3) := by decide +kernel
theorem dX11_shelf_18 : decode cX11_shelf 18 = .ok (.iload_n 3, 1) := by decide +kernel
theorem dX11_shelf_19 : decode cX11_shelf 19 = .ok (.iconst 0, 1) := by decide +kernel
theorem dX11_shelf_20 : decode cX11_shelf 20 = .ok (.iconst 1, 1) := by decide +kernel
theorem dX11_shelf_21 : decode cX11_shelf 21 = .ok (.invokestatic 92, 3) := by decide +kernel
theorem dX11_shelf_24 : decode cX11_shelf 24 = .ok (.ifCond .ne 6, 3) := by decide +kernel
theorem dX11_shelf_27 : decode cX11_shelf 27 = .ok (.bipush (-2), 2) := by decide +kernel
theorem dX11_shelf_29 : decode cX11_shelf 29 = .ok (.ireturn, 1) := by decide +kernel
theorem dX11_shelf_30 : decode cX11_shelf 30 = .ok (.aload_n 0, 1) := by decide +kernel
theorem dX11_shelf_31 : decode cX11_shelf 31 = .ok (.getfield 64, 3) := by decide +kernel
theorem dX11_shelf_34 : decode cX11_shelf 34 = .ok (.iload_n 1, 1) := by decide +kernel
theorem dX11_shelf_35 : decode cX11_shelf 35 = .ok (.iload_n 2, 1) := by decide +kernel
theorem dX11_shelf_36 : decode cX11_shelf 36 = .ok (.invokevirtual 264, 3) := by decide +kernel
theorem dX11_shelf_39 : decode cX11_shelf 39 = .ok (.istore 4, 2) := by decide +kernel
theorem dX11_shelf_41 : decode cX11_shelf 41 = .ok (.iload_n 3, 1) := by decide +kernel
theorem dX11_shelf_42 : decode cX11_shelf 42 = .ok (.iconst 1, 1) := by decide +kernel
theorem dX11_shelf_43 : decode cX11_shelf 43 = .ok (.if_icmp .ne 6, 3) := by decide +kernel
theorem dX11_shelf_46 : decode cX11_shelf 46 = .ok (.iload 4, 2) := by decide +kernel
theorem dX11_shelf_48 : decode cX11_shelf 48 = .ok (.ireturn, 1) := by decide +kernel
theorem dX11_shelf_49 : decode cX11_shelf 49 = .ok (.iload 4, 2) := by decide +kernel
theorem dX11_shelf_51 : decode cX11_shelf 51 = .ok (.bipush (-6), 2) := by decide +kernel
theorem dX11_shelf_53 : decode cX11_shelf 53 = .ok (.if_icmp .ne 7, 3) := by decide +kernel
theorem dX11_shelf_56 : decode cX11_shelf 56 = .ok (.iconst 0, 1) := by decide +kernel
theorem dX11_shelf_57 : decode cX11_shelf 57 = .ok (.goto 4, 3) := by decide +kernel
theorem dX11_shelf_60 : decode cX11_shelf 60 = .ok (.iconst 1, 1) := by decide +kernel
theorem dX11_shelf_61 : decode cX11_shelf 61 = .ok (.ireturn, 1) := by decide +kernel
set_option maxRecDepth 20000 in
theorem ggX11_doors_X5_within : GoodIn wsX11_doors wsX5_within := goodIn_r _ [7] (by decide +kernel) (by decide +kernel)
set_option maxRecDepth 20000 in
theorem gX11_doors_X5_within : GoodIn wsX11_doors (va_wsS RX11 92 yX5_within wsX5_within) := goodIn_app (goodIn_of _ (by decide +kernel)) ggX11_doors_X5_within
set_option maxRecDepth 20000 in
theorem ggX11_doors_X1_countWays : GoodIn wsX11_doors wsX1_countWays := goodIn_r _ [12, 13, 14, 15, 16, 17, 11, 18, 39, 40] (by decide +kernel) (by decide +kernel)
set_option maxRecDepth 20000 in
theorem gX11_doors_X1_countWays : GoodIn wsX11_doors (wsV RX11 267 RX1 yX1_countWays wsX1_countWays) := goodIn_app (goodIn_of _ (by decide +kernel)) ggX11_doors_X1_countWays
set_option maxRecDepth 20000 in
theorem ggX11_doors_X1_waysTo : GoodIn wsX11_doors wsX1_waysTo := goodIn_r _ [18, 13, 39, 40] (by decide +kernel) (by decide +kernel)
set_option maxRecDepth 20000 in
theorem gX11_doors_X1_waysTo : GoodIn wsX11_doors (wsV RX11 270 RX1 yX1_waysTo wsX1_waysTo) := goodIn_app (goodIn_of _ (by decide +kernel)) ggX11_doors_X1_waysTo
set_option maxRecDepth 20000 in
theorem ggX11_doors_X1_inLowestTerms : GoodIn wsX11_doors wsX1_inLowestTerms := goodIn_r _ [22, 23, 24, 11, 25] (by decide +kernel) (by decide +kernel)
set_option maxRecDepth 20000 in
theorem gX11_doors_X1_inLowestTerms : GoodIn wsX11_doors (va_wsS RX11 231 yX1_inLowestTerms wsX1_inLowestTerms) := goodIn_app (goodIn_of _ (by decide +kernel)) ggX11_doors_X1_inLowestTerms
theorem dX11_doors_0 : decode cX11_doors 0 = .ok (.iload_n 1, 1) := by decide +kernel
theorem dX11_doors_1 : decode cX11_doors 1 = .ok (.iconst 0, 1) := by decide +kernel
theorem dX11_doors_2 : decode cX11_doors 2 = .ok (.bipush 12, 2) := by decide +kernel
theorem dX11_doors_4 : decode cX11_doors 4 = .ok (.invokestatic 92, 3) := by decide +kernel
theorem dX11_doors_7 : decode cX11_doors 7 = .ok (.ifCond .eq 32, 3) := by decide +kernel
theorem dX11_doors_10 : decode cX11_doors 10 = .ok (.iload_n 2, 1) := by decide +kernel
theorem dX11_doors_11 : decode cX11_doors 11 = .ok (.iconst 1, 1) := by decide +kernel
theorem dX11_doors_12 : decode cX11_doors 12 = .ok (.bipush 10, 2) := by decide +kernel
theorem dX11_doors_14 : decode cX11_doors 14 = .ok (.invokestatic 92, 3) := by decide +kernel
theorem dX11_doors_17 : decode cX11_doors 17 = .ok (.ifCond .eq 22, 3) := by decide +kernel
theorem dX11_doors_20 : decode cX11_doors 20 = .ok (.iload_n 3, 1) := by decide +kernel
theorem dX11_doors_21 : decode cX11_doors 21 = .ok (.iconst 0, 1) := by decide +kernel
theorem dX11_doors_22 : decode cX11_doors 22 = .ok (.iconst 1, 1) := by decide +kernel
theorem dX11_doors_23 : decode cX11_doors 23 = .ok (.invokestatic 92, 3) := by decide +kernel
theorem dX11_doors_26 : decode cX11_doors 26 = .ok (.ifCond .eq 13, 3) := by decide +kernel
theorem dX11_doors_29 : decode cX11_doors 29 = .ok (.iload 4, 2) := by decide +kernel
theorem dX11_doors_31 : decode cX11_doors 31 = .ok (.iconst 0, 1) := by decide +kernel
theorem dX11_doors_32 : decode cX11_doors 32 = .ok (.iconst 1, 1) := by decide +kernel
theorem dX11_doors_33 : decode cX11_doors 33 = .ok (.invokestatic 92, 3) := by decide +kernel
theorem dX11_doors_36 : decode cX11_doors 36 = .ok (.ifCond .ne 7, 3) := by decide +kernel
theorem dX11_doors_39 : decode cX11_doors 39 = .ok (.ldc2_w 219, 3) := by decide +kernel
theorem dX11_doors_42 : decode cX11_doors 42 = .ok (.lreturn, 1) := by decide +kernel
theorem dX11_doors_43 : decode cX11_doors 43 = .ok (.aload_n 0, 1) := by decide +kernel
theorem dX11_doors_44 : decode cX11_doors 44 = .ok (.getfield 71, 3) := by decide +kernel
theorem dX11_doors_47 : decode cX11_doors 47 = .ok (.iload_n 1, 1) := by decide +kernel
theorem dX11_doors_48 : decode cX11_doors 48 = .ok (.iload_n 2, 1) := by decide +kernel
theorem dX11_doors_49 : decode cX11_doors 49 = .ok (.invokevirtual 267, 3) := by decide +kernel
theorem dX11_doors_52 : decode cX11_doors 52 = .ok (.aload_n 0, 1) := by decide +kernel
theorem dX11_doors_53 : decode cX11_doors 53 = .ok (.getfield 71, 3) := by decide +kernel
theorem dX11_doors_56 : decode cX11_doors 56 = .ok (.iload_n 3, 1) := by decide +kernel
theorem dX11_doors_57 : decode cX11_doors 57 = .ok (.ifCond .ne 7, 3) := by decide +kernel
theorem dX11_doors_60 : decode cX11_doors 60 = .ok (.iload_n 1, 1) := by decide +kernel
theorem dX11_doors_61 : decode cX11_doors 61 = .ok (.goto 4, 3) := by decide +kernel
theorem dX11_doors_64 : decode cX11_doors 64 = .ok (.iload_n 2, 1) := by decide +kernel
theorem dX11_doors_65 : decode cX11_doors 65 = .ok (.invokevirtual 270, 3) := by decide +kernel
theorem dX11_doors_68 : decode cX11_doors 68 = .ok (.lstore 5, 2) := by decide +kernel
theorem dX11_doors_70 : decode cX11_doors 70 = .ok (.lload 5, 2) := by decide +kernel
theorem dX11_doors_72 : decode cX11_doors 72 = .ok (.aload_n 0, 1) := by decide +kernel
theorem dX11_doors_73 : decode cX11_doors 73 = .ok (.getfield 71, 3) := by decide +kernel
theorem dX11_doors_76 : decode cX11_doors 76 = .ok (.getfield 274, 3) := by decide +kernel
theorem dX11_doors_79 : decode cX11_doors 79 = .ok (.iload 4, 2) := by decide +kernel
theorem dX11_doors_81 : decode cX11_doors 81 = .ok (.invokestatic 231, 3) := by decide +kernel
theorem dX11_doors_84 : decode cX11_doors 84 = .ok (.lreturn, 1) := by decide +kernel
set_option maxRecDepth 20000 in
theorem ggX11_year_X5_within : GoodIn wsX11_year wsX5_within := goodIn_r _ [7] (by decide +kernel) (by decide +kernel)
set_option maxRecDepth 20000 in
theorem gX11_year_X5_within : GoodIn wsX11_year (va_wsS RX11 92 yX5_within wsX5_within) := goodIn_app (goodIn_of _ (by decide +kernel)) ggX11_year_X5_within
set_option maxRecDepth 20000 in
theorem ggX11_year_X10_copy : GoodIn wsX11_year wsX10_copy := goodIn_r _ [12, 13, 14, 15, 16, 17, 18, 19, 20, 21, 22, 23, 6, 24, 25, 26, 27, 28, 29, 30, 31, 32, 33, 34, 35, 36, 119, 120, 121, 122, 123, 124, 125, 126, 127, 128, 129, 130] (by decide +kernel) (by decide +kernel)
set_option maxRecDepth 20000 in
theorem gX11_year_X10_copy : GoodIn wsX11_year (wsV RX11 181 RX10 yX10_copy wsX10_copy) := goodIn_app (goodIn_of _ (by decide +kernel)) ggX11_year_X10_copy
set_option maxRecDepth 20000 in
theorem ggX11_year_X11_liveThrough : GoodIn wsX11_year wsX11_liveThrough := goodIn_r _ [40, 41, 42, 43, 39, 44, 45, 46, 47, 11, 48, 20, 49, 50, 51, 52, 13, 14, 53, 54, 55, 56, 57, 26, 6, 27, 58, 59, 60, 61, 62, 63, 64, 65, 18, 66, 67, 68, 69, 70, 71, 72, 17, 73, 74, 75, 76, 77, 78, 79, 80, 81, 82, 83, 84, 15, 85, 86, 87, 88, 89, 90, 91, 92, 93, 94, 95, 96, 21, 119, 120, 121, 122, 123, 124, 125, 126, 127] (by decide +kernel) (by decide +kernel)
set_option maxRecDepth 20000 in
theorem gX11_year_X11_liveThrough : GoodIn wsX11_year (va_wsS RX11 277 yX11_liveThrough wsX11_liveThrough) := goodIn_app (goodIn_of _ (by decide +kernel)) ggX11_year_X11_liveThrough
set_option maxRecDepth 20000 in
theorem ggX11_year_X10_thingsFitForSale : GoodIn wsX11_year wsX10_thingsFitForSale := goodIn_r _ [100, 77, 78, 79, 11, 80, 14, 57, 26, 6, 27, 119, 120, 121, 122, 123, 124, 125, 126, 127] (by decide +kernel) (by decide +kernel)
set_option maxRecDepth 20000 in
theorem gX11_year_X10_thingsFitForSale : GoodIn wsX11_year (wsV RX11 280 RX10 yX10_thingsFitForSale wsX10_thingsFitForSale) := goodIn_app (goodIn_of _ (by decide +kernel)) ggX11_year_X10_thingsFitForSale
set_option maxRecDepth 20000 in
theorem ggX11_year_X5_at : GoodIn wsX11_year wsX5_at := goodIn_r _ [27] (by decide +kernel) (by decide +kernel)
set_option maxRecDepth 20000 in
theorem gX11_year_X5_at : GoodIn wsX11_year (va_wsS RX11 102 yX5_at wsX5_at) := goodIn_app (goodIn_of _ (by decide +kernel)) ggX11_year_X5_at
set_option maxRecDepth 20000 in
theorem ggX11_year_X10_thingsOf : GoodIn wsX11_year wsX10_thingsOf := goodIn_r _ [105, 13, 57, 26, 6, 27, 119, 120, 121, 122, 123, 124, 125, 126, 127] (by decide +kernel) (by decide +kernel)
set_option maxRecDepth 20000 in
theorem gX11_year_X10_thingsOf : GoodIn wsX11_year (wsV RX11 166 RX10 yX10_thingsOf wsX10_thingsOf) := goodIn_app (goodIn_of _ (by decide +kernel)) ggX11_year_X10_thingsOf
theorem dX11_year_0 : decode cX11_year 0 = .ok (.iload_n 1, 1) := by decide +kernel
theorem dX11_year_1 : decode cX11_year 1 = .ok (.iconst 0, 1) := by decide +kernel
theorem dX11_year_2 : decode cX11_year 2 = .ok (.sipush 9999, 3) := by decide +kernel
theorem dX11_year_5 : decode cX11_year 5 = .ok (.invokestatic 92, 3) := by decide +kernel
theorem dX11_year_8 : decode cX11_year 8 = .ok (.ifCond .eq 22, 3) := by decide +kernel
theorem dX11_year_11 : decode cX11_year 11 = .ok (.iload_n 2, 1) := by decide +kernel
theorem dX11_year_12 : decode cX11_year 12 = .ok (.iconst 1, 1) := by decide +kernel
theorem dX11_year_13 : decode cX11_year 13 = .ok (.bipush 99, 2) := by decide +kernel
theorem dX11_year_15 : decode cX11_year 15 = .ok (.invokestatic 92, 3) := by decide +kernel
theorem dX11_year_18 : decode cX11_year 18 = .ok (.ifCond .eq 12, 3) := by decide +kernel
theorem dX11_year_21 : decode cX11_year 21 = .ok (.iload_n 3, 1) := by decide +kernel
theorem dX11_year_22 : decode cX11_year 22 = .ok (.iconst 0, 1) := by decide +kernel
theorem dX11_year_23 : decode cX11_year 23 = .ok (.iconst 2, 1) := by decide +kernel
theorem dX11_year_24 : decode cX11_year 24 = .ok (.invokestatic 92, 3) := by decide +kernel
theorem dX11_year_27 : decode cX11_year 27 = .ok (.ifCond .ne 6, 3) := by decide +kernel
theorem dX11_year_30 : decode cX11_year 30 = .ok (.bipush (-2), 2) := by decide +kernel
theorem dX11_year_32 : decode cX11_year 32 = .ok (.ireturn, 1) := by decide +kernel
theorem dX11_year_33 : decode cX11_year 33 = .ok (.aload_n 0, 1) := by decide +kernel
theorem dX11_year_34 : decode cX11_year 34 = .ok (.getfield 16, 3) := by decide +kernel
theorem dX11_year_37 : decode cX11_year 37 = .ok (.aload_n 0, 1) := by decide +kernel
theorem dX11_year_38 : decode cX11_year 38 = .ok (.getfield 10, 3) := by decide +kernel
theorem dX11_year_41 : decode cX11_year 41 = .ok (.invokevirtual 181, 3) := by decide +kernel
theorem dX11_year_44 : decode cX11_year 44 = .ok (.aload_n 0, 1) := by decide +kernel
theorem dX11_year_45 : decode cX11_year 45 = .ok (.getfield 16, 3) := by decide +kernel
theorem dX11_year_48 : decode cX11_year 48 = .ok (.iload_n 1, 1) := by decide +kernel
theorem dX11_year_49 : decode cX11_year 49 = .ok (.iload_n 2, 1) := by decide +kernel
theorem dX11_year_50 : decode cX11_year 50 = .ok (.invokestatic 277, 3) := by decide +kernel
theorem dX11_year_53 : decode cX11_year 53 = .ok (.iload_n 3, 1) := by decide +kernel
theorem dX11_year_54 : decode cX11_year 54 = .ok (.ifCond .ne 11, 3) := by decide +kernel
theorem dX11_year_57 : decode cX11_year 57 = .ok (.aload_n 0, 1) := by decide +kernel
theorem dX11_year_58 : decode cX11_year 58 = .ok (.getfield 16, 3) := by decide +kernel
theorem dX11_year_61 : decode cX11_year 61 = .ok (.invokevirtual 280, 3) := by decide +kernel
theorem dX11_year_64 : decode cX11_year 64 = .ok (.ireturn, 1) := by decide +kernel
theorem dX11_year_65 : decode cX11_year 65 = .ok (.iload_n 3, 1) := by decide +kernel
theorem dX11_year_66 : decode cX11_year 66 = .ok (.iconst 1, 1) := by decide +kernel
theorem dX11_year_67 : decode cX11_year 67 = .ok (.if_icmp .ne 17, 3) := by decide +kernel
theorem dX11_year_70 : decode cX11_year 70 = .ok (.aload_n 0, 1) := by decide +kernel
theorem dX11_year_71 : decode cX11_year 71 = .ok (.getfield 16, 3) := by decide +kernel
theorem dX11_year_74 : decode cX11_year 74 = .ok (.getfield 119, 3) := by decide +kernel
theorem dX11_year_77 : decode cX11_year 77 = .ok (.iconst 0, 1) := by decide +kernel
theorem dX11_year_78 : decode cX11_year 78 = .ok (.invokestatic 102, 3) := by decide +kernel
theorem dX11_year_81 : decode cX11_year 81 = .ok (.goto 11, 3) := by decide +kernel
theorem dX11_year_84 : decode cX11_year 84 = .ok (.aload_n 0, 1) := by decide +kernel
theorem dX11_year_85 : decode cX11_year 85 = .ok (.getfield 16, 3) := by decide +kernel
theorem dX11_year_88 : decode cX11_year 88 = .ok (.iconst 0, 1) := by decide +kernel
theorem dX11_year_89 : decode cX11_year 89 = .ok (.invokevirtual 166, 3) := by decide +kernel
theorem dX11_year_92 : decode cX11_year 92 = .ok (.ireturn, 1) := by decide +kernel
set_option maxRecDepth 20000 in
theorem ggX11_image_X5_within : GoodIn wsX11_image wsX5_within := goodIn_r _ [6] (by decide +kernel) (by decide +kernel)
set_option maxRecDepth 20000 in
theorem gX11_image_X5_within : GoodIn wsX11_image (va_wsS RX11 92 yX5_within wsX5_within) := goodIn_app (goodIn_of _ (by decide +kernel)) ggX11_image_X5_within
set_option maxRecDepth 20000 in
theorem ggX11_image_X11_imageOf : GoodIn wsX11_image wsX11_imageOf := goodIn_r _ [11, 12, 13, 43, 44, 45, 46, 47, 48, 49, 50, 51, 52, 53, 54, 55] (by decide +kernel) (by decide +kernel)
set_option maxRecDepth 20000 in
theorem gX11_image_X11_imageOf : GoodIn wsX11_image (wsV RX11 283 RX11 yX11_imageOf wsX11_imageOf) := goodIn_app (goodIn_of _ (by decide +kernel)) ggX11_image_X11_imageOf
set_option maxRecDepth 20000 in
theorem ggX11_image_X10_copy : GoodIn wsX11_image wsX10_copy := goodIn_r _ [18, 19, 20, 21, 22, 23, 24, 25, 26, 27, 28, 29, 5, 30, 31, 32, 33, 34, 35, 36, 37, 38, 39, 40, 41, 42, 56, 57, 58, 59, 60, 61, 62, 63, 64, 65, 66, 67] (by decide +kernel) (by decide +kernel)
set_option maxRecDepth 20000 in
theorem gX11_image_X10_copy : GoodIn wsX11_image (wsV RX11 181 RX10 yX10_copy wsX10_copy) := goodIn_app (goodIn_of _ (by decide +kernel)) ggX11_image_X10_copy
theorem dX11_image_0 : decode cX11_image 0 = .ok (.iload_n 1, 1) := by decide +kernel
theorem dX11_image_1 : decode cX11_image 1 = .ok (.iconst 0, 1) := by decide +kernel
theorem dX11_image_2 : decode cX11_image 2 = .ok (.iconst 1, 1) := by decide +kernel
theorem dX11_image_3 : decode cX11_image 3 = .ok (.invokestatic 92, 3) := by decide +kernel
theorem dX11_image_6 : decode cX11_image 6 = .ok (.ifCond .ne 6, 3) := by decide +kernel
theorem dX11_image_9 : decode cX11_image 9 = .ok (.bipush (-2), 2) := by decide +kernel
theorem dX11_image_11 : decode cX11_image 11 = .ok (.ireturn, 1) := by decide +kernel
theorem dX11_image_12 : decode cX11_image 12 = .ok (.aload_n 0, 1) := by decide +kernel
theorem dX11_image_13 : decode cX11_image 13 = .ok (.iload_n 1, 1) := by decide +kernel
theorem dX11_image_14 : decode cX11_image 14 = .ok (.invokevirtual 283, 3) := by decide +kernel
theorem dX11_image_17 : decode cX11_image 17 = .ok (.aload_n 0, 1) := by decide +kernel
theorem dX11_image_18 : decode cX11_image 18 = .ok (.getfield 10, 3) := by decide +kernel
theorem dX11_image_21 : decode cX11_image 21 = .ok (.invokevirtual 181, 3) := by decide +kernel
theorem dX11_image_24 : decode cX11_image 24 = .ok (.aload_n 0, 1) := by decide +kernel
theorem dX11_image_25 : decode cX11_image 25 = .ok (.dup, 1) := by decide +kernel
theorem dX11_image_26 : decode cX11_image 26 = .ok (.getfield 81, 3) := by decide +kernel
theorem dX11_image_29 : decode cX11_image 29 = .ok (.iconst 1, 1) := by decide +kernel
theorem dX11_image_30 : decode cX11_image 30 = .ok (.iload_n 1, 1) := by decide +kernel
theorem dX11_image_31 : decode cX11_image 31 = .ok (.ishl, 1) := by decide +kernel
theorem dX11_image_32 : decode cX11_image 32 = .ok (.ior, 1) := by decide +kernel
theorem dX11_image_33 : decode cX11_image 33 = .ok (.putfield 81, 3) := by decide +kernel
theorem dX11_image_36 : decode cX11_image 36 = .ok (.iconst 1, 1) := by decide +kernel
theorem dX11_image_37 : decode cX11_image 37 = .ok (.ireturn, 1) := by decide +kernel
set_option maxRecDepth 20000 in
theorem ggX11_restore_X5_within : GoodIn wsX11_restore wsX5_within := goodIn_r _ [6] (by decide +kernel) (by decide +kernel)
set_option maxRecDepth 20000 in
theorem gX11_restore_X5_within : GoodIn wsX11_restore (va_wsS RX11 92 yX5_within wsX5_within) := goodIn_app (goodIn_of _ (by decide +kernel)) ggX11_restore_X5_within
set_option maxRecDepth 20000 in
theorem ggX11_restore_X11_imageOf : GoodIn wsX11_restore wsX11_imageOf := goodIn_r _ [11, 12, 13, 43, 44, 45, 46, 47, 48, 49, 50, 51, 52, 53, 54, 55] (by decide +kernel) (by decide +kernel)
set_option maxRecDepth 20000 in
theorem gX11_restore_X11_imageOf : GoodIn wsX11_restore (wsV RX11 283 RX11 yX11_imageOf wsX11_imageOf) := goodIn_app (goodIn_of _ (by decide +kernel)) ggX11_restore_X11_imageOf
set_option maxRecDepth 20000 in
theorem ggX11_restore_X10_copy : GoodIn wsX11_restore wsX10_copy := goodIn_r _ [18, 19, 20, 21, 22, 23, 24, 25, 26, 27, 28, 29, 5, 30, 31, 32, 33, 34, 35, 36, 37, 38, 39, 40, 41, 42, 56, 57, 58, 59, 60, 61, 62, 63, 64, 65, 66, 67] (by decide +kernel) (by decide +kernel)
set_option maxRecDepth 20000 in
theorem gX11_restore_X10_copy : GoodIn wsX11_restore (wsV RX11 181 RX10 yX10_copy wsX10_copy) := goodIn_app (goodIn_of _ (by decide +kernel)) ggX11_restore_X10_copy
theorem dX11_restore_0 : decode cX11_restore 0 = .ok (.iload_n 1, 1) := by decide +kernel
theorem dX11_restore_1 : decode cX11_restore 1 = .ok (.iconst 0, 1) := by decide +kernel
theorem dX11_restore_2 : decode cX11_restore 2 = .ok (.iconst 1, 1) := by decide +kernel
theorem dX11_restore_3 : decode cX11_restore 3 = .ok (.invokestatic 92, 3) := by decide +kernel
theorem dX11_restore_6 : decode cX11_restore 6 = .ok (.ifCond .ne 6, 3) := by decide +kernel
theorem dX11_restore_9 : decode cX11_restore 9 = .ok (.bipush (-2), 2) := by decide +kernel
theorem dX11_restore_11 : decode cX11_restore 11 = .ok (.ireturn, 1) := by decide +kernel
theorem dX11_restore_12 : decode cX11_restore 12 = .ok (.aload_n 0, 1) := by decide +kernel
theorem dX11_restore_13 : decode cX11_restore 13 = .ok (.getfield 81, 3) := by decide +kernel
theorem dX11_restore_16 : decode cX11_restore 16 = .ok (.iload_n 1, 1) := by decide +kernel
theorem dX11_restore_17 : decode cX11_restore 17 = .ok (.ishr, 1) := by decide +kernel
theorem dX11_restore_18 : decode cX11_restore 18 = .ok (.iconst 1, 1) := by decide +kernel
theorem dX11_restore_19 : decode cX11_restore 19 = .ok (.iand, 1) := by decide +kernel
theorem dX11_restore_20 : decode cX11_restore 20 = .ok (.ifCond .ne 6, 3) := by decide +kernel
theorem dX11_restore_23 : decode cX11_restore 23 = .ok (.bipush (-3), 2) := by decide +kernel
theorem dX11_restore_25 : decode cX11_restore 25 = .ok (.ireturn, 1) := by decide +kernel
theorem dX11_restore_26 : decode cX11_restore 26 = .ok (.aload_n 0, 1) := by decide +kernel
theorem dX11_restore_27 : decode cX11_restore 27 = .ok (.getfield 10, 3) := by decide +kernel
theorem dX11_restore_30 : decode cX11_restore 30 = .ok (.aload_n 0, 1) := by decide +kernel
theorem dX11_restore_31 : decode cX11_restore 31 = .ok (.iload_n 1, 1) := by decide +kernel
theorem dX11_restore_32 : decode cX11_restore 32 = .ok (.invokevirtual 283, 3) := by decide +kernel
theorem dX11_restore_35 : decode cX11_restore 35 = .ok (.invokevirtual 181, 3) := by decide +kernel
theorem dX11_restore_38 : decode cX11_restore 38 = .ok (.iconst 1, 1) := by decide +kernel
theorem dX11_restore_39 : decode cX11_restore 39 = .ok (.ireturn, 1) := by decide +kernel
set_option maxRecDepth 20000 in
theorem ggX11_told_X11_toldOfThing : GoodIn wsX11_told wsX11_toldOfThing := goodIn_r _ [14, 1, 15, 16, 17, 18, 19, 20, 13, 21, 22, 23, 24, 25, 26, 27, 28, 29, 30, 31, 32, 33, 34, 35, 36, 37, 38, 39, 40, 41, 42, 43, 44, 45, 46, 47, 48, 49, 50] (by decide +kernel) (by decide +kernel)
set_option maxRecDepth 20000 in
theorem gX11_told_X11_toldOfThing : GoodIn wsX11_told (wsV RX11 287 RX11 yX11_toldOfThing wsX11_toldOfThing) := goodIn_app (goodIn_of _ (by decide +kernel)) ggX11_told_X11_toldOfThing
set_option maxRecDepth 20000 in
theorem ggX11_told_X5_within : GoodIn wsX11_told wsX5_within := goodIn_r _ [25] (by decide +kernel) (by decide +kernel)
set_option maxRecDepth 20000 in
theorem gX11_told_X5_within : GoodIn wsX11_told (va_wsS RX11 92 yX5_within wsX5_within) := goodIn_app (goodIn_of _ (by decide +kernel)) ggX11_told_X5_within
set_option maxRecDepth 20000 in
theorem ggX11_told_X5_at : GoodIn wsX11_told wsX5_at := goodIn_r _ [28] (by decide +kernel) (by decide +kernel)
set_option maxRecDepth 20000 in
theorem gX11_told_X5_at : GoodIn wsX11_told (va_wsS RX11 102 yX5_at wsX5_at) := goodIn_app (goodIn_of _ (by decide +kernel)) ggX11_told_X5_at
theorem dX11_told_0 : decode cX11_told 0 = .ok (.iload_n 1, 1) := by decide +kernel
theorem dX11_told_1 : decode cX11_told 1 = .ok (.bipush 100, 2) := by decide +kernel
theorem dX11_told_3 : decode cX11_told 3 = .ok (.if_icmp .lt 22, 3) := by decide +kernel
theorem dX11_told_6 : decode cX11_told 6 = .ok (.aload_n 0, 1) := by decide +kernel
theorem dX11_told_7 : decode cX11_told 7 = .ok (.iload_n 1, 1) := by decide +kernel
theorem dX11_told_8 : decode cX11_told 8 = .ok (.bipush 100, 2) := by decide +kernel
theorem dX11_told_10 : decode cX11_told 10 = .ok (.isub, 1) := by decide +kernel
theorem dX11_told_11 : decode cX11_told 11 = .ok (.bipush 10, 2) := by decide +kernel
theorem dX11_told_13 : decode cX11_told 13 = .ok (.idiv, 1) := by decide +kernel
theorem dX11_told_14 : decode cX11_told 14 = .ok (.iload_n 1, 1) := by decide +kernel
theorem dX11_told_15 : decode cX11_told 15 = .ok (.bipush 100, 2) := by decide +kernel
theorem dX11_told_17 : decode cX11_told 17 = .ok (.isub, 1) := by decide +kernel
theorem dX11_told_18 : decode cX11_told 18 = .ok (.bipush 10, 2) := by decide +kernel
theorem dX11_told_20 : decode cX11_told 20 = .ok (.irem, 1) := by decide +kernel
theorem dX11_told_21 : decode cX11_told 21 = .ok (.invokevirtual 287, 3) := by decide +kernel
theorem dX11_told_24 : decode cX11_told 24 = .ok (.ireturn, 1) := by decide +kernel
theorem dX11_told_25 : decode cX11_told 25 = .ok (.iload_n 1, 1) := by decide +kernel
theorem dX11_told_26 : decode cX11_told 26 = .ok (.bipush 20, 2) := by decide +kernel
theorem dX11_told_28 : decode cX11_told 28 = .ok (.bipush 27, 2) := by decide +kernel
theorem dX11_told_30 : decode cX11_told 30 = .ok (.invokestatic 92, 3) := by decide +kernel
theorem dX11_told_33 : decode cX11_told 33 = .ok (.ifCond .eq 18, 3) := by decide +kernel
theorem dX11_told_36 : decode cX11_told 36 = .ok (.aload_n 0, 1) := by decide +kernel
theorem dX11_told_37 : decode cX11_told 37 = .ok (.getfield 10, 3) := by decide +kernel
theorem dX11_told_40 : decode cX11_told 40 = .ok (.getfield 290, 3) := by decide +kernel
theorem dX11_told_43 : decode cX11_told 43 = .ok (.iload_n 1, 1) := by decide +kernel
theorem dX11_told_44 : decode cX11_told 44 = .ok (.bipush 20, 2) := by decide +kernel
theorem dX11_told_46 : decode cX11_told 46 = .ok (.isub, 1) := by decide +kernel
theorem dX11_told_47 : decode cX11_told 47 = .ok (.invokestatic 102, 3) := by decide +kernel
theorem dX11_told_50 : decode cX11_told 50 = .ok (.ireturn, 1) := by decide +kernel
theorem dX11_told_51 : decode cX11_told 51 = .ok (.iload_n 1, 1) := by decide +kernel
theorem dX11_told_52 : decode cX11_told 52 = .ok (.bipush 10, 2) := by decide +kernel
theorem dX11_told_54 : decode cX11_told 54 = .ok (.bipush 17, 2) := by decide +kernel
theorem dX11_told_56 : decode cX11_told 56 = .ok (.invokestatic 92, 3) := by decide +kernel
theorem dX11_told_59 : decode cX11_told 59 = .ok (.ifCond .eq 18, 3) := by decide +kernel
theorem dX11_told_62 : decode cX11_told 62 = .ok (.aload_n 0, 1) := by decide +kernel
theorem dX11_told_63 : decode cX11_told 63 = .ok (.getfield 10, 3) := by decide +kernel
theorem dX11_told_66 : decode cX11_told 66 = .ok (.getfield 119, 3) := by decide +kernel
theorem dX11_told_69 : decode cX11_told 69 = .ok (.iload_n 1, 1) := by decide +kernel
theorem dX11_told_70 : decode cX11_told 70 = .ok (.bipush 10, 2) := by decide +kernel
theorem dX11_told_72 : decode cX11_told 72 = .ok (.isub, 1) := by decide +kernel
theorem dX11_told_73 : decode cX11_told 73 = .ok (.invokestatic 102, 3) := by decide +kernel
theorem dX11_told_76 : decode cX11_told 76 = .ok (.ireturn, 1) := by decide +kernel
theorem dX11_told_77 : decode cX11_told 77 = .ok (.iload_n 1, 1) := by decide +kernel
theorem dX11_told_78 : decode cX11_told 78 = .ok (.tableswitch 65 0 3 #[30, 38, 46, 54], 30) := by decide +kernel
theorem dX11_told_108 : decode cX11_told 108 = .ok (.aload_n 0, 1) := by decide +kernel
theorem dX11_told_109 : decode cX11_told 109 = .ok (.getfield 22, 3) := by decide +kernel
theorem dX11_told_112 : decode cX11_told 112 = .ok (.getfield 133, 3) := by decide +kernel
theorem dX11_told_115 : decode cX11_told 115 = .ok (.ireturn, 1) := by decide +kernel
theorem dX11_told_116 : decode cX11_told 116 = .ok (.aload_n 0, 1) := by decide +kernel
theorem dX11_told_117 : decode cX11_told 117 = .ok (.getfield 10, 3) := by decide +kernel
theorem dX11_told_120 : decode cX11_told 120 = .ok (.getfield 122, 3) := by decide +kernel
theorem dX11_told_123 : decode cX11_told 123 = .ok (.ireturn, 1) := by decide +kernel
theorem dX11_told_124 : decode cX11_told 124 = .ok (.aload_n 0, 1) := by decide +kernel
theorem dX11_told_125 : decode cX11_told 125 = .ok (.getfield 10, 3) := by decide +kernel
theorem dX11_told_128 : decode cX11_told 128 = .ok (.getfield 293, 3) := by decide +kernel
theorem dX11_told_131 : decode cX11_told 131 = .ok (.ireturn, 1) := by decide +kernel
theorem dX11_told_132 : decode cX11_told 132 = .ok (.aload_n 0, 1) := by decide +kernel
theorem dX11_told_133 : decode cX11_told 133 = .ok (.getfield 10, 3) := by decide +kernel
theorem dX11_told_136 : decode cX11_told 136 = .ok (.getfield 238, 3) := by decide +kernel
theorem dX11_told_139 : decode cX11_told 139 = .ok (.getfield 242, 3) := by decide +kernel
theorem dX11_told_142 : decode cX11_told 142 = .ok (.ireturn, 1) := by decide +kernel
theorem dX11_told_143 : decode cX11_told 143 = .ok (.bipush (-2), 2) := by decide +kernel
theorem dX11_told_145 : decode cX11_told 145 = .ok (.ireturn, 1) := by decide +kernel
set_option maxRecDepth 20000 in
theorem ggX11_toldOfThing_X11_isThing : GoodIn wsX11_toldOfThing wsX11_isThing := goodIn_r _ [9, 10, 11, 12, 13] (by decide +kernel) (by decide +kernel)
set_option maxRecDepth 20000 in
theorem gX11_toldOfThing_X11_isThing : GoodIn wsX11_toldOfThing (va_wsS RX11 85 yX11_isThing wsX11_isThing) := goodIn_app (goodIn_of _ (by decide +kernel)) ggX11_toldOfThing_X11_isThing
set_option maxRecDepth 20000 in
theorem ggX11_toldOfThing_X5_at : GoodIn wsX11_toldOfThing wsX5_at := goodIn_r _ [16] (by decide +kernel) (by decide +kernel)
set_option maxRecDepth 20000 in
theorem gX11_toldOfThing_X5_at : GoodIn wsX11_toldOfThing (va_wsS RX11 102 yX5_at wsX5_at) := goodIn_app (goodIn_of _ (by decide +kernel)) ggX11_toldOfThing_X5_at
theorem dX11_toldOfThing_0 : decode cX11_toldOfThing 0 = .ok (.iload_n 1, 1) := by decide +kernel
theorem dX11_toldOfThing_1 : decode cX11_toldOfThing 1 = .ok (.invokestatic 85, 3) := by decide +kernel
theorem dX11_toldOfThing_4 : decode cX11_toldOfThing 4 = .ok (.ifCond .ne 6, 3) := by decide +kernel
theorem dX11_toldOfThing_7 : decode cX11_toldOfThing 7 = .ok (.bipush (-2), 2) := by decide +kernel
theorem dX11_toldOfThing_9 : decode cX11_toldOfThing 9 = .ok (.ireturn, 1) := by decide +kernel
theorem dX11_toldOfThing_10 : decode cX11_toldOfThing 10 = .ok (.iload_n 2, 1) := by decide +kernel
theorem dX11_toldOfThing_11 : decode cX11_toldOfThing 11 = .ok (.tableswitch 77 0 3 #[29, 41, 53, 65], 29) := by decide +kernel
theorem dX11_toldOfThing_40 : decode cX11_toldOfThing 40 = .ok (.aload_n 0, 1) := by decide +kernel
theorem dX11_toldOfThing_41 : decode cX11_toldOfThing 41 = .ok (.getfield 10, 3) := by decide +kernel
theorem dX11_toldOfThing_44 : decode cX11_toldOfThing 44 = .ok (.getfield 98, 3) := by decide +kernel
theorem dX11_toldOfThing_47 : decode cX11_toldOfThing 47 = .ok (.iload_n 1, 1) := by decide +kernel
theorem dX11_toldOfThing_48 : decode cX11_toldOfThing 48 = .ok (.invokestatic 102, 3) := by decide +kernel
theorem dX11_toldOfThing_51 : decode cX11_toldOfThing 51 = .ok (.ireturn, 1) := by decide +kernel
theorem dX11_toldOfThing_52 : decode cX11_toldOfThing 52 = .ok (.aload_n 0, 1) := by decide +kernel
theorem dX11_toldOfThing_53 : decode cX11_toldOfThing 53 = .ok (.getfield 10, 3) := by decide +kernel
theorem dX11_toldOfThing_56 : decode cX11_toldOfThing 56 = .ok (.getfield 110, 3) := by decide +kernel
theorem dX11_toldOfThing_59 : decode cX11_toldOfThing 59 = .ok (.iload_n 1, 1) := by decide +kernel
theorem dX11_toldOfThing_60 : decode cX11_toldOfThing 60 = .ok (.invokestatic 102, 3) := by decide +kernel
theorem dX11_toldOfThing_63 : decode cX11_toldOfThing 63 = .ok (.ireturn, 1) := by decide +kernel
theorem dX11_toldOfThing_64 : decode cX11_toldOfThing 64 = .ok (.aload_n 0, 1) := by decide +kernel
theorem dX11_toldOfThing_65 : decode cX11_toldOfThing 65 = .ok (.getfield 10, 3) := by decide +kernel
theorem dX11_toldOfThing_68 : decode cX11_toldOfThing 68 = .ok (.getfield 113, 3) := by decide +kernel
theorem dX11_toldOfThing_71 : decode cX11_toldOfThing 71 = .ok (.iload_n 1, 1) := by decide +kernel
theorem dX11_toldOfThing_72 : decode cX11_toldOfThing 72 = .ok (.invokestatic 102, 3) := by decide +kernel
theorem dX11_toldOfThing_75 : decode cX11_toldOfThing 75 = .ok (.ireturn, 1) := by decide +kernel
theorem dX11_toldOfThing_76 : decode cX11_toldOfThing 76 = .ok (.aload_n 0, 1) := by decide +kernel
theorem dX11_toldOfThing_77 : decode cX11_toldOfThing 77 = .ok (.getfield 10, 3) := by decide +kernel
theorem dX11_toldOfThing_80 : decode cX11_toldOfThing 80 = .ok (.getfield 116, 3) := by decide +kernel
theorem dX11_toldOfThing_83 : decode cX11_toldOfThing 83 = .ok (.iload_n 1, 1) := by decide +kernel
theorem dX11_toldOfThing_84 : decode cX11_toldOfThing 84 = .ok (.invokestatic 102, 3) := by decide +kernel
theorem dX11_toldOfThing_87 : decode cX11_toldOfThing 87 = .ok (.ireturn, 1) := by decide +kernel
theorem dX11_toldOfThing_88 : decode cX11_toldOfThing 88 = .ok (.bipush (-2), 2) := by decide +kernel
theorem dX11_toldOfThing_90 : decode cX11_toldOfThing 90 = .ok (.ireturn, 1) := by decide +kernel
set_option maxRecDepth 20000 in
theorem ggX11_isThing_X5_within : GoodIn wsX11_isThing wsX5_within := goodIn_r _ [4] (by decide +kernel) (by decide +kernel)
set_option maxRecDepth 20000 in
theorem gX11_isThing_X5_within : GoodIn wsX11_isThing (va_wsS RX11 92 yX5_within wsX5_within) := goodIn_app (goodIn_of _ (by decide +kernel)) ggX11_isThing_X5_within
theorem dX11_isThing_0 : decode cX11_isThing 0 = .ok (.iload_n 0, 1) := by decide +kernel
theorem dX11_isThing_1 : decode cX11_isThing 1 = .ok (.iconst 0, 1) := by decide +kernel
theorem dX11_isThing_2 : decode cX11_isThing 2 = .ok (.bipush 11, 2) := by decide +kernel
theorem dX11_isThing_4 : decode cX11_isThing 4 = .ok (.invokestatic 92, 3) := by decide +kernel
theorem dX11_isThing_7 : decode cX11_isThing 7 = .ok (.ireturn, 1) := by decide +kernel
set_option maxRecDepth 20000 in
theorem ggX11_isOne_X5_within : GoodIn wsX11_isOne wsX5_within := goodIn_r _ [4] (by decide +kernel) (by decide +kernel)
set_option maxRecDepth 20000 in
theorem gX11_isOne_X5_within : GoodIn wsX11_isOne (va_wsS RX11 92 yX5_within wsX5_within) := goodIn_app (goodIn_of _ (by decide +kernel)) ggX11_isOne_X5_within
theorem dX11_isOne_0 : decode cX11_isOne 0 = .ok (.iload_n 0, 1) := by decide +kernel
theorem dX11_isOne_1 : decode cX11_isOne 1 = .ok (.iconst 0, 1) := by decide +kernel
theorem dX11_isOne_2 : decode cX11_isOne 2 = .ok (.bipush 7, 2) := by decide +kernel
theorem dX11_isOne_4 : decode cX11_isOne 4 = .ok (.invokestatic 92, 3) := by decide +kernel
theorem dX11_isOne_7 : decode cX11_isOne 7 = .ok (.ireturn, 1) := by decide +kernel
theorem dX11_imageOf_0 : decode cX11_imageOf 0 = .ok (.iload_n 1, 1) := by decide +kernel
theorem dX11_imageOf_1 : decode cX11_imageOf 1 = .ok (.ifCond .ne 10, 3) := by decide +kernel
theorem dX11_imageOf_4 : decode cX11_imageOf 4 = .ok (.aload_n 0, 1) := by decide +kernel
theorem dX11_imageOf_5 : decode cX11_imageOf 5 = .ok (.getfield 75, 3) := by decide +kernel
theorem dX11_imageOf_8 : decode cX11_imageOf 8 = .ok (.goto 7, 3) := by decide +kernel
theorem dX11_imageOf_11 : decode cX11_imageOf 11 = .ok (.aload_n 0, 1) := by decide +kernel
theorem dX11_imageOf_12 : decode cX11_imageOf 12 = .ok (.getfield 78, 3) := by decide +kernel
theorem dX11_imageOf_15 : decode cX11_imageOf 15 = .ok (.areturn, 1) := by decide +kernel
set_option maxRecDepth 20000 in
theorem ggX11_fewestNights_X5_at : GoodIn wsX11_fewestNights wsX5_at := goodIn_r _ [10] (by decide +kernel) (by decide +kernel)
set_option maxRecDepth 20000 in
theorem gX11_fewestNights_X5_at : GoodIn wsX11_fewestNights (va_wsS RX11 102 yX5_at wsX5_at) := goodIn_app (goodIn_of _ (by decide +kernel)) ggX11_fewestNights_X5_at
theorem dX11_fewestNights_0 : decode cX11_fewestNights 0 = .ok (.iconst 0, 1) := by decide +kernel
theorem dX11_fewestNights_1 : decode cX11_fewestNights 1 = .ok (.istore_n 3, 1) := by decide +kernel
theorem dX11_fewestNights_2 : decode cX11_fewestNights 2 = .ok (.iconst 0, 1) := by decide +kernel
theorem dX11_fewestNights_3 : decode cX11_fewestNights 3 = .ok (.istore 4, 2) := by decide +kernel
theorem dX11_fewestNights_5 : decode cX11_fewestNights 5 = .ok (.iconst 0, 1) := by decide +kernel
theorem dX11_fewestNights_6 : decode cX11_fewestNights 6 = .ok (.istore 5, 2) := by decide +kernel
theorem dX11_fewestNights_8 : decode cX11_fewestNights 8 = .ok (.iload 5, 2) := by decide +kernel
theorem dX11_fewestNights_10 : decode cX11_fewestNights 10 = .ok (.bipush 12, 2) := by decide +kernel
theorem dX11_fewestNights_12 : decode cX11_fewestNights 12 = .ok (.if_icmp .ge 53, 3) := by decide +kernel
theorem dX11_fewestNights_15 : decode cX11_fewestNights 15 = .ok (.iload_n 2, 1) := by decide +kernel
theorem dX11_fewestNights_16 : decode cX11_fewestNights 16 = .ok (.iload 5, 2) := by decide +kernel
theorem dX11_fewestNights_18 : decode cX11_fewestNights 18 = .ok (.ishr, 1) := by decide +kernel
theorem dX11_fewestNights_19 : decode cX11_fewestNights 19 = .ok (.iconst 1, 1) := by decide +kernel
theorem dX11_fewestNights_20 : decode cX11_fewestNights 20 = .ok (.iand, 1) := by decide +kernel
theorem dX11_fewestNights_21 : decode cX11_fewestNights 21 = .ok (.iconst 1, 1) := by decide +kernel
theorem dX11_fewestNights_22 : decode cX11_fewestNights 22 = .ok (.if_icmp .ne 37, 3) := by decide +kernel
theorem dX11_fewestNights_25 : decode cX11_fewestNights 25 = .ok (.iconst 0, 1) := by decide +kernel
theorem dX11_fewestNights_26 : decode cX11_fewestNights 26 = .ok (.iconst 2, 1) := by decide +kernel
theorem dX11_fewestNights_27 : decode cX11_fewestNights 27 = .ok (.aload_n 0, 1) := by decide +kernel
theorem dX11_fewestNights_28 : decode cX11_fewestNights 28 = .ok (.getfield 10, 3) := by decide +kernel
theorem dX11_fewestNights_31 : decode cX11_fewestNights 31 = .ok (.getfield 110, 3) := by decide +kernel
theorem dX11_fewestNights_34 : decode cX11_fewestNights 34 = .ok (.iload 5, 2) := by decide +kernel
theorem dX11_fewestNights_36 : decode cX11_fewestNights 36 = .ok (.invokestatic 102, 3) := by decide +kernel
theorem dX11_fewestNights_39 : decode cX11_fewestNights 39 = .ok (.isub, 1) := by decide +kernel
theorem dX11_fewestNights_40 : decode cX11_fewestNights 40 = .ok (.invokestatic 296, 3) := by decide +kernel
theorem dX11_fewestNights_43 : decode cX11_fewestNights 43 = .ok (.istore 6, 2) := by decide +kernel
theorem dX11_fewestNights_45 : decode cX11_fewestNights 45 = .ok (.iload_n 3, 1) := by decide +kernel
theorem dX11_fewestNights_46 : decode cX11_fewestNights 46 = .ok (.iload 6, 2) := by decide +kernel
theorem dX11_fewestNights_48 : decode cX11_fewestNights 48 = .ok (.iadd, 1) := by decide +kernel
theorem dX11_fewestNights_49 : decode cX11_fewestNights 49 = .ok (.istore_n 3, 1) := by decide +kernel
theorem dX11_fewestNights_50 : decode cX11_fewestNights 50 = .ok (.iload 4, 2) := by decide +kernel
theorem dX11_fewestNights_52 : decode cX11_fewestNights 52 = .ok (.iload 6, 2) := by decide +kernel
theorem dX11_fewestNights_54 : decode cX11_fewestNights 54 = .ok (.invokestatic 296, 3) := by decide +kernel
theorem dX11_fewestNights_57 : decode cX11_fewestNights 57 = .ok (.istore 4, 2) := by decide +kernel
theorem dX11_fewestNights_59 : decode cX11_fewestNights 59 = .ok (.iinc 5 1, 3) := by decide +kernel
theorem dX11_fewestNights_62 : decode cX11_fewestNights 62 = .ok (.goto (-54), 3) := by decide +kernel
theorem dX11_fewestNights_65 : decode cX11_fewestNights 65 = .ok (.iload_n 1, 1) := by decide +kernel
theorem dX11_fewestNights_66 : decode cX11_fewestNights 66 = .ok (.ifCond .le 13, 3) := by decide +kernel
theorem dX11_fewestNights_69 : decode cX11_fewestNights 69 = .ok (.iload_n 3, 1) := by decide +kernel
theorem dX11_fewestNights_70 : decode cX11_fewestNights 70 = .ok (.iload_n 1, 1) := by decide +kernel
theorem dX11_fewestNights_71 : decode cX11_fewestNights 71 = .ok (.iadd, 1) := by decide +kernel
theorem dX11_fewestNights_72 : decode cX11_fewestNights 72 = .ok (.iconst 1, 1) := by decide +kernel
theorem dX11_fewestNights_73 : decode cX11_fewestNights 73 = .ok (.isub, 1) := by decide +kernel
theorem dX11_fewestNights_74 : decode cX11_fewestNights 74 = .ok (.iload_n 1, 1) := by decide +kernel
theorem dX11_fewestNights_75 : decode cX11_fewestNights 75 = .ok (.idiv, 1) := by decide +kernel
theorem dX11_fewestNights_76 : decode cX11_fewestNights 76 = .ok (.goto 4, 3) := by decide +kernel
theorem dX11_fewestNights_79 : decode cX11_fewestNights 79 = .ok (.iconst 0, 1) := by decide +kernel
theorem dX11_fewestNights_80 : decode cX11_fewestNights 80 = .ok (.istore 5, 2) := by decide +kernel
theorem dX11_fewestNights_82 : decode cX11_fewestNights 82 = .ok (.iload 4, 2) := by decide +kernel
theorem dX11_fewestNights_84 : decode cX11_fewestNights 84 = .ok (.iload 5, 2) := by decide +kernel
theorem dX11_fewestNights_86 : decode cX11_fewestNights 86 = .ok (.invokestatic 296, 3) := by decide +kernel
theorem dX11_fewestNights_89 : decode cX11_fewestNights 89 = .ok (.ireturn, 1) := by decide +kernel
set_option maxRecDepth 20000 in
theorem ggX11_liveThrough_X11_kindInYear : GoodIn wsX11_liveThrough wsX11_kindInYear := goodIn_r _ [5] (by decide +kernel) (by decide +kernel)
set_option maxRecDepth 20000 in
theorem gX11_liveThrough_X11_kindInYear : GoodIn wsX11_liveThrough (va_wsS RX11 302 yX11_kindInYear wsX11_kindInYear) := goodIn_app (goodIn_of _ (by decide +kernel)) ggX11_liveThrough_X11_kindInYear
set_option maxRecDepth 20000 in
theorem ggX11_liveThrough_X10_act : GoodIn wsX11_liveThrough wsX10_act := goodIn_r _ [10, 11, 12, 13, 14, 9, 15, 16, 17, 18, 19, 20, 21, 22, 23, 24, 25, 26, 27, 28, 29, 30, 31, 32, 33, 34, 35, 36, 37, 38, 39, 40, 41, 42, 43, 44, 45, 46, 47, 48, 49, 50, 51, 52, 53, 54, 55, 56, 57, 58, 59, 60, 61, 62, 63, 64, 65, 66, 67, 68, 69, 70, 71, 72, 73, 74, 75, 76, 77] (by decide +kernel) (by decide +kernel)
set_option maxRecDepth 20000 in
theorem gX11_liveThrough_X10_act : GoodIn wsX11_liveThrough (wsV RX11 305 RX10 yX10_act wsX10_act) := goodIn_app (goodIn_of _ (by decide +kernel)) ggX11_liveThrough_X10_act
theorem dX11_liveThrough_0 : decode cX11_liveThrough 0 = .ok (.iload_n 1, 1) := by decide +kernel
theorem dX11_liveThrough_1 : decode cX11_liveThrough 1 = .ok (.istore_n 3, 1) := by decide +kernel
theorem dX11_liveThrough_2 : decode cX11_liveThrough 2 = .ok (.iconst 0, 1) := by decide +kernel
theorem dX11_liveThrough_3 : decode cX11_liveThrough 3 = .ok (.istore 4, 2) := by decide +kernel
theorem dX11_liveThrough_5 : decode cX11_liveThrough 5 = .ok (.iload 4, 2) := by decide +kernel
theorem dX11_liveThrough_7 : decode cX11_liveThrough 7 = .ok (.iload_n 2, 1) := by decide +kernel
theorem dX11_liveThrough_8 : decode cX11_liveThrough 8 = .ok (.if_icmp .ge 59, 3) := by decide +kernel
theorem dX11_liveThrough_11 : decode cX11_liveThrough 11 = .ok (.bipush 75, 2) := by decide +kernel
theorem dX11_liveThrough_13 : decode cX11_liveThrough 13 = .ok (.iload_n 3, 1) := by decide +kernel
theorem dX11_liveThrough_14 : decode cX11_liveThrough 14 = .ok (.imul, 1) := by decide +kernel
theorem dX11_liveThrough_15 : decode cX11_liveThrough 15 = .ok (.bipush 74, 2) := by decide +kernel
theorem dX11_liveThrough_17 : decode cX11_liveThrough 17 = .ok (.iadd, 1) := by decide +kernel
theorem dX11_liveThrough_18 : decode cX11_liveThrough 18 = .ok (.ldc_w 301, 3) := by decide +kernel
theorem dX11_liveThrough_21 : decode cX11_liveThrough 21 = .ok (.irem, 1) := by decide +kernel
theorem dX11_liveThrough_22 : decode cX11_liveThrough 22 = .ok (.istore_n 3, 1) := by decide +kernel
theorem dX11_liveThrough_23 : decode cX11_liveThrough 23 = .ok (.iload_n 3, 1) := by decide +kernel
theorem dX11_liveThrough_24 : decode cX11_liveThrough 24 = .ok (.bipush 64, 2) := by decide +kernel
theorem dX11_liveThrough_26 : decode cX11_liveThrough 26 = .ok (.idiv, 1) := by decide +kernel
theorem dX11_liveThrough_27 : decode cX11_liveThrough 27 = .ok (.istore 5, 2) := by decide +kernel
theorem dX11_liveThrough_29 : decode cX11_liveThrough 29 = .ok (.aload_n 0, 1) := by decide +kernel
theorem dX11_liveThrough_30 : decode cX11_liveThrough 30 = .ok (.iload_n 3, 1) := by decide +kernel
theorem dX11_liveThrough_31 : decode cX11_liveThrough 31 = .ok (.bipush 8, 2) := by decide +kernel
theorem dX11_liveThrough_33 : decode cX11_liveThrough 33 = .ok (.idiv, 1) := by decide +kernel
theorem dX11_liveThrough_34 : decode cX11_liveThrough 34 = .ok (.bipush 8, 2) := by decide +kernel
theorem dX11_liveThrough_36 : decode cX11_liveThrough 36 = .ok (.irem, 1) := by decide +kernel
theorem dX11_liveThrough_37 : decode cX11_liveThrough 37 = .ok (.invokestatic 302, 3) := by decide +kernel
theorem dX11_liveThrough_40 : decode cX11_liveThrough 40 = .ok (.iload_n 3, 1) := by decide +kernel
theorem dX11_liveThrough_41 : decode cX11_liveThrough 41 = .ok (.bipush 8, 2) := by decide +kernel
theorem dX11_liveThrough_43 : decode cX11_liveThrough 43 = .ok (.irem, 1) := by decide +kernel
theorem dX11_liveThrough_44 : decode cX11_liveThrough 44 = .ok (.iload 5, 2) := by decide +kernel
theorem dX11_liveThrough_46 : decode cX11_liveThrough 46 = .ok (.bipush 12, 2) := by decide +kernel
theorem dX11_liveThrough_48 : decode cX11_liveThrough 48 = .ok (.irem, 1) := by decide +kernel
theorem dX11_liveThrough_49 : decode cX11_liveThrough 49 = .ok (.iload 5, 2) := by decide +kernel
theorem dX11_liveThrough_51 : decode cX11_liveThrough 51 = .ok (.bipush 12, 2) := by decide +kernel
theorem dX11_liveThrough_53 : decode cX11_liveThrough 53 = .ok (.idiv, 1) := by decide +kernel
theorem dX11_liveThrough_54 : decode cX11_liveThrough 54 = .ok (.bipush 8, 2) := by decide +kernel
theorem dX11_liveThrough_56 : decode cX11_liveThrough 56 = .ok (.irem, 1) := by decide +kernel
theorem dX11_liveThrough_57 : decode cX11_liveThrough 57 = .ok (.invokevirtual 305, 3) := by decide +kernel
theorem dX11_liveThrough_60 : decode cX11_liveThrough 60 = .ok (.pop, 1) := by decide +kernel
theorem dX11_liveThrough_61 : decode cX11_liveThrough 61 = .ok (.iinc 4 1, 3) := by decide +kernel
theorem dX11_liveThrough_64 : decode cX11_liveThrough 64 = .ok (.goto (-59), 3) := by decide +kernel
theorem dX11_liveThrough_67 : decode cX11_liveThrough 67 = .ok (.return_, 1) := by decide +kernel
theorem dX11_kindInYear_0 : decode cX11_kindInYear 0 = .ok (.iload_n 0, 1) := by decide +kernel
theorem dX11_kindInYear_1 : decode cX11_kindInYear 1 = .ok (.tableswitch 47 0 5 #[39, 39, 39, 41, 43, 45], 39) := by decide +kernel
theorem dX11_kindInYear_40 : decode cX11_kindInYear 40 = .ok (.iconst 0, 1) := by decide +kernel
theorem dX11_kindInYear_41 : decode cX11_kindInYear 41 = .ok (.ireturn, 1) := by decide +kernel
theorem dX11_kindInYear_42 : decode cX11_kindInYear 42 = .ok (.iconst 1, 1) := by decide +kernel
theorem dX11_kindInYear_43 : decode cX11_kindInYear 43 = .ok (.ireturn, 1) := by decide +kernel
theorem dX11_kindInYear_44 : decode cX11_kindInYear 44 = .ok (.iconst 2, 1) := by decide +kernel
theorem dX11_kindInYear_45 : decode cX11_kindInYear 45 = .ok (.ireturn, 1) := by decide +kernel
theorem dX11_kindInYear_46 : decode cX11_kindInYear 46 = .ok (.iconst 3, 1) := by decide +kernel
theorem dX11_kindInYear_47 : decode cX11_kindInYear 47 = .ok (.ireturn, 1) := by decide +kernel
theorem dX11_kindInYear_48 : decode cX11_kindInYear 48 = .ok (.iconst 4, 1) := by decide +kernel
theorem dX11_kindInYear_49 : decode cX11_kindInYear 49 = .ok (.ireturn, 1) := by decide +kernel
theorem dX12_init_0 : decode cX12_init 0 = .ok (.aload_n 0, 1) := by decide +kernel
theorem dX12_init_1 : decode cX12_init 1 = .ok (.invokespecial 1, 3) := by decide +kernel
theorem dX12_init_4 : decode cX12_init 4 = .ok (.aload_n 0, 1) := by decide +kernel
theorem dX12_init_5 : decode cX12_init 5 = .ok (.bipush 12, 2) := by decide +kernel
theorem dX12_init_7 : decode cX12_init 7 = .ok (.newarray .int, 2) := by decide +kernel
theorem dX12_init_9 : decode cX12_init 9 = .ok (.putfield 7, 3) := by decide +kernel
theorem dX12_init_12 : decode cX12_init 12 = .ok (.aload_n 0, 1) := by decide +kernel
theorem dX12_init_13 : decode cX12_init 13 = .ok (.bipush 12, 2) := by decide +kernel
theorem dX12_init_15 : decode cX12_init 15 = .ok (.newarray .int, 2) := by decide +kernel
theorem dX12_init_17 : decode cX12_init 17 = .ok (.putfield 13, 3) := by decide +kernel
theorem dX12_init_20 : decode cX12_init 20 = .ok (.aload_n 0, 1) := by decide +kernel
theorem dX12_init_21 : decode cX12_init 21 = .ok (.bipush 12, 2) := by decide +kernel
theorem dX12_init_23 : decode cX12_init 23 = .ok (.newarray .int, 2) := by decide +kernel
theorem dX12_init_25 : decode cX12_init 25 = .ok (.putfield 16, 3) := by decide +kernel
theorem dX12_init_28 : decode cX12_init 28 = .ok (.aload_n 0, 1) := by decide +kernel
theorem dX12_init_29 : decode cX12_init 29 = .ok (.bipush 12, 2) := by decide +kernel
theorem dX12_init_31 : decode cX12_init 31 = .ok (.newarray .int, 2) := by decide +kernel
theorem dX12_init_33 : decode cX12_init 33 = .ok (.putfield 19, 3) := by decide +kernel
theorem dX12_init_36 : decode cX12_init 36 = .ok (.aload_n 0, 1) := by decide +kernel
theorem dX12_init_37 : decode cX12_init 37 = .ok (.bipush 8, 2) := by decide +kernel
theorem dX12_init_39 : decode cX12_init 39 = .ok (.newarray .int, 2) := by decide +kernel
theorem dX12_init_41 : decode cX12_init 41 = .ok (.putfield 22, 3) := by decide +kernel
theorem dX12_init_44 : decode cX12_init 44 = .ok (.aload_n 0, 1) := by decide +kernel
theorem dX12_init_45 : decode cX12_init 45 = .ok (.bipush 8, 2) := by decide +kernel
theorem dX12_init_47 : decode cX12_init 47 = .ok (.newarray .int, 2) := by decide +kernel
theorem dX12_init_49 : decode cX12_init 49 = .ok (.putfield 25, 3) := by decide +kernel
theorem dX12_init_52 : decode cX12_init 52 = .ok (.aload_n 0, 1) := by decide +kernel
theorem dX12_init_53 : decode cX12_init 53 = .ok (.bipush 8, 2) := by decide +kernel
theorem dX12_init_55 : decode cX12_init 55 = .ok (.newarray .int, 2) := by decide +kernel
theorem dX12_init_57 : decode cX12_init 57 = .ok (.putfield 28, 3) := by decide +kernel
theorem dX12_init_60 : decode cX12_init 60 = .ok (.aload_n 0, 1) := by decide +kernel
theorem dX12_init_61 : decode cX12_init 61 = .ok (.bipush 8, 2) := by decide +kernel
theorem dX12_init_63 : decode cX12_init 63 = .ok (.newarray .int, 2) := by decide +kernel
theorem dX12_init_65 : decode cX12_init 65 = .ok (.putfield 31, 3) := by decide +kernel
theorem dX12_init_68 : decode cX12_init 68 = .ok (.aload_n 0, 1) := by decide +kernel
theorem dX12_init_69 : decode cX12_init 69 = .ok (.bipush 60, 2) := by decide +kernel
theorem dX12_init_71 : decode cX12_init 71 = .ok (.newarray .int, 2) := by decide +kernel
theorem dX12_init_73 : decode cX12_init 73 = .ok (.putfield 34, 3) := by decide +kernel
theorem dX12_init_76 : decode cX12_init 76 = .ok (.aload_n 0, 1) := by decide +kernel
theorem dX12_init_77 : decode cX12_init 77 = .ok (.bipush 60, 2) := by decide +kernel
theorem dX12_init_79 : decode cX12_init 79 = .ok (.newarray .int, 2) := by decide +kernel
theorem dX12_init_81 : decode cX12_init 81 = .ok (.putfield 37, 3) := by decide +kernel
theorem dX12_init_84 : decode cX12_init 84 = .ok (.aload_n 0, 1) := by decide +kernel
theorem dX12_init_85 : decode cX12_init 85 = .ok (.bipush 60, 2) := by decide +kernel
theorem dX12_init_87 : decode cX12_init 87 = .ok (.newarray .int, 2) := by decide +kernel
theorem dX12_init_89 : decode cX12_init 89 = .ok (.putfield 40, 3) := by decide +kernel
theorem dX12_init_92 : decode cX12_init 92 = .ok (.aload_n 0, 1) := by decide +kernel
theorem dX12_init_93 : decode cX12_init 93 = .ok (.bipush 60, 2) := by decide +kernel
theorem dX12_init_95 : decode cX12_init 95 = .ok (.newarray .int, 2) := by decide +kernel
theorem dX12_init_97 : decode cX12_init 97 = .ok (.putfield 43, 3) := by decide +kernel
theorem dX12_init_100 : decode cX12_init 100 = .ok (.aload_n 0, 1) := by decide +kernel
theorem dX12_init_101 : decode cX12_init 101 = .ok (.bipush 60, 2) := by decide +kernel
theorem dX12_init_103 : decode cX12_init 103 = .ok (.newarray .int, 2) := by decide +kernel
theorem dX12_init_105 : decode cX12_init 105 = .ok (.putfield 46, 3) := by decide +kernel
theorem dX12_init_108 : decode cX12_init 108 = .ok (.aload_n 0, 1) := by decide +kernel
theorem dX12_init_109 : decode cX12_init 109 = .ok (.bipush 34, 2) := by decide +kernel
theorem dX12_init_111 : decode cX12_init 111 = .ok (.newarray .int, 2) := by decide +kernel
theorem dX12_init_113 : decode cX12_init 113 = .ok (.putfield 49, 3) := by decide +kernel
theorem dX12_init_116 : decode cX12_init 116 = .ok (.aload_n 0, 1) := by decide +kernel
theorem dX12_init_117 : decode cX12_init 117 = .ok (.bipush 8, 2) := by decide +kernel
theorem dX12_init_119 : decode cX12_init 119 = .ok (.newarray .int, 2) := by decide +kernel
theorem dX12_init_121 : decode cX12_init 121 = .ok (.putfield 52, 3) := by decide +kernel
theorem dX12_init_124 : decode cX12_init 124 = .ok (.aload_n 0, 1) := by decide +kernel
theorem dX12_init_125 : decode cX12_init 125 = .ok (.bipush 8, 2) := by decide +kernel
theorem dX12_init_127 : decode cX12_init 127 = .ok (.newarray .int, 2) := by decide +kernel
theorem dX12_init_129 : decode cX12_init 129 = .ok (.putfield 55, 3) := by decide +kernel
theorem dX12_init_132 : decode cX12_init 132 = .ok (.aload_n 0, 1) := by decide +kernel
theorem dX12_init_133 : decode cX12_init 133 = .ok (.bipush 9, 2) := by decide +kernel
theorem dX12_init_135 : decode cX12_init 135 = .ok (.newarray .int, 2) := by decide +kernel
theorem dX12_init_137 : decode cX12_init 137 = .ok (.putfield 58, 3) := by decide +kernel
theorem dX12_init_140 : decode cX12_init 140 = .ok (.aload_n 0, 1) := by decide +kernel
theorem dX12_init_141 : decode cX12_init 141 = .ok (.bipush 10, 2) := by decide +kernel
theorem dX12_init_143 : decode cX12_init 143 = .ok (.newarray .int, 2) := by decide +kernel
theorem dX12_init_145 : decode cX12_init 145 = .ok (.putfield 61, 3) := by decide +kernel
theorem dX12_init_148 : decode cX12_init 148 = .ok (.aload_n 0, 1) := by decide +kernel
theorem dX12_init_149 : decode cX12_init 149 = .ok (.bipush 120, 2) := by decide +kernel
theorem dX12_init_151 : decode cX12_init 151 = .ok (.newarray .int, 2) := by decide +kernel
theorem dX12_init_153 : decode cX12_init 153 = .ok (.putfield 64, 3) := by decide +kernel
theorem dX12_init_156 : decode cX12_init 156 = .ok (.aload_n 0, 1) := by decide +kernel
theorem dX12_init_157 : decode cX12_init 157 = .ok (.sipush 7776, 3) := by decide +kernel
theorem dX12_init_160 : decode cX12_init 160 = .ok (.newarray .boolean, 2) := by decide +kernel
theorem dX12_init_162 : decode cX12_init 162 = .ok (.putfield 67, 3) := by decide +kernel
theorem dX12_init_165 : decode cX12_init 165 = .ok (.aload_n 0, 1) := by decide +kernel
theorem dX12_init_166 : decode cX12_init 166 = .ok (.iconst 5, 1) := by decide +kernel
theorem dX12_init_167 : decode cX12_init 167 = .ok (.newarray .int, 2) := by decide +kernel
theorem dX12_init_169 : decode cX12_init 169 = .ok (.putfield 71, 3) := by decide +kernel
theorem dX12_init_172 : decode cX12_init 172 = .ok (.aload_n 0, 1) := by decide +kernel
theorem dX12_init_173 : decode cX12_init 173 = .ok (.bipush 12, 2) := by decide +kernel
theorem dX12_init_175 : decode cX12_init 175 = .ok (.newarray .long, 2) := by decide +kernel
theorem dX12_init_177 : decode cX12_init 177 = .ok (.putfield 74, 3) := by decide +kernel
theorem dX12_init_180 : decode cX12_init 180 = .ok (.aload_n 0, 1) := by decide +kernel
theorem dX12_init_181 : decode cX12_init 181 = .ok (.sipush 180, 3) := by decide +kernel
theorem dX12_init_184 : decode cX12_init 184 = .ok (.newarray .int, 2) := by decide +kernel
theorem dX12_init_186 : decode cX12_init 186 = .ok (.putfield 78, 3) := by decide +kernel
theorem dX12_init_189 : decode cX12_init 189 = .ok (.aload_n 0, 1) := by decide +kernel
theorem dX12_init_190 : decode cX12_init 190 = .ok (.iconst 2, 1) := by decide +kernel
theorem dX12_init_191 : decode cX12_init 191 = .ok (.newarray .boolean, 2) := by decide +kernel
theorem dX12_init_193 : decode cX12_init 193 = .ok (.putfield 81, 3) := by decide +kernel
theorem dX12_init_196 : decode cX12_init 196 = .ok (.aload_n 0, 1) := by decide +kernel
theorem dX12_init_197 : decode cX12_init 197 = .ok (.sipush 255, 3) := by decide +kernel
theorem dX12_init_200 : decode cX12_init 200 = .ok (.putfield 84, 3) := by decide +kernel
theorem dX12_init_203 : decode cX12_init 203 = .ok (.iconst 0, 1) := by decide +kernel
theorem dX12_init_204 : decode cX12_init 204 = .ok (.istore_n 1, 1) := by decide +kernel
theorem dX12_init_205 : decode cX12_init 205 = .ok (.iload_n 1, 1) := by decide +kernel
theorem dX12_init_206 : decode cX12_init 206 = .ok (.bipush 12, 2) := by decide +kernel
theorem dX12_init_208 : decode cX12_init 208 = .ok (.if_icmp .ge 33, 3) := by decide +kernel
theorem dX12_init_211 : decode cX12_init 211 = .ok (.aload_n 0, 1) := by decide +kernel
theorem dX12_init_212 : decode cX12_init 212 = .ok (.getfield 7, 3) := by decide +kernel
theorem dX12_init_215 : decode cX12_init 215 = .ok (.iload_n 1, 1) := by decide +kernel
theorem dX12_init_216 : decode cX12_init 216 = .ok (.iload_n 1, 1) := by decide +kernel
theorem dX12_init_217 : decode cX12_init 217 = .ok (.bipush 8, 2) := by decide +kernel
theorem dX12_init_219 : decode cX12_init 219 = .ok (.irem, 1) := by decide +kernel
theorem dX12_init_220 : decode cX12_init 220 = .ok (.iastore, 1) := by decide +kernel
theorem dX12_init_221 : decode cX12_init 221 = .ok (.aload_n 0, 1) := by decide +kernel
theorem dX12_init_222 : decode cX12_init 222 = .ok (.getfield 16, 3) := by decide +kernel
theorem dX12_init_225 : decode cX12_init 225 = .ok (.iload_n 1, 1) := by decide +kernel
theorem dX12_init_226 : decode cX12_init 226 = .ok (.iconst 5, 1) := by decide +kernel
theorem dX12_init_227 : decode cX12_init 227 = .ok (.iastore, 1) := by decide +kernel
theorem dX12_init_228 : decode cX12_init 228 = .ok (.aload_n 0, 1) := by decide +kernel
theorem dX12_init_229 : decode cX12_init 229 = .ok (.getfield 19, 3) := by decide +kernel
theorem dX12_init_232 : decode cX12_init 232 = .ok (.iload_n 1, 1) := by decide +kernel
theorem dX12_init_233 : decode cX12_init 233 = .ok (.iconst 1, 1) := by decide +kernel
theorem dX12_init_234 : decode cX12_init 234 = .ok (.iastore, 1) := by decide +kernel
theorem dX12_init_235 : decode cX12_init 235 = .ok (.iinc 1 1, 3) := by decide +kernel
theorem dX12_init_238 : decode cX12_init 238 = .ok (.goto (-33), 3) := by decide +kernel
theorem dX12_init_241 : decode cX12_init 241 = .ok (.iconst 0, 1) := by decide +kernel
theorem dX12_init_242 : decode cX12_init 242 = .ok (.istore_n 1, 1) := by decide +kernel
theorem dX12_init_243 : decode cX12_init 243 = .ok (.iload_n 1, 1) := by decide +kernel
theorem dX12_init_244 : decode cX12_init 244 = .ok (.bipush 8, 2) := by decide +kernel
theorem dX12_init_246 : decode cX12_init 246 = .ok (.if_icmp .ge 17, 3) := by decide +kernel
theorem dX12_init_249 : decode cX12_init 249 = .ok (.aload_n 0, 1) := by decide +kernel
theorem dX12_init_250 : decode cX12_init 250 = .ok (.getfield 22, 3) := by decide +kernel
theorem dX12_init_253 : decode cX12_init 253 = .ok (.iload_n 1, 1) := by decide +kernel
theorem dX12_init_254 : decode cX12_init 254 = .ok (.bipush 100, 2) := by decide +kernel
theorem dX12_init_256 : decode cX12_init 256 = .ok (.iastore, 1) := by decide +kernel
theorem dX12_init_257 : decode cX12_init 257 = .ok (.iinc 1 1, 3) := by decide +kernel
theorem dX12_init_260 : decode cX12_init 260 = .ok (.goto (-17), 3) := by decide +kernel
theorem dX12_init_263 : decode cX12_init 263 = .ok (.return_, 1) := by decide +kernel
theorem dX12_in_0 : decode cX12_in 0 = .ok (.lload_n 0, 1) := by decide +kernel
theorem dX12_in_1 : decode cX12_in 1 = .ok (.lload_n 2, 1) := by decide +kernel
theorem dX12_in_2 : decode cX12_in 2 = .ok (.lcmp, 1) := by decide +kernel
theorem dX12_in_3 : decode cX12_in 3 = .ok (.ifCond .lt 14, 3) := by decide +kernel
theorem dX12_in_6 : decode cX12_in 6 = .ok (.lload_n 0, 1) := by decide +kernel
theorem dX12_in_7 : decode cX12_in 7 = .ok (.lload 4, 2) := by decide +kernel
theorem dX12_in_9 : decode cX12_in 9 = .ok (.lcmp, 1) := by decide +kernel
theorem dX12_in_10 : decode cX12_in 10 = .ok (.ifCond .gt 7, 3) := by decide +kernel
theorem dX12_in_13 : decode cX12_in 13 = .ok (.iconst 1, 1) := by decide +kernel
theorem dX12_in_14 : decode cX12_in 14 = .ok (.goto 4, 3) := by decide +kernel
theorem dX12_in_17 : decode cX12_in 17 = .ok (.iconst 0, 1) := by decide +kernel
theorem dX12_in_18 : decode cX12_in 18 = .ok (.ireturn, 1) := by decide +kernel
theorem dX12_ones_0 : decode cX12_ones 0 = .ok (.iconst 0, 1) := by decide +kernel
theorem dX12_ones_1 : decode cX12_ones 1 = .ok (.istore_n 1, 1) := by decide +kernel
theorem dX12_ones_2 : decode cX12_ones 2 = .ok (.iload_n 0, 1) := by decide +kernel
theorem dX12_ones_3 : decode cX12_ones 3 = .ok (.istore_n 2, 1) := by decide +kernel
theorem dX12_ones_4 : decode cX12_ones 4 = .ok (.iload_n 2, 1) := by decide +kernel
theorem dX12_ones_5 : decode cX12_ones 5 = .ok (.ifCond .eq 15, 3) := by decide +kernel
theorem dX12_ones_8 : decode cX12_ones 8 = .ok (.iinc 1 1, 3) := by decide +kernel
theorem dX12_ones_11 : decode cX12_ones 11 = .ok (.iload_n 2, 1) := by decide +kernel
theorem dX12_ones_12 : decode cX12_ones 12 = .ok (.iload_n 2, 1) := by decide +kernel
theorem dX12_ones_13 : decode cX12_ones 13 = .ok (.iconst 1, 1) := by decide +kernel
theorem dX12_ones_14 : decode cX12_ones 14 = .ok (.isub, 1) := by decide +kernel
theorem dX12_ones_15 : decode cX12_ones 15 = .ok (.iand, 1) := by decide +kernel
theorem dX12_ones_16 : decode cX12_ones 16 = .ok (.istore_n 2, 1) := by decide +kernel
theorem dX12_ones_17 : decode cX12_ones 17 = .ok (.goto (-13), 3) := by decide +kernel
theorem dX12_ones_20 : decode cX12_ones 20 = .ok (.iload_n 1, 1) := by decide +kernel
theorem dX12_ones_21 : decode cX12_ones 21 = .ok (.ireturn, 1) := by decide +kernel
set_option maxRecDepth 20000 in
theorem ggX12_isThing_X12_in : GoodIn wsX12_isThing wsX12_in := goodIn_r _ [5] (by decide +kernel) (by decide +kernel)
set_option maxRecDepth 20000 in
theorem gX12_isThing_X12_in : GoodIn wsX12_isThing (va_wsS RX12 90 yX12_in wsX12_in) := goodIn_app (goodIn_of _ (by decide +kernel)) ggX12_isThing_X12_in
theorem dX12_isThing_0 : decode cX12_isThing 0 = .ok (.iload_n 0, 1) := by decide +kernel
theorem dX12_isThing_1 : decode cX12_isThing 1 = .ok (.i2l, 1) := by decide +kernel
theorem dX12_isThing_2 : decode cX12_isThing 2 = .ok (.lconst 0, 1) := by decide +kernel
theorem dX12_isThing_3 : decode cX12_isThing 3 = .ok (.ldc2_w 88, 3) := by decide +kernel
theorem dX12_isThing_6 : decode cX12_isThing 6 = .ok (.invokestatic 90, 3) := by decide +kernel
theorem dX12_isThing_9 : decode cX12_isThing 9 = .ok (.ireturn, 1) := by decide +kernel
set_option maxRecDepth 20000 in
theorem ggX12_isOne_X12_in : GoodIn wsX12_isOne wsX12_in := goodIn_r _ [5] (by decide +kernel) (by decide +kernel)
set_option maxRecDepth 20000 in
theorem gX12_isOne_X12_in : GoodIn wsX12_isOne (va_wsS RX12 90 yX12_in wsX12_in) := goodIn_app (goodIn_of _ (by decide +kernel)) ggX12_isOne_X12_in
theorem dX12_isOne_0 : decode cX12_isOne 0 = .ok (.iload_n 0, 1) := by decide +kernel
theorem dX12_isOne_1 : decode cX12_isOne 1 = .ok (.i2l, 1) := by decide +kernel
theorem dX12_isOne_2 : decode cX12_isOne 2 = .ok (.lconst 0, 1) := by decide +kernel
theorem dX12_isOne_3 : decode cX12_isOne 3 = .ok (.ldc2_w 94, 3) := by decide +kernel
theorem dX12_isOne_6 : decode cX12_isOne 6 = .ok (.invokestatic 90, 3) := by decide +kernel
theorem dX12_isOne_9 : decode cX12_isOne 9 = .ok (.ireturn, 1) := by decide +kernel
theorem dX12_has_0 : decode cX12_has 0 = .ok (.iload_n 0, 1) := by decide +kernel
theorem dX12_has_1 : decode cX12_has 1 = .ok (.iload_n 1, 1) := by decide +kernel
theorem dX12_has_2 : decode cX12_has 2 = .ok (.ishr, 1) := by decide +kernel
