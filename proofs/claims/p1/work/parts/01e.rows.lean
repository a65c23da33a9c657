set_option maxRecDepth 20000 in
theorem ggX5_comesRound_X5_end : GoodIn wsX5_comesRound wsX5_end := goodIn_r _ [13, 1, 2, 3, 4, 5, 6, 7, 8, 14, 15, 16, 17, 18, 19, 20, 21, 22, 23, 24, 25, 26, 27, 28, 29, 30, 31, 32, 33, 34, 35, 36, 37, 38, 39, 40, 41, 42, 43] (by decide +kernel) (by decide +kernel)
set_option maxRecDepth 20000 in
theorem gX5_comesRound_X5_end : GoodIn wsX5_comesRound (wsV RX5 73 RX5 yX5_end wsX5_end) := goodIn_app (goodIn_of _ (by decide +kernel)) ggX5_comesRound_X5_end
set_option maxRecDepth 20000 in
theorem ggX5_comesRound_X2_bells : GoodIn wsX5_comesRound wsX2_bells := goodIn_r _ [18, 19, 40, 41, 42, 43] (by decide +kernel) (by decide +kernel)
set_option maxRecDepth 20000 in
theorem gX5_comesRound_X2_bells : GoodIn wsX5_comesRound (wsV RX5 80 RX2 yX2_bells wsX2_bells) := goodIn_app (goodIn_of _ (by decide +kernel)) ggX5_comesRound_X2_bells
set_option maxRecDepth 20000 in
theorem ggX5_comesRound_X3_rounds : GoodIn wsX5_comesRound wsX3_rounds := goodIn_r _ [23, 24, 25, 22, 26] (by decide +kernel) (by decide +kernel)
set_option maxRecDepth 20000 in
theorem gX5_comesRound_X3_rounds : GoodIn wsX5_comesRound (va_wsS RX5 105 yX3_rounds wsX3_rounds) := goodIn_app (goodIn_of _ (by decide +kernel)) ggX5_comesRound_X3_rounds
theorem dX5_comesRound_0 : decode cX5_comesRound 0 = .ok (.aload_n 0, 1) := by decide +kernel
theorem dX5_comesRound_1 : decode cX5_comesRound 1 = .ok (.getfield 20, 3) := by decide +kernel
theorem dX5_comesRound_4 : decode cX5_comesRound 4 = .ok (.invokevirtual 48, 3) := by decide +kernel
theorem dX5_comesRound_7 : decode cX5_comesRound 7 = .ok (.ifCond .le 24, 3) := by decide +kernel
theorem dX5_comesRound_10 : decode cX5_comesRound 10 = .ok (.aload_n 0, 1) := by decide +kernel
theorem dX5_comesRound_11 : decode cX5_comesRound 11 = .ok (.invokevirtual 73, 3) := by decide +kernel
theorem dX5_comesRound_14 : decode cX5_comesRound 14 = .ok (.aload_n 0, 1) := by decide +kernel
theorem dX5_comesRound_15 : decode cX5_comesRound 15 = .ok (.getfield 34, 3) := by decide +kernel
theorem dX5_comesRound_18 : decode cX5_comesRound 18 = .ok (.invokevirtual 80, 3) := by decide +kernel
theorem dX5_comesRound_21 : decode cX5_comesRound 21 = .ok (.invokestatic 105, 3) := by decide +kernel
theorem dX5_comesRound_24 : decode cX5_comesRound 24 = .ok (.if_icmp .ne 7, 3) := by decide +kernel
theorem dX5_comesRound_27 : decode cX5_comesRound 27 = .ok (.iconst 1, 1) := by decide +kernel
theorem dX5_comesRound_28 : decode cX5_comesRound 28 = .ok (.goto 4, 3) := by decide +kernel
theorem dX5_comesRound_31 : decode cX5_comesRound 31 = .ok (.iconst 0, 1) := by decide +kernel
theorem dX5_comesRound_32 : decode cX5_comesRound 32 = .ok (.ireturn, 1) := by decide +kernel
theorem dX5_isTrue_0 : decode cX5_isTrue 0 = .ok (.aload_n 0, 1) := by decide +kernel
theorem dX5_isTrue_1 : decode cX5_isTrue 1 = .ok (.getfield 30, 3) := by decide +kernel
theorem dX5_isTrue_4 : decode cX5_isTrue 4 = .ok (.iconst (-1), 1) := by decide +kernel
theorem dX5_isTrue_5 : decode cX5_isTrue 5 = .ok (.if_icmp .ne 7, 3) := by decide +kernel
theorem dX5_isTrue_8 : decode cX5_isTrue 8 = .ok (.iconst 1, 1) := by decide +kernel
theorem dX5_isTrue_9 : decode cX5_isTrue 9 = .ok (.goto 4, 3) := by decide +kernel
theorem dX5_isTrue_12 : decode cX5_isTrue 12 = .ok (.iconst 0, 1) := by decide +kernel
theorem dX5_isTrue_13 : decode cX5_isTrue 13 = .ok (.ireturn, 1) := by decide +kernel
theorem dX5_firstRepeat_0 : decode cX5_firstRepeat 0 = .ok (.aload_n 0, 1) := by decide +kernel
theorem dX5_firstRepeat_1 : decode cX5_firstRepeat 1 = .ok (.getfield 30, 3) := by decide +kernel
theorem dX5_firstRepeat_4 : decode cX5_firstRepeat 4 = .ok (.ireturn, 1) := by decide +kernel
theorem dX5_differentRows_0 : decode cX5_differentRows 0 = .ok (.aload_n 0, 1) := by decide +kernel
theorem dX5_differentRows_1 : decode cX5_differentRows 1 = .ok (.getfield 45, 3) := by decide +kernel
theorem dX5_differentRows_4 : decode cX5_differentRows 4 = .ok (.ireturn, 1) := by decide +kernel
set_option maxRecDepth 20000 in
theorem ggX5_firstNumberOf_X2_bells : GoodIn wsX5_firstNumberOf wsX2_bells := goodIn_r _ [7, 8, 32, 33, 34, 35] (by decide +kernel) (by decide +kernel)
set_option maxRecDepth 20000 in
theorem gX5_firstNumberOf_X2_bells : GoodIn wsX5_firstNumberOf (wsV RX5 80 RX2 yX2_bells wsX2_bells) := goodIn_app (goodIn_of _ (by decide +kernel)) ggX5_firstNumberOf_X2_bells
set_option maxRecDepth 20000 in
theorem ggX5_firstNumberOf_X3_rank : GoodIn wsX5_firstNumberOf wsX3_rank := goodIn_r _ [12, 13, 14, 15, 16, 17, 18, 19] (by decide +kernel) (by decide +kernel)
set_option maxRecDepth 20000 in
theorem gX5_firstNumberOf_X3_rank : GoodIn wsX5_firstNumberOf (va_wsS RX5 92 yX3_rank wsX3_rank) := goodIn_app (goodIn_of _ (by decide +kernel)) ggX5_firstNumberOf_X3_rank
set_option maxRecDepth 20000 in
theorem ggX5_firstNumberOf_X0_firstNumber : GoodIn wsX5_firstNumberOf wsX0_firstNumber := goodIn_r _ [24, 25, 36] (by decide +kernel) (by decide +kernel)
set_option maxRecDepth 20000 in
theorem gX5_firstNumberOf_X0_firstNumber : GoodIn wsX5_firstNumberOf (wsV RX5 95 RX0 yX0_firstNumber wsX0_firstNumber) := goodIn_app (goodIn_of _ (by decide +kernel)) ggX5_firstNumberOf_X0_firstNumber
theorem dX5_firstNumberOf_0 : decode cX5_firstNumberOf 0 = .ok (.aload_n 0, 1) := by decide +kernel
theorem dX5_firstNumberOf_1 : decode cX5_firstNumberOf 1 = .ok (.getfield 26, 3) := by decide +kernel
theorem dX5_firstNumberOf_4 : decode cX5_firstNumberOf 4 = .ok (.iload_n 1, 1) := by decide +kernel
theorem dX5_firstNumberOf_5 : decode cX5_firstNumberOf 5 = .ok (.aload_n 0, 1) := by decide +kernel
theorem dX5_firstNumberOf_6 : decode cX5_firstNumberOf 6 = .ok (.getfield 34, 3) := by decide +kernel
theorem dX5_firstNumberOf_9 : decode cX5_firstNumberOf 9 = .ok (.invokevirtual 80, 3) := by decide +kernel
theorem dX5_firstNumberOf_12 : decode cX5_firstNumberOf 12 = .ok (.invokestatic 92, 3) := by decide +kernel
theorem dX5_firstNumberOf_15 : decode cX5_firstNumberOf 15 = .ok (.invokevirtual 95, 3) := by decide +kernel
theorem dX5_firstNumberOf_18 : decode cX5_firstNumberOf 18 = .ok (.ireturn, 1) := by decide +kernel
set_option maxRecDepth 20000 in
theorem ggX5_parts_X1_size : GoodIn wsX5_parts wsX1_size := goodIn_r _ [7, 8, 44, 45] (by decide +kernel) (by decide +kernel)
set_option maxRecDepth 20000 in
theorem gX5_parts_X1_size : GoodIn wsX5_parts (wsV RX5 48 RX1 yX1_size wsX1_size) := goodIn_app (goodIn_of _ (by decide +kernel)) ggX5_parts_X1_size
set_option maxRecDepth 20000 in
theorem ggX5_parts_X2_bells : GoodIn wsX5_parts wsX2_bells := goodIn_r _ [13, 14, 46, 47, 48, 49] (by decide +kernel) (by decide +kernel)
set_option maxRecDepth 20000 in
theorem gX5_parts_X2_bells : GoodIn wsX5_parts (wsV RX5 80 RX2 yX2_bells wsX2_bells) := goodIn_app (goodIn_of _ (by decide +kernel)) ggX5_parts_X2_bells
set_option maxRecDepth 20000 in
theorem ggX5_parts_X3_rounds : GoodIn wsX5_parts wsX3_rounds := goodIn_r _ [18, 19, 20, 17, 21] (by decide +kernel) (by decide +kernel)
set_option maxRecDepth 20000 in
theorem gX5_parts_X3_rounds : GoodIn wsX5_parts (va_wsS RX5 105 yX3_rounds wsX3_rounds) := goodIn_app (goodIn_of _ (by decide +kernel)) ggX5_parts_X3_rounds
set_option maxRecDepth 20000 in
theorem ggX5_parts_X5_end : GoodIn wsX5_parts wsX5_end := goodIn_r _ [26, 1, 2, 3, 4, 5, 6, 7, 8, 9, 10, 11, 12, 13, 14, 15, 16, 17, 18, 19, 20, 21, 27, 28, 29, 30, 31, 38, 39, 40, 41, 42, 43, 44, 45, 46, 47, 48, 49] (by decide +kernel) (by decide +kernel)
set_option maxRecDepth 20000 in
theorem gX5_parts_X5_end : GoodIn wsX5_parts (wsV RX5 73 RX5 yX5_end wsX5_end) := goodIn_app (goodIn_of _ (by decide +kernel)) ggX5_parts_X5_end
set_option maxRecDepth 20000 in
theorem ggX5_parts_X3_composed : GoodIn wsX5_parts wsX3_composed := goodIn_r _ [34, 35, 36, 17, 37, 19, 20, 21] (by decide +kernel) (by decide +kernel)
set_option maxRecDepth 20000 in
theorem gX5_parts_X3_composed : GoodIn wsX5_parts (va_wsS RX5 108 yX3_composed wsX3_composed) := goodIn_app (goodIn_of _ (by decide +kernel)) ggX5_parts_X3_composed
theorem dX5_parts_0 : decode cX5_parts 0 = .ok (.aload_n 0, 1) := by decide +kernel
theorem dX5_parts_1 : decode cX5_parts 1 = .ok (.getfield 20, 3) := by decide +kernel
theorem dX5_parts_4 : decode cX5_parts 4 = .ok (.invokevirtual 48, 3) := by decide +kernel
theorem dX5_parts_7 : decode cX5_parts 7 = .ok (.ifCond .ne 5, 3) := by decide +kernel
theorem dX5_parts_10 : decode cX5_parts 10 = .ok (.iconst 0, 1) := by decide +kernel
theorem dX5_parts_11 : decode cX5_parts 11 = .ok (.ireturn, 1) := by decide +kernel
theorem dX5_parts_12 : decode cX5_parts 12 = .ok (.aload_n 0, 1) := by decide +kernel
theorem dX5_parts_13 : decode cX5_parts 13 = .ok (.getfield 34, 3) := by decide +kernel
theorem dX5_parts_16 : decode cX5_parts 16 = .ok (.invokevirtual 80, 3) := by decide +kernel
theorem dX5_parts_19 : decode cX5_parts 19 = .ok (.invokestatic 105, 3) := by decide +kernel
theorem dX5_parts_22 : decode cX5_parts 22 = .ok (.istore_n 1, 1) := by decide +kernel
theorem dX5_parts_23 : decode cX5_parts 23 = .ok (.aload_n 0, 1) := by decide +kernel
theorem dX5_parts_24 : decode cX5_parts 24 = .ok (.invokevirtual 73, 3) := by decide +kernel
theorem dX5_parts_27 : decode cX5_parts 27 = .ok (.istore_n 2, 1) := by decide +kernel
theorem dX5_parts_28 : decode cX5_parts 28 = .ok (.iconst 1, 1) := by decide +kernel
theorem dX5_parts_29 : decode cX5_parts 29 = .ok (.istore_n 3, 1) := by decide +kernel
theorem dX5_parts_30 : decode cX5_parts 30 = .ok (.iload_n 2, 1) := by decide +kernel
theorem dX5_parts_31 : decode cX5_parts 31 = .ok (.iload_n 1, 1) := by decide +kernel
theorem dX5_parts_32 : decode cX5_parts 32 = .ok (.if_icmp .eq 32, 3) := by decide +kernel
theorem dX5_parts_35 : decode cX5_parts 35 = .ok (.iload_n 3, 1) := by decide +kernel
theorem dX5_parts_36 : decode cX5_parts 36 = .ok (.sipush 5040, 3) := by decide +kernel
theorem dX5_parts_39 : decode cX5_parts 39 = .ok (.if_icmp .ge 25, 3) := by decide +kernel
theorem dX5_parts_42 : decode cX5_parts 42 = .ok (.iload_n 2, 1) := by decide +kernel
theorem dX5_parts_43 : decode cX5_parts 43 = .ok (.aload_n 0, 1) := by decide +kernel
theorem dX5_parts_44 : decode cX5_parts 44 = .ok (.invokevirtual 73, 3) := by decide +kernel
theorem dX5_parts_47 : decode cX5_parts 47 = .ok (.aload_n 0, 1) := by decide +kernel
theorem dX5_parts_48 : decode cX5_parts 48 = .ok (.getfield 34, 3) := by decide +kernel
theorem dX5_parts_51 : decode cX5_parts 51 = .ok (.invokevirtual 80, 3) := by decide +kernel
theorem dX5_parts_54 : decode cX5_parts 54 = .ok (.invokestatic 108, 3) := by decide +kernel
theorem dX5_parts_57 : decode cX5_parts 57 = .ok (.istore_n 2, 1) := by decide +kernel
theorem dX5_parts_58 : decode cX5_parts 58 = .ok (.iinc 3 1, 3) := by decide +kernel
theorem dX5_parts_61 : decode cX5_parts 61 = .ok (.goto (-31), 3) := by decide +kernel
theorem dX5_parts_64 : decode cX5_parts 64 = .ok (.iload_n 3, 1) := by decide +kernel
theorem dX5_parts_65 : decode cX5_parts 65 = .ok (.ireturn, 1) := by decide +kernel
set_option maxRecDepth 20000 in
theorem ggX5_musicInAll_X1_size : GoodIn wsX5_musicInAll wsX1_size := goodIn_r _ [7, 8, 36, 37] (by decide +kernel) (by decide +kernel)
set_option maxRecDepth 20000 in
theorem gX5_musicInAll_X1_size : GoodIn wsX5_musicInAll (wsV RX5 48 RX1 yX1_size wsX1_size) := goodIn_app (goodIn_of _ (by decide +kernel)) ggX5_musicInAll_X1_size
set_option maxRecDepth 20000 in
theorem ggX5_musicInAll_X1_get : GoodIn wsX5_musicInAll wsX1_get := goodIn_r _ [12, 8, 13, 36, 37] (by decide +kernel) (by decide +kernel)
set_option maxRecDepth 20000 in
theorem gX5_musicInAll_X1_get : GoodIn wsX5_musicInAll (wsV RX5 52 RX1 yX1_get wsX1_get) := goodIn_app (goodIn_of _ (by decide +kernel)) ggX5_musicInAll_X1_get
set_option maxRecDepth 20000 in
theorem ggX5_musicInAll_X2_bells : GoodIn wsX5_musicInAll wsX2_bells := goodIn_r _ [18, 19, 38, 39, 40, 41] (by decide +kernel) (by decide +kernel)
set_option maxRecDepth 20000 in
theorem gX5_musicInAll_X2_bells : GoodIn wsX5_musicInAll (wsV RX5 80 RX2 yX2_bells wsX2_bells) := goodIn_app (goodIn_of _ (by decide +kernel)) ggX5_musicInAll_X2_bells
set_option maxRecDepth 20000 in
theorem ggX5_musicInAll_X3_musicOf : GoodIn wsX5_musicInAll wsX3_musicOf := goodIn_r _ [23, 24, 25, 22, 26, 27, 28, 29] (by decide +kernel) (by decide +kernel)
set_option maxRecDepth 20000 in
theorem gX5_musicInAll_X3_musicOf : GoodIn wsX5_musicInAll (va_wsS RX5 111 yX3_musicOf wsX3_musicOf) := goodIn_app (goodIn_of _ (by decide +kernel)) ggX5_musicInAll_X3_musicOf
theorem dX5_musicInAll_0 : decode cX5_musicInAll 0 = .ok (.iconst 0, 1) := by decide +kernel
theorem dX5_musicInAll_1 : decode cX5_musicInAll 1 = .ok (.istore_n 1, 1) := by decide +kernel
theorem dX5_musicInAll_2 : decode cX5_musicInAll 2 = .ok (.iconst 0, 1) := by decide +kernel
theorem dX5_musicInAll_3 : decode cX5_musicInAll 3 = .ok (.istore_n 2, 1) := by decide +kernel
theorem dX5_musicInAll_4 : decode cX5_musicInAll 4 = .ok (.iload_n 2, 1) := by decide +kernel
theorem dX5_musicInAll_5 : decode cX5_musicInAll 5 = .ok (.aload_n 0, 1) := by decide +kernel
theorem dX5_musicInAll_6 : decode cX5_musicInAll 6 = .ok (.getfield 20, 3) := by decide +kernel
theorem dX5_musicInAll_9 : decode cX5_musicInAll 9 = .ok (.invokevirtual 48, 3) := by decide +kernel
theorem dX5_musicInAll_12 : decode cX5_musicInAll 12 = .ok (.if_icmp .ge 30, 3) := by decide +kernel
theorem dX5_musicInAll_15 : decode cX5_musicInAll 15 = .ok (.iload_n 1, 1) := by decide +kernel
theorem dX5_musicInAll_16 : decode cX5_musicInAll 16 = .ok (.aload_n 0, 1) := by decide +kernel
theorem dX5_musicInAll_17 : decode cX5_musicInAll 17 = .ok (.getfield 20, 3) := by decide +kernel
theorem dX5_musicInAll_20 : decode cX5_musicInAll 20 = .ok (.iload_n 2, 1) := by decide +kernel
theorem dX5_musicInAll_21 : decode cX5_musicInAll 21 = .ok (.invokevirtual 52, 3) := by decide +kernel
theorem dX5_musicInAll_24 : decode cX5_musicInAll 24 = .ok (.aload_n 0, 1) := by decide +kernel
theorem dX5_musicInAll_25 : decode cX5_musicInAll 25 = .ok (.getfield 34, 3) := by decide +kernel
theorem dX5_musicInAll_28 : decode cX5_musicInAll 28 = .ok (.invokevirtual 80, 3) := by decide +kernel
theorem dX5_musicInAll_31 : decode cX5_musicInAll 31 = .ok (.invokestatic 111, 3) := by decide +kernel
theorem dX5_musicInAll_34 : decode cX5_musicInAll 34 = .ok (.iadd, 1) := by decide +kernel
theorem dX5_musicInAll_35 : decode cX5_musicInAll 35 = .ok (.istore_n 1, 1) := by decide +kernel
theorem dX5_musicInAll_36 : decode cX5_musicInAll 36 = .ok (.iinc 2 1, 3) := by decide +kernel
theorem dX5_musicInAll_39 : decode cX5_musicInAll 39 = .ok (.goto (-35), 3) := by decide +kernel
theorem dX5_musicInAll_42 : decode cX5_musicInAll 42 = .ok (.iload_n 1, 1) := by decide +kernel
theorem dX5_musicInAll_43 : decode cX5_musicInAll 43 = .ok (.ireturn, 1) := by decide +kernel
set_option maxRecDepth 20000 in
theorem ggX5_longestStay_X1_size : GoodIn wsX5_longestStay wsX1_size := goodIn_r _ [11, 12, 37, 38] (by decide +kernel) (by decide +kernel)
set_option maxRecDepth 20000 in
theorem gX5_longestStay_X1_size : GoodIn wsX5_longestStay (wsV RX5 48 RX1 yX1_size wsX1_size) := goodIn_app (goodIn_of _ (by decide +kernel)) ggX5_longestStay_X1_size
set_option maxRecDepth 20000 in
theorem ggX5_longestStay_X1_get : GoodIn wsX5_longestStay wsX1_get := goodIn_r _ [16, 12, 17, 37, 38] (by decide +kernel) (by decide +kernel)
set_option maxRecDepth 20000 in
theorem gX5_longestStay_X1_get : GoodIn wsX5_longestStay (wsV RX5 52 RX1 yX1_get wsX1_get) := goodIn_app (goodIn_of _ (by decide +kernel)) ggX5_longestStay_X1_get
set_option maxRecDepth 20000 in
theorem ggX5_longestStay_X2_bells : GoodIn wsX5_longestStay wsX2_bells := goodIn_r _ [22, 23, 39, 40, 41, 42] (by decide +kernel) (by decide +kernel)
set_option maxRecDepth 20000 in
theorem gX5_longestStay_X2_bells : GoodIn wsX5_longestStay (wsV RX5 80 RX2 yX2_bells wsX2_bells) := goodIn_app (goodIn_of _ (by decide +kernel)) ggX5_longestStay_X2_bells
set_option maxRecDepth 20000 in
theorem ggX5_longestStay_X3_placeOf : GoodIn wsX5_longestStay wsX3_placeOf := goodIn_r _ [27, 28, 29, 26, 30] (by decide +kernel) (by decide +kernel)
set_option maxRecDepth 20000 in
theorem gX5_longestStay_X3_placeOf : GoodIn wsX5_longestStay (va_wsS RX5 114 yX3_placeOf wsX3_placeOf) := goodIn_app (goodIn_of _ (by decide +kernel)) ggX5_longestStay_X3_placeOf
theorem dX5_longestStay_0 : decode cX5_longestStay 0 = .ok (.iconst 0, 1) := by decide +kernel
theorem dX5_longestStay_1 : decode cX5_longestStay 1 = .ok (.istore_n 2, 1) := by decide +kernel
theorem dX5_longestStay_2 : decode cX5_longestStay 2 = .ok (.iconst 0, 1) := by decide +kernel
theorem dX5_longestStay_3 : decode cX5_longestStay 3 = .ok (.istore_n 3, 1) := by decide +kernel
theorem dX5_longestStay_4 : decode cX5_longestStay 4 = .ok (.iconst (-1), 1) := by decide +kernel
theorem dX5_longestStay_5 : decode cX5_longestStay 5 = .ok (.istore 4, 2) := by decide +kernel
theorem dX5_longestStay_7 : decode cX5_longestStay 7 = .ok (.iconst 0, 1) := by decide +kernel
theorem dX5_longestStay_8 : decode cX5_longestStay 8 = .ok (.istore 5, 2) := by decide +kernel
theorem dX5_longestStay_10 : decode cX5_longestStay 10 = .ok (.iload 5, 2) := by decide +kernel
theorem dX5_longestStay_12 : decode cX5_longestStay 12 = .ok (.aload_n 0, 1) := by decide +kernel
theorem dX5_longestStay_13 : decode cX5_longestStay 13 = .ok (.getfield 20, 3) := by decide +kernel
theorem dX5_longestStay_16 : decode cX5_longestStay 16 = .ok (.invokevirtual 48, 3) := by decide +kernel
theorem dX5_longestStay_19 : decode cX5_longestStay 19 = .ok (.if_icmp .ge 56, 3) := by decide +kernel
theorem dX5_longestStay_22 : decode cX5_longestStay 22 = .ok (.aload_n 0, 1) := by decide +kernel
theorem dX5_longestStay_23 : decode cX5_longestStay 23 = .ok (.getfield 20, 3) := by decide +kernel
theorem dX5_longestStay_26 : decode cX5_longestStay 26 = .ok (.iload 5, 2) := by decide +kernel
theorem dX5_longestStay_28 : decode cX5_longestStay 28 = .ok (.invokevirtual 52, 3) := by decide +kernel
theorem dX5_longestStay_31 : decode cX5_longestStay 31 = .ok (.iload_n 1, 1) := by decide +kernel
theorem dX5_longestStay_32 : decode cX5_longestStay 32 = .ok (.aload_n 0, 1) := by decide +kernel
theorem dX5_longestStay_33 : decode cX5_longestStay 33 = .ok (.getfield 34, 3) := by decide +kernel
theorem dX5_longestStay_36 : decode cX5_longestStay 36 = .ok (.invokevirtual 80, 3) := by decide +kernel
theorem dX5_longestStay_39 : decode cX5_longestStay 39 = .ok (.invokestatic 114, 3) := by decide +kernel
theorem dX5_longestStay_42 : decode cX5_longestStay 42 = .ok (.istore 6, 2) := by decide +kernel
theorem dX5_longestStay_44 : decode cX5_longestStay 44 = .ok (.iload 6, 2) := by decide +kernel
theorem dX5_longestStay_46 : decode cX5_longestStay 46 = .ok (.iload 4, 2) := by decide +kernel
theorem dX5_longestStay_48 : decode cX5_longestStay 48 = .ok (.if_icmp .ne 9, 3) := by decide +kernel
theorem dX5_longestStay_51 : decode cX5_longestStay 51 = .ok (.iload_n 3, 1) := by decide +kernel
theorem dX5_longestStay_52 : decode cX5_longestStay 52 = .ok (.iconst 1, 1) := by decide +kernel
theorem dX5_longestStay_53 : decode cX5_longestStay 53 = .ok (.iadd, 1) := by decide +kernel
theorem dX5_longestStay_54 : decode cX5_longestStay 54 = .ok (.goto 4, 3) := by decide +kernel
theorem dX5_longestStay_57 : decode cX5_longestStay 57 = .ok (.iconst 1, 1) := by decide +kernel
theorem dX5_longestStay_58 : decode cX5_longestStay 58 = .ok (.istore_n 3, 1) := by decide +kernel
theorem dX5_longestStay_59 : decode cX5_longestStay 59 = .ok (.iload_n 2, 1) := by decide +kernel
theorem dX5_longestStay_60 : decode cX5_longestStay 60 = .ok (.iload_n 3, 1) := by decide +kernel
theorem dX5_longestStay_61 : decode cX5_longestStay 61 = .ok (.invokestatic 117, 3) := by decide +kernel
theorem dX5_longestStay_64 : decode cX5_longestStay 64 = .ok (.istore_n 2, 1) := by decide +kernel
theorem dX5_longestStay_65 : decode cX5_longestStay 65 = .ok (.iload 6, 2) := by decide +kernel
theorem dX5_longestStay_67 : decode cX5_longestStay 67 = .ok (.istore 4, 2) := by decide +kernel
theorem dX5_longestStay_69 : decode cX5_longestStay 69 = .ok (.iinc 5 1, 3) := by decide +kernel
theorem dX5_longestStay_72 : decode cX5_longestStay 72 = .ok (.goto (-62), 3) := by decide +kernel
theorem dX5_longestStay_75 : decode cX5_longestStay 75 = .ok (.iload_n 2, 1) := by decide +kernel
theorem dX5_longestStay_76 : decode cX5_longestStay 76 = .ok (.ireturn, 1) := by decide +kernel
set_option maxRecDepth 20000 in
theorem ggX5_placesOf_X1_size : GoodIn wsX5_placesOf wsX1_size := goodIn_r _ [7, 8, 33, 34] (by decide +kernel) (by decide +kernel)
set_option maxRecDepth 20000 in
theorem gX5_placesOf_X1_size : GoodIn wsX5_placesOf (wsV RX5 48 RX1 yX1_size wsX1_size) := goodIn_app (goodIn_of _ (by decide +kernel)) ggX5_placesOf_X1_size
set_option maxRecDepth 20000 in
theorem ggX5_placesOf_X1_get : GoodIn wsX5_placesOf wsX1_get := goodIn_r _ [12, 8, 13, 33, 34] (by decide +kernel) (by decide +kernel)
set_option maxRecDepth 20000 in
theorem gX5_placesOf_X1_get : GoodIn wsX5_placesOf (wsV RX5 52 RX1 yX1_get wsX1_get) := goodIn_app (goodIn_of _ (by decide +kernel)) ggX5_placesOf_X1_get
set_option maxRecDepth 20000 in
theorem ggX5_placesOf_X2_bells : GoodIn wsX5_placesOf wsX2_bells := goodIn_r _ [18, 19, 35, 36, 37, 38] (by decide +kernel) (by decide +kernel)
set_option maxRecDepth 20000 in
theorem gX5_placesOf_X2_bells : GoodIn wsX5_placesOf (wsV RX5 80 RX2 yX2_bells wsX2_bells) := goodIn_app (goodIn_of _ (by decide +kernel)) ggX5_placesOf_X2_bells
set_option maxRecDepth 20000 in
theorem ggX5_placesOf_X3_placeOf : GoodIn wsX5_placesOf wsX3_placeOf := goodIn_r _ [23, 24, 25, 22, 26] (by decide +kernel) (by decide +kernel)
set_option maxRecDepth 20000 in
theorem gX5_placesOf_X3_placeOf : GoodIn wsX5_placesOf (va_wsS RX5 114 yX3_placeOf wsX3_placeOf) := goodIn_app (goodIn_of _ (by decide +kernel)) ggX5_placesOf_X3_placeOf
theorem dX5_placesOf_0 : decode cX5_placesOf 0 = .ok (.iconst 0, 1) := by decide +kernel
theorem dX5_placesOf_1 : decode cX5_placesOf 1 = .ok (.istore_n 2, 1) := by decide +kernel
theorem dX5_placesOf_2 : decode cX5_placesOf 2 = .ok (.iconst 0, 1) := by decide +kernel
theorem dX5_placesOf_3 : decode cX5_placesOf 3 = .ok (.istore_n 3, 1) := by decide +kernel
theorem dX5_placesOf_4 : decode cX5_placesOf 4 = .ok (.iload_n 3, 1) := by decide +kernel
theorem dX5_placesOf_5 : decode cX5_placesOf 5 = .ok (.aload_n 0, 1) := by decide +kernel
theorem dX5_placesOf_6 : decode cX5_placesOf 6 = .ok (.getfield 20, 3) := by decide +kernel
theorem dX5_placesOf_9 : decode cX5_placesOf 9 = .ok (.invokevirtual 48, 3) := by decide +kernel
theorem dX5_placesOf_12 : decode cX5_placesOf 12 = .ok (.if_icmp .ge 31, 3) := by decide +kernel
theorem dX5_placesOf_15 : decode cX5_placesOf 15 = .ok (.iload_n 2, 1) := by decide +kernel
theorem dX5_placesOf_16 : decode cX5_placesOf 16 = .ok (.aload_n 0, 1) := by decide +kernel
theorem dX5_placesOf_17 : decode cX5_placesOf 17 = .ok (.getfield 20, 3) := by decide +kernel
theorem dX5_placesOf_20 : decode cX5_placesOf 20 = .ok (.iload_n 3, 1) := by decide +kernel
theorem dX5_placesOf_21 : decode cX5_placesOf 21 = .ok (.invokevirtual 52, 3) := by decide +kernel
theorem dX5_placesOf_24 : decode cX5_placesOf 24 = .ok (.iload_n 1, 1) := by decide +kernel
theorem dX5_placesOf_25 : decode cX5_placesOf 25 = .ok (.aload_n 0, 1) := by decide +kernel
theorem dX5_placesOf_26 : decode cX5_placesOf 26 = .ok (.getfield 34, 3) := by decide +kernel
theorem dX5_placesOf_29 : decode cX5_placesOf 29 = .ok (.invokevirtual 80, 3) := by decide +kernel
theorem dX5_placesOf_32 : decode cX5_placesOf 32 = .ok (.invokestatic 114, 3) := by decide +kernel
theorem dX5_placesOf_35 : decode cX5_placesOf 35 = .ok (.iadd, 1) := by decide +kernel
theorem dX5_placesOf_36 : decode cX5_placesOf 36 = .ok (.istore_n 2, 1) := by decide +kernel
theorem dX5_placesOf_37 : decode cX5_placesOf 37 = .ok (.iinc 3 1, 3) := by decide +kernel
theorem dX5_placesOf_40 : decode cX5_placesOf 40 = .ok (.goto (-36), 3) := by decide +kernel
theorem dX5_placesOf_43 : decode cX5_placesOf 43 = .ok (.iload_n 2, 1) := by decide +kernel
theorem dX5_placesOf_44 : decode cX5_placesOf 44 = .ok (.ireturn, 1) := by decide +kernel
set_option maxRecDepth 20000 in
theorem ggX5_commonRows_X2_length : GoodIn wsX5_commonRows wsX2_length := goodIn_r _ [7, 8, 9, 10, 11, 12, 13, 14, 31, 32, 33, 34, 35, 36] (by decide +kernel) (by decide +kernel)
set_option maxRecDepth 20000 in
theorem gX5_commonRows_X2_length : GoodIn wsX5_commonRows (wsV RX5 62 RX2 yX2_length wsX2_length) := goodIn_app (goodIn_of _ (by decide +kernel)) ggX5_commonRows_X2_length
set_option maxRecDepth 20000 in
theorem ggX5_commonRows_X1_get : GoodIn wsX5_commonRows wsX1_get := goodIn_r _ [18, 14, 19, 35, 36] (by decide +kernel) (by decide +kernel)
set_option maxRecDepth 20000 in
theorem gX5_commonRows_X1_get : GoodIn wsX5_commonRows (wsV RX5 52 RX1 yX1_get wsX1_get) := goodIn_app (goodIn_of _ (by decide +kernel)) ggX5_commonRows_X1_get
set_option maxRecDepth 20000 in
theorem ggX5_commonRows_X5_isAmong : GoodIn wsX5_commonRows wsX5_isAmong := goodIn_r _ [24, 2, 15, 16, 17, 12, 18, 14, 19, 25, 26, 27, 28, 29, 30, 35, 36] (by decide +kernel) (by decide +kernel)
set_option maxRecDepth 20000 in
theorem gX5_commonRows_X5_isAmong : GoodIn wsX5_commonRows (wsV RX5 122 RX5 yX5_isAmong wsX5_isAmong) := goodIn_app (goodIn_of _ (by decide +kernel)) ggX5_commonRows_X5_isAmong
theorem dX5_commonRows_0 : decode cX5_commonRows 0 = .ok (.aload_n 0, 1) := by decide +kernel
theorem dX5_commonRows_1 : decode cX5_commonRows 1 = .ok (.getfield 34, 3) := by decide +kernel
theorem dX5_commonRows_4 : decode cX5_commonRows 4 = .ok (.invokevirtual 62, 3) := by decide +kernel
theorem dX5_commonRows_7 : decode cX5_commonRows 7 = .ok (.istore_n 3, 1) := by decide +kernel
theorem dX5_commonRows_8 : decode cX5_commonRows 8 = .ok (.iconst 0, 1) := by decide +kernel
theorem dX5_commonRows_9 : decode cX5_commonRows 9 = .ok (.istore 4, 2) := by decide +kernel
theorem dX5_commonRows_11 : decode cX5_commonRows 11 = .ok (.iload_n 1, 1) := by decide +kernel
theorem dX5_commonRows_12 : decode cX5_commonRows 12 = .ok (.iload_n 3, 1) := by decide +kernel
theorem dX5_commonRows_13 : decode cX5_commonRows 13 = .ok (.imul, 1) := by decide +kernel
theorem dX5_commonRows_14 : decode cX5_commonRows 14 = .ok (.istore 5, 2) := by decide +kernel
theorem dX5_commonRows_16 : decode cX5_commonRows 16 = .ok (.iload 5, 2) := by decide +kernel
theorem dX5_commonRows_18 : decode cX5_commonRows 18 = .ok (.iload_n 1, 1) := by decide +kernel
theorem dX5_commonRows_19 : decode cX5_commonRows 19 = .ok (.iconst 1, 1) := by decide +kernel
theorem dX5_commonRows_20 : decode cX5_commonRows 20 = .ok (.iadd, 1) := by decide +kernel
theorem dX5_commonRows_21 : decode cX5_commonRows 21 = .ok (.iload_n 3, 1) := by decide +kernel
theorem dX5_commonRows_22 : decode cX5_commonRows 22 = .ok (.imul, 1) := by decide +kernel
theorem dX5_commonRows_23 : decode cX5_commonRows 23 = .ok (.if_icmp .ge 66, 3) := by decide +kernel
theorem dX5_commonRows_26 : decode cX5_commonRows 26 = .ok (.aload_n 0, 1) := by decide +kernel
theorem dX5_commonRows_27 : decode cX5_commonRows 27 = .ok (.getfield 20, 3) := by decide +kernel
theorem dX5_commonRows_30 : decode cX5_commonRows 30 = .ok (.iload 5, 2) := by decide +kernel
theorem dX5_commonRows_32 : decode cX5_commonRows 32 = .ok (.invokevirtual 52, 3) := by decide +kernel
theorem dX5_commonRows_35 : decode cX5_commonRows 35 = .ok (.istore 6, 2) := by decide +kernel
theorem dX5_commonRows_37 : decode cX5_commonRows 37 = .ok (.aload_n 0, 1) := by decide +kernel
theorem dX5_commonRows_38 : decode cX5_commonRows 38 = .ok (.iload 6, 2) := by decide +kernel
theorem dX5_commonRows_40 : decode cX5_commonRows 40 = .ok (.iload_n 1, 1) := by decide +kernel
theorem dX5_commonRows_41 : decode cX5_commonRows 41 = .ok (.iload_n 3, 1) := by decide +kernel
theorem dX5_commonRows_42 : decode cX5_commonRows 42 = .ok (.imul, 1) := by decide +kernel
theorem dX5_commonRows_43 : decode cX5_commonRows 43 = .ok (.iload 5, 2) := by decide +kernel
theorem dX5_commonRows_45 : decode cX5_commonRows 45 = .ok (.invokevirtual 122, 3) := by decide +kernel
theorem dX5_commonRows_48 : decode cX5_commonRows 48 = .ok (.ifCond .ne 7, 3) := by decide +kernel
theorem dX5_commonRows_51 : decode cX5_commonRows 51 = .ok (.iconst 1, 1) := by decide +kernel
theorem dX5_commonRows_52 : decode cX5_commonRows 52 = .ok (.goto 4, 3) := by decide +kernel
theorem dX5_commonRows_55 : decode cX5_commonRows 55 = .ok (.iconst 0, 1) := by decide +kernel
theorem dX5_commonRows_56 : decode cX5_commonRows 56 = .ok (.istore 7, 2) := by decide +kernel
theorem dX5_commonRows_58 : decode cX5_commonRows 58 = .ok (.iload 7, 2) := by decide +kernel
theorem dX5_commonRows_60 : decode cX5_commonRows 60 = .ok (.ifCond .eq 23, 3) := by decide +kernel
theorem dX5_commonRows_63 : decode cX5_commonRows 63 = .ok (.aload_n 0, 1) := by decide +kernel
theorem dX5_commonRows_64 : decode cX5_commonRows 64 = .ok (.iload 6, 2) := by decide +kernel
theorem dX5_commonRows_66 : decode cX5_commonRows 66 = .ok (.iload_n 2, 1) := by decide +kernel
theorem dX5_commonRows_67 : decode cX5_commonRows 67 = .ok (.iload_n 3, 1) := by decide +kernel
theorem dX5_commonRows_68 : decode cX5_commonRows 68 = .ok (.imul, 1) := by decide +kernel
theorem dX5_commonRows_69 : decode cX5_commonRows 69 = .ok (.iload_n 2, 1) := by decide +kernel
theorem dX5_commonRows_70 : decode cX5_commonRows 70 = .ok (.iconst 1, 1) := by decide +kernel
theorem dX5_commonRows_71 : decode cX5_commonRows 71 = .ok (.iadd, 1) := by decide +kernel
theorem dX5_commonRows_72 : decode cX5_commonRows 72 = .ok (.iload_n 3, 1) := by decide +kernel
theorem dX5_commonRows_73 : decode cX5_commonRows 73 = .ok (.imul, 1) := by decide +kernel
theorem dX5_commonRows_74 : decode cX5_commonRows 74 = .ok (.invokevirtual 122, 3) := by decide +kernel
theorem dX5_commonRows_77 : decode cX5_commonRows 77 = .ok (.ifCond .eq 6, 3) := by decide +kernel
theorem dX5_commonRows_80 : decode cX5_commonRows 80 = .ok (.iinc 4 1, 3) := by decide +kernel
theorem dX5_commonRows_83 : decode cX5_commonRows 83 = .ok (.iinc 5 1, 3) := by decide +kernel
theorem dX5_commonRows_86 : decode cX5_commonRows 86 = .ok (.goto (-70), 3) := by decide +kernel
theorem dX5_commonRows_89 : decode cX5_commonRows 89 = .ok (.iload 4, 2) := by decide +kernel
theorem dX5_commonRows_91 : decode cX5_commonRows 91 = .ok (.ireturn, 1) := by decide +kernel
set_option maxRecDepth 20000 in
theorem ggX5_isAmong_X1_get : GoodIn wsX5_isAmong wsX1_get := goodIn_r _ [6, 7, 8, 15, 16] (by decide +kernel) (by decide +kernel)
set_option maxRecDepth 20000 in
theorem gX5_isAmong_X1_get : GoodIn wsX5_isAmong (wsV RX5 52 RX1 yX1_get wsX1_get) := goodIn_app (goodIn_of _ (by decide +kernel)) ggX5_isAmong_X1_get
theorem dX5_isAmong_0 : decode cX5_isAmong 0 = .ok (.iload_n 2, 1) := by decide +kernel
theorem dX5_isAmong_1 : decode cX5_isAmong 1 = .ok (.istore 4, 2) := by decide +kernel
theorem dX5_isAmong_3 : decode cX5_isAmong 3 = .ok (.iload 4, 2) := by decide +kernel
theorem dX5_isAmong_5 : decode cX5_isAmong 5 = .ok (.iload_n 3, 1) := by decide +kernel
theorem dX5_isAmong_6 : decode cX5_isAmong 6 = .ok (.if_icmp .ge 24, 3) := by decide +kernel
theorem dX5_isAmong_9 : decode cX5_isAmong 9 = .ok (.aload_n 0, 1) := by decide +kernel
theorem dX5_isAmong_10 : decode cX5_isAmong 10 = .ok (.getfield 20, 3) := by decide +kernel
theorem dX5_isAmong_13 : decode cX5_isAmong 13 = .ok (.iload 4, 2) := by decide +kernel
theorem dX5_isAmong_15 : decode cX5_isAmong 15 = .ok (.invokevirtual 52, 3) := by decide +kernel
theorem dX5_isAmong_18 : decode cX5_isAmong 18 = .ok (.iload_n 1, 1) := by decide +kernel
theorem dX5_isAmong_19 : decode cX5_isAmong 19 = .ok (.if_icmp .ne 5, 3) := by decide +kernel
theorem dX5_isAmong_22 : decode cX5_isAmong 22 = .ok (.iconst 1, 1) := by decide +kernel
theorem dX5_isAmong_23 : decode cX5_isAmong 23 = .ok (.ireturn, 1) := by decide +kernel
theorem dX5_isAmong_24 : decode cX5_isAmong 24 = .ok (.iinc 4 1, 3) := by decide +kernel
theorem dX5_isAmong_27 : decode cX5_isAmong 27 = .ok (.goto (-24), 3) := by decide +kernel
theorem dX5_isAmong_30 : decode cX5_isAmong 30 = .ok (.iconst 0, 1) := by decide +kernel
theorem dX5_isAmong_31 : decode cX5_isAmong 31 = .ok (.ireturn, 1) := by decide +kernel
set_option maxRecDepth 20000 in
theorem ggX5_endWithCall_X2_bells : GoodIn wsX5_endWithCall wsX2_bells := goodIn_r _ [7, 8, 59, 60, 61, 62] (by decide +kernel) (by decide +kernel)
set_option maxRecDepth 20000 in
theorem gX5_endWithCall_X2_bells : GoodIn wsX5_endWithCall (wsV RX5 80 RX2 yX2_bells wsX2_bells) := goodIn_app (goodIn_of _ (by decide +kernel)) ggX5_endWithCall_X2_bells
set_option maxRecDepth 20000 in
theorem ggX5_endWithCall_X3_rounds : GoodIn wsX5_endWithCall wsX3_rounds := goodIn_r _ [12, 13, 14, 11, 15] (by decide +kernel) (by decide +kernel)
set_option maxRecDepth 20000 in
theorem gX5_endWithCall_X3_rounds : GoodIn wsX5_endWithCall (va_wsS RX5 105 yX3_rounds wsX3_rounds) := goodIn_app (goodIn_of _ (by decide +kernel)) ggX5_endWithCall_X3_rounds
set_option maxRecDepth 20000 in
theorem ggX5_endWithCall_X1_size : GoodIn wsX5_endWithCall wsX1_size := goodIn_r _ [20, 21, 63, 64] (by decide +kernel) (by decide +kernel)
set_option maxRecDepth 20000 in
theorem gX5_endWithCall_X1_size : GoodIn wsX5_endWithCall (wsV RX5 48 RX1 yX1_size wsX1_size) := goodIn_app (goodIn_of _ (by decide +kernel)) ggX5_endWithCall_X1_size
set_option maxRecDepth 20000 in
theorem ggX5_endWithCall_X1_get : GoodIn wsX5_endWithCall wsX1_get := goodIn_r _ [25, 21, 26, 63, 64] (by decide +kernel) (by decide +kernel)
set_option maxRecDepth 20000 in
theorem gX5_endWithCall_X1_get : GoodIn wsX5_endWithCall (wsV RX5 52 RX1 yX1_get wsX1_get) := goodIn_app (goodIn_of _ (by decide +kernel)) ggX5_endWithCall_X1_get
set_option maxRecDepth 20000 in
theorem ggX5_endWithCall_X2_leadEnd : GoodIn wsX5_endWithCall wsX2_leadEnd := goodIn_r _ [30, 31, 8, 32, 17, 18, 19, 20, 21, 33, 34, 35, 6, 36, 37, 38, 39, 40, 41, 42, 43, 23, 24, 25, 26, 44, 45, 11, 46, 47, 48, 49, 50, 51, 52, 59, 60, 61, 62, 63, 64] (by decide +kernel) (by decide +kernel)
set_option maxRecDepth 20000 in
theorem gX5_endWithCall_X2_leadEnd : GoodIn wsX5_endWithCall (wsV RX5 126 RX2 yX2_leadEnd wsX2_leadEnd) := goodIn_app (goodIn_of _ (by decide +kernel)) ggX5_endWithCall_X2_leadEnd
theorem dX5_endWithCall_0 : decode cX5_endWithCall 0 = .ok (.aload_n 0, 1) := by decide +kernel
theorem dX5_endWithCall_1 : decode cX5_endWithCall 1 = .ok (.getfield 34, 3) := by decide +kernel
theorem dX5_endWithCall_4 : decode cX5_endWithCall 4 = .ok (.invokevirtual 80, 3) := by decide +kernel
theorem dX5_endWithCall_7 : decode cX5_endWithCall 7 = .ok (.invokestatic 105, 3) := by decide +kernel
theorem dX5_endWithCall_10 : decode cX5_endWithCall 10 = .ok (.istore_n 3, 1) := by decide +kernel
theorem dX5_endWithCall_11 : decode cX5_endWithCall 11 = .ok (.iconst 0, 1) := by decide +kernel
theorem dX5_endWithCall_12 : decode cX5_endWithCall 12 = .ok (.istore 4, 2) := by decide +kernel
theorem dX5_endWithCall_14 : decode cX5_endWithCall 14 = .ok (.iload 4, 2) := by decide +kernel
theorem dX5_endWithCall_16 : decode cX5_endWithCall 16 = .ok (.aload_n 0, 1) := by decide +kernel
theorem dX5_endWithCall_17 : decode cX5_endWithCall 17 = .ok (.getfield 14, 3) := by decide +kernel
theorem dX5_endWithCall_20 : decode cX5_endWithCall 20 = .ok (.invokevirtual 48, 3) := by decide +kernel
theorem dX5_endWithCall_23 : decode cX5_endWithCall 23 = .ok (.if_icmp .ge 37, 3) := by decide +kernel
theorem dX5_endWithCall_26 : decode cX5_endWithCall 26 = .ok (.aload_n 0, 1) := by decide +kernel
theorem dX5_endWithCall_27 : decode cX5_endWithCall 27 = .ok (.getfield 34, 3) := by decide +kernel
theorem dX5_endWithCall_30 : decode cX5_endWithCall 30 = .ok (.iload_n 3, 1) := by decide +kernel
theorem dX5_endWithCall_31 : decode cX5_endWithCall 31 = .ok (.iload 4, 2) := by decide +kernel
theorem dX5_endWithCall_33 : decode cX5_endWithCall 33 = .ok (.iload_n 1, 1) := by decide +kernel
theorem dX5_endWithCall_34 : decode cX5_endWithCall 34 = .ok (.if_icmp .ne 7, 3) := by decide +kernel
theorem dX5_endWithCall_37 : decode cX5_endWithCall 37 = .ok (.iload_n 2, 1) := by decide +kernel
theorem dX5_endWithCall_38 : decode cX5_endWithCall 38 = .ok (.goto 12, 3) := by decide +kernel
theorem dX5_endWithCall_41 : decode cX5_endWithCall 41 = .ok (.aload_n 0, 1) := by decide +kernel
theorem dX5_endWithCall_42 : decode cX5_endWithCall 42 = .ok (.getfield 14, 3) := by decide +kernel
theorem dX5_endWithCall_45 : decode cX5_endWithCall 45 = .ok (.iload 4, 2) := by decide +kernel
theorem dX5_endWithCall_47 : decode cX5_endWithCall 47 = .ok (.invokevirtual 52, 3) := by decide +kernel
theorem dX5_endWithCall_50 : decode cX5_endWithCall 50 = .ok (.invokevirtual 126, 3) := by decide +kernel
theorem dX5_endWithCall_53 : decode cX5_endWithCall 53 = .ok (.istore_n 3, 1) := by decide +kernel
theorem dX5_endWithCall_54 : decode cX5_endWithCall 54 = .ok (.iinc 4 1, 3) := by decide +kernel
theorem dX5_endWithCall_57 : decode cX5_endWithCall 57 = .ok (.goto (-43), 3) := by decide +kernel
theorem dX5_endWithCall_60 : decode cX5_endWithCall 60 = .ok (.iload_n 3, 1) := by decide +kernel
theorem dX5_endWithCall_61 : decode cX5_endWithCall 61 = .ok (.ireturn, 1) := by decide +kernel
set_option maxRecDepth 20000 in
theorem ggX5_clashesBehindEnd_X5_end : GoodIn wsX5_clashesBehindEnd wsX5_end := goodIn_r _ [6, 7, 1, 8, 9, 10, 11, 12, 13, 14, 15, 16, 17, 18, 19, 20, 21, 22, 23, 24, 25, 26, 27, 28, 29, 30, 31, 79, 80, 81, 82, 83, 84, 85, 86, 87, 88, 89, 90] (by decide +kernel) (by decide +kernel)
set_option maxRecDepth 20000 in
theorem gX5_clashesBehindEnd_X5_end : GoodIn wsX5_clashesBehindEnd (wsV RX5 73 RX5 yX5_end wsX5_end) := goodIn_app (goodIn_of _ (by decide +kernel)) ggX5_clashesBehindEnd_X5_end
set_option maxRecDepth 20000 in
theorem ggX5_clashesBehindEnd_X2_length : GoodIn wsX5_clashesBehindEnd wsX2_length := goodIn_r _ [35, 36, 37, 9, 10, 11, 12, 13, 87, 88, 89, 90, 85, 86] (by decide +kernel) (by decide +kernel)
set_option maxRecDepth 20000 in
theorem gX5_clashesBehindEnd_X2_length : GoodIn wsX5_clashesBehindEnd (wsV RX5 62 RX2 yX2_length wsX2_length) := goodIn_app (goodIn_of _ (by decide +kernel)) ggX5_clashesBehindEnd_X2_length
set_option maxRecDepth 20000 in
theorem ggX5_clashesBehindEnd_X2_rungChange : GoodIn wsX5_clashesBehindEnd wsX2_rungChange := goodIn_r _ [41, 36, 37, 9, 10, 11, 12, 13, 42, 43, 44, 17, 45, 46, 47, 48, 28, 29, 30, 31, 87, 88, 89, 90, 85, 86] (by decide +kernel) (by decide +kernel)
set_option maxRecDepth 20000 in
theorem gX5_clashesBehindEnd_X2_rungChange : GoodIn wsX5_clashesBehindEnd (wsV RX5 76 RX2 yX2_rungChange wsX2_rungChange) := goodIn_app (goodIn_of _ (by decide +kernel)) ggX5_clashesBehindEnd_X2_rungChange
set_option maxRecDepth 20000 in
theorem ggX5_clashesBehindEnd_X2_bells : GoodIn wsX5_clashesBehindEnd wsX2_bells := goodIn_r _ [18, 19, 87, 88, 89, 90] (by decide +kernel) (by decide +kernel)
set_option maxRecDepth 20000 in
theorem gX5_clashesBehindEnd_X2_bells : GoodIn wsX5_clashesBehindEnd (wsV RX5 80 RX2 yX2_bells wsX2_bells) := goodIn_app (goodIn_of _ (by decide +kernel)) ggX5_clashesBehindEnd_X2_bells
set_option maxRecDepth 20000 in
theorem ggX5_clashesBehindEnd_X3_changed : GoodIn wsX5_clashesBehindEnd wsX3_changed := goodIn_r _ [51, 52, 53, 22, 54, 55, 56, 57] (by decide +kernel) (by decide +kernel)
set_option maxRecDepth 20000 in
theorem gX5_clashesBehindEnd_X3_changed : GoodIn wsX5_clashesBehindEnd (va_wsS RX5 83 yX3_changed wsX3_changed) := goodIn_app (goodIn_of _ (by decide +kernel)) ggX5_clashesBehindEnd_X3_changed
set_option maxRecDepth 20000 in
theorem ggX5_clashesBehindEnd_X5_firstNumberOf : GoodIn wsX5_clashesBehindEnd wsX5_firstNumberOf := goodIn_r _ [61, 62, 1, 14, 15, 16, 17, 18, 19, 63, 64, 22, 65, 66, 67, 68, 69, 70, 71, 72, 73, 74, 75, 76, 77, 78, 79, 80, 81, 82, 83, 84, 87, 88, 89, 90, 91] (by decide +kernel) (by decide +kernel)
set_option maxRecDepth 20000 in
theorem gX5_clashesBehindEnd_X5_firstNumberOf : GoodIn wsX5_clashesBehindEnd (wsV RX5 129 RX5 yX5_firstNumberOf wsX5_firstNumberOf) := goodIn_app (goodIn_of _ (by decide +kernel)) ggX5_clashesBehindEnd_X5_firstNumberOf
theorem dX5_clashesBehindEnd_0 : decode cX5_clashesBehindEnd 0 = .ok (.iconst 0, 1) := by decide +kernel
theorem dX5_clashesBehindEnd_1 : decode cX5_clashesBehindEnd 1 = .ok (.istore_n 2, 1) := by decide +kernel
theorem dX5_clashesBehindEnd_2 : decode cX5_clashesBehindEnd 2 = .ok (.aload_n 0, 1) := by decide +kernel
theorem dX5_clashesBehindEnd_3 : decode cX5_clashesBehindEnd 3 = .ok (.invokevirtual 73, 3) := by decide +kernel
theorem dX5_clashesBehindEnd_6 : decode cX5_clashesBehindEnd 6 = .ok (.istore_n 3, 1) := by decide +kernel
theorem dX5_clashesBehindEnd_7 : decode cX5_clashesBehindEnd 7 = .ok (.iconst 0, 1) := by decide +kernel
theorem dX5_clashesBehindEnd_8 : decode cX5_clashesBehindEnd 8 = .ok (.istore 4, 2) := by decide +kernel
theorem dX5_clashesBehindEnd_10 : decode cX5_clashesBehindEnd 10 = .ok (.iload 4, 2) := by decide +kernel
theorem dX5_clashesBehindEnd_12 : decode cX5_clashesBehindEnd 12 = .ok (.aload_n 0, 1) := by decide +kernel
theorem dX5_clashesBehindEnd_13 : decode cX5_clashesBehindEnd 13 = .ok (.getfield 34, 3) := by decide +kernel
theorem dX5_clashesBehindEnd_16 : decode cX5_clashesBehindEnd 16 = .ok (.invokevirtual 62, 3) := by decide +kernel
theorem dX5_clashesBehindEnd_19 : decode cX5_clashesBehindEnd 19 = .ok (.if_icmp .ge 43, 3) := by decide +kernel
theorem dX5_clashesBehindEnd_22 : decode cX5_clashesBehindEnd 22 = .ok (.iload_n 3, 1) := by decide +kernel
theorem dX5_clashesBehindEnd_23 : decode cX5_clashesBehindEnd 23 = .ok (.aload_n 0, 1) := by decide +kernel
theorem dX5_clashesBehindEnd_24 : decode cX5_clashesBehindEnd 24 = .ok (.getfield 34, 3) := by decide +kernel
theorem dX5_clashesBehindEnd_27 : decode cX5_clashesBehindEnd 27 = .ok (.iload 4, 2) := by decide +kernel
theorem dX5_clashesBehindEnd_29 : decode cX5_clashesBehindEnd 29 = .ok (.iload_n 1, 1) := by decide +kernel
theorem dX5_clashesBehindEnd_30 : decode cX5_clashesBehindEnd 30 = .ok (.invokevirtual 76, 3) := by decide +kernel
theorem dX5_clashesBehindEnd_33 : decode cX5_clashesBehindEnd 33 = .ok (.aload_n 0, 1) := by decide +kernel
theorem dX5_clashesBehindEnd_34 : decode cX5_clashesBehindEnd 34 = .ok (.getfield 34, 3) := by decide +kernel
theorem dX5_clashesBehindEnd_37 : decode cX5_clashesBehindEnd 37 = .ok (.invokevirtual 80, 3) := by decide +kernel
theorem dX5_clashesBehindEnd_40 : decode cX5_clashesBehindEnd 40 = .ok (.invokestatic 83, 3) := by decide +kernel
theorem dX5_clashesBehindEnd_43 : decode cX5_clashesBehindEnd 43 = .ok (.istore_n 3, 1) := by decide +kernel
theorem dX5_clashesBehindEnd_44 : decode cX5_clashesBehindEnd 44 = .ok (.aload_n 0, 1) := by decide +kernel
theorem dX5_clashesBehindEnd_45 : decode cX5_clashesBehindEnd 45 = .ok (.iload_n 3, 1) := by decide +kernel
theorem dX5_clashesBehindEnd_46 : decode cX5_clashesBehindEnd 46 = .ok (.invokevirtual 129, 3) := by decide +kernel
theorem dX5_clashesBehindEnd_49 : decode cX5_clashesBehindEnd 49 = .ok (.iconst (-1), 1) := by decide +kernel
theorem dX5_clashesBehindEnd_50 : decode cX5_clashesBehindEnd 50 = .ok (.if_icmp .eq 6, 3) := by decide +kernel
theorem dX5_clashesBehindEnd_53 : decode cX5_clashesBehindEnd 53 = .ok (.iinc 2 1, 3) := by decide +kernel
theorem dX5_clashesBehindEnd_56 : decode cX5_clashesBehindEnd 56 = .ok (.iinc 4 1, 3) := by decide +kernel
theorem dX5_clashesBehindEnd_59 : decode cX5_clashesBehindEnd 59 = .ok (.goto (-49), 3) := by decide +kernel
theorem dX5_clashesBehindEnd_62 : decode cX5_clashesBehindEnd 62 = .ok (.iload_n 2, 1) := by decide +kernel
theorem dX5_clashesBehindEnd_63 : decode cX5_clashesBehindEnd 63 = .ok (.ireturn, 1) := by decide +kernel
set_option maxRecDepth 20000 in
theorem ggX6_init_X2_init : GoodIn wsX6_init wsX2_init := goodIn_r _ [17, 18, 2, 3, 19, 20, 21, 22, 23, 24, 25, 26, 27, 28, 29, 30, 31, 32, 33, 34, 35, 82, 83, 65, 66, 67, 68] (by decide +kernel) (by decide +kernel)
set_option maxRecDepth 20000 in
theorem gX6_init_X2_init_n9 : GoodIn wsX6_init (wsX2_init) := ggX6_init_X2_init
set_option maxRecDepth 20000 in
theorem ggX6_init_X5_init : GoodIn wsX6_init wsX5_init := goodIn_r _ [38, 39, 2, 3, 40, 20, 21, 41, 42, 43, 44, 45, 46, 47, 48, 49, 27, 28, 29, 30, 31, 32, 33, 34, 35, 50, 51, 52, 53, 82, 83, 72, 73, 74, 75, 76, 77, 84] (by decide +kernel) (by decide +kernel)
set_option maxRecDepth 20000 in
theorem gX6_init_X5_init : GoodIn wsX6_init (wsX5_init) := ggX6_init_X5_init
set_option maxRecDepth 20000 in
theorem ggX6_init_X4_init : GoodIn wsX6_init wsX4_init := goodIn_r _ [56, 57, 2, 3, 58, 20, 21, 59, 60, 61, 9, 10, 62, 63, 27, 28, 29, 30, 31, 32, 33, 34, 35, 64, 37, 38, 39, 40, 41, 42, 43, 44, 45, 46, 47, 48, 49, 50, 51, 52, 53, 82, 83, 78, 79, 80, 81, 72, 73, 74, 75, 76, 77, 84] (by decide +kernel) (by decide +kernel)
set_option maxRecDepth 20000 in
theorem gX6_init_X4_init : GoodIn wsX6_init (wsX4_init) := ggX6_init_X4_init
theorem dX6_init_0 : decode cX6_init 0 = .ok (.aload_n 0, 1) := by decide +kernel
theorem dX6_init_1 : decode cX6_init 1 = .ok (.invokespecial 1, 3) := by decide +kernel
theorem dX6_init_4 : decode cX6_init 4 = .ok (.new 7, 3) := by decide +kernel
theorem dX6_init_7 : decode cX6_init 7 = .ok (.dup, 1) := by decide +kernel
theorem dX6_init_8 : decode cX6_init 8 = .ok (.invokespecial 9, 3) := by decide +kernel
theorem dX6_init_11 : decode cX6_init 11 = .ok (.astore_n 1, 1) := by decide +kernel
theorem dX6_init_12 : decode cX6_init 12 = .ok (.aload_n 0, 1) := by decide +kernel
theorem dX6_init_13 : decode cX6_init 13 = .ok (.aload_n 1, 1) := by decide +kernel
theorem dX6_init_14 : decode cX6_init 14 = .ok (.putfield 10, 3) := by decide +kernel
theorem dX6_init_17 : decode cX6_init 17 = .ok (.aload_n 0, 1) := by decide +kernel
theorem dX6_init_18 : decode cX6_init 18 = .ok (.new 16, 3) := by decide +kernel
theorem dX6_init_21 : decode cX6_init 21 = .ok (.dup, 1) := by decide +kernel
theorem dX6_init_22 : decode cX6_init 22 = .ok (.aload_n 1, 1) := by decide +kernel
theorem dX6_init_23 : decode cX6_init 23 = .ok (.invokespecial 18, 3) := by decide +kernel
theorem dX6_init_26 : decode cX6_init 26 = .ok (.putfield 21, 3) := by decide +kernel
theorem dX6_init_29 : decode cX6_init 29 = .ok (.aload_n 0, 1) := by decide +kernel
theorem dX6_init_30 : decode cX6_init 30 = .ok (.new 25, 3) := by decide +kernel
theorem dX6_init_33 : decode cX6_init 33 = .ok (.dup, 1) := by decide +kernel
theorem dX6_init_34 : decode cX6_init 34 = .ok (.aload_n 1, 1) := by decide +kernel
theorem dX6_init_35 : decode cX6_init 35 = .ok (.invokespecial 27, 3) := by decide +kernel
theorem dX6_init_38 : decode cX6_init 38 = .ok (.putfield 28, 3) := by decide +kernel
theorem dX6_init_41 : decode cX6_init 41 = .ok (.return_, 1) := by decide +kernel
set_option maxRecDepth 20000 in
theorem ggX6_begin_X2_restart : GoodIn wsX6_begin wsX2_restart := goodIn_r _ [9, 10, 11, 12, 13, 14, 15, 16, 17, 18, 19, 61, 62, 63, 64, 65, 66] (by decide +kernel) (by decide +kernel)
set_option maxRecDepth 20000 in
theorem gX6_begin_X2_restart : GoodIn wsX6_begin (wsV RX6 39 RX2 yX2_restart wsX2_restart) := goodIn_app (goodIn_of _ (by decide +kernel)) ggX6_begin_X2_restart
set_option maxRecDepth 20000 in
theorem ggX6_begin_X5_clear : GoodIn wsX6_begin wsX5_clear := goodIn_r _ [24, 25, 26, 15, 16, 17, 18, 19, 27, 28, 29, 23, 30, 31, 32, 33, 34, 35, 36, 37, 38, 39, 40, 41, 42, 43, 44, 67, 68, 69, 70, 71, 72, 65, 66, 73] (by decide +kernel) (by decide +kernel)
set_option maxRecDepth 20000 in
theorem gX6_begin_X5_clear : GoodIn wsX6_begin (wsV RX6 43 RX5 yX5_clear wsX5_clear) := goodIn_app (goodIn_of _ (by decide +kernel)) ggX6_begin_X5_clear
set_option maxRecDepth 20000 in
theorem ggX6_begin_X3_rounds : GoodIn wsX6_begin wsX3_rounds := goodIn_r _ [48, 49, 50, 47, 51] (by decide +kernel) (by decide +kernel)
set_option maxRecDepth 20000 in
theorem gX6_begin_X3_rounds : GoodIn wsX6_begin (va_wsS RX6 46 yX3_rounds wsX3_rounds) := goodIn_app (goodIn_of _ (by decide +kernel)) ggX6_begin_X3_rounds
set_option maxRecDepth 20000 in
theorem ggX6_begin_X3_number : GoodIn wsX6_begin wsX3_number := goodIn_r _ [54, 55, 56, 47, 57] (by decide +kernel) (by decide +kernel)
set_option maxRecDepth 20000 in
theorem gX6_begin_X3_number : GoodIn wsX6_begin (va_wsS RX6 52 yX3_number wsX3_number) := goodIn_app (goodIn_of _ (by decide +kernel)) ggX6_begin_X3_number
theorem dX6_begin_0 : decode cX6_begin 0 = .ok (.iload_n 1, 1) := by decide +kernel
theorem dX6_begin_1 : decode cX6_begin 1 = .ok (.iconst 4, 1) := by decide +kernel
theorem dX6_begin_2 : decode cX6_begin 2 = .ok (.if_icmp .lt 9, 3) := by decide +kernel
theorem dX6_begin_5 : decode cX6_begin 5 = .ok (.iload_n 1, 1) := by decide +kernel
theorem dX6_begin_6 : decode cX6_begin 6 = .ok (.bipush 7, 2) := by decide +kernel
theorem dX6_begin_8 : decode cX6_begin 8 = .ok (.if_icmp .le 13, 3) := by decide +kernel
theorem dX6_begin_11 : decode cX6_begin 11 = .ok (.new 32, 3) := by decide +kernel
theorem dX6_begin_14 : decode cX6_begin 14 = .ok (.dup, 1) := by decide +kernel
theorem dX6_begin_15 : decode cX6_begin 15 = .ok (.ldc 34, 2) := by decide +kernel
theorem dX6_begin_17 : decode cX6_begin 17 = .ok (.invokespecial 36, 3) := by decide +kernel
theorem dX6_begin_20 : decode cX6_begin 20 = .ok (.athrow, 1) := by decide +kernel
theorem dX6_begin_21 : decode cX6_begin 21 = .ok (.aload_n 0, 1) := by decide +kernel
theorem dX6_begin_22 : decode cX6_begin 22 = .ok (.getfield 10, 3) := by decide +kernel
theorem dX6_begin_25 : decode cX6_begin 25 = .ok (.iload_n 1, 1) := by decide +kernel
theorem dX6_begin_26 : decode cX6_begin 26 = .ok (.invokevirtual 39, 3) := by decide +kernel
theorem dX6_begin_29 : decode cX6_begin 29 = .ok (.aload_n 0, 1) := by decide +kernel
theorem dX6_begin_30 : decode cX6_begin 30 = .ok (.getfield 21, 3) := by decide +kernel
theorem dX6_begin_33 : decode cX6_begin 33 = .ok (.invokevirtual 43, 3) := by decide +kernel
theorem dX6_begin_36 : decode cX6_begin 36 = .ok (.iload_n 1, 1) := by decide +kernel
theorem dX6_begin_37 : decode cX6_begin 37 = .ok (.invokestatic 46, 3) := by decide +kernel
theorem dX6_begin_40 : decode cX6_begin 40 = .ok (.iload_n 1, 1) := by decide +kernel
theorem dX6_begin_41 : decode cX6_begin 41 = .ok (.invokestatic 52, 3) := by decide +kernel
theorem dX6_begin_44 : decode cX6_begin 44 = .ok (.ireturn, 1) := by decide +kernel
set_option maxRecDepth 20000 in
theorem ggX6_change_X6_refuseNoChange : GoodIn wsX6_change wsX6_refuseNoChange := goodIn_ca (goodIn_r _ [9, 10, 11, 3, 12, 13, 14, 15, 16, 17, 18, 19, 20, 21, 22, 23, 24, 135, 136, 137, 138, 139, 140, 141] (by decide +kernel) (by decide +kernel)) (goodIn_sub (fun _ h => List.mem_cons_of_mem _ (List.mem_append_right _ h)) (by decide +kernel))
set_option maxRecDepth 20000 in
theorem gX6_change_X6_refuseNoChange : GoodIn wsX6_change (wsV RX6 56 RX6 yX6_refuseNoChange wsX6_refuseNoChange) := goodIn_app (goodIn_of _ (by decide +kernel)) ggX6_change_X6_refuseNoChange
set_option maxRecDepth 20000 in
theorem ggX6_change_X2_length : GoodIn wsX6_change wsX2_length := goodIn_r _ [28, 29, 30, 31, 32, 33, 34, 35, 138, 139, 140, 141, 142, 143] (by decide +kernel) (by decide +kernel)
set_option maxRecDepth 20000 in
theorem gX6_change_X2_length : GoodIn wsX6_change (wsV RX6 59 RX2 yX2_length wsX2_length) := goodIn_app (goodIn_of _ (by decide +kernel)) ggX6_change_X2_length
set_option maxRecDepth 20000 in
theorem ggX6_change_X2_add : GoodIn wsX6_change wsX2_add := goodIn_r _ [39, 29, 40, 41, 42, 33, 43, 35, 44, 138, 139, 140, 141, 142, 143] (by decide +kernel) (by decide +kernel)
set_option maxRecDepth 20000 in
theorem gX6_change_X2_add : GoodIn wsX6_change (wsV RX6 68 RX2 yX2_add wsX2_add) := goodIn_app (goodIn_of _ (by decide +kernel)) ggX6_change_X2_add
set_option maxRecDepth 20000 in
theorem ggX6_change_X5_ringAgain : GoodIn wsX6_change wsX5_ringAgain := goodIn_r _ [49, 50, 51, 52, 53, 48, 54, 55, 56, 57, 58, 59, 60, 61, 33, 62, 35, 63, 64, 65, 66, 67, 68, 69, 70, 71, 72, 73, 31, 32, 34, 74, 75, 76, 77, 44, 78, 79, 80, 81, 82, 83, 84, 85, 86, 87, 13, 14, 15, 16, 17, 88, 89, 20, 90, 91, 92, 93, 94, 26, 27, 28, 29, 30, 95, 96, 97, 98, 99, 100, 101, 102, 103, 104, 105, 106, 107, 108, 22, 23, 24, 109, 110, 111, 112, 113, 114, 115, 116, 117, 118, 119, 120, 121, 122, 123, 124, 125, 126, 127, 128, 129, 130, 131, 132, 133, 134, 41, 42, 43, 144, 145, 146, 147, 148, 149, 142, 143, 150, 138, 139, 140, 141] (by decide +kernel) (by decide +kernel)
set_option maxRecDepth 20000 in
theorem gX6_change_X5_ringAgain : GoodIn wsX6_change (wsV RX6 71 RX5 yX5_ringAgain wsX5_ringAgain) := goodIn_app (goodIn_of _ (by decide +kernel)) ggX6_change_X5_ringAgain
theorem dX6_change_0 : decode cX6_change 0 = .ok (.aload_n 0, 1) := by decide +kernel
theorem dX6_change_1 : decode cX6_change 1 = .ok (.iload_n 1, 1) := by decide +kernel
theorem dX6_change_2 : decode cX6_change 2 = .ok (.invokevirtual 56, 3) := by decide +kernel
theorem dX6_change_5 : decode cX6_change 5 = .ok (.aload_n 0, 1) := by decide +kernel
theorem dX6_change_6 : decode cX6_change 6 = .ok (.getfield 10, 3) := by decide +kernel
theorem dX6_change_9 : decode cX6_change 9 = .ok (.invokevirtual 59, 3) := by decide +kernel
theorem dX6_change_12 : decode cX6_change 12 = .ok (.bipush 14, 2) := by decide +kernel
theorem dX6_change_14 : decode cX6_change 14 = .ok (.if_icmp .lt 13, 3) := by decide +kernel
theorem dX6_change_17 : decode cX6_change 17 = .ok (.new 63, 3) := by decide +kernel
theorem dX6_change_20 : decode cX6_change 20 = .ok (.dup, 1) := by decide +kernel
theorem dX6_change_21 : decode cX6_change 21 = .ok (.ldc 65, 2) := by decide +kernel
theorem dX6_change_23 : decode cX6_change 23 = .ok (.invokespecial 67, 3) := by decide +kernel
theorem dX6_change_26 : decode cX6_change 26 = .ok (.athrow, 1) := by decide +kernel
theorem dX6_change_27 : decode cX6_change 27 = .ok (.aload_n 0, 1) := by decide +kernel
theorem dX6_change_28 : decode cX6_change 28 = .ok (.getfield 10, 3) := by decide +kernel
theorem dX6_change_31 : decode cX6_change 31 = .ok (.iload_n 1, 1) := by decide +kernel
theorem dX6_change_32 : decode cX6_change 32 = .ok (.invokevirtual 68, 3) := by decide +kernel
theorem dX6_change_35 : decode cX6_change 35 = .ok (.aload_n 0, 1) := by decide +kernel
theorem dX6_change_36 : decode cX6_change 36 = .ok (.getfield 21, 3) := by decide +kernel
theorem dX6_change_39 : decode cX6_change 39 = .ok (.invokevirtual 71, 3) := by decide +kernel
theorem dX6_change_42 : decode cX6_change 42 = .ok (.aload_n 0, 1) := by decide +kernel
theorem dX6_change_43 : decode cX6_change 43 = .ok (.getfield 10, 3) := by decide +kernel
theorem dX6_change_46 : decode cX6_change 46 = .ok (.invokevirtual 59, 3) := by decide +kernel
theorem dX6_change_49 : decode cX6_change 49 = .ok (.ireturn, 1) := by decide +kernel
set_option maxRecDepth 20000 in
theorem ggX6_mirror_X2_length : GoodIn wsX6_mirror wsX2_length := goodIn_r _ [9, 10, 11, 12, 13, 14, 15, 16, 131, 132, 133, 134, 135, 136] (by decide +kernel) (by decide +kernel)
set_option maxRecDepth 20000 in
theorem gX6_mirror_X2_length : GoodIn wsX6_mirror (wsV RX6 59 RX2 yX2_length wsX2_length) := goodIn_app (goodIn_of _ (by decide +kernel)) ggX6_mirror_X2_length
set_option maxRecDepth 20000 in
theorem ggX6_mirror_X2_plainChange : GoodIn wsX6_mirror wsX2_plainChange := goodIn_r _ [20, 10, 21, 22, 23, 14, 24, 16, 25, 131, 132, 133, 134, 135, 136] (by decide +kernel) (by decide +kernel)
set_option maxRecDepth 20000 in
theorem gX6_mirror_X2_plainChange : GoodIn wsX6_mirror (wsV RX6 76 RX2 yX2_plainChange wsX2_plainChange) := goodIn_app (goodIn_of _ (by decide +kernel)) ggX6_mirror_X2_plainChange
set_option maxRecDepth 20000 in
theorem ggX6_mirror_X2_add : GoodIn wsX6_mirror wsX2_add := goodIn_r _ [29, 10, 30, 31, 32, 14, 33, 16, 25, 131, 132, 133, 134, 135, 136] (by decide +kernel) (by decide +kernel)
set_option maxRecDepth 20000 in
theorem gX6_mirror_X2_add : GoodIn wsX6_mirror (wsV RX6 68 RX2 yX2_add wsX2_add) := goodIn_app (goodIn_of _ (by decide +kernel)) ggX6_mirror_X2_add
set_option maxRecDepth 20000 in
theorem ggX6_mirror_X5_ringAgain : GoodIn wsX6_mirror wsX5_ringAgain := goodIn_r _ [38, 39, 40, 41, 42, 37, 43, 44, 45, 46, 47, 48, 49, 50, 14, 51, 16, 52, 53, 54, 55, 56, 57, 58, 59, 60, 61, 62, 12, 13, 15, 63, 22, 23, 24, 25, 64, 65, 66, 67, 68, 69, 70, 71, 72, 73, 74, 75, 8, 76, 77, 78, 79, 80, 81, 82, 83, 84, 85, 6, 7, 9, 10, 11, 86, 87, 88, 89, 90, 91, 92, 93, 94, 95, 21, 96, 97, 98, 99, 100, 101, 102, 103, 104, 105, 106, 107, 108, 109, 110, 111, 112, 113, 114, 115, 116, 117, 118, 119, 120, 121, 122, 123, 124, 125, 126, 127, 31, 32, 33, 137, 138, 139, 140, 141, 142, 135, 136, 143, 131, 132, 133, 134] (by decide +kernel) (by decide +kernel)
set_option maxRecDepth 20000 in
theorem gX6_mirror_X5_ringAgain : GoodIn wsX6_mirror (wsV RX6 71 RX5 yX5_ringAgain wsX5_ringAgain) := goodIn_app (goodIn_of _ (by decide +kernel)) ggX6_mirror_X5_ringAgain
theorem dX6_mirror_0 : decode cX6_mirror 0 = .ok (.aload_n 0, 1) := by decide +kernel
theorem dX6_mirror_1 : decode cX6_mirror 1 = .ok (.getfield 10, 3) := by decide +kernel
theorem dX6_mirror_4 : decode cX6_mirror 4 = .ok (.invokevirtual 59, 3) := by decide +kernel
theorem dX6_mirror_7 : decode cX6_mirror 7 = .ok (.istore_n 1, 1) := by decide +kernel
theorem dX6_mirror_8 : decode cX6_mirror 8 = .ok (.iload_n 1, 1) := by decide +kernel
theorem dX6_mirror_9 : decode cX6_mirror 9 = .ok (.ifCond .eq 13, 3) := by decide +kernel
theorem dX6_mirror_12 : decode cX6_mirror 12 = .ok (.iconst 2, 1) := by decide +kernel
theorem dX6_mirror_13 : decode cX6_mirror 13 = .ok (.iload_n 1, 1) := by decide +kernel
theorem dX6_mirror_14 : decode cX6_mirror 14 = .ok (.imul, 1) := by decide +kernel
theorem dX6_mirror_15 : decode cX6_mirror 15 = .ok (.iconst 1, 1) := by decide +kernel
theorem dX6_mirror_16 : decode cX6_mirror 16 = .ok (.isub, 1) := by decide +kernel
theorem dX6_mirror_17 : decode cX6_mirror 17 = .ok (.bipush 14, 2) := by decide +kernel
theorem dX6_mirror_19 : decode cX6_mirror 19 = .ok (.if_icmp .le 13, 3) := by decide +kernel
theorem dX6_mirror_22 : decode cX6_mirror 22 = .ok (.new 63, 3) := by decide +kernel
theorem dX6_mirror_25 : decode cX6_mirror 25 = .ok (.dup, 1) := by decide +kernel
theorem dX6_mirror_26 : decode cX6_mirror 26 = .ok (.ldc 74, 2) := by decide +kernel
theorem dX6_mirror_28 : decode cX6_mirror 28 = .ok (.invokespecial 67, 3) := by decide +kernel
theorem dX6_mirror_31 : decode cX6_mirror 31 = .ok (.athrow, 1) := by decide +kernel
theorem dX6_mirror_32 : decode cX6_mirror 32 = .ok (.iload_n 1, 1) := by decide +kernel
theorem dX6_mirror_33 : decode cX6_mirror 33 = .ok (.iconst 2, 1) := by decide +kernel
theorem dX6_mirror_34 : decode cX6_mirror 34 = .ok (.isub, 1) := by decide +kernel
theorem dX6_mirror_35 : decode cX6_mirror 35 = .ok (.istore_n 2, 1) := by decide +kernel
theorem dX6_mirror_36 : decode cX6_mirror 36 = .ok (.iload_n 2, 1) := by decide +kernel
theorem dX6_mirror_37 : decode cX6_mirror 37 = .ok (.ifCond .lt 24, 3) := by decide +kernel
theorem dX6_mirror_40 : decode cX6_mirror 40 = .ok (.aload_n 0, 1) := by decide +kernel
theorem dX6_mirror_41 : decode cX6_mirror 41 = .ok (.getfield 10, 3) := by decide +kernel
theorem dX6_mirror_44 : decode cX6_mirror 44 = .ok (.aload_n 0, 1) := by decide +kernel
theorem dX6_mirror_45 : decode cX6_mirror 45 = .ok (.getfield 10, 3) := by decide +kernel
theorem dX6_mirror_48 : decode cX6_mirror 48 = .ok (.iload_n 2, 1) := by decide +kernel
theorem dX6_mirror_49 : decode cX6_mirror 49 = .ok (.invokevirtual 76, 3) := by decide +kernel
theorem dX6_mirror_52 : decode cX6_mirror 52 = .ok (.invokevirtual 68, 3) := by decide +kernel
theorem dX6_mirror_55 : decode cX6_mirror 55 = .ok (.iinc 2 (-1), 3) := by decide +kernel
theorem dX6_mirror_58 : decode cX6_mirror 58 = .ok (.goto (-22), 3) := by decide +kernel
theorem dX6_mirror_61 : decode cX6_mirror 61 = .ok (.aload_n 0, 1) := by decide +kernel
theorem dX6_mirror_62 : decode cX6_mirror 62 = .ok (.getfield 21, 3) := by decide +kernel
theorem dX6_mirror_65 : decode cX6_mirror 65 = .ok (.invokevirtual 71, 3) := by decide +kernel
theorem dX6_mirror_68 : decode cX6_mirror 68 = .ok (.aload_n 0, 1) := by decide +kernel
theorem dX6_mirror_69 : decode cX6_mirror 69 = .ok (.getfield 10, 3) := by decide +kernel
theorem dX6_mirror_72 : decode cX6_mirror 72 = .ok (.invokevirtual 59, 3) := by decide +kernel
theorem dX6_mirror_75 : decode cX6_mirror 75 = .ok (.ireturn, 1) := by decide +kernel
set_option maxRecDepth 20000 in
theorem ggX6_unchange_X2_length : GoodIn wsX6_unchange wsX2_length := goodIn_r _ [9, 10, 11, 12, 13, 14, 15, 16, 131, 132, 133, 134, 135, 136] (by decide +kernel) (by decide +kernel)
set_option maxRecDepth 20000 in
theorem gX6_unchange_X2_length : GoodIn wsX6_unchange (wsV RX6 59 RX2 yX2_length wsX2_length) := goodIn_app (goodIn_of _ (by decide +kernel)) ggX6_unchange_X2_length
set_option maxRecDepth 20000 in
theorem ggX6_unchange_X2_removeLast : GoodIn wsX6_unchange wsX2_removeLast := goodIn_r _ [20, 10, 21, 22, 23, 14, 24, 16, 25, 26, 27, 28, 29, 131, 132, 133, 134, 135, 136] (by decide +kernel) (by decide +kernel)
set_option maxRecDepth 20000 in
theorem gX6_unchange_X2_removeLast : GoodIn wsX6_unchange (wsV RX6 81 RX2 yX2_removeLast wsX2_removeLast) := goodIn_app (goodIn_of _ (by decide +kernel)) ggX6_unchange_X2_removeLast
set_option maxRecDepth 20000 in
theorem ggX6_unchange_X5_ringAgain : GoodIn wsX6_unchange wsX5_ringAgain := goodIn_r _ [34, 35, 36, 37, 38, 33, 39, 40, 41, 42, 43, 44, 45, 46, 14, 47, 16, 48, 49, 50, 51, 52, 53, 54, 55, 56, 57, 58, 12, 13, 15, 59, 26, 27, 28, 29, 60, 61, 62, 63, 64, 65, 66, 67, 68, 69, 70, 71, 8, 72, 73, 74, 75, 76, 77, 78, 79, 80, 81, 6, 7, 9, 10, 11, 82, 83, 84, 85, 86, 87, 88, 89, 90, 91, 92, 93, 94, 95, 96, 97, 98, 99, 100, 101, 102, 103, 104, 105, 106, 107, 108, 109, 110, 111, 112, 113, 114, 115, 116, 117, 118, 119, 120, 121, 122, 123, 124, 125, 126, 127, 137, 138, 139, 140, 141, 142, 135, 136, 143, 131, 132, 133, 134] (by decide +kernel) (by decide +kernel)
set_option maxRecDepth 20000 in
theorem gX6_unchange_X5_ringAgain : GoodIn wsX6_unchange (wsV RX6 71 RX5 yX5_ringAgain wsX5_ringAgain) := goodIn_app (goodIn_of _ (by decide +kernel)) ggX6_unchange_X5_ringAgain
theorem dX6_unchange_0 : decode cX6_unchange 0 = .ok (.aload_n 0, 1) := by decide +kernel
theorem dX6_unchange_1 : decode cX6_unchange 1 = .ok (.getfield 10, 3) := by decide +kernel
theorem dX6_unchange_4 : decode cX6_unchange 4 = .ok (.invokevirtual 59, 3) := by decide +kernel
theorem dX6_unchange_7 : decode cX6_unchange 7 = .ok (.ifCond .ne 13, 3) := by decide +kernel
theorem dX6_unchange_10 : decode cX6_unchange 10 = .ok (.new 63, 3) := by decide +kernel
theorem dX6_unchange_13 : decode cX6_unchange 13 = .ok (.dup, 1) := by decide +kernel
theorem dX6_unchange_14 : decode cX6_unchange 14 = .ok (.ldc 79, 2) := by decide +kernel
theorem dX6_unchange_16 : decode cX6_unchange 16 = .ok (.invokespecial 67, 3) := by decide +kernel
theorem dX6_unchange_19 : decode cX6_unchange 19 = .ok (.athrow, 1) := by decide +kernel
theorem dX6_unchange_20 : decode cX6_unchange 20 = .ok (.aload_n 0, 1) := by decide +kernel
theorem dX6_unchange_21 : decode cX6_unchange 21 = .ok (.getfield 10, 3) := by decide +kernel
theorem dX6_unchange_24 : decode cX6_unchange 24 = .ok (.invokevirtual 81, 3) := by decide +kernel
theorem dX6_unchange_27 : decode cX6_unchange 27 = .ok (.istore_n 1, 1) := by decide +kernel
theorem dX6_unchange_28 : decode cX6_unchange 28 = .ok (.aload_n 0, 1) := by decide +kernel
theorem dX6_unchange_29 : decode cX6_unchange 29 = .ok (.getfield 21, 3) := by decide +kernel
theorem dX6_unchange_32 : decode cX6_unchange 32 = .ok (.invokevirtual 71, 3) := by decide +kernel
theorem dX6_unchange_35 : decode cX6_unchange 35 = .ok (.iload_n 1, 1) := by decide +kernel
theorem dX6_unchange_36 : decode cX6_unchange 36 = .ok (.ireturn, 1) := by decide +kernel
set_option maxRecDepth 20000 in
theorem ggX6_at_X6_refuseNoChange : GoodIn wsX6_at wsX6_refuseNoChange := goodIn_ca (goodIn_r _ [9, 1, 2, 3, 10, 11, 12, 13, 14, 15, 16, 17, 18, 19, 20, 21, 22, 132, 133, 134, 135, 136, 137, 138] (by decide +kernel) (by decide +kernel)) (goodIn_sub (fun _ h => List.mem_cons_of_mem _ (List.mem_append_right _ h)) (by decide +kernel))
set_option maxRecDepth 20000 in
theorem gX6_at_X6_refuseNoChange : GoodIn wsX6_at (wsV RX6 56 RX6 yX6_refuseNoChange wsX6_refuseNoChange) := goodIn_app (goodIn_of _ (by decide +kernel)) ggX6_at_X6_refuseNoChange
set_option maxRecDepth 20000 in
theorem ggX6_at_X2_insteadOfLast : GoodIn wsX6_at wsX2_insteadOfLast := goodIn_r _ [26, 27, 28, 135, 136, 137, 138] (by decide +kernel) (by decide +kernel)
set_option maxRecDepth 20000 in
theorem gX6_at_X2_insteadOfLast : GoodIn wsX6_at (wsV RX6 86 RX2 yX2_insteadOfLast wsX2_insteadOfLast) := goodIn_app (goodIn_of _ (by decide +kernel)) ggX6_at_X2_insteadOfLast
set_option maxRecDepth 20000 in
theorem ggX6_at_X2_setInsteadOfLast : GoodIn wsX6_at wsX2_setInsteadOfLast := goodIn_r _ [32, 27, 28, 135, 136, 137, 138] (by decide +kernel) (by decide +kernel)
set_option maxRecDepth 20000 in
theorem gX6_at_X2_setInsteadOfLast : GoodIn wsX6_at (wsV RX6 89 RX2 yX2_setInsteadOfLast wsX2_setInsteadOfLast) := goodIn_app (goodIn_of _ (by decide +kernel)) ggX6_at_X2_setInsteadOfLast
set_option maxRecDepth 20000 in
theorem ggX6_at_X5_ringAgain : GoodIn wsX6_at wsX5_ringAgain := goodIn_r _ [37, 38, 39, 40, 41, 36, 42, 43, 44, 45, 46, 47, 48, 49, 50, 51, 52, 53, 54, 55, 56, 57, 58, 59, 60, 61, 62, 63, 64, 65, 66, 67, 68, 69, 70, 71, 72, 73, 74, 75, 76, 77, 78, 79, 80, 81, 11, 12, 13, 14, 15, 82, 83, 18, 84, 85, 86, 87, 88, 89, 90, 91, 92, 93, 94, 95, 96, 97, 98, 24, 25, 26, 27, 28, 99, 100, 101, 102, 20, 21, 22, 103, 104, 105, 106, 107, 108, 109, 110, 111, 112, 113, 114, 115, 116, 117, 118, 119, 120, 121, 122, 123, 124, 125, 126, 127, 128, 129, 130, 131, 139, 140, 141, 142, 143, 144, 145, 146, 147, 135, 136, 137, 138] (by decide +kernel) (by decide +kernel)
set_option maxRecDepth 20000 in
theorem gX6_at_X5_ringAgain : GoodIn wsX6_at (wsV RX6 71 RX5 yX5_ringAgain wsX5_ringAgain) := goodIn_app (goodIn_of _ (by decide +kernel)) ggX6_at_X5_ringAgain
theorem dX6_at_0 : decode cX6_at 0 = .ok (.iload_n 1, 1) := by decide +kernel
theorem dX6_at_1 : decode cX6_at 1 = .ok (.iconst 1, 1) := by decide +kernel
theorem dX6_at_2 : decode cX6_at 2 = .ok (.if_icmp .eq 18, 3) := by decide +kernel
theorem dX6_at_5 : decode cX6_at 5 = .ok (.iload_n 1, 1) := by decide +kernel
theorem dX6_at_6 : decode cX6_at 6 = .ok (.iconst 2, 1) := by decide +kernel
theorem dX6_at_7 : decode cX6_at 7 = .ok (.if_icmp .eq 13, 3) := by decide +kernel
theorem dX6_at_10 : decode cX6_at 10 = .ok (.new 32, 3) := by decide +kernel
theorem dX6_at_13 : decode cX6_at 13 = .ok (.dup, 1) := by decide +kernel
theorem dX6_at_14 : decode cX6_at 14 = .ok (.ldc 84, 2) := by decide +kernel
theorem dX6_at_16 : decode cX6_at 16 = .ok (.invokespecial 36, 3) := by decide +kernel
theorem dX6_at_19 : decode cX6_at 19 = .ok (.athrow, 1) := by decide +kernel
theorem dX6_at_20 : decode cX6_at 20 = .ok (.aload_n 0, 1) := by decide +kernel
theorem dX6_at_21 : decode cX6_at 21 = .ok (.iload_n 2, 1) := by decide +kernel
theorem dX6_at_22 : decode cX6_at 22 = .ok (.invokevirtual 56, 3) := by decide +kernel
theorem dX6_at_25 : decode cX6_at 25 = .ok (.aload_n 0, 1) := by decide +kernel
theorem dX6_at_26 : decode cX6_at 26 = .ok (.getfield 10, 3) := by decide +kernel
theorem dX6_at_29 : decode cX6_at 29 = .ok (.iload_n 1, 1) := by decide +kernel
theorem dX6_at_30 : decode cX6_at 30 = .ok (.invokevirtual 86, 3) := by decide +kernel
theorem dX6_at_33 : decode cX6_at 33 = .ok (.istore_n 3, 1) := by decide +kernel
theorem dX6_at_34 : decode cX6_at 34 = .ok (.aload_n 0, 1) := by decide +kernel
theorem dX6_at_35 : decode cX6_at 35 = .ok (.getfield 10, 3) := by decide +kernel
theorem dX6_at_38 : decode cX6_at 38 = .ok (.iload_n 1, 1) := by decide +kernel
theorem dX6_at_39 : decode cX6_at 39 = .ok (.iload_n 2, 1) := by decide +kernel
theorem dX6_at_40 : decode cX6_at 40 = .ok (.invokevirtual 89, 3) := by decide +kernel
theorem dX6_at_43 : decode cX6_at 43 = .ok (.aload_n 0, 1) := by decide +kernel
theorem dX6_at_44 : decode cX6_at 44 = .ok (.getfield 21, 3) := by decide +kernel
theorem dX6_at_47 : decode cX6_at 47 = .ok (.invokevirtual 71, 3) := by decide +kernel
theorem dX6_at_50 : decode cX6_at 50 = .ok (.iload_n 3, 1) := by decide +kernel
theorem dX6_at_51 : decode cX6_at 51 = .ok (.ireturn, 1) := by decide +kernel
set_option maxRecDepth 20000 in
theorem ggX6_isChange_X2_bells : GoodIn wsX6_isChange wsX2_bells := goodIn_r _ [6, 7, 18, 19, 20, 21] (by decide +kernel) (by decide +kernel)
set_option maxRecDepth 20000 in
theorem gX6_isChange_X2_bells : GoodIn wsX6_isChange (wsV RX6 93 RX2 yX2_bells wsX2_bells) := goodIn_app (goodIn_of _ (by decide +kernel)) ggX6_isChange_X2_bells
set_option maxRecDepth 20000 in
theorem ggX6_isChange_X3_canBeRung : GoodIn wsX6_isChange wsX3_canBeRung := goodIn_r _ [11, 12, 13, 10, 14] (by decide +kernel) (by decide +kernel)
set_option maxRecDepth 20000 in
theorem gX6_isChange_X3_canBeRung : GoodIn wsX6_isChange (va_wsS RX6 96 yX3_canBeRung wsX3_canBeRung) := goodIn_app (goodIn_of _ (by decide +kernel)) ggX6_isChange_X3_canBeRung
