theorem dX7_uncall_26 : decode cX7_uncall 26 = .ok (.getfield 33, 3) := by decide +kernel
theorem dX7_uncall_29 : decode cX7_uncall 29 = .ok (.iconst 1, 1) := by decide +kernel
theorem dX7_uncall_30 : decode cX7_uncall 30 = .ok (.isub, 1) := by decide +kernel
theorem dX7_uncall_31 : decode cX7_uncall 31 = .ok (.dup_x1, 1) := by decide +kernel
theorem dX7_uncall_32 : decode cX7_uncall 32 = .ok (.putfield 33, 3) := by decide +kernel
theorem dX7_uncall_35 : decode cX7_uncall 35 = .ok (.iaload, 1) := by decide +kernel
theorem dX7_uncall_36 : decode cX7_uncall 36 = .ok (.ireturn, 1) := by decide +kernel
set_option maxRecDepth 20000 in
theorem ggX7_callAt_X7_isIn : GoodIn wsX7_callAt wsX7_isIn := goodIn_r _ [7] (by decide +kernel) (by decide +kernel)
set_option maxRecDepth 20000 in
theorem gX7_callAt_X7_isIn : GoodIn wsX7_callAt (va_wsS RX7 39 yX7_isIn wsX7_isIn) := goodIn_app (goodIn_of _ (by decide +kernel)) ggX7_callAt_X7_isIn
set_option maxRecDepth 20000 in
theorem ggX7_callAt_X7_no : GoodIn wsX7_callAt wsX7_no := goodIn_r _ [11, 1, 12, 13, 14, 15, 16, 17, 18, 19, 20, 21] (by decide +kernel) (by decide +kernel)
set_option maxRecDepth 20000 in
theorem gX7_callAt_X7_no : GoodIn wsX7_callAt (wsV RX7 66 RX7 yX7_no wsX7_no) := goodIn_app (goodIn_of _ (by decide +kernel)) ggX7_callAt_X7_no
theorem dX7_callAt_0 : decode cX7_callAt 0 = .ok (.aload_n 0, 1) := by decide +kernel
theorem dX7_callAt_1 : decode cX7_callAt 1 = .ok (.iconst 0, 1) := by decide +kernel
theorem dX7_callAt_2 : decode cX7_callAt 2 = .ok (.putfield 36, 3) := by decide +kernel
theorem dX7_callAt_5 : decode cX7_callAt 5 = .ok (.iload_n 1, 1) := by decide +kernel
theorem dX7_callAt_6 : decode cX7_callAt 6 = .ok (.iconst 0, 1) := by decide +kernel
theorem dX7_callAt_7 : decode cX7_callAt 7 = .ok (.aload_n 0, 1) := by decide +kernel
theorem dX7_callAt_8 : decode cX7_callAt 8 = .ok (.getfield 33, 3) := by decide +kernel
theorem dX7_callAt_11 : decode cX7_callAt 11 = .ok (.iconst 1, 1) := by decide +kernel
theorem dX7_callAt_12 : decode cX7_callAt 12 = .ok (.isub, 1) := by decide +kernel
theorem dX7_callAt_13 : decode cX7_callAt 13 = .ok (.invokestatic 39, 3) := by decide +kernel
theorem dX7_callAt_16 : decode cX7_callAt 16 = .ok (.ifCond .eq 12, 3) := by decide +kernel
theorem dX7_callAt_19 : decode cX7_callAt 19 = .ok (.aload_n 0, 1) := by decide +kernel
theorem dX7_callAt_20 : decode cX7_callAt 20 = .ok (.getfield 16, 3) := by decide +kernel
theorem dX7_callAt_23 : decode cX7_callAt 23 = .ok (.iload_n 1, 1) := by decide +kernel
theorem dX7_callAt_24 : decode cX7_callAt 24 = .ok (.iaload, 1) := by decide +kernel
theorem dX7_callAt_25 : decode cX7_callAt 25 = .ok (.goto 8, 3) := by decide +kernel
theorem dX7_callAt_28 : decode cX7_callAt 28 = .ok (.aload_n 0, 1) := by decide +kernel
theorem dX7_callAt_29 : decode cX7_callAt 29 = .ok (.iconst 1, 1) := by decide +kernel
theorem dX7_callAt_30 : decode cX7_callAt 30 = .ok (.invokevirtual 66, 3) := by decide +kernel
theorem dX7_callAt_33 : decode cX7_callAt 33 = .ok (.ireturn, 1) := by decide +kernel
theorem dX7_first_0 : decode cX7_first 0 = .ok (.iconst 0, 1) := by decide +kernel
theorem dX7_first_1 : decode cX7_first 1 = .ok (.istore_n 2, 1) := by decide +kernel
theorem dX7_first_2 : decode cX7_first 2 = .ok (.iload_n 2, 1) := by decide +kernel
theorem dX7_first_3 : decode cX7_first 3 = .ok (.aload_n 0, 1) := by decide +kernel
theorem dX7_first_4 : decode cX7_first 4 = .ok (.arraylength, 1) := by decide +kernel
theorem dX7_first_5 : decode cX7_first 5 = .ok (.if_icmp .ge 16, 3) := by decide +kernel
theorem dX7_first_8 : decode cX7_first 8 = .ok (.aload_n 0, 1) := by decide +kernel
theorem dX7_first_9 : decode cX7_first 9 = .ok (.iload_n 2, 1) := by decide +kernel
theorem dX7_first_10 : decode cX7_first 10 = .ok (.iaload, 1) := by decide +kernel
theorem dX7_first_11 : decode cX7_first 11 = .ok (.iload_n 1, 1) := by decide +kernel
theorem dX7_first_12 : decode cX7_first 12 = .ok (.if_icmp .eq 9, 3) := by decide +kernel
theorem dX7_first_15 : decode cX7_first 15 = .ok (.iinc 2 1, 3) := by decide +kernel
theorem dX7_first_18 : decode cX7_first 18 = .ok (.goto (-16), 3) := by decide +kernel
theorem dX7_first_21 : decode cX7_first 21 = .ok (.iload_n 2, 1) := by decide +kernel
theorem dX7_first_22 : decode cX7_first 22 = .ok (.ireturn, 1) := by decide +kernel
set_option maxRecDepth 20000 in
theorem ggX7_firstAgain_X7_first : GoodIn wsX7_firstAgain wsX7_first := goodIn_r _ [4] (by decide +kernel) (by decide +kernel)
set_option maxRecDepth 20000 in
theorem gX7_firstAgain_X7_first : GoodIn wsX7_firstAgain (va_wsS RX7 102 yX7_first wsX7_first) := goodIn_app (goodIn_of _ (by decide +kernel)) ggX7_firstAgain_X7_first
theorem dX7_firstAgain_0 : decode cX7_firstAgain 0 = .ok (.iconst 0, 1) := by decide +kernel
theorem dX7_firstAgain_1 : decode cX7_firstAgain 1 = .ok (.istore_n 1, 1) := by decide +kernel
theorem dX7_firstAgain_2 : decode cX7_firstAgain 2 = .ok (.iload_n 1, 1) := by decide +kernel
theorem dX7_firstAgain_3 : decode cX7_firstAgain 3 = .ok (.aload_n 0, 1) := by decide +kernel
theorem dX7_firstAgain_4 : decode cX7_firstAgain 4 = .ok (.arraylength, 1) := by decide +kernel
theorem dX7_firstAgain_5 : decode cX7_firstAgain 5 = .ok (.if_icmp .ge 22, 3) := by decide +kernel
theorem dX7_firstAgain_8 : decode cX7_firstAgain 8 = .ok (.aload_n 0, 1) := by decide +kernel
theorem dX7_firstAgain_9 : decode cX7_firstAgain 9 = .ok (.aload_n 0, 1) := by decide +kernel
theorem dX7_firstAgain_10 : decode cX7_firstAgain 10 = .ok (.iload_n 1, 1) := by decide +kernel
theorem dX7_firstAgain_11 : decode cX7_firstAgain 11 = .ok (.iaload, 1) := by decide +kernel
theorem dX7_firstAgain_12 : decode cX7_firstAgain 12 = .ok (.invokestatic 102, 3) := by decide +kernel
theorem dX7_firstAgain_15 : decode cX7_firstAgain 15 = .ok (.iload_n 1, 1) := by decide +kernel
theorem dX7_firstAgain_16 : decode cX7_firstAgain 16 = .ok (.if_icmp .ge 5, 3) := by decide +kernel
theorem dX7_firstAgain_19 : decode cX7_firstAgain 19 = .ok (.iload_n 1, 1) := by decide +kernel
theorem dX7_firstAgain_20 : decode cX7_firstAgain 20 = .ok (.ireturn, 1) := by decide +kernel
theorem dX7_firstAgain_21 : decode cX7_firstAgain 21 = .ok (.iinc 1 1, 3) := by decide +kernel
theorem dX7_firstAgain_24 : decode cX7_firstAgain 24 = .ok (.goto (-22), 3) := by decide +kernel
theorem dX7_firstAgain_27 : decode cX7_firstAgain 27 = .ok (.iconst (-1), 1) := by decide +kernel
theorem dX7_firstAgain_28 : decode cX7_firstAgain 28 = .ok (.ireturn, 1) := by decide +kernel
set_option maxRecDepth 20000 in
theorem ggX7_different_X7_first : GoodIn wsX7_different wsX7_first := goodIn_r _ [4] (by decide +kernel) (by decide +kernel)
set_option maxRecDepth 20000 in
theorem gX7_different_X7_first : GoodIn wsX7_different (va_wsS RX7 102 yX7_first wsX7_first) := goodIn_app (goodIn_of _ (by decide +kernel)) ggX7_different_X7_first
theorem dX7_different_0 : decode cX7_different 0 = .ok (.iconst 0, 1) := by decide +kernel
theorem dX7_different_1 : decode cX7_different 1 = .ok (.istore_n 1, 1) := by decide +kernel
theorem dX7_different_2 : decode cX7_different 2 = .ok (.iconst 0, 1) := by decide +kernel
theorem dX7_different_3 : decode cX7_different 3 = .ok (.istore_n 2, 1) := by decide +kernel
theorem dX7_different_4 : decode cX7_different 4 = .ok (.iload_n 2, 1) := by decide +kernel
theorem dX7_different_5 : decode cX7_different 5 = .ok (.aload_n 0, 1) := by decide +kernel
theorem dX7_different_6 : decode cX7_different 6 = .ok (.arraylength, 1) := by decide +kernel
theorem dX7_different_7 : decode cX7_different 7 = .ok (.if_icmp .ge 28, 3) := by decide +kernel
theorem dX7_different_10 : decode cX7_different 10 = .ok (.iload_n 1, 1) := by decide +kernel
theorem dX7_different_11 : decode cX7_different 11 = .ok (.aload_n 0, 1) := by decide +kernel
theorem dX7_different_12 : decode cX7_different 12 = .ok (.aload_n 0, 1) := by decide +kernel
theorem dX7_different_13 : decode cX7_different 13 = .ok (.iload_n 2, 1) := by decide +kernel
theorem dX7_different_14 : decode cX7_different 14 = .ok (.iaload, 1) := by decide +kernel
theorem dX7_different_15 : decode cX7_different 15 = .ok (.invokestatic 102, 3) := by decide +kernel
theorem dX7_different_18 : decode cX7_different 18 = .ok (.iload_n 2, 1) := by decide +kernel
theorem dX7_different_19 : decode cX7_different 19 = .ok (.if_icmp .ne 7, 3) := by decide +kernel
theorem dX7_different_22 : decode cX7_different 22 = .ok (.iconst 1, 1) := by decide +kernel
theorem dX7_different_23 : decode cX7_different 23 = .ok (.goto 4, 3) := by decide +kernel
theorem dX7_different_26 : decode cX7_different 26 = .ok (.iconst 0, 1) := by decide +kernel
theorem dX7_different_27 : decode cX7_different 27 = .ok (.iadd, 1) := by decide +kernel
theorem dX7_different_28 : decode cX7_different 28 = .ok (.istore_n 1, 1) := by decide +kernel
theorem dX7_different_29 : decode cX7_different 29 = .ok (.iinc 2 1, 3) := by decide +kernel
theorem dX7_different_32 : decode cX7_different 32 = .ok (.goto (-28), 3) := by decide +kernel
theorem dX7_different_35 : decode cX7_different 35 = .ok (.iload_n 1, 1) := by decide +kernel
theorem dX7_different_36 : decode cX7_different 36 = .ok (.ireturn, 1) := by decide +kernel
set_option maxRecDepth 20000 in
theorem ggX7_parts_X7_order__ : GoodIn wsX7_parts wsX7_order__ := goodIn_r _ [6, 7, 8, 9, 10, 11, 5, 12, 13, 14, 15, 16, 1, 17, 18, 19, 20, 21, 22, 23, 24, 25, 26, 27, 28, 29, 30, 31, 32, 33, 34, 35, 36, 37, 38, 39, 40, 41, 42, 43, 44, 45] (by decide +kernel) (by decide +kernel)
set_option maxRecDepth 20000 in
theorem gX7_parts_X7_order__ : GoodIn wsX7_parts (wsV RX7 100 RX7 yX7_order__ wsX7_order__) := goodIn_app (goodIn_of _ (by decide +kernel)) ggX7_parts_X7_order__
theorem dX7_parts_0 : decode cX7_parts 0 = .ok (.aload_n 0, 1) := by decide +kernel
theorem dX7_parts_1 : decode cX7_parts 1 = .ok (.invokevirtual 100, 3) := by decide +kernel
theorem dX7_parts_4 : decode cX7_parts 4 = .ok (.astore_n 1, 1) := by decide +kernel
theorem dX7_parts_5 : decode cX7_parts 5 = .ok (.iconst 1, 1) := by decide +kernel
theorem dX7_parts_6 : decode cX7_parts 6 = .ok (.istore_n 2, 1) := by decide +kernel
theorem dX7_parts_7 : decode cX7_parts 7 = .ok (.iconst 0, 1) := by decide +kernel
theorem dX7_parts_8 : decode cX7_parts 8 = .ok (.istore_n 3, 1) := by decide +kernel
theorem dX7_parts_9 : decode cX7_parts 9 = .ok (.iload_n 3, 1) := by decide +kernel
theorem dX7_parts_10 : decode cX7_parts 10 = .ok (.aload_n 0, 1) := by decide +kernel
theorem dX7_parts_11 : decode cX7_parts 11 = .ok (.getfield 26, 3) := by decide +kernel
theorem dX7_parts_14 : decode cX7_parts 14 = .ok (.if_icmp .ge 59, 3) := by decide +kernel
theorem dX7_parts_17 : decode cX7_parts 17 = .ok (.iconst 1, 1) := by decide +kernel
theorem dX7_parts_18 : decode cX7_parts 18 = .ok (.istore 4, 2) := by decide +kernel
theorem dX7_parts_20 : decode cX7_parts 20 = .ok (.aload_n 1, 1) := by decide +kernel
theorem dX7_parts_21 : decode cX7_parts 21 = .ok (.iload_n 3, 1) := by decide +kernel
theorem dX7_parts_22 : decode cX7_parts 22 = .ok (.iaload, 1) := by decide +kernel
theorem dX7_parts_23 : decode cX7_parts 23 = .ok (.istore 5, 2) := by decide +kernel
theorem dX7_parts_25 : decode cX7_parts 25 = .ok (.iload 5, 2) := by decide +kernel
theorem dX7_parts_27 : decode cX7_parts 27 = .ok (.iload_n 3, 1) := by decide +kernel
theorem dX7_parts_28 : decode cX7_parts 28 = .ok (.if_icmp .eq 15, 3) := by decide +kernel
theorem dX7_parts_31 : decode cX7_parts 31 = .ok (.iinc 4 1, 3) := by decide +kernel
theorem dX7_parts_34 : decode cX7_parts 34 = .ok (.aload_n 1, 1) := by decide +kernel
theorem dX7_parts_35 : decode cX7_parts 35 = .ok (.iload 5, 2) := by decide +kernel
theorem dX7_parts_37 : decode cX7_parts 37 = .ok (.iaload, 1) := by decide +kernel
theorem dX7_parts_38 : decode cX7_parts 38 = .ok (.istore 5, 2) := by decide +kernel
theorem dX7_parts_40 : decode cX7_parts 40 = .ok (.goto (-15), 3) := by decide +kernel
theorem dX7_parts_43 : decode cX7_parts 43 = .ok (.iconst 1, 1) := by decide +kernel
theorem dX7_parts_44 : decode cX7_parts 44 = .ok (.istore 5, 2) := by decide +kernel
theorem dX7_parts_46 : decode cX7_parts 46 = .ok (.iload_n 2, 1) := by decide +kernel
theorem dX7_parts_47 : decode cX7_parts 47 = .ok (.iload 5, 2) := by decide +kernel
theorem dX7_parts_49 : decode cX7_parts 49 = .ok (.imul, 1) := by decide +kernel
theorem dX7_parts_50 : decode cX7_parts 50 = .ok (.iload 4, 2) := by decide +kernel
theorem dX7_parts_52 : decode cX7_parts 52 = .ok (.irem, 1) := by decide +kernel
theorem dX7_parts_53 : decode cX7_parts 53 = .ok (.ifCond .eq 9, 3) := by decide +kernel
theorem dX7_parts_56 : decode cX7_parts 56 = .ok (.iinc 5 1, 3) := by decide +kernel
theorem dX7_parts_59 : decode cX7_parts 59 = .ok (.goto (-13), 3) := by decide +kernel
theorem dX7_parts_62 : decode cX7_parts 62 = .ok (.iload_n 2, 1) := by decide +kernel
theorem dX7_parts_63 : decode cX7_parts 63 = .ok (.iload 5, 2) := by decide +kernel
theorem dX7_parts_65 : decode cX7_parts 65 = .ok (.imul, 1) := by decide +kernel
theorem dX7_parts_66 : decode cX7_parts 66 = .ok (.istore_n 2, 1) := by decide +kernel
theorem dX7_parts_67 : decode cX7_parts 67 = .ok (.iinc 3 1, 3) := by decide +kernel
theorem dX7_parts_70 : decode cX7_parts 70 = .ok (.goto (-61), 3) := by decide +kernel
theorem dX7_parts_73 : decode cX7_parts 73 = .ok (.iload_n 2, 1) := by decide +kernel
theorem dX7_parts_74 : decode cX7_parts 74 = .ok (.ireturn, 1) := by decide +kernel
theorem dX7_run_0 : decode cX7_run 0 = .ok (.iload_n 0, 1) := by decide +kernel
theorem dX7_run_1 : decode cX7_run 1 = .ok (.bipush 10, 2) := by decide +kernel
theorem dX7_run_3 : decode cX7_run 3 = .ok (.irem, 1) := by decide +kernel
theorem dX7_run_4 : decode cX7_run 4 = .ok (.iload_n 0, 1) := by decide +kernel
theorem dX7_run_5 : decode cX7_run 5 = .ok (.bipush 10, 2) := by decide +kernel
theorem dX7_run_7 : decode cX7_run 7 = .ok (.idiv, 1) := by decide +kernel
theorem dX7_run_8 : decode cX7_run 8 = .ok (.bipush 10, 2) := by decide +kernel
theorem dX7_run_10 : decode cX7_run 10 = .ok (.irem, 1) := by decide +kernel
theorem dX7_run_11 : decode cX7_run 11 = .ok (.isub, 1) := by decide +kernel
theorem dX7_run_12 : decode cX7_run 12 = .ok (.istore_n 1, 1) := by decide +kernel
theorem dX7_run_13 : decode cX7_run 13 = .ok (.iconst 1, 1) := by decide +kernel
theorem dX7_run_14 : decode cX7_run 14 = .ok (.istore_n 2, 1) := by decide +kernel
theorem dX7_run_15 : decode cX7_run 15 = .ok (.iload_n 0, 1) := by decide +kernel
theorem dX7_run_16 : decode cX7_run 16 = .ok (.istore_n 3, 1) := by decide +kernel
theorem dX7_run_17 : decode cX7_run 17 = .ok (.iload_n 1, 1) := by decide +kernel
theorem dX7_run_18 : decode cX7_run 18 = .ok (.invokestatic 106, 3) := by decide +kernel
theorem dX7_run_21 : decode cX7_run 21 = .ok (.iconst 1, 1) := by decide +kernel
theorem dX7_run_22 : decode cX7_run 22 = .ok (.if_icmp .ne 36, 3) := by decide +kernel
theorem dX7_run_25 : decode cX7_run 25 = .ok (.iload_n 3, 1) := by decide +kernel
theorem dX7_run_26 : decode cX7_run 26 = .ok (.bipush 9, 2) := by decide +kernel
theorem dX7_run_28 : decode cX7_run 28 = .ok (.if_icmp .le 30, 3) := by decide +kernel
theorem dX7_run_31 : decode cX7_run 31 = .ok (.iload_n 3, 1) := by decide +kernel
theorem dX7_run_32 : decode cX7_run 32 = .ok (.bipush 10, 2) := by decide +kernel
theorem dX7_run_34 : decode cX7_run 34 = .ok (.irem, 1) := by decide +kernel
theorem dX7_run_35 : decode cX7_run 35 = .ok (.iload_n 3, 1) := by decide +kernel
theorem dX7_run_36 : decode cX7_run 36 = .ok (.bipush 10, 2) := by decide +kernel
theorem dX7_run_38 : decode cX7_run 38 = .ok (.idiv, 1) := by decide +kernel
theorem dX7_run_39 : decode cX7_run 39 = .ok (.bipush 10, 2) := by decide +kernel
theorem dX7_run_41 : decode cX7_run 41 = .ok (.irem, 1) := by decide +kernel
theorem dX7_run_42 : decode cX7_run 42 = .ok (.isub, 1) := by decide +kernel
theorem dX7_run_43 : decode cX7_run 43 = .ok (.iload_n 1, 1) := by decide +kernel
theorem dX7_run_44 : decode cX7_run 44 = .ok (.if_icmp .ne 14, 3) := by decide +kernel
theorem dX7_run_47 : decode cX7_run 47 = .ok (.iinc 2 1, 3) := by decide +kernel
theorem dX7_run_50 : decode cX7_run 50 = .ok (.iload_n 3, 1) := by decide +kernel
theorem dX7_run_51 : decode cX7_run 51 = .ok (.bipush 10, 2) := by decide +kernel
theorem dX7_run_53 : decode cX7_run 53 = .ok (.idiv, 1) := by decide +kernel
theorem dX7_run_54 : decode cX7_run 54 = .ok (.istore_n 3, 1) := by decide +kernel
theorem dX7_run_55 : decode cX7_run 55 = .ok (.goto (-38), 3) := by decide +kernel
theorem dX7_run_58 : decode cX7_run 58 = .ok (.iload_n 2, 1) := by decide +kernel
theorem dX7_run_59 : decode cX7_run 59 = .ok (.iconst 3, 1) := by decide +kernel
theorem dX7_run_60 : decode cX7_run 60 = .ok (.if_icmp .ge 7, 3) := by decide +kernel
theorem dX7_run_63 : decode cX7_run 63 = .ok (.iconst 0, 1) := by decide +kernel
theorem dX7_run_64 : decode cX7_run 64 = .ok (.goto 4, 3) := by decide +kernel
theorem dX7_run_67 : decode cX7_run 67 = .ok (.iload_n 2, 1) := by decide +kernel
theorem dX7_run_68 : decode cX7_run 68 = .ok (.ireturn, 1) := by decide +kernel
set_option maxRecDepth 20000 in
theorem ggX7_musicNow_X7_run : GoodIn wsX7_musicNow wsX7_run := goodIn_r _ [4, 5, 6, 7, 8] (by decide +kernel) (by decide +kernel)
set_option maxRecDepth 20000 in
theorem gX7_musicNow_X7_run : GoodIn wsX7_musicNow (va_wsS RX7 111 yX7_run wsX7_run) := goodIn_app (goodIn_of _ (by decide +kernel)) ggX7_musicNow_X7_run
theorem dX7_musicNow_0 : decode cX7_musicNow 0 = .ok (.iconst 0, 1) := by decide +kernel
theorem dX7_musicNow_1 : decode cX7_musicNow 1 = .ok (.istore_n 1, 1) := by decide +kernel
theorem dX7_musicNow_2 : decode cX7_musicNow 2 = .ok (.iload_n 0, 1) := by decide +kernel
theorem dX7_musicNow_3 : decode cX7_musicNow 3 = .ok (.istore_n 2, 1) := by decide +kernel
theorem dX7_musicNow_4 : decode cX7_musicNow 4 = .ok (.iload_n 2, 1) := by decide +kernel
theorem dX7_musicNow_5 : decode cX7_musicNow 5 = .ok (.ifCond .le 21, 3) := by decide +kernel
theorem dX7_musicNow_8 : decode cX7_musicNow 8 = .ok (.bipush 10, 2) := by decide +kernel
theorem dX7_musicNow_10 : decode cX7_musicNow 10 = .ok (.iload_n 1, 1) := by decide +kernel
theorem dX7_musicNow_11 : decode cX7_musicNow 11 = .ok (.imul, 1) := by decide +kernel
theorem dX7_musicNow_12 : decode cX7_musicNow 12 = .ok (.iload_n 2, 1) := by decide +kernel
theorem dX7_musicNow_13 : decode cX7_musicNow 13 = .ok (.bipush 10, 2) := by decide +kernel
theorem dX7_musicNow_15 : decode cX7_musicNow 15 = .ok (.irem, 1) := by decide +kernel
theorem dX7_musicNow_16 : decode cX7_musicNow 16 = .ok (.iadd, 1) := by decide +kernel
theorem dX7_musicNow_17 : decode cX7_musicNow 17 = .ok (.istore_n 1, 1) := by decide +kernel
theorem dX7_musicNow_18 : decode cX7_musicNow 18 = .ok (.iload_n 2, 1) := by decide +kernel
theorem dX7_musicNow_19 : decode cX7_musicNow 19 = .ok (.bipush 10, 2) := by decide +kernel
theorem dX7_musicNow_21 : decode cX7_musicNow 21 = .ok (.idiv, 1) := by decide +kernel
theorem dX7_musicNow_22 : decode cX7_musicNow 22 = .ok (.istore_n 2, 1) := by decide +kernel
theorem dX7_musicNow_23 : decode cX7_musicNow 23 = .ok (.goto (-19), 3) := by decide +kernel
theorem dX7_musicNow_26 : decode cX7_musicNow 26 = .ok (.iload_n 0, 1) := by decide +kernel
theorem dX7_musicNow_27 : decode cX7_musicNow 27 = .ok (.invokestatic 111, 3) := by decide +kernel
theorem dX7_musicNow_30 : decode cX7_musicNow 30 = .ok (.iload_n 1, 1) := by decide +kernel
theorem dX7_musicNow_31 : decode cX7_musicNow 31 = .ok (.invokestatic 111, 3) := by decide +kernel
theorem dX7_musicNow_34 : decode cX7_musicNow 34 = .ok (.iadd, 1) := by decide +kernel
theorem dX7_musicNow_35 : decode cX7_musicNow 35 = .ok (.ireturn, 1) := by decide +kernel
set_option maxRecDepth 20000 in
theorem ggX7_musicOf_X7_musicNow : GoodIn wsX7_musicOf wsX7_musicNow := goodIn_r _ [4, 5, 6, 3, 7, 8, 9, 10, 11] (by decide +kernel) (by decide +kernel)
set_option maxRecDepth 20000 in
theorem gX7_musicOf_X7_musicNow : GoodIn wsX7_musicOf (va_wsS RX7 114 yX7_musicNow wsX7_musicNow) := goodIn_app (goodIn_of _ (by decide +kernel)) ggX7_musicOf_X7_musicNow
theorem dX7_musicOf_0 : decode cX7_musicOf 0 = .ok (.iconst 0, 1) := by decide +kernel
theorem dX7_musicOf_1 : decode cX7_musicOf 1 = .ok (.istore_n 2, 1) := by decide +kernel
theorem dX7_musicOf_2 : decode cX7_musicOf 2 = .ok (.aload_n 1, 1) := by decide +kernel
theorem dX7_musicOf_3 : decode cX7_musicOf 3 = .ok (.astore_n 3, 1) := by decide +kernel
theorem dX7_musicOf_4 : decode cX7_musicOf 4 = .ok (.aload_n 3, 1) := by decide +kernel
theorem dX7_musicOf_5 : decode cX7_musicOf 5 = .ok (.arraylength, 1) := by decide +kernel
theorem dX7_musicOf_6 : decode cX7_musicOf 6 = .ok (.istore 4, 2) := by decide +kernel
theorem dX7_musicOf_8 : decode cX7_musicOf 8 = .ok (.iconst 0, 1) := by decide +kernel
theorem dX7_musicOf_9 : decode cX7_musicOf 9 = .ok (.istore 5, 2) := by decide +kernel
theorem dX7_musicOf_11 : decode cX7_musicOf 11 = .ok (.iload 5, 2) := by decide +kernel
theorem dX7_musicOf_13 : decode cX7_musicOf 13 = .ok (.iload 4, 2) := by decide +kernel
theorem dX7_musicOf_15 : decode cX7_musicOf 15 = .ok (.if_icmp .ge 23, 3) := by decide +kernel
theorem dX7_musicOf_18 : decode cX7_musicOf 18 = .ok (.aload_n 3, 1) := by decide +kernel
theorem dX7_musicOf_19 : decode cX7_musicOf 19 = .ok (.iload 5, 2) := by decide +kernel
theorem dX7_musicOf_21 : decode cX7_musicOf 21 = .ok (.iaload, 1) := by decide +kernel
theorem dX7_musicOf_22 : decode cX7_musicOf 22 = .ok (.istore 6, 2) := by decide +kernel
theorem dX7_musicOf_24 : decode cX7_musicOf 24 = .ok (.iload_n 2, 1) := by decide +kernel
theorem dX7_musicOf_25 : decode cX7_musicOf 25 = .ok (.iload 6, 2) := by decide +kernel
theorem dX7_musicOf_27 : decode cX7_musicOf 27 = .ok (.invokestatic 114, 3) := by decide +kernel
theorem dX7_musicOf_30 : decode cX7_musicOf 30 = .ok (.iadd, 1) := by decide +kernel
theorem dX7_musicOf_31 : decode cX7_musicOf 31 = .ok (.istore_n 2, 1) := by decide +kernel
theorem dX7_musicOf_32 : decode cX7_musicOf 32 = .ok (.iinc 5 1, 3) := by decide +kernel
theorem dX7_musicOf_35 : decode cX7_musicOf 35 = .ok (.goto (-24), 3) := by decide +kernel
theorem dX7_musicOf_38 : decode cX7_musicOf 38 = .ok (.iload_n 2, 1) := by decide +kernel
theorem dX7_musicOf_39 : decode cX7_musicOf 39 = .ok (.ireturn, 1) := by decide +kernel
set_option maxRecDepth 20000 in
theorem ggX7_touchNow_X7_rows_ : GoodIn wsX7_touchNow wsX7_rows_ := goodIn_r _ [5, 6, 7, 8, 9, 10, 4, 11, 12, 13, 14, 15, 16, 17, 18, 19, 20, 21, 22, 23, 24, 25, 26, 78, 79, 80, 81, 82, 83, 84, 85, 86, 87] (by decide +kernel) (by decide +kernel)
set_option maxRecDepth 20000 in
theorem gX7_touchNow_X7_rows_ : GoodIn wsX7_touchNow (wsV RX7 117 RX7 yX7_rows_ wsX7_rows_) := goodIn_app (goodIn_of _ (by decide +kernel)) ggX7_touchNow_X7_rows_
set_option maxRecDepth 20000 in
theorem ggX7_touchNow_X7_order__ : GoodIn wsX7_touchNow wsX7_order__ := goodIn_r _ [30, 6, 7, 31, 32, 33, 4, 34, 8, 9, 10, 11, 12, 13, 35, 36, 37, 38, 18, 39, 40, 41, 42, 19, 20, 43, 44, 45, 46, 21, 22, 23, 78, 79, 80, 81, 82, 83, 84, 85, 86, 87] (by decide +kernel) (by decide +kernel)
set_option maxRecDepth 20000 in
theorem gX7_touchNow_X7_order__ : GoodIn wsX7_touchNow (wsV RX7 100 RX7 yX7_order__ wsX7_order__) := goodIn_app (goodIn_of _ (by decide +kernel)) ggX7_touchNow_X7_order__
set_option maxRecDepth 20000 in
theorem ggX7_touchNow_X7_number : GoodIn wsX7_touchNow wsX7_number := goodIn_r _ [26] (by decide +kernel) (by decide +kernel)
set_option maxRecDepth 20000 in
theorem gX7_touchNow_X7_number : GoodIn wsX7_touchNow (va_wsS RX7 62 yX7_number wsX7_number) := goodIn_app (goodIn_of _ (by decide +kernel)) ggX7_touchNow_X7_number
set_option maxRecDepth 20000 in
theorem ggX7_touchNow_X7_rounds : GoodIn wsX7_touchNow wsX7_rounds := goodIn_r _ [50, 8, 9, 10, 4, 11, 12, 13, 24, 25, 26, 78, 79, 80, 81, 82, 83, 84, 85, 86, 87] (by decide +kernel) (by decide +kernel)
set_option maxRecDepth 20000 in
theorem gX7_touchNow_X7_rounds : GoodIn wsX7_touchNow (wsV RX7 70 RX7 yX7_rounds wsX7_rounds) := goodIn_app (goodIn_of _ (by decide +kernel)) ggX7_touchNow_X7_rounds
set_option maxRecDepth 20000 in
theorem ggX7_touchNow_X7_firstAgain : GoodIn wsX7_touchNow wsX7_firstAgain := goodIn_r _ [53, 54, 55, 4, 56] (by decide +kernel) (by decide +kernel)
set_option maxRecDepth 20000 in
theorem gX7_touchNow_X7_firstAgain : GoodIn wsX7_touchNow (va_wsS RX7 119 yX7_firstAgain wsX7_firstAgain) := goodIn_app (goodIn_of _ (by decide +kernel)) ggX7_touchNow_X7_firstAgain
set_option maxRecDepth 20000 in
theorem ggX7_touchNow_X7_parts : GoodIn wsX7_touchNow wsX7_parts := goodIn_r _ [60, 12, 27, 28, 29, 4, 30, 6, 7, 31, 32, 33, 34, 8, 9, 10, 11, 13, 35, 36, 37, 38, 18, 39, 40, 41, 42, 19, 20, 43, 44, 45, 46, 21, 22, 23, 78, 79, 80, 81, 82, 83, 84, 85, 86, 87] (by decide +kernel) (by decide +kernel)
set_option maxRecDepth 20000 in
theorem gX7_touchNow_X7_parts : GoodIn wsX7_touchNow (wsV RX7 122 RX7 yX7_parts wsX7_parts) := goodIn_app (goodIn_of _ (by decide +kernel)) ggX7_touchNow_X7_parts
set_option maxRecDepth 20000 in
theorem ggX7_touchNow_X7_musicOf : GoodIn wsX7_touchNow wsX7_musicOf := goodIn_r _ [64, 65, 66, 4, 67, 68, 69, 70, 71, 72, 73, 74] (by decide +kernel) (by decide +kernel)
set_option maxRecDepth 20000 in
theorem gX7_touchNow_X7_musicOf : GoodIn wsX7_touchNow (wsV RX7 125 RX7 yX7_musicOf wsX7_musicOf) := goodIn_app (goodIn_of _ (by decide +kernel)) ggX7_touchNow_X7_musicOf
set_option maxRecDepth 20000 in
theorem ggX7_touchNow_X7_different : GoodIn wsX7_touchNow wsX7_different := goodIn_r _ [77, 54, 55, 4, 56] (by decide +kernel) (by decide +kernel)
set_option maxRecDepth 20000 in
theorem gX7_touchNow_X7_different : GoodIn wsX7_touchNow (va_wsS RX7 128 yX7_different wsX7_different) := goodIn_app (goodIn_of _ (by decide +kernel)) ggX7_touchNow_X7_different
theorem dX7_touchNow_0 : decode cX7_touchNow 0 = .ok (.aload_n 0, 1) := by decide +kernel
theorem dX7_touchNow_1 : decode cX7_touchNow 1 = .ok (.invokevirtual 117, 3) := by decide +kernel
theorem dX7_touchNow_4 : decode cX7_touchNow 4 = .ok (.astore_n 2, 1) := by decide +kernel
theorem dX7_touchNow_5 : decode cX7_touchNow 5 = .ok (.aload_n 0, 1) := by decide +kernel
theorem dX7_touchNow_6 : decode cX7_touchNow 6 = .ok (.invokevirtual 100, 3) := by decide +kernel
theorem dX7_touchNow_9 : decode cX7_touchNow 9 = .ok (.invokestatic 62, 3) := by decide +kernel
theorem dX7_touchNow_12 : decode cX7_touchNow 12 = .ok (.istore_n 3, 1) := by decide +kernel
theorem dX7_touchNow_13 : decode cX7_touchNow 13 = .ok (.iload_n 1, 1) := by decide +kernel
theorem dX7_touchNow_14 : decode cX7_touchNow 14 = .ok (.tableswitch 105 0 6 #[42, 45, 47, 66, 80, 85, 99], 42) := by decide +kernel
theorem dX7_touchNow_56 : decode cX7_touchNow 56 = .ok (.aload_n 2, 1) := by decide +kernel
theorem dX7_touchNow_57 : decode cX7_touchNow 57 = .ok (.arraylength, 1) := by decide +kernel
theorem dX7_touchNow_58 : decode cX7_touchNow 58 = .ok (.ireturn, 1) := by decide +kernel
theorem dX7_touchNow_59 : decode cX7_touchNow 59 = .ok (.iload_n 3, 1) := by decide +kernel
theorem dX7_touchNow_60 : decode cX7_touchNow 60 = .ok (.ireturn, 1) := by decide +kernel
theorem dX7_touchNow_61 : decode cX7_touchNow 61 = .ok (.aload_n 2, 1) := by decide +kernel
theorem dX7_touchNow_62 : decode cX7_touchNow 62 = .ok (.arraylength, 1) := by decide +kernel
theorem dX7_touchNow_63 : decode cX7_touchNow 63 = .ok (.ifCond .le 15, 3) := by decide +kernel
theorem dX7_touchNow_66 : decode cX7_touchNow 66 = .ok (.iload_n 3, 1) := by decide +kernel
theorem dX7_touchNow_67 : decode cX7_touchNow 67 = .ok (.aload_n 0, 1) := by decide +kernel
theorem dX7_touchNow_68 : decode cX7_touchNow 68 = .ok (.invokevirtual 70, 3) := by decide +kernel
theorem dX7_touchNow_71 : decode cX7_touchNow 71 = .ok (.if_icmp .ne 7, 3) := by decide +kernel
theorem dX7_touchNow_74 : decode cX7_touchNow 74 = .ok (.iconst 1, 1) := by decide +kernel
theorem dX7_touchNow_75 : decode cX7_touchNow 75 = .ok (.goto 4, 3) := by decide +kernel
theorem dX7_touchNow_78 : decode cX7_touchNow 78 = .ok (.iconst 0, 1) := by decide +kernel
theorem dX7_touchNow_79 : decode cX7_touchNow 79 = .ok (.ireturn, 1) := by decide +kernel
theorem dX7_touchNow_80 : decode cX7_touchNow 80 = .ok (.aload_n 2, 1) := by decide +kernel
theorem dX7_touchNow_81 : decode cX7_touchNow 81 = .ok (.invokestatic 119, 3) := by decide +kernel
theorem dX7_touchNow_84 : decode cX7_touchNow 84 = .ok (.iconst (-1), 1) := by decide +kernel
theorem dX7_touchNow_85 : decode cX7_touchNow 85 = .ok (.if_icmp .ne 7, 3) := by decide +kernel
theorem dX7_touchNow_88 : decode cX7_touchNow 88 = .ok (.iconst 1, 1) := by decide +kernel
theorem dX7_touchNow_89 : decode cX7_touchNow 89 = .ok (.goto 4, 3) := by decide +kernel
theorem dX7_touchNow_92 : decode cX7_touchNow 92 = .ok (.iconst 0, 1) := by decide +kernel
theorem dX7_touchNow_93 : decode cX7_touchNow 93 = .ok (.ireturn, 1) := by decide +kernel
theorem dX7_touchNow_94 : decode cX7_touchNow 94 = .ok (.aload_n 2, 1) := by decide +kernel
theorem dX7_touchNow_95 : decode cX7_touchNow 95 = .ok (.invokestatic 119, 3) := by decide +kernel
theorem dX7_touchNow_98 : decode cX7_touchNow 98 = .ok (.ireturn, 1) := by decide +kernel
theorem dX7_touchNow_99 : decode cX7_touchNow 99 = .ok (.aload_n 2, 1) := by decide +kernel
theorem dX7_touchNow_100 : decode cX7_touchNow 100 = .ok (.arraylength, 1) := by decide +kernel
theorem dX7_touchNow_101 : decode cX7_touchNow 101 = .ok (.ifCond .ne 7, 3) := by decide +kernel
theorem dX7_touchNow_104 : decode cX7_touchNow 104 = .ok (.iconst 0, 1) := by decide +kernel
theorem dX7_touchNow_105 : decode cX7_touchNow 105 = .ok (.goto 7, 3) := by decide +kernel
theorem dX7_touchNow_108 : decode cX7_touchNow 108 = .ok (.aload_n 0, 1) := by decide +kernel
theorem dX7_touchNow_109 : decode cX7_touchNow 109 = .ok (.invokevirtual 122, 3) := by decide +kernel
theorem dX7_touchNow_112 : decode cX7_touchNow 112 = .ok (.ireturn, 1) := by decide +kernel
theorem dX7_touchNow_113 : decode cX7_touchNow 113 = .ok (.aload_n 0, 1) := by decide +kernel
theorem dX7_touchNow_114 : decode cX7_touchNow 114 = .ok (.aload_n 2, 1) := by decide +kernel
theorem dX7_touchNow_115 : decode cX7_touchNow 115 = .ok (.invokevirtual 125, 3) := by decide +kernel
theorem dX7_touchNow_118 : decode cX7_touchNow 118 = .ok (.ireturn, 1) := by decide +kernel
theorem dX7_touchNow_119 : decode cX7_touchNow 119 = .ok (.aload_n 2, 1) := by decide +kernel
theorem dX7_touchNow_120 : decode cX7_touchNow 120 = .ok (.invokestatic 128, 3) := by decide +kernel
theorem dX7_touchNow_123 : decode cX7_touchNow 123 = .ok (.ireturn, 1) := by decide +kernel
set_option maxRecDepth 20000 in
theorem ggX7_touch_X7_isIn : GoodIn wsX7_touch wsX7_isIn := goodIn_r _ [5] (by decide +kernel) (by decide +kernel)
set_option maxRecDepth 20000 in
theorem gX7_touch_X7_isIn : GoodIn wsX7_touch (va_wsS RX7 39 yX7_isIn wsX7_isIn) := goodIn_app (goodIn_of _ (by decide +kernel)) ggX7_touch_X7_isIn
set_option maxRecDepth 20000 in
theorem ggX7_touch_X7_touchNow : GoodIn wsX7_touch wsX7_touchNow := goodIn_r _ [9, 10, 11, 12, 4, 13, 14, 15, 16, 17, 18, 19, 20, 21, 22, 23, 24, 25, 26, 27, 28, 29, 30, 31, 32, 33, 34, 35, 36, 37, 38, 39, 40, 41, 42, 43, 44, 45, 46, 47, 48, 49, 50, 51, 52, 53, 54, 55, 56, 57, 58, 59, 60, 61, 62, 63, 64, 65, 66, 67, 68, 69, 70, 71, 72, 73, 74, 75, 76, 77, 78, 79, 80, 81, 82, 83, 84, 85, 90, 91, 92, 93, 94, 95, 96, 97, 98, 99] (by decide +kernel) (by decide +kernel)
set_option maxRecDepth 20000 in
theorem gX7_touch_X7_touchNow : GoodIn wsX7_touch (wsV RX7 131 RX7 yX7_touchNow wsX7_touchNow) := goodIn_app (goodIn_of _ (by decide +kernel)) ggX7_touch_X7_touchNow
set_option maxRecDepth 20000 in
theorem ggX7_touch_X7_no : GoodIn wsX7_touch wsX7_no := goodIn_r _ [89, 1, 90, 91, 92, 93, 94, 95, 96, 97, 98, 99] (by decide +kernel) (by decide +kernel)
set_option maxRecDepth 20000 in
theorem gX7_touch_X7_no : GoodIn wsX7_touch (wsV RX7 66 RX7 yX7_no wsX7_no) := goodIn_app (goodIn_of _ (by decide +kernel)) ggX7_touch_X7_no
theorem dX7_touch_0 : decode cX7_touch 0 = .ok (.aload_n 0, 1) := by decide +kernel
theorem dX7_touch_1 : decode cX7_touch 1 = .ok (.iconst 0, 1) := by decide +kernel
theorem dX7_touch_2 : decode cX7_touch 2 = .ok (.putfield 36, 3) := by decide +kernel
theorem dX7_touch_5 : decode cX7_touch 5 = .ok (.iload_n 1, 1) := by decide +kernel
theorem dX7_touch_6 : decode cX7_touch 6 = .ok (.iconst 0, 1) := by decide +kernel
theorem dX7_touch_7 : decode cX7_touch 7 = .ok (.bipush 7, 2) := by decide +kernel
theorem dX7_touch_9 : decode cX7_touch 9 = .ok (.invokestatic 39, 3) := by decide +kernel
theorem dX7_touch_12 : decode cX7_touch 12 = .ok (.ifCond .eq 11, 3) := by decide +kernel
theorem dX7_touch_15 : decode cX7_touch 15 = .ok (.aload_n 0, 1) := by decide +kernel
theorem dX7_touch_16 : decode cX7_touch 16 = .ok (.iload_n 1, 1) := by decide +kernel
theorem dX7_touch_17 : decode cX7_touch 17 = .ok (.invokevirtual 131, 3) := by decide +kernel
theorem dX7_touch_20 : decode cX7_touch 20 = .ok (.goto 8, 3) := by decide +kernel
theorem dX7_touch_23 : decode cX7_touch 23 = .ok (.aload_n 0, 1) := by decide +kernel
theorem dX7_touch_24 : decode cX7_touch 24 = .ok (.iconst 1, 1) := by decide +kernel
theorem dX7_touch_25 : decode cX7_touch 25 = .ok (.invokevirtual 66, 3) := by decide +kernel
theorem dX7_touch_28 : decode cX7_touch 28 = .ok (.ireturn, 1) := by decide +kernel
set_option maxRecDepth 20000 in
theorem ggX7_row_X7_rows_ : GoodIn wsX7_row wsX7_rows_ := goodIn_r _ [6, 7, 8, 9, 10, 11, 5, 12, 13, 14, 15, 16, 17, 18, 19, 20, 21, 22, 23, 24, 25, 26, 27, 35, 36, 37, 38, 39, 40, 41, 42, 43, 44] (by decide +kernel) (by decide +kernel)
set_option maxRecDepth 20000 in
theorem gX7_row_X7_rows_ : GoodIn wsX7_row (wsV RX7 117 RX7 yX7_rows_ wsX7_rows_) := goodIn_app (goodIn_of _ (by decide +kernel)) ggX7_row_X7_rows_
set_option maxRecDepth 20000 in
theorem ggX7_row_X7_isIn : GoodIn wsX7_row wsX7_isIn := goodIn_r _ [30] (by decide +kernel) (by decide +kernel)
set_option maxRecDepth 20000 in
theorem gX7_row_X7_isIn : GoodIn wsX7_row (va_wsS RX7 39 yX7_isIn wsX7_isIn) := goodIn_app (goodIn_of _ (by decide +kernel)) ggX7_row_X7_isIn
set_option maxRecDepth 20000 in
theorem ggX7_row_X7_no : GoodIn wsX7_row wsX7_no := goodIn_r _ [34, 1, 35, 36, 37, 38, 39, 40, 41, 42, 43, 44] (by decide +kernel) (by decide +kernel)
set_option maxRecDepth 20000 in
theorem gX7_row_X7_no : GoodIn wsX7_row (wsV RX7 66 RX7 yX7_no wsX7_no) := goodIn_app (goodIn_of _ (by decide +kernel)) ggX7_row_X7_no
theorem dX7_row_0 : decode cX7_row 0 = .ok (.aload_n 0, 1) := by decide +kernel
theorem dX7_row_1 : decode cX7_row 1 = .ok (.iconst 0, 1) := by decide +kernel
theorem dX7_row_2 : decode cX7_row 2 = .ok (.putfield 36, 3) := by decide +kernel
theorem dX7_row_5 : decode cX7_row 5 = .ok (.aload_n 0, 1) := by decide +kernel
theorem dX7_row_6 : decode cX7_row 6 = .ok (.invokevirtual 117, 3) := by decide +kernel
theorem dX7_row_9 : decode cX7_row 9 = .ok (.astore_n 2, 1) := by decide +kernel
theorem dX7_row_10 : decode cX7_row 10 = .ok (.iload_n 1, 1) := by decide +kernel
theorem dX7_row_11 : decode cX7_row 11 = .ok (.iconst 0, 1) := by decide +kernel
theorem dX7_row_12 : decode cX7_row 12 = .ok (.aload_n 2, 1) := by decide +kernel
theorem dX7_row_13 : decode cX7_row 13 = .ok (.arraylength, 1) := by decide +kernel
theorem dX7_row_14 : decode cX7_row 14 = .ok (.iconst 1, 1) := by decide +kernel
theorem dX7_row_15 : decode cX7_row 15 = .ok (.isub, 1) := by decide +kernel
theorem dX7_row_16 : decode cX7_row 16 = .ok (.invokestatic 39, 3) := by decide +kernel
theorem dX7_row_19 : decode cX7_row 19 = .ok (.ifCond .eq 9, 3) := by decide +kernel
theorem dX7_row_22 : decode cX7_row 22 = .ok (.aload_n 2, 1) := by decide +kernel
theorem dX7_row_23 : decode cX7_row 23 = .ok (.iload_n 1, 1) := by decide +kernel
theorem dX7_row_24 : decode cX7_row 24 = .ok (.iaload, 1) := by decide +kernel
theorem dX7_row_25 : decode cX7_row 25 = .ok (.goto 8, 3) := by decide +kernel
theorem dX7_row_28 : decode cX7_row 28 = .ok (.aload_n 0, 1) := by decide +kernel
theorem dX7_row_29 : decode cX7_row 29 = .ok (.iconst 1, 1) := by decide +kernel
theorem dX7_row_30 : decode cX7_row 30 = .ok (.invokevirtual 66, 3) := by decide +kernel
theorem dX7_row_33 : decode cX7_row 33 = .ok (.ireturn, 1) := by decide +kernel
set_option maxRecDepth 20000 in
theorem ggX7_where_X7_isRow : GoodIn wsX7_where wsX7_isRow := goodIn_r _ [6, 7, 8, 9, 5, 10, 11, 12, 13, 14, 15, 16, 47, 48, 49, 50, 51, 52, 53, 54, 55, 56] (by decide +kernel) (by decide +kernel)
set_option maxRecDepth 20000 in
theorem gX7_where_X7_isRow : GoodIn wsX7_where (wsV RX7 87 RX7 yX7_isRow wsX7_isRow) := goodIn_app (goodIn_of _ (by decide +kernel)) ggX7_where_X7_isRow
set_option maxRecDepth 20000 in
theorem ggX7_where_X7_no : GoodIn wsX7_where wsX7_no := goodIn_r _ [20, 1, 47, 48, 49, 50, 51, 52, 53, 54, 55, 56] (by decide +kernel) (by decide +kernel)
set_option maxRecDepth 20000 in
theorem gX7_where_X7_no : GoodIn wsX7_where (wsV RX7 66 RX7 yX7_no wsX7_no) := goodIn_app (goodIn_of _ (by decide +kernel)) ggX7_where_X7_no
set_option maxRecDepth 20000 in
theorem ggX7_where_X7_rows_ : GoodIn wsX7_where wsX7_rows_ := goodIn_r _ [24, 25, 26, 27, 28, 29, 5, 30, 11, 12, 31, 32, 33, 34, 35, 36, 37, 38, 39, 40, 41, 42, 43, 47, 48, 49, 50, 51, 52, 53, 54, 55, 56] (by decide +kernel) (by decide +kernel)
set_option maxRecDepth 20000 in
theorem gX7_where_X7_rows_ : GoodIn wsX7_where (wsV RX7 117 RX7 yX7_rows_ wsX7_rows_) := goodIn_app (goodIn_of _ (by decide +kernel)) ggX7_where_X7_rows_
set_option maxRecDepth 20000 in
theorem ggX7_where_X7_first : GoodIn wsX7_where wsX7_first := goodIn_r _ [46] (by decide +kernel) (by decide +kernel)
set_option maxRecDepth 20000 in
theorem gX7_where_X7_first : GoodIn wsX7_where (va_wsS RX7 102 yX7_first wsX7_first) := goodIn_app (goodIn_of _ (by decide +kernel)) ggX7_where_X7_first
theorem dX7_where_0 : decode cX7_where 0 = .ok (.aload_n 0, 1) := by decide +kernel
theorem dX7_where_1 : decode cX7_where 1 = .ok (.iconst 0, 1) := by decide +kernel
theorem dX7_where_2 : decode cX7_where 2 = .ok (.putfield 36, 3) := by decide +kernel
theorem dX7_where_5 : decode cX7_where 5 = .ok (.aload_n 0, 1) := by decide +kernel
theorem dX7_where_6 : decode cX7_where 6 = .ok (.iload_n 1, 1) := by decide +kernel
theorem dX7_where_7 : decode cX7_where 7 = .ok (.invokevirtual 87, 3) := by decide +kernel
theorem dX7_where_10 : decode cX7_where 10 = .ok (.ifCond .ne 9, 3) := by decide +kernel
theorem dX7_where_13 : decode cX7_where 13 = .ok (.aload_n 0, 1) := by decide +kernel
theorem dX7_where_14 : decode cX7_where 14 = .ok (.iconst 1, 1) := by decide +kernel
theorem dX7_where_15 : decode cX7_where 15 = .ok (.invokevirtual 66, 3) := by decide +kernel
theorem dX7_where_18 : decode cX7_where 18 = .ok (.ireturn, 1) := by decide +kernel
theorem dX7_where_19 : decode cX7_where 19 = .ok (.aload_n 0, 1) := by decide +kernel
theorem dX7_where_20 : decode cX7_where 20 = .ok (.invokevirtual 117, 3) := by decide +kernel
theorem dX7_where_23 : decode cX7_where 23 = .ok (.astore_n 2, 1) := by decide +kernel
theorem dX7_where_24 : decode cX7_where 24 = .ok (.aload_n 2, 1) := by decide +kernel
theorem dX7_where_25 : decode cX7_where 25 = .ok (.iload_n 1, 1) := by decide +kernel
theorem dX7_where_26 : decode cX7_where 26 = .ok (.invokestatic 102, 3) := by decide +kernel
theorem dX7_where_29 : decode cX7_where 29 = .ok (.istore_n 3, 1) := by decide +kernel
theorem dX7_where_30 : decode cX7_where 30 = .ok (.iload_n 3, 1) := by decide +kernel
theorem dX7_where_31 : decode cX7_where 31 = .ok (.aload_n 2, 1) := by decide +kernel
theorem dX7_where_32 : decode cX7_where 32 = .ok (.arraylength, 1) := by decide +kernel
theorem dX7_where_33 : decode cX7_where 33 = .ok (.if_icmp .ne 7, 3) := by decide +kernel
theorem dX7_where_36 : decode cX7_where 36 = .ok (.iconst (-1), 1) := by decide +kernel
theorem dX7_where_37 : decode cX7_where 37 = .ok (.goto 4, 3) := by decide +kernel
theorem dX7_where_40 : decode cX7_where 40 = .ok (.iload_n 3, 1) := by decide +kernel
theorem dX7_where_41 : decode cX7_where 41 = .ok (.ireturn, 1) := by decide +kernel
theorem dX7_placeNow_0 : decode cX7_placeNow 0 = .ok (.aload_n 0, 1) := by decide +kernel
theorem dX7_placeNow_1 : decode cX7_placeNow 1 = .ok (.getfield 26, 3) := by decide +kernel
theorem dX7_placeNow_4 : decode cX7_placeNow 4 = .ok (.iconst 1, 1) := by decide +kernel
theorem dX7_placeNow_5 : decode cX7_placeNow 5 = .ok (.isub, 1) := by decide +kernel
theorem dX7_placeNow_6 : decode cX7_placeNow 6 = .ok (.istore_n 3, 1) := by decide +kernel
theorem dX7_placeNow_7 : decode cX7_placeNow 7 = .ok (.iload_n 2, 1) := by decide +kernel
theorem dX7_placeNow_8 : decode cX7_placeNow 8 = .ok (.istore 4, 2) := by decide +kernel
theorem dX7_placeNow_10 : decode cX7_placeNow 10 = .ok (.iload 4, 2) := by decide +kernel
theorem dX7_placeNow_12 : decode cX7_placeNow 12 = .ok (.bipush 10, 2) := by decide +kernel
theorem dX7_placeNow_14 : decode cX7_placeNow 14 = .ok (.irem, 1) := by decide +kernel
theorem dX7_placeNow_15 : decode cX7_placeNow 15 = .ok (.iload_n 1, 1) := by decide +kernel
theorem dX7_placeNow_16 : decode cX7_placeNow 16 = .ok (.if_icmp .eq 16, 3) := by decide +kernel
theorem dX7_placeNow_19 : decode cX7_placeNow 19 = .ok (.iinc 3 (-1), 3) := by decide +kernel
theorem dX7_placeNow_22 : decode cX7_placeNow 22 = .ok (.iload 4, 2) := by decide +kernel
theorem dX7_placeNow_24 : decode cX7_placeNow 24 = .ok (.bipush 10, 2) := by decide +kernel
theorem dX7_placeNow_26 : decode cX7_placeNow 26 = .ok (.idiv, 1) := by decide +kernel
theorem dX7_placeNow_27 : decode cX7_placeNow 27 = .ok (.istore 4, 2) := by decide +kernel
theorem dX7_placeNow_29 : decode cX7_placeNow 29 = .ok (.goto (-19), 3) := by decide +kernel
theorem dX7_placeNow_32 : decode cX7_placeNow 32 = .ok (.iload_n 3, 1) := by decide +kernel
theorem dX7_placeNow_33 : decode cX7_placeNow 33 = .ok (.ireturn, 1) := by decide +kernel
set_option maxRecDepth 20000 in
theorem ggX7_place_X7_rows_ : GoodIn wsX7_place wsX7_rows_ := goodIn_r _ [7, 8, 9, 10, 11, 12, 6, 13, 2, 14, 15, 16, 17, 18, 19, 20, 21, 22, 23, 24, 25, 26, 27, 39, 40, 41, 42, 43, 44, 45, 46, 47, 48] (by decide +kernel) (by decide +kernel)
set_option maxRecDepth 20000 in
theorem gX7_place_X7_rows_ : GoodIn wsX7_place (wsV RX7 117 RX7 yX7_rows_ wsX7_rows_) := goodIn_app (goodIn_of _ (by decide +kernel)) ggX7_place_X7_rows_
set_option maxRecDepth 20000 in
theorem ggX7_place_X7_isIn : GoodIn wsX7_place wsX7_isIn := goodIn_r _ [30] (by decide +kernel) (by decide +kernel)
set_option maxRecDepth 20000 in
theorem gX7_place_X7_isIn : GoodIn wsX7_place (va_wsS RX7 39 yX7_isIn wsX7_isIn) := goodIn_app (goodIn_of _ (by decide +kernel)) ggX7_place_X7_isIn
set_option maxRecDepth 20000 in
theorem ggX7_place_X7_placeNow : GoodIn wsX7_place wsX7_placeNow := goodIn_r _ [34, 2, 39, 40, 41, 42, 43, 44, 45, 46, 47, 48] (by decide +kernel) (by decide +kernel)
set_option maxRecDepth 20000 in
theorem gX7_place_X7_placeNow : GoodIn wsX7_place (wsV RX7 134 RX7 yX7_placeNow wsX7_placeNow) := goodIn_app (goodIn_of _ (by decide +kernel)) ggX7_place_X7_placeNow
set_option maxRecDepth 20000 in
theorem ggX7_place_X7_no : GoodIn wsX7_place wsX7_no := goodIn_r _ [38, 1, 39, 40, 41, 42, 43, 44, 45, 46, 47, 48] (by decide +kernel) (by decide +kernel)
set_option maxRecDepth 20000 in
theorem gX7_place_X7_no : GoodIn wsX7_place (wsV RX7 66 RX7 yX7_no wsX7_no) := goodIn_app (goodIn_of _ (by decide +kernel)) ggX7_place_X7_no
theorem dX7_place_0 : decode cX7_place 0 = .ok (.aload_n 0, 1) := by decide +kernel
theorem dX7_place_1 : decode cX7_place 1 = .ok (.iconst 0, 1) := by decide +kernel
theorem dX7_place_2 : decode cX7_place 2 = .ok (.putfield 36, 3) := by decide +kernel
theorem dX7_place_5 : decode cX7_place 5 = .ok (.aload_n 0, 1) := by decide +kernel
theorem dX7_place_6 : decode cX7_place 6 = .ok (.invokevirtual 117, 3) := by decide +kernel
theorem dX7_place_9 : decode cX7_place 9 = .ok (.astore_n 3, 1) := by decide +kernel
theorem dX7_place_10 : decode cX7_place 10 = .ok (.iload_n 1, 1) := by decide +kernel
theorem dX7_place_11 : decode cX7_place 11 = .ok (.iconst 1, 1) := by decide +kernel
theorem dX7_place_12 : decode cX7_place 12 = .ok (.aload_n 0, 1) := by decide +kernel
theorem dX7_place_13 : decode cX7_place 13 = .ok (.getfield 26, 3) := by decide +kernel
theorem dX7_place_16 : decode cX7_place 16 = .ok (.invokestatic 39, 3) := by decide +kernel
theorem dX7_place_19 : decode cX7_place 19 = .ok (.ifCond .eq 28, 3) := by decide +kernel
theorem dX7_place_22 : decode cX7_place 22 = .ok (.iload_n 2, 1) := by decide +kernel
theorem dX7_place_23 : decode cX7_place 23 = .ok (.iconst 0, 1) := by decide +kernel
theorem dX7_place_24 : decode cX7_place 24 = .ok (.aload_n 3, 1) := by decide +kernel
theorem dX7_place_25 : decode cX7_place 25 = .ok (.arraylength, 1) := by decide +kernel
theorem dX7_place_26 : decode cX7_place 26 = .ok (.iconst 1, 1) := by decide +kernel
theorem dX7_place_27 : decode cX7_place 27 = .ok (.isub, 1) := by decide +kernel
theorem dX7_place_28 : decode cX7_place 28 = .ok (.invokestatic 39, 3) := by decide +kernel
theorem dX7_place_31 : decode cX7_place 31 = .ok (.ifCond .eq 16, 3) := by decide +kernel
theorem dX7_place_34 : decode cX7_place 34 = .ok (.aload_n 0, 1) := by decide +kernel
theorem dX7_place_35 : decode cX7_place 35 = .ok (.iload_n 1, 1) := by decide +kernel
theorem dX7_place_36 : decode cX7_place 36 = .ok (.aload_n 3, 1) := by decide +kernel
theorem dX7_place_37 : decode cX7_place 37 = .ok (.iload_n 2, 1) := by decide +kernel
theorem dX7_place_38 : decode cX7_place 38 = .ok (.iaload, 1) := by decide +kernel
theorem dX7_place_39 : decode cX7_place 39 = .ok (.invokevirtual 134, 3) := by decide +kernel
theorem dX7_place_42 : decode cX7_place 42 = .ok (.iconst 1, 1) := by decide +kernel
theorem dX7_place_43 : decode cX7_place 43 = .ok (.iadd, 1) := by decide +kernel
theorem dX7_place_44 : decode cX7_place 44 = .ok (.goto 8, 3) := by decide +kernel
theorem dX7_place_47 : decode cX7_place 47 = .ok (.aload_n 0, 1) := by decide +kernel
theorem dX7_place_48 : decode cX7_place 48 = .ok (.iconst 1, 1) := by decide +kernel
theorem dX7_place_49 : decode cX7_place 49 = .ok (.invokevirtual 66, 3) := by decide +kernel
theorem dX7_place_52 : decode cX7_place 52 = .ok (.ireturn, 1) := by decide +kernel
set_option maxRecDepth 20000 in
theorem ggX7_longestNow_X7_placeNow : GoodIn wsX7_longestNow wsX7_placeNow := goodIn_r _ [9, 10, 11, 12, 13, 14, 15, 16, 17, 18, 19, 20] (by decide +kernel) (by decide +kernel)
set_option maxRecDepth 20000 in
theorem gX7_longestNow_X7_placeNow : GoodIn wsX7_longestNow (wsV RX7 134 RX7 yX7_placeNow wsX7_placeNow) := goodIn_app (goodIn_of _ (by decide +kernel)) ggX7_longestNow_X7_placeNow
theorem dX7_longestNow_0 : decode cX7_longestNow 0 = .ok (.iconst 0, 1) := by decide +kernel
theorem dX7_longestNow_1 : decode cX7_longestNow 1 = .ok (.istore_n 3, 1) := by decide +kernel
theorem dX7_longestNow_2 : decode cX7_longestNow 2 = .ok (.iconst 0, 1) := by decide +kernel
theorem dX7_longestNow_3 : decode cX7_longestNow 3 = .ok (.istore 4, 2) := by decide +kernel
theorem dX7_longestNow_5 : decode cX7_longestNow 5 = .ok (.iconst 0, 1) := by decide +kernel
theorem dX7_longestNow_6 : decode cX7_longestNow 6 = .ok (.istore 5, 2) := by decide +kernel
theorem dX7_longestNow_8 : decode cX7_longestNow 8 = .ok (.iload 5, 2) := by decide +kernel
theorem dX7_longestNow_10 : decode cX7_longestNow 10 = .ok (.aload_n 2, 1) := by decide +kernel
theorem dX7_longestNow_11 : decode cX7_longestNow 11 = .ok (.arraylength, 1) := by decide +kernel
theorem dX7_longestNow_12 : decode cX7_longestNow 12 = .ok (.if_icmp .ge 54, 3) := by decide +kernel
theorem dX7_longestNow_15 : decode cX7_longestNow 15 = .ok (.iload 5, 2) := by decide +kernel
theorem dX7_longestNow_17 : decode cX7_longestNow 17 = .ok (.ifCond .le 33, 3) := by decide +kernel
theorem dX7_longestNow_20 : decode cX7_longestNow 20 = .ok (.aload_n 0, 1) := by decide +kernel
theorem dX7_longestNow_21 : decode cX7_longestNow 21 = .ok (.iload_n 1, 1) := by decide +kernel
theorem dX7_longestNow_22 : decode cX7_longestNow 22 = .ok (.aload_n 2, 1) := by decide +kernel
theorem dX7_longestNow_23 : decode cX7_longestNow 23 = .ok (.iload 5, 2) := by decide +kernel
theorem dX7_longestNow_25 : decode cX7_longestNow 25 = .ok (.iaload, 1) := by decide +kernel
theorem dX7_longestNow_26 : decode cX7_longestNow 26 = .ok (.invokevirtual 134, 3) := by decide +kernel
theorem dX7_longestNow_29 : decode cX7_longestNow 29 = .ok (.aload_n 0, 1) := by decide +kernel
theorem dX7_longestNow_30 : decode cX7_longestNow 30 = .ok (.iload_n 1, 1) := by decide +kernel
theorem dX7_longestNow_31 : decode cX7_longestNow 31 = .ok (.aload_n 2, 1) := by decide +kernel
theorem dX7_longestNow_32 : decode cX7_longestNow 32 = .ok (.iload 5, 2) := by decide +kernel
theorem dX7_longestNow_34 : decode cX7_longestNow 34 = .ok (.iconst 1, 1) := by decide +kernel
theorem dX7_longestNow_35 : decode cX7_longestNow 35 = .ok (.isub, 1) := by decide +kernel
theorem dX7_longestNow_36 : decode cX7_longestNow 36 = .ok (.iaload, 1) := by decide +kernel
theorem dX7_longestNow_37 : decode cX7_longestNow 37 = .ok (.invokevirtual 134, 3) := by decide +kernel
theorem dX7_longestNow_40 : decode cX7_longestNow 40 = .ok (.if_icmp .ne 10, 3) := by decide +kernel
theorem dX7_longestNow_43 : decode cX7_longestNow 43 = .ok (.iload 4, 2) := by decide +kernel
theorem dX7_longestNow_45 : decode cX7_longestNow 45 = .ok (.iconst 1, 1) := by decide +kernel
theorem dX7_longestNow_46 : decode cX7_longestNow 46 = .ok (.iadd, 1) := by decide +kernel
theorem dX7_longestNow_47 : decode cX7_longestNow 47 = .ok (.goto 4, 3) := by decide +kernel
theorem dX7_longestNow_50 : decode cX7_longestNow 50 = .ok (.iconst 1, 1) := by decide +kernel
theorem dX7_longestNow_51 : decode cX7_longestNow 51 = .ok (.istore 4, 2) := by decide +kernel
theorem dX7_longestNow_53 : decode cX7_longestNow 53 = .ok (.iload_n 3, 1) := by decide +kernel
theorem dX7_longestNow_54 : decode cX7_longestNow 54 = .ok (.iload 4, 2) := by decide +kernel
theorem dX7_longestNow_56 : decode cX7_longestNow 56 = .ok (.invokestatic 138, 3) := by decide +kernel
theorem dX7_longestNow_59 : decode cX7_longestNow 59 = .ok (.istore_n 3, 1) := by decide +kernel
theorem dX7_longestNow_60 : decode cX7_longestNow 60 = .ok (.iinc 5 1, 3) := by decide +kernel
theorem dX7_longestNow_63 : decode cX7_longestNow 63 = .ok (.goto (-55), 3) := by decide +kernel
theorem dX7_longestNow_66 : decode cX7_longestNow 66 = .ok (.iload_n 3, 1) := by decide +kernel
theorem dX7_longestNow_67 : decode cX7_longestNow 67 = .ok (.ireturn, 1) := by decide +kernel
set_option maxRecDepth 20000 in
theorem ggX7_longest_X7_isIn : GoodIn wsX7_longest wsX7_isIn := goodIn_r _ [6] (by decide +kernel) (by decide +kernel)
set_option maxRecDepth 20000 in
theorem gX7_longest_X7_isIn : GoodIn wsX7_longest (va_wsS RX7 39 yX7_isIn wsX7_isIn) := goodIn_app (goodIn_of _ (by decide +kernel)) ggX7_longest_X7_isIn
set_option maxRecDepth 20000 in
theorem ggX7_longest_X7_rows_ : GoodIn wsX7_longest wsX7_rows_ := goodIn_r _ [10, 11, 12, 13, 14, 15, 5, 16, 2, 17, 18, 19, 20, 21, 22, 23, 24, 25, 26, 27, 28, 29, 30, 47, 48, 49, 50, 51, 52, 53, 54, 55, 56] (by decide +kernel) (by decide +kernel)
set_option maxRecDepth 20000 in
theorem gX7_longest_X7_rows_ : GoodIn wsX7_longest (wsV RX7 117 RX7 yX7_rows_ wsX7_rows_) := goodIn_app (goodIn_of _ (by decide +kernel)) ggX7_longest_X7_rows_
set_option maxRecDepth 20000 in
theorem ggX7_longest_X7_longestNow : GoodIn wsX7_longest wsX7_longestNow := goodIn_r _ [34, 35, 36, 37, 38, 39, 40, 41, 5, 42, 2, 47, 48, 49, 50, 51, 52, 53, 54, 55, 56] (by decide +kernel) (by decide +kernel)
set_option maxRecDepth 20000 in
theorem gX7_longest_X7_longestNow : GoodIn wsX7_longest (wsV RX7 141 RX7 yX7_longestNow wsX7_longestNow) := goodIn_app (goodIn_of _ (by decide +kernel)) ggX7_longest_X7_longestNow
set_option maxRecDepth 20000 in
theorem ggX7_longest_X7_no : GoodIn wsX7_longest wsX7_no := goodIn_r _ [46, 1, 47, 48, 49, 50, 51, 52, 53, 54, 55, 56] (by decide +kernel) (by decide +kernel)
set_option maxRecDepth 20000 in
theorem gX7_longest_X7_no : GoodIn wsX7_longest (wsV RX7 66 RX7 yX7_no wsX7_no) := goodIn_app (goodIn_of _ (by decide +kernel)) ggX7_longest_X7_no
theorem dX7_longest_0 : decode cX7_longest 0 = .ok (.aload_n 0, 1) := by decide +kernel
theorem dX7_longest_1 : decode cX7_longest 1 = .ok (.iconst 0, 1) := by decide +kernel
theorem dX7_longest_2 : decode cX7_longest 2 = .ok (.putfield 36, 3) := by decide +kernel
theorem dX7_longest_5 : decode cX7_longest 5 = .ok (.iload_n 1, 1) := by decide +kernel
theorem dX7_longest_6 : decode cX7_longest 6 = .ok (.iconst 1, 1) := by decide +kernel
theorem dX7_longest_7 : decode cX7_longest 7 = .ok (.aload_n 0, 1) := by decide +kernel
theorem dX7_longest_8 : decode cX7_longest 8 = .ok (.getfield 26, 3) := by decide +kernel
theorem dX7_longest_11 : decode cX7_longest 11 = .ok (.invokestatic 39, 3) := by decide +kernel
theorem dX7_longest_14 : decode cX7_longest 14 = .ok (.ifCond .eq 15, 3) := by decide +kernel
theorem dX7_longest_17 : decode cX7_longest 17 = .ok (.aload_n 0, 1) := by decide +kernel
theorem dX7_longest_18 : decode cX7_longest 18 = .ok (.iload_n 1, 1) := by decide +kernel
theorem dX7_longest_19 : decode cX7_longest 19 = .ok (.aload_n 0, 1) := by decide +kernel
theorem dX7_longest_20 : decode cX7_longest 20 = .ok (.invokevirtual 117, 3) := by decide +kernel
theorem dX7_longest_23 : decode cX7_longest 23 = .ok (.invokevirtual 141, 3) := by decide +kernel
theorem dX7_longest_26 : decode cX7_longest 26 = .ok (.goto 8, 3) := by decide +kernel
theorem dX7_longest_29 : decode cX7_longest 29 = .ok (.aload_n 0, 1) := by decide +kernel
theorem dX7_longest_30 : decode cX7_longest 30 = .ok (.iconst 1, 1) := by decide +kernel
theorem dX7_longest_31 : decode cX7_longest 31 = .ok (.invokevirtual 66, 3) := by decide +kernel
theorem dX7_longest_34 : decode cX7_longest 34 = .ok (.ireturn, 1) := by decide +kernel
set_option maxRecDepth 20000 in
theorem ggX7_music_X7_isRow : GoodIn wsX7_music wsX7_isRow := goodIn_r _ [6, 7, 8, 9, 5, 10, 11, 12, 13, 14, 15, 16, 31, 32, 33, 34, 35, 36, 37, 38, 39, 40] (by decide +kernel) (by decide +kernel)
set_option maxRecDepth 20000 in
theorem gX7_music_X7_isRow : GoodIn wsX7_music (wsV RX7 87 RX7 yX7_isRow wsX7_isRow) := goodIn_app (goodIn_of _ (by decide +kernel)) ggX7_music_X7_isRow
set_option maxRecDepth 20000 in
theorem ggX7_music_X7_musicNow : GoodIn wsX7_music wsX7_musicNow := goodIn_r _ [19, 20, 21, 5, 22, 23, 24, 25, 26] (by decide +kernel) (by decide +kernel)
set_option maxRecDepth 20000 in
theorem gX7_music_X7_musicNow : GoodIn wsX7_music (va_wsS RX7 114 yX7_musicNow wsX7_musicNow) := goodIn_app (goodIn_of _ (by decide +kernel)) ggX7_music_X7_musicNow
set_option maxRecDepth 20000 in
theorem ggX7_music_X7_no : GoodIn wsX7_music wsX7_no := goodIn_r _ [30, 1, 31, 32, 33, 34, 35, 36, 37, 38, 39, 40] (by decide +kernel) (by decide +kernel)
set_option maxRecDepth 20000 in
theorem gX7_music_X7_no : GoodIn wsX7_music (wsV RX7 66 RX7 yX7_no wsX7_no) := goodIn_app (goodIn_of _ (by decide +kernel)) ggX7_music_X7_no
theorem dX7_music_0 : decode cX7_music 0 = .ok (.aload_n 0, 1) := by decide +kernel
theorem dX7_music_1 : decode cX7_music 1 = .ok (.iconst 0, 1) := by decide +kernel
theorem dX7_music_2 : decode cX7_music 2 = .ok (.putfield 36, 3) := by decide +kernel
theorem dX7_music_5 : decode cX7_music 5 = .ok (.aload_n 0, 1) := by decide +kernel
theorem dX7_music_6 : decode cX7_music 6 = .ok (.iload_n 1, 1) := by decide +kernel
theorem dX7_music_7 : decode cX7_music 7 = .ok (.invokevirtual 87, 3) := by decide +kernel
theorem dX7_music_10 : decode cX7_music 10 = .ok (.ifCond .eq 10, 3) := by decide +kernel
theorem dX7_music_13 : decode cX7_music 13 = .ok (.iload_n 1, 1) := by decide +kernel
theorem dX7_music_14 : decode cX7_music 14 = .ok (.invokestatic 114, 3) := by decide +kernel
theorem dX7_music_17 : decode cX7_music 17 = .ok (.goto 8, 3) := by decide +kernel
theorem dX7_music_20 : decode cX7_music 20 = .ok (.aload_n 0, 1) := by decide +kernel
theorem dX7_music_21 : decode cX7_music 21 = .ok (.iconst 1, 1) := by decide +kernel
theorem dX7_music_22 : decode cX7_music 22 = .ok (.invokevirtual 66, 3) := by decide +kernel
theorem dX7_music_25 : decode cX7_music 25 = .ok (.ireturn, 1) := by decide +kernel
theorem dX7_leadAt_0 : decode cX7_leadAt 0 = .ok (.aload_n 0, 1) := by decide +kernel
theorem dX7_leadAt_1 : decode cX7_leadAt 1 = .ok (.getfield 30, 3) := by decide +kernel
theorem dX7_leadAt_4 : decode cX7_leadAt 4 = .ok (.newarray .int, 2) := by decide +kernel
theorem dX7_leadAt_6 : decode cX7_leadAt 6 = .ok (.astore_n 3, 1) := by decide +kernel
theorem dX7_leadAt_7 : decode cX7_leadAt 7 = .ok (.aload_n 1, 1) := by decide +kernel
theorem dX7_leadAt_8 : decode cX7_leadAt 8 = .ok (.iload_n 2, 1) := by decide +kernel
theorem dX7_leadAt_9 : decode cX7_leadAt 9 = .ok (.aload_n 0, 1) := by decide +kernel
theorem dX7_leadAt_10 : decode cX7_leadAt 10 = .ok (.getfield 30, 3) := by decide +kernel
theorem dX7_leadAt_13 : decode cX7_leadAt 13 = .ok (.imul, 1) := by decide +kernel
theorem dX7_leadAt_14 : decode cX7_leadAt 14 = .ok (.aload_n 3, 1) := by decide +kernel
theorem dX7_leadAt_15 : decode cX7_leadAt 15 = .ok (.iconst 0, 1) := by decide +kernel
theorem dX7_leadAt_16 : decode cX7_leadAt 16 = .ok (.aload_n 0, 1) := by decide +kernel
theorem dX7_leadAt_17 : decode cX7_leadAt 17 = .ok (.getfield 30, 3) := by decide +kernel
theorem dX7_leadAt_20 : decode cX7_leadAt 20 = .ok (.invokestatic 145, 3) := by decide +kernel
theorem dX7_leadAt_23 : decode cX7_leadAt 23 = .ok (.aload_n 3, 1) := by decide +kernel
theorem dX7_leadAt_24 : decode cX7_leadAt 24 = .ok (.areturn, 1) := by decide +kernel
set_option maxRecDepth 20000 in
theorem ggX7_common_X7_isIn : GoodIn wsX7_common wsX7_isIn := goodIn_r _ [7] (by decide +kernel) (by decide +kernel)
set_option maxRecDepth 20000 in
theorem gX7_common_X7_isIn : GoodIn wsX7_common (va_wsS RX7 39 yX7_isIn wsX7_isIn) := goodIn_app (goodIn_of _ (by decide +kernel)) ggX7_common_X7_isIn
set_option maxRecDepth 20000 in
theorem ggX7_common_X7_no : GoodIn wsX7_common wsX7_no := goodIn_r _ [11, 1, 46, 47, 48, 49, 50, 51, 52, 53, 54, 55] (by decide +kernel) (by decide +kernel)
set_option maxRecDepth 20000 in
theorem gX7_common_X7_no : GoodIn wsX7_common (wsV RX7 66 RX7 yX7_no wsX7_no) := goodIn_app (goodIn_of _ (by decide +kernel)) ggX7_common_X7_no
set_option maxRecDepth 20000 in
theorem ggX7_common_X7_rows_ : GoodIn wsX7_common wsX7_rows_ := goodIn_r _ [15, 16, 2, 17, 18, 19, 6, 20, 21, 22, 23, 24, 25, 26, 3, 27, 28, 29, 30, 31, 32, 33, 34, 46, 47, 48, 49, 50, 51, 52, 53, 54, 55] (by decide +kernel) (by decide +kernel)
set_option maxRecDepth 20000 in
theorem gX7_common_X7_rows_ : GoodIn wsX7_common (wsV RX7 117 RX7 yX7_rows_ wsX7_rows_) := goodIn_app (goodIn_of _ (by decide +kernel)) ggX7_common_X7_rows_
set_option maxRecDepth 20000 in
theorem ggX7_common_X7_leadAt : GoodIn wsX7_common wsX7_leadAt := goodIn_r _ [38, 3, 22, 39, 40, 41, 42, 46, 47, 48, 49, 50, 51, 52, 53, 54, 55] (by decide +kernel) (by decide +kernel)
set_option maxRecDepth 20000 in
theorem gX7_common_X7_leadAt : GoodIn wsX7_common (wsV RX7 151 RX7 yX7_leadAt wsX7_leadAt) := goodIn_app (goodIn_of _ (by decide +kernel)) ggX7_common_X7_leadAt
set_option maxRecDepth 20000 in
theorem ggX7_common_X7_first : GoodIn wsX7_common wsX7_first := goodIn_r _ [45] (by decide +kernel) (by decide +kernel)
set_option maxRecDepth 20000 in
theorem gX7_common_X7_first : GoodIn wsX7_common (va_wsS RX7 102 yX7_first wsX7_first) := goodIn_app (goodIn_of _ (by decide +kernel)) ggX7_common_X7_first
theorem dX7_common_0 : decode cX7_common 0 = .ok (.aload_n 0, 1) := by decide +kernel
theorem dX7_common_1 : decode cX7_common 1 = .ok (.iconst 0, 1) := by decide +kernel
theorem dX7_common_2 : decode cX7_common 2 = .ok (.putfield 36, 3) := by decide +kernel
theorem dX7_common_5 : decode cX7_common 5 = .ok (.iload_n 1, 1) := by decide +kernel
theorem dX7_common_6 : decode cX7_common 6 = .ok (.iconst 0, 1) := by decide +kernel
theorem dX7_common_7 : decode cX7_common 7 = .ok (.aload_n 0, 1) := by decide +kernel
theorem dX7_common_8 : decode cX7_common 8 = .ok (.getfield 33, 3) := by decide +kernel
theorem dX7_common_11 : decode cX7_common 11 = .ok (.iconst 1, 1) := by decide +kernel
theorem dX7_common_12 : decode cX7_common 12 = .ok (.isub, 1) := by decide +kernel
theorem dX7_common_13 : decode cX7_common 13 = .ok (.invokestatic 39, 3) := by decide +kernel
theorem dX7_common_16 : decode cX7_common 16 = .ok (.ifCond .eq 17, 3) := by decide +kernel
theorem dX7_common_19 : decode cX7_common 19 = .ok (.iload_n 2, 1) := by decide +kernel
theorem dX7_common_20 : decode cX7_common 20 = .ok (.iconst 0, 1) := by decide +kernel
theorem dX7_common_21 : decode cX7_common 21 = .ok (.aload_n 0, 1) := by decide +kernel
theorem dX7_common_22 : decode cX7_common 22 = .ok (.getfield 33, 3) := by decide +kernel
theorem dX7_common_25 : decode cX7_common 25 = .ok (.iconst 1, 1) := by decide +kernel
theorem dX7_common_26 : decode cX7_common 26 = .ok (.isub, 1) := by decide +kernel
theorem dX7_common_27 : decode cX7_common 27 = .ok (.invokestatic 39, 3) := by decide +kernel
theorem dX7_common_30 : decode cX7_common 30 = .ok (.ifCond .ne 9, 3) := by decide +kernel
theorem dX7_common_33 : decode cX7_common 33 = .ok (.aload_n 0, 1) := by decide +kernel
theorem dX7_common_34 : decode cX7_common 34 = .ok (.iconst 1, 1) := by decide +kernel
theorem dX7_common_35 : decode cX7_common 35 = .ok (.invokevirtual 66, 3) := by decide +kernel
theorem dX7_common_38 : decode cX7_common 38 = .ok (.ireturn, 1) := by decide +kernel
theorem dX7_common_39 : decode cX7_common 39 = .ok (.aload_n 0, 1) := by decide +kernel
theorem dX7_common_40 : decode cX7_common 40 = .ok (.aload_n 0, 1) := by decide +kernel
theorem dX7_common_41 : decode cX7_common 41 = .ok (.invokevirtual 117, 3) := by decide +kernel
theorem dX7_common_44 : decode cX7_common 44 = .ok (.iload_n 1, 1) := by decide +kernel
theorem dX7_common_45 : decode cX7_common 45 = .ok (.invokevirtual 151, 3) := by decide +kernel
theorem dX7_common_48 : decode cX7_common 48 = .ok (.astore_n 3, 1) := by decide +kernel
theorem dX7_common_49 : decode cX7_common 49 = .ok (.aload_n 0, 1) := by decide +kernel
theorem dX7_common_50 : decode cX7_common 50 = .ok (.aload_n 0, 1) := by decide +kernel
theorem dX7_common_51 : decode cX7_common 51 = .ok (.invokevirtual 117, 3) := by decide +kernel
theorem dX7_common_54 : decode cX7_common 54 = .ok (.iload_n 2, 1) := by decide +kernel
theorem dX7_common_55 : decode cX7_common 55 = .ok (.invokevirtual 151, 3) := by decide +kernel
theorem dX7_common_58 : decode cX7_common 58 = .ok (.astore 4, 2) := by decide +kernel
theorem dX7_common_60 : decode cX7_common 60 = .ok (.iconst 0, 1) := by decide +kernel
theorem dX7_common_61 : decode cX7_common 61 = .ok (.istore 5, 2) := by decide +kernel
theorem dX7_common_63 : decode cX7_common 63 = .ok (.iconst 0, 1) := by decide +kernel
theorem dX7_common_64 : decode cX7_common 64 = .ok (.istore 6, 2) := by decide +kernel
theorem dX7_common_66 : decode cX7_common 66 = .ok (.iload 6, 2) := by decide +kernel
theorem dX7_common_68 : decode cX7_common 68 = .ok (.aload_n 0, 1) := by decide +kernel
theorem dX7_common_69 : decode cX7_common 69 = .ok (.getfield 30, 3) := by decide +kernel
theorem dX7_common_72 : decode cX7_common 72 = .ok (.if_icmp .ge 48, 3) := by decide +kernel
theorem dX7_common_75 : decode cX7_common 75 = .ok (.iload 5, 2) := by decide +kernel
theorem dX7_common_77 : decode cX7_common 77 = .ok (.aload_n 3, 1) := by decide +kernel
theorem dX7_common_78 : decode cX7_common 78 = .ok (.aload_n 3, 1) := by decide +kernel
theorem dX7_common_79 : decode cX7_common 79 = .ok (.iload 6, 2) := by decide +kernel
theorem dX7_common_81 : decode cX7_common 81 = .ok (.iaload, 1) := by decide +kernel
theorem dX7_common_82 : decode cX7_common 82 = .ok (.invokestatic 102, 3) := by decide +kernel
