theorem dX7_begin_21 : decode cX7_begin 21 = .ok (.aload_n 0, 1) := by decide +kernel
theorem dX7_begin_22 : decode cX7_begin 22 = .ok (.iload_n 1, 1) := by decide +kernel
theorem dX7_begin_23 : decode cX7_begin 23 = .ok (.invokevirtual 22, 3) := by decide +kernel
theorem dX7_begin_26 : decode cX7_begin 26 = .ok (.aload_n 0, 1) := by decide +kernel
theorem dX7_begin_27 : decode cX7_begin 27 = .ok (.invokevirtual 70, 3) := by decide +kernel
theorem dX7_begin_30 : decode cX7_begin 30 = .ok (.ireturn, 1) := by decide +kernel
set_option maxRecDepth 20000 in
theorem ggX7_change_X7_isChangeNow : GoodIn wsX7_change wsX7_isChangeNow := goodIn_r _ [8, 9, 10, 11, 7, 12, 17, 18, 19, 20, 21, 22, 23, 24, 25, 26] (by decide +kernel) (by decide +kernel)
set_option maxRecDepth 20000 in
theorem gX7_change_X7_isChangeNow : GoodIn wsX7_change (wsV RX7 74 RX7 yX7_isChangeNow wsX7_isChangeNow) := goodIn_app (goodIn_of _ (by decide +kernel)) ggX7_change_X7_isChangeNow
set_option maxRecDepth 20000 in
theorem ggX7_change_X7_no : GoodIn wsX7_change wsX7_no := goodIn_r _ [16, 1, 17, 18, 19, 20, 21, 22, 23, 24, 25, 26] (by decide +kernel) (by decide +kernel)
set_option maxRecDepth 20000 in
theorem gX7_change_X7_no : GoodIn wsX7_change (wsV RX7 66 RX7 yX7_no wsX7_no) := goodIn_app (goodIn_of _ (by decide +kernel)) ggX7_change_X7_no
theorem dX7_change_0 : decode cX7_change 0 = .ok (.aload_n 0, 1) := by decide +kernel
theorem dX7_change_1 : decode cX7_change 1 = .ok (.iconst 0, 1) := by decide +kernel
theorem dX7_change_2 : decode cX7_change 2 = .ok (.putfield 36, 3) := by decide +kernel
theorem dX7_change_5 : decode cX7_change 5 = .ok (.aload_n 0, 1) := by decide +kernel
theorem dX7_change_6 : decode cX7_change 6 = .ok (.iload_n 1, 1) := by decide +kernel
theorem dX7_change_7 : decode cX7_change 7 = .ok (.invokevirtual 74, 3) := by decide +kernel
theorem dX7_change_10 : decode cX7_change 10 = .ok (.ifCond .ne 9, 3) := by decide +kernel
theorem dX7_change_13 : decode cX7_change 13 = .ok (.aload_n 0, 1) := by decide +kernel
theorem dX7_change_14 : decode cX7_change 14 = .ok (.iconst 1, 1) := by decide +kernel
theorem dX7_change_15 : decode cX7_change 15 = .ok (.invokevirtual 66, 3) := by decide +kernel
theorem dX7_change_18 : decode cX7_change 18 = .ok (.ireturn, 1) := by decide +kernel
theorem dX7_change_19 : decode cX7_change 19 = .ok (.aload_n 0, 1) := by decide +kernel
theorem dX7_change_20 : decode cX7_change 20 = .ok (.getfield 30, 3) := by decide +kernel
theorem dX7_change_23 : decode cX7_change 23 = .ok (.bipush 14, 2) := by decide +kernel
theorem dX7_change_25 : decode cX7_change 25 = .ok (.if_icmp .ne 9, 3) := by decide +kernel
theorem dX7_change_28 : decode cX7_change 28 = .ok (.aload_n 0, 1) := by decide +kernel
theorem dX7_change_29 : decode cX7_change 29 = .ok (.iconst 2, 1) := by decide +kernel
theorem dX7_change_30 : decode cX7_change 30 = .ok (.invokevirtual 66, 3) := by decide +kernel
theorem dX7_change_33 : decode cX7_change 33 = .ok (.ireturn, 1) := by decide +kernel
theorem dX7_change_34 : decode cX7_change 34 = .ok (.aload_n 0, 1) := by decide +kernel
theorem dX7_change_35 : decode cX7_change 35 = .ok (.getfield 9, 3) := by decide +kernel
theorem dX7_change_38 : decode cX7_change 38 = .ok (.aload_n 0, 1) := by decide +kernel
theorem dX7_change_39 : decode cX7_change 39 = .ok (.dup, 1) := by decide +kernel
theorem dX7_change_40 : decode cX7_change 40 = .ok (.getfield 30, 3) := by decide +kernel
theorem dX7_change_43 : decode cX7_change 43 = .ok (.dup_x1, 1) := by decide +kernel
theorem dX7_change_44 : decode cX7_change 44 = .ok (.iconst 1, 1) := by decide +kernel
theorem dX7_change_45 : decode cX7_change 45 = .ok (.iadd, 1) := by decide +kernel
theorem dX7_change_46 : decode cX7_change 46 = .ok (.putfield 30, 3) := by decide +kernel
theorem dX7_change_49 : decode cX7_change 49 = .ok (.iload_n 1, 1) := by decide +kernel
theorem dX7_change_50 : decode cX7_change 50 = .ok (.iastore, 1) := by decide +kernel
theorem dX7_change_51 : decode cX7_change 51 = .ok (.aload_n 0, 1) := by decide +kernel
theorem dX7_change_52 : decode cX7_change 52 = .ok (.getfield 30, 3) := by decide +kernel
theorem dX7_change_55 : decode cX7_change 55 = .ok (.ireturn, 1) := by decide +kernel
set_option maxRecDepth 20000 in
theorem ggX7_mirror_X7_no : GoodIn wsX7_mirror wsX7_no := goodIn_r _ [8, 1, 9, 10, 11, 12, 13, 14, 15, 16, 17, 18] (by decide +kernel) (by decide +kernel)
set_option maxRecDepth 20000 in
theorem gX7_mirror_X7_no : GoodIn wsX7_mirror (wsV RX7 66 RX7 yX7_no wsX7_no) := goodIn_app (goodIn_of _ (by decide +kernel)) ggX7_mirror_X7_no
theorem dX7_mirror_0 : decode cX7_mirror 0 = .ok (.aload_n 0, 1) := by decide +kernel
theorem dX7_mirror_1 : decode cX7_mirror 1 = .ok (.iconst 0, 1) := by decide +kernel
theorem dX7_mirror_2 : decode cX7_mirror 2 = .ok (.putfield 36, 3) := by decide +kernel
theorem dX7_mirror_5 : decode cX7_mirror 5 = .ok (.aload_n 0, 1) := by decide +kernel
theorem dX7_mirror_6 : decode cX7_mirror 6 = .ok (.getfield 30, 3) := by decide +kernel
theorem dX7_mirror_9 : decode cX7_mirror 9 = .ok (.ifCond .eq 16, 3) := by decide +kernel
theorem dX7_mirror_12 : decode cX7_mirror 12 = .ok (.iconst 2, 1) := by decide +kernel
theorem dX7_mirror_13 : decode cX7_mirror 13 = .ok (.aload_n 0, 1) := by decide +kernel
theorem dX7_mirror_14 : decode cX7_mirror 14 = .ok (.getfield 30, 3) := by decide +kernel
theorem dX7_mirror_17 : decode cX7_mirror 17 = .ok (.imul, 1) := by decide +kernel
theorem dX7_mirror_18 : decode cX7_mirror 18 = .ok (.iconst 1, 1) := by decide +kernel
theorem dX7_mirror_19 : decode cX7_mirror 19 = .ok (.isub, 1) := by decide +kernel
theorem dX7_mirror_20 : decode cX7_mirror 20 = .ok (.bipush 14, 2) := by decide +kernel
theorem dX7_mirror_22 : decode cX7_mirror 22 = .ok (.if_icmp .le 9, 3) := by decide +kernel
theorem dX7_mirror_25 : decode cX7_mirror 25 = .ok (.aload_n 0, 1) := by decide +kernel
theorem dX7_mirror_26 : decode cX7_mirror 26 = .ok (.iconst 1, 1) := by decide +kernel
theorem dX7_mirror_27 : decode cX7_mirror 27 = .ok (.invokevirtual 66, 3) := by decide +kernel
theorem dX7_mirror_30 : decode cX7_mirror 30 = .ok (.ireturn, 1) := by decide +kernel
theorem dX7_mirror_31 : decode cX7_mirror 31 = .ok (.aload_n 0, 1) := by decide +kernel
theorem dX7_mirror_32 : decode cX7_mirror 32 = .ok (.getfield 30, 3) := by decide +kernel
theorem dX7_mirror_35 : decode cX7_mirror 35 = .ok (.iconst 2, 1) := by decide +kernel
theorem dX7_mirror_36 : decode cX7_mirror 36 = .ok (.isub, 1) := by decide +kernel
theorem dX7_mirror_37 : decode cX7_mirror 37 = .ok (.istore_n 1, 1) := by decide +kernel
theorem dX7_mirror_38 : decode cX7_mirror 38 = .ok (.iload_n 1, 1) := by decide +kernel
theorem dX7_mirror_39 : decode cX7_mirror 39 = .ok (.ifCond .lt 31, 3) := by decide +kernel
theorem dX7_mirror_42 : decode cX7_mirror 42 = .ok (.aload_n 0, 1) := by decide +kernel
theorem dX7_mirror_43 : decode cX7_mirror 43 = .ok (.getfield 9, 3) := by decide +kernel
theorem dX7_mirror_46 : decode cX7_mirror 46 = .ok (.aload_n 0, 1) := by decide +kernel
theorem dX7_mirror_47 : decode cX7_mirror 47 = .ok (.dup, 1) := by decide +kernel
theorem dX7_mirror_48 : decode cX7_mirror 48 = .ok (.getfield 30, 3) := by decide +kernel
theorem dX7_mirror_51 : decode cX7_mirror 51 = .ok (.dup_x1, 1) := by decide +kernel
theorem dX7_mirror_52 : decode cX7_mirror 52 = .ok (.iconst 1, 1) := by decide +kernel
theorem dX7_mirror_53 : decode cX7_mirror 53 = .ok (.iadd, 1) := by decide +kernel
theorem dX7_mirror_54 : decode cX7_mirror 54 = .ok (.putfield 30, 3) := by decide +kernel
theorem dX7_mirror_57 : decode cX7_mirror 57 = .ok (.aload_n 0, 1) := by decide +kernel
theorem dX7_mirror_58 : decode cX7_mirror 58 = .ok (.getfield 9, 3) := by decide +kernel
theorem dX7_mirror_61 : decode cX7_mirror 61 = .ok (.iload_n 1, 1) := by decide +kernel
theorem dX7_mirror_62 : decode cX7_mirror 62 = .ok (.iaload, 1) := by decide +kernel
theorem dX7_mirror_63 : decode cX7_mirror 63 = .ok (.iastore, 1) := by decide +kernel
theorem dX7_mirror_64 : decode cX7_mirror 64 = .ok (.iinc 1 (-1), 3) := by decide +kernel
theorem dX7_mirror_67 : decode cX7_mirror 67 = .ok (.goto (-29), 3) := by decide +kernel
theorem dX7_mirror_70 : decode cX7_mirror 70 = .ok (.aload_n 0, 1) := by decide +kernel
theorem dX7_mirror_71 : decode cX7_mirror 71 = .ok (.getfield 30, 3) := by decide +kernel
theorem dX7_mirror_74 : decode cX7_mirror 74 = .ok (.ireturn, 1) := by decide +kernel
set_option maxRecDepth 20000 in
theorem ggX7_unchange_X7_no : GoodIn wsX7_unchange wsX7_no := goodIn_r _ [8, 1, 9, 10, 11, 12, 13, 14, 15, 16, 17, 18] (by decide +kernel) (by decide +kernel)
set_option maxRecDepth 20000 in
theorem gX7_unchange_X7_no : GoodIn wsX7_unchange (wsV RX7 66 RX7 yX7_no wsX7_no) := goodIn_app (goodIn_of _ (by decide +kernel)) ggX7_unchange_X7_no
theorem dX7_unchange_0 : decode cX7_unchange 0 = .ok (.aload_n 0, 1) := by decide +kernel
theorem dX7_unchange_1 : decode cX7_unchange 1 = .ok (.iconst 0, 1) := by decide +kernel
theorem dX7_unchange_2 : decode cX7_unchange 2 = .ok (.putfield 36, 3) := by decide +kernel
theorem dX7_unchange_5 : decode cX7_unchange 5 = .ok (.aload_n 0, 1) := by decide +kernel
theorem dX7_unchange_6 : decode cX7_unchange 6 = .ok (.getfield 30, 3) := by decide +kernel
theorem dX7_unchange_9 : decode cX7_unchange 9 = .ok (.ifCond .ne 11, 3) := by decide +kernel
theorem dX7_unchange_12 : decode cX7_unchange 12 = .ok (.aload_n 0, 1) := by decide +kernel
theorem dX7_unchange_13 : decode cX7_unchange 13 = .ok (.iconst 1, 1) := by decide +kernel
theorem dX7_unchange_14 : decode cX7_unchange 14 = .ok (.invokevirtual 66, 3) := by decide +kernel
theorem dX7_unchange_17 : decode cX7_unchange 17 = .ok (.goto 19, 3) := by decide +kernel
theorem dX7_unchange_20 : decode cX7_unchange 20 = .ok (.aload_n 0, 1) := by decide +kernel
theorem dX7_unchange_21 : decode cX7_unchange 21 = .ok (.getfield 9, 3) := by decide +kernel
theorem dX7_unchange_24 : decode cX7_unchange 24 = .ok (.aload_n 0, 1) := by decide +kernel
theorem dX7_unchange_25 : decode cX7_unchange 25 = .ok (.dup, 1) := by decide +kernel
theorem dX7_unchange_26 : decode cX7_unchange 26 = .ok (.getfield 30, 3) := by decide +kernel
theorem dX7_unchange_29 : decode cX7_unchange 29 = .ok (.iconst 1, 1) := by decide +kernel
theorem dX7_unchange_30 : decode cX7_unchange 30 = .ok (.isub, 1) := by decide +kernel
theorem dX7_unchange_31 : decode cX7_unchange 31 = .ok (.dup_x1, 1) := by decide +kernel
theorem dX7_unchange_32 : decode cX7_unchange 32 = .ok (.putfield 30, 3) := by decide +kernel
theorem dX7_unchange_35 : decode cX7_unchange 35 = .ok (.iaload, 1) := by decide +kernel
theorem dX7_unchange_36 : decode cX7_unchange 36 = .ok (.ireturn, 1) := by decide +kernel
set_option maxRecDepth 20000 in
theorem ggX7_at_X7_isIn : GoodIn wsX7_at wsX7_isIn := goodIn_r _ [6] (by decide +kernel) (by decide +kernel)
set_option maxRecDepth 20000 in
theorem gX7_at_X7_isIn : GoodIn wsX7_at (va_wsS RX7 39 yX7_isIn wsX7_isIn) := goodIn_app (goodIn_of _ (by decide +kernel)) ggX7_at_X7_isIn
set_option maxRecDepth 20000 in
theorem ggX7_at_X7_isChangeNow : GoodIn wsX7_at wsX7_isChangeNow := goodIn_r _ [10, 11, 3, 4, 5, 6, 16, 17, 18, 19, 20, 21, 22, 23, 24, 25] (by decide +kernel) (by decide +kernel)
set_option maxRecDepth 20000 in
theorem gX7_at_X7_isChangeNow : GoodIn wsX7_at (wsV RX7 74 RX7 yX7_isChangeNow wsX7_isChangeNow) := goodIn_app (goodIn_of _ (by decide +kernel)) ggX7_at_X7_isChangeNow
set_option maxRecDepth 20000 in
theorem ggX7_at_X7_no : GoodIn wsX7_at wsX7_no := goodIn_r _ [15, 1, 16, 17, 18, 19, 20, 21, 22, 23, 24, 25] (by decide +kernel) (by decide +kernel)
set_option maxRecDepth 20000 in
theorem gX7_at_X7_no : GoodIn wsX7_at (wsV RX7 66 RX7 yX7_no wsX7_no) := goodIn_app (goodIn_of _ (by decide +kernel)) ggX7_at_X7_no
theorem dX7_at_0 : decode cX7_at 0 = .ok (.aload_n 0, 1) := by decide +kernel
theorem dX7_at_1 : decode cX7_at 1 = .ok (.iconst 0, 1) := by decide +kernel
theorem dX7_at_2 : decode cX7_at 2 = .ok (.putfield 36, 3) := by decide +kernel
theorem dX7_at_5 : decode cX7_at 5 = .ok (.iload_n 1, 1) := by decide +kernel
theorem dX7_at_6 : decode cX7_at 6 = .ok (.iconst 1, 1) := by decide +kernel
theorem dX7_at_7 : decode cX7_at 7 = .ok (.iconst 2, 1) := by decide +kernel
theorem dX7_at_8 : decode cX7_at 8 = .ok (.invokestatic 39, 3) := by decide +kernel
theorem dX7_at_11 : decode cX7_at 11 = .ok (.ifCond .eq 11, 3) := by decide +kernel
theorem dX7_at_14 : decode cX7_at 14 = .ok (.aload_n 0, 1) := by decide +kernel
theorem dX7_at_15 : decode cX7_at 15 = .ok (.iload_n 2, 1) := by decide +kernel
theorem dX7_at_16 : decode cX7_at 16 = .ok (.invokevirtual 74, 3) := by decide +kernel
theorem dX7_at_19 : decode cX7_at 19 = .ok (.ifCond .ne 9, 3) := by decide +kernel
theorem dX7_at_22 : decode cX7_at 22 = .ok (.aload_n 0, 1) := by decide +kernel
theorem dX7_at_23 : decode cX7_at 23 = .ok (.iconst 1, 1) := by decide +kernel
theorem dX7_at_24 : decode cX7_at 24 = .ok (.invokevirtual 66, 3) := by decide +kernel
theorem dX7_at_27 : decode cX7_at 27 = .ok (.ireturn, 1) := by decide +kernel
theorem dX7_at_28 : decode cX7_at 28 = .ok (.aload_n 0, 1) := by decide +kernel
theorem dX7_at_29 : decode cX7_at 29 = .ok (.getfield 13, 3) := by decide +kernel
theorem dX7_at_32 : decode cX7_at 32 = .ok (.iload_n 1, 1) := by decide +kernel
theorem dX7_at_33 : decode cX7_at 33 = .ok (.iaload, 1) := by decide +kernel
theorem dX7_at_34 : decode cX7_at 34 = .ok (.istore_n 3, 1) := by decide +kernel
theorem dX7_at_35 : decode cX7_at 35 = .ok (.aload_n 0, 1) := by decide +kernel
theorem dX7_at_36 : decode cX7_at 36 = .ok (.getfield 13, 3) := by decide +kernel
theorem dX7_at_39 : decode cX7_at 39 = .ok (.iload_n 1, 1) := by decide +kernel
theorem dX7_at_40 : decode cX7_at 40 = .ok (.iload_n 2, 1) := by decide +kernel
theorem dX7_at_41 : decode cX7_at 41 = .ok (.iastore, 1) := by decide +kernel
theorem dX7_at_42 : decode cX7_at 42 = .ok (.iload_n 3, 1) := by decide +kernel
theorem dX7_at_43 : decode cX7_at 43 = .ok (.ireturn, 1) := by decide +kernel
set_option maxRecDepth 20000 in
theorem ggX7_isChange_X7_isChangeNow : GoodIn wsX7_isChange wsX7_isChangeNow := goodIn_r _ [6, 7, 8, 9, 5, 10, 11, 12, 13, 14, 15, 16, 17, 18, 19, 20] (by decide +kernel) (by decide +kernel)
set_option maxRecDepth 20000 in
theorem gX7_isChange_X7_isChangeNow : GoodIn wsX7_isChange (wsV RX7 74 RX7 yX7_isChangeNow wsX7_isChangeNow) := goodIn_app (goodIn_of _ (by decide +kernel)) ggX7_isChange_X7_isChangeNow
theorem dX7_isChange_0 : decode cX7_isChange 0 = .ok (.aload_n 0, 1) := by decide +kernel
theorem dX7_isChange_1 : decode cX7_isChange 1 = .ok (.iconst 0, 1) := by decide +kernel
theorem dX7_isChange_2 : decode cX7_isChange 2 = .ok (.putfield 36, 3) := by decide +kernel
theorem dX7_isChange_5 : decode cX7_isChange 5 = .ok (.aload_n 0, 1) := by decide +kernel
theorem dX7_isChange_6 : decode cX7_isChange 6 = .ok (.iload_n 1, 1) := by decide +kernel
theorem dX7_isChange_7 : decode cX7_isChange 7 = .ok (.invokevirtual 74, 3) := by decide +kernel
theorem dX7_isChange_10 : decode cX7_isChange 10 = .ok (.ireturn, 1) := by decide +kernel
set_option maxRecDepth 20000 in
theorem ggX7_hunts_X7_leadOrder : GoodIn wsX7_hunts wsX7_leadOrder := goodIn_r _ [6, 7, 8, 9, 10, 5, 11, 1, 12, 13, 14, 15, 16, 17, 18, 19, 20, 21, 22, 23, 24, 25, 26, 27, 28, 29, 30, 31, 32, 33, 34, 35] (by decide +kernel) (by decide +kernel)
set_option maxRecDepth 20000 in
theorem gX7_hunts_X7_leadOrder : GoodIn wsX7_hunts (wsV RX7 78 RX7 yX7_leadOrder wsX7_leadOrder) := goodIn_app (goodIn_of _ (by decide +kernel)) ggX7_hunts_X7_leadOrder
theorem dX7_hunts_0 : decode cX7_hunts 0 = .ok (.iconst 0, 1) := by decide +kernel
theorem dX7_hunts_1 : decode cX7_hunts 1 = .ok (.istore_n 1, 1) := by decide +kernel
theorem dX7_hunts_2 : decode cX7_hunts 2 = .ok (.iconst 0, 1) := by decide +kernel
theorem dX7_hunts_3 : decode cX7_hunts 3 = .ok (.istore_n 2, 1) := by decide +kernel
theorem dX7_hunts_4 : decode cX7_hunts 4 = .ok (.iload_n 2, 1) := by decide +kernel
theorem dX7_hunts_5 : decode cX7_hunts 5 = .ok (.aload_n 0, 1) := by decide +kernel
theorem dX7_hunts_6 : decode cX7_hunts 6 = .ok (.getfield 26, 3) := by decide +kernel
theorem dX7_hunts_9 : decode cX7_hunts 9 = .ok (.if_icmp .ge 58, 3) := by decide +kernel
theorem dX7_hunts_12 : decode cX7_hunts 12 = .ok (.iconst 1, 1) := by decide +kernel
theorem dX7_hunts_13 : decode cX7_hunts 13 = .ok (.istore_n 3, 1) := by decide +kernel
theorem dX7_hunts_14 : decode cX7_hunts 14 = .ok (.iconst 0, 1) := by decide +kernel
theorem dX7_hunts_15 : decode cX7_hunts 15 = .ok (.istore 4, 2) := by decide +kernel
theorem dX7_hunts_17 : decode cX7_hunts 17 = .ok (.iload 4, 2) := by decide +kernel
theorem dX7_hunts_19 : decode cX7_hunts 19 = .ok (.iconst 3, 1) := by decide +kernel
theorem dX7_hunts_20 : decode cX7_hunts 20 = .ok (.if_icmp .ge 29, 3) := by decide +kernel
theorem dX7_hunts_23 : decode cX7_hunts 23 = .ok (.iload_n 3, 1) := by decide +kernel
theorem dX7_hunts_24 : decode cX7_hunts 24 = .ok (.aload_n 0, 1) := by decide +kernel
theorem dX7_hunts_25 : decode cX7_hunts 25 = .ok (.iload 4, 2) := by decide +kernel
theorem dX7_hunts_27 : decode cX7_hunts 27 = .ok (.invokevirtual 78, 3) := by decide +kernel
theorem dX7_hunts_30 : decode cX7_hunts 30 = .ok (.iload_n 2, 1) := by decide +kernel
theorem dX7_hunts_31 : decode cX7_hunts 31 = .ok (.iaload, 1) := by decide +kernel
theorem dX7_hunts_32 : decode cX7_hunts 32 = .ok (.iload_n 2, 1) := by decide +kernel
theorem dX7_hunts_33 : decode cX7_hunts 33 = .ok (.if_icmp .ne 7, 3) := by decide +kernel
theorem dX7_hunts_36 : decode cX7_hunts 36 = .ok (.iconst 1, 1) := by decide +kernel
theorem dX7_hunts_37 : decode cX7_hunts 37 = .ok (.goto 4, 3) := by decide +kernel
theorem dX7_hunts_40 : decode cX7_hunts 40 = .ok (.iconst 0, 1) := by decide +kernel
theorem dX7_hunts_41 : decode cX7_hunts 41 = .ok (.iand, 1) := by decide +kernel
theorem dX7_hunts_42 : decode cX7_hunts 42 = .ok (.istore_n 3, 1) := by decide +kernel
theorem dX7_hunts_43 : decode cX7_hunts 43 = .ok (.iinc 4 1, 3) := by decide +kernel
theorem dX7_hunts_46 : decode cX7_hunts 46 = .ok (.goto (-29), 3) := by decide +kernel
theorem dX7_hunts_49 : decode cX7_hunts 49 = .ok (.iload_n 1, 1) := by decide +kernel
theorem dX7_hunts_50 : decode cX7_hunts 50 = .ok (.iload_n 3, 1) := by decide +kernel
theorem dX7_hunts_51 : decode cX7_hunts 51 = .ok (.ifCond .eq 7, 3) := by decide +kernel
theorem dX7_hunts_54 : decode cX7_hunts 54 = .ok (.iconst 1, 1) := by decide +kernel
theorem dX7_hunts_55 : decode cX7_hunts 55 = .ok (.goto 4, 3) := by decide +kernel
theorem dX7_hunts_58 : decode cX7_hunts 58 = .ok (.iconst 0, 1) := by decide +kernel
theorem dX7_hunts_59 : decode cX7_hunts 59 = .ok (.iadd, 1) := by decide +kernel
theorem dX7_hunts_60 : decode cX7_hunts 60 = .ok (.istore_n 1, 1) := by decide +kernel
theorem dX7_hunts_61 : decode cX7_hunts 61 = .ok (.iinc 2 1, 3) := by decide +kernel
theorem dX7_hunts_64 : decode cX7_hunts 64 = .ok (.goto (-60), 3) := by decide +kernel
theorem dX7_hunts_67 : decode cX7_hunts 67 = .ok (.iload_n 1, 1) := by decide +kernel
theorem dX7_hunts_68 : decode cX7_hunts 68 = .ok (.ireturn, 1) := by decide +kernel
set_option maxRecDepth 20000 in
theorem ggX7_toldNow_X7_hunts : GoodIn wsX7_toldNow wsX7_hunts := goodIn_r _ [9, 1, 10, 11, 12, 8, 13, 2, 14, 15, 16, 17, 18, 19, 20, 21, 22, 3, 23, 24, 25, 26, 27, 28, 29, 30, 31, 32, 33, 34, 35, 36, 37, 38, 39, 40] (by decide +kernel) (by decide +kernel)
set_option maxRecDepth 20000 in
theorem gX7_toldNow_X7_hunts : GoodIn wsX7_toldNow (wsV RX7 81 RX7 yX7_hunts wsX7_hunts) := goodIn_app (goodIn_of _ (by decide +kernel)) ggX7_toldNow_X7_hunts
theorem dX7_toldNow_0 : decode cX7_toldNow 0 = .ok (.iload_n 1, 1) := by decide +kernel
theorem dX7_toldNow_1 : decode cX7_toldNow 1 = .ok (.tableswitch 59 0 4 #[35, 40, 45, 45, 54], 35) := by decide +kernel
theorem dX7_toldNow_36 : decode cX7_toldNow 36 = .ok (.aload_n 0, 1) := by decide +kernel
theorem dX7_toldNow_37 : decode cX7_toldNow 37 = .ok (.getfield 26, 3) := by decide +kernel
theorem dX7_toldNow_40 : decode cX7_toldNow 40 = .ok (.ireturn, 1) := by decide +kernel
theorem dX7_toldNow_41 : decode cX7_toldNow 41 = .ok (.aload_n 0, 1) := by decide +kernel
theorem dX7_toldNow_42 : decode cX7_toldNow 42 = .ok (.getfield 30, 3) := by decide +kernel
theorem dX7_toldNow_45 : decode cX7_toldNow 45 = .ok (.ireturn, 1) := by decide +kernel
theorem dX7_toldNow_46 : decode cX7_toldNow 46 = .ok (.aload_n 0, 1) := by decide +kernel
theorem dX7_toldNow_47 : decode cX7_toldNow 47 = .ok (.getfield 13, 3) := by decide +kernel
theorem dX7_toldNow_50 : decode cX7_toldNow 50 = .ok (.iload_n 1, 1) := by decide +kernel
theorem dX7_toldNow_51 : decode cX7_toldNow 51 = .ok (.iconst 1, 1) := by decide +kernel
theorem dX7_toldNow_52 : decode cX7_toldNow 52 = .ok (.isub, 1) := by decide +kernel
theorem dX7_toldNow_53 : decode cX7_toldNow 53 = .ok (.iaload, 1) := by decide +kernel
theorem dX7_toldNow_54 : decode cX7_toldNow 54 = .ok (.ireturn, 1) := by decide +kernel
theorem dX7_toldNow_55 : decode cX7_toldNow 55 = .ok (.aload_n 0, 1) := by decide +kernel
theorem dX7_toldNow_56 : decode cX7_toldNow 56 = .ok (.getfield 33, 3) := by decide +kernel
theorem dX7_toldNow_59 : decode cX7_toldNow 59 = .ok (.ireturn, 1) := by decide +kernel
theorem dX7_toldNow_60 : decode cX7_toldNow 60 = .ok (.aload_n 0, 1) := by decide +kernel
theorem dX7_toldNow_61 : decode cX7_toldNow 61 = .ok (.invokevirtual 81, 3) := by decide +kernel
theorem dX7_toldNow_64 : decode cX7_toldNow 64 = .ok (.ireturn, 1) := by decide +kernel
set_option maxRecDepth 20000 in
theorem ggX7_told_X7_isIn : GoodIn wsX7_told wsX7_isIn := goodIn_r _ [5] (by decide +kernel) (by decide +kernel)
set_option maxRecDepth 20000 in
theorem gX7_told_X7_isIn : GoodIn wsX7_told (va_wsS RX7 39 yX7_isIn wsX7_isIn) := goodIn_app (goodIn_of _ (by decide +kernel)) ggX7_told_X7_isIn
set_option maxRecDepth 20000 in
theorem ggX7_told_X7_toldNow : GoodIn wsX7_told wsX7_toldNow := goodIn_r _ [9, 10, 11, 12, 13, 14, 15, 16, 4, 17, 18, 19, 20, 21, 22, 23, 24, 25, 26, 27, 28, 29, 30, 31, 32, 33, 34, 35, 36, 37, 38, 43, 44, 45, 46, 47, 48, 49, 50, 51, 52] (by decide +kernel) (by decide +kernel)
set_option maxRecDepth 20000 in
theorem gX7_told_X7_toldNow : GoodIn wsX7_told (wsV RX7 84 RX7 yX7_toldNow wsX7_toldNow) := goodIn_app (goodIn_of _ (by decide +kernel)) ggX7_told_X7_toldNow
set_option maxRecDepth 20000 in
theorem ggX7_told_X7_no : GoodIn wsX7_told wsX7_no := goodIn_r _ [42, 1, 43, 44, 45, 46, 47, 48, 49, 50, 51, 52] (by decide +kernel) (by decide +kernel)
set_option maxRecDepth 20000 in
theorem gX7_told_X7_no : GoodIn wsX7_told (wsV RX7 66 RX7 yX7_no wsX7_no) := goodIn_app (goodIn_of _ (by decide +kernel)) ggX7_told_X7_no
theorem dX7_told_0 : decode cX7_told 0 = .ok (.aload_n 0, 1) := by decide +kernel
theorem dX7_told_1 : decode cX7_told 1 = .ok (.iconst 0, 1) := by decide +kernel
theorem dX7_told_2 : decode cX7_told 2 = .ok (.putfield 36, 3) := by decide +kernel
theorem dX7_told_5 : decode cX7_told 5 = .ok (.iload_n 1, 1) := by decide +kernel
theorem dX7_told_6 : decode cX7_told 6 = .ok (.iconst 0, 1) := by decide +kernel
theorem dX7_told_7 : decode cX7_told 7 = .ok (.iconst 5, 1) := by decide +kernel
theorem dX7_told_8 : decode cX7_told 8 = .ok (.invokestatic 39, 3) := by decide +kernel
theorem dX7_told_11 : decode cX7_told 11 = .ok (.ifCond .eq 11, 3) := by decide +kernel
theorem dX7_told_14 : decode cX7_told 14 = .ok (.aload_n 0, 1) := by decide +kernel
theorem dX7_told_15 : decode cX7_told 15 = .ok (.iload_n 1, 1) := by decide +kernel
theorem dX7_told_16 : decode cX7_told 16 = .ok (.invokevirtual 84, 3) := by decide +kernel
theorem dX7_told_19 : decode cX7_told 19 = .ok (.goto 8, 3) := by decide +kernel
theorem dX7_told_22 : decode cX7_told 22 = .ok (.aload_n 0, 1) := by decide +kernel
theorem dX7_told_23 : decode cX7_told 23 = .ok (.iconst 1, 1) := by decide +kernel
theorem dX7_told_24 : decode cX7_told 24 = .ok (.invokevirtual 66, 3) := by decide +kernel
theorem dX7_told_27 : decode cX7_told 27 = .ok (.ireturn, 1) := by decide +kernel
set_option maxRecDepth 20000 in
theorem ggX7_changeAt_X7_isIn : GoodIn wsX7_changeAt wsX7_isIn := goodIn_r _ [7] (by decide +kernel) (by decide +kernel)
set_option maxRecDepth 20000 in
theorem gX7_changeAt_X7_isIn : GoodIn wsX7_changeAt (va_wsS RX7 39 yX7_isIn wsX7_isIn) := goodIn_app (goodIn_of _ (by decide +kernel)) ggX7_changeAt_X7_isIn
set_option maxRecDepth 20000 in
theorem ggX7_changeAt_X7_no : GoodIn wsX7_changeAt wsX7_no := goodIn_r _ [11, 1, 12, 13, 14, 15, 16, 17, 18, 19, 20, 21] (by decide +kernel) (by decide +kernel)
set_option maxRecDepth 20000 in
theorem gX7_changeAt_X7_no : GoodIn wsX7_changeAt (wsV RX7 66 RX7 yX7_no wsX7_no) := goodIn_app (goodIn_of _ (by decide +kernel)) ggX7_changeAt_X7_no
theorem dX7_changeAt_0 : decode cX7_changeAt 0 = .ok (.aload_n 0, 1) := by decide +kernel
theorem dX7_changeAt_1 : decode cX7_changeAt 1 = .ok (.iconst 0, 1) := by decide +kernel
theorem dX7_changeAt_2 : decode cX7_changeAt 2 = .ok (.putfield 36, 3) := by decide +kernel
theorem dX7_changeAt_5 : decode cX7_changeAt 5 = .ok (.iload_n 1, 1) := by decide +kernel
theorem dX7_changeAt_6 : decode cX7_changeAt 6 = .ok (.iconst 0, 1) := by decide +kernel
theorem dX7_changeAt_7 : decode cX7_changeAt 7 = .ok (.aload_n 0, 1) := by decide +kernel
theorem dX7_changeAt_8 : decode cX7_changeAt 8 = .ok (.getfield 30, 3) := by decide +kernel
theorem dX7_changeAt_11 : decode cX7_changeAt 11 = .ok (.iconst 1, 1) := by decide +kernel
theorem dX7_changeAt_12 : decode cX7_changeAt 12 = .ok (.isub, 1) := by decide +kernel
theorem dX7_changeAt_13 : decode cX7_changeAt 13 = .ok (.invokestatic 39, 3) := by decide +kernel
theorem dX7_changeAt_16 : decode cX7_changeAt 16 = .ok (.ifCond .eq 12, 3) := by decide +kernel
theorem dX7_changeAt_19 : decode cX7_changeAt 19 = .ok (.aload_n 0, 1) := by decide +kernel
theorem dX7_changeAt_20 : decode cX7_changeAt 20 = .ok (.getfield 9, 3) := by decide +kernel
theorem dX7_changeAt_23 : decode cX7_changeAt 23 = .ok (.iload_n 1, 1) := by decide +kernel
theorem dX7_changeAt_24 : decode cX7_changeAt 24 = .ok (.iaload, 1) := by decide +kernel
theorem dX7_changeAt_25 : decode cX7_changeAt 25 = .ok (.goto 8, 3) := by decide +kernel
theorem dX7_changeAt_28 : decode cX7_changeAt 28 = .ok (.aload_n 0, 1) := by decide +kernel
theorem dX7_changeAt_29 : decode cX7_changeAt 29 = .ok (.iconst 1, 1) := by decide +kernel
theorem dX7_changeAt_30 : decode cX7_changeAt 30 = .ok (.invokevirtual 66, 3) := by decide +kernel
theorem dX7_changeAt_33 : decode cX7_changeAt 33 = .ok (.ireturn, 1) := by decide +kernel
set_option maxRecDepth 20000 in
theorem ggX7_next_X7_isRow : GoodIn wsX7_next wsX7_isRow := goodIn_r _ [6, 7, 8, 9, 5, 10, 11, 12, 13, 14, 15, 16, 39, 40, 41, 42, 43, 44, 45, 46, 47, 48] (by decide +kernel) (by decide +kernel)
set_option maxRecDepth 20000 in
theorem gX7_next_X7_isRow : GoodIn wsX7_next (wsV RX7 87 RX7 yX7_isRow wsX7_isRow) := goodIn_app (goodIn_of _ (by decide +kernel)) ggX7_next_X7_isRow
set_option maxRecDepth 20000 in
theorem ggX7_next_X7_isChangeNow : GoodIn wsX7_next wsX7_isChangeNow := goodIn_r _ [20, 11, 14, 15, 5, 16, 39, 40, 41, 42, 43, 44, 45, 46, 47, 48] (by decide +kernel) (by decide +kernel)
set_option maxRecDepth 20000 in
theorem gX7_next_X7_isChangeNow : GoodIn wsX7_next (wsV RX7 74 RX7 yX7_isChangeNow wsX7_isChangeNow) := goodIn_app (goodIn_of _ (by decide +kernel)) ggX7_next_X7_isChangeNow
set_option maxRecDepth 20000 in
theorem ggX7_next_X7_read : GoodIn wsX7_next wsX7_read := goodIn_r _ [10, 11, 12, 13, 14, 15, 5, 16, 39, 40, 41, 42, 43, 44, 45, 46, 47, 48] (by decide +kernel) (by decide +kernel)
set_option maxRecDepth 20000 in
theorem gX7_next_X7_read : GoodIn wsX7_next (wsV RX7 59 RX7 yX7_read wsX7_read) := goodIn_app (goodIn_of _ (by decide +kernel)) ggX7_next_X7_read
set_option maxRecDepth 20000 in
theorem ggX7_next_X7_order : GoodIn wsX7_next wsX7_order := goodIn_r _ [24, 11, 25, 26, 27, 5, 28, 12, 39, 40, 41, 42, 43, 44, 45, 46, 47, 48] (by decide +kernel) (by decide +kernel)
set_option maxRecDepth 20000 in
theorem gX7_next_X7_order : GoodIn wsX7_next (wsV RX7 47 RX7 yX7_order wsX7_order) := goodIn_app (goodIn_of _ (by decide +kernel)) ggX7_next_X7_order
set_option maxRecDepth 20000 in
theorem ggX7_next_X7_join : GoodIn wsX7_next wsX7_join := goodIn_r _ [31, 12] (by decide +kernel) (by decide +kernel)
set_option maxRecDepth 20000 in
theorem gX7_next_X7_join : GoodIn wsX7_next (va_wsS RX7 55 yX7_join wsX7_join) := goodIn_app (goodIn_of _ (by decide +kernel)) ggX7_next_X7_join
set_option maxRecDepth 20000 in
theorem ggX7_next_X7_number : GoodIn wsX7_next wsX7_number := goodIn_r _ [34] (by decide +kernel) (by decide +kernel)
set_option maxRecDepth 20000 in
theorem gX7_next_X7_number : GoodIn wsX7_next (va_wsS RX7 62 yX7_number wsX7_number) := goodIn_app (goodIn_of _ (by decide +kernel)) ggX7_next_X7_number
set_option maxRecDepth 20000 in
theorem ggX7_next_X7_no : GoodIn wsX7_next wsX7_no := goodIn_r _ [38, 1, 39, 40, 41, 42, 43, 44, 45, 46, 47, 48] (by decide +kernel) (by decide +kernel)
set_option maxRecDepth 20000 in
theorem gX7_next_X7_no : GoodIn wsX7_next (wsV RX7 66 RX7 yX7_no wsX7_no) := goodIn_app (goodIn_of _ (by decide +kernel)) ggX7_next_X7_no
theorem dX7_next_0 : decode cX7_next 0 = .ok (.aload_n 0, 1) := by decide +kernel
theorem dX7_next_1 : decode cX7_next 1 = .ok (.iconst 0, 1) := by decide +kernel
theorem dX7_next_2 : decode cX7_next 2 = .ok (.putfield 36, 3) := by decide +kernel
theorem dX7_next_5 : decode cX7_next 5 = .ok (.aload_n 0, 1) := by decide +kernel
theorem dX7_next_6 : decode cX7_next 6 = .ok (.iload_n 1, 1) := by decide +kernel
theorem dX7_next_7 : decode cX7_next 7 = .ok (.invokevirtual 87, 3) := by decide +kernel
theorem dX7_next_10 : decode cX7_next 10 = .ok (.ifCond .eq 30, 3) := by decide +kernel
theorem dX7_next_13 : decode cX7_next 13 = .ok (.aload_n 0, 1) := by decide +kernel
theorem dX7_next_14 : decode cX7_next 14 = .ok (.iload_n 2, 1) := by decide +kernel
theorem dX7_next_15 : decode cX7_next 15 = .ok (.invokevirtual 74, 3) := by decide +kernel
theorem dX7_next_18 : decode cX7_next 18 = .ok (.ifCond .eq 22, 3) := by decide +kernel
theorem dX7_next_21 : decode cX7_next 21 = .ok (.aload_n 0, 1) := by decide +kernel
theorem dX7_next_22 : decode cX7_next 22 = .ok (.iload_n 1, 1) := by decide +kernel
theorem dX7_next_23 : decode cX7_next 23 = .ok (.invokevirtual 59, 3) := by decide +kernel
theorem dX7_next_26 : decode cX7_next 26 = .ok (.aload_n 0, 1) := by decide +kernel
theorem dX7_next_27 : decode cX7_next 27 = .ok (.iload_n 2, 1) := by decide +kernel
theorem dX7_next_28 : decode cX7_next 28 = .ok (.invokevirtual 47, 3) := by decide +kernel
theorem dX7_next_31 : decode cX7_next 31 = .ok (.invokestatic 55, 3) := by decide +kernel
theorem dX7_next_34 : decode cX7_next 34 = .ok (.invokestatic 62, 3) := by decide +kernel
theorem dX7_next_37 : decode cX7_next 37 = .ok (.goto 8, 3) := by decide +kernel
theorem dX7_next_40 : decode cX7_next 40 = .ok (.aload_n 0, 1) := by decide +kernel
theorem dX7_next_41 : decode cX7_next 41 = .ok (.iconst 1, 1) := by decide +kernel
theorem dX7_next_42 : decode cX7_next 42 = .ok (.invokevirtual 66, 3) := by decide +kernel
theorem dX7_next_45 : decode cX7_next 45 = .ok (.ireturn, 1) := by decide +kernel
set_option maxRecDepth 20000 in
theorem ggX7_lead_X7_isRow : GoodIn wsX7_lead wsX7_isRow := goodIn_r _ [6, 7, 8, 9, 5, 10, 11, 12, 13, 14, 15, 16, 46, 47, 48, 49, 50, 51, 52, 53, 54, 55] (by decide +kernel) (by decide +kernel)
set_option maxRecDepth 20000 in
theorem gX7_lead_X7_isRow : GoodIn wsX7_lead (wsV RX7 87 RX7 yX7_isRow wsX7_isRow) := goodIn_app (goodIn_of _ (by decide +kernel)) ggX7_lead_X7_isRow
set_option maxRecDepth 20000 in
theorem ggX7_lead_X7_isIn : GoodIn wsX7_lead wsX7_isIn := goodIn_r _ [16] (by decide +kernel) (by decide +kernel)
set_option maxRecDepth 20000 in
theorem gX7_lead_X7_isIn : GoodIn wsX7_lead (va_wsS RX7 39 yX7_isIn wsX7_isIn) := goodIn_app (goodIn_of _ (by decide +kernel)) ggX7_lead_X7_isIn
set_option maxRecDepth 20000 in
theorem ggX7_lead_X7_read : GoodIn wsX7_lead wsX7_read := goodIn_r _ [10, 11, 12, 13, 14, 15, 5, 16, 46, 47, 48, 49, 50, 51, 52, 53, 54, 55] (by decide +kernel) (by decide +kernel)
set_option maxRecDepth 20000 in
theorem gX7_lead_X7_read : GoodIn wsX7_lead (wsV RX7 59 RX7 yX7_read wsX7_read) := goodIn_app (goodIn_of _ (by decide +kernel)) ggX7_lead_X7_read
set_option maxRecDepth 20000 in
theorem ggX7_lead_X7_leadOrder : GoodIn wsX7_lead wsX7_leadOrder := goodIn_r _ [20, 21, 22, 23, 24, 5, 25, 11, 12, 26, 27, 28, 29, 30, 31, 32, 33, 34, 35, 36, 37, 38, 46, 47, 48, 49, 50, 51, 52, 53, 54, 55] (by decide +kernel) (by decide +kernel)
set_option maxRecDepth 20000 in
theorem gX7_lead_X7_leadOrder : GoodIn wsX7_lead (wsV RX7 78 RX7 yX7_leadOrder wsX7_leadOrder) := goodIn_app (goodIn_of _ (by decide +kernel)) ggX7_lead_X7_leadOrder
set_option maxRecDepth 20000 in
theorem ggX7_lead_X7_join : GoodIn wsX7_lead wsX7_join := goodIn_r _ [38, 12] (by decide +kernel) (by decide +kernel)
set_option maxRecDepth 20000 in
theorem gX7_lead_X7_join : GoodIn wsX7_lead (va_wsS RX7 55 yX7_join wsX7_join) := goodIn_app (goodIn_of _ (by decide +kernel)) ggX7_lead_X7_join
set_option maxRecDepth 20000 in
theorem ggX7_lead_X7_number : GoodIn wsX7_lead wsX7_number := goodIn_r _ [41] (by decide +kernel) (by decide +kernel)
set_option maxRecDepth 20000 in
theorem gX7_lead_X7_number : GoodIn wsX7_lead (va_wsS RX7 62 yX7_number wsX7_number) := goodIn_app (goodIn_of _ (by decide +kernel)) ggX7_lead_X7_number
set_option maxRecDepth 20000 in
theorem ggX7_lead_X7_no : GoodIn wsX7_lead wsX7_no := goodIn_r _ [45, 1, 46, 47, 48, 49, 50, 51, 52, 53, 54, 55] (by decide +kernel) (by decide +kernel)
set_option maxRecDepth 20000 in
theorem gX7_lead_X7_no : GoodIn wsX7_lead (wsV RX7 66 RX7 yX7_no wsX7_no) := goodIn_app (goodIn_of _ (by decide +kernel)) ggX7_lead_X7_no
theorem dX7_lead_0 : decode cX7_lead 0 = .ok (.aload_n 0, 1) := by decide +kernel
theorem dX7_lead_1 : decode cX7_lead 1 = .ok (.iconst 0, 1) := by decide +kernel
theorem dX7_lead_2 : decode cX7_lead 2 = .ok (.putfield 36, 3) := by decide +kernel
theorem dX7_lead_5 : decode cX7_lead 5 = .ok (.aload_n 0, 1) := by decide +kernel
theorem dX7_lead_6 : decode cX7_lead 6 = .ok (.iload_n 1, 1) := by decide +kernel
theorem dX7_lead_7 : decode cX7_lead 7 = .ok (.invokevirtual 87, 3) := by decide +kernel
theorem dX7_lead_10 : decode cX7_lead 10 = .ok (.ifCond .eq 31, 3) := by decide +kernel
theorem dX7_lead_13 : decode cX7_lead 13 = .ok (.iload_n 2, 1) := by decide +kernel
theorem dX7_lead_14 : decode cX7_lead 14 = .ok (.iconst 0, 1) := by decide +kernel
theorem dX7_lead_15 : decode cX7_lead 15 = .ok (.iconst 2, 1) := by decide +kernel
theorem dX7_lead_16 : decode cX7_lead 16 = .ok (.invokestatic 39, 3) := by decide +kernel
theorem dX7_lead_19 : decode cX7_lead 19 = .ok (.ifCond .eq 22, 3) := by decide +kernel
theorem dX7_lead_22 : decode cX7_lead 22 = .ok (.aload_n 0, 1) := by decide +kernel
theorem dX7_lead_23 : decode cX7_lead 23 = .ok (.iload_n 1, 1) := by decide +kernel
theorem dX7_lead_24 : decode cX7_lead 24 = .ok (.invokevirtual 59, 3) := by decide +kernel
theorem dX7_lead_27 : decode cX7_lead 27 = .ok (.aload_n 0, 1) := by decide +kernel
theorem dX7_lead_28 : decode cX7_lead 28 = .ok (.iload_n 2, 1) := by decide +kernel
theorem dX7_lead_29 : decode cX7_lead 29 = .ok (.invokevirtual 78, 3) := by decide +kernel
theorem dX7_lead_32 : decode cX7_lead 32 = .ok (.invokestatic 55, 3) := by decide +kernel
theorem dX7_lead_35 : decode cX7_lead 35 = .ok (.invokestatic 62, 3) := by decide +kernel
theorem dX7_lead_38 : decode cX7_lead 38 = .ok (.goto 8, 3) := by decide +kernel
theorem dX7_lead_41 : decode cX7_lead 41 = .ok (.aload_n 0, 1) := by decide +kernel
theorem dX7_lead_42 : decode cX7_lead 42 = .ok (.iconst 1, 1) := by decide +kernel
theorem dX7_lead_43 : decode cX7_lead 43 = .ok (.invokevirtual 66, 3) := by decide +kernel
theorem dX7_lead_46 : decode cX7_lead 46 = .ok (.ireturn, 1) := by decide +kernel
theorem dX7_crossedNow_0 : decode cX7_crossedNow 0 = .ok (.iconst 0, 1) := by decide +kernel
theorem dX7_crossedNow_1 : decode cX7_crossedNow 1 = .ok (.istore_n 1, 1) := by decide +kernel
theorem dX7_crossedNow_2 : decode cX7_crossedNow 2 = .ok (.iconst 0, 1) := by decide +kernel
theorem dX7_crossedNow_3 : decode cX7_crossedNow 3 = .ok (.istore_n 2, 1) := by decide +kernel
theorem dX7_crossedNow_4 : decode cX7_crossedNow 4 = .ok (.iload_n 2, 1) := by decide +kernel
theorem dX7_crossedNow_5 : decode cX7_crossedNow 5 = .ok (.aload_n 0, 1) := by decide +kernel
theorem dX7_crossedNow_6 : decode cX7_crossedNow 6 = .ok (.arraylength, 1) := by decide +kernel
theorem dX7_crossedNow_7 : decode cX7_crossedNow 7 = .ok (.if_icmp .ge 39, 3) := by decide +kernel
theorem dX7_crossedNow_10 : decode cX7_crossedNow 10 = .ok (.iconst 0, 1) := by decide +kernel
theorem dX7_crossedNow_11 : decode cX7_crossedNow 11 = .ok (.istore_n 3, 1) := by decide +kernel
theorem dX7_crossedNow_12 : decode cX7_crossedNow 12 = .ok (.iload_n 3, 1) := by decide +kernel
theorem dX7_crossedNow_13 : decode cX7_crossedNow 13 = .ok (.iload_n 2, 1) := by decide +kernel
theorem dX7_crossedNow_14 : decode cX7_crossedNow 14 = .ok (.if_icmp .ge 26, 3) := by decide +kernel
theorem dX7_crossedNow_17 : decode cX7_crossedNow 17 = .ok (.iload_n 1, 1) := by decide +kernel
theorem dX7_crossedNow_18 : decode cX7_crossedNow 18 = .ok (.aload_n 0, 1) := by decide +kernel
theorem dX7_crossedNow_19 : decode cX7_crossedNow 19 = .ok (.iload_n 3, 1) := by decide +kernel
theorem dX7_crossedNow_20 : decode cX7_crossedNow 20 = .ok (.iaload, 1) := by decide +kernel
theorem dX7_crossedNow_21 : decode cX7_crossedNow 21 = .ok (.aload_n 0, 1) := by decide +kernel
theorem dX7_crossedNow_22 : decode cX7_crossedNow 22 = .ok (.iload_n 2, 1) := by decide +kernel
theorem dX7_crossedNow_23 : decode cX7_crossedNow 23 = .ok (.iaload, 1) := by decide +kernel
theorem dX7_crossedNow_24 : decode cX7_crossedNow 24 = .ok (.if_icmp .le 7, 3) := by decide +kernel
theorem dX7_crossedNow_27 : decode cX7_crossedNow 27 = .ok (.iconst 1, 1) := by decide +kernel
theorem dX7_crossedNow_28 : decode cX7_crossedNow 28 = .ok (.goto 4, 3) := by decide +kernel
theorem dX7_crossedNow_31 : decode cX7_crossedNow 31 = .ok (.iconst 0, 1) := by decide +kernel
theorem dX7_crossedNow_32 : decode cX7_crossedNow 32 = .ok (.iadd, 1) := by decide +kernel
theorem dX7_crossedNow_33 : decode cX7_crossedNow 33 = .ok (.istore_n 1, 1) := by decide +kernel
theorem dX7_crossedNow_34 : decode cX7_crossedNow 34 = .ok (.iinc 3 1, 3) := by decide +kernel
theorem dX7_crossedNow_37 : decode cX7_crossedNow 37 = .ok (.goto (-25), 3) := by decide +kernel
theorem dX7_crossedNow_40 : decode cX7_crossedNow 40 = .ok (.iinc 2 1, 3) := by decide +kernel
theorem dX7_crossedNow_43 : decode cX7_crossedNow 43 = .ok (.goto (-39), 3) := by decide +kernel
theorem dX7_crossedNow_46 : decode cX7_crossedNow 46 = .ok (.iload_n 1, 1) := by decide +kernel
theorem dX7_crossedNow_47 : decode cX7_crossedNow 47 = .ok (.ireturn, 1) := by decide +kernel
set_option maxRecDepth 20000 in
theorem ggX7_crossed_X7_isRow : GoodIn wsX7_crossed wsX7_isRow := goodIn_r _ [6, 7, 8, 9, 5, 10, 11, 12, 13, 14, 15, 16, 24, 25, 26, 27, 28, 29, 30, 31, 32, 33] (by decide +kernel) (by decide +kernel)
set_option maxRecDepth 20000 in
theorem gX7_crossed_X7_isRow : GoodIn wsX7_crossed (wsV RX7 87 RX7 yX7_isRow wsX7_isRow) := goodIn_app (goodIn_of _ (by decide +kernel)) ggX7_crossed_X7_isRow
set_option maxRecDepth 20000 in
theorem ggX7_crossed_X7_read : GoodIn wsX7_crossed wsX7_read := goodIn_r _ [10, 11, 12, 13, 14, 15, 5, 16, 24, 25, 26, 27, 28, 29, 30, 31, 32, 33] (by decide +kernel) (by decide +kernel)
set_option maxRecDepth 20000 in
theorem gX7_crossed_X7_read : GoodIn wsX7_crossed (wsV RX7 59 RX7 yX7_read wsX7_read) := goodIn_app (goodIn_of _ (by decide +kernel)) ggX7_crossed_X7_read
set_option maxRecDepth 20000 in
theorem ggX7_crossed_X7_crossedNow : GoodIn wsX7_crossed wsX7_crossedNow := goodIn_r _ [19] (by decide +kernel) (by decide +kernel)
set_option maxRecDepth 20000 in
theorem gX7_crossed_X7_crossedNow : GoodIn wsX7_crossed (va_wsS RX7 90 yX7_crossedNow wsX7_crossedNow) := goodIn_app (goodIn_of _ (by decide +kernel)) ggX7_crossed_X7_crossedNow
set_option maxRecDepth 20000 in
theorem ggX7_crossed_X7_no : GoodIn wsX7_crossed wsX7_no := goodIn_r _ [23, 1, 24, 25, 26, 27, 28, 29, 30, 31, 32, 33] (by decide +kernel) (by decide +kernel)
set_option maxRecDepth 20000 in
theorem gX7_crossed_X7_no : GoodIn wsX7_crossed (wsV RX7 66 RX7 yX7_no wsX7_no) := goodIn_app (goodIn_of _ (by decide +kernel)) ggX7_crossed_X7_no
theorem dX7_crossed_0 : decode cX7_crossed 0 = .ok (.aload_n 0, 1) := by decide +kernel
theorem dX7_crossed_1 : decode cX7_crossed 1 = .ok (.iconst 0, 1) := by decide +kernel
theorem dX7_crossed_2 : decode cX7_crossed 2 = .ok (.putfield 36, 3) := by decide +kernel
theorem dX7_crossed_5 : decode cX7_crossed 5 = .ok (.aload_n 0, 1) := by decide +kernel
theorem dX7_crossed_6 : decode cX7_crossed 6 = .ok (.iload_n 1, 1) := by decide +kernel
theorem dX7_crossed_7 : decode cX7_crossed 7 = .ok (.invokevirtual 87, 3) := by decide +kernel
theorem dX7_crossed_10 : decode cX7_crossed 10 = .ok (.ifCond .eq 14, 3) := by decide +kernel
theorem dX7_crossed_13 : decode cX7_crossed 13 = .ok (.aload_n 0, 1) := by decide +kernel
theorem dX7_crossed_14 : decode cX7_crossed 14 = .ok (.iload_n 1, 1) := by decide +kernel
theorem dX7_crossed_15 : decode cX7_crossed 15 = .ok (.invokevirtual 59, 3) := by decide +kernel
theorem dX7_crossed_18 : decode cX7_crossed 18 = .ok (.invokestatic 90, 3) := by decide +kernel
theorem dX7_crossed_21 : decode cX7_crossed 21 = .ok (.goto 8, 3) := by decide +kernel
theorem dX7_crossed_24 : decode cX7_crossed 24 = .ok (.aload_n 0, 1) := by decide +kernel
theorem dX7_crossed_25 : decode cX7_crossed 25 = .ok (.iconst 1, 1) := by decide +kernel
theorem dX7_crossed_26 : decode cX7_crossed 26 = .ok (.invokevirtual 66, 3) := by decide +kernel
theorem dX7_crossed_29 : decode cX7_crossed 29 = .ok (.ireturn, 1) := by decide +kernel
set_option maxRecDepth 20000 in
theorem ggX7_rows_X7_same : GoodIn wsX7_rows wsX7_same := goodIn_r _ [10, 5, 2, 17, 18, 19, 20, 21, 22, 23, 24, 25, 26] (by decide +kernel) (by decide +kernel)
set_option maxRecDepth 20000 in
theorem gX7_rows_X7_same : GoodIn wsX7_rows (wsV RX7 43 RX7 yX7_same wsX7_same) := goodIn_app (goodIn_of _ (by decide +kernel)) ggX7_rows_X7_same
set_option maxRecDepth 20000 in
theorem ggX7_rows_X7_join : GoodIn wsX7_rows wsX7_join := goodIn_r _ [13, 2] (by decide +kernel) (by decide +kernel)
set_option maxRecDepth 20000 in
theorem gX7_rows_X7_join : GoodIn wsX7_rows (va_wsS RX7 55 yX7_join wsX7_join) := goodIn_app (goodIn_of _ (by decide +kernel)) ggX7_rows_X7_join
set_option maxRecDepth 20000 in
theorem ggX7_rows_X7_number : GoodIn wsX7_rows wsX7_number := goodIn_r _ [16] (by decide +kernel) (by decide +kernel)
set_option maxRecDepth 20000 in
theorem gX7_rows_X7_number : GoodIn wsX7_rows (va_wsS RX7 62 yX7_number wsX7_number) := goodIn_app (goodIn_of _ (by decide +kernel)) ggX7_rows_X7_number
theorem dX7_rows_0 : decode cX7_rows 0 = .ok (.iload_n 3, 1) := by decide +kernel
theorem dX7_rows_1 : decode cX7_rows 1 = .ok (.aload_n 0, 1) := by decide +kernel
theorem dX7_rows_2 : decode cX7_rows 2 = .ok (.getfield 30, 3) := by decide +kernel
theorem dX7_rows_5 : decode cX7_rows 5 = .ok (.imul, 1) := by decide +kernel
theorem dX7_rows_6 : decode cX7_rows 6 = .ok (.newarray .int, 2) := by decide +kernel
theorem dX7_rows_8 : decode cX7_rows 8 = .ok (.astore 4, 2) := by decide +kernel
theorem dX7_rows_10 : decode cX7_rows 10 = .ok (.aload_n 1, 1) := by decide +kernel
theorem dX7_rows_11 : decode cX7_rows 11 = .ok (.aload_n 0, 1) := by decide +kernel
theorem dX7_rows_12 : decode cX7_rows 12 = .ok (.invokevirtual 43, 3) := by decide +kernel
theorem dX7_rows_15 : decode cX7_rows 15 = .ok (.invokestatic 55, 3) := by decide +kernel
theorem dX7_rows_18 : decode cX7_rows 18 = .ok (.astore 5, 2) := by decide +kernel
theorem dX7_rows_20 : decode cX7_rows 20 = .ok (.iconst 0, 1) := by decide +kernel
theorem dX7_rows_21 : decode cX7_rows 21 = .ok (.istore 6, 2) := by decide +kernel
theorem dX7_rows_23 : decode cX7_rows 23 = .ok (.iload 6, 2) := by decide +kernel
theorem dX7_rows_25 : decode cX7_rows 25 = .ok (.aload 4, 2) := by decide +kernel
theorem dX7_rows_27 : decode cX7_rows 27 = .ok (.arraylength, 1) := by decide +kernel
theorem dX7_rows_28 : decode cX7_rows 28 = .ok (.if_icmp .ge 138, 3) := by decide +kernel
theorem dX7_rows_31 : decode cX7_rows 31 = .ok (.aload_n 2, 1) := by decide +kernel
theorem dX7_rows_32 : decode cX7_rows 32 = .ok (.iload 6, 2) := by decide +kernel
theorem dX7_rows_34 : decode cX7_rows 34 = .ok (.aload_n 0, 1) := by decide +kernel
theorem dX7_rows_35 : decode cX7_rows 35 = .ok (.getfield 30, 3) := by decide +kernel
theorem dX7_rows_38 : decode cX7_rows 38 = .ok (.idiv, 1) := by decide +kernel
theorem dX7_rows_39 : decode cX7_rows 39 = .ok (.iaload, 1) := by decide +kernel
theorem dX7_rows_40 : decode cX7_rows 40 = .ok (.istore 7, 2) := by decide +kernel
theorem dX7_rows_42 : decode cX7_rows 42 = .ok (.iload 6, 2) := by decide +kernel
theorem dX7_rows_44 : decode cX7_rows 44 = .ok (.aload_n 0, 1) := by decide +kernel
theorem dX7_rows_45 : decode cX7_rows 45 = .ok (.getfield 30, 3) := by decide +kernel
theorem dX7_rows_48 : decode cX7_rows 48 = .ok (.irem, 1) := by decide +kernel
theorem dX7_rows_49 : decode cX7_rows 49 = .ok (.aload_n 0, 1) := by decide +kernel
theorem dX7_rows_50 : decode cX7_rows 50 = .ok (.getfield 30, 3) := by decide +kernel
theorem dX7_rows_53 : decode cX7_rows 53 = .ok (.iconst 1, 1) := by decide +kernel
theorem dX7_rows_54 : decode cX7_rows 54 = .ok (.isub, 1) := by decide +kernel
theorem dX7_rows_55 : decode cX7_rows 55 = .ok (.if_icmp .ne 18, 3) := by decide +kernel
theorem dX7_rows_58 : decode cX7_rows 58 = .ok (.iload 7, 2) := by decide +kernel
theorem dX7_rows_60 : decode cX7_rows 60 = .ok (.ifCond .le 13, 3) := by decide +kernel
theorem dX7_rows_63 : decode cX7_rows 63 = .ok (.aload_n 0, 1) := by decide +kernel
theorem dX7_rows_64 : decode cX7_rows 64 = .ok (.getfield 13, 3) := by decide +kernel
theorem dX7_rows_67 : decode cX7_rows 67 = .ok (.iload 7, 2) := by decide +kernel
theorem dX7_rows_69 : decode cX7_rows 69 = .ok (.iaload, 1) := by decide +kernel
theorem dX7_rows_70 : decode cX7_rows 70 = .ok (.goto 15, 3) := by decide +kernel
theorem dX7_rows_73 : decode cX7_rows 73 = .ok (.aload_n 0, 1) := by decide +kernel
theorem dX7_rows_74 : decode cX7_rows 74 = .ok (.getfield 9, 3) := by decide +kernel
theorem dX7_rows_77 : decode cX7_rows 77 = .ok (.iload 6, 2) := by decide +kernel
theorem dX7_rows_79 : decode cX7_rows 79 = .ok (.aload_n 0, 1) := by decide +kernel
theorem dX7_rows_80 : decode cX7_rows 80 = .ok (.getfield 30, 3) := by decide +kernel
theorem dX7_rows_83 : decode cX7_rows 83 = .ok (.irem, 1) := by decide +kernel
theorem dX7_rows_84 : decode cX7_rows 84 = .ok (.iaload, 1) := by decide +kernel
theorem dX7_rows_85 : decode cX7_rows 85 = .ok (.istore 8, 2) := by decide +kernel
theorem dX7_rows_87 : decode cX7_rows 87 = .ok (.iconst 0, 1) := by decide +kernel
theorem dX7_rows_88 : decode cX7_rows 88 = .ok (.istore 9, 2) := by decide +kernel
theorem dX7_rows_90 : decode cX7_rows 90 = .ok (.iload 9, 2) := by decide +kernel
theorem dX7_rows_92 : decode cX7_rows 92 = .ok (.iconst 1, 1) := by decide +kernel
theorem dX7_rows_93 : decode cX7_rows 93 = .ok (.iadd, 1) := by decide +kernel
theorem dX7_rows_94 : decode cX7_rows 94 = .ok (.aload_n 0, 1) := by decide +kernel
theorem dX7_rows_95 : decode cX7_rows 95 = .ok (.getfield 26, 3) := by decide +kernel
theorem dX7_rows_98 : decode cX7_rows 98 = .ok (.if_icmp .ge 52, 3) := by decide +kernel
theorem dX7_rows_101 : decode cX7_rows 101 = .ok (.iload 8, 2) := by decide +kernel
theorem dX7_rows_103 : decode cX7_rows 103 = .ok (.iload 9, 2) := by decide +kernel
theorem dX7_rows_105 : decode cX7_rows 105 = .ok (.ishr, 1) := by decide +kernel
theorem dX7_rows_106 : decode cX7_rows 106 = .ok (.iconst 1, 1) := by decide +kernel
theorem dX7_rows_107 : decode cX7_rows 107 = .ok (.iand, 1) := by decide +kernel
theorem dX7_rows_108 : decode cX7_rows 108 = .ok (.iconst 1, 1) := by decide +kernel
theorem dX7_rows_109 : decode cX7_rows 109 = .ok (.if_icmp .ne 6, 3) := by decide +kernel
theorem dX7_rows_112 : decode cX7_rows 112 = .ok (.goto 32, 3) := by decide +kernel
theorem dX7_rows_115 : decode cX7_rows 115 = .ok (.aload 5, 2) := by decide +kernel
theorem dX7_rows_117 : decode cX7_rows 117 = .ok (.iload 9, 2) := by decide +kernel
theorem dX7_rows_119 : decode cX7_rows 119 = .ok (.iaload, 1) := by decide +kernel
theorem dX7_rows_120 : decode cX7_rows 120 = .ok (.istore 10, 2) := by decide +kernel
theorem dX7_rows_122 : decode cX7_rows 122 = .ok (.aload 5, 2) := by decide +kernel
theorem dX7_rows_124 : decode cX7_rows 124 = .ok (.iload 9, 2) := by decide +kernel
theorem dX7_rows_126 : decode cX7_rows 126 = .ok (.aload 5, 2) := by decide +kernel
theorem dX7_rows_128 : decode cX7_rows 128 = .ok (.iload 9, 2) := by decide +kernel
theorem dX7_rows_130 : decode cX7_rows 130 = .ok (.iconst 1, 1) := by decide +kernel
theorem dX7_rows_131 : decode cX7_rows 131 = .ok (.iadd, 1) := by decide +kernel
theorem dX7_rows_132 : decode cX7_rows 132 = .ok (.iaload, 1) := by decide +kernel
theorem dX7_rows_133 : decode cX7_rows 133 = .ok (.iastore, 1) := by decide +kernel
theorem dX7_rows_134 : decode cX7_rows 134 = .ok (.aload 5, 2) := by decide +kernel
theorem dX7_rows_136 : decode cX7_rows 136 = .ok (.iinc 9 1, 3) := by decide +kernel
theorem dX7_rows_139 : decode cX7_rows 139 = .ok (.iload 9, 2) := by decide +kernel
theorem dX7_rows_141 : decode cX7_rows 141 = .ok (.iload 10, 2) := by decide +kernel
theorem dX7_rows_143 : decode cX7_rows 143 = .ok (.iastore, 1) := by decide +kernel
theorem dX7_rows_144 : decode cX7_rows 144 = .ok (.iinc 9 1, 3) := by decide +kernel
theorem dX7_rows_147 : decode cX7_rows 147 = .ok (.goto (-57), 3) := by decide +kernel
theorem dX7_rows_150 : decode cX7_rows 150 = .ok (.aload 4, 2) := by decide +kernel
theorem dX7_rows_152 : decode cX7_rows 152 = .ok (.iload 6, 2) := by decide +kernel
theorem dX7_rows_154 : decode cX7_rows 154 = .ok (.aload 5, 2) := by decide +kernel
theorem dX7_rows_156 : decode cX7_rows 156 = .ok (.invokestatic 62, 3) := by decide +kernel
theorem dX7_rows_159 : decode cX7_rows 159 = .ok (.iastore, 1) := by decide +kernel
theorem dX7_rows_160 : decode cX7_rows 160 = .ok (.iinc 6 1, 3) := by decide +kernel
theorem dX7_rows_163 : decode cX7_rows 163 = .ok (.goto (-140), 3) := by decide +kernel
theorem dX7_rows_166 : decode cX7_rows 166 = .ok (.aload 4, 2) := by decide +kernel
theorem dX7_rows_168 : decode cX7_rows 168 = .ok (.areturn, 1) := by decide +kernel
set_option maxRecDepth 20000 in
theorem ggX7_rows__X7_same : GoodIn wsX7_rows_ wsX7_same := goodIn_r _ [7, 8, 9, 23, 24, 25, 26, 27, 28, 29, 30, 31, 32] (by decide +kernel) (by decide +kernel)
set_option maxRecDepth 20000 in
theorem gX7_rows__X7_same : GoodIn wsX7_rows_ (wsV RX7 43 RX7 yX7_same wsX7_same) := goodIn_app (goodIn_of _ (by decide +kernel)) ggX7_rows__X7_same
set_option maxRecDepth 20000 in
theorem ggX7_rows__X7_rows : GoodIn wsX7_rows_ wsX7_rows := goodIn_r _ [13, 14, 9, 15, 16, 8, 3, 4, 5, 6, 7, 17, 18, 19, 20, 21, 22, 23, 24, 25, 26, 27, 28, 29, 30, 31, 32] (by decide +kernel) (by decide +kernel)
set_option maxRecDepth 20000 in
theorem gX7_rows__X7_rows : GoodIn wsX7_rows_ (wsV RX7 93 RX7 yX7_rows wsX7_rows) := goodIn_app (goodIn_of _ (by decide +kernel)) ggX7_rows__X7_rows
theorem dX7_rows__0 : decode cX7_rows_ 0 = .ok (.aload_n 0, 1) := by decide +kernel
theorem dX7_rows__1 : decode cX7_rows_ 1 = .ok (.aload_n 0, 1) := by decide +kernel
theorem dX7_rows__2 : decode cX7_rows_ 2 = .ok (.invokevirtual 43, 3) := by decide +kernel
theorem dX7_rows__5 : decode cX7_rows_ 5 = .ok (.aload_n 0, 1) := by decide +kernel
theorem dX7_rows__6 : decode cX7_rows_ 6 = .ok (.getfield 16, 3) := by decide +kernel
theorem dX7_rows__9 : decode cX7_rows_ 9 = .ok (.aload_n 0, 1) := by decide +kernel
theorem dX7_rows__10 : decode cX7_rows_ 10 = .ok (.getfield 33, 3) := by decide +kernel
theorem dX7_rows__13 : decode cX7_rows_ 13 = .ok (.invokevirtual 93, 3) := by decide +kernel
theorem dX7_rows__16 : decode cX7_rows_ 16 = .ok (.areturn, 1) := by decide +kernel
set_option maxRecDepth 20000 in
theorem ggX7_order__X7_same : GoodIn wsX7_order_ wsX7_same := goodIn_r _ [5, 6, 7, 26, 27, 28, 29, 30, 31, 32, 33, 34, 35] (by decide +kernel) (by decide +kernel)
set_option maxRecDepth 20000 in
theorem gX7_order__X7_same : GoodIn wsX7_order_ (wsV RX7 43 RX7 yX7_same wsX7_same) := goodIn_app (goodIn_of _ (by decide +kernel)) ggX7_order__X7_same
set_option maxRecDepth 20000 in
theorem ggX7_order__X7_leadOrder : GoodIn wsX7_order_ wsX7_leadOrder := goodIn_r _ [11, 12, 1, 2, 3, 4, 5, 6, 7, 13, 14, 15, 16, 17, 18, 19, 20, 21, 22, 23, 24, 25, 26, 27, 28, 29, 30, 31, 32, 33, 34, 35] (by decide +kernel) (by decide +kernel)
set_option maxRecDepth 20000 in
theorem gX7_order__X7_leadOrder : GoodIn wsX7_order_ (wsV RX7 78 RX7 yX7_leadOrder wsX7_leadOrder) := goodIn_app (goodIn_of _ (by decide +kernel)) ggX7_order__X7_leadOrder
set_option maxRecDepth 20000 in
theorem ggX7_order__X7_join : GoodIn wsX7_order_ wsX7_join := goodIn_r _ [25, 7] (by decide +kernel) (by decide +kernel)
set_option maxRecDepth 20000 in
theorem gX7_order__X7_join : GoodIn wsX7_order_ (va_wsS RX7 55 yX7_join wsX7_join) := goodIn_app (goodIn_of _ (by decide +kernel)) ggX7_order__X7_join
theorem dX7_order__0 : decode cX7_order_ 0 = .ok (.aload_n 0, 1) := by decide +kernel
theorem dX7_order__1 : decode cX7_order_ 1 = .ok (.invokevirtual 43, 3) := by decide +kernel
theorem dX7_order__4 : decode cX7_order_ 4 = .ok (.astore_n 3, 1) := by decide +kernel
theorem dX7_order__5 : decode cX7_order_ 5 = .ok (.iconst 0, 1) := by decide +kernel
theorem dX7_order__6 : decode cX7_order_ 6 = .ok (.istore 4, 2) := by decide +kernel
theorem dX7_order__8 : decode cX7_order_ 8 = .ok (.iload 4, 2) := by decide +kernel
theorem dX7_order__10 : decode cX7_order_ 10 = .ok (.iload_n 2, 1) := by decide +kernel
theorem dX7_order__11 : decode cX7_order_ 11 = .ok (.if_icmp .ge 22, 3) := by decide +kernel
theorem dX7_order__14 : decode cX7_order_ 14 = .ok (.aload_n 3, 1) := by decide +kernel
theorem dX7_order__15 : decode cX7_order_ 15 = .ok (.aload_n 0, 1) := by decide +kernel
theorem dX7_order__16 : decode cX7_order_ 16 = .ok (.aload_n 1, 1) := by decide +kernel
theorem dX7_order__17 : decode cX7_order_ 17 = .ok (.iload 4, 2) := by decide +kernel
theorem dX7_order__19 : decode cX7_order_ 19 = .ok (.iaload, 1) := by decide +kernel
theorem dX7_order__20 : decode cX7_order_ 20 = .ok (.invokevirtual 78, 3) := by decide +kernel
theorem dX7_order__23 : decode cX7_order_ 23 = .ok (.invokestatic 55, 3) := by decide +kernel
theorem dX7_order__26 : decode cX7_order_ 26 = .ok (.astore_n 3, 1) := by decide +kernel
theorem dX7_order__27 : decode cX7_order_ 27 = .ok (.iinc 4 1, 3) := by decide +kernel
theorem dX7_order__30 : decode cX7_order_ 30 = .ok (.goto (-22), 3) := by decide +kernel
theorem dX7_order__33 : decode cX7_order_ 33 = .ok (.aload_n 3, 1) := by decide +kernel
theorem dX7_order__34 : decode cX7_order_ 34 = .ok (.areturn, 1) := by decide +kernel
set_option maxRecDepth 20000 in
theorem ggX7_order___X7_order_ : GoodIn wsX7_order__ wsX7_order_ := goodIn_r _ [7, 8, 9, 10, 6, 11, 12, 13, 14, 15, 16, 17, 18, 19, 20, 21, 22, 23, 24, 25, 26, 27, 28, 29, 30, 31, 32, 33, 34, 35, 36, 37, 38, 39, 40, 41] (by decide +kernel) (by decide +kernel)
set_option maxRecDepth 20000 in
theorem gX7_order___X7_order_ : GoodIn wsX7_order__ (wsV RX7 97 RX7 yX7_order_ wsX7_order_) := goodIn_app (goodIn_of _ (by decide +kernel)) ggX7_order___X7_order_
theorem dX7_order___0 : decode cX7_order__ 0 = .ok (.aload_n 0, 1) := by decide +kernel
theorem dX7_order___1 : decode cX7_order__ 1 = .ok (.aload_n 0, 1) := by decide +kernel
theorem dX7_order___2 : decode cX7_order__ 2 = .ok (.getfield 16, 3) := by decide +kernel
theorem dX7_order___5 : decode cX7_order__ 5 = .ok (.aload_n 0, 1) := by decide +kernel
theorem dX7_order___6 : decode cX7_order__ 6 = .ok (.getfield 33, 3) := by decide +kernel
theorem dX7_order___9 : decode cX7_order__ 9 = .ok (.invokevirtual 97, 3) := by decide +kernel
theorem dX7_order___12 : decode cX7_order__ 12 = .ok (.areturn, 1) := by decide +kernel
set_option maxRecDepth 20000 in
theorem ggX7_call_X7_isIn : GoodIn wsX7_call wsX7_isIn := goodIn_r _ [7] (by decide +kernel) (by decide +kernel)
set_option maxRecDepth 20000 in
theorem gX7_call_X7_isIn : GoodIn wsX7_call (va_wsS RX7 39 yX7_isIn wsX7_isIn) := goodIn_app (goodIn_of _ (by decide +kernel)) ggX7_call_X7_isIn
set_option maxRecDepth 20000 in
theorem ggX7_call_X7_no : GoodIn wsX7_call wsX7_no := goodIn_r _ [11, 1, 47, 48, 49, 50, 51, 52, 53, 54, 55, 56] (by decide +kernel) (by decide +kernel)
set_option maxRecDepth 20000 in
theorem gX7_call_X7_no : GoodIn wsX7_call (wsV RX7 66 RX7 yX7_no wsX7_no) := goodIn_app (goodIn_of _ (by decide +kernel)) ggX7_call_X7_no
set_option maxRecDepth 20000 in
theorem ggX7_call_X7_order__ : GoodIn wsX7_call wsX7_order__ := goodIn_r _ [15, 3, 2, 16, 17, 18, 6, 19, 20, 21, 22, 23, 24, 25, 26, 27, 28, 29, 30, 31, 32, 33, 34, 35, 36, 37, 38, 39, 40, 41, 42, 43, 47, 48, 49, 50, 51, 52, 53, 54, 55, 56] (by decide +kernel) (by decide +kernel)
set_option maxRecDepth 20000 in
theorem gX7_call_X7_order__ : GoodIn wsX7_call (wsV RX7 100 RX7 yX7_order__ wsX7_order__) := goodIn_app (goodIn_of _ (by decide +kernel)) ggX7_call_X7_order__
set_option maxRecDepth 20000 in
theorem ggX7_call_X7_number : GoodIn wsX7_call wsX7_number := goodIn_r _ [46] (by decide +kernel) (by decide +kernel)
set_option maxRecDepth 20000 in
theorem gX7_call_X7_number : GoodIn wsX7_call (va_wsS RX7 62 yX7_number wsX7_number) := goodIn_app (goodIn_of _ (by decide +kernel)) ggX7_call_X7_number
theorem dX7_call_0 : decode cX7_call 0 = .ok (.aload_n 0, 1) := by decide +kernel
theorem dX7_call_1 : decode cX7_call 1 = .ok (.iconst 0, 1) := by decide +kernel
theorem dX7_call_2 : decode cX7_call 2 = .ok (.putfield 36, 3) := by decide +kernel
theorem dX7_call_5 : decode cX7_call 5 = .ok (.iload_n 1, 1) := by decide +kernel
theorem dX7_call_6 : decode cX7_call 6 = .ok (.iconst 0, 1) := by decide +kernel
theorem dX7_call_7 : decode cX7_call 7 = .ok (.iconst 2, 1) := by decide +kernel
theorem dX7_call_8 : decode cX7_call 8 = .ok (.invokestatic 39, 3) := by decide +kernel
theorem dX7_call_11 : decode cX7_call 11 = .ok (.ifCond .ne 9, 3) := by decide +kernel
theorem dX7_call_14 : decode cX7_call 14 = .ok (.aload_n 0, 1) := by decide +kernel
theorem dX7_call_15 : decode cX7_call 15 = .ok (.iconst 1, 1) := by decide +kernel
theorem dX7_call_16 : decode cX7_call 16 = .ok (.invokevirtual 66, 3) := by decide +kernel
theorem dX7_call_19 : decode cX7_call 19 = .ok (.ireturn, 1) := by decide +kernel
theorem dX7_call_20 : decode cX7_call 20 = .ok (.aload_n 0, 1) := by decide +kernel
theorem dX7_call_21 : decode cX7_call 21 = .ok (.getfield 33, 3) := by decide +kernel
theorem dX7_call_24 : decode cX7_call 24 = .ok (.bipush 24, 2) := by decide +kernel
theorem dX7_call_26 : decode cX7_call 26 = .ok (.if_icmp .ne 9, 3) := by decide +kernel
theorem dX7_call_29 : decode cX7_call 29 = .ok (.aload_n 0, 1) := by decide +kernel
theorem dX7_call_30 : decode cX7_call 30 = .ok (.iconst 2, 1) := by decide +kernel
theorem dX7_call_31 : decode cX7_call 31 = .ok (.invokevirtual 66, 3) := by decide +kernel
theorem dX7_call_34 : decode cX7_call 34 = .ok (.ireturn, 1) := by decide +kernel
theorem dX7_call_35 : decode cX7_call 35 = .ok (.aload_n 0, 1) := by decide +kernel
theorem dX7_call_36 : decode cX7_call 36 = .ok (.getfield 16, 3) := by decide +kernel
theorem dX7_call_39 : decode cX7_call 39 = .ok (.aload_n 0, 1) := by decide +kernel
theorem dX7_call_40 : decode cX7_call 40 = .ok (.dup, 1) := by decide +kernel
theorem dX7_call_41 : decode cX7_call 41 = .ok (.getfield 33, 3) := by decide +kernel
theorem dX7_call_44 : decode cX7_call 44 = .ok (.dup_x1, 1) := by decide +kernel
theorem dX7_call_45 : decode cX7_call 45 = .ok (.iconst 1, 1) := by decide +kernel
theorem dX7_call_46 : decode cX7_call 46 = .ok (.iadd, 1) := by decide +kernel
theorem dX7_call_47 : decode cX7_call 47 = .ok (.putfield 33, 3) := by decide +kernel
theorem dX7_call_50 : decode cX7_call 50 = .ok (.iload_n 1, 1) := by decide +kernel
theorem dX7_call_51 : decode cX7_call 51 = .ok (.iastore, 1) := by decide +kernel
theorem dX7_call_52 : decode cX7_call 52 = .ok (.aload_n 0, 1) := by decide +kernel
theorem dX7_call_53 : decode cX7_call 53 = .ok (.invokevirtual 100, 3) := by decide +kernel
theorem dX7_call_56 : decode cX7_call 56 = .ok (.invokestatic 62, 3) := by decide +kernel
theorem dX7_call_59 : decode cX7_call 59 = .ok (.ireturn, 1) := by decide +kernel
set_option maxRecDepth 20000 in
theorem ggX7_uncall_X7_no : GoodIn wsX7_uncall wsX7_no := goodIn_r _ [8, 1, 9, 10, 11, 12, 13, 14, 15, 16, 17, 18] (by decide +kernel) (by decide +kernel)
set_option maxRecDepth 20000 in
theorem gX7_uncall_X7_no : GoodIn wsX7_uncall (wsV RX7 66 RX7 yX7_no wsX7_no) := goodIn_app (goodIn_of _ (by decide +kernel)) ggX7_uncall_X7_no
theorem dX7_uncall_0 : decode cX7_uncall 0 = .ok (.aload_n 0, 1) := by decide +kernel
theorem dX7_uncall_1 : decode cX7_uncall 1 = .ok (.iconst 0, 1) := by decide +kernel
theorem dX7_uncall_2 : decode cX7_uncall 2 = .ok (.putfield 36, 3) := by decide +kernel
theorem dX7_uncall_5 : decode cX7_uncall 5 = .ok (.aload_n 0, 1) := by decide +kernel
theorem dX7_uncall_6 : decode cX7_uncall 6 = .ok (.getfield 33, 3) := by decide +kernel
theorem dX7_uncall_9 : decode cX7_uncall 9 = .ok (.ifCond .ne 11, 3) := by decide +kernel
theorem dX7_uncall_12 : decode cX7_uncall 12 = .ok (.aload_n 0, 1) := by decide +kernel
theorem dX7_uncall_13 : decode cX7_uncall 13 = .ok (.iconst 1, 1) := by decide +kernel
theorem dX7_uncall_14 : decode cX7_uncall 14 = .ok (.invokevirtual 66, 3) := by decide +kernel
theorem dX7_uncall_17 : decode cX7_uncall 17 = .ok (.goto 19, 3) := by decide +kernel
theorem dX7_uncall_20 : decode cX7_uncall 20 = .ok (.aload_n 0, 1) := by decide +kernel
theorem dX7_uncall_21 : decode cX7_uncall 21 = .ok (.getfield 16, 3) := by decide +kernel
theorem dX7_uncall_24 : decode cX7_uncall 24 = .ok (.aload_n 0, 1) := by decide +kernel
theorem dX7_uncall_25 : decode cX7_uncall 25 = .ok (.dup, 1) := by decide +kernel
