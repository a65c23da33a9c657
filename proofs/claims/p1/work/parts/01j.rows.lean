theorem dX7_common_85 : decode cX7_common 85 = .ok (.iload 6, 2) := by decide +kernel
theorem dX7_common_87 : decode cX7_common 87 = .ok (.if_icmp .ne 23, 3) := by decide +kernel
theorem dX7_common_90 : decode cX7_common 90 = .ok (.aload 4, 2) := by decide +kernel
theorem dX7_common_92 : decode cX7_common 92 = .ok (.aload_n 3, 1) := by decide +kernel
theorem dX7_common_93 : decode cX7_common 93 = .ok (.iload 6, 2) := by decide +kernel
theorem dX7_common_95 : decode cX7_common 95 = .ok (.iaload, 1) := by decide +kernel
theorem dX7_common_96 : decode cX7_common 96 = .ok (.invokestatic 102, 3) := by decide +kernel
theorem dX7_common_99 : decode cX7_common 99 = .ok (.aload_n 0, 1) := by decide +kernel
theorem dX7_common_100 : decode cX7_common 100 = .ok (.getfield 30, 3) := by decide +kernel
theorem dX7_common_103 : decode cX7_common 103 = .ok (.if_icmp .ge 7, 3) := by decide +kernel
theorem dX7_common_106 : decode cX7_common 106 = .ok (.iconst 1, 1) := by decide +kernel
theorem dX7_common_107 : decode cX7_common 107 = .ok (.goto 4, 3) := by decide +kernel
theorem dX7_common_110 : decode cX7_common 110 = .ok (.iconst 0, 1) := by decide +kernel
theorem dX7_common_111 : decode cX7_common 111 = .ok (.iadd, 1) := by decide +kernel
theorem dX7_common_112 : decode cX7_common 112 = .ok (.istore 5, 2) := by decide +kernel
theorem dX7_common_114 : decode cX7_common 114 = .ok (.iinc 6 1, 3) := by decide +kernel
theorem dX7_common_117 : decode cX7_common 117 = .ok (.goto (-51), 3) := by decide +kernel
theorem dX7_common_120 : decode cX7_common 120 = .ok (.iload 5, 2) := by decide +kernel
theorem dX7_common_122 : decode cX7_common 122 = .ok (.ireturn, 1) := by decide +kernel
set_option maxRecDepth 20000 in
theorem ggX7_meanPlace_X7_rows_ : GoodIn wsX7_meanPlace wsX7_rows_ := goodIn_r _ [7, 8, 9, 10, 11, 12, 6, 13, 2, 14, 15, 16, 17, 18, 19, 20, 21, 22, 23, 24, 25, 26, 27, 32, 33, 34, 35, 36, 37, 38, 39, 40, 41] (by decide +kernel) (by decide +kernel)
set_option maxRecDepth 20000 in
theorem gX7_meanPlace_X7_rows_ : GoodIn wsX7_meanPlace (wsV RX7 117 RX7 yX7_rows_ wsX7_rows_) := goodIn_app (goodIn_of _ (by decide +kernel)) ggX7_meanPlace_X7_rows_
set_option maxRecDepth 20000 in
theorem ggX7_meanPlace_X7_placeNow : GoodIn wsX7_meanPlace wsX7_placeNow := goodIn_r _ [31, 2, 32, 33, 34, 35, 36, 37, 38, 39, 40, 41] (by decide +kernel) (by decide +kernel)
set_option maxRecDepth 20000 in
theorem gX7_meanPlace_X7_placeNow : GoodIn wsX7_meanPlace (wsV RX7 134 RX7 yX7_placeNow wsX7_placeNow) := goodIn_app (goodIn_of _ (by decide +kernel)) ggX7_meanPlace_X7_placeNow
theorem dX7_meanPlace_0 : decode cX7_meanPlace 0 = .ok (.aload_n 0, 1) := by decide +kernel
theorem dX7_meanPlace_1 : decode cX7_meanPlace 1 = .ok (.iconst 0, 1) := by decide +kernel
theorem dX7_meanPlace_2 : decode cX7_meanPlace 2 = .ok (.putfield 36, 3) := by decide +kernel
theorem dX7_meanPlace_5 : decode cX7_meanPlace 5 = .ok (.aload_n 0, 1) := by decide +kernel
theorem dX7_meanPlace_6 : decode cX7_meanPlace 6 = .ok (.invokevirtual 117, 3) := by decide +kernel
theorem dX7_meanPlace_9 : decode cX7_meanPlace 9 = .ok (.astore_n 1, 1) := by decide +kernel
theorem dX7_meanPlace_10 : decode cX7_meanPlace 10 = .ok (.iconst 0, 1) := by decide +kernel
theorem dX7_meanPlace_11 : decode cX7_meanPlace 11 = .ok (.istore_n 2, 1) := by decide +kernel
theorem dX7_meanPlace_12 : decode cX7_meanPlace 12 = .ok (.aload_n 1, 1) := by decide +kernel
theorem dX7_meanPlace_13 : decode cX7_meanPlace 13 = .ok (.astore_n 3, 1) := by decide +kernel
theorem dX7_meanPlace_14 : decode cX7_meanPlace 14 = .ok (.aload_n 3, 1) := by decide +kernel
theorem dX7_meanPlace_15 : decode cX7_meanPlace 15 = .ok (.arraylength, 1) := by decide +kernel
theorem dX7_meanPlace_16 : decode cX7_meanPlace 16 = .ok (.istore 4, 2) := by decide +kernel
theorem dX7_meanPlace_18 : decode cX7_meanPlace 18 = .ok (.iconst 0, 1) := by decide +kernel
theorem dX7_meanPlace_19 : decode cX7_meanPlace 19 = .ok (.istore 5, 2) := by decide +kernel
theorem dX7_meanPlace_21 : decode cX7_meanPlace 21 = .ok (.iload 5, 2) := by decide +kernel
theorem dX7_meanPlace_23 : decode cX7_meanPlace 23 = .ok (.iload 4, 2) := by decide +kernel
theorem dX7_meanPlace_25 : decode cX7_meanPlace 25 = .ok (.if_icmp .ge 30, 3) := by decide +kernel
theorem dX7_meanPlace_28 : decode cX7_meanPlace 28 = .ok (.aload_n 3, 1) := by decide +kernel
theorem dX7_meanPlace_29 : decode cX7_meanPlace 29 = .ok (.iload 5, 2) := by decide +kernel
theorem dX7_meanPlace_31 : decode cX7_meanPlace 31 = .ok (.iaload, 1) := by decide +kernel
theorem dX7_meanPlace_32 : decode cX7_meanPlace 32 = .ok (.istore 6, 2) := by decide +kernel
theorem dX7_meanPlace_34 : decode cX7_meanPlace 34 = .ok (.iload_n 2, 1) := by decide +kernel
theorem dX7_meanPlace_35 : decode cX7_meanPlace 35 = .ok (.aload_n 0, 1) := by decide +kernel
theorem dX7_meanPlace_36 : decode cX7_meanPlace 36 = .ok (.aload_n 0, 1) := by decide +kernel
theorem dX7_meanPlace_37 : decode cX7_meanPlace 37 = .ok (.getfield 26, 3) := by decide +kernel
theorem dX7_meanPlace_40 : decode cX7_meanPlace 40 = .ok (.iload 6, 2) := by decide +kernel
theorem dX7_meanPlace_42 : decode cX7_meanPlace 42 = .ok (.invokevirtual 134, 3) := by decide +kernel
theorem dX7_meanPlace_45 : decode cX7_meanPlace 45 = .ok (.iconst 1, 1) := by decide +kernel
theorem dX7_meanPlace_46 : decode cX7_meanPlace 46 = .ok (.iadd, 1) := by decide +kernel
theorem dX7_meanPlace_47 : decode cX7_meanPlace 47 = .ok (.iadd, 1) := by decide +kernel
theorem dX7_meanPlace_48 : decode cX7_meanPlace 48 = .ok (.istore_n 2, 1) := by decide +kernel
theorem dX7_meanPlace_49 : decode cX7_meanPlace 49 = .ok (.iinc 5 1, 3) := by decide +kernel
theorem dX7_meanPlace_52 : decode cX7_meanPlace 52 = .ok (.goto (-31), 3) := by decide +kernel
theorem dX7_meanPlace_55 : decode cX7_meanPlace 55 = .ok (.aload_n 1, 1) := by decide +kernel
theorem dX7_meanPlace_56 : decode cX7_meanPlace 56 = .ok (.arraylength, 1) := by decide +kernel
theorem dX7_meanPlace_57 : decode cX7_meanPlace 57 = .ok (.ifCond .ne 7, 3) := by decide +kernel
theorem dX7_meanPlace_60 : decode cX7_meanPlace 60 = .ok (.dconst 0, 1) := by decide +kernel
theorem dX7_meanPlace_61 : decode cX7_meanPlace 61 = .ok (.goto 9, 3) := by decide +kernel
theorem dX7_meanPlace_64 : decode cX7_meanPlace 64 = .ok (.iload_n 2, 1) := by decide +kernel
theorem dX7_meanPlace_65 : decode cX7_meanPlace 65 = .ok (.i2d, 1) := by decide +kernel
theorem dX7_meanPlace_66 : decode cX7_meanPlace 66 = .ok (.aload_n 1, 1) := by decide +kernel
theorem dX7_meanPlace_67 : decode cX7_meanPlace 67 = .ok (.arraylength, 1) := by decide +kernel
theorem dX7_meanPlace_68 : decode cX7_meanPlace 68 = .ok (.i2d, 1) := by decide +kernel
theorem dX7_meanPlace_69 : decode cX7_meanPlace 69 = .ok (.ddiv, 1) := by decide +kernel
theorem dX7_meanPlace_70 : decode cX7_meanPlace 70 = .ok (.dreturn, 1) := by decide +kernel
set_option maxRecDepth 20000 in
theorem ggX7_look_X7_number : GoodIn wsX7_look wsX7_number := goodIn_r _ [12] (by decide +kernel) (by decide +kernel)
set_option maxRecDepth 20000 in
theorem gX7_look_X7_number : GoodIn wsX7_look (va_wsS RX7 62 yX7_number wsX7_number) := goodIn_app (goodIn_of _ (by decide +kernel)) ggX7_look_X7_number
set_option maxRecDepth 20000 in
theorem ggX7_look_X7_rounds : GoodIn wsX7_look wsX7_rounds := goodIn_r _ [16, 17, 18, 19, 11, 20, 21, 3, 9, 10, 12, 55, 56, 57, 58, 59, 60, 61, 62, 63, 64] (by decide +kernel) (by decide +kernel)
set_option maxRecDepth 20000 in
theorem gX7_look_X7_rounds : GoodIn wsX7_look (wsV RX7 70 RX7 yX7_rounds wsX7_rounds) := goodIn_app (goodIn_of _ (by decide +kernel)) ggX7_look_X7_rounds
set_option maxRecDepth 20000 in
theorem ggX7_look_X7_same : GoodIn wsX7_look wsX7_same := goodIn_r _ [20, 21, 3, 55, 56, 57, 58, 59, 60, 61, 62, 63, 64] (by decide +kernel) (by decide +kernel)
set_option maxRecDepth 20000 in
theorem gX7_look_X7_same : GoodIn wsX7_look (wsV RX7 43 RX7 yX7_same wsX7_same) := goodIn_app (goodIn_of _ (by decide +kernel)) ggX7_look_X7_same
set_option maxRecDepth 20000 in
theorem ggX7_look_X7_rows : GoodIn wsX7_look wsX7_rows := goodIn_r _ [25, 26, 3, 27, 28, 21, 17, 18, 19, 11, 20, 29, 30, 31, 9, 10, 12, 55, 56, 57, 58, 59, 60, 61, 62, 63, 64] (by decide +kernel) (by decide +kernel)
set_option maxRecDepth 20000 in
theorem gX7_look_X7_rows : GoodIn wsX7_look (wsV RX7 93 RX7 yX7_rows wsX7_rows) := goodIn_app (goodIn_of _ (by decide +kernel)) ggX7_look_X7_rows
set_option maxRecDepth 20000 in
theorem ggX7_look_X7_firstAgain : GoodIn wsX7_look wsX7_firstAgain := goodIn_r _ [34, 35, 36, 11, 37] (by decide +kernel) (by decide +kernel)
set_option maxRecDepth 20000 in
theorem gX7_look_X7_firstAgain : GoodIn wsX7_look (va_wsS RX7 119 yX7_firstAgain wsX7_firstAgain) := goodIn_app (goodIn_of _ (by decide +kernel)) ggX7_look_X7_firstAgain
set_option maxRecDepth 20000 in
theorem ggX7_look_X7_musicOf : GoodIn wsX7_look wsX7_musicOf := goodIn_r _ [41, 42, 43, 11, 44, 45, 46, 47, 48, 49, 50, 51] (by decide +kernel) (by decide +kernel)
set_option maxRecDepth 20000 in
theorem gX7_look_X7_musicOf : GoodIn wsX7_look (wsV RX7 125 RX7 yX7_musicOf wsX7_musicOf) := goodIn_app (goodIn_of _ (by decide +kernel)) ggX7_look_X7_musicOf
set_option maxRecDepth 20000 in
theorem ggX7_look_X7_join : GoodIn wsX7_look wsX7_join := goodIn_r _ [31, 3] (by decide +kernel) (by decide +kernel)
set_option maxRecDepth 20000 in
theorem gX7_look_X7_join : GoodIn wsX7_look (va_wsS RX7 55 yX7_join wsX7_join) := goodIn_app (goodIn_of _ (by decide +kernel)) ggX7_look_X7_join
set_option maxRecDepth 20000 in
theorem ggX7_look_X7_look : GoodIn wsX7_look wsX7_look := goodIn_r _ [0, 1, 2, 3, 4, 5, 6, 7, 8, 9, 10, 11, 12, 13, 14, 15, 16, 17, 18, 19, 20, 21, 22, 23, 24, 25, 26, 27, 28, 29, 30, 31, 32, 33, 34, 35, 36, 37, 38, 39, 40, 41, 42, 43, 44, 45, 46, 47, 48, 49, 50, 51, 52, 53, 54, 55, 56, 57, 58, 59, 60, 61, 62, 63, 64] (by decide +kernel) (by decide +kernel)
set_option maxRecDepth 20000 in
theorem gX7_look_X7_look : GoodIn wsX7_look (wsV RX7 160 RX7 yX7_look wsX7_look) := goodIn_app (goodIn_of _ (by decide +kernel)) ggX7_look_X7_look
theorem dX7_look_0 : decode cX7_look 0 = .ok (.iload 4, 2) := by decide +kernel
theorem dX7_look_2 : decode cX7_look 2 = .ok (.ifCond .le 18, 3) := by decide +kernel
theorem dX7_look_5 : decode cX7_look 5 = .ok (.aload_n 2, 1) := by decide +kernel
theorem dX7_look_6 : decode cX7_look 6 = .ok (.invokestatic 62, 3) := by decide +kernel
theorem dX7_look_9 : decode cX7_look 9 = .ok (.aload_n 0, 1) := by decide +kernel
theorem dX7_look_10 : decode cX7_look 10 = .ok (.invokevirtual 70, 3) := by decide +kernel
theorem dX7_look_13 : decode cX7_look 13 = .ok (.if_icmp .ne 7, 3) := by decide +kernel
theorem dX7_look_16 : decode cX7_look 16 = .ok (.iconst 1, 1) := by decide +kernel
theorem dX7_look_17 : decode cX7_look 17 = .ok (.goto 4, 3) := by decide +kernel
theorem dX7_look_20 : decode cX7_look 20 = .ok (.iconst 0, 1) := by decide +kernel
theorem dX7_look_21 : decode cX7_look 21 = .ok (.istore 6, 2) := by decide +kernel
theorem dX7_look_23 : decode cX7_look 23 = .ok (.iload 4, 2) := by decide +kernel
theorem dX7_look_25 : decode cX7_look 25 = .ok (.iload 5, 2) := by decide +kernel
theorem dX7_look_27 : decode cX7_look 27 = .ok (.if_icmp .ne 87, 3) := by decide +kernel
theorem dX7_look_30 : decode cX7_look 30 = .ok (.iload 6, 2) := by decide +kernel
theorem dX7_look_32 : decode cX7_look 32 = .ok (.ifCond .ne 4, 3) := by decide +kernel
theorem dX7_look_35 : decode cX7_look 35 = .ok (.return_, 1) := by decide +kernel
theorem dX7_look_36 : decode cX7_look 36 = .ok (.aload_n 0, 1) := by decide +kernel
theorem dX7_look_37 : decode cX7_look 37 = .ok (.aload_n 0, 1) := by decide +kernel
theorem dX7_look_38 : decode cX7_look 38 = .ok (.invokevirtual 43, 3) := by decide +kernel
theorem dX7_look_41 : decode cX7_look 41 = .ok (.aload_n 3, 1) := by decide +kernel
theorem dX7_look_42 : decode cX7_look 42 = .ok (.iload 4, 2) := by decide +kernel
theorem dX7_look_44 : decode cX7_look 44 = .ok (.invokevirtual 93, 3) := by decide +kernel
theorem dX7_look_47 : decode cX7_look 47 = .ok (.astore 7, 2) := by decide +kernel
theorem dX7_look_49 : decode cX7_look 49 = .ok (.aload 7, 2) := by decide +kernel
theorem dX7_look_51 : decode cX7_look 51 = .ok (.invokestatic 119, 3) := by decide +kernel
theorem dX7_look_54 : decode cX7_look 54 = .ok (.iconst (-1), 1) := by decide +kernel
theorem dX7_look_55 : decode cX7_look 55 = .ok (.if_icmp .eq 4, 3) := by decide +kernel
theorem dX7_look_58 : decode cX7_look 58 = .ok (.return_, 1) := by decide +kernel
theorem dX7_look_59 : decode cX7_look 59 = .ok (.aload_n 0, 1) := by decide +kernel
theorem dX7_look_60 : decode cX7_look 60 = .ok (.dup, 1) := by decide +kernel
theorem dX7_look_61 : decode cX7_look 61 = .ok (.getfield 154, 3) := by decide +kernel
theorem dX7_look_64 : decode cX7_look 64 = .ok (.iconst 1, 1) := by decide +kernel
theorem dX7_look_65 : decode cX7_look 65 = .ok (.iadd, 1) := by decide +kernel
theorem dX7_look_66 : decode cX7_look 66 = .ok (.putfield 154, 3) := by decide +kernel
theorem dX7_look_69 : decode cX7_look 69 = .ok (.aload_n 0, 1) := by decide +kernel
theorem dX7_look_70 : decode cX7_look 70 = .ok (.aload 7, 2) := by decide +kernel
theorem dX7_look_72 : decode cX7_look 72 = .ok (.invokevirtual 125, 3) := by decide +kernel
theorem dX7_look_75 : decode cX7_look 75 = .ok (.istore 8, 2) := by decide +kernel
theorem dX7_look_77 : decode cX7_look 77 = .ok (.iload 8, 2) := by decide +kernel
theorem dX7_look_79 : decode cX7_look 79 = .ok (.aload_n 0, 1) := by decide +kernel
theorem dX7_look_80 : decode cX7_look 80 = .ok (.getfield 157, 3) := by decide +kernel
theorem dX7_look_83 : decode cX7_look 83 = .ok (.if_icmp .gt 4, 3) := by decide +kernel
theorem dX7_look_86 : decode cX7_look 86 = .ok (.return_, 1) := by decide +kernel
theorem dX7_look_87 : decode cX7_look 87 = .ok (.aload_n 0, 1) := by decide +kernel
theorem dX7_look_88 : decode cX7_look 88 = .ok (.iload 8, 2) := by decide +kernel
theorem dX7_look_90 : decode cX7_look 90 = .ok (.putfield 157, 3) := by decide +kernel
theorem dX7_look_93 : decode cX7_look 93 = .ok (.aload_n 0, 1) := by decide +kernel
theorem dX7_look_94 : decode cX7_look 94 = .ok (.iload 4, 2) := by decide +kernel
theorem dX7_look_96 : decode cX7_look 96 = .ok (.newarray .int, 2) := by decide +kernel
theorem dX7_look_98 : decode cX7_look 98 = .ok (.putfield 19, 3) := by decide +kernel
theorem dX7_look_101 : decode cX7_look 101 = .ok (.aload_n 3, 1) := by decide +kernel
theorem dX7_look_102 : decode cX7_look 102 = .ok (.iconst 0, 1) := by decide +kernel
theorem dX7_look_103 : decode cX7_look 103 = .ok (.aload_n 0, 1) := by decide +kernel
theorem dX7_look_104 : decode cX7_look 104 = .ok (.getfield 19, 3) := by decide +kernel
theorem dX7_look_107 : decode cX7_look 107 = .ok (.iconst 0, 1) := by decide +kernel
theorem dX7_look_108 : decode cX7_look 108 = .ok (.iload 4, 2) := by decide +kernel
theorem dX7_look_110 : decode cX7_look 110 = .ok (.invokestatic 145, 3) := by decide +kernel
theorem dX7_look_113 : decode cX7_look 113 = .ok (.return_, 1) := by decide +kernel
theorem dX7_look_114 : decode cX7_look 114 = .ok (.iload 6, 2) := by decide +kernel
theorem dX7_look_116 : decode cX7_look 116 = .ok (.ifCond .eq 4, 3) := by decide +kernel
theorem dX7_look_119 : decode cX7_look 119 = .ok (.return_, 1) := by decide +kernel
theorem dX7_look_120 : decode cX7_look 120 = .ok (.iconst 0, 1) := by decide +kernel
theorem dX7_look_121 : decode cX7_look 121 = .ok (.istore 7, 2) := by decide +kernel
theorem dX7_look_123 : decode cX7_look 123 = .ok (.iload 7, 2) := by decide +kernel
theorem dX7_look_125 : decode cX7_look 125 = .ok (.iconst 3, 1) := by decide +kernel
theorem dX7_look_126 : decode cX7_look 126 = .ok (.if_icmp .ge 35, 3) := by decide +kernel
theorem dX7_look_129 : decode cX7_look 129 = .ok (.aload_n 3, 1) := by decide +kernel
theorem dX7_look_130 : decode cX7_look 130 = .ok (.iload 4, 2) := by decide +kernel
theorem dX7_look_132 : decode cX7_look 132 = .ok (.iload 7, 2) := by decide +kernel
theorem dX7_look_134 : decode cX7_look 134 = .ok (.iastore, 1) := by decide +kernel
theorem dX7_look_135 : decode cX7_look 135 = .ok (.aload_n 0, 1) := by decide +kernel
theorem dX7_look_136 : decode cX7_look 136 = .ok (.aload_n 1, 1) := by decide +kernel
theorem dX7_look_137 : decode cX7_look 137 = .ok (.aload_n 2, 1) := by decide +kernel
theorem dX7_look_138 : decode cX7_look 138 = .ok (.aload_n 1, 1) := by decide +kernel
theorem dX7_look_139 : decode cX7_look 139 = .ok (.iload 7, 2) := by decide +kernel
theorem dX7_look_141 : decode cX7_look 141 = .ok (.aaload, 1) := by decide +kernel
theorem dX7_look_142 : decode cX7_look 142 = .ok (.invokestatic 55, 3) := by decide +kernel
theorem dX7_look_145 : decode cX7_look 145 = .ok (.aload_n 3, 1) := by decide +kernel
theorem dX7_look_146 : decode cX7_look 146 = .ok (.iload 4, 2) := by decide +kernel
theorem dX7_look_148 : decode cX7_look 148 = .ok (.iconst 1, 1) := by decide +kernel
theorem dX7_look_149 : decode cX7_look 149 = .ok (.iadd, 1) := by decide +kernel
theorem dX7_look_150 : decode cX7_look 150 = .ok (.iload 5, 2) := by decide +kernel
theorem dX7_look_152 : decode cX7_look 152 = .ok (.invokevirtual 160, 3) := by decide +kernel
theorem dX7_look_155 : decode cX7_look 155 = .ok (.iinc 7 1, 3) := by decide +kernel
theorem dX7_look_158 : decode cX7_look 158 = .ok (.goto (-35), 3) := by decide +kernel
theorem dX7_look_161 : decode cX7_look 161 = .ok (.return_, 1) := by decide +kernel
set_option maxRecDepth 20000 in
theorem ggX7_search_X7_leadOrder : GoodIn wsX7_search wsX7_leadOrder := goodIn_r _ [11, 6, 12, 13, 14, 10, 15, 16, 3, 17, 18, 19, 20, 21, 22, 23, 24, 25, 26, 27, 28, 29, 69, 70, 71, 72, 73, 74, 75, 76, 77, 78] (by decide +kernel) (by decide +kernel)
set_option maxRecDepth 20000 in
theorem gX7_search_X7_leadOrder : GoodIn wsX7_search (wsV RX7 78 RX7 yX7_leadOrder wsX7_leadOrder) := goodIn_app (goodIn_of _ (by decide +kernel)) ggX7_search_X7_leadOrder
set_option maxRecDepth 20000 in
theorem ggX7_search_X7_same : GoodIn wsX7_search wsX7_same := goodIn_r _ [15, 16, 3, 69, 70, 71, 72, 73, 74, 75, 76, 77, 78] (by decide +kernel) (by decide +kernel)
set_option maxRecDepth 20000 in
theorem gX7_search_X7_same : GoodIn wsX7_search (wsV RX7 43 RX7 yX7_same wsX7_same) := goodIn_app (goodIn_of _ (by decide +kernel)) ggX7_search_X7_same
set_option maxRecDepth 20000 in
theorem ggX7_search_X7_look : GoodIn wsX7_search wsX7_look := goodIn_r _ [33, 1, 2, 3, 4, 34, 35, 36, 37, 38, 39, 10, 40, 41, 42, 43, 44, 12, 13, 14, 15, 16, 45, 46, 47, 48, 6, 21, 22, 27, 28, 29, 49, 50, 51, 52, 53, 54, 55, 56, 57, 58, 59, 60, 61, 62, 63, 64, 65, 66, 67, 68, 30, 31, 32, 69, 70, 71, 72, 73, 74, 75, 76, 77, 78] (by decide +kernel) (by decide +kernel)
set_option maxRecDepth 20000 in
theorem gX7_search_X7_look : GoodIn wsX7_search (wsV RX7 160 RX7 yX7_look wsX7_look) := goodIn_app (goodIn_of _ (by decide +kernel)) ggX7_search_X7_look
theorem dX7_search_0 : decode cX7_search 0 = .ok (.aload_n 0, 1) := by decide +kernel
theorem dX7_search_1 : decode cX7_search 1 = .ok (.iconst 0, 1) := by decide +kernel
theorem dX7_search_2 : decode cX7_search 2 = .ok (.putfield 154, 3) := by decide +kernel
theorem dX7_search_5 : decode cX7_search 5 = .ok (.aload_n 0, 1) := by decide +kernel
theorem dX7_search_6 : decode cX7_search 6 = .ok (.iconst (-1), 1) := by decide +kernel
theorem dX7_search_7 : decode cX7_search 7 = .ok (.putfield 157, 3) := by decide +kernel
theorem dX7_search_10 : decode cX7_search 10 = .ok (.aload_n 0, 1) := by decide +kernel
theorem dX7_search_11 : decode cX7_search 11 = .ok (.iconst 0, 1) := by decide +kernel
theorem dX7_search_12 : decode cX7_search 12 = .ok (.newarray .int, 2) := by decide +kernel
theorem dX7_search_14 : decode cX7_search 14 = .ok (.putfield 19, 3) := by decide +kernel
theorem dX7_search_17 : decode cX7_search 17 = .ok (.iconst 3, 1) := by decide +kernel
theorem dX7_search_18 : decode cX7_search 18 = .ok (.anewarray 164, 3) := by decide +kernel
theorem dX7_search_21 : decode cX7_search 21 = .ok (.dup, 1) := by decide +kernel
theorem dX7_search_22 : decode cX7_search 22 = .ok (.iconst 0, 1) := by decide +kernel
theorem dX7_search_23 : decode cX7_search 23 = .ok (.aload_n 0, 1) := by decide +kernel
theorem dX7_search_24 : decode cX7_search 24 = .ok (.iconst 0, 1) := by decide +kernel
theorem dX7_search_25 : decode cX7_search 25 = .ok (.invokevirtual 78, 3) := by decide +kernel
theorem dX7_search_28 : decode cX7_search 28 = .ok (.aastore, 1) := by decide +kernel
theorem dX7_search_29 : decode cX7_search 29 = .ok (.dup, 1) := by decide +kernel
theorem dX7_search_30 : decode cX7_search 30 = .ok (.iconst 1, 1) := by decide +kernel
theorem dX7_search_31 : decode cX7_search 31 = .ok (.aload_n 0, 1) := by decide +kernel
theorem dX7_search_32 : decode cX7_search 32 = .ok (.iconst 1, 1) := by decide +kernel
theorem dX7_search_33 : decode cX7_search 33 = .ok (.invokevirtual 78, 3) := by decide +kernel
theorem dX7_search_36 : decode cX7_search 36 = .ok (.aastore, 1) := by decide +kernel
theorem dX7_search_37 : decode cX7_search 37 = .ok (.dup, 1) := by decide +kernel
theorem dX7_search_38 : decode cX7_search 38 = .ok (.iconst 2, 1) := by decide +kernel
theorem dX7_search_39 : decode cX7_search 39 = .ok (.aload_n 0, 1) := by decide +kernel
theorem dX7_search_40 : decode cX7_search 40 = .ok (.iconst 2, 1) := by decide +kernel
theorem dX7_search_41 : decode cX7_search 41 = .ok (.invokevirtual 78, 3) := by decide +kernel
theorem dX7_search_44 : decode cX7_search 44 = .ok (.aastore, 1) := by decide +kernel
theorem dX7_search_45 : decode cX7_search 45 = .ok (.astore_n 2, 1) := by decide +kernel
theorem dX7_search_46 : decode cX7_search 46 = .ok (.iconst 1, 1) := by decide +kernel
theorem dX7_search_47 : decode cX7_search 47 = .ok (.istore_n 3, 1) := by decide +kernel
theorem dX7_search_48 : decode cX7_search 48 = .ok (.iload_n 3, 1) := by decide +kernel
theorem dX7_search_49 : decode cX7_search 49 = .ok (.iload_n 1, 1) := by decide +kernel
theorem dX7_search_50 : decode cX7_search 50 = .ok (.if_icmp .gt 30, 3) := by decide +kernel
theorem dX7_search_53 : decode cX7_search 53 = .ok (.aload_n 0, 1) := by decide +kernel
theorem dX7_search_54 : decode cX7_search 54 = .ok (.getfield 30, 3) := by decide +kernel
theorem dX7_search_57 : decode cX7_search 57 = .ok (.ifCond .le 23, 3) := by decide +kernel
theorem dX7_search_60 : decode cX7_search 60 = .ok (.aload_n 0, 1) := by decide +kernel
theorem dX7_search_61 : decode cX7_search 61 = .ok (.aload_n 2, 1) := by decide +kernel
theorem dX7_search_62 : decode cX7_search 62 = .ok (.aload_n 0, 1) := by decide +kernel
theorem dX7_search_63 : decode cX7_search 63 = .ok (.invokevirtual 43, 3) := by decide +kernel
theorem dX7_search_66 : decode cX7_search 66 = .ok (.iconst 5, 1) := by decide +kernel
theorem dX7_search_67 : decode cX7_search 67 = .ok (.newarray .int, 2) := by decide +kernel
theorem dX7_search_69 : decode cX7_search 69 = .ok (.iconst 0, 1) := by decide +kernel
theorem dX7_search_70 : decode cX7_search 70 = .ok (.iload_n 3, 1) := by decide +kernel
theorem dX7_search_71 : decode cX7_search 71 = .ok (.invokevirtual 160, 3) := by decide +kernel
theorem dX7_search_74 : decode cX7_search 74 = .ok (.iinc 3 1, 3) := by decide +kernel
theorem dX7_search_77 : decode cX7_search 77 = .ok (.goto (-29), 3) := by decide +kernel
theorem dX7_search_80 : decode cX7_search 80 = .ok (.return_, 1) := by decide +kernel
set_option maxRecDepth 20000 in
theorem ggX7_goodNow_X7_search : GoodIn wsX7_goodNow wsX7_search := goodIn_r _ [6, 1, 7, 8, 9, 10, 11, 12, 13, 14, 5, 15, 16, 17, 18, 19, 20, 21, 22, 23, 24, 25, 26, 27, 28, 29, 30, 31, 32, 33, 34, 35, 36, 37, 38, 39, 40, 41, 42, 43, 44, 45, 46, 47, 48, 49, 50, 51, 52, 53, 54, 55, 56, 57, 58, 59, 60, 61, 62, 63, 64, 65, 66, 67, 68, 69, 70, 71, 72, 73, 74, 75, 76, 77, 78, 79, 80, 81, 82] (by decide +kernel) (by decide +kernel)
set_option maxRecDepth 20000 in
theorem gX7_goodNow_X7_search : GoodIn wsX7_goodNow (wsV RX7 165 RX7 yX7_search wsX7_search) := goodIn_app (goodIn_of _ (by decide +kernel)) ggX7_goodNow_X7_search
theorem dX7_goodNow_0 : decode cX7_goodNow 0 = .ok (.aload_n 0, 1) := by decide +kernel
theorem dX7_goodNow_1 : decode cX7_goodNow 1 = .ok (.iload_n 1, 1) := by decide +kernel
theorem dX7_goodNow_2 : decode cX7_goodNow 2 = .ok (.invokevirtual 165, 3) := by decide +kernel
theorem dX7_goodNow_5 : decode cX7_goodNow 5 = .ok (.aload_n 0, 1) := by decide +kernel
theorem dX7_goodNow_6 : decode cX7_goodNow 6 = .ok (.getfield 154, 3) := by decide +kernel
theorem dX7_goodNow_9 : decode cX7_goodNow 9 = .ok (.ireturn, 1) := by decide +kernel
set_option maxRecDepth 20000 in
theorem ggX7_bestNow_X7_search : GoodIn wsX7_bestNow wsX7_search := goodIn_r _ [6, 7, 1, 8, 9, 10, 11, 12, 13, 14, 5, 15, 16, 17, 18, 19, 20, 21, 22, 23, 24, 25, 26, 27, 28, 29, 30, 31, 32, 33, 34, 35, 36, 37, 38, 39, 40, 41, 42, 43, 44, 45, 46, 47, 48, 49, 50, 51, 52, 53, 54, 55, 56, 57, 58, 59, 60, 61, 62, 63, 64, 65, 66, 67, 68, 69, 70, 71, 72, 73, 74, 75, 76, 77, 78, 79, 80, 81, 82] (by decide +kernel) (by decide +kernel)
set_option maxRecDepth 20000 in
theorem gX7_bestNow_X7_search : GoodIn wsX7_bestNow (wsV RX7 165 RX7 yX7_search wsX7_search) := goodIn_app (goodIn_of _ (by decide +kernel)) ggX7_bestNow_X7_search
theorem dX7_bestNow_0 : decode cX7_bestNow 0 = .ok (.aload_n 0, 1) := by decide +kernel
theorem dX7_bestNow_1 : decode cX7_bestNow 1 = .ok (.iload_n 1, 1) := by decide +kernel
theorem dX7_bestNow_2 : decode cX7_bestNow 2 = .ok (.invokevirtual 165, 3) := by decide +kernel
theorem dX7_bestNow_5 : decode cX7_bestNow 5 = .ok (.aload_n 0, 1) := by decide +kernel
theorem dX7_bestNow_6 : decode cX7_bestNow 6 = .ok (.getfield 157, 3) := by decide +kernel
theorem dX7_bestNow_9 : decode cX7_bestNow 9 = .ok (.ireturn, 1) := by decide +kernel
set_option maxRecDepth 20000 in
theorem ggX7_good_X7_isIn : GoodIn wsX7_good wsX7_isIn := goodIn_r _ [5] (by decide +kernel) (by decide +kernel)
set_option maxRecDepth 20000 in
theorem gX7_good_X7_isIn : GoodIn wsX7_good (va_wsS RX7 39 yX7_isIn wsX7_isIn) := goodIn_app (goodIn_of _ (by decide +kernel)) ggX7_good_X7_isIn
set_option maxRecDepth 20000 in
theorem ggX7_good_X7_goodNow : GoodIn wsX7_good wsX7_goodNow := goodIn_r _ [9, 10, 11, 12, 13, 4, 14, 15, 16, 17, 18, 19, 20, 21, 22, 23, 24, 25, 26, 27, 28, 29, 30, 31, 32, 33, 34, 35, 36, 37, 38, 39, 40, 41, 42, 43, 44, 45, 46, 47, 48, 49, 50, 51, 52, 53, 54, 55, 56, 57, 58, 59, 60, 61, 62, 63, 64, 65, 66, 67, 68, 69, 70, 71, 72, 73, 74, 75, 76, 77, 78, 79, 80, 85, 86, 87, 88, 89, 90, 91, 92, 93, 94] (by decide +kernel) (by decide +kernel)
set_option maxRecDepth 20000 in
theorem gX7_good_X7_goodNow : GoodIn wsX7_good (wsV RX7 168 RX7 yX7_goodNow wsX7_goodNow) := goodIn_app (goodIn_of _ (by decide +kernel)) ggX7_good_X7_goodNow
set_option maxRecDepth 20000 in
theorem ggX7_good_X7_no : GoodIn wsX7_good wsX7_no := goodIn_r _ [84, 1, 85, 86, 87, 88, 89, 90, 91, 92, 93, 94] (by decide +kernel) (by decide +kernel)
set_option maxRecDepth 20000 in
theorem gX7_good_X7_no : GoodIn wsX7_good (wsV RX7 66 RX7 yX7_no wsX7_no) := goodIn_app (goodIn_of _ (by decide +kernel)) ggX7_good_X7_no
theorem dX7_good_0 : decode cX7_good 0 = .ok (.aload_n 0, 1) := by decide +kernel
theorem dX7_good_1 : decode cX7_good 1 = .ok (.iconst 0, 1) := by decide +kernel
theorem dX7_good_2 : decode cX7_good 2 = .ok (.putfield 36, 3) := by decide +kernel
theorem dX7_good_5 : decode cX7_good 5 = .ok (.iload_n 1, 1) := by decide +kernel
theorem dX7_good_6 : decode cX7_good 6 = .ok (.iconst 0, 1) := by decide +kernel
theorem dX7_good_7 : decode cX7_good 7 = .ok (.iconst 5, 1) := by decide +kernel
theorem dX7_good_8 : decode cX7_good 8 = .ok (.invokestatic 39, 3) := by decide +kernel
theorem dX7_good_11 : decode cX7_good 11 = .ok (.ifCond .eq 11, 3) := by decide +kernel
theorem dX7_good_14 : decode cX7_good 14 = .ok (.aload_n 0, 1) := by decide +kernel
theorem dX7_good_15 : decode cX7_good 15 = .ok (.iload_n 1, 1) := by decide +kernel
theorem dX7_good_16 : decode cX7_good 16 = .ok (.invokevirtual 168, 3) := by decide +kernel
theorem dX7_good_19 : decode cX7_good 19 = .ok (.goto 8, 3) := by decide +kernel
theorem dX7_good_22 : decode cX7_good 22 = .ok (.aload_n 0, 1) := by decide +kernel
theorem dX7_good_23 : decode cX7_good 23 = .ok (.iconst 1, 1) := by decide +kernel
theorem dX7_good_24 : decode cX7_good 24 = .ok (.invokevirtual 66, 3) := by decide +kernel
theorem dX7_good_27 : decode cX7_good 27 = .ok (.ireturn, 1) := by decide +kernel
set_option maxRecDepth 20000 in
theorem ggX7_best_X7_isIn : GoodIn wsX7_best wsX7_isIn := goodIn_r _ [5] (by decide +kernel) (by decide +kernel)
set_option maxRecDepth 20000 in
theorem gX7_best_X7_isIn : GoodIn wsX7_best (va_wsS RX7 39 yX7_isIn wsX7_isIn) := goodIn_app (goodIn_of _ (by decide +kernel)) ggX7_best_X7_isIn
set_option maxRecDepth 20000 in
theorem ggX7_best_X7_bestNow : GoodIn wsX7_best wsX7_bestNow := goodIn_r _ [9, 10, 11, 12, 13, 4, 14, 15, 16, 17, 18, 19, 20, 21, 22, 23, 24, 25, 26, 27, 28, 29, 30, 31, 32, 33, 34, 35, 36, 37, 38, 39, 40, 41, 42, 43, 44, 45, 46, 47, 48, 49, 50, 51, 52, 53, 54, 55, 56, 57, 58, 59, 60, 61, 62, 63, 64, 65, 66, 67, 68, 69, 70, 71, 72, 73, 74, 75, 76, 77, 78, 79, 80, 85, 86, 87, 88, 89, 90, 91, 92, 93, 94] (by decide +kernel) (by decide +kernel)
set_option maxRecDepth 20000 in
theorem gX7_best_X7_bestNow : GoodIn wsX7_best (wsV RX7 171 RX7 yX7_bestNow wsX7_bestNow) := goodIn_app (goodIn_of _ (by decide +kernel)) ggX7_best_X7_bestNow
set_option maxRecDepth 20000 in
theorem ggX7_best_X7_no : GoodIn wsX7_best wsX7_no := goodIn_r _ [84, 1, 85, 86, 87, 88, 89, 90, 91, 92, 93, 94] (by decide +kernel) (by decide +kernel)
set_option maxRecDepth 20000 in
theorem gX7_best_X7_no : GoodIn wsX7_best (wsV RX7 66 RX7 yX7_no wsX7_no) := goodIn_app (goodIn_of _ (by decide +kernel)) ggX7_best_X7_no
theorem dX7_best_0 : decode cX7_best 0 = .ok (.aload_n 0, 1) := by decide +kernel
theorem dX7_best_1 : decode cX7_best 1 = .ok (.iconst 0, 1) := by decide +kernel
theorem dX7_best_2 : decode cX7_best 2 = .ok (.putfield 36, 3) := by decide +kernel
theorem dX7_best_5 : decode cX7_best 5 = .ok (.iload_n 1, 1) := by decide +kernel
theorem dX7_best_6 : decode cX7_best 6 = .ok (.iconst 0, 1) := by decide +kernel
theorem dX7_best_7 : decode cX7_best 7 = .ok (.iconst 5, 1) := by decide +kernel
theorem dX7_best_8 : decode cX7_best 8 = .ok (.invokestatic 39, 3) := by decide +kernel
theorem dX7_best_11 : decode cX7_best 11 = .ok (.ifCond .eq 11, 3) := by decide +kernel
theorem dX7_best_14 : decode cX7_best 14 = .ok (.aload_n 0, 1) := by decide +kernel
theorem dX7_best_15 : decode cX7_best 15 = .ok (.iload_n 1, 1) := by decide +kernel
theorem dX7_best_16 : decode cX7_best 16 = .ok (.invokevirtual 171, 3) := by decide +kernel
theorem dX7_best_19 : decode cX7_best 19 = .ok (.goto 8, 3) := by decide +kernel
theorem dX7_best_22 : decode cX7_best 22 = .ok (.aload_n 0, 1) := by decide +kernel
theorem dX7_best_23 : decode cX7_best 23 = .ok (.iconst 1, 1) := by decide +kernel
theorem dX7_best_24 : decode cX7_best 24 = .ok (.invokevirtual 66, 3) := by decide +kernel
theorem dX7_best_27 : decode cX7_best 27 = .ok (.ireturn, 1) := by decide +kernel
set_option maxRecDepth 20000 in
theorem ggX7_bestCall_X7_isIn : GoodIn wsX7_bestCall wsX7_isIn := goodIn_r _ [6] (by decide +kernel) (by decide +kernel)
set_option maxRecDepth 20000 in
theorem gX7_bestCall_X7_isIn : GoodIn wsX7_bestCall (va_wsS RX7 39 yX7_isIn wsX7_isIn) := goodIn_app (goodIn_of _ (by decide +kernel)) ggX7_bestCall_X7_isIn
set_option maxRecDepth 20000 in
theorem ggX7_bestCall_X7_no : GoodIn wsX7_bestCall wsX7_no := goodIn_r _ [10, 1, 81, 82, 83, 84, 85, 86, 87, 88, 89, 90] (by decide +kernel) (by decide +kernel)
set_option maxRecDepth 20000 in
theorem gX7_bestCall_X7_no : GoodIn wsX7_bestCall (wsV RX7 66 RX7 yX7_no wsX7_no) := goodIn_app (goodIn_of _ (by decide +kernel)) ggX7_bestCall_X7_no
set_option maxRecDepth 20000 in
theorem ggX7_bestCall_X7_search : GoodIn wsX7_bestCall wsX7_search := goodIn_r _ [14, 15, 16, 17, 2, 18, 19, 20, 21, 22, 5, 23, 24, 25, 26, 27, 28, 29, 30, 31, 32, 33, 34, 35, 36, 37, 38, 39, 40, 41, 42, 43, 44, 45, 46, 47, 48, 49, 50, 51, 52, 53, 54, 55, 56, 57, 58, 59, 60, 61, 62, 63, 64, 65, 66, 67, 68, 69, 70, 71, 72, 73, 74, 75, 76, 77, 78, 79, 80, 81, 82, 83, 84, 85, 86, 87, 88, 89, 90] (by decide +kernel) (by decide +kernel)
set_option maxRecDepth 20000 in
theorem gX7_bestCall_X7_search : GoodIn wsX7_bestCall (wsV RX7 165 RX7 yX7_search wsX7_search) := goodIn_app (goodIn_of _ (by decide +kernel)) ggX7_bestCall_X7_search
theorem dX7_bestCall_0 : decode cX7_bestCall 0 = .ok (.aload_n 0, 1) := by decide +kernel
theorem dX7_bestCall_1 : decode cX7_bestCall 1 = .ok (.iconst 0, 1) := by decide +kernel
theorem dX7_bestCall_2 : decode cX7_bestCall 2 = .ok (.putfield 36, 3) := by decide +kernel
theorem dX7_bestCall_5 : decode cX7_bestCall 5 = .ok (.iload_n 1, 1) := by decide +kernel
theorem dX7_bestCall_6 : decode cX7_bestCall 6 = .ok (.iconst 0, 1) := by decide +kernel
theorem dX7_bestCall_7 : decode cX7_bestCall 7 = .ok (.iconst 5, 1) := by decide +kernel
theorem dX7_bestCall_8 : decode cX7_bestCall 8 = .ok (.invokestatic 39, 3) := by decide +kernel
theorem dX7_bestCall_11 : decode cX7_bestCall 11 = .ok (.ifCond .ne 9, 3) := by decide +kernel
theorem dX7_bestCall_14 : decode cX7_bestCall 14 = .ok (.aload_n 0, 1) := by decide +kernel
theorem dX7_bestCall_15 : decode cX7_bestCall 15 = .ok (.iconst 1, 1) := by decide +kernel
theorem dX7_bestCall_16 : decode cX7_bestCall 16 = .ok (.invokevirtual 66, 3) := by decide +kernel
theorem dX7_bestCall_19 : decode cX7_bestCall 19 = .ok (.ireturn, 1) := by decide +kernel
theorem dX7_bestCall_20 : decode cX7_bestCall 20 = .ok (.aload_n 0, 1) := by decide +kernel
theorem dX7_bestCall_21 : decode cX7_bestCall 21 = .ok (.iload_n 1, 1) := by decide +kernel
theorem dX7_bestCall_22 : decode cX7_bestCall 22 = .ok (.invokevirtual 165, 3) := by decide +kernel
theorem dX7_bestCall_25 : decode cX7_bestCall 25 = .ok (.iload_n 2, 1) := by decide +kernel
theorem dX7_bestCall_26 : decode cX7_bestCall 26 = .ok (.iconst 0, 1) := by decide +kernel
theorem dX7_bestCall_27 : decode cX7_bestCall 27 = .ok (.aload_n 0, 1) := by decide +kernel
theorem dX7_bestCall_28 : decode cX7_bestCall 28 = .ok (.getfield 19, 3) := by decide +kernel
theorem dX7_bestCall_31 : decode cX7_bestCall 31 = .ok (.arraylength, 1) := by decide +kernel
theorem dX7_bestCall_32 : decode cX7_bestCall 32 = .ok (.iconst 1, 1) := by decide +kernel
theorem dX7_bestCall_33 : decode cX7_bestCall 33 = .ok (.isub, 1) := by decide +kernel
theorem dX7_bestCall_34 : decode cX7_bestCall 34 = .ok (.invokestatic 39, 3) := by decide +kernel
theorem dX7_bestCall_37 : decode cX7_bestCall 37 = .ok (.ifCond .eq 12, 3) := by decide +kernel
theorem dX7_bestCall_40 : decode cX7_bestCall 40 = .ok (.aload_n 0, 1) := by decide +kernel
theorem dX7_bestCall_41 : decode cX7_bestCall 41 = .ok (.getfield 19, 3) := by decide +kernel
theorem dX7_bestCall_44 : decode cX7_bestCall 44 = .ok (.iload_n 2, 1) := by decide +kernel
theorem dX7_bestCall_45 : decode cX7_bestCall 45 = .ok (.iaload, 1) := by decide +kernel
theorem dX7_bestCall_46 : decode cX7_bestCall 46 = .ok (.goto 8, 3) := by decide +kernel
theorem dX7_bestCall_49 : decode cX7_bestCall 49 = .ok (.aload_n 0, 1) := by decide +kernel
theorem dX7_bestCall_50 : decode cX7_bestCall 50 = .ok (.iconst 2, 1) := by decide +kernel
theorem dX7_bestCall_51 : decode cX7_bestCall 51 = .ok (.invokevirtual 66, 3) := by decide +kernel
theorem dX7_bestCall_54 : decode cX7_bestCall 54 = .ok (.ireturn, 1) := by decide +kernel
set_option maxRecDepth 20000 in
theorem ggX7_endWith_X7_isIn : GoodIn wsX7_endWith wsX7_isIn := goodIn_r _ [7] (by decide +kernel) (by decide +kernel)
set_option maxRecDepth 20000 in
theorem gX7_endWith_X7_isIn : GoodIn wsX7_endWith (va_wsS RX7 39 yX7_isIn wsX7_isIn) := goodIn_app (goodIn_of _ (by decide +kernel)) ggX7_endWith_X7_isIn
set_option maxRecDepth 20000 in
theorem ggX7_endWith_X7_no : GoodIn wsX7_endWith wsX7_no := goodIn_r _ [11, 1, 47, 48, 49, 50, 51, 52, 53, 54, 55, 56] (by decide +kernel) (by decide +kernel)
set_option maxRecDepth 20000 in
theorem gX7_endWith_X7_no : GoodIn wsX7_endWith (wsV RX7 66 RX7 yX7_no wsX7_no) := goodIn_app (goodIn_of _ (by decide +kernel)) ggX7_endWith_X7_no
set_option maxRecDepth 20000 in
theorem ggX7_endWith_X7_order__ : GoodIn wsX7_endWith wsX7_order__ := goodIn_r _ [15, 3, 2, 16, 17, 18, 6, 19, 20, 21, 22, 23, 24, 25, 26, 27, 28, 29, 30, 31, 32, 33, 34, 35, 36, 37, 38, 39, 40, 41, 42, 43, 47, 48, 49, 50, 51, 52, 53, 54, 55, 56] (by decide +kernel) (by decide +kernel)
set_option maxRecDepth 20000 in
theorem gX7_endWith_X7_order__ : GoodIn wsX7_endWith (wsV RX7 100 RX7 yX7_order__ wsX7_order__) := goodIn_app (goodIn_of _ (by decide +kernel)) ggX7_endWith_X7_order__
set_option maxRecDepth 20000 in
theorem ggX7_endWith_X7_number : GoodIn wsX7_endWith wsX7_number := goodIn_r _ [46] (by decide +kernel) (by decide +kernel)
set_option maxRecDepth 20000 in
theorem gX7_endWith_X7_number : GoodIn wsX7_endWith (va_wsS RX7 62 yX7_number wsX7_number) := goodIn_app (goodIn_of _ (by decide +kernel)) ggX7_endWith_X7_number
theorem dX7_endWith_0 : decode cX7_endWith 0 = .ok (.aload_n 0, 1) := by decide +kernel
theorem dX7_endWith_1 : decode cX7_endWith 1 = .ok (.iconst 0, 1) := by decide +kernel
theorem dX7_endWith_2 : decode cX7_endWith 2 = .ok (.putfield 36, 3) := by decide +kernel
theorem dX7_endWith_5 : decode cX7_endWith 5 = .ok (.iload_n 1, 1) := by decide +kernel
theorem dX7_endWith_6 : decode cX7_endWith 6 = .ok (.iconst 0, 1) := by decide +kernel
theorem dX7_endWith_7 : decode cX7_endWith 7 = .ok (.aload_n 0, 1) := by decide +kernel
theorem dX7_endWith_8 : decode cX7_endWith 8 = .ok (.getfield 33, 3) := by decide +kernel
theorem dX7_endWith_11 : decode cX7_endWith 11 = .ok (.iconst 1, 1) := by decide +kernel
theorem dX7_endWith_12 : decode cX7_endWith 12 = .ok (.isub, 1) := by decide +kernel
theorem dX7_endWith_13 : decode cX7_endWith 13 = .ok (.invokestatic 39, 3) := by decide +kernel
theorem dX7_endWith_16 : decode cX7_endWith 16 = .ok (.ifCond .ne 9, 3) := by decide +kernel
theorem dX7_endWith_19 : decode cX7_endWith 19 = .ok (.aload_n 0, 1) := by decide +kernel
theorem dX7_endWith_20 : decode cX7_endWith 20 = .ok (.iconst 1, 1) := by decide +kernel
theorem dX7_endWith_21 : decode cX7_endWith 21 = .ok (.invokevirtual 66, 3) := by decide +kernel
theorem dX7_endWith_24 : decode cX7_endWith 24 = .ok (.ireturn, 1) := by decide +kernel
theorem dX7_endWith_25 : decode cX7_endWith 25 = .ok (.iload_n 2, 1) := by decide +kernel
theorem dX7_endWith_26 : decode cX7_endWith 26 = .ok (.iconst 0, 1) := by decide +kernel
theorem dX7_endWith_27 : decode cX7_endWith 27 = .ok (.iconst 2, 1) := by decide +kernel
theorem dX7_endWith_28 : decode cX7_endWith 28 = .ok (.invokestatic 39, 3) := by decide +kernel
theorem dX7_endWith_31 : decode cX7_endWith 31 = .ok (.ifCond .ne 9, 3) := by decide +kernel
theorem dX7_endWith_34 : decode cX7_endWith 34 = .ok (.aload_n 0, 1) := by decide +kernel
theorem dX7_endWith_35 : decode cX7_endWith 35 = .ok (.iconst 2, 1) := by decide +kernel
theorem dX7_endWith_36 : decode cX7_endWith 36 = .ok (.invokevirtual 66, 3) := by decide +kernel
theorem dX7_endWith_39 : decode cX7_endWith 39 = .ok (.ireturn, 1) := by decide +kernel
theorem dX7_endWith_40 : decode cX7_endWith 40 = .ok (.aload_n 0, 1) := by decide +kernel
theorem dX7_endWith_41 : decode cX7_endWith 41 = .ok (.getfield 16, 3) := by decide +kernel
theorem dX7_endWith_44 : decode cX7_endWith 44 = .ok (.iload_n 1, 1) := by decide +kernel
theorem dX7_endWith_45 : decode cX7_endWith 45 = .ok (.iaload, 1) := by decide +kernel
theorem dX7_endWith_46 : decode cX7_endWith 46 = .ok (.istore_n 3, 1) := by decide +kernel
theorem dX7_endWith_47 : decode cX7_endWith 47 = .ok (.aload_n 0, 1) := by decide +kernel
theorem dX7_endWith_48 : decode cX7_endWith 48 = .ok (.getfield 16, 3) := by decide +kernel
theorem dX7_endWith_51 : decode cX7_endWith 51 = .ok (.iload_n 1, 1) := by decide +kernel
theorem dX7_endWith_52 : decode cX7_endWith 52 = .ok (.iload_n 2, 1) := by decide +kernel
theorem dX7_endWith_53 : decode cX7_endWith 53 = .ok (.iastore, 1) := by decide +kernel
theorem dX7_endWith_54 : decode cX7_endWith 54 = .ok (.aload_n 0, 1) := by decide +kernel
theorem dX7_endWith_55 : decode cX7_endWith 55 = .ok (.invokevirtual 100, 3) := by decide +kernel
theorem dX7_endWith_58 : decode cX7_endWith 58 = .ok (.invokestatic 62, 3) := by decide +kernel
theorem dX7_endWith_61 : decode cX7_endWith 61 = .ok (.istore 4, 2) := by decide +kernel
theorem dX7_endWith_63 : decode cX7_endWith 63 = .ok (.aload_n 0, 1) := by decide +kernel
theorem dX7_endWith_64 : decode cX7_endWith 64 = .ok (.getfield 16, 3) := by decide +kernel
theorem dX7_endWith_67 : decode cX7_endWith 67 = .ok (.iload_n 1, 1) := by decide +kernel
theorem dX7_endWith_68 : decode cX7_endWith 68 = .ok (.iload_n 3, 1) := by decide +kernel
theorem dX7_endWith_69 : decode cX7_endWith 69 = .ok (.iastore, 1) := by decide +kernel
theorem dX7_endWith_70 : decode cX7_endWith 70 = .ok (.iload 4, 2) := by decide +kernel
theorem dX7_endWith_72 : decode cX7_endWith 72 = .ok (.ireturn, 1) := by decide +kernel
set_option maxRecDepth 20000 in
theorem ggX7_clashesNow_X7_rows_ : GoodIn wsX7_clashesNow wsX7_rows_ := goodIn_r _ [6, 7, 8, 9, 10, 11, 5, 12, 13, 1, 14, 15, 16, 17, 18, 19, 20, 21, 22, 23, 24, 25, 26, 50, 51, 52, 53, 54, 55, 56, 57, 58, 59] (by decide +kernel) (by decide +kernel)
set_option maxRecDepth 20000 in
theorem gX7_clashesNow_X7_rows_ : GoodIn wsX7_clashesNow (wsV RX7 117 RX7 yX7_rows_ wsX7_rows_) := goodIn_app (goodIn_of _ (by decide +kernel)) ggX7_clashesNow_X7_rows_
set_option maxRecDepth 20000 in
theorem ggX7_clashesNow_X7_order__ : GoodIn wsX7_clashesNow wsX7_order__ := goodIn_r _ [30, 7, 8, 31, 32, 33, 5, 34, 9, 10, 11, 12, 13, 1, 35, 36, 37, 38, 18, 39, 40, 41, 42, 19, 20, 43, 44, 45, 46, 21, 22, 23, 50, 51, 52, 53, 54, 55, 56, 57, 58, 59] (by decide +kernel) (by decide +kernel)
set_option maxRecDepth 20000 in
theorem gX7_clashesNow_X7_order__ : GoodIn wsX7_clashesNow (wsV RX7 100 RX7 yX7_order__ wsX7_order__) := goodIn_app (goodIn_of _ (by decide +kernel)) ggX7_clashesNow_X7_order__
set_option maxRecDepth 20000 in
theorem ggX7_clashesNow_X7_rows : GoodIn wsX7_clashesNow wsX7_rows := goodIn_r _ [17, 18, 1, 19, 20, 13, 9, 10, 11, 5, 12, 21, 22, 23, 24, 25, 26, 50, 51, 52, 53, 54, 55, 56, 57, 58, 59] (by decide +kernel) (by decide +kernel)
set_option maxRecDepth 20000 in
theorem gX7_clashesNow_X7_rows : GoodIn wsX7_clashesNow (wsV RX7 93 RX7 yX7_rows wsX7_rows) := goodIn_app (goodIn_of _ (by decide +kernel)) ggX7_clashesNow_X7_rows
set_option maxRecDepth 20000 in
theorem ggX7_clashesNow_X7_first : GoodIn wsX7_clashesNow wsX7_first := goodIn_r _ [49] (by decide +kernel) (by decide +kernel)
set_option maxRecDepth 20000 in
theorem gX7_clashesNow_X7_first : GoodIn wsX7_clashesNow (va_wsS RX7 102 yX7_first wsX7_first) := goodIn_app (goodIn_of _ (by decide +kernel)) ggX7_clashesNow_X7_first
theorem dX7_clashesNow_0 : decode cX7_clashesNow 0 = .ok (.aload_n 0, 1) := by decide +kernel
theorem dX7_clashesNow_1 : decode cX7_clashesNow 1 = .ok (.invokevirtual 117, 3) := by decide +kernel
theorem dX7_clashesNow_4 : decode cX7_clashesNow 4 = .ok (.astore_n 2, 1) := by decide +kernel
theorem dX7_clashesNow_5 : decode cX7_clashesNow 5 = .ok (.iconst 1, 1) := by decide +kernel
theorem dX7_clashesNow_6 : decode cX7_clashesNow 6 = .ok (.newarray .int, 2) := by decide +kernel
theorem dX7_clashesNow_8 : decode cX7_clashesNow 8 = .ok (.dup, 1) := by decide +kernel
theorem dX7_clashesNow_9 : decode cX7_clashesNow 9 = .ok (.iconst 0, 1) := by decide +kernel
theorem dX7_clashesNow_10 : decode cX7_clashesNow 10 = .ok (.iload_n 1, 1) := by decide +kernel
theorem dX7_clashesNow_11 : decode cX7_clashesNow 11 = .ok (.iastore, 1) := by decide +kernel
theorem dX7_clashesNow_12 : decode cX7_clashesNow 12 = .ok (.astore_n 3, 1) := by decide +kernel
theorem dX7_clashesNow_13 : decode cX7_clashesNow 13 = .ok (.iconst 0, 1) := by decide +kernel
theorem dX7_clashesNow_14 : decode cX7_clashesNow 14 = .ok (.istore 4, 2) := by decide +kernel
theorem dX7_clashesNow_16 : decode cX7_clashesNow 16 = .ok (.aload_n 0, 1) := by decide +kernel
theorem dX7_clashesNow_17 : decode cX7_clashesNow 17 = .ok (.aload_n 0, 1) := by decide +kernel
theorem dX7_clashesNow_18 : decode cX7_clashesNow 18 = .ok (.invokevirtual 100, 3) := by decide +kernel
theorem dX7_clashesNow_21 : decode cX7_clashesNow 21 = .ok (.aload_n 3, 1) := by decide +kernel
theorem dX7_clashesNow_22 : decode cX7_clashesNow 22 = .ok (.iconst 1, 1) := by decide +kernel
theorem dX7_clashesNow_23 : decode cX7_clashesNow 23 = .ok (.invokevirtual 93, 3) := by decide +kernel
theorem dX7_clashesNow_26 : decode cX7_clashesNow 26 = .ok (.astore 5, 2) := by decide +kernel
theorem dX7_clashesNow_28 : decode cX7_clashesNow 28 = .ok (.aload 5, 2) := by decide +kernel
theorem dX7_clashesNow_30 : decode cX7_clashesNow 30 = .ok (.arraylength, 1) := by decide +kernel
theorem dX7_clashesNow_31 : decode cX7_clashesNow 31 = .ok (.istore 6, 2) := by decide +kernel
theorem dX7_clashesNow_33 : decode cX7_clashesNow 33 = .ok (.iconst 0, 1) := by decide +kernel
theorem dX7_clashesNow_34 : decode cX7_clashesNow 34 = .ok (.istore 7, 2) := by decide +kernel
theorem dX7_clashesNow_36 : decode cX7_clashesNow 36 = .ok (.iload 7, 2) := by decide +kernel
theorem dX7_clashesNow_38 : decode cX7_clashesNow 38 = .ok (.iload 6, 2) := by decide +kernel
theorem dX7_clashesNow_40 : decode cX7_clashesNow 40 = .ok (.if_icmp .ge 37, 3) := by decide +kernel
theorem dX7_clashesNow_43 : decode cX7_clashesNow 43 = .ok (.aload 5, 2) := by decide +kernel
theorem dX7_clashesNow_45 : decode cX7_clashesNow 45 = .ok (.iload 7, 2) := by decide +kernel
theorem dX7_clashesNow_47 : decode cX7_clashesNow 47 = .ok (.iaload, 1) := by decide +kernel
theorem dX7_clashesNow_48 : decode cX7_clashesNow 48 = .ok (.istore 8, 2) := by decide +kernel
theorem dX7_clashesNow_50 : decode cX7_clashesNow 50 = .ok (.iload 4, 2) := by decide +kernel
theorem dX7_clashesNow_52 : decode cX7_clashesNow 52 = .ok (.aload_n 2, 1) := by decide +kernel
theorem dX7_clashesNow_53 : decode cX7_clashesNow 53 = .ok (.iload 8, 2) := by decide +kernel
theorem dX7_clashesNow_55 : decode cX7_clashesNow 55 = .ok (.invokestatic 102, 3) := by decide +kernel
theorem dX7_clashesNow_58 : decode cX7_clashesNow 58 = .ok (.aload_n 2, 1) := by decide +kernel
theorem dX7_clashesNow_59 : decode cX7_clashesNow 59 = .ok (.arraylength, 1) := by decide +kernel
theorem dX7_clashesNow_60 : decode cX7_clashesNow 60 = .ok (.if_icmp .ge 7, 3) := by decide +kernel
theorem dX7_clashesNow_63 : decode cX7_clashesNow 63 = .ok (.iconst 1, 1) := by decide +kernel
theorem dX7_clashesNow_64 : decode cX7_clashesNow 64 = .ok (.goto 4, 3) := by decide +kernel
theorem dX7_clashesNow_67 : decode cX7_clashesNow 67 = .ok (.iconst 0, 1) := by decide +kernel
theorem dX7_clashesNow_68 : decode cX7_clashesNow 68 = .ok (.iadd, 1) := by decide +kernel
theorem dX7_clashesNow_69 : decode cX7_clashesNow 69 = .ok (.istore 4, 2) := by decide +kernel
theorem dX7_clashesNow_71 : decode cX7_clashesNow 71 = .ok (.iinc 7 1, 3) := by decide +kernel
theorem dX7_clashesNow_74 : decode cX7_clashesNow 74 = .ok (.goto (-38), 3) := by decide +kernel
theorem dX7_clashesNow_77 : decode cX7_clashesNow 77 = .ok (.iload 4, 2) := by decide +kernel
theorem dX7_clashesNow_79 : decode cX7_clashesNow 79 = .ok (.ireturn, 1) := by decide +kernel
set_option maxRecDepth 20000 in
theorem ggX7_clashes_X7_isIn : GoodIn wsX7_clashes wsX7_isIn := goodIn_r _ [5] (by decide +kernel) (by decide +kernel)
set_option maxRecDepth 20000 in
theorem gX7_clashes_X7_isIn : GoodIn wsX7_clashes (va_wsS RX7 39 yX7_isIn wsX7_isIn) := goodIn_app (goodIn_of _ (by decide +kernel)) ggX7_clashes_X7_isIn
set_option maxRecDepth 20000 in
theorem ggX7_clashes_X7_clashesNow : GoodIn wsX7_clashes wsX7_clashesNow := goodIn_r _ [9, 10, 11, 12, 13, 4, 14, 15, 16, 17, 18, 19, 20, 21, 22, 23, 24, 25, 26, 27, 28, 29, 30, 31, 32, 33, 34, 35, 36, 37, 38, 39, 40, 41, 42, 43, 44, 45, 46, 47, 48, 49, 50, 51, 52, 53, 54, 55, 56, 57, 62, 63, 64, 65, 66, 67, 68, 69, 70, 71] (by decide +kernel) (by decide +kernel)
set_option maxRecDepth 20000 in
theorem gX7_clashes_X7_clashesNow : GoodIn wsX7_clashes (wsV RX7 174 RX7 yX7_clashesNow wsX7_clashesNow) := goodIn_app (goodIn_of _ (by decide +kernel)) ggX7_clashes_X7_clashesNow
set_option maxRecDepth 20000 in
theorem ggX7_clashes_X7_no : GoodIn wsX7_clashes wsX7_no := goodIn_r _ [61, 1, 62, 63, 64, 65, 66, 67, 68, 69, 70, 71] (by decide +kernel) (by decide +kernel)
set_option maxRecDepth 20000 in
theorem gX7_clashes_X7_no : GoodIn wsX7_clashes (wsV RX7 66 RX7 yX7_no wsX7_no) := goodIn_app (goodIn_of _ (by decide +kernel)) ggX7_clashes_X7_no
theorem dX7_clashes_0 : decode cX7_clashes 0 = .ok (.aload_n 0, 1) := by decide +kernel
theorem dX7_clashes_1 : decode cX7_clashes 1 = .ok (.iconst 0, 1) := by decide +kernel
theorem dX7_clashes_2 : decode cX7_clashes 2 = .ok (.putfield 36, 3) := by decide +kernel
theorem dX7_clashes_5 : decode cX7_clashes 5 = .ok (.iload_n 1, 1) := by decide +kernel
theorem dX7_clashes_6 : decode cX7_clashes 6 = .ok (.iconst 0, 1) := by decide +kernel
theorem dX7_clashes_7 : decode cX7_clashes 7 = .ok (.iconst 2, 1) := by decide +kernel
theorem dX7_clashes_8 : decode cX7_clashes 8 = .ok (.invokestatic 39, 3) := by decide +kernel
theorem dX7_clashes_11 : decode cX7_clashes 11 = .ok (.ifCond .eq 11, 3) := by decide +kernel
theorem dX7_clashes_14 : decode cX7_clashes 14 = .ok (.aload_n 0, 1) := by decide +kernel
theorem dX7_clashes_15 : decode cX7_clashes 15 = .ok (.iload_n 1, 1) := by decide +kernel
theorem dX7_clashes_16 : decode cX7_clashes 16 = .ok (.invokevirtual 174, 3) := by decide +kernel
theorem dX7_clashes_19 : decode cX7_clashes 19 = .ok (.goto 8, 3) := by decide +kernel
theorem dX7_clashes_22 : decode cX7_clashes 22 = .ok (.aload_n 0, 1) := by decide +kernel
theorem dX7_clashes_23 : decode cX7_clashes 23 = .ok (.iconst 1, 1) := by decide +kernel
theorem dX7_clashes_24 : decode cX7_clashes 24 = .ok (.invokevirtual 66, 3) := by decide +kernel
theorem dX7_clashes_27 : decode cX7_clashes 27 = .ok (.ireturn, 1) := by decide +kernel
set_option maxRecDepth 20000 in
theorem ggX7_digest_X7_toldNow : GoodIn wsX7_digest wsX7_toldNow := goodIn_r _ [13, 8, 4, 14, 6, 15, 16, 17, 12, 18, 19, 20, 21, 22, 23, 24, 25, 26, 27, 28, 29, 30, 31, 5, 32, 33, 34, 35, 36, 37, 38, 132, 133, 134, 135, 136, 137, 138, 139, 140, 141] (by decide +kernel) (by decide +kernel)
set_option maxRecDepth 20000 in
theorem gX7_digest_X7_toldNow : GoodIn wsX7_digest (wsV RX7 84 RX7 yX7_toldNow wsX7_toldNow) := goodIn_app (goodIn_of _ (by decide +kernel)) ggX7_digest_X7_toldNow
set_option maxRecDepth 20000 in
theorem ggX7_digest_X7_touchNow : GoodIn wsX7_digest wsX7_touchNow := goodIn_r _ [42, 43, 44, 45, 12, 46, 7, 6, 23, 24, 25, 26, 8, 27, 47, 48, 49, 50, 4, 14, 5, 36, 37, 38, 51, 52, 53, 54, 55, 56, 57, 58, 59, 60, 61, 19, 20, 21, 22, 28, 29, 30, 31, 32, 33, 34, 35, 62, 63, 64, 65, 66, 67, 68, 69, 70, 71, 72, 73, 74, 75, 76, 77, 78, 79, 80, 81, 82, 83, 84, 85, 86, 87, 88, 89, 90, 91, 92, 132, 133, 134, 135, 136, 137, 138, 139, 140, 141] (by decide +kernel) (by decide +kernel)
set_option maxRecDepth 20000 in
theorem gX7_digest_X7_touchNow : GoodIn wsX7_digest (wsV RX7 131 RX7 yX7_touchNow wsX7_touchNow) := goodIn_app (goodIn_of _ (by decide +kernel)) ggX7_digest_X7_touchNow
set_option maxRecDepth 20000 in
theorem ggX7_digest_X7_rows_ : GoodIn wsX7_digest wsX7_rows_ := goodIn_r _ [46, 7, 6, 23, 24, 25, 12, 26, 8, 27, 47, 48, 49, 50, 4, 14, 5, 36, 37, 38, 51, 52, 53, 132, 133, 134, 135, 136, 137, 138, 139, 140, 141] (by decide +kernel) (by decide +kernel)
set_option maxRecDepth 20000 in
theorem gX7_digest_X7_rows_ : GoodIn wsX7_digest (wsV RX7 117 RX7 yX7_rows_ wsX7_rows_) := goodIn_app (goodIn_of _ (by decide +kernel)) ggX7_digest_X7_rows_
set_option maxRecDepth 20000 in
theorem ggX7_digest_X7_longestNow : GoodIn wsX7_digest wsX7_longestNow := goodIn_r _ [96, 97, 98, 88, 99, 100, 101, 102, 12, 103, 8, 132, 133, 134, 135, 136, 137, 138, 139, 140, 141] (by decide +kernel) (by decide +kernel)
set_option maxRecDepth 20000 in
theorem gX7_digest_X7_longestNow : GoodIn wsX7_digest (wsV RX7 141 RX7 yX7_longestNow wsX7_longestNow) := goodIn_app (goodIn_of _ (by decide +kernel)) ggX7_digest_X7_longestNow
set_option maxRecDepth 20000 in
theorem ggX7_digest_X7_clashesNow : GoodIn wsX7_digest wsX7_clashesNow := goodIn_r _ [107, 27, 43, 44, 45, 12, 46, 7, 6, 23, 24, 25, 26, 8, 47, 48, 49, 50, 4, 14, 5, 36, 37, 38, 51, 52, 53, 54, 55, 56, 57, 58, 59, 60, 61, 19, 20, 21, 22, 28, 29, 30, 31, 32, 33, 34, 35, 69, 70, 71, 132, 133, 134, 135, 136, 137, 138, 139, 140, 141] (by decide +kernel) (by decide +kernel)
set_option maxRecDepth 20000 in
theorem gX7_digest_X7_clashesNow : GoodIn wsX7_digest (wsV RX7 174 RX7 yX7_clashesNow wsX7_clashesNow) := goodIn_app (goodIn_of _ (by decide +kernel)) ggX7_digest_X7_clashesNow
set_option maxRecDepth 20000 in
theorem ggX7_digest_X7_goodNow : GoodIn wsX7_digest wsX7_goodNow := goodIn_r _ [111, 112, 113, 114, 115, 12, 116, 117, 27, 118, 119, 4, 19, 20, 21, 22, 23, 24, 25, 26, 8, 28, 29, 30, 31, 14, 5, 32, 33, 34, 35, 36, 37, 38, 120, 121, 122, 123, 124, 125, 126, 127, 51, 52, 53, 62, 63, 64, 65, 47, 48, 49, 50, 66, 67, 68, 69, 70, 71, 76, 77, 78, 79, 80, 81, 82, 83, 84, 85, 86, 87, 88, 89, 132, 133, 134, 135, 136, 137, 138, 139, 140, 141] (by decide +kernel) (by decide +kernel)
set_option maxRecDepth 20000 in
theorem gX7_digest_X7_goodNow : GoodIn wsX7_digest (wsV RX7 168 RX7 yX7_goodNow wsX7_goodNow) := goodIn_app (goodIn_of _ (by decide +kernel)) ggX7_digest_X7_goodNow
set_option maxRecDepth 20000 in
theorem ggX7_digest_X7_bestNow : GoodIn wsX7_digest wsX7_bestNow := goodIn_r _ [131, 117, 113, 114, 115, 12, 116, 112, 27, 118, 119, 4, 19, 20, 21, 22, 23, 24, 25, 26, 8, 28, 29, 30, 31, 14, 5, 32, 33, 34, 35, 36, 37, 38, 120, 121, 122, 123, 124, 125, 126, 127, 51, 52, 53, 62, 63, 64, 65, 47, 48, 49, 50, 66, 67, 68, 69, 70, 71, 76, 77, 78, 79, 80, 81, 82, 83, 84, 85, 86, 87, 88, 89, 132, 133, 134, 135, 136, 137, 138, 139, 140, 141] (by decide +kernel) (by decide +kernel)
set_option maxRecDepth 20000 in
theorem gX7_digest_X7_bestNow : GoodIn wsX7_digest (wsV RX7 171 RX7 yX7_bestNow wsX7_bestNow) := goodIn_app (goodIn_of _ (by decide +kernel)) ggX7_digest_X7_bestNow
theorem dX7_digest_0 : decode cX7_digest 0 = .ok (.aload_n 0, 1) := by decide +kernel
theorem dX7_digest_1 : decode cX7_digest 1 = .ok (.iconst 0, 1) := by decide +kernel
theorem dX7_digest_2 : decode cX7_digest 2 = .ok (.putfield 36, 3) := by decide +kernel
theorem dX7_digest_5 : decode cX7_digest 5 = .ok (.ldc2_w 177, 3) := by decide +kernel
theorem dX7_digest_8 : decode cX7_digest 8 = .ok (.lstore_n 1, 1) := by decide +kernel
theorem dX7_digest_9 : decode cX7_digest 9 = .ok (.iconst 0, 1) := by decide +kernel
theorem dX7_digest_10 : decode cX7_digest 10 = .ok (.istore_n 3, 1) := by decide +kernel
theorem dX7_digest_11 : decode cX7_digest 11 = .ok (.iload_n 3, 1) := by decide +kernel
theorem dX7_digest_12 : decode cX7_digest 12 = .ok (.bipush 6, 2) := by decide +kernel
theorem dX7_digest_14 : decode cX7_digest 14 = .ok (.if_icmp .ge 22, 3) := by decide +kernel
theorem dX7_digest_17 : decode cX7_digest 17 = .ok (.lload_n 1, 1) := by decide +kernel
theorem dX7_digest_18 : decode cX7_digest 18 = .ok (.ldc2_w 179, 3) := by decide +kernel
theorem dX7_digest_21 : decode cX7_digest 21 = .ok (.lmul, 1) := by decide +kernel
theorem dX7_digest_22 : decode cX7_digest 22 = .ok (.aload_n 0, 1) := by decide +kernel
theorem dX7_digest_23 : decode cX7_digest 23 = .ok (.iload_n 3, 1) := by decide +kernel
theorem dX7_digest_24 : decode cX7_digest 24 = .ok (.invokevirtual 84, 3) := by decide +kernel
theorem dX7_digest_27 : decode cX7_digest 27 = .ok (.i2l, 1) := by decide +kernel
theorem dX7_digest_28 : decode cX7_digest 28 = .ok (.ladd, 1) := by decide +kernel
theorem dX7_digest_29 : decode cX7_digest 29 = .ok (.lstore_n 1, 1) := by decide +kernel
theorem dX7_digest_30 : decode cX7_digest 30 = .ok (.iinc 3 1, 3) := by decide +kernel
theorem dX7_digest_33 : decode cX7_digest 33 = .ok (.goto (-22), 3) := by decide +kernel
theorem dX7_digest_36 : decode cX7_digest 36 = .ok (.iconst 0, 1) := by decide +kernel
theorem dX7_digest_37 : decode cX7_digest 37 = .ok (.istore_n 3, 1) := by decide +kernel
theorem dX7_digest_38 : decode cX7_digest 38 = .ok (.iload_n 3, 1) := by decide +kernel
theorem dX7_digest_39 : decode cX7_digest 39 = .ok (.aload_n 0, 1) := by decide +kernel
theorem dX7_digest_40 : decode cX7_digest 40 = .ok (.getfield 30, 3) := by decide +kernel
theorem dX7_digest_43 : decode cX7_digest 43 = .ok (.if_icmp .ge 23, 3) := by decide +kernel
theorem dX7_digest_46 : decode cX7_digest 46 = .ok (.lload_n 1, 1) := by decide +kernel
theorem dX7_digest_47 : decode cX7_digest 47 = .ok (.ldc2_w 179, 3) := by decide +kernel
theorem dX7_digest_50 : decode cX7_digest 50 = .ok (.lmul, 1) := by decide +kernel
theorem dX7_digest_51 : decode cX7_digest 51 = .ok (.aload_n 0, 1) := by decide +kernel
theorem dX7_digest_52 : decode cX7_digest 52 = .ok (.getfield 9, 3) := by decide +kernel
theorem dX7_digest_55 : decode cX7_digest 55 = .ok (.iload_n 3, 1) := by decide +kernel
theorem dX7_digest_56 : decode cX7_digest 56 = .ok (.iaload, 1) := by decide +kernel
theorem dX7_digest_57 : decode cX7_digest 57 = .ok (.i2l, 1) := by decide +kernel
theorem dX7_digest_58 : decode cX7_digest 58 = .ok (.ladd, 1) := by decide +kernel
theorem dX7_digest_59 : decode cX7_digest 59 = .ok (.lstore_n 1, 1) := by decide +kernel
theorem dX7_digest_60 : decode cX7_digest 60 = .ok (.iinc 3 1, 3) := by decide +kernel
theorem dX7_digest_63 : decode cX7_digest 63 = .ok (.goto (-25), 3) := by decide +kernel
theorem dX7_digest_66 : decode cX7_digest 66 = .ok (.iconst 0, 1) := by decide +kernel
theorem dX7_digest_67 : decode cX7_digest 67 = .ok (.istore_n 3, 1) := by decide +kernel
theorem dX7_digest_68 : decode cX7_digest 68 = .ok (.iload_n 3, 1) := by decide +kernel
theorem dX7_digest_69 : decode cX7_digest 69 = .ok (.aload_n 0, 1) := by decide +kernel
theorem dX7_digest_70 : decode cX7_digest 70 = .ok (.getfield 33, 3) := by decide +kernel
theorem dX7_digest_73 : decode cX7_digest 73 = .ok (.if_icmp .ge 23, 3) := by decide +kernel
theorem dX7_digest_76 : decode cX7_digest 76 = .ok (.lload_n 1, 1) := by decide +kernel
theorem dX7_digest_77 : decode cX7_digest 77 = .ok (.ldc2_w 179, 3) := by decide +kernel
theorem dX7_digest_80 : decode cX7_digest 80 = .ok (.lmul, 1) := by decide +kernel
theorem dX7_digest_81 : decode cX7_digest 81 = .ok (.aload_n 0, 1) := by decide +kernel
theorem dX7_digest_82 : decode cX7_digest 82 = .ok (.getfield 16, 3) := by decide +kernel
theorem dX7_digest_85 : decode cX7_digest 85 = .ok (.iload_n 3, 1) := by decide +kernel
theorem dX7_digest_86 : decode cX7_digest 86 = .ok (.iaload, 1) := by decide +kernel
theorem dX7_digest_87 : decode cX7_digest 87 = .ok (.i2l, 1) := by decide +kernel
theorem dX7_digest_88 : decode cX7_digest 88 = .ok (.ladd, 1) := by decide +kernel
theorem dX7_digest_89 : decode cX7_digest 89 = .ok (.lstore_n 1, 1) := by decide +kernel
theorem dX7_digest_90 : decode cX7_digest 90 = .ok (.iinc 3 1, 3) := by decide +kernel
theorem dX7_digest_93 : decode cX7_digest 93 = .ok (.goto (-25), 3) := by decide +kernel
theorem dX7_digest_96 : decode cX7_digest 96 = .ok (.iconst 0, 1) := by decide +kernel
theorem dX7_digest_97 : decode cX7_digest 97 = .ok (.istore_n 3, 1) := by decide +kernel
theorem dX7_digest_98 : decode cX7_digest 98 = .ok (.iload_n 3, 1) := by decide +kernel
theorem dX7_digest_99 : decode cX7_digest 99 = .ok (.bipush 8, 2) := by decide +kernel
theorem dX7_digest_101 : decode cX7_digest 101 = .ok (.if_icmp .ge 22, 3) := by decide +kernel
theorem dX7_digest_104 : decode cX7_digest 104 = .ok (.lload_n 1, 1) := by decide +kernel
theorem dX7_digest_105 : decode cX7_digest 105 = .ok (.ldc2_w 179, 3) := by decide +kernel
theorem dX7_digest_108 : decode cX7_digest 108 = .ok (.lmul, 1) := by decide +kernel
theorem dX7_digest_109 : decode cX7_digest 109 = .ok (.aload_n 0, 1) := by decide +kernel
theorem dX7_digest_110 : decode cX7_digest 110 = .ok (.iload_n 3, 1) := by decide +kernel
theorem dX7_digest_111 : decode cX7_digest 111 = .ok (.invokevirtual 131, 3) := by decide +kernel
theorem dX7_digest_114 : decode cX7_digest 114 = .ok (.i2l, 1) := by decide +kernel
theorem dX7_digest_115 : decode cX7_digest 115 = .ok (.ladd, 1) := by decide +kernel
theorem dX7_digest_116 : decode cX7_digest 116 = .ok (.lstore_n 1, 1) := by decide +kernel
theorem dX7_digest_117 : decode cX7_digest 117 = .ok (.iinc 3 1, 3) := by decide +kernel
theorem dX7_digest_120 : decode cX7_digest 120 = .ok (.goto (-22), 3) := by decide +kernel
theorem dX7_digest_123 : decode cX7_digest 123 = .ok (.aload_n 0, 1) := by decide +kernel
theorem dX7_digest_124 : decode cX7_digest 124 = .ok (.invokevirtual 117, 3) := by decide +kernel
theorem dX7_digest_127 : decode cX7_digest 127 = .ok (.astore_n 3, 1) := by decide +kernel
theorem dX7_digest_128 : decode cX7_digest 128 = .ok (.aload_n 3, 1) := by decide +kernel
theorem dX7_digest_129 : decode cX7_digest 129 = .ok (.astore 4, 2) := by decide +kernel
theorem dX7_digest_131 : decode cX7_digest 131 = .ok (.aload 4, 2) := by decide +kernel
theorem dX7_digest_133 : decode cX7_digest 133 = .ok (.arraylength, 1) := by decide +kernel
theorem dX7_digest_134 : decode cX7_digest 134 = .ok (.istore 5, 2) := by decide +kernel
theorem dX7_digest_136 : decode cX7_digest 136 = .ok (.iconst 0, 1) := by decide +kernel
theorem dX7_digest_137 : decode cX7_digest 137 = .ok (.istore 6, 2) := by decide +kernel
theorem dX7_digest_139 : decode cX7_digest 139 = .ok (.iload 6, 2) := by decide +kernel
theorem dX7_digest_141 : decode cX7_digest 141 = .ok (.iload 5, 2) := by decide +kernel
theorem dX7_digest_143 : decode cX7_digest 143 = .ok (.if_icmp .ge 26, 3) := by decide +kernel
theorem dX7_digest_146 : decode cX7_digest 146 = .ok (.aload 4, 2) := by decide +kernel
theorem dX7_digest_148 : decode cX7_digest 148 = .ok (.iload 6, 2) := by decide +kernel
theorem dX7_digest_150 : decode cX7_digest 150 = .ok (.iaload, 1) := by decide +kernel
theorem dX7_digest_151 : decode cX7_digest 151 = .ok (.istore 7, 2) := by decide +kernel
theorem dX7_digest_153 : decode cX7_digest 153 = .ok (.lload_n 1, 1) := by decide +kernel
theorem dX7_digest_154 : decode cX7_digest 154 = .ok (.ldc2_w 179, 3) := by decide +kernel
theorem dX7_digest_157 : decode cX7_digest 157 = .ok (.lmul, 1) := by decide +kernel
theorem dX7_digest_158 : decode cX7_digest 158 = .ok (.iload 7, 2) := by decide +kernel
theorem dX7_digest_160 : decode cX7_digest 160 = .ok (.i2l, 1) := by decide +kernel
theorem dX7_digest_161 : decode cX7_digest 161 = .ok (.ladd, 1) := by decide +kernel
theorem dX7_digest_162 : decode cX7_digest 162 = .ok (.lstore_n 1, 1) := by decide +kernel
theorem dX7_digest_163 : decode cX7_digest 163 = .ok (.iinc 6 1, 3) := by decide +kernel
theorem dX7_digest_166 : decode cX7_digest 166 = .ok (.goto (-27), 3) := by decide +kernel
theorem dX7_digest_169 : decode cX7_digest 169 = .ok (.iconst 1, 1) := by decide +kernel
theorem dX7_digest_170 : decode cX7_digest 170 = .ok (.istore 4, 2) := by decide +kernel
theorem dX7_digest_172 : decode cX7_digest 172 = .ok (.iload 4, 2) := by decide +kernel
theorem dX7_digest_174 : decode cX7_digest 174 = .ok (.aload_n 0, 1) := by decide +kernel
theorem dX7_digest_175 : decode cX7_digest 175 = .ok (.getfield 26, 3) := by decide +kernel
theorem dX7_digest_178 : decode cX7_digest 178 = .ok (.if_icmp .gt 24, 3) := by decide +kernel
theorem dX7_digest_181 : decode cX7_digest 181 = .ok (.lload_n 1, 1) := by decide +kernel
theorem dX7_digest_182 : decode cX7_digest 182 = .ok (.ldc2_w 179, 3) := by decide +kernel
theorem dX7_digest_185 : decode cX7_digest 185 = .ok (.lmul, 1) := by decide +kernel
theorem dX7_digest_186 : decode cX7_digest 186 = .ok (.aload_n 0, 1) := by decide +kernel
theorem dX7_digest_187 : decode cX7_digest 187 = .ok (.iload 4, 2) := by decide +kernel
theorem dX7_digest_189 : decode cX7_digest 189 = .ok (.aload_n 3, 1) := by decide +kernel
theorem dX7_digest_190 : decode cX7_digest 190 = .ok (.invokevirtual 141, 3) := by decide +kernel
theorem dX7_digest_193 : decode cX7_digest 193 = .ok (.i2l, 1) := by decide +kernel
theorem dX7_digest_194 : decode cX7_digest 194 = .ok (.ladd, 1) := by decide +kernel
theorem dX7_digest_195 : decode cX7_digest 195 = .ok (.lstore_n 1, 1) := by decide +kernel
theorem dX7_digest_196 : decode cX7_digest 196 = .ok (.iinc 4 1, 3) := by decide +kernel
theorem dX7_digest_199 : decode cX7_digest 199 = .ok (.goto (-27), 3) := by decide +kernel
theorem dX7_digest_202 : decode cX7_digest 202 = .ok (.iconst 0, 1) := by decide +kernel
theorem dX7_digest_203 : decode cX7_digest 203 = .ok (.istore 4, 2) := by decide +kernel
theorem dX7_digest_205 : decode cX7_digest 205 = .ok (.iload 4, 2) := by decide +kernel
theorem dX7_digest_207 : decode cX7_digest 207 = .ok (.iconst 3, 1) := by decide +kernel
theorem dX7_digest_208 : decode cX7_digest 208 = .ok (.if_icmp .ge 23, 3) := by decide +kernel
theorem dX7_digest_211 : decode cX7_digest 211 = .ok (.lload_n 1, 1) := by decide +kernel
theorem dX7_digest_212 : decode cX7_digest 212 = .ok (.ldc2_w 179, 3) := by decide +kernel
theorem dX7_digest_215 : decode cX7_digest 215 = .ok (.lmul, 1) := by decide +kernel
theorem dX7_digest_216 : decode cX7_digest 216 = .ok (.aload_n 0, 1) := by decide +kernel
theorem dX7_digest_217 : decode cX7_digest 217 = .ok (.iload 4, 2) := by decide +kernel
theorem dX7_digest_219 : decode cX7_digest 219 = .ok (.invokevirtual 174, 3) := by decide +kernel
theorem dX7_digest_222 : decode cX7_digest 222 = .ok (.i2l, 1) := by decide +kernel
theorem dX7_digest_223 : decode cX7_digest 223 = .ok (.ladd, 1) := by decide +kernel
theorem dX7_digest_224 : decode cX7_digest 224 = .ok (.lstore_n 1, 1) := by decide +kernel
theorem dX7_digest_225 : decode cX7_digest 225 = .ok (.iinc 4 1, 3) := by decide +kernel
theorem dX7_digest_228 : decode cX7_digest 228 = .ok (.goto (-23), 3) := by decide +kernel
theorem dX7_digest_231 : decode cX7_digest 231 = .ok (.lload_n 1, 1) := by decide +kernel
theorem dX7_digest_232 : decode cX7_digest 232 = .ok (.ldc2_w 179, 3) := by decide +kernel
theorem dX7_digest_235 : decode cX7_digest 235 = .ok (.lmul, 1) := by decide +kernel
theorem dX7_digest_236 : decode cX7_digest 236 = .ok (.aload_n 0, 1) := by decide +kernel
theorem dX7_digest_237 : decode cX7_digest 237 = .ok (.iconst 3, 1) := by decide +kernel
theorem dX7_digest_238 : decode cX7_digest 238 = .ok (.invokevirtual 168, 3) := by decide +kernel
theorem dX7_digest_241 : decode cX7_digest 241 = .ok (.i2l, 1) := by decide +kernel
theorem dX7_digest_242 : decode cX7_digest 242 = .ok (.ladd, 1) := by decide +kernel
theorem dX7_digest_243 : decode cX7_digest 243 = .ok (.ldc2_w 179, 3) := by decide +kernel
theorem dX7_digest_246 : decode cX7_digest 246 = .ok (.lmul, 1) := by decide +kernel
theorem dX7_digest_247 : decode cX7_digest 247 = .ok (.aload_n 0, 1) := by decide +kernel
