theorem dX3_runLength_12 : decode cX3_runLength 12 = .ok (.isub, 1) := by decide +kernel
theorem dX3_runLength_13 : decode cX3_runLength 13 = .ok (.istore 4, 2) := by decide +kernel
theorem dX3_runLength_15 : decode cX3_runLength 15 = .ok (.iload 4, 2) := by decide +kernel
theorem dX3_runLength_17 : decode cX3_runLength 17 = .ok (.iconst 1, 1) := by decide +kernel
theorem dX3_runLength_18 : decode cX3_runLength 18 = .ok (.if_icmp .eq 11, 3) := by decide +kernel
theorem dX3_runLength_21 : decode cX3_runLength 21 = .ok (.iload 4, 2) := by decide +kernel
theorem dX3_runLength_23 : decode cX3_runLength 23 = .ok (.iconst (-1), 1) := by decide +kernel
theorem dX3_runLength_24 : decode cX3_runLength 24 = .ok (.if_icmp .eq 5, 3) := by decide +kernel
theorem dX3_runLength_27 : decode cX3_runLength 27 = .ok (.iconst 0, 1) := by decide +kernel
theorem dX3_runLength_28 : decode cX3_runLength 28 = .ok (.ireturn, 1) := by decide +kernel
theorem dX3_runLength_29 : decode cX3_runLength 29 = .ok (.iconst 2, 1) := by decide +kernel
theorem dX3_runLength_30 : decode cX3_runLength 30 = .ok (.istore 5, 2) := by decide +kernel
theorem dX3_runLength_32 : decode cX3_runLength 32 = .ok (.iload 5, 2) := by decide +kernel
theorem dX3_runLength_34 : decode cX3_runLength 34 = .ok (.iload_n 3, 1) := by decide +kernel
theorem dX3_runLength_35 : decode cX3_runLength 35 = .ok (.if_icmp .ge 37, 3) := by decide +kernel
theorem dX3_runLength_38 : decode cX3_runLength 38 = .ok (.iload_n 0, 1) := by decide +kernel
theorem dX3_runLength_39 : decode cX3_runLength 39 = .ok (.iload_n 1, 1) := by decide +kernel
theorem dX3_runLength_40 : decode cX3_runLength 40 = .ok (.iload 5, 2) := by decide +kernel
theorem dX3_runLength_42 : decode cX3_runLength 42 = .ok (.iload_n 2, 1) := by decide +kernel
theorem dX3_runLength_43 : decode cX3_runLength 43 = .ok (.imul, 1) := by decide +kernel
theorem dX3_runLength_44 : decode cX3_runLength 44 = .ok (.iadd, 1) := by decide +kernel
theorem dX3_runLength_45 : decode cX3_runLength 45 = .ok (.invokestatic 15, 3) := by decide +kernel
theorem dX3_runLength_48 : decode cX3_runLength 48 = .ok (.iload_n 0, 1) := by decide +kernel
theorem dX3_runLength_49 : decode cX3_runLength 49 = .ok (.iload_n 1, 1) := by decide +kernel
theorem dX3_runLength_50 : decode cX3_runLength 50 = .ok (.iload 5, 2) := by decide +kernel
theorem dX3_runLength_52 : decode cX3_runLength 52 = .ok (.iconst 1, 1) := by decide +kernel
theorem dX3_runLength_53 : decode cX3_runLength 53 = .ok (.isub, 1) := by decide +kernel
theorem dX3_runLength_54 : decode cX3_runLength 54 = .ok (.iload_n 2, 1) := by decide +kernel
theorem dX3_runLength_55 : decode cX3_runLength 55 = .ok (.imul, 1) := by decide +kernel
theorem dX3_runLength_56 : decode cX3_runLength 56 = .ok (.iadd, 1) := by decide +kernel
theorem dX3_runLength_57 : decode cX3_runLength 57 = .ok (.invokestatic 15, 3) := by decide +kernel
theorem dX3_runLength_60 : decode cX3_runLength 60 = .ok (.isub, 1) := by decide +kernel
theorem dX3_runLength_61 : decode cX3_runLength 61 = .ok (.iload 4, 2) := by decide +kernel
theorem dX3_runLength_63 : decode cX3_runLength 63 = .ok (.if_icmp .ne 9, 3) := by decide +kernel
theorem dX3_runLength_66 : decode cX3_runLength 66 = .ok (.iinc 5 1, 3) := by decide +kernel
theorem dX3_runLength_69 : decode cX3_runLength 69 = .ok (.goto (-37), 3) := by decide +kernel
theorem dX3_runLength_72 : decode cX3_runLength 72 = .ok (.iload 5, 2) := by decide +kernel
theorem dX3_runLength_74 : decode cX3_runLength 74 = .ok (.iconst 3, 1) := by decide +kernel
theorem dX3_runLength_75 : decode cX3_runLength 75 = .ok (.if_icmp .lt 8, 3) := by decide +kernel
theorem dX3_runLength_78 : decode cX3_runLength 78 = .ok (.iload 5, 2) := by decide +kernel
theorem dX3_runLength_80 : decode cX3_runLength 80 = .ok (.goto 4, 3) := by decide +kernel
theorem dX3_runLength_83 : decode cX3_runLength 83 = .ok (.iconst 0, 1) := by decide +kernel
theorem dX3_runLength_84 : decode cX3_runLength 84 = .ok (.ireturn, 1) := by decide +kernel
set_option maxRecDepth 20000 in
theorem ggX3_rank_J6_bitCount_0f7a4 : GoodIn wsX3_rank wsJ6_bitCount_0f7a4 := goodIn_r _ [4, 5, 6, 7] (by decide +kernel) (by decide +kernel)
set_option maxRecDepth 20000 in
theorem gX3_rank_J6_bitCount_0f7a4 : GoodIn wsX3_rank (va_wsS RX3 30 yJ6_bitCount_0f7a4 wsJ6_bitCount_0f7a4) := goodIn_app (goodIn_of _ (by decide +kernel)) ggX3_rank_J6_bitCount_0f7a4
theorem dX3_rank_0 : decode cX3_rank 0 = .ok (.iconst 0, 1) := by decide +kernel
theorem dX3_rank_1 : decode cX3_rank 1 = .ok (.istore_n 2, 1) := by decide +kernel
theorem dX3_rank_2 : decode cX3_rank 2 = .ok (.iconst 0, 1) := by decide +kernel
theorem dX3_rank_3 : decode cX3_rank 3 = .ok (.istore_n 3, 1) := by decide +kernel
theorem dX3_rank_4 : decode cX3_rank 4 = .ok (.iload_n 0, 1) := by decide +kernel
theorem dX3_rank_5 : decode cX3_rank 5 = .ok (.istore 4, 2) := by decide +kernel
theorem dX3_rank_7 : decode cX3_rank 7 = .ok (.iload_n 1, 1) := by decide +kernel
theorem dX3_rank_8 : decode cX3_rank 8 = .ok (.istore 5, 2) := by decide +kernel
theorem dX3_rank_10 : decode cX3_rank 10 = .ok (.iload 5, 2) := by decide +kernel
theorem dX3_rank_12 : decode cX3_rank 12 = .ok (.iconst 1, 1) := by decide +kernel
theorem dX3_rank_13 : decode cX3_rank 13 = .ok (.if_icmp .lt 55, 3) := by decide +kernel
theorem dX3_rank_16 : decode cX3_rank 16 = .ok (.iload 4, 2) := by decide +kernel
theorem dX3_rank_18 : decode cX3_rank 18 = .ok (.bipush 15, 2) := by decide +kernel
theorem dX3_rank_20 : decode cX3_rank 20 = .ok (.iand, 1) := by decide +kernel
theorem dX3_rank_21 : decode cX3_rank 21 = .ok (.istore 6, 2) := by decide +kernel
theorem dX3_rank_23 : decode cX3_rank 23 = .ok (.iload 4, 2) := by decide +kernel
theorem dX3_rank_25 : decode cX3_rank 25 = .ok (.iconst 4, 1) := by decide +kernel
theorem dX3_rank_26 : decode cX3_rank 26 = .ok (.ishr, 1) := by decide +kernel
theorem dX3_rank_27 : decode cX3_rank 27 = .ok (.istore 4, 2) := by decide +kernel
theorem dX3_rank_29 : decode cX3_rank 29 = .ok (.iload_n 3, 1) := by decide +kernel
theorem dX3_rank_30 : decode cX3_rank 30 = .ok (.iconst 1, 1) := by decide +kernel
theorem dX3_rank_31 : decode cX3_rank 31 = .ok (.iload 6, 2) := by decide +kernel
theorem dX3_rank_33 : decode cX3_rank 33 = .ok (.ishl, 1) := by decide +kernel
theorem dX3_rank_34 : decode cX3_rank 34 = .ok (.iconst 1, 1) := by decide +kernel
theorem dX3_rank_35 : decode cX3_rank 35 = .ok (.isub, 1) := by decide +kernel
theorem dX3_rank_36 : decode cX3_rank 36 = .ok (.iand, 1) := by decide +kernel
theorem dX3_rank_37 : decode cX3_rank 37 = .ok (.invokestatic 30, 3) := by decide +kernel
theorem dX3_rank_40 : decode cX3_rank 40 = .ok (.istore 7, 2) := by decide +kernel
theorem dX3_rank_42 : decode cX3_rank 42 = .ok (.iload_n 2, 1) := by decide +kernel
theorem dX3_rank_43 : decode cX3_rank 43 = .ok (.iload 5, 2) := by decide +kernel
theorem dX3_rank_45 : decode cX3_rank 45 = .ok (.imul, 1) := by decide +kernel
theorem dX3_rank_46 : decode cX3_rank 46 = .ok (.iload 6, 2) := by decide +kernel
theorem dX3_rank_48 : decode cX3_rank 48 = .ok (.iadd, 1) := by decide +kernel
theorem dX3_rank_49 : decode cX3_rank 49 = .ok (.iconst 1, 1) := by decide +kernel
theorem dX3_rank_50 : decode cX3_rank 50 = .ok (.isub, 1) := by decide +kernel
theorem dX3_rank_51 : decode cX3_rank 51 = .ok (.iload 7, 2) := by decide +kernel
theorem dX3_rank_53 : decode cX3_rank 53 = .ok (.isub, 1) := by decide +kernel
theorem dX3_rank_54 : decode cX3_rank 54 = .ok (.istore_n 2, 1) := by decide +kernel
theorem dX3_rank_55 : decode cX3_rank 55 = .ok (.iload_n 3, 1) := by decide +kernel
theorem dX3_rank_56 : decode cX3_rank 56 = .ok (.iconst 1, 1) := by decide +kernel
theorem dX3_rank_57 : decode cX3_rank 57 = .ok (.iload 6, 2) := by decide +kernel
theorem dX3_rank_59 : decode cX3_rank 59 = .ok (.ishl, 1) := by decide +kernel
theorem dX3_rank_60 : decode cX3_rank 60 = .ok (.ior, 1) := by decide +kernel
theorem dX3_rank_61 : decode cX3_rank 61 = .ok (.istore_n 3, 1) := by decide +kernel
theorem dX3_rank_62 : decode cX3_rank 62 = .ok (.iinc 5 (-1), 3) := by decide +kernel
theorem dX3_rank_65 : decode cX3_rank 65 = .ok (.goto (-55), 3) := by decide +kernel
theorem dX3_rank_68 : decode cX3_rank 68 = .ok (.iload_n 2, 1) := by decide +kernel
theorem dX3_rank_69 : decode cX3_rank 69 = .ok (.ireturn, 1) := by decide +kernel
set_option maxRecDepth 20000 in
theorem ggX4_init_X1_init : GoodIn wsX4_init wsX1_init := goodIn_r _ [15, 16, 2, 3, 17, 18, 19, 20, 21, 22, 41, 42] (by decide +kernel) (by decide +kernel)
set_option maxRecDepth 20000 in
theorem gX4_init_X1_init : GoodIn wsX4_init (wsX1_init) := ggX4_init_X1_init
set_option maxRecDepth 20000 in
theorem ggX4_init_X5_init : GoodIn wsX4_init wsX5_init := goodIn_r _ [25, 26, 2, 3, 27, 5, 6, 28, 29, 30, 31, 32, 33, 34, 35, 36, 14, 15, 16, 17, 18, 19, 20, 21, 22, 37, 38, 39, 40, 41, 42, 47, 48, 49, 50, 51, 52, 53] (by decide +kernel) (by decide +kernel)
set_option maxRecDepth 20000 in
theorem gX4_init_X5_init : GoodIn wsX4_init (wsX5_init) := ggX4_init_X5_init
theorem dX4_init_0 : decode cX4_init 0 = .ok (.aload_n 0, 1) := by decide +kernel
theorem dX4_init_1 : decode cX4_init 1 = .ok (.invokespecial 3, 3) := by decide +kernel
theorem dX4_init_4 : decode cX4_init 4 = .ok (.aload_n 0, 1) := by decide +kernel
theorem dX4_init_5 : decode cX4_init 5 = .ok (.new 9, 3) := by decide +kernel
theorem dX4_init_8 : decode cX4_init 8 = .ok (.dup, 1) := by decide +kernel
theorem dX4_init_9 : decode cX4_init 9 = .ok (.iconst 5, 1) := by decide +kernel
theorem dX4_init_10 : decode cX4_init 10 = .ok (.invokespecial 11, 3) := by decide +kernel
theorem dX4_init_13 : decode cX4_init 13 = .ok (.putfield 14, 3) := by decide +kernel
theorem dX4_init_16 : decode cX4_init 16 = .ok (.aload_n 0, 1) := by decide +kernel
theorem dX4_init_17 : decode cX4_init 17 = .ok (.iconst (-1), 1) := by decide +kernel
theorem dX4_init_18 : decode cX4_init 18 = .ok (.putfield 20, 3) := by decide +kernel
theorem dX4_init_21 : decode cX4_init 21 = .ok (.aload_n 0, 1) := by decide +kernel
theorem dX4_init_22 : decode cX4_init 22 = .ok (.new 24, 3) := by decide +kernel
theorem dX4_init_25 : decode cX4_init 25 = .ok (.dup, 1) := by decide +kernel
theorem dX4_init_26 : decode cX4_init 26 = .ok (.aload_n 1, 1) := by decide +kernel
theorem dX4_init_27 : decode cX4_init 27 = .ok (.invokespecial 26, 3) := by decide +kernel
theorem dX4_init_30 : decode cX4_init 30 = .ok (.putfield 29, 3) := by decide +kernel
theorem dX4_init_33 : decode cX4_init 33 = .ok (.return_, 1) := by decide +kernel
set_option maxRecDepth 20000 in
theorem ggX4_look_X1_clear : GoodIn wsX4_look wsX1_clear := goodIn_r _ [8, 9, 167, 168] (by decide +kernel) (by decide +kernel)
set_option maxRecDepth 20000 in
theorem gX4_look_X1_clear : GoodIn wsX4_look (wsV RX4 33 RX1 yX1_clear wsX1_clear) := goodIn_app (goodIn_of _ (by decide +kernel)) ggX4_look_X1_clear
set_option maxRecDepth 20000 in
theorem ggX4_look_X4_extend : GoodIn wsX4_look wsX4_extend := goodIn_r _ [13, 14, 15, 16, 17, 18, 19, 20, 21, 22, 23, 7, 24, 9, 25, 26, 27, 28, 29, 30, 31, 32, 33, 34, 35, 36, 37, 38, 39, 40, 41, 42, 43, 44, 45, 46, 47, 48, 49, 50, 51, 52, 53, 54, 55, 56, 57, 58, 59, 60, 61, 62, 63, 64, 65, 66, 67, 68, 69, 70, 71, 72, 73, 74, 75, 76, 77, 78, 79, 80, 81, 82, 83, 84, 85, 86, 87, 88, 89, 90, 91, 92, 93, 94, 95, 96, 97, 98, 99, 100, 101, 102, 103, 104, 105, 106, 107, 108, 109, 110, 111, 112, 113, 114, 115, 116, 117, 118, 119, 120, 121, 122, 123, 124, 125, 126, 127, 128, 129, 130, 131, 132, 133, 12, 134, 2, 3, 1, 135, 136, 137, 138, 139, 4, 5, 6, 8, 140, 141, 142, 143, 144, 10, 11, 145, 146, 147, 148, 149, 150, 151, 152, 153, 154, 155, 156, 157, 158, 159, 160, 161, 162, 163, 164, 165, 166, 169, 170, 171, 172, 173, 174, 167, 168, 175, 176, 177, 178, 179] (by decide +kernel) (by decide +kernel)
set_option maxRecDepth 20000 in
theorem gX4_look_X4_extend : GoodIn wsX4_look (va_wsS RX4 39 yX4_extend wsX4_extend) := goodIn_app (goodIn_of _ (by decide +kernel)) ggX4_look_X4_extend
theorem dX4_look_0 : decode cX4_look 0 = .ok (.aload_n 0, 1) := by decide +kernel
theorem dX4_look_1 : decode cX4_look 1 = .ok (.getfield 14, 3) := by decide +kernel
theorem dX4_look_4 : decode cX4_look 4 = .ok (.invokevirtual 33, 3) := by decide +kernel
theorem dX4_look_7 : decode cX4_look 7 = .ok (.aload_n 0, 1) := by decide +kernel
theorem dX4_look_8 : decode cX4_look 8 = .ok (.iconst 0, 1) := by decide +kernel
theorem dX4_look_9 : decode cX4_look 9 = .ok (.putfield 36, 3) := by decide +kernel
theorem dX4_look_12 : decode cX4_look 12 = .ok (.aload_n 0, 1) := by decide +kernel
theorem dX4_look_13 : decode cX4_look 13 = .ok (.iconst (-1), 1) := by decide +kernel
theorem dX4_look_14 : decode cX4_look 14 = .ok (.putfield 20, 3) := by decide +kernel
theorem dX4_look_17 : decode cX4_look 17 = .ok (.aload_n 0, 1) := by decide +kernel
theorem dX4_look_18 : decode cX4_look 18 = .ok (.iload_n 1, 1) := by decide +kernel
theorem dX4_look_19 : decode cX4_look 19 = .ok (.invokestatic 39, 3) := by decide +kernel
theorem dX4_look_22 : decode cX4_look 22 = .ok (.return_, 1) := by decide +kernel
set_option maxRecDepth 20000 in
theorem ggX4_extend_X5_lay : GoodIn wsX4_extend wsX5_lay := goodIn_r _ [6, 7, 8, 9, 10, 11, 12, 13, 14, 15, 16, 17, 5, 18, 19, 20, 21, 22, 23, 24, 25, 26, 27, 28, 29, 30, 31, 32, 33, 34, 35, 36, 37, 38, 39, 40, 41, 42, 43, 44, 45, 46, 47, 48, 49, 50, 51, 52, 53, 54, 55, 56, 57, 58, 59, 60, 61, 62, 63, 64, 65, 66, 67, 68, 69, 70, 71, 72, 73, 74, 75, 76, 77, 78, 79, 80, 81, 82, 83, 84, 85, 86, 87, 88, 89, 90, 91, 92, 93, 94, 95, 96, 97, 98, 166, 167, 168, 169, 170, 171, 172, 173, 174, 175, 176, 177, 178] (by decide +kernel) (by decide +kernel)
set_option maxRecDepth 20000 in
theorem gX4_extend_X5_lay : GoodIn wsX4_extend (wsV RX4 43 RX5 yX5_lay wsX5_lay) := goodIn_app (goodIn_of _ (by decide +kernel)) ggX4_extend_X5_lay
set_option maxRecDepth 20000 in
theorem ggX4_extend_X5_isTrue : GoodIn wsX4_extend wsX5_isTrue := goodIn_r _ [102, 78, 166, 167, 168, 169, 170, 171] (by decide +kernel) (by decide +kernel)
set_option maxRecDepth 20000 in
theorem gX4_extend_X5_isTrue : GoodIn wsX4_extend (wsV RX4 46 RX5 yX5_isTrue wsX5_isTrue) := goodIn_app (goodIn_of _ (by decide +kernel)) ggX4_extend_X5_isTrue
set_option maxRecDepth 20000 in
theorem ggX4_extend_X5_comesRound : GoodIn wsX4_extend wsX5_comesRound := goodIn_r _ [106, 24, 19, 25, 26, 27, 11, 28, 13, 20, 21, 22, 5, 23, 29, 30, 31, 32, 33, 34, 35, 36, 37, 38, 39, 40, 41, 42, 43, 44, 45, 14, 166, 167, 168, 169, 170, 171, 172, 173, 174, 175, 176, 177] (by decide +kernel) (by decide +kernel)
set_option maxRecDepth 20000 in
theorem gX4_extend_X5_comesRound : GoodIn wsX4_extend (wsV RX4 50 RX5 yX5_comesRound wsX5_comesRound) := goodIn_app (goodIn_of _ (by decide +kernel)) ggX4_extend_X5_comesRound
set_option maxRecDepth 20000 in
theorem ggX4_extend_X5_musicInAll : GoodIn wsX4_extend wsX5_musicInAll := goodIn_r _ [110, 24, 19, 25, 26, 27, 11, 28, 13, 42, 43, 44, 45, 14, 29, 30, 31, 32, 33, 34, 111, 112, 37, 113, 114, 115, 116, 117, 118, 119, 166, 167, 168, 169, 170, 171, 172, 173, 174, 175, 176, 177] (by decide +kernel) (by decide +kernel)
set_option maxRecDepth 20000 in
theorem gX4_extend_X5_musicInAll : GoodIn wsX4_extend (wsV RX4 53 RX5 yX5_musicInAll wsX5_musicInAll) := goodIn_app (goodIn_of _ (by decide +kernel)) ggX4_extend_X5_musicInAll
set_option maxRecDepth 20000 in
theorem ggX4_extend_X4_keep : GoodIn wsX4_extend wsX4_keep := goodIn_r _ [124, 125, 126, 1, 127, 128, 129, 130, 5, 131, 7, 25, 26, 27, 11, 28, 13, 132, 133, 134, 135, 136, 137, 138, 139, 140, 42, 43, 44, 45, 14, 141, 9, 10, 12, 162, 163, 164, 165, 166, 167, 168, 169, 170, 171, 172, 173] (by decide +kernel) (by decide +kernel)
set_option maxRecDepth 20000 in
theorem gX4_extend_X4_keep : GoodIn wsX4_extend (wsV RX4 57 RX4 yX4_keep wsX4_keep) := goodIn_app (goodIn_of _ (by decide +kernel)) ggX4_extend_X4_keep
set_option maxRecDepth 20000 in
theorem ggX4_extend_X4_extend : GoodIn wsX4_extend wsX4_extend := goodIn_r _ [0, 1, 2, 3, 4, 5, 6, 7, 8, 9, 10, 11, 12, 13, 14, 15, 16, 17, 18, 19, 20, 21, 22, 23, 24, 25, 26, 27, 28, 29, 30, 31, 32, 33, 34, 35, 36, 37, 38, 39, 40, 41, 42, 43, 44, 45, 46, 47, 48, 49, 50, 51, 52, 53, 54, 55, 56, 57, 58, 59, 60, 61, 62, 63, 64, 65, 66, 67, 68, 69, 70, 71, 72, 73, 74, 75, 76, 77, 78, 79, 80, 81, 82, 83, 84, 85, 86, 87, 88, 89, 90, 91, 92, 93, 94, 95, 96, 97, 98, 99, 100, 101, 102, 103, 104, 105, 106, 107, 108, 109, 110, 111, 112, 113, 114, 115, 116, 117, 118, 119, 120, 121, 122, 123, 124, 125, 126, 127, 128, 129, 130, 131, 132, 133, 134, 135, 136, 137, 138, 139, 140, 141, 142, 143, 144, 145, 146, 147, 148, 149, 150, 151, 152, 153, 154, 155, 156, 157, 158, 159, 160, 161, 162, 163, 164, 165, 166, 167, 168, 169, 170, 171, 172, 173, 174, 175, 176, 177, 178] (by decide +kernel) (by decide +kernel)
set_option maxRecDepth 20000 in
theorem gX4_extend_X4_extend : GoodIn wsX4_extend (va_wsS RX4 39 yX4_extend wsX4_extend) := goodIn_app (goodIn_of _ (by decide +kernel)) ggX4_extend_X4_extend
set_option maxRecDepth 20000 in
theorem ggX4_extend_X5_takeLast : GoodIn wsX4_extend wsX5_takeLast := goodIn_r _ [147, 19, 7, 46, 47, 48, 32, 49, 50, 51, 26, 27, 11, 28, 13, 148, 149, 150, 5, 151, 24, 76, 77, 78, 25, 152, 153, 154, 155, 156, 43, 44, 45, 14, 29, 30, 31, 33, 34, 79, 80, 37, 81, 82, 83, 84, 85, 86, 87, 88, 89, 90, 91, 92, 93, 94, 157, 158, 159, 160, 161, 96, 97, 98, 166, 167, 168, 169, 170, 171, 174, 175, 176, 177, 172, 173, 178] (by decide +kernel) (by decide +kernel)
set_option maxRecDepth 20000 in
theorem gX4_extend_X5_takeLast : GoodIn wsX4_extend (wsV RX4 60 RX5 yX5_takeLast wsX5_takeLast) := goodIn_app (goodIn_of _ (by decide +kernel)) ggX4_extend_X5_takeLast
theorem dX4_extend_0 : decode cX4_extend 0 = .ok (.iload_n 1, 1) := by decide +kernel
theorem dX4_extend_1 : decode cX4_extend 1 = .ok (.iconst 1, 1) := by decide +kernel
theorem dX4_extend_2 : decode cX4_extend 2 = .ok (.if_icmp .lt 8, 3) := by decide +kernel
theorem dX4_extend_5 : decode cX4_extend 5 = .ok (.iload_n 1, 1) := by decide +kernel
theorem dX4_extend_6 : decode cX4_extend 6 = .ok (.iconst 5, 1) := by decide +kernel
theorem dX4_extend_7 : decode cX4_extend 7 = .ok (.if_icmp .le 4, 3) := by decide +kernel
theorem dX4_extend_10 : decode cX4_extend 10 = .ok (.return_, 1) := by decide +kernel
theorem dX4_extend_11 : decode cX4_extend 11 = .ok (.iconst 0, 1) := by decide +kernel
theorem dX4_extend_12 : decode cX4_extend 12 = .ok (.istore_n 2, 1) := by decide +kernel
theorem dX4_extend_13 : decode cX4_extend 13 = .ok (.iload_n 2, 1) := by decide +kernel
theorem dX4_extend_14 : decode cX4_extend 14 = .ok (.iconst 2, 1) := by decide +kernel
theorem dX4_extend_15 : decode cX4_extend 15 = .ok (.if_icmp .gt 66, 3) := by decide +kernel
theorem dX4_extend_18 : decode cX4_extend 18 = .ok (.aload_n 0, 1) := by decide +kernel
theorem dX4_extend_19 : decode cX4_extend 19 = .ok (.getfield 29, 3) := by decide +kernel
theorem dX4_extend_22 : decode cX4_extend 22 = .ok (.iload_n 2, 1) := by decide +kernel
theorem dX4_extend_23 : decode cX4_extend 23 = .ok (.invokevirtual 43, 3) := by decide +kernel
theorem dX4_extend_26 : decode cX4_extend 26 = .ok (.aload_n 0, 1) := by decide +kernel
theorem dX4_extend_27 : decode cX4_extend 27 = .ok (.getfield 29, 3) := by decide +kernel
theorem dX4_extend_30 : decode cX4_extend 30 = .ok (.invokevirtual 46, 3) := by decide +kernel
theorem dX4_extend_33 : decode cX4_extend 33 = .ok (.ifCond .eq 34, 3) := by decide +kernel
theorem dX4_extend_36 : decode cX4_extend 36 = .ok (.aload_n 0, 1) := by decide +kernel
theorem dX4_extend_37 : decode cX4_extend 37 = .ok (.getfield 29, 3) := by decide +kernel
theorem dX4_extend_40 : decode cX4_extend 40 = .ok (.invokevirtual 50, 3) := by decide +kernel
theorem dX4_extend_43 : decode cX4_extend 43 = .ok (.ifCond .eq 17, 3) := by decide +kernel
theorem dX4_extend_46 : decode cX4_extend 46 = .ok (.aload_n 0, 1) := by decide +kernel
theorem dX4_extend_47 : decode cX4_extend 47 = .ok (.aload_n 0, 1) := by decide +kernel
theorem dX4_extend_48 : decode cX4_extend 48 = .ok (.getfield 29, 3) := by decide +kernel
theorem dX4_extend_51 : decode cX4_extend 51 = .ok (.invokevirtual 53, 3) := by decide +kernel
theorem dX4_extend_54 : decode cX4_extend 54 = .ok (.invokevirtual 57, 3) := by decide +kernel
theorem dX4_extend_57 : decode cX4_extend 57 = .ok (.goto 10, 3) := by decide +kernel
theorem dX4_extend_60 : decode cX4_extend 60 = .ok (.aload_n 0, 1) := by decide +kernel
theorem dX4_extend_61 : decode cX4_extend 61 = .ok (.iload_n 1, 1) := by decide +kernel
theorem dX4_extend_62 : decode cX4_extend 62 = .ok (.iconst 1, 1) := by decide +kernel
theorem dX4_extend_63 : decode cX4_extend 63 = .ok (.isub, 1) := by decide +kernel
theorem dX4_extend_64 : decode cX4_extend 64 = .ok (.invokestatic 39, 3) := by decide +kernel
theorem dX4_extend_67 : decode cX4_extend 67 = .ok (.aload_n 0, 1) := by decide +kernel
theorem dX4_extend_68 : decode cX4_extend 68 = .ok (.getfield 29, 3) := by decide +kernel
theorem dX4_extend_71 : decode cX4_extend 71 = .ok (.invokevirtual 60, 3) := by decide +kernel
theorem dX4_extend_74 : decode cX4_extend 74 = .ok (.pop, 1) := by decide +kernel
theorem dX4_extend_75 : decode cX4_extend 75 = .ok (.iinc 2 1, 3) := by decide +kernel
theorem dX4_extend_78 : decode cX4_extend 78 = .ok (.goto (-65), 3) := by decide +kernel
theorem dX4_extend_81 : decode cX4_extend 81 = .ok (.return_, 1) := by decide +kernel
set_option maxRecDepth 20000 in
theorem ggX4_keep_X5_callCount : GoodIn wsX4_keep wsX5_callCount := goodIn_r _ [9, 10, 11, 12, 13, 14, 15, 16, 39, 40, 41, 42, 43, 44, 45, 46] (by decide +kernel) (by decide +kernel)
set_option maxRecDepth 20000 in
theorem gX4_keep_X5_callCount : GoodIn wsX4_keep (wsV RX4 63 RX5 yX5_callCount wsX5_callCount) := goodIn_app (goodIn_of _ (by decide +kernel)) ggX4_keep_X5_callCount
set_option maxRecDepth 20000 in
theorem ggX4_keep_X1_size : GoodIn wsX4_keep wsX1_size := goodIn_r _ [15, 16, 45, 46] (by decide +kernel) (by decide +kernel)
set_option maxRecDepth 20000 in
theorem gX4_keep_X1_size : GoodIn wsX4_keep (wsV RX4 66 RX1 yX1_size wsX1_size) := goodIn_app (goodIn_of _ (by decide +kernel)) ggX4_keep_X1_size
set_option maxRecDepth 20000 in
theorem ggX4_keep_X1_clear : GoodIn wsX4_keep wsX1_clear := goodIn_r _ [21, 16, 45, 46] (by decide +kernel) (by decide +kernel)
set_option maxRecDepth 20000 in
theorem gX4_keep_X1_clear : GoodIn wsX4_keep (wsV RX4 33 RX1 yX1_clear wsX1_clear) := goodIn_app (goodIn_of _ (by decide +kernel)) ggX4_keep_X1_clear
set_option maxRecDepth 20000 in
theorem ggX4_keep_X5_laidCall : GoodIn wsX4_keep wsX5_laidCall := goodIn_r _ [25, 10, 26, 27, 28, 14, 29, 16, 30, 39, 40, 41, 42, 43, 44, 45, 46] (by decide +kernel) (by decide +kernel)
set_option maxRecDepth 20000 in
theorem gX4_keep_X5_laidCall : GoodIn wsX4_keep (wsV RX4 69 RX5 yX5_laidCall wsX5_laidCall) := goodIn_app (goodIn_of _ (by decide +kernel)) ggX4_keep_X5_laidCall
set_option maxRecDepth 20000 in
theorem ggX4_keep_X1_add : GoodIn wsX4_keep wsX1_add := goodIn_r _ [34, 16, 30, 45, 46] (by decide +kernel) (by decide +kernel)
set_option maxRecDepth 20000 in
theorem gX4_keep_X1_add : GoodIn wsX4_keep (wsV RX4 73 RX1 yX1_add wsX1_add) := goodIn_app (goodIn_of _ (by decide +kernel)) ggX4_keep_X1_add
theorem dX4_keep_0 : decode cX4_keep 0 = .ok (.aload_n 0, 1) := by decide +kernel
theorem dX4_keep_1 : decode cX4_keep 1 = .ok (.dup, 1) := by decide +kernel
theorem dX4_keep_2 : decode cX4_keep 2 = .ok (.getfield 36, 3) := by decide +kernel
theorem dX4_keep_5 : decode cX4_keep 5 = .ok (.iconst 1, 1) := by decide +kernel
theorem dX4_keep_6 : decode cX4_keep 6 = .ok (.iadd, 1) := by decide +kernel
theorem dX4_keep_7 : decode cX4_keep 7 = .ok (.putfield 36, 3) := by decide +kernel
theorem dX4_keep_10 : decode cX4_keep 10 = .ok (.iload_n 1, 1) := by decide +kernel
theorem dX4_keep_11 : decode cX4_keep 11 = .ok (.aload_n 0, 1) := by decide +kernel
theorem dX4_keep_12 : decode cX4_keep 12 = .ok (.getfield 20, 3) := by decide +kernel
theorem dX4_keep_15 : decode cX4_keep 15 = .ok (.if_icmp .ne 24, 3) := by decide +kernel
theorem dX4_keep_18 : decode cX4_keep 18 = .ok (.aload_n 0, 1) := by decide +kernel
theorem dX4_keep_19 : decode cX4_keep 19 = .ok (.getfield 29, 3) := by decide +kernel
theorem dX4_keep_22 : decode cX4_keep 22 = .ok (.invokevirtual 63, 3) := by decide +kernel
theorem dX4_keep_25 : decode cX4_keep 25 = .ok (.aload_n 0, 1) := by decide +kernel
theorem dX4_keep_26 : decode cX4_keep 26 = .ok (.getfield 14, 3) := by decide +kernel
theorem dX4_keep_29 : decode cX4_keep 29 = .ok (.invokevirtual 66, 3) := by decide +kernel
theorem dX4_keep_32 : decode cX4_keep 32 = .ok (.if_icmp .ge 7, 3) := by decide +kernel
theorem dX4_keep_35 : decode cX4_keep 35 = .ok (.iconst 1, 1) := by decide +kernel
theorem dX4_keep_36 : decode cX4_keep 36 = .ok (.goto 4, 3) := by decide +kernel
theorem dX4_keep_39 : decode cX4_keep 39 = .ok (.iconst 0, 1) := by decide +kernel
theorem dX4_keep_40 : decode cX4_keep 40 = .ok (.istore_n 2, 1) := by decide +kernel
theorem dX4_keep_41 : decode cX4_keep 41 = .ok (.iload_n 1, 1) := by decide +kernel
theorem dX4_keep_42 : decode cX4_keep 42 = .ok (.aload_n 0, 1) := by decide +kernel
theorem dX4_keep_43 : decode cX4_keep 43 = .ok (.getfield 20, 3) := by decide +kernel
theorem dX4_keep_46 : decode cX4_keep 46 = .ok (.if_icmp .gt 7, 3) := by decide +kernel
theorem dX4_keep_49 : decode cX4_keep 49 = .ok (.iload_n 2, 1) := by decide +kernel
theorem dX4_keep_50 : decode cX4_keep 50 = .ok (.ifCond .eq 49, 3) := by decide +kernel
theorem dX4_keep_53 : decode cX4_keep 53 = .ok (.aload_n 0, 1) := by decide +kernel
theorem dX4_keep_54 : decode cX4_keep 54 = .ok (.iload_n 1, 1) := by decide +kernel
theorem dX4_keep_55 : decode cX4_keep 55 = .ok (.putfield 20, 3) := by decide +kernel
theorem dX4_keep_58 : decode cX4_keep 58 = .ok (.aload_n 0, 1) := by decide +kernel
theorem dX4_keep_59 : decode cX4_keep 59 = .ok (.getfield 14, 3) := by decide +kernel
theorem dX4_keep_62 : decode cX4_keep 62 = .ok (.invokevirtual 33, 3) := by decide +kernel
theorem dX4_keep_65 : decode cX4_keep 65 = .ok (.iconst 0, 1) := by decide +kernel
theorem dX4_keep_66 : decode cX4_keep 66 = .ok (.istore_n 3, 1) := by decide +kernel
theorem dX4_keep_67 : decode cX4_keep 67 = .ok (.iload_n 3, 1) := by decide +kernel
theorem dX4_keep_68 : decode cX4_keep 68 = .ok (.aload_n 0, 1) := by decide +kernel
theorem dX4_keep_69 : decode cX4_keep 69 = .ok (.getfield 29, 3) := by decide +kernel
theorem dX4_keep_72 : decode cX4_keep 72 = .ok (.invokevirtual 63, 3) := by decide +kernel
theorem dX4_keep_75 : decode cX4_keep 75 = .ok (.if_icmp .ge 24, 3) := by decide +kernel
theorem dX4_keep_78 : decode cX4_keep 78 = .ok (.aload_n 0, 1) := by decide +kernel
theorem dX4_keep_79 : decode cX4_keep 79 = .ok (.getfield 14, 3) := by decide +kernel
theorem dX4_keep_82 : decode cX4_keep 82 = .ok (.aload_n 0, 1) := by decide +kernel
theorem dX4_keep_83 : decode cX4_keep 83 = .ok (.getfield 29, 3) := by decide +kernel
theorem dX4_keep_86 : decode cX4_keep 86 = .ok (.iload_n 3, 1) := by decide +kernel
theorem dX4_keep_87 : decode cX4_keep 87 = .ok (.invokevirtual 69, 3) := by decide +kernel
theorem dX4_keep_90 : decode cX4_keep 90 = .ok (.invokevirtual 73, 3) := by decide +kernel
theorem dX4_keep_93 : decode cX4_keep 93 = .ok (.iinc 3 1, 3) := by decide +kernel
theorem dX4_keep_96 : decode cX4_keep 96 = .ok (.goto (-29), 3) := by decide +kernel
theorem dX4_keep_99 : decode cX4_keep 99 = .ok (.return_, 1) := by decide +kernel
theorem dX4_goodCount_0 : decode cX4_goodCount 0 = .ok (.aload_n 0, 1) := by decide +kernel
theorem dX4_goodCount_1 : decode cX4_goodCount 1 = .ok (.getfield 36, 3) := by decide +kernel
theorem dX4_goodCount_4 : decode cX4_goodCount 4 = .ok (.ireturn, 1) := by decide +kernel
theorem dX4_bestMusic_0 : decode cX4_bestMusic 0 = .ok (.aload_n 0, 1) := by decide +kernel
theorem dX4_bestMusic_1 : decode cX4_bestMusic 1 = .ok (.getfield 20, 3) := by decide +kernel
theorem dX4_bestMusic_4 : decode cX4_bestMusic 4 = .ok (.ireturn, 1) := by decide +kernel
set_option maxRecDepth 20000 in
theorem ggX4_bestLeads_X1_size : GoodIn wsX4_bestLeads wsX1_size := goodIn_r _ [6, 7, 12, 13] (by decide +kernel) (by decide +kernel)
set_option maxRecDepth 20000 in
theorem gX4_bestLeads_X1_size : GoodIn wsX4_bestLeads (wsV RX4 66 RX1 yX1_size wsX1_size) := goodIn_app (goodIn_of _ (by decide +kernel)) ggX4_bestLeads_X1_size
theorem dX4_bestLeads_0 : decode cX4_bestLeads 0 = .ok (.aload_n 0, 1) := by decide +kernel
theorem dX4_bestLeads_1 : decode cX4_bestLeads 1 = .ok (.getfield 14, 3) := by decide +kernel
theorem dX4_bestLeads_4 : decode cX4_bestLeads 4 = .ok (.invokevirtual 66, 3) := by decide +kernel
theorem dX4_bestLeads_7 : decode cX4_bestLeads 7 = .ok (.ireturn, 1) := by decide +kernel
set_option maxRecDepth 20000 in
theorem ggX4_callOfBest_X1_get : GoodIn wsX4_callOfBest wsX1_get := goodIn_r _ [6, 7, 8, 13, 14] (by decide +kernel) (by decide +kernel)
set_option maxRecDepth 20000 in
theorem gX4_callOfBest_X1_get : GoodIn wsX4_callOfBest (wsV RX4 76 RX1 yX1_get wsX1_get) := goodIn_app (goodIn_of _ (by decide +kernel)) ggX4_callOfBest_X1_get
theorem dX4_callOfBest_0 : decode cX4_callOfBest 0 = .ok (.aload_n 0, 1) := by decide +kernel
theorem dX4_callOfBest_1 : decode cX4_callOfBest 1 = .ok (.getfield 14, 3) := by decide +kernel
theorem dX4_callOfBest_4 : decode cX4_callOfBest 4 = .ok (.iload_n 1, 1) := by decide +kernel
theorem dX4_callOfBest_5 : decode cX4_callOfBest 5 = .ok (.invokevirtual 76, 3) := by decide +kernel
theorem dX4_callOfBest_8 : decode cX4_callOfBest 8 = .ok (.ireturn, 1) := by decide +kernel
set_option maxRecDepth 20000 in
theorem ggX5_init_X1_init : GoodIn wsX5_init wsX1_init := goodIn_r _ [17, 18, 2, 3, 19, 20, 21, 22, 23, 24, 29, 30] (by decide +kernel) (by decide +kernel)
set_option maxRecDepth 20000 in
theorem gX5_init_X1_init : GoodIn wsX5_init (wsX1_init) := ggX5_init_X1_init
set_option maxRecDepth 20000 in
theorem ggX5_init_X0_init : GoodIn wsX5_init wsX0_init := goodIn_r _ [26, 27, 2, 3, 23, 28, 37] (by decide +kernel) (by decide +kernel)
set_option maxRecDepth 20000 in
theorem gX5_init_X0_init_n25 : GoodIn wsX5_init (wsX0_init) := ggX5_init_X0_init
theorem dX5_init_0 : decode cX5_init 0 = .ok (.aload_n 0, 1) := by decide +kernel
theorem dX5_init_1 : decode cX5_init 1 = .ok (.invokespecial 3, 3) := by decide +kernel
theorem dX5_init_4 : decode cX5_init 4 = .ok (.aload_n 0, 1) := by decide +kernel
theorem dX5_init_5 : decode cX5_init 5 = .ok (.new 9, 3) := by decide +kernel
theorem dX5_init_8 : decode cX5_init 8 = .ok (.dup, 1) := by decide +kernel
theorem dX5_init_9 : decode cX5_init 9 = .ok (.bipush 24, 2) := by decide +kernel
theorem dX5_init_11 : decode cX5_init 11 = .ok (.invokespecial 11, 3) := by decide +kernel
theorem dX5_init_14 : decode cX5_init 14 = .ok (.putfield 14, 3) := by decide +kernel
theorem dX5_init_17 : decode cX5_init 17 = .ok (.aload_n 0, 1) := by decide +kernel
theorem dX5_init_18 : decode cX5_init 18 = .ok (.new 9, 3) := by decide +kernel
theorem dX5_init_21 : decode cX5_init 21 = .ok (.dup, 1) := by decide +kernel
theorem dX5_init_22 : decode cX5_init 22 = .ok (.sipush 336, 3) := by decide +kernel
theorem dX5_init_25 : decode cX5_init 25 = .ok (.invokespecial 11, 3) := by decide +kernel
theorem dX5_init_28 : decode cX5_init 28 = .ok (.putfield 20, 3) := by decide +kernel
theorem dX5_init_31 : decode cX5_init 31 = .ok (.aload_n 0, 1) := by decide +kernel
theorem dX5_init_32 : decode cX5_init 32 = .ok (.new 23, 3) := by decide +kernel
theorem dX5_init_35 : decode cX5_init 35 = .ok (.dup, 1) := by decide +kernel
theorem dX5_init_36 : decode cX5_init 36 = .ok (.invokespecial 25, 3) := by decide +kernel
theorem dX5_init_39 : decode cX5_init 39 = .ok (.putfield 26, 3) := by decide +kernel
theorem dX5_init_42 : decode cX5_init 42 = .ok (.aload_n 0, 1) := by decide +kernel
theorem dX5_init_43 : decode cX5_init 43 = .ok (.iconst (-1), 1) := by decide +kernel
theorem dX5_init_44 : decode cX5_init 44 = .ok (.putfield 30, 3) := by decide +kernel
theorem dX5_init_47 : decode cX5_init 47 = .ok (.aload_n 0, 1) := by decide +kernel
theorem dX5_init_48 : decode cX5_init 48 = .ok (.aload_n 1, 1) := by decide +kernel
theorem dX5_init_49 : decode cX5_init 49 = .ok (.putfield 34, 3) := by decide +kernel
theorem dX5_init_52 : decode cX5_init 52 = .ok (.return_, 1) := by decide +kernel
set_option maxRecDepth 20000 in
theorem ggX5_clear_X1_clear : GoodIn wsX5_clear wsX1_clear := goodIn_r _ [6, 7, 33, 34] (by decide +kernel) (by decide +kernel)
set_option maxRecDepth 20000 in
theorem gX5_clear_X1_clear : GoodIn wsX5_clear (wsV RX5 38 RX1 yX1_clear wsX1_clear) := goodIn_app (goodIn_of _ (by decide +kernel)) ggX5_clear_X1_clear
set_option maxRecDepth 20000 in
theorem ggX5_clear_X5_clearRows : GoodIn wsX5_clear wsX5_clearRows := goodIn_r _ [12, 13, 14, 15, 16, 2, 3, 4, 5, 6, 7, 17, 18, 19, 20, 21, 22, 23, 24, 25, 26, 27, 28, 29, 30, 31, 32, 33, 34, 35] (by decide +kernel) (by decide +kernel)
set_option maxRecDepth 20000 in
theorem gX5_clear_X5_clearRows : GoodIn wsX5_clear (wsV RX5 41 RX5 yX5_clearRows wsX5_clearRows) := goodIn_app (goodIn_of _ (by decide +kernel)) ggX5_clear_X5_clearRows
theorem dX5_clear_0 : decode cX5_clear 0 = .ok (.aload_n 0, 1) := by decide +kernel
theorem dX5_clear_1 : decode cX5_clear 1 = .ok (.getfield 14, 3) := by decide +kernel
theorem dX5_clear_4 : decode cX5_clear 4 = .ok (.invokevirtual 38, 3) := by decide +kernel
theorem dX5_clear_7 : decode cX5_clear 7 = .ok (.aload_n 0, 1) := by decide +kernel
theorem dX5_clear_8 : decode cX5_clear 8 = .ok (.invokevirtual 41, 3) := by decide +kernel
theorem dX5_clear_11 : decode cX5_clear 11 = .ok (.return_, 1) := by decide +kernel
set_option maxRecDepth 20000 in
theorem ggX5_clearRows_X1_clear : GoodIn wsX5_clearRows wsX1_clear := goodIn_r _ [9, 10, 27, 28] (by decide +kernel) (by decide +kernel)
set_option maxRecDepth 20000 in
theorem gX5_clearRows_X1_clear : GoodIn wsX5_clearRows (wsV RX5 38 RX1 yX1_clear wsX1_clear) := goodIn_app (goodIn_of _ (by decide +kernel)) ggX5_clearRows_X1_clear
set_option maxRecDepth 20000 in
theorem ggX5_clearRows_X0_clear : GoodIn wsX5_clearRows wsX0_clear := goodIn_r _ [15, 16, 17, 18, 19, 20, 29] (by decide +kernel) (by decide +kernel)
set_option maxRecDepth 20000 in
theorem gX5_clearRows_X0_clear : GoodIn wsX5_clearRows (wsV RX5 44 RX0 yX0_clear wsX0_clear) := goodIn_app (goodIn_of _ (by decide +kernel)) ggX5_clearRows_X0_clear
theorem dX5_clearRows_0 : decode cX5_clearRows 0 = .ok (.aload_n 0, 1) := by decide +kernel
theorem dX5_clearRows_1 : decode cX5_clearRows 1 = .ok (.getfield 20, 3) := by decide +kernel
theorem dX5_clearRows_4 : decode cX5_clearRows 4 = .ok (.invokevirtual 38, 3) := by decide +kernel
theorem dX5_clearRows_7 : decode cX5_clearRows 7 = .ok (.aload_n 0, 1) := by decide +kernel
theorem dX5_clearRows_8 : decode cX5_clearRows 8 = .ok (.getfield 26, 3) := by decide +kernel
theorem dX5_clearRows_11 : decode cX5_clearRows 11 = .ok (.invokevirtual 44, 3) := by decide +kernel
theorem dX5_clearRows_14 : decode cX5_clearRows 14 = .ok (.aload_n 0, 1) := by decide +kernel
theorem dX5_clearRows_15 : decode cX5_clearRows 15 = .ok (.iconst 0, 1) := by decide +kernel
theorem dX5_clearRows_16 : decode cX5_clearRows 16 = .ok (.putfield 45, 3) := by decide +kernel
theorem dX5_clearRows_19 : decode cX5_clearRows 19 = .ok (.aload_n 0, 1) := by decide +kernel
theorem dX5_clearRows_20 : decode cX5_clearRows 20 = .ok (.iconst (-1), 1) := by decide +kernel
theorem dX5_clearRows_21 : decode cX5_clearRows 21 = .ok (.putfield 30, 3) := by decide +kernel
theorem dX5_clearRows_24 : decode cX5_clearRows 24 = .ok (.return_, 1) := by decide +kernel
set_option maxRecDepth 20000 in
theorem ggX5_ringAgain_X5_clearRows : GoodIn wsX5_ringAgain wsX5_clearRows := goodIn_r _ [6, 7, 8, 9, 10, 11, 12, 13, 14, 15, 16, 17, 18, 19, 20, 21, 22, 23, 24, 25, 26, 110, 111, 112, 113, 114, 115, 116, 117, 118] (by decide +kernel) (by decide +kernel)
set_option maxRecDepth 20000 in
theorem gX5_ringAgain_X5_clearRows : GoodIn wsX5_ringAgain (wsV RX5 41 RX5 yX5_clearRows wsX5_clearRows) := goodIn_app (goodIn_of _ (by decide +kernel)) ggX5_ringAgain_X5_clearRows
set_option maxRecDepth 20000 in
theorem ggX5_ringAgain_X1_size : GoodIn wsX5_ringAgain wsX1_size := goodIn_r _ [30, 16, 116, 117] (by decide +kernel) (by decide +kernel)
set_option maxRecDepth 20000 in
theorem gX5_ringAgain_X1_size : GoodIn wsX5_ringAgain (wsV RX5 48 RX1 yX1_size wsX1_size) := goodIn_app (goodIn_of _ (by decide +kernel)) ggX5_ringAgain_X1_size
set_option maxRecDepth 20000 in
theorem ggX5_ringAgain_X1_get : GoodIn wsX5_ringAgain wsX1_get := goodIn_r _ [34, 16, 35, 116, 117] (by decide +kernel) (by decide +kernel)
set_option maxRecDepth 20000 in
theorem gX5_ringAgain_X1_get : GoodIn wsX5_ringAgain (wsV RX5 52 RX1 yX1_get wsX1_get) := goodIn_app (goodIn_of _ (by decide +kernel)) ggX5_ringAgain_X1_get
set_option maxRecDepth 20000 in
theorem ggX5_ringAgain_X5_ringLead : GoodIn wsX5_ringAgain wsX5_ringLead := goodIn_r _ [39, 40, 41, 42, 43, 5, 44, 7, 27, 28, 29, 14, 30, 16, 45, 46, 47, 48, 49, 50, 51, 52, 53, 54, 55, 56, 57, 31, 32, 33, 34, 35, 58, 59, 60, 61, 62, 63, 64, 65, 66, 67, 68, 69, 70, 71, 72, 73, 74, 75, 76, 77, 78, 79, 80, 81, 82, 83, 84, 85, 86, 87, 8, 9, 10, 88, 89, 90, 91, 92, 93, 94, 95, 96, 97, 98, 99, 100, 20, 101, 22, 102, 103, 104, 105, 106, 107, 108, 109, 110, 111, 112, 113, 114, 115, 116, 117, 119, 120, 121, 122, 118] (by decide +kernel) (by decide +kernel)
set_option maxRecDepth 20000 in
theorem gX5_ringAgain_X5_ringLead : GoodIn wsX5_ringAgain (wsV RX5 56 RX5 yX5_ringLead wsX5_ringLead) := goodIn_app (goodIn_of _ (by decide +kernel)) ggX5_ringAgain_X5_ringLead
theorem dX5_ringAgain_0 : decode cX5_ringAgain 0 = .ok (.aload_n 0, 1) := by decide +kernel
theorem dX5_ringAgain_1 : decode cX5_ringAgain 1 = .ok (.invokevirtual 41, 3) := by decide +kernel
theorem dX5_ringAgain_4 : decode cX5_ringAgain 4 = .ok (.iconst 0, 1) := by decide +kernel
theorem dX5_ringAgain_5 : decode cX5_ringAgain 5 = .ok (.istore_n 1, 1) := by decide +kernel
theorem dX5_ringAgain_6 : decode cX5_ringAgain 6 = .ok (.iload_n 1, 1) := by decide +kernel
theorem dX5_ringAgain_7 : decode cX5_ringAgain 7 = .ok (.aload_n 0, 1) := by decide +kernel
theorem dX5_ringAgain_8 : decode cX5_ringAgain 8 = .ok (.getfield 14, 3) := by decide +kernel
theorem dX5_ringAgain_11 : decode cX5_ringAgain 11 = .ok (.invokevirtual 48, 3) := by decide +kernel
theorem dX5_ringAgain_14 : decode cX5_ringAgain 14 = .ok (.if_icmp .ge 21, 3) := by decide +kernel
theorem dX5_ringAgain_17 : decode cX5_ringAgain 17 = .ok (.aload_n 0, 1) := by decide +kernel
theorem dX5_ringAgain_18 : decode cX5_ringAgain 18 = .ok (.aload_n 0, 1) := by decide +kernel
theorem dX5_ringAgain_19 : decode cX5_ringAgain 19 = .ok (.getfield 14, 3) := by decide +kernel
theorem dX5_ringAgain_22 : decode cX5_ringAgain 22 = .ok (.iload_n 1, 1) := by decide +kernel
theorem dX5_ringAgain_23 : decode cX5_ringAgain 23 = .ok (.invokevirtual 52, 3) := by decide +kernel
theorem dX5_ringAgain_26 : decode cX5_ringAgain 26 = .ok (.invokevirtual 56, 3) := by decide +kernel
theorem dX5_ringAgain_29 : decode cX5_ringAgain 29 = .ok (.iinc 1 1, 3) := by decide +kernel
theorem dX5_ringAgain_32 : decode cX5_ringAgain 32 = .ok (.goto (-26), 3) := by decide +kernel
theorem dX5_ringAgain_35 : decode cX5_ringAgain 35 = .ok (.return_, 1) := by decide +kernel
set_option maxRecDepth 20000 in
theorem ggX5_lay_X1_add : GoodIn wsX5_lay wsX1_add := goodIn_r _ [6, 7, 8, 100, 101] (by decide +kernel) (by decide +kernel)
set_option maxRecDepth 20000 in
theorem gX5_lay_X1_add : GoodIn wsX5_lay (wsV RX5 59 RX1 yX1_add wsX1_add) := goodIn_app (goodIn_of _ (by decide +kernel)) ggX5_lay_X1_add
set_option maxRecDepth 20000 in
theorem ggX5_lay_X5_ringLead : GoodIn wsX5_lay wsX5_ringLead := goodIn_r _ [13, 14, 15, 16, 17, 12, 18, 19, 20, 21, 22, 5, 23, 7, 24, 25, 26, 27, 28, 29, 30, 31, 32, 33, 34, 35, 36, 37, 38, 39, 40, 8, 41, 42, 43, 44, 45, 46, 47, 48, 49, 50, 51, 52, 53, 54, 55, 56, 57, 58, 59, 60, 61, 62, 63, 64, 65, 66, 67, 68, 69, 70, 71, 72, 73, 74, 75, 76, 77, 78, 79, 80, 81, 82, 83, 84, 85, 86, 87, 88, 89, 90, 91, 92, 93, 2, 3, 4, 6, 94, 95, 96, 97, 98, 99, 100, 101, 102, 103, 104, 105, 106] (by decide +kernel) (by decide +kernel)
set_option maxRecDepth 20000 in
theorem gX5_lay_X5_ringLead : GoodIn wsX5_lay (wsV RX5 56 RX5 yX5_ringLead wsX5_ringLead) := goodIn_app (goodIn_of _ (by decide +kernel)) ggX5_lay_X5_ringLead
theorem dX5_lay_0 : decode cX5_lay 0 = .ok (.aload_n 0, 1) := by decide +kernel
theorem dX5_lay_1 : decode cX5_lay 1 = .ok (.getfield 14, 3) := by decide +kernel
theorem dX5_lay_4 : decode cX5_lay 4 = .ok (.iload_n 1, 1) := by decide +kernel
theorem dX5_lay_5 : decode cX5_lay 5 = .ok (.invokevirtual 59, 3) := by decide +kernel
theorem dX5_lay_8 : decode cX5_lay 8 = .ok (.aload_n 0, 1) := by decide +kernel
theorem dX5_lay_9 : decode cX5_lay 9 = .ok (.iload_n 1, 1) := by decide +kernel
theorem dX5_lay_10 : decode cX5_lay 10 = .ok (.invokevirtual 56, 3) := by decide +kernel
theorem dX5_lay_13 : decode cX5_lay 13 = .ok (.return_, 1) := by decide +kernel
set_option maxRecDepth 20000 in
theorem ggX5_takeLast_X2_length : GoodIn wsX5_takeLast wsX2_length := goodIn_r _ [7, 8, 9, 10, 11, 12, 13, 14, 70, 71, 72, 73, 74, 75] (by decide +kernel) (by decide +kernel)
set_option maxRecDepth 20000 in
theorem gX5_takeLast_X2_length : GoodIn wsX5_takeLast (wsV RX5 62 RX2 yX2_length wsX2_length) := goodIn_app (goodIn_of _ (by decide +kernel)) ggX5_takeLast_X2_length
set_option maxRecDepth 20000 in
theorem ggX5_takeLast_X5_dropLastRow : GoodIn wsX5_takeLast wsX5_dropLastRow := goodIn_r _ [19, 20, 1, 21, 22, 23, 24, 10, 11, 12, 13, 14, 25, 26, 27, 28, 29, 30, 31, 32, 33, 34, 35, 36, 6, 37, 38, 39, 40, 41, 42, 43, 44, 45, 46, 47, 48, 49, 50, 51, 52, 53, 54, 55, 56, 57, 58, 59, 60, 61, 62, 63, 64, 65, 66, 67, 68, 69, 74, 75, 70, 71, 72, 73, 76] (by decide +kernel) (by decide +kernel)
set_option maxRecDepth 20000 in
theorem gX5_takeLast_X5_dropLastRow : GoodIn wsX5_takeLast (wsV RX5 67 RX5 yX5_dropLastRow wsX5_dropLastRow) := goodIn_app (goodIn_of _ (by decide +kernel)) ggX5_takeLast_X5_dropLastRow
set_option maxRecDepth 20000 in
theorem ggX5_takeLast_X1_removeLast : GoodIn wsX5_takeLast wsX1_removeLast := goodIn_r _ [28, 14, 29, 30, 31, 12, 32, 33, 74, 75] (by decide +kernel) (by decide +kernel)
set_option maxRecDepth 20000 in
theorem gX5_takeLast_X1_removeLast : GoodIn wsX5_takeLast (wsV RX5 70 RX1 yX1_removeLast wsX1_removeLast) := goodIn_app (goodIn_of _ (by decide +kernel)) ggX5_takeLast_X1_removeLast
theorem dX5_takeLast_0 : decode cX5_takeLast 0 = .ok (.iconst 0, 1) := by decide +kernel
theorem dX5_takeLast_1 : decode cX5_takeLast 1 = .ok (.istore_n 1, 1) := by decide +kernel
theorem dX5_takeLast_2 : decode cX5_takeLast 2 = .ok (.iload_n 1, 1) := by decide +kernel
theorem dX5_takeLast_3 : decode cX5_takeLast 3 = .ok (.aload_n 0, 1) := by decide +kernel
theorem dX5_takeLast_4 : decode cX5_takeLast 4 = .ok (.getfield 34, 3) := by decide +kernel
theorem dX5_takeLast_7 : decode cX5_takeLast 7 = .ok (.invokevirtual 62, 3) := by decide +kernel
theorem dX5_takeLast_10 : decode cX5_takeLast 10 = .ok (.if_icmp .ge 13, 3) := by decide +kernel
theorem dX5_takeLast_13 : decode cX5_takeLast 13 = .ok (.aload_n 0, 1) := by decide +kernel
theorem dX5_takeLast_14 : decode cX5_takeLast 14 = .ok (.invokevirtual 67, 3) := by decide +kernel
theorem dX5_takeLast_17 : decode cX5_takeLast 17 = .ok (.iinc 1 1, 3) := by decide +kernel
theorem dX5_takeLast_20 : decode cX5_takeLast 20 = .ok (.goto (-18), 3) := by decide +kernel
theorem dX5_takeLast_23 : decode cX5_takeLast 23 = .ok (.aload_n 0, 1) := by decide +kernel
theorem dX5_takeLast_24 : decode cX5_takeLast 24 = .ok (.getfield 14, 3) := by decide +kernel
theorem dX5_takeLast_27 : decode cX5_takeLast 27 = .ok (.invokevirtual 70, 3) := by decide +kernel
theorem dX5_takeLast_30 : decode cX5_takeLast 30 = .ok (.ireturn, 1) := by decide +kernel
set_option maxRecDepth 20000 in
theorem ggX5_ringLead_X5_end : GoodIn wsX5_ringLead wsX5_end := goodIn_r _ [6, 7, 1, 8, 9, 10, 11, 12, 13, 14, 15, 16, 17, 18, 19, 20, 21, 22, 23, 24, 25, 26, 27, 28, 29, 30, 31, 89, 90, 91, 92, 93, 94, 95, 96, 97, 98, 99, 100] (by decide +kernel) (by decide +kernel)
set_option maxRecDepth 20000 in
theorem gX5_ringLead_X5_end : GoodIn wsX5_ringLead (wsV RX5 73 RX5 yX5_end wsX5_end) := goodIn_app (goodIn_of _ (by decide +kernel)) ggX5_ringLead_X5_end
set_option maxRecDepth 20000 in
theorem ggX5_ringLead_X2_length : GoodIn wsX5_ringLead wsX2_length := goodIn_r _ [35, 36, 37, 9, 10, 11, 12, 13, 97, 98, 99, 100, 95, 96] (by decide +kernel) (by decide +kernel)
set_option maxRecDepth 20000 in
theorem gX5_ringLead_X2_length : GoodIn wsX5_ringLead (wsV RX5 62 RX2 yX2_length wsX2_length) := goodIn_app (goodIn_of _ (by decide +kernel)) ggX5_ringLead_X2_length
set_option maxRecDepth 20000 in
theorem ggX5_ringLead_X2_rungChange : GoodIn wsX5_ringLead wsX2_rungChange := goodIn_r _ [41, 36, 37, 9, 10, 11, 12, 13, 42, 43, 44, 17, 45, 46, 47, 48, 28, 29, 30, 31, 97, 98, 99, 100, 95, 96] (by decide +kernel) (by decide +kernel)
set_option maxRecDepth 20000 in
theorem gX5_ringLead_X2_rungChange : GoodIn wsX5_ringLead (wsV RX5 76 RX2 yX2_rungChange wsX2_rungChange) := goodIn_app (goodIn_of _ (by decide +kernel)) ggX5_ringLead_X2_rungChange
set_option maxRecDepth 20000 in
theorem ggX5_ringLead_X2_bells : GoodIn wsX5_ringLead wsX2_bells := goodIn_r _ [18, 19, 97, 98, 99, 100] (by decide +kernel) (by decide +kernel)
set_option maxRecDepth 20000 in
theorem gX5_ringLead_X2_bells : GoodIn wsX5_ringLead (wsV RX5 80 RX2 yX2_bells wsX2_bells) := goodIn_app (goodIn_of _ (by decide +kernel)) ggX5_ringLead_X2_bells
set_option maxRecDepth 20000 in
theorem ggX5_ringLead_X3_changed : GoodIn wsX5_ringLead wsX3_changed := goodIn_r _ [51, 52, 53, 22, 54, 55, 56, 57] (by decide +kernel) (by decide +kernel)
set_option maxRecDepth 20000 in
theorem gX5_ringLead_X3_changed : GoodIn wsX5_ringLead (va_wsS RX5 83 yX3_changed wsX3_changed) := goodIn_app (goodIn_of _ (by decide +kernel)) ggX5_ringLead_X3_changed
set_option maxRecDepth 20000 in
theorem ggX5_ringLead_X5_addRow : GoodIn wsX5_ringLead wsX5_addRow := goodIn_r _ [61, 7, 1, 62, 63, 64, 8, 9, 10, 11, 12, 13, 14, 15, 16, 17, 18, 19, 65, 66, 22, 67, 68, 69, 70, 71, 72, 73, 74, 75, 76, 77, 78, 79, 80, 81, 82, 83, 84, 85, 86, 87, 88, 31, 89, 90, 91, 92, 93, 94, 95, 96, 97, 98, 99, 100, 101] (by decide +kernel) (by decide +kernel)
set_option maxRecDepth 20000 in
theorem gX5_ringLead_X5_addRow : GoodIn wsX5_ringLead (wsV RX5 89 RX5 yX5_addRow wsX5_addRow) := goodIn_app (goodIn_of _ (by decide +kernel)) ggX5_ringLead_X5_addRow
theorem dX5_ringLead_0 : decode cX5_ringLead 0 = .ok (.aload_n 0, 1) := by decide +kernel
theorem dX5_ringLead_1 : decode cX5_ringLead 1 = .ok (.invokevirtual 73, 3) := by decide +kernel
theorem dX5_ringLead_4 : decode cX5_ringLead 4 = .ok (.istore_n 2, 1) := by decide +kernel
theorem dX5_ringLead_5 : decode cX5_ringLead 5 = .ok (.iconst 0, 1) := by decide +kernel
theorem dX5_ringLead_6 : decode cX5_ringLead 6 = .ok (.istore_n 3, 1) := by decide +kernel
theorem dX5_ringLead_7 : decode cX5_ringLead 7 = .ok (.iload_n 3, 1) := by decide +kernel
theorem dX5_ringLead_8 : decode cX5_ringLead 8 = .ok (.aload_n 0, 1) := by decide +kernel
theorem dX5_ringLead_9 : decode cX5_ringLead 9 = .ok (.getfield 34, 3) := by decide +kernel
theorem dX5_ringLead_12 : decode cX5_ringLead 12 = .ok (.invokevirtual 62, 3) := by decide +kernel
theorem dX5_ringLead_15 : decode cX5_ringLead 15 = .ok (.if_icmp .ge 35, 3) := by decide +kernel
theorem dX5_ringLead_18 : decode cX5_ringLead 18 = .ok (.iload_n 2, 1) := by decide +kernel
theorem dX5_ringLead_19 : decode cX5_ringLead 19 = .ok (.aload_n 0, 1) := by decide +kernel
theorem dX5_ringLead_20 : decode cX5_ringLead 20 = .ok (.getfield 34, 3) := by decide +kernel
theorem dX5_ringLead_23 : decode cX5_ringLead 23 = .ok (.iload_n 3, 1) := by decide +kernel
theorem dX5_ringLead_24 : decode cX5_ringLead 24 = .ok (.iload_n 1, 1) := by decide +kernel
theorem dX5_ringLead_25 : decode cX5_ringLead 25 = .ok (.invokevirtual 76, 3) := by decide +kernel
theorem dX5_ringLead_28 : decode cX5_ringLead 28 = .ok (.aload_n 0, 1) := by decide +kernel
theorem dX5_ringLead_29 : decode cX5_ringLead 29 = .ok (.getfield 34, 3) := by decide +kernel
theorem dX5_ringLead_32 : decode cX5_ringLead 32 = .ok (.invokevirtual 80, 3) := by decide +kernel
theorem dX5_ringLead_35 : decode cX5_ringLead 35 = .ok (.invokestatic 83, 3) := by decide +kernel
theorem dX5_ringLead_38 : decode cX5_ringLead 38 = .ok (.istore_n 2, 1) := by decide +kernel
theorem dX5_ringLead_39 : decode cX5_ringLead 39 = .ok (.aload_n 0, 1) := by decide +kernel
theorem dX5_ringLead_40 : decode cX5_ringLead 40 = .ok (.iload_n 2, 1) := by decide +kernel
theorem dX5_ringLead_41 : decode cX5_ringLead 41 = .ok (.invokevirtual 89, 3) := by decide +kernel
theorem dX5_ringLead_44 : decode cX5_ringLead 44 = .ok (.iinc 3 1, 3) := by decide +kernel
theorem dX5_ringLead_47 : decode cX5_ringLead 47 = .ok (.goto (-40), 3) := by decide +kernel
theorem dX5_ringLead_50 : decode cX5_ringLead 50 = .ok (.return_, 1) := by decide +kernel
set_option maxRecDepth 20000 in
theorem ggX5_addRow_X1_size : GoodIn wsX5_addRow wsX1_size := goodIn_r _ [10, 11, 50, 51] (by decide +kernel) (by decide +kernel)
set_option maxRecDepth 20000 in
theorem gX5_addRow_X1_size : GoodIn wsX5_addRow (wsV RX5 48 RX1 yX1_size wsX1_size) := goodIn_app (goodIn_of _ (by decide +kernel)) ggX5_addRow_X1_size
set_option maxRecDepth 20000 in
theorem ggX5_addRow_X2_bells : GoodIn wsX5_addRow wsX2_bells := goodIn_r _ [16, 17, 52, 53, 54, 55] (by decide +kernel) (by decide +kernel)
set_option maxRecDepth 20000 in
theorem gX5_addRow_X2_bells : GoodIn wsX5_addRow (wsV RX5 80 RX2 yX2_bells wsX2_bells) := goodIn_app (goodIn_of _ (by decide +kernel)) ggX5_addRow_X2_bells
set_option maxRecDepth 20000 in
theorem ggX5_addRow_X3_rank : GoodIn wsX5_addRow wsX3_rank := goodIn_r _ [21, 22, 23, 24, 25, 26, 27, 28] (by decide +kernel) (by decide +kernel)
set_option maxRecDepth 20000 in
theorem gX5_addRow_X3_rank : GoodIn wsX5_addRow (va_wsS RX5 92 yX3_rank wsX3_rank) := goodIn_app (goodIn_of _ (by decide +kernel)) ggX5_addRow_X3_rank
set_option maxRecDepth 20000 in
theorem ggX5_addRow_X0_firstNumber : GoodIn wsX5_addRow wsX0_firstNumber := goodIn_r _ [33, 34, 56] (by decide +kernel) (by decide +kernel)
set_option maxRecDepth 20000 in
theorem gX5_addRow_X0_firstNumber : GoodIn wsX5_addRow (wsV RX5 95 RX0 yX0_firstNumber wsX0_firstNumber) := goodIn_app (goodIn_of _ (by decide +kernel)) ggX5_addRow_X0_firstNumber
set_option maxRecDepth 20000 in
theorem ggX5_addRow_X0_note : GoodIn wsX5_addRow wsX0_note := goodIn_r _ [38, 34, 56] (by decide +kernel) (by decide +kernel)
set_option maxRecDepth 20000 in
theorem gX5_addRow_X0_note : GoodIn wsX5_addRow (wsV RX5 98 RX0 yX0_note wsX0_note) := goodIn_app (goodIn_of _ (by decide +kernel)) ggX5_addRow_X0_note
set_option maxRecDepth 20000 in
theorem ggX5_addRow_X1_add : GoodIn wsX5_addRow wsX1_add := goodIn_r _ [42, 11, 43, 50, 51] (by decide +kernel) (by decide +kernel)
set_option maxRecDepth 20000 in
theorem gX5_addRow_X1_add : GoodIn wsX5_addRow (wsV RX5 59 RX1 yX1_add wsX1_add) := goodIn_app (goodIn_of _ (by decide +kernel)) ggX5_addRow_X1_add
theorem dX5_addRow_0 : decode cX5_addRow 0 = .ok (.aload_n 0, 1) := by decide +kernel
theorem dX5_addRow_1 : decode cX5_addRow 1 = .ok (.getfield 20, 3) := by decide +kernel
theorem dX5_addRow_4 : decode cX5_addRow 4 = .ok (.invokevirtual 48, 3) := by decide +kernel
theorem dX5_addRow_7 : decode cX5_addRow 7 = .ok (.istore_n 2, 1) := by decide +kernel
theorem dX5_addRow_8 : decode cX5_addRow 8 = .ok (.iload_n 1, 1) := by decide +kernel
theorem dX5_addRow_9 : decode cX5_addRow 9 = .ok (.aload_n 0, 1) := by decide +kernel
theorem dX5_addRow_10 : decode cX5_addRow 10 = .ok (.getfield 34, 3) := by decide +kernel
theorem dX5_addRow_13 : decode cX5_addRow 13 = .ok (.invokevirtual 80, 3) := by decide +kernel
theorem dX5_addRow_16 : decode cX5_addRow 16 = .ok (.invokestatic 92, 3) := by decide +kernel
theorem dX5_addRow_19 : decode cX5_addRow 19 = .ok (.istore_n 3, 1) := by decide +kernel
theorem dX5_addRow_20 : decode cX5_addRow 20 = .ok (.aload_n 0, 1) := by decide +kernel
theorem dX5_addRow_21 : decode cX5_addRow 21 = .ok (.getfield 26, 3) := by decide +kernel
theorem dX5_addRow_24 : decode cX5_addRow 24 = .ok (.iload_n 3, 1) := by decide +kernel
theorem dX5_addRow_25 : decode cX5_addRow 25 = .ok (.invokevirtual 95, 3) := by decide +kernel
theorem dX5_addRow_28 : decode cX5_addRow 28 = .ok (.iconst (-1), 1) := by decide +kernel
theorem dX5_addRow_29 : decode cX5_addRow 29 = .ok (.if_icmp .ne 25, 3) := by decide +kernel
theorem dX5_addRow_32 : decode cX5_addRow 32 = .ok (.aload_n 0, 1) := by decide +kernel
theorem dX5_addRow_33 : decode cX5_addRow 33 = .ok (.getfield 26, 3) := by decide +kernel
theorem dX5_addRow_36 : decode cX5_addRow 36 = .ok (.iload_n 3, 1) := by decide +kernel
theorem dX5_addRow_37 : decode cX5_addRow 37 = .ok (.iload_n 2, 1) := by decide +kernel
theorem dX5_addRow_38 : decode cX5_addRow 38 = .ok (.invokevirtual 98, 3) := by decide +kernel
theorem dX5_addRow_41 : decode cX5_addRow 41 = .ok (.aload_n 0, 1) := by decide +kernel
theorem dX5_addRow_42 : decode cX5_addRow 42 = .ok (.dup, 1) := by decide +kernel
theorem dX5_addRow_43 : decode cX5_addRow 43 = .ok (.getfield 45, 3) := by decide +kernel
theorem dX5_addRow_46 : decode cX5_addRow 46 = .ok (.iconst 1, 1) := by decide +kernel
theorem dX5_addRow_47 : decode cX5_addRow 47 = .ok (.iadd, 1) := by decide +kernel
theorem dX5_addRow_48 : decode cX5_addRow 48 = .ok (.putfield 45, 3) := by decide +kernel
theorem dX5_addRow_51 : decode cX5_addRow 51 = .ok (.goto 16, 3) := by decide +kernel
theorem dX5_addRow_54 : decode cX5_addRow 54 = .ok (.aload_n 0, 1) := by decide +kernel
theorem dX5_addRow_55 : decode cX5_addRow 55 = .ok (.getfield 30, 3) := by decide +kernel
theorem dX5_addRow_58 : decode cX5_addRow 58 = .ok (.iconst (-1), 1) := by decide +kernel
theorem dX5_addRow_59 : decode cX5_addRow 59 = .ok (.if_icmp .ne 8, 3) := by decide +kernel
theorem dX5_addRow_62 : decode cX5_addRow 62 = .ok (.aload_n 0, 1) := by decide +kernel
theorem dX5_addRow_63 : decode cX5_addRow 63 = .ok (.iload_n 2, 1) := by decide +kernel
theorem dX5_addRow_64 : decode cX5_addRow 64 = .ok (.putfield 30, 3) := by decide +kernel
theorem dX5_addRow_67 : decode cX5_addRow 67 = .ok (.aload_n 0, 1) := by decide +kernel
theorem dX5_addRow_68 : decode cX5_addRow 68 = .ok (.getfield 20, 3) := by decide +kernel
theorem dX5_addRow_71 : decode cX5_addRow 71 = .ok (.iload_n 1, 1) := by decide +kernel
theorem dX5_addRow_72 : decode cX5_addRow 72 = .ok (.invokevirtual 59, 3) := by decide +kernel
theorem dX5_addRow_75 : decode cX5_addRow 75 = .ok (.return_, 1) := by decide +kernel
set_option maxRecDepth 20000 in
theorem ggX5_dropLastRow_X1_size : GoodIn wsX5_dropLastRow wsX1_size := goodIn_r _ [10, 11, 58, 59] (by decide +kernel) (by decide +kernel)
set_option maxRecDepth 20000 in
theorem gX5_dropLastRow_X1_size : GoodIn wsX5_dropLastRow (wsV RX5 48 RX1 yX1_size wsX1_size) := goodIn_app (goodIn_of _ (by decide +kernel)) ggX5_dropLastRow_X1_size
set_option maxRecDepth 20000 in
theorem ggX5_dropLastRow_X1_removeLast : GoodIn wsX5_dropLastRow wsX1_removeLast := goodIn_r _ [15, 11, 16, 17, 18, 9, 19, 20, 58, 59] (by decide +kernel) (by decide +kernel)
set_option maxRecDepth 20000 in
theorem gX5_dropLastRow_X1_removeLast : GoodIn wsX5_dropLastRow (wsV RX5 70 RX1 yX1_removeLast wsX1_removeLast) := goodIn_app (goodIn_of _ (by decide +kernel)) ggX5_dropLastRow_X1_removeLast
set_option maxRecDepth 20000 in
theorem ggX5_dropLastRow_X2_bells : GoodIn wsX5_dropLastRow wsX2_bells := goodIn_r _ [25, 26, 60, 61, 62, 63] (by decide +kernel) (by decide +kernel)
set_option maxRecDepth 20000 in
theorem gX5_dropLastRow_X2_bells : GoodIn wsX5_dropLastRow (wsV RX5 80 RX2 yX2_bells wsX2_bells) := goodIn_app (goodIn_of _ (by decide +kernel)) ggX5_dropLastRow_X2_bells
set_option maxRecDepth 20000 in
theorem ggX5_dropLastRow_X3_rank : GoodIn wsX5_dropLastRow wsX3_rank := goodIn_r _ [30, 31, 32, 33, 34, 35, 36, 37] (by decide +kernel) (by decide +kernel)
set_option maxRecDepth 20000 in
theorem gX5_dropLastRow_X3_rank : GoodIn wsX5_dropLastRow (va_wsS RX5 92 yX3_rank wsX3_rank) := goodIn_app (goodIn_of _ (by decide +kernel)) ggX5_dropLastRow_X3_rank
set_option maxRecDepth 20000 in
theorem ggX5_dropLastRow_X0_firstNumber : GoodIn wsX5_dropLastRow wsX0_firstNumber := goodIn_r _ [42, 43, 64] (by decide +kernel) (by decide +kernel)
set_option maxRecDepth 20000 in
theorem gX5_dropLastRow_X0_firstNumber : GoodIn wsX5_dropLastRow (wsV RX5 95 RX0 yX0_firstNumber wsX0_firstNumber) := goodIn_app (goodIn_of _ (by decide +kernel)) ggX5_dropLastRow_X0_firstNumber
set_option maxRecDepth 20000 in
theorem ggX5_dropLastRow_X0_strike : GoodIn wsX5_dropLastRow wsX0_strike := goodIn_r _ [47, 48, 49, 50, 41, 51, 43, 64] (by decide +kernel) (by decide +kernel)
set_option maxRecDepth 20000 in
theorem gX5_dropLastRow_X0_strike : GoodIn wsX5_dropLastRow (wsV RX5 102 RX0 yX0_strike wsX0_strike) := goodIn_app (goodIn_of _ (by decide +kernel)) ggX5_dropLastRow_X0_strike
theorem dX5_dropLastRow_0 : decode cX5_dropLastRow 0 = .ok (.aload_n 0, 1) := by decide +kernel
theorem dX5_dropLastRow_1 : decode cX5_dropLastRow 1 = .ok (.getfield 20, 3) := by decide +kernel
theorem dX5_dropLastRow_4 : decode cX5_dropLastRow 4 = .ok (.invokevirtual 48, 3) := by decide +kernel
theorem dX5_dropLastRow_7 : decode cX5_dropLastRow 7 = .ok (.iconst 1, 1) := by decide +kernel
theorem dX5_dropLastRow_8 : decode cX5_dropLastRow 8 = .ok (.isub, 1) := by decide +kernel
theorem dX5_dropLastRow_9 : decode cX5_dropLastRow 9 = .ok (.istore_n 1, 1) := by decide +kernel
theorem dX5_dropLastRow_10 : decode cX5_dropLastRow 10 = .ok (.aload_n 0, 1) := by decide +kernel
theorem dX5_dropLastRow_11 : decode cX5_dropLastRow 11 = .ok (.getfield 20, 3) := by decide +kernel
theorem dX5_dropLastRow_14 : decode cX5_dropLastRow 14 = .ok (.invokevirtual 70, 3) := by decide +kernel
theorem dX5_dropLastRow_17 : decode cX5_dropLastRow 17 = .ok (.aload_n 0, 1) := by decide +kernel
theorem dX5_dropLastRow_18 : decode cX5_dropLastRow 18 = .ok (.getfield 34, 3) := by decide +kernel
theorem dX5_dropLastRow_21 : decode cX5_dropLastRow 21 = .ok (.invokevirtual 80, 3) := by decide +kernel
theorem dX5_dropLastRow_24 : decode cX5_dropLastRow 24 = .ok (.invokestatic 92, 3) := by decide +kernel
theorem dX5_dropLastRow_27 : decode cX5_dropLastRow 27 = .ok (.istore_n 2, 1) := by decide +kernel
theorem dX5_dropLastRow_28 : decode cX5_dropLastRow 28 = .ok (.aload_n 0, 1) := by decide +kernel
theorem dX5_dropLastRow_29 : decode cX5_dropLastRow 29 = .ok (.getfield 26, 3) := by decide +kernel
theorem dX5_dropLastRow_32 : decode cX5_dropLastRow 32 = .ok (.iload_n 2, 1) := by decide +kernel
theorem dX5_dropLastRow_33 : decode cX5_dropLastRow 33 = .ok (.invokevirtual 95, 3) := by decide +kernel
theorem dX5_dropLastRow_36 : decode cX5_dropLastRow 36 = .ok (.iload_n 1, 1) := by decide +kernel
theorem dX5_dropLastRow_37 : decode cX5_dropLastRow 37 = .ok (.if_icmp .ne 24, 3) := by decide +kernel
theorem dX5_dropLastRow_40 : decode cX5_dropLastRow 40 = .ok (.aload_n 0, 1) := by decide +kernel
theorem dX5_dropLastRow_41 : decode cX5_dropLastRow 41 = .ok (.getfield 26, 3) := by decide +kernel
theorem dX5_dropLastRow_44 : decode cX5_dropLastRow 44 = .ok (.iload_n 2, 1) := by decide +kernel
theorem dX5_dropLastRow_45 : decode cX5_dropLastRow 45 = .ok (.invokevirtual 102, 3) := by decide +kernel
theorem dX5_dropLastRow_48 : decode cX5_dropLastRow 48 = .ok (.aload_n 0, 1) := by decide +kernel
theorem dX5_dropLastRow_49 : decode cX5_dropLastRow 49 = .ok (.dup, 1) := by decide +kernel
theorem dX5_dropLastRow_50 : decode cX5_dropLastRow 50 = .ok (.getfield 45, 3) := by decide +kernel
theorem dX5_dropLastRow_53 : decode cX5_dropLastRow 53 = .ok (.iconst 1, 1) := by decide +kernel
theorem dX5_dropLastRow_54 : decode cX5_dropLastRow 54 = .ok (.isub, 1) := by decide +kernel
theorem dX5_dropLastRow_55 : decode cX5_dropLastRow 55 = .ok (.putfield 45, 3) := by decide +kernel
theorem dX5_dropLastRow_58 : decode cX5_dropLastRow 58 = .ok (.goto 16, 3) := by decide +kernel
theorem dX5_dropLastRow_61 : decode cX5_dropLastRow 61 = .ok (.aload_n 0, 1) := by decide +kernel
theorem dX5_dropLastRow_62 : decode cX5_dropLastRow 62 = .ok (.getfield 30, 3) := by decide +kernel
theorem dX5_dropLastRow_65 : decode cX5_dropLastRow 65 = .ok (.iload_n 1, 1) := by decide +kernel
theorem dX5_dropLastRow_66 : decode cX5_dropLastRow 66 = .ok (.if_icmp .ne 8, 3) := by decide +kernel
theorem dX5_dropLastRow_69 : decode cX5_dropLastRow 69 = .ok (.aload_n 0, 1) := by decide +kernel
theorem dX5_dropLastRow_70 : decode cX5_dropLastRow 70 = .ok (.iconst (-1), 1) := by decide +kernel
theorem dX5_dropLastRow_71 : decode cX5_dropLastRow 71 = .ok (.putfield 30, 3) := by decide +kernel
theorem dX5_dropLastRow_74 : decode cX5_dropLastRow 74 = .ok (.return_, 1) := by decide +kernel
set_option maxRecDepth 20000 in
theorem ggX5_callCount_X1_size : GoodIn wsX5_callCount wsX1_size := goodIn_r _ [6, 7, 14, 15] (by decide +kernel) (by decide +kernel)
set_option maxRecDepth 20000 in
theorem gX5_callCount_X1_size : GoodIn wsX5_callCount (wsV RX5 48 RX1 yX1_size wsX1_size) := goodIn_app (goodIn_of _ (by decide +kernel)) ggX5_callCount_X1_size
theorem dX5_callCount_0 : decode cX5_callCount 0 = .ok (.aload_n 0, 1) := by decide +kernel
theorem dX5_callCount_1 : decode cX5_callCount 1 = .ok (.getfield 14, 3) := by decide +kernel
theorem dX5_callCount_4 : decode cX5_callCount 4 = .ok (.invokevirtual 48, 3) := by decide +kernel
theorem dX5_callCount_7 : decode cX5_callCount 7 = .ok (.ireturn, 1) := by decide +kernel
set_option maxRecDepth 20000 in
theorem ggX5_laidCall_X1_get : GoodIn wsX5_laidCall wsX1_get := goodIn_r _ [6, 7, 8, 15, 16] (by decide +kernel) (by decide +kernel)
set_option maxRecDepth 20000 in
theorem gX5_laidCall_X1_get : GoodIn wsX5_laidCall (wsV RX5 52 RX1 yX1_get wsX1_get) := goodIn_app (goodIn_of _ (by decide +kernel)) ggX5_laidCall_X1_get
theorem dX5_laidCall_0 : decode cX5_laidCall 0 = .ok (.aload_n 0, 1) := by decide +kernel
theorem dX5_laidCall_1 : decode cX5_laidCall 1 = .ok (.getfield 14, 3) := by decide +kernel
theorem dX5_laidCall_4 : decode cX5_laidCall 4 = .ok (.iload_n 1, 1) := by decide +kernel
theorem dX5_laidCall_5 : decode cX5_laidCall 5 = .ok (.invokevirtual 52, 3) := by decide +kernel
theorem dX5_laidCall_8 : decode cX5_laidCall 8 = .ok (.ireturn, 1) := by decide +kernel
set_option maxRecDepth 20000 in
theorem ggX5_rowCount_X1_size : GoodIn wsX5_rowCount wsX1_size := goodIn_r _ [6, 7, 14, 15] (by decide +kernel) (by decide +kernel)
set_option maxRecDepth 20000 in
theorem gX5_rowCount_X1_size : GoodIn wsX5_rowCount (wsV RX5 48 RX1 yX1_size wsX1_size) := goodIn_app (goodIn_of _ (by decide +kernel)) ggX5_rowCount_X1_size
theorem dX5_rowCount_0 : decode cX5_rowCount 0 = .ok (.aload_n 0, 1) := by decide +kernel
theorem dX5_rowCount_1 : decode cX5_rowCount 1 = .ok (.getfield 20, 3) := by decide +kernel
theorem dX5_rowCount_4 : decode cX5_rowCount 4 = .ok (.invokevirtual 48, 3) := by decide +kernel
theorem dX5_rowCount_7 : decode cX5_rowCount 7 = .ok (.ireturn, 1) := by decide +kernel
set_option maxRecDepth 20000 in
theorem ggX5_packedRow_X1_get : GoodIn wsX5_packedRow wsX1_get := goodIn_r _ [6, 7, 8, 15, 16] (by decide +kernel) (by decide +kernel)
set_option maxRecDepth 20000 in
theorem gX5_packedRow_X1_get : GoodIn wsX5_packedRow (wsV RX5 52 RX1 yX1_get wsX1_get) := goodIn_app (goodIn_of _ (by decide +kernel)) ggX5_packedRow_X1_get
theorem dX5_packedRow_0 : decode cX5_packedRow 0 = .ok (.aload_n 0, 1) := by decide +kernel
theorem dX5_packedRow_1 : decode cX5_packedRow 1 = .ok (.getfield 20, 3) := by decide +kernel
theorem dX5_packedRow_4 : decode cX5_packedRow 4 = .ok (.iload_n 1, 1) := by decide +kernel
theorem dX5_packedRow_5 : decode cX5_packedRow 5 = .ok (.invokevirtual 52, 3) := by decide +kernel
theorem dX5_packedRow_8 : decode cX5_packedRow 8 = .ok (.ireturn, 1) := by decide +kernel
set_option maxRecDepth 20000 in
theorem ggX5_end_X1_size : GoodIn wsX5_end wsX1_size := goodIn_r _ [7, 8, 33, 34] (by decide +kernel) (by decide +kernel)
set_option maxRecDepth 20000 in
theorem gX5_end_X1_size : GoodIn wsX5_end (wsV RX5 48 RX1 yX1_size wsX1_size) := goodIn_app (goodIn_of _ (by decide +kernel)) ggX5_end_X1_size
set_option maxRecDepth 20000 in
theorem ggX5_end_X2_bells : GoodIn wsX5_end wsX2_bells := goodIn_r _ [13, 14, 35, 36, 37, 38] (by decide +kernel) (by decide +kernel)
set_option maxRecDepth 20000 in
theorem gX5_end_X2_bells : GoodIn wsX5_end (wsV RX5 80 RX2 yX2_bells wsX2_bells) := goodIn_app (goodIn_of _ (by decide +kernel)) ggX5_end_X2_bells
set_option maxRecDepth 20000 in
theorem ggX5_end_X3_rounds : GoodIn wsX5_end wsX3_rounds := goodIn_r _ [18, 19, 20, 17, 21] (by decide +kernel) (by decide +kernel)
set_option maxRecDepth 20000 in
theorem gX5_end_X3_rounds : GoodIn wsX5_end (va_wsS RX5 105 yX3_rounds wsX3_rounds) := goodIn_app (goodIn_of _ (by decide +kernel)) ggX5_end_X3_rounds
set_option maxRecDepth 20000 in
theorem ggX5_end_X1_get : GoodIn wsX5_end wsX1_get := goodIn_r _ [25, 8, 26, 33, 34] (by decide +kernel) (by decide +kernel)
set_option maxRecDepth 20000 in
theorem gX5_end_X1_get : GoodIn wsX5_end (wsV RX5 52 RX1 yX1_get wsX1_get) := goodIn_app (goodIn_of _ (by decide +kernel)) ggX5_end_X1_get
theorem dX5_end_0 : decode cX5_end 0 = .ok (.aload_n 0, 1) := by decide +kernel
theorem dX5_end_1 : decode cX5_end 1 = .ok (.getfield 20, 3) := by decide +kernel
theorem dX5_end_4 : decode cX5_end 4 = .ok (.invokevirtual 48, 3) := by decide +kernel
theorem dX5_end_7 : decode cX5_end 7 = .ok (.ifCond .ne 16, 3) := by decide +kernel
theorem dX5_end_10 : decode cX5_end 10 = .ok (.aload_n 0, 1) := by decide +kernel
theorem dX5_end_11 : decode cX5_end 11 = .ok (.getfield 34, 3) := by decide +kernel
theorem dX5_end_14 : decode cX5_end 14 = .ok (.invokevirtual 80, 3) := by decide +kernel
theorem dX5_end_17 : decode cX5_end 17 = .ok (.invokestatic 105, 3) := by decide +kernel
theorem dX5_end_20 : decode cX5_end 20 = .ok (.goto 19, 3) := by decide +kernel
theorem dX5_end_23 : decode cX5_end 23 = .ok (.aload_n 0, 1) := by decide +kernel
theorem dX5_end_24 : decode cX5_end 24 = .ok (.getfield 20, 3) := by decide +kernel
theorem dX5_end_27 : decode cX5_end 27 = .ok (.aload_n 0, 1) := by decide +kernel
theorem dX5_end_28 : decode cX5_end 28 = .ok (.getfield 20, 3) := by decide +kernel
theorem dX5_end_31 : decode cX5_end 31 = .ok (.invokevirtual 48, 3) := by decide +kernel
theorem dX5_end_34 : decode cX5_end 34 = .ok (.iconst 1, 1) := by decide +kernel
theorem dX5_end_35 : decode cX5_end 35 = .ok (.isub, 1) := by decide +kernel
theorem dX5_end_36 : decode cX5_end 36 = .ok (.invokevirtual 52, 3) := by decide +kernel
theorem dX5_end_39 : decode cX5_end 39 = .ok (.ireturn, 1) := by decide +kernel
set_option maxRecDepth 20000 in
theorem ggX5_comesRound_X1_size : GoodIn wsX5_comesRound wsX1_size := goodIn_r _ [7, 8, 38, 39] (by decide +kernel) (by decide +kernel)
set_option maxRecDepth 20000 in
theorem gX5_comesRound_X1_size : GoodIn wsX5_comesRound (wsV RX5 48 RX1 yX1_size wsX1_size) := goodIn_app (goodIn_of _ (by decide +kernel)) ggX5_comesRound_X1_size
