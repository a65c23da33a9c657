set_option maxRecDepth 20000 in
theorem gX7_call_X7_tell : GoodIn wsX7_call (va_wsS RX7 66 yX7_tell wsX7_tell) := goodIn_app (goodIn_of _ (by decide +kernel)) ggX7_call_X7_tell
theorem dX7_call_0 : decode cX7_call 0 = .ok (.aload_n 0, 1) := by decide +kernel
theorem dX7_call_1 : decode cX7_call 1 = .ok (.getfield 30, 3) := by decide +kernel
theorem dX7_call_4 : decode cX7_call 4 = .ok (.arraylength, 1) := by decide +kernel
theorem dX7_call_5 : decode cX7_call 5 = .ok (.bipush 24, 2) := by decide +kernel
theorem dX7_call_7 : decode cX7_call 7 = .ok (.if_icmp .ne 5, 3) := by decide +kernel
theorem dX7_call_10 : decode cX7_call 10 = .ok (.iconst 1, 1) := by decide +kernel
theorem dX7_call_11 : decode cX7_call 11 = .ok (.ireturn, 1) := by decide +kernel
theorem dX7_call_12 : decode cX7_call 12 = .ok (.aload_n 0, 1) := by decide +kernel
theorem dX7_call_13 : decode cX7_call 13 = .ok (.aload_n 0, 1) := by decide +kernel
theorem dX7_call_14 : decode cX7_call 14 = .ok (.getfield 30, 3) := by decide +kernel
theorem dX7_call_17 : decode cX7_call 17 = .ok (.aload_n 0, 1) := by decide +kernel
theorem dX7_call_18 : decode cX7_call 18 = .ok (.iconst 2, 1) := by decide +kernel
theorem dX7_call_19 : decode cX7_call 19 = .ok (.invokevirtual 55, 3) := by decide +kernel
theorem dX7_call_22 : decode cX7_call 22 = .ok (.aload_n 0, 1) := by decide +kernel
theorem dX7_call_23 : decode cX7_call 23 = .ok (.iconst 3, 1) := by decide +kernel
theorem dX7_call_24 : decode cX7_call 24 = .ok (.invokevirtual 55, 3) := by decide +kernel
theorem dX7_call_27 : decode cX7_call 27 = .ok (.imul, 1) := by decide +kernel
theorem dX7_call_28 : decode cX7_call 28 = .ok (.invokestatic 74, 3) := by decide +kernel
theorem dX7_call_31 : decode cX7_call 31 = .ok (.putfield 30, 3) := by decide +kernel
theorem dX7_call_34 : decode cX7_call 34 = .ok (.aload_n 0, 1) := by decide +kernel
theorem dX7_call_35 : decode cX7_call 35 = .ok (.invokevirtual 96, 3) := by decide +kernel
theorem dX7_call_38 : decode cX7_call 38 = .ok (.astore_n 1, 1) := by decide +kernel
theorem dX7_call_39 : decode cX7_call 39 = .ok (.aload_n 0, 1) := by decide +kernel
theorem dX7_call_40 : decode cX7_call 40 = .ok (.getfield 10, 3) := by decide +kernel
theorem dX7_call_43 : decode cX7_call 43 = .ok (.aload_n 0, 1) := by decide +kernel
theorem dX7_call_44 : decode cX7_call 44 = .ok (.getfield 30, 3) := by decide +kernel
theorem dX7_call_47 : decode cX7_call 47 = .ok (.aload_n 0, 1) := by decide +kernel
theorem dX7_call_48 : decode cX7_call 48 = .ok (.getfield 30, 3) := by decide +kernel
theorem dX7_call_51 : decode cX7_call 51 = .ok (.arraylength, 1) := by decide +kernel
theorem dX7_call_52 : decode cX7_call 52 = .ok (.iconst 1, 1) := by decide +kernel
theorem dX7_call_53 : decode cX7_call 53 = .ok (.isub, 1) := by decide +kernel
theorem dX7_call_54 : decode cX7_call 54 = .ok (.iaload, 1) := by decide +kernel
theorem dX7_call_55 : decode cX7_call 55 = .ok (.invokevirtual 100, 3) := by decide +kernel
theorem dX7_call_58 : decode cX7_call 58 = .ok (.aload_n 1, 1) := by decide +kernel
theorem dX7_call_59 : decode cX7_call 59 = .ok (.arraylength, 1) := by decide +kernel
theorem dX7_call_60 : decode cX7_call 60 = .ok (.ifCond .ne 10, 3) := by decide +kernel
theorem dX7_call_63 : decode cX7_call 63 = .ok (.aload_n 0, 1) := by decide +kernel
theorem dX7_call_64 : decode cX7_call 64 = .ok (.invokevirtual 62, 3) := by decide +kernel
theorem dX7_call_67 : decode cX7_call 67 = .ok (.goto 9, 3) := by decide +kernel
theorem dX7_call_70 : decode cX7_call 70 = .ok (.aload_n 1, 1) := by decide +kernel
theorem dX7_call_71 : decode cX7_call 71 = .ok (.aload_n 1, 1) := by decide +kernel
theorem dX7_call_72 : decode cX7_call 72 = .ok (.arraylength, 1) := by decide +kernel
theorem dX7_call_73 : decode cX7_call 73 = .ok (.iconst 1, 1) := by decide +kernel
theorem dX7_call_74 : decode cX7_call 74 = .ok (.isub, 1) := by decide +kernel
theorem dX7_call_75 : decode cX7_call 75 = .ok (.aaload, 1) := by decide +kernel
theorem dX7_call_76 : decode cX7_call 76 = .ok (.invokestatic 66, 3) := by decide +kernel
theorem dX7_call_79 : decode cX7_call 79 = .ok (.if_icmp .ne 7, 3) := by decide +kernel
theorem dX7_call_82 : decode cX7_call 82 = .ok (.iconst 1, 1) := by decide +kernel
theorem dX7_call_83 : decode cX7_call 83 = .ok (.goto 4, 3) := by decide +kernel
theorem dX7_call_86 : decode cX7_call 86 = .ok (.iconst 0, 1) := by decide +kernel
theorem dX7_call_87 : decode cX7_call 87 = .ok (.ireturn, 1) := by decide +kernel
set_option maxRecDepth 20000 in
theorem ggX7_uncall_X7_less : GoodIn wsX7_uncall wsX7_less := goodIn_r _ [6, 7, 8, 9, 10, 11] (by decide +kernel) (by decide +kernel)
set_option maxRecDepth 20000 in
theorem gX7_uncall_X7_less : GoodIn wsX7_uncall (va_wsS RX7 86 yX7_less wsX7_less) := goodIn_app (goodIn_of _ (by decide +kernel)) ggX7_uncall_X7_less
set_option maxRecDepth 20000 in
theorem ggX7_uncall_X6_uncall : GoodIn wsX7_uncall wsX6_uncall := goodIn_ca (goodIn_r _ [16, 17, 18, 19, 20, 21, 22, 23, 24, 25, 26, 27, 28, 29, 30, 31, 32, 33, 34, 35, 36, 37, 38, 39, 40, 41, 42, 43, 44, 45, 46, 47, 48, 49, 50, 51, 52, 53, 54, 55, 56, 57, 58, 59, 60, 61, 62, 63, 64, 65, 66, 67, 68, 69, 70, 71, 72, 73, 74, 75, 76, 77, 78, 79, 80, 81, 82, 83, 84, 85, 86, 87, 88, 89, 90, 99, 100, 101, 102, 103, 104, 105, 106, 107, 108, 109, 110, 111, 112, 113, 114] (by decide +kernel) (by decide +kernel)) (goodIn_sub (fun _ h => List.mem_cons_of_mem _ (List.mem_append_right _ h)) (by decide +kernel))
set_option maxRecDepth 20000 in
theorem gX7_uncall_X6_uncall : GoodIn wsX7_uncall (wsV RX7 103 RX6 yX6_uncall wsX6_uncall) := goodIn_app (goodIn_of _ (by decide +kernel)) ggX7_uncall_X6_uncall
theorem dX7_uncall_0 : decode cX7_uncall 0 = .ok (.aload_n 0, 1) := by decide +kernel
theorem dX7_uncall_1 : decode cX7_uncall 1 = .ok (.getfield 30, 3) := by decide +kernel
theorem dX7_uncall_4 : decode cX7_uncall 4 = .ok (.arraylength, 1) := by decide +kernel
theorem dX7_uncall_5 : decode cX7_uncall 5 = .ok (.ifCond .ne 5, 3) := by decide +kernel
theorem dX7_uncall_8 : decode cX7_uncall 8 = .ok (.iconst 1, 1) := by decide +kernel
theorem dX7_uncall_9 : decode cX7_uncall 9 = .ok (.ireturn, 1) := by decide +kernel
theorem dX7_uncall_10 : decode cX7_uncall 10 = .ok (.aload_n 0, 1) := by decide +kernel
theorem dX7_uncall_11 : decode cX7_uncall 11 = .ok (.getfield 30, 3) := by decide +kernel
theorem dX7_uncall_14 : decode cX7_uncall 14 = .ok (.aload_n 0, 1) := by decide +kernel
theorem dX7_uncall_15 : decode cX7_uncall 15 = .ok (.getfield 30, 3) := by decide +kernel
theorem dX7_uncall_18 : decode cX7_uncall 18 = .ok (.arraylength, 1) := by decide +kernel
theorem dX7_uncall_19 : decode cX7_uncall 19 = .ok (.iconst 1, 1) := by decide +kernel
theorem dX7_uncall_20 : decode cX7_uncall 20 = .ok (.isub, 1) := by decide +kernel
theorem dX7_uncall_21 : decode cX7_uncall 21 = .ok (.iaload, 1) := by decide +kernel
theorem dX7_uncall_22 : decode cX7_uncall 22 = .ok (.istore_n 1, 1) := by decide +kernel
theorem dX7_uncall_23 : decode cX7_uncall 23 = .ok (.aload_n 0, 1) := by decide +kernel
theorem dX7_uncall_24 : decode cX7_uncall 24 = .ok (.aload_n 0, 1) := by decide +kernel
theorem dX7_uncall_25 : decode cX7_uncall 25 = .ok (.getfield 30, 3) := by decide +kernel
theorem dX7_uncall_28 : decode cX7_uncall 28 = .ok (.invokestatic 86, 3) := by decide +kernel
theorem dX7_uncall_31 : decode cX7_uncall 31 = .ok (.putfield 30, 3) := by decide +kernel
theorem dX7_uncall_34 : decode cX7_uncall 34 = .ok (.aload_n 0, 1) := by decide +kernel
theorem dX7_uncall_35 : decode cX7_uncall 35 = .ok (.getfield 10, 3) := by decide +kernel
theorem dX7_uncall_38 : decode cX7_uncall 38 = .ok (.invokevirtual 103, 3) := by decide +kernel
theorem dX7_uncall_41 : decode cX7_uncall 41 = .ok (.iload_n 1, 1) := by decide +kernel
theorem dX7_uncall_42 : decode cX7_uncall 42 = .ok (.if_icmp .ne 7, 3) := by decide +kernel
theorem dX7_uncall_45 : decode cX7_uncall 45 = .ok (.iconst 1, 1) := by decide +kernel
theorem dX7_uncall_46 : decode cX7_uncall 46 = .ok (.goto 4, 3) := by decide +kernel
theorem dX7_uncall_49 : decode cX7_uncall 49 = .ok (.iconst 0, 1) := by decide +kernel
theorem dX7_uncall_50 : decode cX7_uncall 50 = .ok (.ireturn, 1) := by decide +kernel
theorem dX7_last_0 : decode cX7_last 0 = .ok (.iload_n 1, 1) := by decide +kernel
theorem dX7_last_1 : decode cX7_last 1 = .ok (.ifCond .ne 18, 3) := by decide +kernel
theorem dX7_last_4 : decode cX7_last 4 = .ok (.aload_n 0, 1) := by decide +kernel
theorem dX7_last_5 : decode cX7_last 5 = .ok (.getfield 20, 3) := by decide +kernel
theorem dX7_last_8 : decode cX7_last 8 = .ok (.aload_n 0, 1) := by decide +kernel
theorem dX7_last_9 : decode cX7_last 9 = .ok (.getfield 20, 3) := by decide +kernel
theorem dX7_last_12 : decode cX7_last 12 = .ok (.arraylength, 1) := by decide +kernel
theorem dX7_last_13 : decode cX7_last 13 = .ok (.iconst 1, 1) := by decide +kernel
theorem dX7_last_14 : decode cX7_last 14 = .ok (.isub, 1) := by decide +kernel
theorem dX7_last_15 : decode cX7_last 15 = .ok (.iaload, 1) := by decide +kernel
theorem dX7_last_16 : decode cX7_last 16 = .ok (.goto 19, 3) := by decide +kernel
theorem dX7_last_19 : decode cX7_last 19 = .ok (.iload_n 1, 1) := by decide +kernel
theorem dX7_last_20 : decode cX7_last 20 = .ok (.iconst 1, 1) := by decide +kernel
theorem dX7_last_21 : decode cX7_last 21 = .ok (.if_icmp .ne 10, 3) := by decide +kernel
theorem dX7_last_24 : decode cX7_last 24 = .ok (.aload_n 0, 1) := by decide +kernel
theorem dX7_last_25 : decode cX7_last 25 = .ok (.getfield 24, 3) := by decide +kernel
theorem dX7_last_28 : decode cX7_last 28 = .ok (.goto 7, 3) := by decide +kernel
theorem dX7_last_31 : decode cX7_last 31 = .ok (.aload_n 0, 1) := by decide +kernel
theorem dX7_last_32 : decode cX7_last 32 = .ok (.getfield 27, 3) := by decide +kernel
theorem dX7_last_35 : decode cX7_last 35 = .ok (.ireturn, 1) := by decide +kernel
set_option maxRecDepth 20000 in
theorem ggX7_rows_X7_last : GoodIn wsX7_rows wsX7_last := goodIn_r _ [13, 1, 14, 15, 20, 21, 22, 23, 24, 25, 26, 27] (by decide +kernel) (by decide +kernel)
set_option maxRecDepth 20000 in
theorem gX7_rows_X7_last : GoodIn wsX7_rows (wsV RX7 107 RX7 yX7_last wsX7_last) := goodIn_app (goodIn_of _ (by decide +kernel)) ggX7_rows_X7_last
set_option maxRecDepth 20000 in
theorem ggX7_rows_X7_ring : GoodIn wsX7_rows wsX7_ring := goodIn_r _ [19, 3, 20, 21, 22, 23, 24, 25, 26, 27] (by decide +kernel) (by decide +kernel)
set_option maxRecDepth 20000 in
theorem gX7_rows_X7_ring : GoodIn wsX7_rows (wsV RX7 110 RX7 yX7_ring wsX7_ring) := goodIn_app (goodIn_of _ (by decide +kernel)) ggX7_rows_X7_ring
theorem dX7_rows_0 : decode cX7_rows 0 = .ok (.aload_n 2, 1) := by decide +kernel
theorem dX7_rows_1 : decode cX7_rows 1 = .ok (.arraylength, 1) := by decide +kernel
theorem dX7_rows_2 : decode cX7_rows 2 = .ok (.aload_n 0, 1) := by decide +kernel
theorem dX7_rows_3 : decode cX7_rows 3 = .ok (.getfield 20, 3) := by decide +kernel
theorem dX7_rows_6 : decode cX7_rows 6 = .ok (.arraylength, 1) := by decide +kernel
theorem dX7_rows_7 : decode cX7_rows 7 = .ok (.imul, 1) := by decide +kernel
theorem dX7_rows_8 : decode cX7_rows 8 = .ok (.anewarray 106, 3) := by decide +kernel
theorem dX7_rows_11 : decode cX7_rows 11 = .ok (.astore_n 3, 1) := by decide +kernel
theorem dX7_rows_12 : decode cX7_rows 12 = .ok (.aload_n 0, 1) := by decide +kernel
theorem dX7_rows_13 : decode cX7_rows 13 = .ok (.getfield 16, 3) := by decide +kernel
theorem dX7_rows_16 : decode cX7_rows 16 = .ok (.newarray .int, 2) := by decide +kernel
theorem dX7_rows_18 : decode cX7_rows 18 = .ok (.astore 4, 2) := by decide +kernel
theorem dX7_rows_20 : decode cX7_rows 20 = .ok (.aload_n 1, 1) := by decide +kernel
theorem dX7_rows_21 : decode cX7_rows 21 = .ok (.iconst 0, 1) := by decide +kernel
theorem dX7_rows_22 : decode cX7_rows 22 = .ok (.aload 4, 2) := by decide +kernel
theorem dX7_rows_24 : decode cX7_rows 24 = .ok (.iconst 0, 1) := by decide +kernel
theorem dX7_rows_25 : decode cX7_rows 25 = .ok (.aload_n 0, 1) := by decide +kernel
theorem dX7_rows_26 : decode cX7_rows 26 = .ok (.getfield 16, 3) := by decide +kernel
theorem dX7_rows_29 : decode cX7_rows 29 = .ok (.invokestatic 49, 3) := by decide +kernel
theorem dX7_rows_32 : decode cX7_rows 32 = .ok (.iconst 0, 1) := by decide +kernel
theorem dX7_rows_33 : decode cX7_rows 33 = .ok (.istore 5, 2) := by decide +kernel
theorem dX7_rows_35 : decode cX7_rows 35 = .ok (.aload_n 2, 1) := by decide +kernel
theorem dX7_rows_36 : decode cX7_rows 36 = .ok (.astore 6, 2) := by decide +kernel
theorem dX7_rows_38 : decode cX7_rows 38 = .ok (.aload 6, 2) := by decide +kernel
theorem dX7_rows_40 : decode cX7_rows 40 = .ok (.arraylength, 1) := by decide +kernel
theorem dX7_rows_41 : decode cX7_rows 41 = .ok (.istore 7, 2) := by decide +kernel
theorem dX7_rows_43 : decode cX7_rows 43 = .ok (.iconst 0, 1) := by decide +kernel
theorem dX7_rows_44 : decode cX7_rows 44 = .ok (.istore 8, 2) := by decide +kernel
theorem dX7_rows_46 : decode cX7_rows 46 = .ok (.iload 8, 2) := by decide +kernel
theorem dX7_rows_48 : decode cX7_rows 48 = .ok (.iload 7, 2) := by decide +kernel
theorem dX7_rows_50 : decode cX7_rows 50 = .ok (.if_icmp .ge 97, 3) := by decide +kernel
theorem dX7_rows_53 : decode cX7_rows 53 = .ok (.aload 6, 2) := by decide +kernel
theorem dX7_rows_55 : decode cX7_rows 55 = .ok (.iload 8, 2) := by decide +kernel
theorem dX7_rows_57 : decode cX7_rows 57 = .ok (.iaload, 1) := by decide +kernel
theorem dX7_rows_58 : decode cX7_rows 58 = .ok (.istore 9, 2) := by decide +kernel
theorem dX7_rows_60 : decode cX7_rows 60 = .ok (.iconst 0, 1) := by decide +kernel
theorem dX7_rows_61 : decode cX7_rows 61 = .ok (.istore 10, 2) := by decide +kernel
theorem dX7_rows_63 : decode cX7_rows 63 = .ok (.iload 10, 2) := by decide +kernel
theorem dX7_rows_65 : decode cX7_rows 65 = .ok (.aload_n 0, 1) := by decide +kernel
theorem dX7_rows_66 : decode cX7_rows 66 = .ok (.getfield 20, 3) := by decide +kernel
theorem dX7_rows_69 : decode cX7_rows 69 = .ok (.arraylength, 1) := by decide +kernel
theorem dX7_rows_70 : decode cX7_rows 70 = .ok (.if_icmp .ge 71, 3) := by decide +kernel
theorem dX7_rows_73 : decode cX7_rows 73 = .ok (.aload_n 0, 1) := by decide +kernel
theorem dX7_rows_74 : decode cX7_rows 74 = .ok (.aload 4, 2) := by decide +kernel
theorem dX7_rows_76 : decode cX7_rows 76 = .ok (.iload 10, 2) := by decide +kernel
theorem dX7_rows_78 : decode cX7_rows 78 = .ok (.iconst 1, 1) := by decide +kernel
theorem dX7_rows_79 : decode cX7_rows 79 = .ok (.iadd, 1) := by decide +kernel
theorem dX7_rows_80 : decode cX7_rows 80 = .ok (.aload_n 0, 1) := by decide +kernel
theorem dX7_rows_81 : decode cX7_rows 81 = .ok (.getfield 20, 3) := by decide +kernel
theorem dX7_rows_84 : decode cX7_rows 84 = .ok (.arraylength, 1) := by decide +kernel
theorem dX7_rows_85 : decode cX7_rows 85 = .ok (.if_icmp .ge 13, 3) := by decide +kernel
theorem dX7_rows_88 : decode cX7_rows 88 = .ok (.aload_n 0, 1) := by decide +kernel
theorem dX7_rows_89 : decode cX7_rows 89 = .ok (.getfield 20, 3) := by decide +kernel
theorem dX7_rows_92 : decode cX7_rows 92 = .ok (.iload 10, 2) := by decide +kernel
theorem dX7_rows_94 : decode cX7_rows 94 = .ok (.iaload, 1) := by decide +kernel
theorem dX7_rows_95 : decode cX7_rows 95 = .ok (.goto 9, 3) := by decide +kernel
theorem dX7_rows_98 : decode cX7_rows 98 = .ok (.aload_n 0, 1) := by decide +kernel
theorem dX7_rows_99 : decode cX7_rows 99 = .ok (.iload 9, 2) := by decide +kernel
theorem dX7_rows_101 : decode cX7_rows 101 = .ok (.invokevirtual 107, 3) := by decide +kernel
theorem dX7_rows_104 : decode cX7_rows 104 = .ok (.invokevirtual 110, 3) := by decide +kernel
theorem dX7_rows_107 : decode cX7_rows 107 = .ok (.aload_n 3, 1) := by decide +kernel
theorem dX7_rows_108 : decode cX7_rows 108 = .ok (.iload 5, 2) := by decide +kernel
theorem dX7_rows_110 : decode cX7_rows 110 = .ok (.aload_n 0, 1) := by decide +kernel
theorem dX7_rows_111 : decode cX7_rows 111 = .ok (.getfield 16, 3) := by decide +kernel
theorem dX7_rows_114 : decode cX7_rows 114 = .ok (.newarray .int, 2) := by decide +kernel
theorem dX7_rows_116 : decode cX7_rows 116 = .ok (.aastore, 1) := by decide +kernel
theorem dX7_rows_117 : decode cX7_rows 117 = .ok (.aload 4, 2) := by decide +kernel
theorem dX7_rows_119 : decode cX7_rows 119 = .ok (.iconst 0, 1) := by decide +kernel
theorem dX7_rows_120 : decode cX7_rows 120 = .ok (.aload_n 3, 1) := by decide +kernel
theorem dX7_rows_121 : decode cX7_rows 121 = .ok (.iload 5, 2) := by decide +kernel
theorem dX7_rows_123 : decode cX7_rows 123 = .ok (.iinc 5 1, 3) := by decide +kernel
theorem dX7_rows_126 : decode cX7_rows 126 = .ok (.aaload, 1) := by decide +kernel
theorem dX7_rows_127 : decode cX7_rows 127 = .ok (.iconst 0, 1) := by decide +kernel
theorem dX7_rows_128 : decode cX7_rows 128 = .ok (.aload_n 0, 1) := by decide +kernel
theorem dX7_rows_129 : decode cX7_rows 129 = .ok (.getfield 16, 3) := by decide +kernel
theorem dX7_rows_132 : decode cX7_rows 132 = .ok (.invokestatic 49, 3) := by decide +kernel
theorem dX7_rows_135 : decode cX7_rows 135 = .ok (.iinc 10 1, 3) := by decide +kernel
theorem dX7_rows_138 : decode cX7_rows 138 = .ok (.goto (-75), 3) := by decide +kernel
theorem dX7_rows_141 : decode cX7_rows 141 = .ok (.iinc 8 1, 3) := by decide +kernel
theorem dX7_rows_144 : decode cX7_rows 144 = .ok (.goto (-98), 3) := by decide +kernel
theorem dX7_rows_147 : decode cX7_rows 147 = .ok (.aload_n 3, 1) := by decide +kernel
theorem dX7_rows_148 : decode cX7_rows 148 = .ok (.areturn, 1) := by decide +kernel
set_option maxRecDepth 20000 in
theorem ggX7_rows__X7_rounds : GoodIn wsX7_rows_ wsX7_rounds := goodIn_r _ [6, 7, 8, 29, 30, 31, 32, 33, 34, 35, 36] (by decide +kernel) (by decide +kernel)
set_option maxRecDepth 20000 in
theorem gX7_rows__X7_rounds : GoodIn wsX7_rows_ (wsV RX7 62 RX7 yX7_rounds wsX7_rounds) := goodIn_app (goodIn_of _ (by decide +kernel)) ggX7_rows__X7_rounds
set_option maxRecDepth 20000 in
theorem ggX7_rows__X7_rows : GoodIn wsX7_rows_ wsX7_rows := goodIn_r _ [12, 13, 14, 7, 8, 15, 16, 17, 18, 19, 20, 21, 5, 22, 23, 24, 25, 26, 27, 28, 29, 30, 31, 32, 33, 34, 35, 36] (by decide +kernel) (by decide +kernel)
set_option maxRecDepth 20000 in
theorem gX7_rows__X7_rows : GoodIn wsX7_rows_ (wsV RX7 114 RX7 yX7_rows wsX7_rows) := goodIn_app (goodIn_of _ (by decide +kernel)) ggX7_rows__X7_rows
theorem dX7_rows__0 : decode cX7_rows_ 0 = .ok (.aload_n 0, 1) := by decide +kernel
theorem dX7_rows__1 : decode cX7_rows_ 1 = .ok (.aload_n 0, 1) := by decide +kernel
theorem dX7_rows__2 : decode cX7_rows_ 2 = .ok (.invokevirtual 62, 3) := by decide +kernel
theorem dX7_rows__5 : decode cX7_rows_ 5 = .ok (.aload_n 0, 1) := by decide +kernel
theorem dX7_rows__6 : decode cX7_rows_ 6 = .ok (.getfield 30, 3) := by decide +kernel
theorem dX7_rows__9 : decode cX7_rows_ 9 = .ok (.invokevirtual 114, 3) := by decide +kernel
theorem dX7_rows__12 : decode cX7_rows_ 12 = .ok (.areturn, 1) := by decide +kernel
set_option maxRecDepth 20000 in
theorem ggX7_found_X7_begin : GoodIn wsX7_found wsX7_begin := goodIn_ca (goodIn_r _ [5, 6, 7, 8, 9, 10, 11, 12, 13, 14, 15, 4, 16, 17, 18, 19, 20, 21, 22, 23, 24, 25, 26, 27, 28, 29, 30, 31, 32, 33, 34, 35, 36, 37, 38, 39, 40, 41, 42, 43, 44, 45, 46, 47, 48, 49, 50, 51, 52, 53, 54, 55, 56, 57, 58, 59, 60, 61, 62, 63, 64, 65, 66, 67, 68, 69, 70, 71, 72, 73, 74, 75, 76, 77, 78, 79, 80, 81, 82, 83, 84, 85, 86, 87, 88, 89, 90, 91, 92, 93, 94, 232, 233, 234, 235, 236, 237, 238, 239, 240, 241, 242, 243, 244, 245, 246, 247, 248, 249, 250, 251, 252, 253, 254, 255] (by decide +kernel) (by decide +kernel)) (goodIn_sub (fun _ h => List.mem_cons_of_mem _ (List.mem_append_left _ (List.mem_append_right _ h))) (by decide +kernel))
set_option maxRecDepth 20000 in
theorem gX7_found_X7_begin : GoodIn wsX7_found (wsV RX7 117 RX7 yX7_begin wsX7_begin) := goodIn_app (goodIn_of _ (by decide +kernel)) ggX7_found_X7_begin
set_option maxRecDepth 20000 in
theorem ggX7_found_X7_draw : GoodIn wsX7_found wsX7_draw := goodIn_r _ [16, 17, 18, 19, 20, 21, 22, 23, 24, 25, 232, 233, 234, 235, 236, 237, 238, 239] (by decide +kernel) (by decide +kernel)
set_option maxRecDepth 20000 in
theorem gX7_found_X7_draw : GoodIn wsX7_found (wsV RX7 55 RX7 yX7_draw wsX7_draw) := goodIn_app (goodIn_of _ (by decide +kernel)) ggX7_found_X7_draw
set_option maxRecDepth 20000 in
theorem ggX7_found_X7_change : GoodIn wsX7_found wsX7_change := goodIn_ca (goodIn_ca (goodIn_r _ [98, 8, 12, 99, 100, 101, 4, 102, 6, 13, 14, 15, 16, 17, 18, 19, 20, 21, 22, 23, 24, 25, 103, 104, 105, 7, 106, 107, 108, 109, 110, 111, 112, 29, 113, 114, 115, 33, 34, 116, 117, 118, 119, 31, 32, 120, 121, 122, 38, 123, 41, 124, 125, 77, 126, 127, 128, 129, 130, 131, 132, 133, 40, 134, 135, 136, 47, 137, 49, 138, 139, 140, 141, 142, 143, 144, 145, 146, 147, 148, 149, 53, 150, 55, 57, 58, 59, 60, 61, 62, 63, 64, 56, 45, 46, 48, 65, 66, 67, 68, 69, 70, 71, 72, 73, 74, 151, 152, 153, 154, 155, 156, 157, 158, 159, 160, 161, 162, 163, 164, 165, 166, 76, 78, 79, 80, 81, 167, 168, 169, 170, 171, 172, 173, 174, 175, 42, 43, 176, 177, 178, 179, 180, 181, 182, 183, 184, 185, 186, 187, 188, 189, 190, 191, 192, 193, 194, 195, 196, 197, 198, 199, 200, 201, 202, 203, 204, 205, 232, 233, 234, 235, 236, 237, 238, 239, 240, 241, 242, 243, 244, 245, 246, 247, 248, 249, 250, 251, 252, 253, 254, 255] (by decide +kernel) (by decide +kernel)) (goodIn_sub (fun _ h => List.mem_cons_of_mem _ (List.mem_append_right _ h)) (by decide +kernel))) (goodIn_sub (fun _ h => List.mem_cons_of_mem _ (List.mem_append_left _ (List.mem_append_right _ h))) (by decide +kernel))
set_option maxRecDepth 20000 in
theorem gX7_found_X7_change : GoodIn wsX7_found (wsV RX7 120 RX7 yX7_change wsX7_change) := goodIn_app (goodIn_of _ (by decide +kernel)) ggX7_found_X7_change
set_option maxRecDepth 20000 in
theorem ggX7_found_X7_mirror : GoodIn wsX7_found wsX7_mirror := goodIn_ca (goodIn_r _ [209, 210, 8, 12, 211, 212, 213, 29, 214, 114, 115, 33, 34, 130, 131, 132, 38, 133, 40, 134, 135, 136, 47, 137, 49, 215, 216, 217, 218, 176, 153, 154, 155, 146, 138, 139, 140, 141, 142, 143, 144, 145, 147, 148, 149, 53, 150, 55, 57, 58, 59, 60, 61, 62, 63, 64, 56, 45, 46, 48, 65, 66, 67, 68, 69, 70, 71, 72, 73, 74, 151, 152, 156, 157, 158, 159, 160, 161, 162, 163, 164, 165, 121, 122, 123, 41, 166, 76, 77, 78, 79, 80, 81, 167, 168, 169, 170, 171, 172, 173, 174, 175, 42, 43, 177, 178, 179, 127, 128, 129, 180, 181, 182, 183, 184, 185, 186, 187, 188, 189, 190, 191, 192, 193, 194, 195, 196, 197, 198, 199, 200, 201, 202, 203, 204, 205, 103, 104, 4, 105, 7, 106, 107, 108, 109, 232, 233, 234, 235, 236, 237, 238, 239, 240, 241, 242, 243, 244, 245, 246, 247, 248, 249, 250, 251, 252, 253, 254, 255] (by decide +kernel) (by decide +kernel)) (goodIn_sub (fun _ h => List.mem_cons_of_mem _ (List.mem_append_right _ h)) (by decide +kernel))
set_option maxRecDepth 20000 in
theorem gX7_found_X7_mirror : GoodIn wsX7_found (wsV RX7 122 RX7 yX7_mirror wsX7_mirror) := goodIn_app (goodIn_of _ (by decide +kernel)) ggX7_found_X7_mirror
set_option maxRecDepth 20000 in
theorem ggX7_found_X7_at : GoodIn wsX7_found wsX7_at := goodIn_ca (goodIn_r _ [222, 10, 11, 12, 99, 100, 101, 4, 102, 6, 13, 14, 15, 16, 17, 18, 19, 20, 21, 22, 23, 24, 25, 223, 224, 225, 29, 226, 31, 32, 33, 34, 116, 117, 118, 119, 120, 121, 122, 38, 123, 41, 124, 125, 77, 126, 127, 128, 129, 227, 173, 174, 175, 42, 43, 228, 229, 230, 231, 147, 148, 149, 53, 150, 55, 57, 58, 59, 60, 61, 62, 63, 64, 56, 45, 46, 47, 48, 49, 65, 66, 67, 68, 69, 70, 71, 72, 73, 74, 151, 135, 136, 137, 152, 153, 154, 155, 146, 156, 157, 158, 159, 160, 161, 162, 163, 164, 165, 166, 76, 78, 79, 80, 81, 167, 131, 132, 133, 40, 134, 168, 169, 170, 171, 172, 176, 177, 178, 179, 180, 181, 182, 183, 184, 185, 186, 187, 188, 189, 190, 191, 192, 193, 194, 195, 196, 197, 198, 199, 200, 201, 202, 203, 204, 205, 143, 144, 145, 232, 233, 234, 235, 236, 237, 238, 239, 240, 241, 242, 243, 244, 245, 246, 249, 250, 251, 252, 253, 254, 247, 248, 255] (by decide +kernel) (by decide +kernel)) (goodIn_sub (fun _ h => List.mem_cons_of_mem _ (List.mem_append_left _ (List.mem_append_right _ h))) (by decide +kernel))
set_option maxRecDepth 20000 in
theorem gX7_found_X7_at : GoodIn wsX7_found (wsV RX7 124 RX7 yX7_at wsX7_at) := goodIn_app (goodIn_of _ (by decide +kernel)) ggX7_found_X7_at
theorem dX7_found_0 : decode cX7_found 0 = .ok (.aload_n 0, 1) := by decide +kernel
theorem dX7_found_1 : decode cX7_found 1 = .ok (.invokevirtual 117, 3) := by decide +kernel
theorem dX7_found_4 : decode cX7_found 4 = .ok (.ifCond .ne 5, 3) := by decide +kernel
theorem dX7_found_7 : decode cX7_found 7 = .ok (.iconst 0, 1) := by decide +kernel
theorem dX7_found_8 : decode cX7_found 8 = .ok (.ireturn, 1) := by decide +kernel
theorem dX7_found_9 : decode cX7_found 9 = .ok (.iconst 1, 1) := by decide +kernel
theorem dX7_found_10 : decode cX7_found 10 = .ok (.aload_n 0, 1) := by decide +kernel
theorem dX7_found_11 : decode cX7_found 11 = .ok (.iconst 5, 1) := by decide +kernel
theorem dX7_found_12 : decode cX7_found 12 = .ok (.invokevirtual 55, 3) := by decide +kernel
theorem dX7_found_15 : decode cX7_found 15 = .ok (.iadd, 1) := by decide +kernel
theorem dX7_found_16 : decode cX7_found 16 = .ok (.istore_n 1, 1) := by decide +kernel
theorem dX7_found_17 : decode cX7_found 17 = .ok (.iload_n 1, 1) := by decide +kernel
theorem dX7_found_18 : decode cX7_found 18 = .ok (.ifCond .le 18, 3) := by decide +kernel
theorem dX7_found_21 : decode cX7_found 21 = .ok (.aload_n 0, 1) := by decide +kernel
theorem dX7_found_22 : decode cX7_found 22 = .ok (.invokevirtual 120, 3) := by decide +kernel
theorem dX7_found_25 : decode cX7_found 25 = .ok (.ifCond .ne 5, 3) := by decide +kernel
theorem dX7_found_28 : decode cX7_found 28 = .ok (.iconst 0, 1) := by decide +kernel
theorem dX7_found_29 : decode cX7_found 29 = .ok (.ireturn, 1) := by decide +kernel
theorem dX7_found_30 : decode cX7_found 30 = .ok (.iinc 1 (-1), 3) := by decide +kernel
theorem dX7_found_33 : decode cX7_found 33 = .ok (.goto (-16), 3) := by decide +kernel
theorem dX7_found_36 : decode cX7_found 36 = .ok (.aload_n 0, 1) := by decide +kernel
theorem dX7_found_37 : decode cX7_found 37 = .ok (.iconst 2, 1) := by decide +kernel
theorem dX7_found_38 : decode cX7_found 38 = .ok (.invokevirtual 55, 3) := by decide +kernel
theorem dX7_found_41 : decode cX7_found 41 = .ok (.ifCond .eq 10, 3) := by decide +kernel
theorem dX7_found_44 : decode cX7_found 44 = .ok (.aload_n 0, 1) := by decide +kernel
theorem dX7_found_45 : decode cX7_found 45 = .ok (.invokevirtual 122, 3) := by decide +kernel
theorem dX7_found_48 : decode cX7_found 48 = .ok (.ifCond .eq 21, 3) := by decide +kernel
theorem dX7_found_51 : decode cX7_found 51 = .ok (.aload_n 0, 1) := by decide +kernel
theorem dX7_found_52 : decode cX7_found 52 = .ok (.invokevirtual 124, 3) := by decide +kernel
theorem dX7_found_55 : decode cX7_found 55 = .ok (.ifCond .eq 14, 3) := by decide +kernel
theorem dX7_found_58 : decode cX7_found 58 = .ok (.aload_n 0, 1) := by decide +kernel
theorem dX7_found_59 : decode cX7_found 59 = .ok (.invokevirtual 124, 3) := by decide +kernel
theorem dX7_found_62 : decode cX7_found 62 = .ok (.ifCond .eq 7, 3) := by decide +kernel
theorem dX7_found_65 : decode cX7_found 65 = .ok (.iconst 1, 1) := by decide +kernel
theorem dX7_found_66 : decode cX7_found 66 = .ok (.goto 4, 3) := by decide +kernel
theorem dX7_found_69 : decode cX7_found 69 = .ok (.iconst 0, 1) := by decide +kernel
theorem dX7_found_70 : decode cX7_found 70 = .ok (.ireturn, 1) := by decide +kernel
set_option maxRecDepth 20000 in
theorem ggX7_act_X7_draw : GoodIn wsX7_act wsX7_draw := goodIn_r _ [5, 6, 7, 8, 9, 10, 11, 12, 13, 14, 285, 286, 287, 288, 289, 290, 291, 292] (by decide +kernel) (by decide +kernel)
set_option maxRecDepth 20000 in
theorem gX7_act_X7_draw : GoodIn wsX7_act (wsV RX7 55 RX7 yX7_draw wsX7_draw) := goodIn_app (goodIn_of _ (by decide +kernel)) ggX7_act_X7_draw
set_option maxRecDepth 20000 in
theorem ggX7_act_X7_change : GoodIn wsX7_act wsX7_change := goodIn_ca (goodIn_ca (goodIn_r _ [18, 19, 20, 21, 22, 23, 4, 24, 25, 1, 2, 3, 5, 6, 7, 8, 9, 10, 11, 12, 13, 14, 26, 27, 28, 29, 30, 31, 32, 33, 34, 35, 36, 37, 38, 39, 40, 41, 42, 43, 44, 45, 46, 47, 48, 49, 50, 51, 52, 53, 54, 55, 56, 57, 58, 59, 60, 61, 62, 63, 64, 65, 66, 67, 68, 69, 70, 71, 72, 73, 74, 75, 76, 77, 78, 79, 80, 81, 82, 83, 84, 85, 86, 87, 88, 89, 90, 91, 92, 93, 94, 95, 96, 97, 98, 99, 100, 101, 102, 103, 104, 105, 106, 107, 108, 109, 110, 111, 112, 113, 114, 115, 116, 117, 118, 119, 120, 121, 122, 123, 124, 125, 126, 127, 128, 129, 130, 131, 132, 133, 134, 135, 136, 137, 138, 139, 140, 141, 142, 143, 144, 145, 146, 147, 148, 149, 150, 151, 152, 153, 154, 155, 156, 157, 158, 159, 160, 161, 162, 163, 164, 165, 166, 167, 168, 169, 170, 171, 285, 286, 287, 288, 289, 290, 291, 292, 293, 294, 295, 296, 297, 298, 299, 300, 301, 302, 303, 304, 305, 306, 307, 308] (by decide +kernel) (by decide +kernel)) (goodIn_sub (fun _ h => List.mem_cons_of_mem _ (List.mem_append_left _ (List.mem_append_right _ h))) (by decide +kernel))) (goodIn_sub (fun _ h => List.mem_cons_of_mem _ (List.mem_append_right _ h)) (by decide +kernel))
set_option maxRecDepth 20000 in
theorem gX7_act_X7_change : GoodIn wsX7_act (wsV RX7 120 RX7 yX7_change wsX7_change) := goodIn_app (goodIn_of _ (by decide +kernel)) ggX7_act_X7_change
set_option maxRecDepth 20000 in
theorem ggX7_act_X7_unchange : GoodIn wsX7_act wsX7_unchange := goodIn_ca (goodIn_r _ [175, 19, 20, 176, 177, 4, 178, 29, 30, 31, 32, 33, 179, 180, 181, 37, 182, 39, 40, 41, 42, 62, 63, 64, 52, 65, 66, 67, 68, 69, 70, 71, 72, 183, 184, 185, 186, 187, 188, 189, 190, 191, 112, 113, 114, 81, 82, 83, 84, 85, 86, 87, 88, 89, 90, 91, 92, 93, 94, 95, 96, 97, 98, 99, 100, 101, 102, 103, 104, 105, 106, 107, 108, 109, 110, 111, 115, 116, 117, 118, 119, 120, 121, 122, 123, 124, 50, 51, 53, 54, 125, 126, 57, 127, 128, 129, 130, 131, 132, 133, 134, 135, 136, 137, 138, 139, 140, 141, 142, 143, 144, 145, 59, 60, 61, 146, 147, 148, 149, 150, 151, 152, 153, 154, 155, 156, 157, 158, 159, 160, 161, 162, 163, 164, 165, 166, 167, 168, 169, 170, 171, 78, 79, 80, 285, 286, 287, 288, 289, 290, 291, 292, 293, 294, 295, 296, 297, 298, 299, 300, 301, 302, 303, 304, 305, 306, 307, 308] (by decide +kernel) (by decide +kernel)) (goodIn_sub (fun _ h => List.mem_cons_of_mem _ (List.mem_append_left _ (List.mem_append_right _ h))) (by decide +kernel))
set_option maxRecDepth 20000 in
theorem gX7_act_X7_unchange : GoodIn wsX7_act (wsV RX7 126 RX7 yX7_unchange wsX7_unchange) := goodIn_app (goodIn_of _ (by decide +kernel)) ggX7_act_X7_unchange
set_option maxRecDepth 20000 in
theorem ggX7_act_X7_at : GoodIn wsX7_act wsX7_at := goodIn_ca (goodIn_r _ [195, 196, 197, 20, 21, 22, 23, 4, 24, 25, 1, 2, 3, 5, 6, 7, 8, 9, 10, 11, 12, 13, 14, 198, 199, 200, 37, 201, 47, 48, 41, 42, 43, 44, 45, 46, 49, 50, 51, 52, 53, 54, 55, 56, 57, 58, 59, 60, 61, 202, 137, 138, 139, 140, 141, 203, 204, 205, 206, 82, 83, 84, 85, 86, 87, 88, 89, 90, 91, 92, 93, 94, 95, 96, 97, 98, 70, 99, 72, 100, 101, 102, 103, 104, 105, 106, 107, 108, 109, 110, 68, 69, 71, 111, 112, 113, 114, 81, 115, 116, 117, 118, 119, 120, 121, 122, 123, 124, 125, 126, 127, 128, 129, 130, 131, 63, 64, 65, 66, 67, 132, 133, 134, 135, 136, 142, 143, 144, 145, 146, 147, 148, 149, 150, 151, 152, 153, 154, 155, 156, 157, 158, 159, 160, 161, 162, 163, 164, 165, 166, 167, 168, 169, 170, 171, 78, 79, 80, 285, 286, 287, 288, 289, 290, 291, 292, 293, 294, 295, 296, 297, 298, 299, 302, 303, 304, 305, 306, 307, 300, 301, 308] (by decide +kernel) (by decide +kernel)) (goodIn_sub (fun _ h => List.mem_cons_of_mem _ (List.mem_append_right _ h)) (by decide +kernel))
set_option maxRecDepth 20000 in
theorem gX7_act_X7_at : GoodIn wsX7_act (wsV RX7 124 RX7 yX7_at wsX7_at) := goodIn_app (goodIn_of _ (by decide +kernel)) ggX7_act_X7_at
set_option maxRecDepth 20000 in
theorem ggX7_act_X7_uncall : GoodIn wsX7_act wsX7_uncall := goodIn_ca (goodIn_r _ [210, 211, 20, 176, 177, 4, 178, 29, 30, 31, 32, 33, 212, 213, 214, 37, 215, 39, 40, 42, 216, 217, 218, 85, 219, 87, 110, 68, 69, 70, 71, 72, 220, 221, 222, 223, 119, 131, 63, 64, 52, 65, 66, 67, 224, 225, 226, 227, 92, 93, 94, 95, 228, 188, 189, 190, 191, 112, 113, 114, 81, 124, 50, 51, 53, 54, 153, 154, 57, 155, 156, 157, 158, 159, 160, 161, 162, 163, 164, 165, 103, 166, 105, 229, 230, 231, 232, 233, 168, 169, 170, 285, 286, 287, 288, 289, 290, 291, 292, 293, 294, 295, 302, 303, 304, 305, 306, 307, 300, 301, 296, 297, 298, 299, 308] (by decide +kernel) (by decide +kernel)) (goodIn_sub (fun _ h => List.mem_cons_of_mem _ (List.mem_append_left _ (List.mem_append_right _ h))) (by decide +kernel))
set_option maxRecDepth 20000 in
theorem gX7_act_X7_uncall : GoodIn wsX7_act (wsV RX7 128 RX7 yX7_uncall wsX7_uncall) := goodIn_app (goodIn_of _ (by decide +kernel)) ggX7_act_X7_uncall
set_option maxRecDepth 20000 in
theorem ggX7_act_X7_call : GoodIn wsX7_act wsX7_call := goodIn_ca (goodIn_ca (goodIn_r _ [237, 211, 20, 1, 2, 3, 4, 5, 6, 7, 8, 9, 10, 11, 12, 13, 14, 26, 27, 28, 29, 30, 31, 32, 33, 238, 239, 240, 241, 242, 243, 244, 245, 25, 246, 247, 248, 249, 19, 250, 251, 252, 253, 254, 196, 197, 255, 256, 257, 258, 259, 260, 261, 37, 262, 39, 40, 42, 263, 264, 265, 266, 47, 48, 216, 217, 218, 85, 219, 87, 110, 68, 69, 70, 71, 72, 267, 268, 269, 270, 171, 78, 79, 80, 81, 115, 116, 117, 118, 119, 120, 121, 122, 123, 92, 124, 50, 51, 52, 53, 54, 125, 126, 57, 127, 128, 129, 130, 111, 112, 113, 114, 131, 63, 64, 65, 66, 67, 132, 133, 134, 135, 136, 137, 138, 139, 140, 141, 142, 143, 144, 145, 59, 60, 61, 146, 147, 148, 149, 150, 151, 152, 93, 94, 95, 153, 154, 155, 156, 157, 158, 159, 160, 161, 162, 163, 164, 165, 103, 166, 105, 167, 168, 169, 170, 271, 272, 273, 274, 275, 41, 49, 276, 277, 278, 279, 280, 281, 282, 283, 284, 285, 286, 287, 288, 289, 290, 291, 292, 293, 294, 295, 302, 303, 304, 305, 306, 307, 300, 301, 296, 297, 298, 299, 308] (by decide +kernel) (by decide +kernel)) (goodIn_sub (fun _ h => List.mem_cons_of_mem _ (List.mem_append_left _ (List.mem_append_right _ h))) (by decide +kernel))) (goodIn_sub (fun _ h => List.mem_cons_of_mem _ (List.mem_append_right _ h)) (by decide +kernel))
set_option maxRecDepth 20000 in
theorem gX7_act_X7_call : GoodIn wsX7_act (wsV RX7 130 RX7 yX7_call wsX7_call) := goodIn_app (goodIn_of _ (by decide +kernel)) ggX7_act_X7_call
theorem dX7_act_0 : decode cX7_act 0 = .ok (.aload_n 0, 1) := by decide +kernel
theorem dX7_act_1 : decode cX7_act 1 = .ok (.bipush 9, 2) := by decide +kernel
theorem dX7_act_3 : decode cX7_act 3 = .ok (.invokevirtual 55, 3) := by decide +kernel
theorem dX7_act_6 : decode cX7_act 6 = .ok (.tableswitch 50 0 3 #[30, 35, 40, 45], 30) := by decide +kernel
theorem dX7_act_36 : decode cX7_act 36 = .ok (.aload_n 0, 1) := by decide +kernel
theorem dX7_act_37 : decode cX7_act 37 = .ok (.invokevirtual 120, 3) := by decide +kernel
theorem dX7_act_40 : decode cX7_act 40 = .ok (.ireturn, 1) := by decide +kernel
theorem dX7_act_41 : decode cX7_act 41 = .ok (.aload_n 0, 1) := by decide +kernel
theorem dX7_act_42 : decode cX7_act 42 = .ok (.invokevirtual 126, 3) := by decide +kernel
theorem dX7_act_45 : decode cX7_act 45 = .ok (.ireturn, 1) := by decide +kernel
theorem dX7_act_46 : decode cX7_act 46 = .ok (.aload_n 0, 1) := by decide +kernel
theorem dX7_act_47 : decode cX7_act 47 = .ok (.invokevirtual 124, 3) := by decide +kernel
theorem dX7_act_50 : decode cX7_act 50 = .ok (.ireturn, 1) := by decide +kernel
theorem dX7_act_51 : decode cX7_act 51 = .ok (.aload_n 0, 1) := by decide +kernel
theorem dX7_act_52 : decode cX7_act 52 = .ok (.invokevirtual 128, 3) := by decide +kernel
theorem dX7_act_55 : decode cX7_act 55 = .ok (.ireturn, 1) := by decide +kernel
theorem dX7_act_56 : decode cX7_act 56 = .ok (.aload_n 0, 1) := by decide +kernel
theorem dX7_act_57 : decode cX7_act 57 = .ok (.invokevirtual 130, 3) := by decide +kernel
theorem dX7_act_60 : decode cX7_act 60 = .ok (.ireturn, 1) := by decide +kernel
theorem dJ6_bitCount_0f7a4_0 : decode cJ6_bitCount_0f7a4 0 = .ok (.iload_n 0, 1) := by decide +kernel
theorem dJ6_bitCount_0f7a4_1 : decode cJ6_bitCount_0f7a4 1 = .ok (.iload_n 0, 1) := by decide +kernel
theorem dJ6_bitCount_0f7a4_2 : decode cJ6_bitCount_0f7a4 2 = .ok (.iconst 1, 1) := by decide +kernel
theorem dJ6_bitCount_0f7a4_3 : decode cJ6_bitCount_0f7a4 3 = .ok (.iushr, 1) := by decide +kernel
theorem dJ6_bitCount_0f7a4_4 : decode cJ6_bitCount_0f7a4 4 = .ok (.ldc_w 265, 3) := by decide +kernel
theorem dJ6_bitCount_0f7a4_7 : decode cJ6_bitCount_0f7a4 7 = .ok (.iand, 1) := by decide +kernel
theorem dJ6_bitCount_0f7a4_8 : decode cJ6_bitCount_0f7a4 8 = .ok (.isub, 1) := by decide +kernel
theorem dJ6_bitCount_0f7a4_9 : decode cJ6_bitCount_0f7a4 9 = .ok (.istore_n 0, 1) := by decide +kernel
theorem dJ6_bitCount_0f7a4_10 : decode cJ6_bitCount_0f7a4 10 = .ok (.iload_n 0, 1) := by decide +kernel
theorem dJ6_bitCount_0f7a4_11 : decode cJ6_bitCount_0f7a4 11 = .ok (.ldc_w 266, 3) := by decide +kernel
theorem dJ6_bitCount_0f7a4_14 : decode cJ6_bitCount_0f7a4 14 = .ok (.iand, 1) := by decide +kernel
theorem dJ6_bitCount_0f7a4_15 : decode cJ6_bitCount_0f7a4 15 = .ok (.iload_n 0, 1) := by decide +kernel
theorem dJ6_bitCount_0f7a4_16 : decode cJ6_bitCount_0f7a4 16 = .ok (.iconst 2, 1) := by decide +kernel
theorem dJ6_bitCount_0f7a4_17 : decode cJ6_bitCount_0f7a4 17 = .ok (.iushr, 1) := by decide +kernel
theorem dJ6_bitCount_0f7a4_18 : decode cJ6_bitCount_0f7a4 18 = .ok (.ldc_w 266, 3) := by decide +kernel
theorem dJ6_bitCount_0f7a4_21 : decode cJ6_bitCount_0f7a4 21 = .ok (.iand, 1) := by decide +kernel
theorem dJ6_bitCount_0f7a4_22 : decode cJ6_bitCount_0f7a4 22 = .ok (.iadd, 1) := by decide +kernel
theorem dJ6_bitCount_0f7a4_23 : decode cJ6_bitCount_0f7a4 23 = .ok (.istore_n 0, 1) := by decide +kernel
theorem dJ6_bitCount_0f7a4_24 : decode cJ6_bitCount_0f7a4 24 = .ok (.iload_n 0, 1) := by decide +kernel
theorem dJ6_bitCount_0f7a4_25 : decode cJ6_bitCount_0f7a4 25 = .ok (.iload_n 0, 1) := by decide +kernel
theorem dJ6_bitCount_0f7a4_26 : decode cJ6_bitCount_0f7a4 26 = .ok (.iconst 4, 1) := by decide +kernel
theorem dJ6_bitCount_0f7a4_27 : decode cJ6_bitCount_0f7a4 27 = .ok (.iushr, 1) := by decide +kernel
theorem dJ6_bitCount_0f7a4_28 : decode cJ6_bitCount_0f7a4 28 = .ok (.iadd, 1) := by decide +kernel
theorem dJ6_bitCount_0f7a4_29 : decode cJ6_bitCount_0f7a4 29 = .ok (.ldc_w 267, 3) := by decide +kernel
theorem dJ6_bitCount_0f7a4_32 : decode cJ6_bitCount_0f7a4 32 = .ok (.iand, 1) := by decide +kernel
theorem dJ6_bitCount_0f7a4_33 : decode cJ6_bitCount_0f7a4 33 = .ok (.istore_n 0, 1) := by decide +kernel
theorem dJ6_bitCount_0f7a4_34 : decode cJ6_bitCount_0f7a4 34 = .ok (.iload_n 0, 1) := by decide +kernel
theorem dJ6_bitCount_0f7a4_35 : decode cJ6_bitCount_0f7a4 35 = .ok (.iload_n 0, 1) := by decide +kernel
theorem dJ6_bitCount_0f7a4_36 : decode cJ6_bitCount_0f7a4 36 = .ok (.bipush 8, 2) := by decide +kernel
theorem dJ6_bitCount_0f7a4_38 : decode cJ6_bitCount_0f7a4 38 = .ok (.iushr, 1) := by decide +kernel
theorem dJ6_bitCount_0f7a4_39 : decode cJ6_bitCount_0f7a4 39 = .ok (.iadd, 1) := by decide +kernel
theorem dJ6_bitCount_0f7a4_40 : decode cJ6_bitCount_0f7a4 40 = .ok (.istore_n 0, 1) := by decide +kernel
theorem dJ6_bitCount_0f7a4_41 : decode cJ6_bitCount_0f7a4 41 = .ok (.iload_n 0, 1) := by decide +kernel
theorem dJ6_bitCount_0f7a4_42 : decode cJ6_bitCount_0f7a4 42 = .ok (.iload_n 0, 1) := by decide +kernel
theorem dJ6_bitCount_0f7a4_43 : decode cJ6_bitCount_0f7a4 43 = .ok (.bipush 16, 2) := by decide +kernel
theorem dJ6_bitCount_0f7a4_45 : decode cJ6_bitCount_0f7a4 45 = .ok (.iushr, 1) := by decide +kernel
theorem dJ6_bitCount_0f7a4_46 : decode cJ6_bitCount_0f7a4 46 = .ok (.iadd, 1) := by decide +kernel
theorem dJ6_bitCount_0f7a4_47 : decode cJ6_bitCount_0f7a4 47 = .ok (.istore_n 0, 1) := by decide +kernel
theorem dJ6_bitCount_0f7a4_48 : decode cJ6_bitCount_0f7a4 48 = .ok (.iload_n 0, 1) := by decide +kernel
theorem dJ6_bitCount_0f7a4_49 : decode cJ6_bitCount_0f7a4 49 = .ok (.bipush 63, 2) := by decide +kernel
theorem dJ6_bitCount_0f7a4_51 : decode cJ6_bitCount_0f7a4 51 = .ok (.iand, 1) := by decide +kernel
theorem dJ6_bitCount_0f7a4_52 : decode cJ6_bitCount_0f7a4 52 = .ok (.ireturn, 1) := by decide +kernel
theorem dJ9_abs_0f7a4_0 : decode cJ9_abs_0f7a4 0 = .ok (.iload_n 0, 1) := by decide +kernel
theorem dJ9_abs_0f7a4_1 : decode cJ9_abs_0f7a4 1 = .ok (.ifCond .ge 8, 3) := by decide +kernel
theorem dJ9_abs_0f7a4_4 : decode cJ9_abs_0f7a4 4 = .ok (.iload_n 0, 1) := by decide +kernel
theorem dJ9_abs_0f7a4_5 : decode cJ9_abs_0f7a4 5 = .ok (.ineg, 1) := by decide +kernel
theorem dJ9_abs_0f7a4_6 : decode cJ9_abs_0f7a4 6 = .ok (.goto 4, 3) := by decide +kernel
theorem dJ9_abs_0f7a4_9 : decode cJ9_abs_0f7a4 9 = .ok (.iload_n 0, 1) := by decide +kernel
theorem dJ9_abs_0f7a4_10 : decode cJ9_abs_0f7a4 10 = .ok (.ireturn, 1) := by decide +kernel
theorem dJ9_max_7cf53_0 : decode cJ9_max_7cf53 0 = .ok (.iload_n 0, 1) := by decide +kernel
theorem dJ9_max_7cf53_1 : decode cJ9_max_7cf53 1 = .ok (.iload_n 1, 1) := by decide +kernel
theorem dJ9_max_7cf53_2 : decode cJ9_max_7cf53 2 = .ok (.if_icmp .lt 7, 3) := by decide +kernel
theorem dJ9_max_7cf53_5 : decode cJ9_max_7cf53 5 = .ok (.iload_n 0, 1) := by decide +kernel
theorem dJ9_max_7cf53_6 : decode cJ9_max_7cf53 6 = .ok (.goto 4, 3) := by decide +kernel
theorem dJ9_max_7cf53_9 : decode cJ9_max_7cf53 9 = .ok (.iload_n 1, 1) := by decide +kernel
theorem dJ9_max_7cf53_10 : decode cJ9_max_7cf53 10 = .ok (.ireturn, 1) := by decide +kernel
theorem dJ9_min_7cf53_0 : decode cJ9_min_7cf53 0 = .ok (.iload_n 0, 1) := by decide +kernel
theorem dJ9_min_7cf53_1 : decode cJ9_min_7cf53 1 = .ok (.iload_n 1, 1) := by decide +kernel
theorem dJ9_min_7cf53_2 : decode cJ9_min_7cf53 2 = .ok (.if_icmp .gt 7, 3) := by decide +kernel
theorem dJ9_min_7cf53_5 : decode cJ9_min_7cf53 5 = .ok (.iload_n 0, 1) := by decide +kernel
theorem dJ9_min_7cf53_6 : decode cJ9_min_7cf53 6 = .ok (.goto 4, 3) := by decide +kernel
theorem dJ9_min_7cf53_9 : decode cJ9_min_7cf53 9 = .ok (.iload_n 1, 1) := by decide +kernel
theorem dJ9_min_7cf53_10 : decode cJ9_min_7cf53 10 = .ok (.ireturn, 1) := by decide +kernel
theorem dJ7_fill_53178_0 : decode cJ7_fill_53178 0 = .ok (.iconst 0, 1) := by decide +kernel
theorem dJ7_fill_53178_1 : decode cJ7_fill_53178 1 = .ok (.istore_n 2, 1) := by decide +kernel
theorem dJ7_fill_53178_2 : decode cJ7_fill_53178 2 = .ok (.aload_n 0, 1) := by decide +kernel
theorem dJ7_fill_53178_3 : decode cJ7_fill_53178 3 = .ok (.arraylength, 1) := by decide +kernel
theorem dJ7_fill_53178_4 : decode cJ7_fill_53178 4 = .ok (.istore_n 3, 1) := by decide +kernel
theorem dJ7_fill_53178_5 : decode cJ7_fill_53178 5 = .ok (.iload_n 2, 1) := by decide +kernel
theorem dJ7_fill_53178_6 : decode cJ7_fill_53178 6 = .ok (.iload_n 3, 1) := by decide +kernel
theorem dJ7_fill_53178_7 : decode cJ7_fill_53178 7 = .ok (.if_icmp .ge 13, 3) := by decide +kernel
theorem dJ7_fill_53178_10 : decode cJ7_fill_53178 10 = .ok (.aload_n 0, 1) := by decide +kernel
theorem dJ7_fill_53178_11 : decode cJ7_fill_53178 11 = .ok (.iload_n 2, 1) := by decide +kernel
theorem dJ7_fill_53178_12 : decode cJ7_fill_53178 12 = .ok (.iload_n 1, 1) := by decide +kernel
theorem dJ7_fill_53178_13 : decode cJ7_fill_53178 13 = .ok (.iastore, 1) := by decide +kernel
theorem dJ7_fill_53178_14 : decode cJ7_fill_53178 14 = .ok (.iinc 2 1, 3) := by decide +kernel
theorem dJ7_fill_53178_17 : decode cJ7_fill_53178 17 = .ok (.goto (-12), 3) := by decide +kernel
theorem dJ7_fill_53178_20 : decode cJ7_fill_53178 20 = .ok (.return_, 1) := by decide +kernel
