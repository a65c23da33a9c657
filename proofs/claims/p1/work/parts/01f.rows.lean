theorem dX6_isChange_0 : decode cX6_isChange 0 = .ok (.iload_n 1, 1) := by decide +kernel
theorem dX6_isChange_1 : decode cX6_isChange 1 = .ok (.aload_n 0, 1) := by decide +kernel
theorem dX6_isChange_2 : decode cX6_isChange 2 = .ok (.getfield 10, 3) := by decide +kernel
theorem dX6_isChange_5 : decode cX6_isChange 5 = .ok (.invokevirtual 93, 3) := by decide +kernel
theorem dX6_isChange_8 : decode cX6_isChange 8 = .ok (.invokestatic 96, 3) := by decide +kernel
theorem dX6_isChange_11 : decode cX6_isChange 11 = .ok (.ireturn, 1) := by decide +kernel
set_option maxRecDepth 20000 in
theorem ggX6_told_X2_bells : GoodIn wsX6_told wsX2_bells := goodIn_r _ [9, 10, 75, 76, 77, 78] (by decide +kernel) (by decide +kernel)
set_option maxRecDepth 20000 in
theorem gX6_told_X2_bells : GoodIn wsX6_told (wsV RX6 93 RX2 yX2_bells wsX2_bells) := goodIn_app (goodIn_of _ (by decide +kernel)) ggX6_told_X2_bells
set_option maxRecDepth 20000 in
theorem ggX6_told_X2_length : GoodIn wsX6_told wsX2_length := goodIn_r _ [14, 15, 16, 17, 18, 19, 20, 21, 75, 76, 77, 78, 79, 80] (by decide +kernel) (by decide +kernel)
set_option maxRecDepth 20000 in
theorem gX6_told_X2_length : GoodIn wsX6_told (wsV RX6 59 RX2 yX2_length wsX2_length) := goodIn_app (goodIn_of _ (by decide +kernel)) ggX6_told_X2_length
set_option maxRecDepth 20000 in
theorem ggX6_told_X2_insteadOfLast : GoodIn wsX6_told wsX2_insteadOfLast := goodIn_r _ [25, 26, 27, 75, 76, 77, 78] (by decide +kernel) (by decide +kernel)
set_option maxRecDepth 20000 in
theorem gX6_told_X2_insteadOfLast : GoodIn wsX6_told (wsV RX6 86 RX2 yX2_insteadOfLast wsX2_insteadOfLast) := goodIn_app (goodIn_of _ (by decide +kernel)) ggX6_told_X2_insteadOfLast
set_option maxRecDepth 20000 in
theorem ggX6_told_X5_callCount : GoodIn wsX6_told wsX5_callCount := goodIn_r _ [32, 33, 34, 17, 18, 19, 20, 21, 81, 82, 83, 84, 85, 86, 79, 80] (by decide +kernel) (by decide +kernel)
set_option maxRecDepth 20000 in
theorem gX6_told_X5_callCount : GoodIn wsX6_told (wsV RX6 100 RX5 yX5_callCount wsX5_callCount) := goodIn_app (goodIn_of _ (by decide +kernel)) ggX6_told_X5_callCount
set_option maxRecDepth 20000 in
theorem ggX6_told_X2_huntBells : GoodIn wsX6_told wsX2_huntBells := goodIn_r _ [38, 10, 39, 40, 41, 42, 43, 44, 45, 46, 47, 48, 8, 49, 15, 16, 17, 18, 19, 20, 21, 50, 51, 52, 53, 54, 23, 24, 25, 26, 27, 55, 56, 57, 58, 59, 60, 61, 62, 63, 64, 65, 66, 67, 68, 69, 70, 71, 75, 76, 77, 78, 79, 80] (by decide +kernel) (by decide +kernel)
set_option maxRecDepth 20000 in
theorem gX6_told_X2_huntBells : GoodIn wsX6_told (wsV RX6 103 RX2 yX2_huntBells wsX2_huntBells) := goodIn_app (goodIn_of _ (by decide +kernel)) ggX6_told_X2_huntBells
theorem dX6_told_0 : decode cX6_told 0 = .ok (.iload_n 1, 1) := by decide +kernel
theorem dX6_told_1 : decode cX6_told 1 = .ok (.tableswitch 89 0 5 #[39, 47, 55, 64, 73, 81], 39) := by decide +kernel
theorem dX6_told_40 : decode cX6_told 40 = .ok (.aload_n 0, 1) := by decide +kernel
theorem dX6_told_41 : decode cX6_told 41 = .ok (.getfield 10, 3) := by decide +kernel
theorem dX6_told_44 : decode cX6_told 44 = .ok (.invokevirtual 93, 3) := by decide +kernel
theorem dX6_told_47 : decode cX6_told 47 = .ok (.ireturn, 1) := by decide +kernel
theorem dX6_told_48 : decode cX6_told 48 = .ok (.aload_n 0, 1) := by decide +kernel
theorem dX6_told_49 : decode cX6_told 49 = .ok (.getfield 10, 3) := by decide +kernel
theorem dX6_told_52 : decode cX6_told 52 = .ok (.invokevirtual 59, 3) := by decide +kernel
theorem dX6_told_55 : decode cX6_told 55 = .ok (.ireturn, 1) := by decide +kernel
theorem dX6_told_56 : decode cX6_told 56 = .ok (.aload_n 0, 1) := by decide +kernel
theorem dX6_told_57 : decode cX6_told 57 = .ok (.getfield 10, 3) := by decide +kernel
theorem dX6_told_60 : decode cX6_told 60 = .ok (.iconst 1, 1) := by decide +kernel
theorem dX6_told_61 : decode cX6_told 61 = .ok (.invokevirtual 86, 3) := by decide +kernel
theorem dX6_told_64 : decode cX6_told 64 = .ok (.ireturn, 1) := by decide +kernel
theorem dX6_told_65 : decode cX6_told 65 = .ok (.aload_n 0, 1) := by decide +kernel
theorem dX6_told_66 : decode cX6_told 66 = .ok (.getfield 10, 3) := by decide +kernel
theorem dX6_told_69 : decode cX6_told 69 = .ok (.iconst 2, 1) := by decide +kernel
theorem dX6_told_70 : decode cX6_told 70 = .ok (.invokevirtual 86, 3) := by decide +kernel
theorem dX6_told_73 : decode cX6_told 73 = .ok (.ireturn, 1) := by decide +kernel
theorem dX6_told_74 : decode cX6_told 74 = .ok (.aload_n 0, 1) := by decide +kernel
theorem dX6_told_75 : decode cX6_told 75 = .ok (.getfield 21, 3) := by decide +kernel
theorem dX6_told_78 : decode cX6_told 78 = .ok (.invokevirtual 100, 3) := by decide +kernel
theorem dX6_told_81 : decode cX6_told 81 = .ok (.ireturn, 1) := by decide +kernel
theorem dX6_told_82 : decode cX6_told 82 = .ok (.aload_n 0, 1) := by decide +kernel
theorem dX6_told_83 : decode cX6_told 83 = .ok (.getfield 10, 3) := by decide +kernel
theorem dX6_told_86 : decode cX6_told 86 = .ok (.invokevirtual 103, 3) := by decide +kernel
theorem dX6_told_89 : decode cX6_told 89 = .ok (.ireturn, 1) := by decide +kernel
theorem dX6_told_90 : decode cX6_told 90 = .ok (.new 32, 3) := by decide +kernel
theorem dX6_told_93 : decode cX6_told 93 = .ok (.dup, 1) := by decide +kernel
theorem dX6_told_94 : decode cX6_told 94 = .ok (.ldc 106, 2) := by decide +kernel
theorem dX6_told_96 : decode cX6_told 96 = .ok (.invokespecial 36, 3) := by decide +kernel
theorem dX6_told_99 : decode cX6_told 99 = .ok (.athrow, 1) := by decide +kernel
set_option maxRecDepth 20000 in
theorem ggX6_changeAt_X2_length : GoodIn wsX6_changeAt wsX2_length := goodIn_r _ [8, 9, 10, 11, 12, 13, 14, 15, 28, 29, 30, 31, 32, 33] (by decide +kernel) (by decide +kernel)
set_option maxRecDepth 20000 in
theorem gX6_changeAt_X2_length : GoodIn wsX6_changeAt (wsV RX6 59 RX2 yX2_length wsX2_length) := goodIn_app (goodIn_of _ (by decide +kernel)) ggX6_changeAt_X2_length
set_option maxRecDepth 20000 in
theorem ggX6_changeAt_X2_plainChange : GoodIn wsX6_changeAt wsX2_plainChange := goodIn_r _ [19, 9, 20, 21, 22, 13, 23, 15, 24, 28, 29, 30, 31, 32, 33] (by decide +kernel) (by decide +kernel)
set_option maxRecDepth 20000 in
theorem gX6_changeAt_X2_plainChange : GoodIn wsX6_changeAt (wsV RX6 76 RX2 yX2_plainChange wsX2_plainChange) := goodIn_app (goodIn_of _ (by decide +kernel)) ggX6_changeAt_X2_plainChange
theorem dX6_changeAt_0 : decode cX6_changeAt 0 = .ok (.iload_n 1, 1) := by decide +kernel
theorem dX6_changeAt_1 : decode cX6_changeAt 1 = .ok (.ifCond .lt 14, 3) := by decide +kernel
theorem dX6_changeAt_4 : decode cX6_changeAt 4 = .ok (.iload_n 1, 1) := by decide +kernel
theorem dX6_changeAt_5 : decode cX6_changeAt 5 = .ok (.aload_n 0, 1) := by decide +kernel
theorem dX6_changeAt_6 : decode cX6_changeAt 6 = .ok (.getfield 10, 3) := by decide +kernel
theorem dX6_changeAt_9 : decode cX6_changeAt 9 = .ok (.invokevirtual 59, 3) := by decide +kernel
theorem dX6_changeAt_12 : decode cX6_changeAt 12 = .ok (.if_icmp .lt 13, 3) := by decide +kernel
theorem dX6_changeAt_15 : decode cX6_changeAt 15 = .ok (.new 108, 3) := by decide +kernel
theorem dX6_changeAt_18 : decode cX6_changeAt 18 = .ok (.dup, 1) := by decide +kernel
theorem dX6_changeAt_19 : decode cX6_changeAt 19 = .ok (.ldc 110, 2) := by decide +kernel
theorem dX6_changeAt_21 : decode cX6_changeAt 21 = .ok (.invokespecial 112, 3) := by decide +kernel
theorem dX6_changeAt_24 : decode cX6_changeAt 24 = .ok (.athrow, 1) := by decide +kernel
theorem dX6_changeAt_25 : decode cX6_changeAt 25 = .ok (.aload_n 0, 1) := by decide +kernel
theorem dX6_changeAt_26 : decode cX6_changeAt 26 = .ok (.getfield 10, 3) := by decide +kernel
theorem dX6_changeAt_29 : decode cX6_changeAt 29 = .ok (.iload_n 1, 1) := by decide +kernel
theorem dX6_changeAt_30 : decode cX6_changeAt 30 = .ok (.invokevirtual 76, 3) := by decide +kernel
theorem dX6_changeAt_33 : decode cX6_changeAt 33 = .ok (.ireturn, 1) := by decide +kernel
set_option maxRecDepth 20000 in
theorem ggX6_next_X6_packedOrRefused : GoodIn wsX6_next wsX6_packedOrRefused := goodIn_ca (goodIn_r _ [6, 7, 8, 1, 9, 10, 11, 12, 13, 14, 15, 16, 17, 18, 19, 20, 21, 48, 49, 50, 51, 52, 53, 54] (by decide +kernel) (by decide +kernel)) (goodIn_sub (fun _ h => List.mem_cons_of_mem _ (List.mem_append_right _ h)) (by decide +kernel))
set_option maxRecDepth 20000 in
theorem gX6_next_X6_packedOrRefused : GoodIn wsX6_next (wsV RX6 113 RX6 yX6_packedOrRefused wsX6_packedOrRefused) := goodIn_app (goodIn_of _ (by decide +kernel)) ggX6_next_X6_packedOrRefused
set_option maxRecDepth 20000 in
theorem ggX6_next_X6_refuseNoChange : GoodIn wsX6_next wsX6_refuseNoChange := goodIn_ca (goodIn_r _ [25, 7, 8, 1, 9, 10, 11, 12, 13, 14, 26, 27, 17, 28, 29, 30, 31, 48, 49, 50, 51, 52, 53, 54] (by decide +kernel) (by decide +kernel)) (goodIn_sub (fun _ h => List.mem_cons_of_mem _ (List.mem_append_right _ h)) (by decide +kernel))
set_option maxRecDepth 20000 in
theorem gX6_next_X6_refuseNoChange : GoodIn wsX6_next (wsV RX6 56 RX6 yX6_refuseNoChange wsX6_refuseNoChange) := goodIn_app (goodIn_of _ (by decide +kernel)) ggX6_next_X6_refuseNoChange
set_option maxRecDepth 20000 in
theorem ggX6_next_X2_bells : GoodIn wsX6_next wsX2_bells := goodIn_r _ [13, 14, 51, 52, 53, 54] (by decide +kernel) (by decide +kernel)
set_option maxRecDepth 20000 in
theorem gX6_next_X2_bells : GoodIn wsX6_next (wsV RX6 93 RX2 yX2_bells wsX2_bells) := goodIn_app (goodIn_of _ (by decide +kernel)) ggX6_next_X2_bells
set_option maxRecDepth 20000 in
theorem ggX6_next_X3_changed : GoodIn wsX6_next wsX3_changed := goodIn_r _ [34, 29, 30, 17, 31, 35, 36, 37] (by decide +kernel) (by decide +kernel)
set_option maxRecDepth 20000 in
theorem gX6_next_X3_changed : GoodIn wsX6_next (va_wsS RX6 116 yX3_changed wsX3_changed) := goodIn_app (goodIn_of _ (by decide +kernel)) ggX6_next_X3_changed
set_option maxRecDepth 20000 in
theorem ggX6_next_X6_numberOf : GoodIn wsX6_next wsX6_numberOf := goodIn_r _ [41, 1, 9, 10, 11, 12, 13, 14, 42, 43, 17, 44, 45, 46, 47, 48, 49, 50, 51, 52, 53, 54] (by decide +kernel) (by decide +kernel)
set_option maxRecDepth 20000 in
theorem gX6_next_X6_numberOf : GoodIn wsX6_next (wsV RX6 120 RX6 yX6_numberOf wsX6_numberOf) := goodIn_app (goodIn_of _ (by decide +kernel)) ggX6_next_X6_numberOf
theorem dX6_next_0 : decode cX6_next 0 = .ok (.aload_n 0, 1) := by decide +kernel
theorem dX6_next_1 : decode cX6_next 1 = .ok (.iload_n 1, 1) := by decide +kernel
theorem dX6_next_2 : decode cX6_next 2 = .ok (.invokevirtual 113, 3) := by decide +kernel
theorem dX6_next_5 : decode cX6_next 5 = .ok (.istore_n 3, 1) := by decide +kernel
theorem dX6_next_6 : decode cX6_next 6 = .ok (.aload_n 0, 1) := by decide +kernel
theorem dX6_next_7 : decode cX6_next 7 = .ok (.iload_n 2, 1) := by decide +kernel
theorem dX6_next_8 : decode cX6_next 8 = .ok (.invokevirtual 56, 3) := by decide +kernel
theorem dX6_next_11 : decode cX6_next 11 = .ok (.aload_n 0, 1) := by decide +kernel
theorem dX6_next_12 : decode cX6_next 12 = .ok (.iload_n 3, 1) := by decide +kernel
theorem dX6_next_13 : decode cX6_next 13 = .ok (.iload_n 2, 1) := by decide +kernel
theorem dX6_next_14 : decode cX6_next 14 = .ok (.aload_n 0, 1) := by decide +kernel
theorem dX6_next_15 : decode cX6_next 15 = .ok (.getfield 10, 3) := by decide +kernel
theorem dX6_next_18 : decode cX6_next 18 = .ok (.invokevirtual 93, 3) := by decide +kernel
theorem dX6_next_21 : decode cX6_next 21 = .ok (.invokestatic 116, 3) := by decide +kernel
theorem dX6_next_24 : decode cX6_next 24 = .ok (.invokevirtual 120, 3) := by decide +kernel
theorem dX6_next_27 : decode cX6_next 27 = .ok (.ireturn, 1) := by decide +kernel
set_option maxRecDepth 20000 in
theorem ggX6_lead_X6_packedOrRefused : GoodIn wsX6_lead wsX6_packedOrRefused := goodIn_ca (goodIn_r _ [6, 7, 8, 1, 9, 10, 11, 12, 13, 14, 15, 16, 17, 18, 19, 20, 21, 71, 72, 73, 74, 75, 76, 77] (by decide +kernel) (by decide +kernel)) (goodIn_sub (fun _ h => List.mem_cons_of_mem _ (List.mem_append_right _ h)) (by decide +kernel))
set_option maxRecDepth 20000 in
theorem gX6_lead_X6_packedOrRefused : GoodIn wsX6_lead (wsV RX6 113 RX6 yX6_packedOrRefused wsX6_packedOrRefused) := goodIn_app (goodIn_of _ (by decide +kernel)) ggX6_lead_X6_packedOrRefused
set_option maxRecDepth 20000 in
theorem ggX6_lead_X6_refuseNoCall : GoodIn wsX6_lead wsX6_refuseNoCall := goodIn_ca (goodIn_r _ [25, 7, 8] (by decide +kernel) (by decide +kernel)) (goodIn_sub (fun _ h => List.mem_cons_of_mem _ (List.mem_append_right _ h)) (by decide +kernel))
set_option maxRecDepth 20000 in
theorem gX6_lead_X6_refuseNoCall : GoodIn wsX6_lead (wsV RX6 123 RX6 yX6_refuseNoCall wsX6_refuseNoCall) := goodIn_app (goodIn_of _ (by decide +kernel)) ggX6_lead_X6_refuseNoCall
set_option maxRecDepth 20000 in
theorem ggX6_lead_X2_leadEnd : GoodIn wsX6_lead wsX2_leadEnd := goodIn_r _ [29, 30, 14, 31, 32, 33, 34, 35, 36, 37, 38, 39, 12, 40, 41, 42, 43, 44, 45, 46, 47, 48, 49, 50, 51, 52, 53, 17, 54, 55, 56, 57, 58, 59, 60, 74, 75, 76, 77, 78, 79] (by decide +kernel) (by decide +kernel)
set_option maxRecDepth 20000 in
theorem gX6_lead_X2_leadEnd : GoodIn wsX6_lead (wsV RX6 126 RX2 yX2_leadEnd wsX2_leadEnd) := goodIn_app (goodIn_of _ (by decide +kernel)) ggX6_lead_X2_leadEnd
set_option maxRecDepth 20000 in
theorem ggX6_lead_X6_numberOf : GoodIn wsX6_lead wsX6_numberOf := goodIn_r _ [64, 1, 9, 10, 11, 12, 13, 14, 65, 66, 17, 67, 68, 69, 70, 71, 72, 73, 74, 75, 76, 77] (by decide +kernel) (by decide +kernel)
set_option maxRecDepth 20000 in
theorem gX6_lead_X6_numberOf : GoodIn wsX6_lead (wsV RX6 120 RX6 yX6_numberOf wsX6_numberOf) := goodIn_app (goodIn_of _ (by decide +kernel)) ggX6_lead_X6_numberOf
theorem dX6_lead_0 : decode cX6_lead 0 = .ok (.aload_n 0, 1) := by decide +kernel
theorem dX6_lead_1 : decode cX6_lead 1 = .ok (.iload_n 1, 1) := by decide +kernel
theorem dX6_lead_2 : decode cX6_lead 2 = .ok (.invokevirtual 113, 3) := by decide +kernel
theorem dX6_lead_5 : decode cX6_lead 5 = .ok (.istore_n 3, 1) := by decide +kernel
theorem dX6_lead_6 : decode cX6_lead 6 = .ok (.aload_n 0, 1) := by decide +kernel
theorem dX6_lead_7 : decode cX6_lead 7 = .ok (.iload_n 2, 1) := by decide +kernel
theorem dX6_lead_8 : decode cX6_lead 8 = .ok (.invokevirtual 123, 3) := by decide +kernel
theorem dX6_lead_11 : decode cX6_lead 11 = .ok (.aload_n 0, 1) := by decide +kernel
theorem dX6_lead_12 : decode cX6_lead 12 = .ok (.aload_n 0, 1) := by decide +kernel
theorem dX6_lead_13 : decode cX6_lead 13 = .ok (.getfield 10, 3) := by decide +kernel
theorem dX6_lead_16 : decode cX6_lead 16 = .ok (.iload_n 3, 1) := by decide +kernel
theorem dX6_lead_17 : decode cX6_lead 17 = .ok (.iload_n 2, 1) := by decide +kernel
theorem dX6_lead_18 : decode cX6_lead 18 = .ok (.invokevirtual 126, 3) := by decide +kernel
theorem dX6_lead_21 : decode cX6_lead 21 = .ok (.invokevirtual 120, 3) := by decide +kernel
theorem dX6_lead_24 : decode cX6_lead 24 = .ok (.ireturn, 1) := by decide +kernel
set_option maxRecDepth 20000 in
theorem ggX6_crossed_X6_packedOrRefused : GoodIn wsX6_crossed wsX6_packedOrRefused := goodIn_ca (goodIn_r _ [6, 7, 8, 1, 9, 10, 11, 12, 13, 14, 15, 16, 17, 18, 19, 20, 21, 28, 29, 30, 31, 32, 33, 34] (by decide +kernel) (by decide +kernel)) (goodIn_sub (fun _ h => List.mem_cons_of_mem _ (List.mem_append_right _ h)) (by decide +kernel))
set_option maxRecDepth 20000 in
theorem gX6_crossed_X6_packedOrRefused : GoodIn wsX6_crossed (wsV RX6 113 RX6 yX6_packedOrRefused wsX6_packedOrRefused) := goodIn_app (goodIn_of _ (by decide +kernel)) ggX6_crossed_X6_packedOrRefused
set_option maxRecDepth 20000 in
theorem ggX6_crossed_X2_bells : GoodIn wsX6_crossed wsX2_bells := goodIn_r _ [13, 14, 31, 32, 33, 34] (by decide +kernel) (by decide +kernel)
set_option maxRecDepth 20000 in
theorem gX6_crossed_X2_bells : GoodIn wsX6_crossed (wsV RX6 93 RX2 yX2_bells wsX2_bells) := goodIn_app (goodIn_of _ (by decide +kernel)) ggX6_crossed_X2_bells
set_option maxRecDepth 20000 in
theorem ggX6_crossed_X3_crossedPairs : GoodIn wsX6_crossed wsX3_crossedPairs := goodIn_r _ [24, 25, 26, 17, 27] (by decide +kernel) (by decide +kernel)
set_option maxRecDepth 20000 in
theorem gX6_crossed_X3_crossedPairs : GoodIn wsX6_crossed (va_wsS RX6 129 yX3_crossedPairs wsX3_crossedPairs) := goodIn_app (goodIn_of _ (by decide +kernel)) ggX6_crossed_X3_crossedPairs
theorem dX6_crossed_0 : decode cX6_crossed 0 = .ok (.aload_n 0, 1) := by decide +kernel
theorem dX6_crossed_1 : decode cX6_crossed 1 = .ok (.iload_n 1, 1) := by decide +kernel
theorem dX6_crossed_2 : decode cX6_crossed 2 = .ok (.invokevirtual 113, 3) := by decide +kernel
theorem dX6_crossed_5 : decode cX6_crossed 5 = .ok (.aload_n 0, 1) := by decide +kernel
theorem dX6_crossed_6 : decode cX6_crossed 6 = .ok (.getfield 10, 3) := by decide +kernel
theorem dX6_crossed_9 : decode cX6_crossed 9 = .ok (.invokevirtual 93, 3) := by decide +kernel
theorem dX6_crossed_12 : decode cX6_crossed 12 = .ok (.invokestatic 129, 3) := by decide +kernel
theorem dX6_crossed_15 : decode cX6_crossed 15 = .ok (.ireturn, 1) := by decide +kernel
set_option maxRecDepth 20000 in
theorem ggX6_call_X6_refuseNoCall : GoodIn wsX6_call wsX6_refuseNoCall := goodIn_ca (goodIn_r _ [8, 9, 10] (by decide +kernel) (by decide +kernel)) (goodIn_sub (fun _ h => List.mem_cons_of_mem _ (List.mem_append_right _ h)) (by decide +kernel))
set_option maxRecDepth 20000 in
theorem gX6_call_X6_refuseNoCall : GoodIn wsX6_call (wsV RX6 123 RX6 yX6_refuseNoCall wsX6_refuseNoCall) := goodIn_app (goodIn_of _ (by decide +kernel)) ggX6_call_X6_refuseNoCall
set_option maxRecDepth 20000 in
theorem ggX6_call_X5_callCount : GoodIn wsX6_call wsX5_callCount := goodIn_r _ [15, 16, 17, 18, 19, 20, 21, 22, 128, 129, 130, 131, 132, 133, 134, 135] (by decide +kernel) (by decide +kernel)
set_option maxRecDepth 20000 in
theorem gX6_call_X5_callCount : GoodIn wsX6_call (wsV RX6 100 RX5 yX5_callCount wsX5_callCount) := goodIn_app (goodIn_of _ (by decide +kernel)) ggX6_call_X5_callCount
set_option maxRecDepth 20000 in
theorem ggX6_call_X5_lay : GoodIn wsX6_call wsX5_lay := goodIn_r _ [26, 16, 27, 28, 29, 20, 30, 22, 31, 32, 33, 34, 14, 35, 36, 37, 38, 39, 40, 41, 17, 18, 19, 21, 42, 43, 44, 45, 46, 47, 48, 49, 50, 51, 52, 53, 54, 55, 56, 57, 58, 59, 60, 61, 62, 63, 64, 65, 66, 67, 68, 69, 70, 71, 72, 73, 74, 75, 76, 77, 78, 79, 80, 81, 82, 83, 84, 85, 86, 87, 88, 89, 90, 91, 92, 93, 94, 95, 96, 97, 98, 99, 100, 101, 102, 103, 104, 105, 106, 107, 108, 109, 110, 111, 128, 129, 130, 131, 132, 133, 134, 135, 136, 137, 138, 139, 140] (by decide +kernel) (by decide +kernel)
set_option maxRecDepth 20000 in
theorem gX6_call_X5_lay : GoodIn wsX6_call (wsV RX6 134 RX5 yX5_lay wsX5_lay) := goodIn_app (goodIn_of _ (by decide +kernel)) ggX6_call_X5_lay
set_option maxRecDepth 20000 in
theorem ggX6_call_X5_end : GoodIn wsX6_call wsX5_end := goodIn_r _ [40, 41, 36, 17, 18, 19, 20, 21, 22, 42, 43, 44, 45, 46, 47, 48, 49, 50, 51, 52, 53, 54, 55, 56, 57, 58, 31, 128, 129, 130, 131, 132, 133, 134, 135, 136, 137, 138, 139] (by decide +kernel) (by decide +kernel)
set_option maxRecDepth 20000 in
theorem gX6_call_X5_end : GoodIn wsX6_call (wsV RX6 137 RX5 yX5_end wsX5_end) := goodIn_app (goodIn_of _ (by decide +kernel)) ggX6_call_X5_end
set_option maxRecDepth 20000 in
theorem ggX6_call_X6_numberOf : GoodIn wsX6_call wsX6_numberOf := goodIn_r _ [116, 117, 118, 43, 44, 45, 46, 47, 119, 120, 50, 121, 122, 123, 124, 125, 126, 127, 136, 137, 138, 139] (by decide +kernel) (by decide +kernel)
set_option maxRecDepth 20000 in
theorem gX6_call_X6_numberOf : GoodIn wsX6_call (wsV RX6 120 RX6 yX6_numberOf wsX6_numberOf) := goodIn_app (goodIn_of _ (by decide +kernel)) ggX6_call_X6_numberOf
theorem dX6_call_0 : decode cX6_call 0 = .ok (.aload_n 0, 1) := by decide +kernel
theorem dX6_call_1 : decode cX6_call 1 = .ok (.iload_n 1, 1) := by decide +kernel
theorem dX6_call_2 : decode cX6_call 2 = .ok (.invokevirtual 123, 3) := by decide +kernel
theorem dX6_call_5 : decode cX6_call 5 = .ok (.aload_n 0, 1) := by decide +kernel
theorem dX6_call_6 : decode cX6_call 6 = .ok (.getfield 21, 3) := by decide +kernel
theorem dX6_call_9 : decode cX6_call 9 = .ok (.invokevirtual 100, 3) := by decide +kernel
theorem dX6_call_12 : decode cX6_call 12 = .ok (.bipush 24, 2) := by decide +kernel
theorem dX6_call_14 : decode cX6_call 14 = .ok (.if_icmp .lt 13, 3) := by decide +kernel
theorem dX6_call_17 : decode cX6_call 17 = .ok (.new 63, 3) := by decide +kernel
theorem dX6_call_20 : decode cX6_call 20 = .ok (.dup, 1) := by decide +kernel
theorem dX6_call_21 : decode cX6_call 21 = .ok (.ldc 132, 2) := by decide +kernel
theorem dX6_call_23 : decode cX6_call 23 = .ok (.invokespecial 67, 3) := by decide +kernel
theorem dX6_call_26 : decode cX6_call 26 = .ok (.athrow, 1) := by decide +kernel
theorem dX6_call_27 : decode cX6_call 27 = .ok (.aload_n 0, 1) := by decide +kernel
theorem dX6_call_28 : decode cX6_call 28 = .ok (.getfield 21, 3) := by decide +kernel
theorem dX6_call_31 : decode cX6_call 31 = .ok (.iload_n 1, 1) := by decide +kernel
theorem dX6_call_32 : decode cX6_call 32 = .ok (.invokevirtual 134, 3) := by decide +kernel
theorem dX6_call_35 : decode cX6_call 35 = .ok (.aload_n 0, 1) := by decide +kernel
theorem dX6_call_36 : decode cX6_call 36 = .ok (.aload_n 0, 1) := by decide +kernel
theorem dX6_call_37 : decode cX6_call 37 = .ok (.getfield 21, 3) := by decide +kernel
theorem dX6_call_40 : decode cX6_call 40 = .ok (.invokevirtual 137, 3) := by decide +kernel
theorem dX6_call_43 : decode cX6_call 43 = .ok (.invokevirtual 120, 3) := by decide +kernel
theorem dX6_call_46 : decode cX6_call 46 = .ok (.ireturn, 1) := by decide +kernel
set_option maxRecDepth 20000 in
theorem ggX6_uncall_X5_callCount : GoodIn wsX6_uncall wsX5_callCount := goodIn_r _ [8, 9, 10, 11, 12, 13, 14, 15, 78, 79, 80, 81, 82, 83, 84, 85] (by decide +kernel) (by decide +kernel)
set_option maxRecDepth 20000 in
theorem gX6_uncall_X5_callCount : GoodIn wsX6_uncall (wsV RX6 100 RX5 yX5_callCount wsX5_callCount) := goodIn_app (goodIn_of _ (by decide +kernel)) ggX6_uncall_X5_callCount
set_option maxRecDepth 20000 in
theorem ggX6_uncall_X5_takeLast : GoodIn wsX6_uncall wsX5_takeLast := goodIn_r _ [19, 20, 9, 21, 22, 23, 24, 25, 26, 27, 11, 12, 13, 14, 15, 28, 29, 30, 7, 31, 32, 33, 34, 35, 10, 36, 37, 38, 39, 40, 41, 42, 43, 44, 45, 46, 47, 48, 49, 50, 51, 52, 53, 54, 55, 56, 57, 58, 59, 60, 61, 62, 63, 64, 65, 66, 67, 68, 69, 70, 71, 72, 73, 74, 78, 79, 80, 81, 82, 83, 86, 87, 88, 89, 84, 85, 90] (by decide +kernel) (by decide +kernel)
set_option maxRecDepth 20000 in
theorem gX6_uncall_X5_takeLast : GoodIn wsX6_uncall (wsV RX6 142 RX5 yX5_takeLast wsX5_takeLast) := goodIn_app (goodIn_of _ (by decide +kernel)) ggX6_uncall_X5_takeLast
theorem dX6_uncall_0 : decode cX6_uncall 0 = .ok (.aload_n 0, 1) := by decide +kernel
theorem dX6_uncall_1 : decode cX6_uncall 1 = .ok (.getfield 21, 3) := by decide +kernel
theorem dX6_uncall_4 : decode cX6_uncall 4 = .ok (.invokevirtual 100, 3) := by decide +kernel
theorem dX6_uncall_7 : decode cX6_uncall 7 = .ok (.ifCond .ne 13, 3) := by decide +kernel
theorem dX6_uncall_10 : decode cX6_uncall 10 = .ok (.new 63, 3) := by decide +kernel
theorem dX6_uncall_13 : decode cX6_uncall 13 = .ok (.dup, 1) := by decide +kernel
theorem dX6_uncall_14 : decode cX6_uncall 14 = .ok (.ldc 140, 2) := by decide +kernel
theorem dX6_uncall_16 : decode cX6_uncall 16 = .ok (.invokespecial 67, 3) := by decide +kernel
theorem dX6_uncall_19 : decode cX6_uncall 19 = .ok (.athrow, 1) := by decide +kernel
theorem dX6_uncall_20 : decode cX6_uncall 20 = .ok (.aload_n 0, 1) := by decide +kernel
theorem dX6_uncall_21 : decode cX6_uncall 21 = .ok (.getfield 21, 3) := by decide +kernel
theorem dX6_uncall_24 : decode cX6_uncall 24 = .ok (.invokevirtual 142, 3) := by decide +kernel
theorem dX6_uncall_27 : decode cX6_uncall 27 = .ok (.ireturn, 1) := by decide +kernel
set_option maxRecDepth 20000 in
theorem ggX6_callAt_X6_refuseNoCallPlace : GoodIn wsX6_callAt wsX6_refuseNoCallPlace := goodIn_ca (goodIn_r _ [6, 7, 8, 1, 9, 10, 11, 12, 13, 14, 15, 16, 17, 18, 19, 20, 30, 31, 32, 33, 34, 35, 36, 37, 38, 39, 40] (by decide +kernel) (by decide +kernel)) (goodIn_sub (fun _ h => List.mem_cons_of_mem _ (List.mem_append_right _ h)) (by decide +kernel))
set_option maxRecDepth 20000 in
theorem gX6_callAt_X6_refuseNoCallPlace : GoodIn wsX6_callAt (wsV RX6 145 RX6 yX6_refuseNoCallPlace wsX6_refuseNoCallPlace) := goodIn_app (goodIn_of _ (by decide +kernel)) ggX6_callAt_X6_refuseNoCallPlace
set_option maxRecDepth 20000 in
theorem ggX6_callAt_X5_laidCall : GoodIn wsX6_callAt wsX5_laidCall := goodIn_r _ [24, 14, 25, 26, 27, 18, 28, 20, 29, 33, 34, 35, 36, 37, 38, 39, 40] (by decide +kernel) (by decide +kernel)
set_option maxRecDepth 20000 in
theorem gX6_callAt_X5_laidCall : GoodIn wsX6_callAt (wsV RX6 148 RX5 yX5_laidCall wsX5_laidCall) := goodIn_app (goodIn_of _ (by decide +kernel)) ggX6_callAt_X5_laidCall
theorem dX6_callAt_0 : decode cX6_callAt 0 = .ok (.aload_n 0, 1) := by decide +kernel
theorem dX6_callAt_1 : decode cX6_callAt 1 = .ok (.iload_n 1, 1) := by decide +kernel
theorem dX6_callAt_2 : decode cX6_callAt 2 = .ok (.invokevirtual 145, 3) := by decide +kernel
theorem dX6_callAt_5 : decode cX6_callAt 5 = .ok (.aload_n 0, 1) := by decide +kernel
theorem dX6_callAt_6 : decode cX6_callAt 6 = .ok (.getfield 21, 3) := by decide +kernel
theorem dX6_callAt_9 : decode cX6_callAt 9 = .ok (.iload_n 1, 1) := by decide +kernel
theorem dX6_callAt_10 : decode cX6_callAt 10 = .ok (.invokevirtual 148, 3) := by decide +kernel
theorem dX6_callAt_13 : decode cX6_callAt 13 = .ok (.ireturn, 1) := by decide +kernel
set_option maxRecDepth 20000 in
theorem ggX6_touch_X5_rowCount : GoodIn wsX6_touch wsX5_rowCount := goodIn_r _ [8, 9, 10, 11, 12, 13, 14, 15, 91, 92, 93, 94, 95, 96, 97, 98] (by decide +kernel) (by decide +kernel)
set_option maxRecDepth 20000 in
theorem gX6_touch_X5_rowCount : GoodIn wsX6_touch (wsV RX6 151 RX5 yX5_rowCount wsX5_rowCount) := goodIn_app (goodIn_of _ (by decide +kernel)) ggX6_touch_X5_rowCount
set_option maxRecDepth 20000 in
theorem ggX6_touch_X5_end : GoodIn wsX6_touch wsX5_end := goodIn_r _ [19, 9, 20, 10, 11, 12, 13, 14, 15, 21, 22, 23, 24, 25, 26, 27, 28, 29, 30, 31, 32, 33, 34, 35, 36, 37, 38, 91, 92, 93, 94, 95, 96, 97, 98, 99, 100, 101, 102] (by decide +kernel) (by decide +kernel)
set_option maxRecDepth 20000 in
theorem gX6_touch_X5_end : GoodIn wsX6_touch (wsV RX6 137 RX5 yX5_end wsX5_end) := goodIn_app (goodIn_of _ (by decide +kernel)) ggX6_touch_X5_end
set_option maxRecDepth 20000 in
theorem ggX6_touch_X6_numberOf : GoodIn wsX6_touch wsX6_numberOf := goodIn_r _ [43, 44, 45, 22, 23, 24, 25, 26, 46, 47, 29, 48, 49, 50, 51, 88, 89, 90, 99, 100, 101, 102] (by decide +kernel) (by decide +kernel)
set_option maxRecDepth 20000 in
theorem gX6_touch_X6_numberOf : GoodIn wsX6_touch (wsV RX6 120 RX6 yX6_numberOf wsX6_numberOf) := goodIn_app (goodIn_of _ (by decide +kernel)) ggX6_touch_X6_numberOf
set_option maxRecDepth 20000 in
theorem ggX6_touch_X5_comesRound : GoodIn wsX6_touch wsX5_comesRound := goodIn_r _ [55, 9, 20, 10, 11, 12, 13, 14, 15, 56, 17, 18, 7, 19, 21, 22, 23, 24, 25, 26, 27, 28, 29, 30, 31, 32, 33, 34, 35, 36, 37, 38, 91, 92, 93, 94, 95, 96, 97, 98, 99, 100, 101, 102] (by decide +kernel) (by decide +kernel)
set_option maxRecDepth 20000 in
theorem gX6_touch_X5_comesRound : GoodIn wsX6_touch (wsV RX6 154 RX5 yX5_comesRound wsX5_comesRound) := goodIn_app (goodIn_of _ (by decide +kernel)) ggX6_touch_X5_comesRound
set_option maxRecDepth 20000 in
theorem ggX6_touch_X5_isTrue : GoodIn wsX6_touch wsX5_isTrue := goodIn_r _ [60, 61, 91, 92, 93, 94, 95, 96] (by decide +kernel) (by decide +kernel)
set_option maxRecDepth 20000 in
theorem gX6_touch_X5_isTrue : GoodIn wsX6_touch (wsV RX6 158 RX5 yX5_isTrue wsX5_isTrue) := goodIn_app (goodIn_of _ (by decide +kernel)) ggX6_touch_X5_isTrue
set_option maxRecDepth 20000 in
theorem ggX6_touch_X5_firstRepeat : GoodIn wsX6_touch wsX5_firstRepeat := goodIn_r _ [65, 61, 91, 92, 93, 94, 95, 96] (by decide +kernel) (by decide +kernel)
set_option maxRecDepth 20000 in
theorem gX6_touch_X5_firstRepeat : GoodIn wsX6_touch (wsV RX6 161 RX5 yX5_firstRepeat wsX5_firstRepeat) := goodIn_app (goodIn_of _ (by decide +kernel)) ggX6_touch_X5_firstRepeat
set_option maxRecDepth 20000 in
theorem ggX6_touch_X5_parts : GoodIn wsX6_touch wsX5_parts := goodIn_r _ [69, 9, 20, 10, 11, 12, 13, 14, 15, 21, 22, 23, 24, 25, 26, 27, 28, 29, 30, 31, 32, 33, 56, 17, 18, 7, 19, 34, 35, 36, 37, 38, 70, 71, 72, 49, 50, 51, 91, 92, 93, 94, 95, 96, 97, 98, 99, 100, 101, 102] (by decide +kernel) (by decide +kernel)
set_option maxRecDepth 20000 in
theorem gX6_touch_X5_parts : GoodIn wsX6_touch (wsV RX6 164 RX5 yX5_parts wsX5_parts) := goodIn_app (goodIn_of _ (by decide +kernel)) ggX6_touch_X5_parts
set_option maxRecDepth 20000 in
theorem ggX6_touch_X5_musicInAll : GoodIn wsX6_touch wsX5_musicInAll := goodIn_r _ [76, 9, 20, 10, 11, 12, 13, 14, 15, 34, 35, 36, 37, 38, 21, 22, 23, 24, 25, 26, 77, 78, 29, 79, 80, 81, 82, 49, 50, 51, 91, 92, 93, 94, 95, 96, 97, 98, 99, 100, 101, 102] (by decide +kernel) (by decide +kernel)
set_option maxRecDepth 20000 in
theorem gX6_touch_X5_musicInAll : GoodIn wsX6_touch (wsV RX6 167 RX5 yX5_musicInAll wsX5_musicInAll) := goodIn_app (goodIn_of _ (by decide +kernel)) ggX6_touch_X5_musicInAll
set_option maxRecDepth 20000 in
theorem ggX6_touch_X5_differentRows : GoodIn wsX6_touch wsX5_differentRows := goodIn_r _ [86, 87, 91, 92, 93, 94, 95, 96] (by decide +kernel) (by decide +kernel)
set_option maxRecDepth 20000 in
theorem gX6_touch_X5_differentRows : GoodIn wsX6_touch (wsV RX6 170 RX5 yX5_differentRows wsX5_differentRows) := goodIn_app (goodIn_of _ (by decide +kernel)) ggX6_touch_X5_differentRows
theorem dX6_touch_0 : decode cX6_touch 0 = .ok (.iload_n 1, 1) := by decide +kernel
theorem dX6_touch_1 : decode cX6_touch 1 = .ok (.tableswitch 131 0 7 #[47, 55, 67, 83, 99, 107, 115, 123], 47) := by decide +kernel
theorem dX6_touch_48 : decode cX6_touch 48 = .ok (.aload_n 0, 1) := by decide +kernel
theorem dX6_touch_49 : decode cX6_touch 49 = .ok (.getfield 21, 3) := by decide +kernel
theorem dX6_touch_52 : decode cX6_touch 52 = .ok (.invokevirtual 151, 3) := by decide +kernel
theorem dX6_touch_55 : decode cX6_touch 55 = .ok (.ireturn, 1) := by decide +kernel
theorem dX6_touch_56 : decode cX6_touch 56 = .ok (.aload_n 0, 1) := by decide +kernel
theorem dX6_touch_57 : decode cX6_touch 57 = .ok (.aload_n 0, 1) := by decide +kernel
theorem dX6_touch_58 : decode cX6_touch 58 = .ok (.getfield 21, 3) := by decide +kernel
theorem dX6_touch_61 : decode cX6_touch 61 = .ok (.invokevirtual 137, 3) := by decide +kernel
theorem dX6_touch_64 : decode cX6_touch 64 = .ok (.invokevirtual 120, 3) := by decide +kernel
theorem dX6_touch_67 : decode cX6_touch 67 = .ok (.ireturn, 1) := by decide +kernel
theorem dX6_touch_68 : decode cX6_touch 68 = .ok (.aload_n 0, 1) := by decide +kernel
theorem dX6_touch_69 : decode cX6_touch 69 = .ok (.getfield 21, 3) := by decide +kernel
theorem dX6_touch_72 : decode cX6_touch 72 = .ok (.invokevirtual 154, 3) := by decide +kernel
theorem dX6_touch_75 : decode cX6_touch 75 = .ok (.ifCond .eq 7, 3) := by decide +kernel
theorem dX6_touch_78 : decode cX6_touch 78 = .ok (.iconst 1, 1) := by decide +kernel
theorem dX6_touch_79 : decode cX6_touch 79 = .ok (.goto 4, 3) := by decide +kernel
theorem dX6_touch_82 : decode cX6_touch 82 = .ok (.iconst 0, 1) := by decide +kernel
theorem dX6_touch_83 : decode cX6_touch 83 = .ok (.ireturn, 1) := by decide +kernel
theorem dX6_touch_84 : decode cX6_touch 84 = .ok (.aload_n 0, 1) := by decide +kernel
theorem dX6_touch_85 : decode cX6_touch 85 = .ok (.getfield 21, 3) := by decide +kernel
theorem dX6_touch_88 : decode cX6_touch 88 = .ok (.invokevirtual 158, 3) := by decide +kernel
theorem dX6_touch_91 : decode cX6_touch 91 = .ok (.ifCond .eq 7, 3) := by decide +kernel
theorem dX6_touch_94 : decode cX6_touch 94 = .ok (.iconst 1, 1) := by decide +kernel
theorem dX6_touch_95 : decode cX6_touch 95 = .ok (.goto 4, 3) := by decide +kernel
theorem dX6_touch_98 : decode cX6_touch 98 = .ok (.iconst 0, 1) := by decide +kernel
theorem dX6_touch_99 : decode cX6_touch 99 = .ok (.ireturn, 1) := by decide +kernel
theorem dX6_touch_100 : decode cX6_touch 100 = .ok (.aload_n 0, 1) := by decide +kernel
theorem dX6_touch_101 : decode cX6_touch 101 = .ok (.getfield 21, 3) := by decide +kernel
theorem dX6_touch_104 : decode cX6_touch 104 = .ok (.invokevirtual 161, 3) := by decide +kernel
theorem dX6_touch_107 : decode cX6_touch 107 = .ok (.ireturn, 1) := by decide +kernel
theorem dX6_touch_108 : decode cX6_touch 108 = .ok (.aload_n 0, 1) := by decide +kernel
theorem dX6_touch_109 : decode cX6_touch 109 = .ok (.getfield 21, 3) := by decide +kernel
theorem dX6_touch_112 : decode cX6_touch 112 = .ok (.invokevirtual 164, 3) := by decide +kernel
theorem dX6_touch_115 : decode cX6_touch 115 = .ok (.ireturn, 1) := by decide +kernel
theorem dX6_touch_116 : decode cX6_touch 116 = .ok (.aload_n 0, 1) := by decide +kernel
theorem dX6_touch_117 : decode cX6_touch 117 = .ok (.getfield 21, 3) := by decide +kernel
theorem dX6_touch_120 : decode cX6_touch 120 = .ok (.invokevirtual 167, 3) := by decide +kernel
theorem dX6_touch_123 : decode cX6_touch 123 = .ok (.ireturn, 1) := by decide +kernel
theorem dX6_touch_124 : decode cX6_touch 124 = .ok (.aload_n 0, 1) := by decide +kernel
theorem dX6_touch_125 : decode cX6_touch 125 = .ok (.getfield 21, 3) := by decide +kernel
theorem dX6_touch_128 : decode cX6_touch 128 = .ok (.invokevirtual 170, 3) := by decide +kernel
theorem dX6_touch_131 : decode cX6_touch 131 = .ok (.ireturn, 1) := by decide +kernel
theorem dX6_touch_132 : decode cX6_touch 132 = .ok (.new 32, 3) := by decide +kernel
theorem dX6_touch_135 : decode cX6_touch 135 = .ok (.dup, 1) := by decide +kernel
theorem dX6_touch_136 : decode cX6_touch 136 = .ok (.ldc 173, 2) := by decide +kernel
theorem dX6_touch_138 : decode cX6_touch 138 = .ok (.invokespecial 36, 3) := by decide +kernel
theorem dX6_touch_141 : decode cX6_touch 141 = .ok (.athrow, 1) := by decide +kernel
set_option maxRecDepth 20000 in
theorem ggX6_row_X6_refuseNoRowNumber : GoodIn wsX6_row wsX6_refuseNoRowNumber := goodIn_ca (goodIn_r _ [6, 7, 8, 1, 9, 10, 11, 12, 13, 14, 15, 16, 17, 18, 19, 20, 48, 49, 50, 51, 52, 53, 54, 55, 56, 57, 58] (by decide +kernel) (by decide +kernel)) (goodIn_sub (fun _ h => List.mem_cons_of_mem _ (List.mem_append_right _ h)) (by decide +kernel))
set_option maxRecDepth 20000 in
theorem gX6_row_X6_refuseNoRowNumber : GoodIn wsX6_row (wsV RX6 175 RX6 yX6_refuseNoRowNumber wsX6_refuseNoRowNumber) := goodIn_app (goodIn_of _ (by decide +kernel)) ggX6_row_X6_refuseNoRowNumber
set_option maxRecDepth 20000 in
theorem ggX6_row_X5_packedRow : GoodIn wsX6_row wsX5_packedRow := goodIn_r _ [24, 14, 25, 26, 27, 18, 28, 20, 29, 51, 52, 53, 54, 55, 56, 57, 58] (by decide +kernel) (by decide +kernel)
set_option maxRecDepth 20000 in
theorem gX6_row_X5_packedRow : GoodIn wsX6_row (wsV RX6 178 RX5 yX5_packedRow wsX5_packedRow) := goodIn_app (goodIn_of _ (by decide +kernel)) ggX6_row_X5_packedRow
set_option maxRecDepth 20000 in
theorem ggX6_row_X6_numberOf : GoodIn wsX6_row wsX6_numberOf := goodIn_r _ [33, 34, 35, 36, 37, 38, 39, 40, 41, 42, 43, 44, 45, 46, 47, 48, 49, 50, 59, 60, 61, 62] (by decide +kernel) (by decide +kernel)
set_option maxRecDepth 20000 in
theorem gX6_row_X6_numberOf : GoodIn wsX6_row (wsV RX6 120 RX6 yX6_numberOf wsX6_numberOf) := goodIn_app (goodIn_of _ (by decide +kernel)) ggX6_row_X6_numberOf
theorem dX6_row_0 : decode cX6_row 0 = .ok (.aload_n 0, 1) := by decide +kernel
theorem dX6_row_1 : decode cX6_row 1 = .ok (.iload_n 1, 1) := by decide +kernel
theorem dX6_row_2 : decode cX6_row 2 = .ok (.invokevirtual 175, 3) := by decide +kernel
theorem dX6_row_5 : decode cX6_row 5 = .ok (.aload_n 0, 1) := by decide +kernel
theorem dX6_row_6 : decode cX6_row 6 = .ok (.aload_n 0, 1) := by decide +kernel
theorem dX6_row_7 : decode cX6_row 7 = .ok (.getfield 21, 3) := by decide +kernel
theorem dX6_row_10 : decode cX6_row 10 = .ok (.iload_n 1, 1) := by decide +kernel
theorem dX6_row_11 : decode cX6_row 11 = .ok (.invokevirtual 178, 3) := by decide +kernel
theorem dX6_row_14 : decode cX6_row 14 = .ok (.invokevirtual 120, 3) := by decide +kernel
theorem dX6_row_17 : decode cX6_row 17 = .ok (.ireturn, 1) := by decide +kernel
set_option maxRecDepth 20000 in
theorem ggX6_where_X6_packedOrRefused : GoodIn wsX6_where wsX6_packedOrRefused := goodIn_ca (goodIn_r _ [6, 7, 8, 9, 10, 11, 12, 13, 14, 15, 16, 17, 18, 19, 20, 21, 22, 47, 48, 49, 50, 51, 52, 53] (by decide +kernel) (by decide +kernel)) (goodIn_sub (fun _ h => List.mem_cons_of_mem _ (List.mem_append_right _ h)) (by decide +kernel))
set_option maxRecDepth 20000 in
theorem gX6_where_X6_packedOrRefused : GoodIn wsX6_where (wsV RX6 113 RX6 yX6_packedOrRefused wsX6_packedOrRefused) := goodIn_app (goodIn_of _ (by decide +kernel)) ggX6_where_X6_packedOrRefused
set_option maxRecDepth 20000 in
theorem ggX6_where_X5_firstNumberOf : GoodIn wsX6_where wsX5_firstNumberOf := goodIn_r _ [27, 28, 29, 30, 11, 12, 13, 14, 15, 31, 32, 18, 33, 34, 35, 36, 37, 38, 39, 40, 41, 42, 43, 44, 45, 46, 54, 55, 56, 57, 58, 59, 50, 51, 52, 53, 60] (by decide +kernel) (by decide +kernel)
set_option maxRecDepth 20000 in
theorem gX6_where_X5_firstNumberOf : GoodIn wsX6_where (wsV RX6 181 RX5 yX5_firstNumberOf wsX5_firstNumberOf) := goodIn_app (goodIn_of _ (by decide +kernel)) ggX6_where_X5_firstNumberOf
theorem dX6_where_0 : decode cX6_where 0 = .ok (.aload_n 0, 1) := by decide +kernel
theorem dX6_where_1 : decode cX6_where 1 = .ok (.getfield 21, 3) := by decide +kernel
theorem dX6_where_4 : decode cX6_where 4 = .ok (.aload_n 0, 1) := by decide +kernel
theorem dX6_where_5 : decode cX6_where 5 = .ok (.iload_n 1, 1) := by decide +kernel
theorem dX6_where_6 : decode cX6_where 6 = .ok (.invokevirtual 113, 3) := by decide +kernel
theorem dX6_where_9 : decode cX6_where 9 = .ok (.invokevirtual 181, 3) := by decide +kernel
theorem dX6_where_12 : decode cX6_where 12 = .ok (.ireturn, 1) := by decide +kernel
set_option maxRecDepth 20000 in
theorem ggX6_place_X6_refuseNoBell : GoodIn wsX6_place wsX6_refuseNoBell := goodIn_ca (goodIn_r _ [7, 8, 9, 2, 10, 11, 12, 13, 14, 15, 48, 49, 50, 51, 52, 53, 54] (by decide +kernel) (by decide +kernel)) (goodIn_sub (fun _ h => List.mem_cons_of_mem _ (List.mem_append_right _ h)) (by decide +kernel))
set_option maxRecDepth 20000 in
theorem gX6_place_X6_refuseNoBell : GoodIn wsX6_place (wsV RX6 184 RX6 yX6_refuseNoBell wsX6_refuseNoBell) := goodIn_app (goodIn_of _ (by decide +kernel)) ggX6_place_X6_refuseNoBell
set_option maxRecDepth 20000 in
theorem ggX6_place_X6_refuseNoRowNumber : GoodIn wsX6_place wsX6_refuseNoRowNumber := goodIn_ca (goodIn_r _ [19, 8, 9, 1, 20, 21, 22, 23, 24, 25, 26, 27, 28, 29, 30, 31, 48, 49, 50, 55, 56, 57, 58, 59, 60, 61, 62] (by decide +kernel) (by decide +kernel)) (goodIn_sub (fun _ h => List.mem_cons_of_mem _ (List.mem_append_right _ h)) (by decide +kernel))
set_option maxRecDepth 20000 in
theorem gX6_place_X6_refuseNoRowNumber : GoodIn wsX6_place (wsV RX6 175 RX6 yX6_refuseNoRowNumber wsX6_refuseNoRowNumber) := goodIn_app (goodIn_of _ (by decide +kernel)) ggX6_place_X6_refuseNoRowNumber
set_option maxRecDepth 20000 in
theorem ggX6_place_X5_packedRow : GoodIn wsX6_place wsX5_packedRow := goodIn_r _ [35, 25, 36, 37, 38, 29, 39, 31, 40, 55, 56, 57, 58, 59, 60, 61, 62] (by decide +kernel) (by decide +kernel)
set_option maxRecDepth 20000 in
theorem gX6_place_X5_packedRow : GoodIn wsX6_place (wsV RX6 178 RX5 yX5_packedRow wsX5_packedRow) := goodIn_app (goodIn_of _ (by decide +kernel)) ggX6_place_X5_packedRow
set_option maxRecDepth 20000 in
theorem ggX6_place_X2_bells : GoodIn wsX6_place wsX2_bells := goodIn_r _ [14, 15, 51, 52, 53, 54] (by decide +kernel) (by decide +kernel)
set_option maxRecDepth 20000 in
theorem gX6_place_X2_bells : GoodIn wsX6_place (wsV RX6 93 RX2 yX2_bells wsX2_bells) := goodIn_app (goodIn_of _ (by decide +kernel)) ggX6_place_X2_bells
set_option maxRecDepth 20000 in
theorem ggX6_place_X3_placeOf : GoodIn wsX6_place wsX3_placeOf := goodIn_r _ [44, 45, 46, 43, 47] (by decide +kernel) (by decide +kernel)
set_option maxRecDepth 20000 in
theorem gX6_place_X3_placeOf : GoodIn wsX6_place (va_wsS RX6 187 yX3_placeOf wsX3_placeOf) := goodIn_app (goodIn_of _ (by decide +kernel)) ggX6_place_X3_placeOf
theorem dX6_place_0 : decode cX6_place 0 = .ok (.aload_n 0, 1) := by decide +kernel
theorem dX6_place_1 : decode cX6_place 1 = .ok (.iload_n 1, 1) := by decide +kernel
theorem dX6_place_2 : decode cX6_place 2 = .ok (.invokevirtual 184, 3) := by decide +kernel
theorem dX6_place_5 : decode cX6_place 5 = .ok (.aload_n 0, 1) := by decide +kernel
theorem dX6_place_6 : decode cX6_place 6 = .ok (.iload_n 2, 1) := by decide +kernel
theorem dX6_place_7 : decode cX6_place 7 = .ok (.invokevirtual 175, 3) := by decide +kernel
theorem dX6_place_10 : decode cX6_place 10 = .ok (.aload_n 0, 1) := by decide +kernel
theorem dX6_place_11 : decode cX6_place 11 = .ok (.getfield 21, 3) := by decide +kernel
theorem dX6_place_14 : decode cX6_place 14 = .ok (.iload_n 2, 1) := by decide +kernel
theorem dX6_place_15 : decode cX6_place 15 = .ok (.invokevirtual 178, 3) := by decide +kernel
theorem dX6_place_18 : decode cX6_place 18 = .ok (.iload_n 1, 1) := by decide +kernel
theorem dX6_place_19 : decode cX6_place 19 = .ok (.aload_n 0, 1) := by decide +kernel
theorem dX6_place_20 : decode cX6_place 20 = .ok (.getfield 10, 3) := by decide +kernel
theorem dX6_place_23 : decode cX6_place 23 = .ok (.invokevirtual 93, 3) := by decide +kernel
theorem dX6_place_26 : decode cX6_place 26 = .ok (.invokestatic 187, 3) := by decide +kernel
theorem dX6_place_29 : decode cX6_place 29 = .ok (.ireturn, 1) := by decide +kernel
set_option maxRecDepth 20000 in
theorem ggX6_longest_X6_refuseNoBell : GoodIn wsX6_longest wsX6_refuseNoBell := goodIn_ca (goodIn_r _ [6, 7, 8, 9, 10, 11, 12, 13, 14, 15, 46, 47, 48, 49, 50, 51, 52] (by decide +kernel) (by decide +kernel)) (goodIn_sub (fun _ h => List.mem_cons_of_mem _ (List.mem_append_right _ h)) (by decide +kernel))
set_option maxRecDepth 20000 in
theorem gX6_longest_X6_refuseNoBell : GoodIn wsX6_longest (wsV RX6 184 RX6 yX6_refuseNoBell wsX6_refuseNoBell) := goodIn_app (goodIn_of _ (by decide +kernel)) ggX6_longest_X6_refuseNoBell
set_option maxRecDepth 20000 in
theorem ggX6_longest_X5_longestStay : GoodIn wsX6_longest wsX5_longestStay := goodIn_r _ [20, 21, 22, 23, 24, 25, 26, 27, 28, 29, 30, 31, 32, 33, 34, 35, 36, 37, 38, 11, 12, 13, 14, 15, 39, 40, 41, 42, 43, 44, 45, 53, 54, 55, 56, 57, 58, 59, 60, 49, 50, 51, 52] (by decide +kernel) (by decide +kernel)
set_option maxRecDepth 20000 in
theorem gX6_longest_X5_longestStay : GoodIn wsX6_longest (wsV RX6 190 RX5 yX5_longestStay wsX5_longestStay) := goodIn_app (goodIn_of _ (by decide +kernel)) ggX6_longest_X5_longestStay
theorem dX6_longest_0 : decode cX6_longest 0 = .ok (.aload_n 0, 1) := by decide +kernel
theorem dX6_longest_1 : decode cX6_longest 1 = .ok (.iload_n 1, 1) := by decide +kernel
theorem dX6_longest_2 : decode cX6_longest 2 = .ok (.invokevirtual 184, 3) := by decide +kernel
theorem dX6_longest_5 : decode cX6_longest 5 = .ok (.aload_n 0, 1) := by decide +kernel
theorem dX6_longest_6 : decode cX6_longest 6 = .ok (.getfield 21, 3) := by decide +kernel
theorem dX6_longest_9 : decode cX6_longest 9 = .ok (.iload_n 1, 1) := by decide +kernel
theorem dX6_longest_10 : decode cX6_longest 10 = .ok (.invokevirtual 190, 3) := by decide +kernel
theorem dX6_longest_13 : decode cX6_longest 13 = .ok (.ireturn, 1) := by decide +kernel
set_option maxRecDepth 20000 in
theorem ggX6_music_X6_packedOrRefused : GoodIn wsX6_music wsX6_packedOrRefused := goodIn_ca (goodIn_r _ [6, 7, 8, 1, 9, 10, 11, 12, 13, 14, 15, 16, 17, 18, 19, 20, 21, 31, 32, 33, 34, 35, 36, 37] (by decide +kernel) (by decide +kernel)) (goodIn_sub (fun _ h => List.mem_cons_of_mem _ (List.mem_append_right _ h)) (by decide +kernel))
set_option maxRecDepth 20000 in
theorem gX6_music_X6_packedOrRefused : GoodIn wsX6_music (wsV RX6 113 RX6 yX6_packedOrRefused wsX6_packedOrRefused) := goodIn_app (goodIn_of _ (by decide +kernel)) ggX6_music_X6_packedOrRefused
set_option maxRecDepth 20000 in
theorem ggX6_music_X2_bells : GoodIn wsX6_music wsX2_bells := goodIn_r _ [13, 14, 34, 35, 36, 37] (by decide +kernel) (by decide +kernel)
set_option maxRecDepth 20000 in
theorem gX6_music_X2_bells : GoodIn wsX6_music (wsV RX6 93 RX2 yX2_bells wsX2_bells) := goodIn_app (goodIn_of _ (by decide +kernel)) ggX6_music_X2_bells
set_option maxRecDepth 20000 in
theorem ggX6_music_X3_musicOf : GoodIn wsX6_music wsX3_musicOf := goodIn_r _ [24, 25, 26, 17, 27, 28, 29, 30] (by decide +kernel) (by decide +kernel)
set_option maxRecDepth 20000 in
theorem gX6_music_X3_musicOf : GoodIn wsX6_music (va_wsS RX6 193 yX3_musicOf wsX3_musicOf) := goodIn_app (goodIn_of _ (by decide +kernel)) ggX6_music_X3_musicOf
theorem dX6_music_0 : decode cX6_music 0 = .ok (.aload_n 0, 1) := by decide +kernel
theorem dX6_music_1 : decode cX6_music 1 = .ok (.iload_n 1, 1) := by decide +kernel
theorem dX6_music_2 : decode cX6_music 2 = .ok (.invokevirtual 113, 3) := by decide +kernel
theorem dX6_music_5 : decode cX6_music 5 = .ok (.aload_n 0, 1) := by decide +kernel
theorem dX6_music_6 : decode cX6_music 6 = .ok (.getfield 10, 3) := by decide +kernel
theorem dX6_music_9 : decode cX6_music 9 = .ok (.invokevirtual 93, 3) := by decide +kernel
theorem dX6_music_12 : decode cX6_music 12 = .ok (.invokestatic 193, 3) := by decide +kernel
theorem dX6_music_15 : decode cX6_music 15 = .ok (.ireturn, 1) := by decide +kernel
set_option maxRecDepth 20000 in
theorem ggX6_common_X6_refuseNoCallPlace : GoodIn wsX6_common wsX6_refuseNoCallPlace := goodIn_ca (goodIn_r _ [6, 7, 8, 1, 9, 10, 11, 12, 13, 14, 15, 16, 17, 18, 19, 20, 43, 44, 45, 46, 47, 48, 49, 50, 51, 52, 53] (by decide +kernel) (by decide +kernel)) (goodIn_sub (fun _ h => List.mem_cons_of_mem _ (List.mem_append_right _ h)) (by decide +kernel))
set_option maxRecDepth 20000 in
theorem gX6_common_X6_refuseNoCallPlace : GoodIn wsX6_common (wsV RX6 145 RX6 yX6_refuseNoCallPlace wsX6_refuseNoCallPlace) := goodIn_app (goodIn_of _ (by decide +kernel)) ggX6_common_X6_refuseNoCallPlace
set_option maxRecDepth 20000 in
theorem ggX6_common_X5_commonRows : GoodIn wsX6_common wsX5_commonRows := goodIn_r _ [24, 25, 26, 27, 28, 29, 30, 31, 32, 33, 16, 17, 18, 19, 20, 34, 35, 36, 37, 38, 39, 40, 41, 12, 42, 46, 47, 48, 49, 50, 51, 54, 55, 56, 57, 52, 53] (by decide +kernel) (by decide +kernel)
set_option maxRecDepth 20000 in
theorem gX6_common_X5_commonRows : GoodIn wsX6_common (wsV RX6 196 RX5 yX5_commonRows wsX5_commonRows) := goodIn_app (goodIn_of _ (by decide +kernel)) ggX6_common_X5_commonRows
theorem dX6_common_0 : decode cX6_common 0 = .ok (.aload_n 0, 1) := by decide +kernel
theorem dX6_common_1 : decode cX6_common 1 = .ok (.iload_n 1, 1) := by decide +kernel
theorem dX6_common_2 : decode cX6_common 2 = .ok (.invokevirtual 145, 3) := by decide +kernel
theorem dX6_common_5 : decode cX6_common 5 = .ok (.aload_n 0, 1) := by decide +kernel
theorem dX6_common_6 : decode cX6_common 6 = .ok (.iload_n 2, 1) := by decide +kernel
theorem dX6_common_7 : decode cX6_common 7 = .ok (.invokevirtual 145, 3) := by decide +kernel
theorem dX6_common_10 : decode cX6_common 10 = .ok (.aload_n 0, 1) := by decide +kernel
theorem dX6_common_11 : decode cX6_common 11 = .ok (.getfield 21, 3) := by decide +kernel
theorem dX6_common_14 : decode cX6_common 14 = .ok (.iload_n 1, 1) := by decide +kernel
theorem dX6_common_15 : decode cX6_common 15 = .ok (.iload_n 2, 1) := by decide +kernel
theorem dX6_common_16 : decode cX6_common 16 = .ok (.invokevirtual 196, 3) := by decide +kernel
theorem dX6_common_19 : decode cX6_common 19 = .ok (.ireturn, 1) := by decide +kernel
set_option maxRecDepth 20000 in
theorem ggX6_meanPlace_X5_rowCount : GoodIn wsX6_meanPlace wsX5_rowCount := goodIn_r _ [7, 8, 9, 10, 11, 12, 13, 14, 42, 43, 44, 45, 46, 47, 48, 49] (by decide +kernel) (by decide +kernel)
set_option maxRecDepth 20000 in
theorem gX6_meanPlace_X5_rowCount : GoodIn wsX6_meanPlace (wsV RX6 151 RX5 yX5_rowCount wsX5_rowCount) := goodIn_app (goodIn_of _ (by decide +kernel)) ggX6_meanPlace_X5_rowCount
set_option maxRecDepth 20000 in
theorem ggX6_meanPlace_X2_bells : GoodIn wsX6_meanPlace wsX2_bells := goodIn_r _ [19, 20, 50, 51, 52, 53] (by decide +kernel) (by decide +kernel)
set_option maxRecDepth 20000 in
theorem gX6_meanPlace_X2_bells : GoodIn wsX6_meanPlace (wsV RX6 93 RX2 yX2_bells wsX2_bells) := goodIn_app (goodIn_of _ (by decide +kernel)) ggX6_meanPlace_X2_bells
set_option maxRecDepth 20000 in
theorem ggX6_meanPlace_X5_placesOf : GoodIn wsX6_meanPlace wsX5_placesOf := goodIn_r _ [24, 8, 25, 9, 10, 11, 12, 13, 14, 26, 27, 28, 29, 30, 31, 16, 17, 18, 19, 20, 32, 33, 34, 35, 36, 37, 38, 42, 43, 44, 45, 46, 47, 48, 49, 50, 51, 52, 53] (by decide +kernel) (by decide +kernel)
set_option maxRecDepth 20000 in
theorem gX6_meanPlace_X5_placesOf : GoodIn wsX6_meanPlace (wsV RX6 199 RX5 yX5_placesOf wsX5_placesOf) := goodIn_app (goodIn_of _ (by decide +kernel)) ggX6_meanPlace_X5_placesOf
theorem dX6_meanPlace_0 : decode cX6_meanPlace 0 = .ok (.aload_n 0, 1) := by decide +kernel
theorem dX6_meanPlace_1 : decode cX6_meanPlace 1 = .ok (.getfield 21, 3) := by decide +kernel
theorem dX6_meanPlace_4 : decode cX6_meanPlace 4 = .ok (.invokevirtual 151, 3) := by decide +kernel
theorem dX6_meanPlace_7 : decode cX6_meanPlace 7 = .ok (.istore_n 1, 1) := by decide +kernel
theorem dX6_meanPlace_8 : decode cX6_meanPlace 8 = .ok (.iload_n 1, 1) := by decide +kernel
theorem dX6_meanPlace_9 : decode cX6_meanPlace 9 = .ok (.ifCond .le 24, 3) := by decide +kernel
theorem dX6_meanPlace_12 : decode cX6_meanPlace 12 = .ok (.aload_n 0, 1) := by decide +kernel
theorem dX6_meanPlace_13 : decode cX6_meanPlace 13 = .ok (.getfield 21, 3) := by decide +kernel
theorem dX6_meanPlace_16 : decode cX6_meanPlace 16 = .ok (.aload_n 0, 1) := by decide +kernel
theorem dX6_meanPlace_17 : decode cX6_meanPlace 17 = .ok (.getfield 10, 3) := by decide +kernel
theorem dX6_meanPlace_20 : decode cX6_meanPlace 20 = .ok (.invokevirtual 93, 3) := by decide +kernel
theorem dX6_meanPlace_23 : decode cX6_meanPlace 23 = .ok (.invokevirtual 199, 3) := by decide +kernel
theorem dX6_meanPlace_26 : decode cX6_meanPlace 26 = .ok (.i2d, 1) := by decide +kernel
theorem dX6_meanPlace_27 : decode cX6_meanPlace 27 = .ok (.iload_n 1, 1) := by decide +kernel
theorem dX6_meanPlace_28 : decode cX6_meanPlace 28 = .ok (.i2d, 1) := by decide +kernel
theorem dX6_meanPlace_29 : decode cX6_meanPlace 29 = .ok (.ddiv, 1) := by decide +kernel
theorem dX6_meanPlace_30 : decode cX6_meanPlace 30 = .ok (.goto 4, 3) := by decide +kernel
theorem dX6_meanPlace_33 : decode cX6_meanPlace 33 = .ok (.dconst 0, 1) := by decide +kernel
theorem dX6_meanPlace_34 : decode cX6_meanPlace 34 = .ok (.dreturn, 1) := by decide +kernel
set_option maxRecDepth 20000 in
theorem ggX6_good_X6_refuseNoLeads : GoodIn wsX6_good wsX6_refuseNoLeads := goodIn_ca (goodIn_r _ [6, 7, 8] (by decide +kernel) (by decide +kernel)) (goodIn_sub (fun _ h => List.mem_cons_of_mem _ (List.mem_append_right _ h)) (by decide +kernel))
set_option maxRecDepth 20000 in
theorem gX6_good_X6_refuseNoLeads : GoodIn wsX6_good (wsV RX6 202 RX6 yX6_refuseNoLeads wsX6_refuseNoLeads) := goodIn_app (goodIn_of _ (by decide +kernel)) ggX6_good_X6_refuseNoLeads
set_option maxRecDepth 20000 in
theorem ggX6_good_X4_look : GoodIn wsX6_good wsX4_look := goodIn_r _ [13, 14, 15, 16, 17, 18, 19, 20, 21, 22, 23, 24, 12, 25, 26, 27, 28, 29, 30, 31, 32, 33, 34, 35, 36, 37, 38, 39, 40, 41, 42, 43, 44, 45, 46, 47, 48, 49, 50, 51, 52, 53, 54, 55, 56, 57, 58, 59, 60, 61, 62, 63, 64, 65, 66, 67, 68, 69, 70, 71, 72, 73, 74, 75, 76, 77, 78, 79, 80, 81, 82, 83, 84, 85, 86, 87, 88, 89, 90, 91, 92, 93, 94, 95, 96, 97, 98, 99, 100, 101, 102, 103, 104, 105, 106, 107, 108, 109, 110, 111, 112, 113, 114, 115, 116, 117, 118, 119, 120, 121, 122, 123, 124, 125, 126, 127, 128, 129, 130, 131, 132, 133, 134, 135, 136, 137, 138, 139, 140, 141, 142, 143, 144, 145, 146, 147, 148, 149, 150, 151, 152, 153, 154, 155, 156, 157, 158, 159, 160, 161, 162, 163, 164, 165, 166, 167, 168, 169, 170, 171, 172, 173, 174, 182, 183, 184, 185, 186, 187, 188, 189, 190, 191, 192, 193, 194, 195, 196, 197, 198] (by decide +kernel) (by decide +kernel)
set_option maxRecDepth 20000 in
theorem gX6_good_X4_look : GoodIn wsX6_good (wsV RX6 205 RX4 yX4_look wsX4_look) := goodIn_app (goodIn_of _ (by decide +kernel)) ggX6_good_X4_look
set_option maxRecDepth 20000 in
theorem ggX6_good_X4_goodCount : GoodIn wsX6_good wsX4_goodCount := goodIn_r _ [178, 15, 182, 183, 184, 185] (by decide +kernel) (by decide +kernel)
set_option maxRecDepth 20000 in
theorem gX6_good_X4_goodCount : GoodIn wsX6_good (wsV RX6 208 RX4 yX4_goodCount wsX4_goodCount) := goodIn_app (goodIn_of _ (by decide +kernel)) ggX6_good_X4_goodCount
theorem dX6_good_0 : decode cX6_good 0 = .ok (.aload_n 0, 1) := by decide +kernel
theorem dX6_good_1 : decode cX6_good 1 = .ok (.iload_n 1, 1) := by decide +kernel
theorem dX6_good_2 : decode cX6_good 2 = .ok (.invokevirtual 202, 3) := by decide +kernel
theorem dX6_good_5 : decode cX6_good 5 = .ok (.aload_n 0, 1) := by decide +kernel
theorem dX6_good_6 : decode cX6_good 6 = .ok (.getfield 28, 3) := by decide +kernel
theorem dX6_good_9 : decode cX6_good 9 = .ok (.iload_n 1, 1) := by decide +kernel
theorem dX6_good_10 : decode cX6_good 10 = .ok (.invokevirtual 205, 3) := by decide +kernel
theorem dX6_good_13 : decode cX6_good 13 = .ok (.aload_n 0, 1) := by decide +kernel
theorem dX6_good_14 : decode cX6_good 14 = .ok (.getfield 28, 3) := by decide +kernel
theorem dX6_good_17 : decode cX6_good 17 = .ok (.invokevirtual 208, 3) := by decide +kernel
theorem dX6_good_20 : decode cX6_good 20 = .ok (.ireturn, 1) := by decide +kernel
set_option maxRecDepth 20000 in
theorem ggX6_best_X6_refuseNoLeads : GoodIn wsX6_best wsX6_refuseNoLeads := goodIn_ca (goodIn_r _ [6, 7, 8] (by decide +kernel) (by decide +kernel)) (goodIn_sub (fun _ h => List.mem_cons_of_mem _ (List.mem_append_right _ h)) (by decide +kernel))
set_option maxRecDepth 20000 in
theorem gX6_best_X6_refuseNoLeads : GoodIn wsX6_best (wsV RX6 202 RX6 yX6_refuseNoLeads wsX6_refuseNoLeads) := goodIn_app (goodIn_of _ (by decide +kernel)) ggX6_best_X6_refuseNoLeads
set_option maxRecDepth 20000 in
theorem ggX6_best_X4_look : GoodIn wsX6_best wsX4_look := goodIn_r _ [13, 14, 15, 16, 17, 18, 19, 20, 21, 22, 23, 24, 12, 25, 26, 27, 28, 29, 30, 31, 32, 33, 34, 35, 36, 37, 38, 39, 40, 41, 42, 43, 44, 45, 46, 47, 48, 49, 50, 51, 52, 53, 54, 55, 56, 57, 58, 59, 60, 61, 62, 63, 64, 65, 66, 67, 68, 69, 70, 71, 72, 73, 74, 75, 76, 77, 78, 79, 80, 81, 82, 83, 84, 85, 86, 87, 88, 89, 90, 91, 92, 93, 94, 95, 96, 97, 98, 99, 100, 101, 102, 103, 104, 105, 106, 107, 108, 109, 110, 111, 112, 113, 114, 115, 116, 117, 118, 119, 120, 121, 122, 123, 124, 125, 126, 127, 128, 129, 130, 131, 132, 133, 134, 135, 136, 137, 138, 139, 140, 141, 142, 143, 144, 145, 146, 147, 148, 149, 150, 151, 152, 153, 154, 155, 156, 157, 158, 159, 160, 161, 162, 163, 164, 165, 166, 167, 168, 169, 170, 171, 172, 173, 174, 182, 183, 184, 185, 186, 187, 188, 189, 190, 191, 192, 193, 194, 195, 196, 197, 198] (by decide +kernel) (by decide +kernel)
set_option maxRecDepth 20000 in
theorem gX6_best_X4_look : GoodIn wsX6_best (wsV RX6 205 RX4 yX4_look wsX4_look) := goodIn_app (goodIn_of _ (by decide +kernel)) ggX6_best_X4_look
set_option maxRecDepth 20000 in
theorem ggX6_best_X4_bestMusic : GoodIn wsX6_best wsX4_bestMusic := goodIn_r _ [178, 16, 182, 183, 184, 185] (by decide +kernel) (by decide +kernel)
set_option maxRecDepth 20000 in
theorem gX6_best_X4_bestMusic : GoodIn wsX6_best (wsV RX6 211 RX4 yX4_bestMusic wsX4_bestMusic) := goodIn_app (goodIn_of _ (by decide +kernel)) ggX6_best_X4_bestMusic
theorem dX6_best_0 : decode cX6_best 0 = .ok (.aload_n 0, 1) := by decide +kernel
theorem dX6_best_1 : decode cX6_best 1 = .ok (.iload_n 1, 1) := by decide +kernel
theorem dX6_best_2 : decode cX6_best 2 = .ok (.invokevirtual 202, 3) := by decide +kernel
theorem dX6_best_5 : decode cX6_best 5 = .ok (.aload_n 0, 1) := by decide +kernel
theorem dX6_best_6 : decode cX6_best 6 = .ok (.getfield 28, 3) := by decide +kernel
theorem dX6_best_9 : decode cX6_best 9 = .ok (.iload_n 1, 1) := by decide +kernel
theorem dX6_best_10 : decode cX6_best 10 = .ok (.invokevirtual 205, 3) := by decide +kernel
theorem dX6_best_13 : decode cX6_best 13 = .ok (.aload_n 0, 1) := by decide +kernel
theorem dX6_best_14 : decode cX6_best 14 = .ok (.getfield 28, 3) := by decide +kernel
theorem dX6_best_17 : decode cX6_best 17 = .ok (.invokevirtual 211, 3) := by decide +kernel
theorem dX6_best_20 : decode cX6_best 20 = .ok (.ireturn, 1) := by decide +kernel
set_option maxRecDepth 20000 in
theorem ggX6_bestCall_X6_refuseNoLeads : GoodIn wsX6_bestCall wsX6_refuseNoLeads := goodIn_ca (goodIn_r _ [8, 9, 10] (by decide +kernel) (by decide +kernel)) (goodIn_sub (fun _ h => List.mem_cons_of_mem _ (List.mem_append_right _ h)) (by decide +kernel))
set_option maxRecDepth 20000 in
theorem gX6_bestCall_X6_refuseNoLeads : GoodIn wsX6_bestCall (wsV RX6 202 RX6 yX6_refuseNoLeads wsX6_refuseNoLeads) := goodIn_app (goodIn_of _ (by decide +kernel)) ggX6_bestCall_X6_refuseNoLeads
set_option maxRecDepth 20000 in
theorem ggX6_bestCall_X4_look : GoodIn wsX6_bestCall wsX4_look := goodIn_r _ [15, 16, 17, 18, 19, 20, 21, 22, 23, 24, 25, 26, 14, 27, 28, 29, 30, 31, 32, 33, 34, 35, 36, 37, 38, 39, 40, 41, 42, 43, 44, 45, 46, 47, 48, 49, 50, 51, 52, 53, 54, 55, 56, 57, 58, 59, 60, 61, 62, 63, 64, 65, 66, 67, 68, 69, 70, 71, 72, 73, 74, 75, 76, 77, 78, 79, 80, 81, 82, 83, 84, 85, 86, 87, 88, 89, 90, 91, 92, 93, 94, 95, 96, 97, 98, 99, 100, 101, 102, 103, 104, 105, 106, 107, 108, 109, 110, 111, 112, 113, 114, 115, 116, 117, 118, 119, 120, 121, 122, 123, 124, 125, 126, 127, 128, 129, 130, 131, 132, 133, 134, 135, 136, 137, 138, 139, 140, 141, 142, 143, 144, 145, 146, 147, 148, 149, 150, 151, 152, 153, 154, 155, 156, 157, 158, 159, 160, 161, 162, 163, 164, 165, 166, 167, 168, 169, 170, 171, 172, 173, 174, 175, 176, 189, 190, 191, 192, 193, 194, 195, 196, 197, 198, 199, 200, 201, 202, 203, 204, 205] (by decide +kernel) (by decide +kernel)
set_option maxRecDepth 20000 in
theorem gX6_bestCall_X4_look : GoodIn wsX6_bestCall (wsV RX6 205 RX4 yX4_look wsX4_look) := goodIn_app (goodIn_of _ (by decide +kernel)) ggX6_bestCall_X4_look
set_option maxRecDepth 20000 in
theorem ggX6_bestCall_X4_bestLeads : GoodIn wsX6_bestCall wsX4_bestLeads := goodIn_r _ [180, 16, 153, 51, 52, 22, 53, 24, 189, 190, 191, 192, 193, 194] (by decide +kernel) (by decide +kernel)
set_option maxRecDepth 20000 in
theorem gX6_bestCall_X4_bestLeads : GoodIn wsX6_bestCall (wsV RX6 214 RX4 yX4_bestLeads wsX4_bestLeads) := goodIn_app (goodIn_of _ (by decide +kernel)) ggX6_bestCall_X4_bestLeads
set_option maxRecDepth 20000 in
theorem ggX6_bestCall_X4_callOfBest : GoodIn wsX6_bestCall wsX4_callOfBest := goodIn_r _ [184, 16, 185, 68, 69, 22, 70, 24, 39, 189, 190, 191, 192, 193, 194] (by decide +kernel) (by decide +kernel)
set_option maxRecDepth 20000 in
theorem gX6_bestCall_X4_callOfBest : GoodIn wsX6_bestCall (wsV RX6 219 RX4 yX4_callOfBest wsX4_callOfBest) := goodIn_app (goodIn_of _ (by decide +kernel)) ggX6_bestCall_X4_callOfBest
theorem dX6_bestCall_0 : decode cX6_bestCall 0 = .ok (.aload_n 0, 1) := by decide +kernel
theorem dX6_bestCall_1 : decode cX6_bestCall 1 = .ok (.iload_n 1, 1) := by decide +kernel
theorem dX6_bestCall_2 : decode cX6_bestCall 2 = .ok (.invokevirtual 202, 3) := by decide +kernel
theorem dX6_bestCall_5 : decode cX6_bestCall 5 = .ok (.aload_n 0, 1) := by decide +kernel
theorem dX6_bestCall_6 : decode cX6_bestCall 6 = .ok (.getfield 28, 3) := by decide +kernel
theorem dX6_bestCall_9 : decode cX6_bestCall 9 = .ok (.iload_n 1, 1) := by decide +kernel
theorem dX6_bestCall_10 : decode cX6_bestCall 10 = .ok (.invokevirtual 205, 3) := by decide +kernel
theorem dX6_bestCall_13 : decode cX6_bestCall 13 = .ok (.iload_n 2, 1) := by decide +kernel
theorem dX6_bestCall_14 : decode cX6_bestCall 14 = .ok (.ifCond .lt 14, 3) := by decide +kernel
theorem dX6_bestCall_17 : decode cX6_bestCall 17 = .ok (.iload_n 2, 1) := by decide +kernel
theorem dX6_bestCall_18 : decode cX6_bestCall 18 = .ok (.aload_n 0, 1) := by decide +kernel
theorem dX6_bestCall_19 : decode cX6_bestCall 19 = .ok (.getfield 28, 3) := by decide +kernel
theorem dX6_bestCall_22 : decode cX6_bestCall 22 = .ok (.invokevirtual 214, 3) := by decide +kernel
theorem dX6_bestCall_25 : decode cX6_bestCall 25 = .ok (.if_icmp .lt 13, 3) := by decide +kernel
theorem dX6_bestCall_28 : decode cX6_bestCall 28 = .ok (.new 108, 3) := by decide +kernel
theorem dX6_bestCall_31 : decode cX6_bestCall 31 = .ok (.dup, 1) := by decide +kernel
theorem dX6_bestCall_32 : decode cX6_bestCall 32 = .ok (.ldc 217, 2) := by decide +kernel
theorem dX6_bestCall_34 : decode cX6_bestCall 34 = .ok (.invokespecial 112, 3) := by decide +kernel
theorem dX6_bestCall_37 : decode cX6_bestCall 37 = .ok (.athrow, 1) := by decide +kernel
theorem dX6_bestCall_38 : decode cX6_bestCall 38 = .ok (.aload_n 0, 1) := by decide +kernel
theorem dX6_bestCall_39 : decode cX6_bestCall 39 = .ok (.getfield 28, 3) := by decide +kernel
theorem dX6_bestCall_42 : decode cX6_bestCall 42 = .ok (.iload_n 2, 1) := by decide +kernel
theorem dX6_bestCall_43 : decode cX6_bestCall 43 = .ok (.invokevirtual 219, 3) := by decide +kernel
theorem dX6_bestCall_46 : decode cX6_bestCall 46 = .ok (.ireturn, 1) := by decide +kernel
set_option maxRecDepth 20000 in
theorem ggX6_endWith_X6_refuseNoCallPlace : GoodIn wsX6_endWith wsX6_refuseNoCallPlace := goodIn_ca (goodIn_r _ [6, 7, 8, 1, 9, 10, 11, 12, 13, 14, 15, 16, 17, 18, 19, 20, 88, 89, 90, 91, 92, 93, 94, 95, 96, 97, 98] (by decide +kernel) (by decide +kernel)) (goodIn_sub (fun _ h => List.mem_cons_of_mem _ (List.mem_append_left _ (List.mem_append_right _ h))) (by decide +kernel))
set_option maxRecDepth 20000 in
theorem gX6_endWith_X6_refuseNoCallPlace : GoodIn wsX6_endWith (wsV RX6 145 RX6 yX6_refuseNoCallPlace wsX6_refuseNoCallPlace) := goodIn_app (goodIn_of _ (by decide +kernel)) ggX6_endWith_X6_refuseNoCallPlace
set_option maxRecDepth 20000 in
theorem ggX6_endWith_X6_refuseNoCall : GoodIn wsX6_endWith wsX6_refuseNoCall := goodIn_ca (goodIn_r _ [24, 25, 26] (by decide +kernel) (by decide +kernel)) (goodIn_sub (fun _ h => List.mem_cons_of_mem _ (List.mem_append_right _ h)) (by decide +kernel))
set_option maxRecDepth 20000 in
theorem gX6_endWith_X6_refuseNoCall : GoodIn wsX6_endWith (wsV RX6 123 RX6 yX6_refuseNoCall wsX6_refuseNoCall) := goodIn_app (goodIn_of _ (by decide +kernel)) ggX6_endWith_X6_refuseNoCall
set_option maxRecDepth 20000 in
theorem ggX6_endWith_X5_endWithCall : GoodIn wsX6_endWith wsX5_endWithCall := goodIn_r _ [30, 31, 14, 32, 33, 34, 35, 36, 37, 38, 39, 40, 41, 42, 43, 44, 15, 16, 17, 18, 19, 20, 45, 46, 47, 48, 49, 50, 51, 52, 53, 54, 55, 56, 57, 58, 59, 60, 61, 62, 63, 64, 65, 66, 67, 68, 69, 70, 71, 72, 73, 74, 75, 91, 92, 93, 94, 95, 96, 99, 100, 101, 102, 97, 98] (by decide +kernel) (by decide +kernel)
set_option maxRecDepth 20000 in
theorem gX6_endWith_X5_endWithCall : GoodIn wsX6_endWith (wsV RX6 222 RX5 yX5_endWithCall wsX5_endWithCall) := goodIn_app (goodIn_of _ (by decide +kernel)) ggX6_endWith_X5_endWithCall
set_option maxRecDepth 20000 in
theorem ggX6_endWith_X6_numberOf : GoodIn wsX6_endWith wsX6_numberOf := goodIn_r _ [79, 80, 81, 33, 34, 35, 36, 37, 82, 83, 40, 84, 85, 86, 87, 88, 89, 90, 99, 100, 101, 102] (by decide +kernel) (by decide +kernel)
set_option maxRecDepth 20000 in
theorem gX6_endWith_X6_numberOf : GoodIn wsX6_endWith (wsV RX6 120 RX6 yX6_numberOf wsX6_numberOf) := goodIn_app (goodIn_of _ (by decide +kernel)) ggX6_endWith_X6_numberOf
theorem dX6_endWith_0 : decode cX6_endWith 0 = .ok (.aload_n 0, 1) := by decide +kernel
theorem dX6_endWith_1 : decode cX6_endWith 1 = .ok (.iload_n 1, 1) := by decide +kernel
theorem dX6_endWith_2 : decode cX6_endWith 2 = .ok (.invokevirtual 145, 3) := by decide +kernel
theorem dX6_endWith_5 : decode cX6_endWith 5 = .ok (.aload_n 0, 1) := by decide +kernel
theorem dX6_endWith_6 : decode cX6_endWith 6 = .ok (.iload_n 2, 1) := by decide +kernel
theorem dX6_endWith_7 : decode cX6_endWith 7 = .ok (.invokevirtual 123, 3) := by decide +kernel
theorem dX6_endWith_10 : decode cX6_endWith 10 = .ok (.aload_n 0, 1) := by decide +kernel
theorem dX6_endWith_11 : decode cX6_endWith 11 = .ok (.aload_n 0, 1) := by decide +kernel
theorem dX6_endWith_12 : decode cX6_endWith 12 = .ok (.getfield 21, 3) := by decide +kernel
theorem dX6_endWith_15 : decode cX6_endWith 15 = .ok (.iload_n 1, 1) := by decide +kernel
theorem dX6_endWith_16 : decode cX6_endWith 16 = .ok (.iload_n 2, 1) := by decide +kernel
theorem dX6_endWith_17 : decode cX6_endWith 17 = .ok (.invokevirtual 222, 3) := by decide +kernel
theorem dX6_endWith_20 : decode cX6_endWith 20 = .ok (.invokevirtual 120, 3) := by decide +kernel
theorem dX6_endWith_23 : decode cX6_endWith 23 = .ok (.ireturn, 1) := by decide +kernel
set_option maxRecDepth 20000 in
theorem ggX6_clashes_X6_refuseNoCall : GoodIn wsX6_clashes wsX6_refuseNoCall := goodIn_ca (goodIn_r _ [6, 7, 8] (by decide +kernel) (by decide +kernel)) (goodIn_sub (fun _ h => List.mem_cons_of_mem _ (List.mem_append_right _ h)) (by decide +kernel))
set_option maxRecDepth 20000 in
theorem gX6_clashes_X6_refuseNoCall : GoodIn wsX6_clashes (wsV RX6 123 RX6 yX6_refuseNoCall wsX6_refuseNoCall) := goodIn_app (goodIn_of _ (by decide +kernel)) ggX6_clashes_X6_refuseNoCall
set_option maxRecDepth 20000 in
theorem ggX6_clashes_X5_clashesBehindEnd : GoodIn wsX6_clashes wsX5_clashesBehindEnd := goodIn_r _ [13, 14, 15, 16, 17, 12, 18, 19, 20, 21, 22, 23, 24, 25, 26, 27, 28, 29, 30, 31, 32, 33, 34, 35, 36, 37, 38, 39, 40, 41, 42, 43, 44, 45, 46, 47, 48, 49, 50, 51, 52, 53, 54, 55, 56, 57, 58, 59, 60, 61, 62, 63, 64, 65, 66, 67, 68, 69, 70, 71, 72, 73, 74, 75, 76, 77, 78, 79, 80, 81, 82, 83, 84, 85, 86, 87, 88, 89, 90, 94, 95, 96, 97, 98, 99, 100, 101, 102, 103, 104, 105, 106] (by decide +kernel) (by decide +kernel)
set_option maxRecDepth 20000 in
theorem gX6_clashes_X5_clashesBehindEnd : GoodIn wsX6_clashes (wsV RX6 225 RX5 yX5_clashesBehindEnd wsX5_clashesBehindEnd) := goodIn_app (goodIn_of _ (by decide +kernel)) ggX6_clashes_X5_clashesBehindEnd
theorem dX6_clashes_0 : decode cX6_clashes 0 = .ok (.aload_n 0, 1) := by decide +kernel
theorem dX6_clashes_1 : decode cX6_clashes 1 = .ok (.iload_n 1, 1) := by decide +kernel
theorem dX6_clashes_2 : decode cX6_clashes 2 = .ok (.invokevirtual 123, 3) := by decide +kernel
theorem dX6_clashes_5 : decode cX6_clashes 5 = .ok (.aload_n 0, 1) := by decide +kernel
theorem dX6_clashes_6 : decode cX6_clashes 6 = .ok (.getfield 21, 3) := by decide +kernel
theorem dX6_clashes_9 : decode cX6_clashes 9 = .ok (.iload_n 1, 1) := by decide +kernel
theorem dX6_clashes_10 : decode cX6_clashes 10 = .ok (.invokevirtual 225, 3) := by decide +kernel
theorem dX6_clashes_13 : decode cX6_clashes 13 = .ok (.ireturn, 1) := by decide +kernel
set_option maxRecDepth 20000 in
theorem ggX6_digest_X6_told : GoodIn wsX6_digest wsX6_told := goodIn_ca (goodIn_r _ [10, 11, 12, 3, 4, 13, 14, 15, 16, 17, 18, 19, 20, 21, 22, 23, 24, 25, 26, 27, 28, 29, 30, 31, 32, 33, 34, 35, 36, 37, 38, 39, 40, 41, 42, 43, 44, 45, 46, 47, 48, 49, 50, 51, 52, 53, 54, 55, 56, 57, 58, 59, 60, 61, 62, 63, 64, 65, 66, 67, 68, 69, 70, 71, 72, 73, 74, 75, 76, 77, 78, 79, 265, 266, 267, 268, 269, 270, 271, 272, 273, 274, 275, 276, 277, 278, 279] (by decide +kernel) (by decide +kernel)) (goodIn_sub (fun _ h => List.mem_cons_of_mem _ (List.mem_append_right _ h)) (by decide +kernel))
set_option maxRecDepth 20000 in
theorem gX6_digest_X6_told : GoodIn wsX6_digest (wsV RX6 232 RX6 yX6_told wsX6_told) := goodIn_app (goodIn_of _ (by decide +kernel)) ggX6_digest_X6_told
set_option maxRecDepth 20000 in
theorem ggX6_digest_X2_length : GoodIn wsX6_digest wsX2_length := goodIn_r _ [22, 23, 24, 25, 26, 27, 28, 29, 268, 269, 270, 271, 272, 273] (by decide +kernel) (by decide +kernel)
set_option maxRecDepth 20000 in
theorem gX6_digest_X2_length : GoodIn wsX6_digest (wsV RX6 59 RX2 yX2_length wsX2_length) := goodIn_app (goodIn_of _ (by decide +kernel)) ggX6_digest_X2_length
set_option maxRecDepth 20000 in
theorem ggX6_digest_X2_plainChange : GoodIn wsX6_digest wsX2_plainChange := goodIn_r _ [83, 23, 63, 64, 65, 27, 66, 29, 67, 268, 269, 270, 271, 272, 273] (by decide +kernel) (by decide +kernel)
set_option maxRecDepth 20000 in
theorem gX6_digest_X2_plainChange : GoodIn wsX6_digest (wsV RX6 76 RX2 yX2_plainChange wsX2_plainChange) := goodIn_app (goodIn_of _ (by decide +kernel)) ggX6_digest_X2_plainChange
set_option maxRecDepth 20000 in
theorem ggX6_digest_X5_callCount : GoodIn wsX6_digest wsX5_callCount := goodIn_r _ [40, 41, 42, 25, 26, 27, 28, 29, 274, 275, 276, 277, 278, 279, 272, 273] (by decide +kernel) (by decide +kernel)
set_option maxRecDepth 20000 in
theorem gX6_digest_X5_callCount : GoodIn wsX6_digest (wsV RX6 100 RX5 yX5_callCount wsX5_callCount) := goodIn_app (goodIn_of _ (by decide +kernel)) ggX6_digest_X5_callCount
set_option maxRecDepth 20000 in
theorem ggX6_digest_X5_laidCall : GoodIn wsX6_digest wsX5_laidCall := goodIn_r _ [87, 41, 88, 64, 65, 27, 66, 29, 67, 274, 275, 276, 277, 278, 279, 272, 273] (by decide +kernel) (by decide +kernel)
set_option maxRecDepth 20000 in
theorem gX6_digest_X5_laidCall : GoodIn wsX6_digest (wsV RX6 148 RX5 yX5_laidCall wsX5_laidCall) := goodIn_app (goodIn_of _ (by decide +kernel)) ggX6_digest_X5_laidCall
set_option maxRecDepth 20000 in
theorem ggX6_digest_X6_touch : GoodIn wsX6_digest wsX6_touch := goodIn_ca (goodIn_r _ [92, 11, 12, 4, 93, 94, 95, 39, 96, 97, 42, 25, 26, 27, 28, 29, 98, 99, 100, 101, 102, 103, 14, 15, 16, 17, 18, 104, 48, 49, 50, 51, 52, 53, 88, 64, 65, 66, 67, 105, 106, 107, 9, 108, 3, 13, 109, 110, 111, 112, 78, 79, 113, 114, 115, 116, 117, 118, 119, 120, 121, 122, 123, 124, 125, 126, 127, 128, 129, 130, 131, 132, 133, 134, 135, 136, 137, 138, 139, 140, 141, 142, 143, 144, 145, 146, 147, 148, 265, 266, 267, 274, 275, 276, 277, 278, 279, 272, 273, 268, 269, 270, 271] (by decide +kernel) (by decide +kernel)) (goodIn_sub (fun _ h => List.mem_cons_of_mem _ (List.mem_append_right _ h)) (by decide +kernel))
set_option maxRecDepth 20000 in
theorem gX6_digest_X6_touch : GoodIn wsX6_digest (wsV RX6 235 RX6 yX6_touch wsX6_touch) := goodIn_app (goodIn_of _ (by decide +kernel)) ggX6_digest_X6_touch
set_option maxRecDepth 20000 in
theorem ggX6_digest_X5_rowCount : GoodIn wsX6_digest wsX5_rowCount := goodIn_r _ [96, 97, 42, 25, 26, 27, 28, 29, 274, 275, 276, 277, 278, 279, 272, 273] (by decide +kernel) (by decide +kernel)
set_option maxRecDepth 20000 in
theorem gX6_digest_X5_rowCount : GoodIn wsX6_digest (wsV RX6 151 RX5 yX5_rowCount wsX5_rowCount) := goodIn_app (goodIn_of _ (by decide +kernel)) ggX6_digest_X5_rowCount
set_option maxRecDepth 20000 in
theorem ggX6_digest_X5_packedRow : GoodIn wsX6_digest wsX5_packedRow := goodIn_r _ [152, 97, 88, 64, 65, 27, 66, 29, 67, 274, 275, 276, 277, 278, 279, 272, 273] (by decide +kernel) (by decide +kernel)
set_option maxRecDepth 20000 in
theorem gX6_digest_X5_packedRow : GoodIn wsX6_digest (wsV RX6 178 RX5 yX5_packedRow wsX5_packedRow) := goodIn_app (goodIn_of _ (by decide +kernel)) ggX6_digest_X5_packedRow
set_option maxRecDepth 20000 in
theorem ggX6_digest_X6_numberOf : GoodIn wsX6_digest wsX6_numberOf := goodIn_r _ [108, 3, 13, 14, 15, 16, 17, 18, 109, 110, 49, 111, 112, 78, 79, 265, 266, 267, 268, 269, 270, 271] (by decide +kernel) (by decide +kernel)
set_option maxRecDepth 20000 in
theorem gX6_digest_X6_numberOf : GoodIn wsX6_digest (wsV RX6 120 RX6 yX6_numberOf wsX6_numberOf) := goodIn_app (goodIn_of _ (by decide +kernel)) ggX6_digest_X6_numberOf
set_option maxRecDepth 20000 in
theorem ggX6_digest_X2_bells : GoodIn wsX6_digest wsX2_bells := goodIn_r _ [17, 18, 268, 269, 270, 271] (by decide +kernel) (by decide +kernel)
set_option maxRecDepth 20000 in
theorem gX6_digest_X2_bells : GoodIn wsX6_digest (wsV RX6 93 RX2 yX2_bells wsX2_bells) := goodIn_app (goodIn_of _ (by decide +kernel)) ggX6_digest_X2_bells
set_option maxRecDepth 20000 in
theorem ggX6_digest_X5_longestStay : GoodIn wsX6_digest wsX5_longestStay := goodIn_r _ [156, 97, 102, 157, 158, 159, 160, 42, 25, 26, 27, 28, 29, 88, 64, 65, 66, 67, 103, 14, 15, 16, 17, 18, 161, 162, 49, 163, 112, 78, 79, 274, 275, 276, 277, 278, 279, 272, 273, 268, 269, 270, 271] (by decide +kernel) (by decide +kernel)
set_option maxRecDepth 20000 in
theorem gX6_digest_X5_longestStay : GoodIn wsX6_digest (wsV RX6 190 RX5 yX5_longestStay wsX5_longestStay) := goodIn_app (goodIn_of _ (by decide +kernel)) ggX6_digest_X5_longestStay
set_option maxRecDepth 20000 in
theorem ggX6_digest_X5_clashesBehindEnd : GoodIn wsX6_digest wsX5_clashesBehindEnd := goodIn_r _ [167, 102, 117, 99, 100, 39, 101, 97, 42, 25, 26, 27, 28, 29, 103, 14, 15, 16, 17, 18, 104, 48, 49, 50, 51, 52, 53, 88, 64, 65, 66, 67, 168, 20, 21, 22, 23, 24, 169, 59, 60, 61, 62, 31, 32, 33, 34, 35, 63, 170, 69, 70, 71, 72, 73, 74, 75, 76, 171, 172, 173, 174, 175, 176, 177, 178, 179, 180, 181, 182, 183, 184, 185, 186, 187, 188, 189, 190, 191, 274, 275, 276, 277, 278, 279, 272, 273, 268, 269, 270, 271, 280] (by decide +kernel) (by decide +kernel)
set_option maxRecDepth 20000 in
theorem gX6_digest_X5_clashesBehindEnd : GoodIn wsX6_digest (wsV RX6 225 RX5 yX5_clashesBehindEnd wsX5_clashesBehindEnd) := goodIn_app (goodIn_of _ (by decide +kernel)) ggX6_digest_X5_clashesBehindEnd
set_option maxRecDepth 20000 in
theorem ggX6_digest_X4_look : GoodIn wsX6_digest wsX4_look := goodIn_r _ [196, 197, 198, 199, 200, 201, 202, 27, 203, 29, 204, 205, 195, 206, 207, 208, 209, 210, 39, 211, 41, 212, 213, 214, 215, 67, 216, 217, 218, 219, 102, 117, 99, 100, 101, 97, 42, 25, 26, 28, 103, 14, 15, 16, 17, 18, 104, 48, 49, 50, 51, 52, 53, 88, 64, 65, 66, 168, 20, 21, 22, 23, 24, 169, 59, 60, 61, 62, 31, 32, 33, 34, 35, 63, 170, 69, 70, 71, 72, 73, 74, 75, 76, 220, 221, 222, 223, 175, 148, 122, 176, 177, 178, 179, 180, 181, 182, 183, 184, 185, 186, 187, 188, 189, 190, 191, 224, 225, 226, 227, 228, 119, 120, 121, 229, 114, 115, 116, 230, 135, 136, 137, 138, 139, 140, 141, 142, 143, 112, 78, 79, 231, 232, 233, 234, 235, 37, 38, 40, 236, 237, 85, 86, 87, 238, 239, 240, 241, 242, 243, 244, 245, 246, 247, 248, 249, 250, 251, 252, 253, 254, 255, 256, 281, 282, 283, 284, 272, 273, 274, 275, 276, 277, 278, 279, 268, 269, 270, 271, 280] (by decide +kernel) (by decide +kernel)
set_option maxRecDepth 20000 in
theorem gX6_digest_X4_look : GoodIn wsX6_digest (wsV RX6 205 RX4 yX4_look wsX4_look) := goodIn_app (goodIn_of _ (by decide +kernel)) ggX6_digest_X4_look
set_option maxRecDepth 20000 in
theorem ggX6_digest_X4_goodCount : GoodIn wsX6_digest wsX4_goodCount := goodIn_r _ [260, 198, 281, 282, 283, 284] (by decide +kernel) (by decide +kernel)
set_option maxRecDepth 20000 in
theorem gX6_digest_X4_goodCount : GoodIn wsX6_digest (wsV RX6 208 RX4 yX4_goodCount wsX4_goodCount) := goodIn_app (goodIn_of _ (by decide +kernel)) ggX6_digest_X4_goodCount
set_option maxRecDepth 20000 in
theorem ggX6_digest_X4_bestMusic : GoodIn wsX6_digest wsX4_bestMusic := goodIn_r _ [264, 199, 281, 282, 283, 284] (by decide +kernel) (by decide +kernel)
set_option maxRecDepth 20000 in
theorem gX6_digest_X4_bestMusic : GoodIn wsX6_digest (wsV RX6 211 RX4 yX4_bestMusic wsX4_bestMusic) := goodIn_app (goodIn_of _ (by decide +kernel)) ggX6_digest_X4_bestMusic
theorem dX6_digest_0 : decode cX6_digest 0 = .ok (.ldc2_w 228, 3) := by decide +kernel
theorem dX6_digest_3 : decode cX6_digest 3 = .ok (.lstore_n 1, 1) := by decide +kernel
theorem dX6_digest_4 : decode cX6_digest 4 = .ok (.iconst 0, 1) := by decide +kernel
theorem dX6_digest_5 : decode cX6_digest 5 = .ok (.istore_n 3, 1) := by decide +kernel
theorem dX6_digest_6 : decode cX6_digest 6 = .ok (.iload_n 3, 1) := by decide +kernel
theorem dX6_digest_7 : decode cX6_digest 7 = .ok (.iconst 5, 1) := by decide +kernel
theorem dX6_digest_8 : decode cX6_digest 8 = .ok (.if_icmp .gt 22, 3) := by decide +kernel
theorem dX6_digest_11 : decode cX6_digest 11 = .ok (.lload_n 1, 1) := by decide +kernel
theorem dX6_digest_12 : decode cX6_digest 12 = .ok (.ldc2_w 230, 3) := by decide +kernel
theorem dX6_digest_15 : decode cX6_digest 15 = .ok (.lmul, 1) := by decide +kernel
theorem dX6_digest_16 : decode cX6_digest 16 = .ok (.aload_n 0, 1) := by decide +kernel
theorem dX6_digest_17 : decode cX6_digest 17 = .ok (.iload_n 3, 1) := by decide +kernel
