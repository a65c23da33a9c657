theorem wsL_law_x0 : ∀ w ∈ (vx_atS RX6 36 "java/lang/IllegalArgumentException" ["java/lang/RuntimeException", "java/lang/Exception"]).filter goodWord, w ∈ lw_tbl := by decide +kernel
theorem wsL_law_x1 : ∀ w ∈ (vx_atS RX6 67 "java/lang/IllegalStateException" ["java/lang/RuntimeException", "java/lang/Exception"]).filter goodWord, w ∈ lw_tbl := by decide +kernel
theorem wsL_law_x2 : ∀ w ∈ (vx_atS RX6 112 "java/lang/IndexOutOfBoundsException" ["java/lang/RuntimeException", "java/lang/Exception"]).filter goodWord, w ∈ lw_tbl := by decide +kernel
theorem wsL_law_in : ∀ w ∈ wsL_law, w ∈ lw_tbl := fun w h => (List.mem_append.mp h).elim (fun h => (List.mem_append.mp h).elim (fun h => (List.mem_append.mp h).elim (fun h => wsL_law_in0 w h) (fun h => wsL_law_x0 w h)) (fun h => wsL_law_x1 w h)) (fun h => wsL_law_x2 w h)
theorem inlX0 : ∀ w ∈ wsX00, w ∈ wsL_law := fun _ h => List.mem_append_left _ (List.mem_append_left _ (List.mem_append_left _ (List.mem_append_left _ (List.mem_append_right _ h))))
theorem inX0 : ∀ w ∈ wsX00, w ∈ lw_tbl := fun w h => wsL_law_in w (inlX0 w h)
theorem inlX1 : ∀ w ∈ wsX10, w ∈ wsL_law := fun _ h => List.mem_append_left _ (List.mem_append_left _ (List.mem_append_left _ (List.mem_append_left _ (List.mem_append_left _ (List.mem_append_right _ h)))))
theorem inX1 : ∀ w ∈ wsX10, w ∈ lw_tbl := fun w h => wsL_law_in w (inlX1 w h)
theorem inlX2 : ∀ w ∈ wsX20, w ∈ wsL_law := fun _ h => List.mem_append_left _ (List.mem_append_left _ (List.mem_append_left _ (List.mem_append_left _ (List.mem_append_left _ (List.mem_append_left _ (List.mem_append_left _ (List.mem_append_left _ (List.mem_append_right _ h))))))))
theorem inX2 : ∀ w ∈ wsX20, w ∈ lw_tbl := fun w h => wsL_law_in w (inlX2 w h)
theorem inX3 : ∀ w ∈ wsX30, w ∈ lw_tbl := by decide +kernel
theorem inlX4 : ∀ w ∈ wsX40, w ∈ wsL_law := fun _ h => List.mem_append_left _ (List.mem_append_left _ (List.mem_append_left _ (List.mem_append_left _ (List.mem_append_left _ (List.mem_append_left _ (List.mem_append_right _ h))))))
theorem inX4 : ∀ w ∈ wsX40, w ∈ lw_tbl := fun w h => wsL_law_in w (inlX4 w h)
theorem inlX5 : ∀ w ∈ wsX50, w ∈ wsL_law := fun _ h => List.mem_append_left _ (List.mem_append_left _ (List.mem_append_left _ (List.mem_append_left _ (List.mem_append_left _ (List.mem_append_left _ (List.mem_append_left _ (List.mem_append_right _ h)))))))
theorem inX5 : ∀ w ∈ wsX50, w ∈ lw_tbl := fun w h => wsL_law_in w (inlX5 w h)
theorem inlX6 : ∀ w ∈ wsX60, w ∈ wsL_law := fun _ h => List.mem_append_left _ (List.mem_append_left _ (List.mem_append_left _ (List.mem_append_left _ (List.mem_append_left _ (List.mem_append_left _ (List.mem_append_left _ (List.mem_append_left _ (List.mem_append_left _ (List.mem_append_left _ (List.mem_append_right _ h))))))))))
theorem inX6 : ∀ w ∈ wsX60, w ∈ lw_tbl := fun w h => wsL_law_in w (inlX6 w h)
theorem inlX7 : ∀ w ∈ wsX70, w ∈ wsL_law := fun _ h => List.mem_append_left _ (List.mem_append_left _ (List.mem_append_left _ (List.mem_append_left _ (List.mem_append_left _ (List.mem_append_left _ (List.mem_append_left _ (List.mem_append_left _ (List.mem_append_left _ (List.mem_append_right _ h)))))))))
theorem inX7 : ∀ w ∈ wsX70, w ∈ lw_tbl := fun w h => wsL_law_in w (inlX7 w h)
theorem inJx145de : ∀ w ∈ wsJx145de0, w ∈ lw_tbl := by decide +kernel
theorem inJ6 : ∀ w ∈ wsJ60, w ∈ lw_tbl := by decide +kernel
theorem inJ9 : ∀ w ∈ wsJ90, w ∈ lw_tbl := by decide +kernel
theorem inJ0 : ∀ w ∈ wsJ00, w ∈ lw_tbl := by decide +kernel
theorem inJ10 : ∀ w ∈ wsJ100, w ∈ lw_tbl := by decide +kernel
theorem inJ7 : ∀ w ∈ wsJ70, w ∈ lw_tbl := by decide +kernel
set_option maxRecDepth 20000 in
theorem ggL_begin_X6_begin : GoodIn wsL_begin wsX6_begin := goodIn_ca (goodIn_r _ [6, 7, 8, 9, 10, 11, 12, 13, 14, 15, 16, 17, 18, 19, 20, 21, 22, 23, 24, 25, 26, 27, 28, 29, 30, 31, 32, 33, 34, 35, 36, 37, 38, 39, 40, 41, 42, 43, 44, 45, 46, 47, 48, 49, 50, 51, 52, 53, 54, 55, 56, 57, 58, 59, 60, 61, 62, 63, 64, 65, 66, 67, 68, 69, 70, 71, 72, 73, 74, 75, 76, 77, 78, 79] (by decide +kernel) (by decide +kernel)) (goodIn_sub (fun _ h => List.mem_cons_of_mem _ (List.mem_append_right _ h)) (by decide +kernel))
set_option maxRecDepth 20000 in
theorem gL_begin_X6_begin : GoodIn wsL_begin (wsV RL 7 RX6 yX6_begin wsX6_begin) := goodIn_app (goodIn_of _ (by decide +kernel)) ggL_begin_X6_begin
theorem dL_begin_0 : decode cL_begin 0 = .ok (.aload_n 2, 1) := by decide +kernel
theorem dL_begin_1 : decode cL_begin 1 = .ok (.iconst 0, 1) := by decide +kernel
theorem dL_begin_2 : decode cL_begin 2 = .ok (.aload_n 0, 1) := by decide +kernel
theorem dL_begin_3 : decode cL_begin 3 = .ok (.iload_n 1, 1) := by decide +kernel
theorem dL_begin_4 : decode cL_begin 4 = .ok (.invokevirtual 7, 3) := by decide +kernel
theorem dL_begin_7 : decode cL_begin 7 = .ok (.i2l, 1) := by decide +kernel
theorem dL_begin_8 : decode cL_begin 8 = .ok (.lastore, 1) := by decide +kernel
theorem dL_begin_9 : decode cL_begin 9 = .ok (.goto 6, 3) := by decide +kernel
theorem dL_begin_12 : decode cL_begin 12 = .ok (.astore_n 3, 1) := by decide +kernel
theorem dL_begin_13 : decode cL_begin 13 = .ok (.iconst 1, 1) := by decide +kernel
theorem dL_begin_14 : decode cL_begin 14 = .ok (.ireturn, 1) := by decide +kernel
theorem dL_begin_15 : decode cL_begin 15 = .ok (.iconst 0, 1) := by decide +kernel
theorem dL_begin_16 : decode cL_begin 16 = .ok (.ireturn, 1) := by decide +kernel
set_option maxRecDepth 20000 in
theorem ggL_change_X6_change : GoodIn wsL_change wsX6_change := goodIn_ca (goodIn_ca (goodIn_r _ [7, 8, 9, 10, 11, 12, 13, 14, 6, 15, 16, 17, 18, 19, 20, 21, 22, 23, 24, 25, 26, 27, 28, 29, 30, 31, 32, 33, 34, 35, 36, 37, 38, 39, 40, 41, 42, 43, 44, 45, 46, 47, 48, 49, 50, 51, 52, 53, 54, 55, 56, 57, 58, 59, 60, 61, 62, 63, 64, 65, 66, 67, 68, 69, 70, 71, 72, 73, 74, 75, 76, 77, 78, 79, 80, 81, 82, 83, 84, 85, 86, 87, 88, 89, 90, 91, 92, 93, 94, 95, 96, 97, 98, 99, 100, 101, 102, 103, 104, 105, 106, 107, 108, 109, 110, 111, 112, 113, 114, 115, 116, 117, 118, 119, 120, 121, 122, 123, 124, 125, 126, 127, 128, 129, 130, 131, 132, 133, 134, 135, 136, 137, 138, 139, 140, 141, 142, 143, 144, 145, 146, 147, 148, 149, 150, 151, 152, 153, 154, 155, 156] (by decide +kernel) (by decide +kernel)) (goodIn_sub (fun _ h => List.mem_cons_of_mem _ (List.mem_append_left _ (List.mem_append_right _ h))) (by decide +kernel))) (goodIn_sub (fun _ h => List.mem_cons_of_mem _ (List.mem_append_right _ h)) (by decide +kernel))
set_option maxRecDepth 20000 in
theorem gL_change_X6_change : GoodIn wsL_change (wsV RL 15 RX6 yX6_change wsX6_change) := goodIn_app (goodIn_of _ (by decide +kernel)) ggL_change_X6_change
theorem dL_change_0 : decode cL_change 0 = .ok (.aload_n 2, 1) := by decide +kernel
theorem dL_change_1 : decode cL_change 1 = .ok (.iconst 0, 1) := by decide +kernel
theorem dL_change_2 : decode cL_change 2 = .ok (.aload_n 0, 1) := by decide +kernel
theorem dL_change_3 : decode cL_change 3 = .ok (.iload_n 1, 1) := by decide +kernel
theorem dL_change_4 : decode cL_change 4 = .ok (.invokevirtual 15, 3) := by decide +kernel
theorem dL_change_7 : decode cL_change 7 = .ok (.i2l, 1) := by decide +kernel
theorem dL_change_8 : decode cL_change 8 = .ok (.lastore, 1) := by decide +kernel
theorem dL_change_9 : decode cL_change 9 = .ok (.goto 9, 3) := by decide +kernel
theorem dL_change_12 : decode cL_change 12 = .ok (.astore_n 3, 1) := by decide +kernel
theorem dL_change_13 : decode cL_change 13 = .ok (.iconst 1, 1) := by decide +kernel
theorem dL_change_14 : decode cL_change 14 = .ok (.ireturn, 1) := by decide +kernel
theorem dL_change_15 : decode cL_change 15 = .ok (.astore_n 3, 1) := by decide +kernel
theorem dL_change_16 : decode cL_change 16 = .ok (.iconst 2, 1) := by decide +kernel
theorem dL_change_17 : decode cL_change 17 = .ok (.ireturn, 1) := by decide +kernel
theorem dL_change_18 : decode cL_change 18 = .ok (.iconst 0, 1) := by decide +kernel
theorem dL_change_19 : decode cL_change 19 = .ok (.ireturn, 1) := by decide +kernel
set_option maxRecDepth 20000 in
theorem ggL_mirror_X6_mirror : GoodIn wsL_mirror wsX6_mirror := goodIn_ca (goodIn_r _ [6, 7, 8, 9, 10, 11, 12, 13, 14, 15, 16, 17, 18, 19, 20, 21, 22, 23, 24, 25, 26, 27, 28, 29, 30, 31, 32, 33, 34, 35, 36, 37, 38, 39, 40, 41, 42, 43, 44, 45, 46, 47, 48, 49, 50, 51, 52, 53, 54, 55, 56, 57, 58, 59, 60, 61, 62, 63, 64, 65, 66, 67, 68, 69, 70, 71, 72, 73, 74, 75, 76, 77, 78, 79, 80, 81, 82, 83, 84, 85, 86, 87, 88, 89, 90, 91, 92, 93, 94, 95, 96, 97, 98, 99, 100, 101, 102, 103, 104, 105, 106, 107, 108, 109, 110, 111, 112, 113, 114, 115, 116, 117, 118, 119, 120, 121, 122, 123, 124, 125, 126, 127, 128, 129, 130, 131, 132, 133, 134, 135, 136, 137, 138, 139, 140, 141, 142, 143, 144, 145, 146, 147, 148, 149] (by decide +kernel) (by decide +kernel)) (goodIn_sub (fun _ h => List.mem_cons_of_mem _ (List.mem_append_right _ h)) (by decide +kernel))
set_option maxRecDepth 20000 in
theorem gL_mirror_X6_mirror : GoodIn wsL_mirror (wsV RL 20 RX6 yX6_mirror wsX6_mirror) := goodIn_app (goodIn_of _ (by decide +kernel)) ggL_mirror_X6_mirror
theorem dL_mirror_0 : decode cL_mirror 0 = .ok (.aload_n 1, 1) := by decide +kernel
theorem dL_mirror_1 : decode cL_mirror 1 = .ok (.iconst 0, 1) := by decide +kernel
theorem dL_mirror_2 : decode cL_mirror 2 = .ok (.aload_n 0, 1) := by decide +kernel
theorem dL_mirror_3 : decode cL_mirror 3 = .ok (.invokevirtual 20, 3) := by decide +kernel
theorem dL_mirror_6 : decode cL_mirror 6 = .ok (.i2l, 1) := by decide +kernel
theorem dL_mirror_7 : decode cL_mirror 7 = .ok (.lastore, 1) := by decide +kernel
theorem dL_mirror_8 : decode cL_mirror 8 = .ok (.goto 6, 3) := by decide +kernel
theorem dL_mirror_11 : decode cL_mirror 11 = .ok (.astore_n 2, 1) := by decide +kernel
theorem dL_mirror_12 : decode cL_mirror 12 = .ok (.iconst 1, 1) := by decide +kernel
theorem dL_mirror_13 : decode cL_mirror 13 = .ok (.ireturn, 1) := by decide +kernel
theorem dL_mirror_14 : decode cL_mirror 14 = .ok (.iconst 0, 1) := by decide +kernel
theorem dL_mirror_15 : decode cL_mirror 15 = .ok (.ireturn, 1) := by decide +kernel
set_option maxRecDepth 20000 in
theorem ggL_unchange_X6_unchange : GoodIn wsL_unchange wsX6_unchange := goodIn_ca (goodIn_r _ [6, 7, 8, 9, 10, 11, 12, 13, 14, 15, 16, 17, 18, 19, 20, 21, 22, 23, 24, 25, 26, 27, 28, 29, 30, 31, 32, 33, 34, 35, 36, 37, 38, 39, 40, 41, 42, 43, 44, 45, 46, 47, 48, 49, 50, 51, 52, 53, 54, 55, 56, 57, 58, 59, 60, 61, 62, 63, 64, 65, 66, 67, 68, 69, 70, 71, 72, 73, 74, 75, 76, 77, 78, 79, 80, 81, 82, 83, 84, 85, 86, 87, 88, 89, 90, 91, 92, 93, 94, 95, 96, 97, 98, 99, 100, 101, 102, 103, 104, 105, 106, 107, 108, 109, 110, 111, 112, 113, 114, 115, 116, 117, 118, 119, 120, 121, 122, 123, 124, 125, 126, 127, 128, 129, 130, 131, 132, 133, 134, 135, 136, 137, 138, 139, 140, 141, 142, 143, 144, 145, 146, 147, 148, 149] (by decide +kernel) (by decide +kernel)) (goodIn_sub (fun _ h => List.mem_cons_of_mem _ (List.mem_append_right _ h)) (by decide +kernel))
set_option maxRecDepth 20000 in
theorem gL_unchange_X6_unchange : GoodIn wsL_unchange (wsV RL 24 RX6 yX6_unchange wsX6_unchange) := goodIn_app (goodIn_of _ (by decide +kernel)) ggL_unchange_X6_unchange
theorem dL_unchange_0 : decode cL_unchange 0 = .ok (.aload_n 1, 1) := by decide +kernel
theorem dL_unchange_1 : decode cL_unchange 1 = .ok (.iconst 0, 1) := by decide +kernel
theorem dL_unchange_2 : decode cL_unchange 2 = .ok (.aload_n 0, 1) := by decide +kernel
theorem dL_unchange_3 : decode cL_unchange 3 = .ok (.invokevirtual 24, 3) := by decide +kernel
theorem dL_unchange_6 : decode cL_unchange 6 = .ok (.i2l, 1) := by decide +kernel
theorem dL_unchange_7 : decode cL_unchange 7 = .ok (.lastore, 1) := by decide +kernel
theorem dL_unchange_8 : decode cL_unchange 8 = .ok (.goto 6, 3) := by decide +kernel
theorem dL_unchange_11 : decode cL_unchange 11 = .ok (.astore_n 2, 1) := by decide +kernel
theorem dL_unchange_12 : decode cL_unchange 12 = .ok (.iconst 1, 1) := by decide +kernel
theorem dL_unchange_13 : decode cL_unchange 13 = .ok (.ireturn, 1) := by decide +kernel
theorem dL_unchange_14 : decode cL_unchange 14 = .ok (.iconst 0, 1) := by decide +kernel
theorem dL_unchange_15 : decode cL_unchange 15 = .ok (.ireturn, 1) := by decide +kernel
set_option maxRecDepth 20000 in
theorem ggL_at_X6_at : GoodIn wsL_at wsX6_at := goodIn_ca (goodIn_r _ [6, 7, 8, 9, 10, 11, 12, 13, 5, 14, 15, 16, 17, 18, 19, 20, 21, 22, 23, 24, 25, 26, 27, 28, 29, 30, 31, 32, 33, 34, 35, 36, 37, 38, 39, 40, 41, 42, 43, 44, 45, 46, 47, 48, 49, 50, 51, 52, 53, 54, 55, 56, 57, 58, 59, 60, 61, 62, 63, 64, 65, 66, 67, 68, 69, 70, 71, 72, 73, 74, 75, 76, 77, 78, 79, 80, 81, 82, 83, 84, 85, 86, 87, 88, 89, 90, 91, 92, 93, 94, 95, 96, 97, 98, 99, 100, 101, 102, 103, 104, 105, 106, 107, 108, 109, 110, 111, 112, 113, 114, 115, 116, 117, 118, 119, 120, 121, 122, 123, 124, 125, 126, 127, 128, 129, 130, 131, 132, 133, 134, 135, 136, 137, 138, 139, 140, 141, 142, 143, 144, 145, 146, 147, 148, 149, 150, 151, 152] (by decide +kernel) (by decide +kernel)) (goodIn_sub (fun _ h => List.mem_cons_of_mem _ (List.mem_append_right _ h)) (by decide +kernel))
set_option maxRecDepth 20000 in
theorem gL_at_X6_at : GoodIn wsL_at (wsV RL 27 RX6 yX6_at wsX6_at) := goodIn_app (goodIn_of _ (by decide +kernel)) ggL_at_X6_at
theorem dL_at_0 : decode cL_at 0 = .ok (.aload_n 3, 1) := by decide +kernel
theorem dL_at_1 : decode cL_at 1 = .ok (.iconst 0, 1) := by decide +kernel
theorem dL_at_2 : decode cL_at 2 = .ok (.aload_n 0, 1) := by decide +kernel
theorem dL_at_3 : decode cL_at 3 = .ok (.iload_n 1, 1) := by decide +kernel
theorem dL_at_4 : decode cL_at 4 = .ok (.iload_n 2, 1) := by decide +kernel
theorem dL_at_5 : decode cL_at 5 = .ok (.invokevirtual 27, 3) := by decide +kernel
theorem dL_at_8 : decode cL_at 8 = .ok (.i2l, 1) := by decide +kernel
theorem dL_at_9 : decode cL_at 9 = .ok (.lastore, 1) := by decide +kernel
theorem dL_at_10 : decode cL_at 10 = .ok (.goto 7, 3) := by decide +kernel
theorem dL_at_13 : decode cL_at 13 = .ok (.astore 4, 2) := by decide +kernel
theorem dL_at_15 : decode cL_at 15 = .ok (.iconst 1, 1) := by decide +kernel
theorem dL_at_16 : decode cL_at 16 = .ok (.ireturn, 1) := by decide +kernel
theorem dL_at_17 : decode cL_at 17 = .ok (.iconst 0, 1) := by decide +kernel
theorem dL_at_18 : decode cL_at 18 = .ok (.ireturn, 1) := by decide +kernel
set_option maxRecDepth 20000 in
theorem ggL_told_X6_told : GoodIn wsL_told wsX6_told := goodIn_ca (goodIn_r _ [6, 7, 8, 9, 10, 11, 12, 13, 14, 15, 16, 17, 18, 19, 20, 21, 22, 23, 24, 25, 26, 27, 28, 29, 30, 31, 32, 33, 34, 35, 36, 37, 38, 39, 40, 41, 42, 43, 44, 45, 46, 47, 48, 49, 50, 51, 52, 53, 54, 55, 56, 57, 58, 59, 60, 61, 62, 63, 64, 65, 66, 67, 68, 69, 70, 71, 72, 73, 74, 75, 76, 77, 78, 79, 80, 81, 82, 83, 84, 85, 86, 87, 88, 89, 90, 91, 92] (by decide +kernel) (by decide +kernel)) (goodIn_sub (fun _ h => List.mem_cons_of_mem _ (List.mem_append_right _ h)) (by decide +kernel))
set_option maxRecDepth 20000 in
theorem gL_told_X6_told : GoodIn wsL_told (wsV RL 31 RX6 yX6_told wsX6_told) := goodIn_app (goodIn_of _ (by decide +kernel)) ggL_told_X6_told
theorem dL_told_0 : decode cL_told 0 = .ok (.aload_n 2, 1) := by decide +kernel
theorem dL_told_1 : decode cL_told 1 = .ok (.iconst 0, 1) := by decide +kernel
theorem dL_told_2 : decode cL_told 2 = .ok (.aload_n 0, 1) := by decide +kernel
theorem dL_told_3 : decode cL_told 3 = .ok (.iload_n 1, 1) := by decide +kernel
theorem dL_told_4 : decode cL_told 4 = .ok (.invokevirtual 31, 3) := by decide +kernel
theorem dL_told_7 : decode cL_told 7 = .ok (.i2l, 1) := by decide +kernel
theorem dL_told_8 : decode cL_told 8 = .ok (.lastore, 1) := by decide +kernel
theorem dL_told_9 : decode cL_told 9 = .ok (.goto 6, 3) := by decide +kernel
theorem dL_told_12 : decode cL_told 12 = .ok (.astore_n 3, 1) := by decide +kernel
theorem dL_told_13 : decode cL_told 13 = .ok (.iconst 1, 1) := by decide +kernel
theorem dL_told_14 : decode cL_told 14 = .ok (.ireturn, 1) := by decide +kernel
theorem dL_told_15 : decode cL_told 15 = .ok (.iconst 0, 1) := by decide +kernel
theorem dL_told_16 : decode cL_told 16 = .ok (.ireturn, 1) := by decide +kernel
set_option maxRecDepth 20000 in
theorem ggL_changeAt_X6_changeAt : GoodIn wsL_changeAt wsX6_changeAt := goodIn_ca (goodIn_r _ [6, 7, 8, 9, 10, 11, 12, 13, 14, 15, 16, 17, 18, 19, 20, 21, 22, 23, 24, 25, 26, 27, 28, 29, 30, 31, 32, 33, 34, 35, 36, 37, 38, 39] (by decide +kernel) (by decide +kernel)) (goodIn_sub (fun _ h => List.mem_cons_of_mem _ (List.mem_append_right _ h)) (by decide +kernel))
set_option maxRecDepth 20000 in
theorem gL_changeAt_X6_changeAt : GoodIn wsL_changeAt (wsV RL 34 RX6 yX6_changeAt wsX6_changeAt) := goodIn_app (goodIn_of _ (by decide +kernel)) ggL_changeAt_X6_changeAt
theorem dL_changeAt_0 : decode cL_changeAt 0 = .ok (.aload_n 2, 1) := by decide +kernel
theorem dL_changeAt_1 : decode cL_changeAt 1 = .ok (.iconst 0, 1) := by decide +kernel
theorem dL_changeAt_2 : decode cL_changeAt 2 = .ok (.aload_n 0, 1) := by decide +kernel
theorem dL_changeAt_3 : decode cL_changeAt 3 = .ok (.iload_n 1, 1) := by decide +kernel
theorem dL_changeAt_4 : decode cL_changeAt 4 = .ok (.invokevirtual 34, 3) := by decide +kernel
theorem dL_changeAt_7 : decode cL_changeAt 7 = .ok (.i2l, 1) := by decide +kernel
theorem dL_changeAt_8 : decode cL_changeAt 8 = .ok (.lastore, 1) := by decide +kernel
theorem dL_changeAt_9 : decode cL_changeAt 9 = .ok (.goto 6, 3) := by decide +kernel
theorem dL_changeAt_12 : decode cL_changeAt 12 = .ok (.astore_n 3, 1) := by decide +kernel
theorem dL_changeAt_13 : decode cL_changeAt 13 = .ok (.iconst 1, 1) := by decide +kernel
theorem dL_changeAt_14 : decode cL_changeAt 14 = .ok (.ireturn, 1) := by decide +kernel
theorem dL_changeAt_15 : decode cL_changeAt 15 = .ok (.iconst 0, 1) := by decide +kernel
theorem dL_changeAt_16 : decode cL_changeAt 16 = .ok (.ireturn, 1) := by decide +kernel
set_option maxRecDepth 20000 in
theorem ggL_next_X6_next : GoodIn wsL_next wsX6_next := goodIn_ca (goodIn_r _ [6, 7, 8, 9, 10, 5, 11, 12, 13, 14, 15, 16, 17, 18, 19, 20, 21, 22, 23, 24, 25, 26, 27, 28, 29, 30, 31, 32, 33, 34, 35, 36, 37, 38, 39, 40, 41, 42, 43, 44, 45, 46, 47, 48, 49, 50, 51, 52, 53, 54, 55, 56, 57, 58, 59] (by decide +kernel) (by decide +kernel)) (goodIn_sub (fun _ h => List.mem_cons_of_mem _ (List.mem_append_right _ h)) (by decide +kernel))
set_option maxRecDepth 20000 in
theorem gL_next_X6_next : GoodIn wsL_next (wsV RL 39 RX6 yX6_next wsX6_next) := goodIn_app (goodIn_of _ (by decide +kernel)) ggL_next_X6_next
theorem dL_next_0 : decode cL_next 0 = .ok (.aload_n 3, 1) := by decide +kernel
theorem dL_next_1 : decode cL_next 1 = .ok (.iconst 0, 1) := by decide +kernel
theorem dL_next_2 : decode cL_next 2 = .ok (.aload_n 0, 1) := by decide +kernel
theorem dL_next_3 : decode cL_next 3 = .ok (.iload_n 1, 1) := by decide +kernel
theorem dL_next_4 : decode cL_next 4 = .ok (.iload_n 2, 1) := by decide +kernel
theorem dL_next_5 : decode cL_next 5 = .ok (.invokevirtual 39, 3) := by decide +kernel
theorem dL_next_8 : decode cL_next 8 = .ok (.i2l, 1) := by decide +kernel
theorem dL_next_9 : decode cL_next 9 = .ok (.lastore, 1) := by decide +kernel
theorem dL_next_10 : decode cL_next 10 = .ok (.goto 7, 3) := by decide +kernel
theorem dL_next_13 : decode cL_next 13 = .ok (.astore 4, 2) := by decide +kernel
theorem dL_next_15 : decode cL_next 15 = .ok (.iconst 1, 1) := by decide +kernel
theorem dL_next_16 : decode cL_next 16 = .ok (.ireturn, 1) := by decide +kernel
theorem dL_next_17 : decode cL_next 17 = .ok (.iconst 0, 1) := by decide +kernel
theorem dL_next_18 : decode cL_next 18 = .ok (.ireturn, 1) := by decide +kernel
set_option maxRecDepth 20000 in
theorem ggL_lead_X6_lead : GoodIn wsL_lead wsX6_lead := goodIn_ca (goodIn_r _ [6, 7, 8, 9, 10, 5, 11, 12, 13, 14, 15, 16, 17, 18, 19, 20, 21, 22, 23, 24, 25, 26, 27, 28, 29, 30, 31, 32, 33, 34, 35, 36, 37, 38, 39, 40, 41, 42, 43, 44, 45, 46, 47, 48, 49, 50, 51, 52, 53, 54, 55, 56, 57, 58, 59, 60, 61, 62, 63, 64, 65, 66, 67, 68, 69, 70, 71, 72, 73, 74, 75, 76, 77, 78, 79, 80, 81, 82, 83, 84] (by decide +kernel) (by decide +kernel)) (goodIn_sub (fun _ h => List.mem_cons_of_mem _ (List.mem_append_right _ h)) (by decide +kernel))
set_option maxRecDepth 20000 in
theorem gL_lead_X6_lead : GoodIn wsL_lead (wsV RL 42 RX6 yX6_lead wsX6_lead) := goodIn_app (goodIn_of _ (by decide +kernel)) ggL_lead_X6_lead
theorem dL_lead_0 : decode cL_lead 0 = .ok (.aload_n 3, 1) := by decide +kernel
theorem dL_lead_1 : decode cL_lead 1 = .ok (.iconst 0, 1) := by decide +kernel
theorem dL_lead_2 : decode cL_lead 2 = .ok (.aload_n 0, 1) := by decide +kernel
theorem dL_lead_3 : decode cL_lead 3 = .ok (.iload_n 1, 1) := by decide +kernel
theorem dL_lead_4 : decode cL_lead 4 = .ok (.iload_n 2, 1) := by decide +kernel
theorem dL_lead_5 : decode cL_lead 5 = .ok (.invokevirtual 42, 3) := by decide +kernel
theorem dL_lead_8 : decode cL_lead 8 = .ok (.i2l, 1) := by decide +kernel
theorem dL_lead_9 : decode cL_lead 9 = .ok (.lastore, 1) := by decide +kernel
theorem dL_lead_10 : decode cL_lead 10 = .ok (.goto 7, 3) := by decide +kernel
theorem dL_lead_13 : decode cL_lead 13 = .ok (.astore 4, 2) := by decide +kernel
theorem dL_lead_15 : decode cL_lead 15 = .ok (.iconst 1, 1) := by decide +kernel
theorem dL_lead_16 : decode cL_lead 16 = .ok (.ireturn, 1) := by decide +kernel
theorem dL_lead_17 : decode cL_lead 17 = .ok (.iconst 0, 1) := by decide +kernel
theorem dL_lead_18 : decode cL_lead 18 = .ok (.ireturn, 1) := by decide +kernel
set_option maxRecDepth 20000 in
theorem ggL_crossed_X6_crossed : GoodIn wsL_crossed wsX6_crossed := goodIn_ca (goodIn_r _ [6, 7, 8, 9, 10, 5, 11, 12, 13, 14, 15, 16, 17, 18, 19, 20, 21, 22, 23, 24, 25, 26, 27, 28, 29, 30, 31, 32, 33, 34, 35, 36, 37, 38, 39] (by decide +kernel) (by decide +kernel)) (goodIn_sub (fun _ h => List.mem_cons_of_mem _ (List.mem_append_right _ h)) (by decide +kernel))
set_option maxRecDepth 20000 in
theorem gL_crossed_X6_crossed : GoodIn wsL_crossed (wsV RL 45 RX6 yX6_crossed wsX6_crossed) := goodIn_app (goodIn_of _ (by decide +kernel)) ggL_crossed_X6_crossed
theorem dL_crossed_0 : decode cL_crossed 0 = .ok (.aload_n 2, 1) := by decide +kernel
theorem dL_crossed_1 : decode cL_crossed 1 = .ok (.iconst 0, 1) := by decide +kernel
theorem dL_crossed_2 : decode cL_crossed 2 = .ok (.aload_n 0, 1) := by decide +kernel
theorem dL_crossed_3 : decode cL_crossed 3 = .ok (.iload_n 1, 1) := by decide +kernel
theorem dL_crossed_4 : decode cL_crossed 4 = .ok (.invokevirtual 45, 3) := by decide +kernel
theorem dL_crossed_7 : decode cL_crossed 7 = .ok (.i2l, 1) := by decide +kernel
theorem dL_crossed_8 : decode cL_crossed 8 = .ok (.lastore, 1) := by decide +kernel
theorem dL_crossed_9 : decode cL_crossed 9 = .ok (.goto 6, 3) := by decide +kernel
theorem dL_crossed_12 : decode cL_crossed 12 = .ok (.astore_n 3, 1) := by decide +kernel
theorem dL_crossed_13 : decode cL_crossed 13 = .ok (.iconst 1, 1) := by decide +kernel
theorem dL_crossed_14 : decode cL_crossed 14 = .ok (.ireturn, 1) := by decide +kernel
theorem dL_crossed_15 : decode cL_crossed 15 = .ok (.iconst 0, 1) := by decide +kernel
theorem dL_crossed_16 : decode cL_crossed 16 = .ok (.ireturn, 1) := by decide +kernel
set_option maxRecDepth 20000 in
theorem ggL_call_X6_call : GoodIn wsL_call wsX6_call := goodIn_ca (goodIn_ca (goodIn_r _ [7, 8, 9, 10, 11, 12, 13, 6, 14, 15, 16, 17, 18, 19, 20, 21, 22, 23, 24, 25, 26, 27, 28, 29, 30, 31, 32, 33, 34, 35, 36, 37, 38, 39, 40, 41, 42, 43, 44, 45, 46, 47, 48, 49, 50, 51, 52, 53, 54, 55, 56, 57, 58, 59, 60, 61, 62, 63, 64, 65, 66, 67, 68, 69, 70, 71, 72, 73, 74, 75, 76, 77, 78, 79, 80, 81, 82, 83, 84, 85, 86, 87, 88, 89, 90, 91, 92, 93, 94, 95, 96, 97, 98, 99, 100, 101, 102, 103, 104, 105, 106, 107, 108, 109, 110, 111, 112, 113, 114, 115, 116, 117, 118, 119, 120, 121, 122, 123, 124, 125, 126, 127, 128, 129, 130, 131, 132, 133, 134, 135, 136, 137, 138, 139, 140, 141, 142, 143, 144, 145, 146] (by decide +kernel) (by decide +kernel)) (goodIn_sub (fun _ h => List.mem_cons_of_mem _ (List.mem_append_left _ (List.mem_append_right _ h))) (by decide +kernel))) (goodIn_sub (fun _ h => List.mem_cons_of_mem _ (List.mem_append_right _ h)) (by decide +kernel))
set_option maxRecDepth 20000 in
theorem gL_call_X6_call : GoodIn wsL_call (wsV RL 48 RX6 yX6_call wsX6_call) := goodIn_app (goodIn_of _ (by decide +kernel)) ggL_call_X6_call
theorem dL_call_0 : decode cL_call 0 = .ok (.aload_n 2, 1) := by decide +kernel
theorem dL_call_1 : decode cL_call 1 = .ok (.iconst 0, 1) := by decide +kernel
theorem dL_call_2 : decode cL_call 2 = .ok (.aload_n 0, 1) := by decide +kernel
theorem dL_call_3 : decode cL_call 3 = .ok (.iload_n 1, 1) := by decide +kernel
theorem dL_call_4 : decode cL_call 4 = .ok (.invokevirtual 48, 3) := by decide +kernel
theorem dL_call_7 : decode cL_call 7 = .ok (.i2l, 1) := by decide +kernel
theorem dL_call_8 : decode cL_call 8 = .ok (.lastore, 1) := by decide +kernel
theorem dL_call_9 : decode cL_call 9 = .ok (.goto 9, 3) := by decide +kernel
theorem dL_call_12 : decode cL_call 12 = .ok (.astore_n 3, 1) := by decide +kernel
theorem dL_call_13 : decode cL_call 13 = .ok (.iconst 1, 1) := by decide +kernel
theorem dL_call_14 : decode cL_call 14 = .ok (.ireturn, 1) := by decide +kernel
theorem dL_call_15 : decode cL_call 15 = .ok (.astore_n 3, 1) := by decide +kernel
theorem dL_call_16 : decode cL_call 16 = .ok (.iconst 2, 1) := by decide +kernel
theorem dL_call_17 : decode cL_call 17 = .ok (.ireturn, 1) := by decide +kernel
theorem dL_call_18 : decode cL_call 18 = .ok (.iconst 0, 1) := by decide +kernel
theorem dL_call_19 : decode cL_call 19 = .ok (.ireturn, 1) := by decide +kernel
set_option maxRecDepth 20000 in
theorem ggL_uncall_X6_uncall : GoodIn wsL_uncall wsX6_uncall := goodIn_ca (goodIn_r _ [6, 7, 8, 9, 10, 11, 12, 13, 14, 15, 16, 17, 18, 19, 20, 21, 22, 23, 24, 25, 26, 27, 28, 29, 30, 31, 32, 33, 34, 35, 36, 37, 38, 39, 40, 41, 42, 43, 44, 45, 46, 47, 48, 49, 50, 51, 52, 53, 54, 55, 56, 57, 58, 59, 60, 61, 62, 63, 64, 65, 66, 67, 68, 69, 70, 71, 72, 73, 74, 75, 76, 77, 78, 79, 80, 81, 82, 83, 84, 85, 86, 87, 88, 89, 90, 91, 92, 93, 94, 95, 96] (by decide +kernel) (by decide +kernel)) (goodIn_sub (fun _ h => List.mem_cons_of_mem _ (List.mem_append_right _ h)) (by decide +kernel))
set_option maxRecDepth 20000 in
theorem gL_uncall_X6_uncall : GoodIn wsL_uncall (wsV RL 51 RX6 yX6_uncall wsX6_uncall) := goodIn_app (goodIn_of _ (by decide +kernel)) ggL_uncall_X6_uncall
theorem dL_uncall_0 : decode cL_uncall 0 = .ok (.aload_n 1, 1) := by decide +kernel
theorem dL_uncall_1 : decode cL_uncall 1 = .ok (.iconst 0, 1) := by decide +kernel
theorem dL_uncall_2 : decode cL_uncall 2 = .ok (.aload_n 0, 1) := by decide +kernel
theorem dL_uncall_3 : decode cL_uncall 3 = .ok (.invokevirtual 51, 3) := by decide +kernel
theorem dL_uncall_6 : decode cL_uncall 6 = .ok (.i2l, 1) := by decide +kernel
theorem dL_uncall_7 : decode cL_uncall 7 = .ok (.lastore, 1) := by decide +kernel
theorem dL_uncall_8 : decode cL_uncall 8 = .ok (.goto 6, 3) := by decide +kernel
theorem dL_uncall_11 : decode cL_uncall 11 = .ok (.astore_n 2, 1) := by decide +kernel
theorem dL_uncall_12 : decode cL_uncall 12 = .ok (.iconst 1, 1) := by decide +kernel
theorem dL_uncall_13 : decode cL_uncall 13 = .ok (.ireturn, 1) := by decide +kernel
theorem dL_uncall_14 : decode cL_uncall 14 = .ok (.iconst 0, 1) := by decide +kernel
theorem dL_uncall_15 : decode cL_uncall 15 = .ok (.ireturn, 1) := by decide +kernel
set_option maxRecDepth 20000 in
theorem ggL_callAt_X6_callAt : GoodIn wsL_callAt wsX6_callAt := goodIn_ca (goodIn_r _ [6, 7, 8, 9, 10, 5, 11, 12, 13, 14, 15, 16, 17, 18, 19, 20, 21, 22, 23, 24, 25, 26, 27, 28, 29, 30, 31, 32, 33, 34, 35, 36, 37, 38, 39, 40, 41, 42, 43, 44, 45] (by decide +kernel) (by decide +kernel)) (goodIn_sub (fun _ h => List.mem_cons_of_mem _ (List.mem_append_right _ h)) (by decide +kernel))
set_option maxRecDepth 20000 in
theorem gL_callAt_X6_callAt : GoodIn wsL_callAt (wsV RL 54 RX6 yX6_callAt wsX6_callAt) := goodIn_app (goodIn_of _ (by decide +kernel)) ggL_callAt_X6_callAt
theorem dL_callAt_0 : decode cL_callAt 0 = .ok (.aload_n 2, 1) := by decide +kernel
theorem dL_callAt_1 : decode cL_callAt 1 = .ok (.iconst 0, 1) := by decide +kernel
theorem dL_callAt_2 : decode cL_callAt 2 = .ok (.aload_n 0, 1) := by decide +kernel
theorem dL_callAt_3 : decode cL_callAt 3 = .ok (.iload_n 1, 1) := by decide +kernel
theorem dL_callAt_4 : decode cL_callAt 4 = .ok (.invokevirtual 54, 3) := by decide +kernel
theorem dL_callAt_7 : decode cL_callAt 7 = .ok (.i2l, 1) := by decide +kernel
theorem dL_callAt_8 : decode cL_callAt 8 = .ok (.lastore, 1) := by decide +kernel
theorem dL_callAt_9 : decode cL_callAt 9 = .ok (.goto 6, 3) := by decide +kernel
theorem dL_callAt_12 : decode cL_callAt 12 = .ok (.astore_n 3, 1) := by decide +kernel
theorem dL_callAt_13 : decode cL_callAt 13 = .ok (.iconst 1, 1) := by decide +kernel
theorem dL_callAt_14 : decode cL_callAt 14 = .ok (.ireturn, 1) := by decide +kernel
theorem dL_callAt_15 : decode cL_callAt 15 = .ok (.iconst 0, 1) := by decide +kernel
theorem dL_callAt_16 : decode cL_callAt 16 = .ok (.ireturn, 1) := by decide +kernel
set_option maxRecDepth 20000 in
theorem ggL_touch_X6_touch : GoodIn wsL_touch wsX6_touch := goodIn_ca (goodIn_r _ [6, 7, 8, 9, 10, 11, 12, 13, 14, 15, 16, 17, 18, 19, 20, 21, 22, 23, 24, 25, 26, 27, 28, 29, 30, 31, 32, 33, 34, 35, 36, 37, 38, 39, 40, 41, 42, 43, 44, 45, 46, 47, 5, 48, 49, 50, 51, 52, 53, 54, 55, 56, 57, 58, 59, 60, 61, 62, 63, 64, 65, 66, 67, 68, 69, 70, 71, 72, 73, 74, 75, 76, 77, 78, 79, 80, 81, 82, 83, 84, 85, 86, 87, 88, 89, 90, 91, 92, 93, 94, 95, 96, 97, 98, 99, 100, 101, 102, 103, 104, 105, 106, 107] (by decide +kernel) (by decide +kernel)) (goodIn_sub (fun _ h => List.mem_cons_of_mem _ (List.mem_append_right _ h)) (by decide +kernel))
set_option maxRecDepth 20000 in
theorem gL_touch_X6_touch : GoodIn wsL_touch (wsV RL 57 RX6 yX6_touch wsX6_touch) := goodIn_app (goodIn_of _ (by decide +kernel)) ggL_touch_X6_touch
theorem dL_touch_0 : decode cL_touch 0 = .ok (.aload_n 2, 1) := by decide +kernel
theorem dL_touch_1 : decode cL_touch 1 = .ok (.iconst 0, 1) := by decide +kernel
theorem dL_touch_2 : decode cL_touch 2 = .ok (.aload_n 0, 1) := by decide +kernel
theorem dL_touch_3 : decode cL_touch 3 = .ok (.iload_n 1, 1) := by decide +kernel
theorem dL_touch_4 : decode cL_touch 4 = .ok (.invokevirtual 57, 3) := by decide +kernel
theorem dL_touch_7 : decode cL_touch 7 = .ok (.i2l, 1) := by decide +kernel
theorem dL_touch_8 : decode cL_touch 8 = .ok (.lastore, 1) := by decide +kernel
theorem dL_touch_9 : decode cL_touch 9 = .ok (.goto 6, 3) := by decide +kernel
theorem dL_touch_12 : decode cL_touch 12 = .ok (.astore_n 3, 1) := by decide +kernel
theorem dL_touch_13 : decode cL_touch 13 = .ok (.iconst 1, 1) := by decide +kernel
theorem dL_touch_14 : decode cL_touch 14 = .ok (.ireturn, 1) := by decide +kernel
theorem dL_touch_15 : decode cL_touch 15 = .ok (.iconst 0, 1) := by decide +kernel
theorem dL_touch_16 : decode cL_touch 16 = .ok (.ireturn, 1) := by decide +kernel
set_option maxRecDepth 20000 in
theorem ggL_row_X6_row : GoodIn wsL_row wsX6_row := goodIn_ca (goodIn_r _ [6, 7, 8, 9, 10, 5, 11, 12, 13, 14, 15, 16, 17, 18, 19, 20, 21, 22, 23, 24, 25, 26, 27, 28, 29, 30, 31, 32, 33, 34, 35, 36, 37, 38, 39, 40, 41, 42, 43, 44, 45, 46, 47, 48, 49, 50, 51, 52, 53, 54, 55, 56, 57, 58, 59, 60, 61, 62, 63, 64, 65, 66, 67] (by decide +kernel) (by decide +kernel)) (goodIn_sub (fun _ h => List.mem_cons_of_mem _ (List.mem_append_right _ h)) (by decide +kernel))
set_option maxRecDepth 20000 in
theorem gL_row_X6_row : GoodIn wsL_row (wsV RL 60 RX6 yX6_row wsX6_row) := goodIn_app (goodIn_of _ (by decide +kernel)) ggL_row_X6_row
theorem dL_row_0 : decode cL_row 0 = .ok (.aload_n 2, 1) := by decide +kernel
theorem dL_row_1 : decode cL_row 1 = .ok (.iconst 0, 1) := by decide +kernel
theorem dL_row_2 : decode cL_row 2 = .ok (.aload_n 0, 1) := by decide +kernel
theorem dL_row_3 : decode cL_row 3 = .ok (.iload_n 1, 1) := by decide +kernel
theorem dL_row_4 : decode cL_row 4 = .ok (.invokevirtual 60, 3) := by decide +kernel
theorem dL_row_7 : decode cL_row 7 = .ok (.i2l, 1) := by decide +kernel
theorem dL_row_8 : decode cL_row 8 = .ok (.lastore, 1) := by decide +kernel
theorem dL_row_9 : decode cL_row 9 = .ok (.goto 6, 3) := by decide +kernel
theorem dL_row_12 : decode cL_row 12 = .ok (.astore_n 3, 1) := by decide +kernel
theorem dL_row_13 : decode cL_row 13 = .ok (.iconst 1, 1) := by decide +kernel
theorem dL_row_14 : decode cL_row 14 = .ok (.ireturn, 1) := by decide +kernel
theorem dL_row_15 : decode cL_row 15 = .ok (.iconst 0, 1) := by decide +kernel
theorem dL_row_16 : decode cL_row 16 = .ok (.ireturn, 1) := by decide +kernel
set_option maxRecDepth 20000 in
theorem ggL_where_X6_where : GoodIn wsL_where wsX6_where := goodIn_ca (goodIn_r _ [6, 7, 8, 9, 10, 5, 11, 12, 13, 14, 15, 16, 17, 18, 19, 20, 21, 22, 23, 24, 25, 26, 27, 28, 29, 30, 31, 32, 33, 34, 35, 36, 37, 38, 39, 40, 41, 42, 43, 44, 45, 46, 47, 48, 49, 50, 51, 52, 53, 54, 55, 56, 57, 58, 59, 60, 61, 62, 63, 64, 65] (by decide +kernel) (by decide +kernel)) (goodIn_sub (fun _ h => List.mem_cons_of_mem _ (List.mem_append_right _ h)) (by decide +kernel))
set_option maxRecDepth 20000 in
theorem gL_where_X6_where : GoodIn wsL_where (wsV RL 63 RX6 yX6_where wsX6_where) := goodIn_app (goodIn_of _ (by decide +kernel)) ggL_where_X6_where
theorem dL_where_0 : decode cL_where 0 = .ok (.aload_n 2, 1) := by decide +kernel
theorem dL_where_1 : decode cL_where 1 = .ok (.iconst 0, 1) := by decide +kernel
theorem dL_where_2 : decode cL_where 2 = .ok (.aload_n 0, 1) := by decide +kernel
theorem dL_where_3 : decode cL_where 3 = .ok (.iload_n 1, 1) := by decide +kernel
theorem dL_where_4 : decode cL_where 4 = .ok (.invokevirtual 63, 3) := by decide +kernel
theorem dL_where_7 : decode cL_where 7 = .ok (.i2l, 1) := by decide +kernel
theorem dL_where_8 : decode cL_where 8 = .ok (.lastore, 1) := by decide +kernel
theorem dL_where_9 : decode cL_where 9 = .ok (.goto 6, 3) := by decide +kernel
theorem dL_where_12 : decode cL_where 12 = .ok (.astore_n 3, 1) := by decide +kernel
theorem dL_where_13 : decode cL_where 13 = .ok (.iconst 1, 1) := by decide +kernel
theorem dL_where_14 : decode cL_where 14 = .ok (.ireturn, 1) := by decide +kernel
theorem dL_where_15 : decode cL_where 15 = .ok (.iconst 0, 1) := by decide +kernel
theorem dL_where_16 : decode cL_where 16 = .ok (.ireturn, 1) := by decide +kernel
set_option maxRecDepth 20000 in
theorem ggL_place_X6_place : GoodIn wsL_place wsX6_place := goodIn_ca (goodIn_r _ [6, 7, 8, 9, 10, 11, 5, 12, 13, 14, 15, 16, 17, 18, 19, 20, 21, 22, 23, 24, 25, 26, 27, 28, 29, 30, 31, 32, 33, 34, 35, 36, 37, 38, 39, 40, 41, 42, 43, 44, 45, 46, 47, 48, 49, 50, 51, 52, 53, 54, 55, 56, 57, 58, 59, 60, 61, 62, 63, 64, 65, 66, 67] (by decide +kernel) (by decide +kernel)) (goodIn_sub (fun _ h => List.mem_cons_of_mem _ (List.mem_append_right _ h)) (by decide +kernel))
set_option maxRecDepth 20000 in
theorem gL_place_X6_place : GoodIn wsL_place (wsV RL 66 RX6 yX6_place wsX6_place) := goodIn_app (goodIn_of _ (by decide +kernel)) ggL_place_X6_place
theorem dL_place_0 : decode cL_place 0 = .ok (.aload_n 3, 1) := by decide +kernel
theorem dL_place_1 : decode cL_place 1 = .ok (.iconst 0, 1) := by decide +kernel
theorem dL_place_2 : decode cL_place 2 = .ok (.aload_n 0, 1) := by decide +kernel
theorem dL_place_3 : decode cL_place 3 = .ok (.iload_n 1, 1) := by decide +kernel
theorem dL_place_4 : decode cL_place 4 = .ok (.iload_n 2, 1) := by decide +kernel
theorem dL_place_5 : decode cL_place 5 = .ok (.invokevirtual 66, 3) := by decide +kernel
theorem dL_place_8 : decode cL_place 8 = .ok (.i2l, 1) := by decide +kernel
theorem dL_place_9 : decode cL_place 9 = .ok (.lastore, 1) := by decide +kernel
theorem dL_place_10 : decode cL_place 10 = .ok (.goto 7, 3) := by decide +kernel
theorem dL_place_13 : decode cL_place 13 = .ok (.astore 4, 2) := by decide +kernel
theorem dL_place_15 : decode cL_place 15 = .ok (.iconst 1, 1) := by decide +kernel
theorem dL_place_16 : decode cL_place 16 = .ok (.ireturn, 1) := by decide +kernel
theorem dL_place_17 : decode cL_place 17 = .ok (.iconst 0, 1) := by decide +kernel
theorem dL_place_18 : decode cL_place 18 = .ok (.ireturn, 1) := by decide +kernel
set_option maxRecDepth 20000 in
theorem ggL_longest_X6_longest : GoodIn wsL_longest wsX6_longest := goodIn_ca (goodIn_r _ [6, 7, 8, 9, 10, 5, 11, 12, 13, 14, 15, 16, 17, 18, 19, 20, 21, 22, 23, 24, 25, 26, 27, 28, 29, 30, 31, 32, 33, 34, 35, 36, 37, 38, 39, 40, 41, 42, 43, 44, 45, 46, 47, 48, 49, 50, 51, 52, 53, 54, 55, 56, 57, 58, 59, 60, 61, 62, 63, 64, 65] (by decide +kernel) (by decide +kernel)) (goodIn_sub (fun _ h => List.mem_cons_of_mem _ (List.mem_append_right _ h)) (by decide +kernel))
set_option maxRecDepth 20000 in
theorem gL_longest_X6_longest : GoodIn wsL_longest (wsV RL 69 RX6 yX6_longest wsX6_longest) := goodIn_app (goodIn_of _ (by decide +kernel)) ggL_longest_X6_longest
theorem dL_longest_0 : decode cL_longest 0 = .ok (.aload_n 2, 1) := by decide +kernel
theorem dL_longest_1 : decode cL_longest 1 = .ok (.iconst 0, 1) := by decide +kernel
theorem dL_longest_2 : decode cL_longest 2 = .ok (.aload_n 0, 1) := by decide +kernel
theorem dL_longest_3 : decode cL_longest 3 = .ok (.iload_n 1, 1) := by decide +kernel
theorem dL_longest_4 : decode cL_longest 4 = .ok (.invokevirtual 69, 3) := by decide +kernel
theorem dL_longest_7 : decode cL_longest 7 = .ok (.i2l, 1) := by decide +kernel
theorem dL_longest_8 : decode cL_longest 8 = .ok (.lastore, 1) := by decide +kernel
theorem dL_longest_9 : decode cL_longest 9 = .ok (.goto 6, 3) := by decide +kernel
theorem dL_longest_12 : decode cL_longest 12 = .ok (.astore_n 3, 1) := by decide +kernel
theorem dL_longest_13 : decode cL_longest 13 = .ok (.iconst 1, 1) := by decide +kernel
theorem dL_longest_14 : decode cL_longest 14 = .ok (.ireturn, 1) := by decide +kernel
theorem dL_longest_15 : decode cL_longest 15 = .ok (.iconst 0, 1) := by decide +kernel
theorem dL_longest_16 : decode cL_longest 16 = .ok (.ireturn, 1) := by decide +kernel
set_option maxRecDepth 20000 in
theorem ggL_music_X6_music : GoodIn wsL_music wsX6_music := goodIn_ca (goodIn_r _ [6, 7, 8, 9, 10, 5, 11, 12, 13, 14, 15, 16, 17, 18, 19, 20, 21, 22, 23, 24, 25, 26, 27, 28, 29, 30, 31, 32, 33, 34, 35, 36, 37, 38, 39, 40, 41, 42] (by decide +kernel) (by decide +kernel)) (goodIn_sub (fun _ h => List.mem_cons_of_mem _ (List.mem_append_right _ h)) (by decide +kernel))
set_option maxRecDepth 20000 in
theorem gL_music_X6_music : GoodIn wsL_music (wsV RL 72 RX6 yX6_music wsX6_music) := goodIn_app (goodIn_of _ (by decide +kernel)) ggL_music_X6_music
theorem dL_music_0 : decode cL_music 0 = .ok (.aload_n 2, 1) := by decide +kernel
theorem dL_music_1 : decode cL_music 1 = .ok (.iconst 0, 1) := by decide +kernel
theorem dL_music_2 : decode cL_music 2 = .ok (.aload_n 0, 1) := by decide +kernel
theorem dL_music_3 : decode cL_music 3 = .ok (.iload_n 1, 1) := by decide +kernel
theorem dL_music_4 : decode cL_music 4 = .ok (.invokevirtual 72, 3) := by decide +kernel
theorem dL_music_7 : decode cL_music 7 = .ok (.i2l, 1) := by decide +kernel
theorem dL_music_8 : decode cL_music 8 = .ok (.lastore, 1) := by decide +kernel
theorem dL_music_9 : decode cL_music 9 = .ok (.goto 6, 3) := by decide +kernel
theorem dL_music_12 : decode cL_music 12 = .ok (.astore_n 3, 1) := by decide +kernel
theorem dL_music_13 : decode cL_music 13 = .ok (.iconst 1, 1) := by decide +kernel
theorem dL_music_14 : decode cL_music 14 = .ok (.ireturn, 1) := by decide +kernel
theorem dL_music_15 : decode cL_music 15 = .ok (.iconst 0, 1) := by decide +kernel
theorem dL_music_16 : decode cL_music 16 = .ok (.ireturn, 1) := by decide +kernel
set_option maxRecDepth 20000 in
theorem ggL_common_X6_common : GoodIn wsL_common wsX6_common := goodIn_ca (goodIn_r _ [6, 7, 8, 9, 10, 5, 11, 12, 13, 14, 15, 16, 17, 18, 19, 20, 21, 22, 23, 24, 25, 26, 27, 28, 29, 30, 31, 32, 33, 34, 35, 36, 37, 38, 39, 40, 41, 42, 43, 44, 45, 46, 47, 48, 49, 50, 51, 52, 53, 54, 55, 56, 57, 58, 59, 60, 61, 62] (by decide +kernel) (by decide +kernel)) (goodIn_sub (fun _ h => List.mem_cons_of_mem _ (List.mem_append_right _ h)) (by decide +kernel))
set_option maxRecDepth 20000 in
theorem gL_common_X6_common : GoodIn wsL_common (wsV RL 75 RX6 yX6_common wsX6_common) := goodIn_app (goodIn_of _ (by decide +kernel)) ggL_common_X6_common
theorem dL_common_0 : decode cL_common 0 = .ok (.aload_n 3, 1) := by decide +kernel
theorem dL_common_1 : decode cL_common 1 = .ok (.iconst 0, 1) := by decide +kernel
theorem dL_common_2 : decode cL_common 2 = .ok (.aload_n 0, 1) := by decide +kernel
theorem dL_common_3 : decode cL_common 3 = .ok (.iload_n 1, 1) := by decide +kernel
theorem dL_common_4 : decode cL_common 4 = .ok (.iload_n 2, 1) := by decide +kernel
theorem dL_common_5 : decode cL_common 5 = .ok (.invokevirtual 75, 3) := by decide +kernel
theorem dL_common_8 : decode cL_common 8 = .ok (.i2l, 1) := by decide +kernel
theorem dL_common_9 : decode cL_common 9 = .ok (.lastore, 1) := by decide +kernel
theorem dL_common_10 : decode cL_common 10 = .ok (.goto 7, 3) := by decide +kernel
theorem dL_common_13 : decode cL_common 13 = .ok (.astore 4, 2) := by decide +kernel
theorem dL_common_15 : decode cL_common 15 = .ok (.iconst 1, 1) := by decide +kernel
theorem dL_common_16 : decode cL_common 16 = .ok (.ireturn, 1) := by decide +kernel
theorem dL_common_17 : decode cL_common 17 = .ok (.iconst 0, 1) := by decide +kernel
theorem dL_common_18 : decode cL_common 18 = .ok (.ireturn, 1) := by decide +kernel
set_option maxRecDepth 20000 in
theorem ggL_good_X6_good : GoodIn wsL_good wsX6_good := goodIn_ca (goodIn_r _ [6, 7, 8, 9, 10, 5, 11, 12, 13, 14, 15, 16, 17, 18, 19, 20, 21, 22, 23, 24, 25, 26, 27, 28, 29, 30, 31, 32, 33, 34, 35, 36, 37, 38, 39, 40, 41, 42, 43, 44, 45, 46, 47, 48, 49, 50, 51, 52, 53, 54, 55, 56, 57, 58, 59, 60, 61, 62, 63, 64, 65, 66, 67, 68, 69, 70, 71, 72, 73, 74, 75, 76, 77, 78, 79, 80, 81, 82, 83, 84, 85, 86, 87, 88, 89, 90, 91, 92, 93, 94, 95, 96, 97, 98, 99, 100, 101, 102, 103, 104, 105, 106, 107, 108, 109, 110, 111, 112, 113, 114, 115, 116, 117, 118, 119, 120, 121, 122, 123, 124, 125, 126, 127, 128, 129, 130, 131, 132, 133, 134, 135, 136, 137, 138, 139, 140, 141, 142, 143, 144, 145, 146, 147, 148, 149, 150, 151, 152, 153, 154, 155, 156, 157, 158, 159, 160, 161, 162, 163, 164, 165, 166, 167, 168, 169, 170, 171, 172, 173, 174, 175, 176, 177, 178, 179, 180, 181, 182, 183, 184, 185, 186, 187, 188, 189, 190, 191, 192, 193, 194, 195, 196, 197, 198, 199, 200, 201, 202, 203] (by decide +kernel) (by decide +kernel)) (goodIn_sub (fun _ h => List.mem_cons_of_mem _ (List.mem_append_right _ h)) (by decide +kernel))
set_option maxRecDepth 20000 in
theorem gL_good_X6_good : GoodIn wsL_good (wsV RL 78 RX6 yX6_good wsX6_good) := goodIn_app (goodIn_of _ (by decide +kernel)) ggL_good_X6_good
theorem dL_good_0 : decode cL_good 0 = .ok (.aload_n 2, 1) := by decide +kernel
theorem dL_good_1 : decode cL_good 1 = .ok (.iconst 0, 1) := by decide +kernel
theorem dL_good_2 : decode cL_good 2 = .ok (.aload_n 0, 1) := by decide +kernel
theorem dL_good_3 : decode cL_good 3 = .ok (.iload_n 1, 1) := by decide +kernel
theorem dL_good_4 : decode cL_good 4 = .ok (.invokevirtual 78, 3) := by decide +kernel
theorem dL_good_7 : decode cL_good 7 = .ok (.i2l, 1) := by decide +kernel
theorem dL_good_8 : decode cL_good 8 = .ok (.lastore, 1) := by decide +kernel
theorem dL_good_9 : decode cL_good 9 = .ok (.goto 6, 3) := by decide +kernel
theorem dL_good_12 : decode cL_good 12 = .ok (.astore_n 3, 1) := by decide +kernel
theorem dL_good_13 : decode cL_good 13 = .ok (.iconst 1, 1) := by decide +kernel
theorem dL_good_14 : decode cL_good 14 = .ok (.ireturn, 1) := by decide +kernel
theorem dL_good_15 : decode cL_good 15 = .ok (.iconst 0, 1) := by decide +kernel
theorem dL_good_16 : decode cL_good 16 = .ok (.ireturn, 1) := by decide +kernel
set_option maxRecDepth 20000 in
theorem ggL_best_X6_best : GoodIn wsL_best wsX6_best := goodIn_ca (goodIn_r _ [6, 7, 8, 9, 10, 5, 11, 12, 13, 14, 15, 16, 17, 18, 19, 20, 21, 22, 23, 24, 25, 26, 27, 28, 29, 30, 31, 32, 33, 34, 35, 36, 37, 38, 39, 40, 41, 42, 43, 44, 45, 46, 47, 48, 49, 50, 51, 52, 53, 54, 55, 56, 57, 58, 59, 60, 61, 62, 63, 64, 65, 66, 67, 68, 69, 70, 71, 72, 73, 74, 75, 76, 77, 78, 79, 80, 81, 82, 83, 84, 85, 86, 87, 88, 89, 90, 91, 92, 93, 94, 95, 96, 97, 98, 99, 100, 101, 102, 103, 104, 105, 106, 107, 108, 109, 110, 111, 112, 113, 114, 115, 116, 117, 118, 119, 120, 121, 122, 123, 124, 125, 126, 127, 128, 129, 130, 131, 132, 133, 134, 135, 136, 137, 138, 139, 140, 141, 142, 143, 144, 145, 146, 147, 148, 149, 150, 151, 152, 153, 154, 155, 156, 157, 158, 159, 160, 161, 162, 163, 164, 165, 166, 167, 168, 169, 170, 171, 172, 173, 174, 175, 176, 177, 178, 179, 180, 181, 182, 183, 184, 185, 186, 187, 188, 189, 190, 191, 192, 193, 194, 195, 196, 197, 198, 199, 200, 201, 202, 203] (by decide +kernel) (by decide +kernel)) (goodIn_sub (fun _ h => List.mem_cons_of_mem _ (List.mem_append_right _ h)) (by decide +kernel))
set_option maxRecDepth 20000 in
theorem gL_best_X6_best : GoodIn wsL_best (wsV RL 81 RX6 yX6_best wsX6_best) := goodIn_app (goodIn_of _ (by decide +kernel)) ggL_best_X6_best
theorem dL_best_0 : decode cL_best 0 = .ok (.aload_n 2, 1) := by decide +kernel
theorem dL_best_1 : decode cL_best 1 = .ok (.iconst 0, 1) := by decide +kernel
theorem dL_best_2 : decode cL_best 2 = .ok (.aload_n 0, 1) := by decide +kernel
theorem dL_best_3 : decode cL_best 3 = .ok (.iload_n 1, 1) := by decide +kernel
theorem dL_best_4 : decode cL_best 4 = .ok (.invokevirtual 81, 3) := by decide +kernel
theorem dL_best_7 : decode cL_best 7 = .ok (.i2l, 1) := by decide +kernel
theorem dL_best_8 : decode cL_best 8 = .ok (.lastore, 1) := by decide +kernel
theorem dL_best_9 : decode cL_best 9 = .ok (.goto 6, 3) := by decide +kernel
theorem dL_best_12 : decode cL_best 12 = .ok (.astore_n 3, 1) := by decide +kernel
theorem dL_best_13 : decode cL_best 13 = .ok (.iconst 1, 1) := by decide +kernel
theorem dL_best_14 : decode cL_best 14 = .ok (.ireturn, 1) := by decide +kernel
theorem dL_best_15 : decode cL_best 15 = .ok (.iconst 0, 1) := by decide +kernel
theorem dL_best_16 : decode cL_best 16 = .ok (.ireturn, 1) := by decide +kernel
set_option maxRecDepth 20000 in
theorem ggL_bestCall_X6_bestCall : GoodIn wsL_bestCall wsX6_bestCall := goodIn_ca (goodIn_ca (goodIn_r _ [7, 8, 9, 10, 11, 12, 13, 6, 14, 15, 16, 17, 18, 19, 20, 21, 22, 23, 24, 25, 26, 27, 28, 29, 30, 31, 32, 33, 34, 35, 36, 37, 38, 39, 40, 41, 42, 43, 44, 45, 46, 47, 48, 49, 50, 51, 52, 53, 54, 55, 56, 57, 58, 59, 60, 61, 62, 63, 64, 65, 66, 67, 68, 69, 70, 71, 72, 73, 74, 75, 76, 77, 78, 79, 80, 81, 82, 83, 84, 85, 86, 87, 88, 89, 90, 91, 92, 93, 94, 95, 96, 97, 98, 99, 100, 101, 102, 103, 104, 105, 106, 107, 108, 109, 110, 111, 112, 113, 114, 115, 116, 117, 118, 119, 120, 121, 122, 123, 124, 125, 126, 127, 128, 129, 130, 131, 132, 133, 134, 135, 136, 137, 138, 139, 140, 141, 142, 143, 144, 145, 146, 147, 148, 149, 150, 151, 152, 153, 154, 155, 156, 157, 158, 159, 160, 161, 162, 163, 164, 165, 166, 167, 168, 169, 170, 171, 172, 173, 174, 175, 176, 177, 178, 179, 180, 181, 182, 183, 184, 185, 186, 187, 188, 189, 190, 191, 192, 193, 194, 195, 196, 197, 198, 199, 200, 201, 202, 203, 204, 205, 206, 207, 208, 209, 210, 211] (by decide +kernel) (by decide +kernel)) (goodIn_sub (fun _ h => List.mem_cons_of_mem _ (List.mem_append_left _ (List.mem_append_right _ h))) (by decide +kernel))) (goodIn_sub (fun _ h => List.mem_cons_of_mem _ (List.mem_append_right _ h)) (by decide +kernel))
set_option maxRecDepth 20000 in
theorem gL_bestCall_X6_bestCall : GoodIn wsL_bestCall (wsV RL 84 RX6 yX6_bestCall wsX6_bestCall) := goodIn_app (goodIn_of _ (by decide +kernel)) ggL_bestCall_X6_bestCall
theorem dL_bestCall_0 : decode cL_bestCall 0 = .ok (.aload_n 3, 1) := by decide +kernel
theorem dL_bestCall_1 : decode cL_bestCall 1 = .ok (.iconst 0, 1) := by decide +kernel
theorem dL_bestCall_2 : decode cL_bestCall 2 = .ok (.aload_n 0, 1) := by decide +kernel
theorem dL_bestCall_3 : decode cL_bestCall 3 = .ok (.iload_n 1, 1) := by decide +kernel
theorem dL_bestCall_4 : decode cL_bestCall 4 = .ok (.iload_n 2, 1) := by decide +kernel
theorem dL_bestCall_5 : decode cL_bestCall 5 = .ok (.invokevirtual 84, 3) := by decide +kernel
theorem dL_bestCall_8 : decode cL_bestCall 8 = .ok (.i2l, 1) := by decide +kernel
theorem dL_bestCall_9 : decode cL_bestCall 9 = .ok (.lastore, 1) := by decide +kernel
theorem dL_bestCall_10 : decode cL_bestCall 10 = .ok (.goto 11, 3) := by decide +kernel
theorem dL_bestCall_13 : decode cL_bestCall 13 = .ok (.astore 4, 2) := by decide +kernel
theorem dL_bestCall_15 : decode cL_bestCall 15 = .ok (.iconst 1, 1) := by decide +kernel
theorem dL_bestCall_16 : decode cL_bestCall 16 = .ok (.ireturn, 1) := by decide +kernel
theorem dL_bestCall_17 : decode cL_bestCall 17 = .ok (.astore 4, 2) := by decide +kernel
theorem dL_bestCall_19 : decode cL_bestCall 19 = .ok (.iconst 2, 1) := by decide +kernel
theorem dL_bestCall_20 : decode cL_bestCall 20 = .ok (.ireturn, 1) := by decide +kernel
theorem dL_bestCall_21 : decode cL_bestCall 21 = .ok (.iconst 0, 1) := by decide +kernel
theorem dL_bestCall_22 : decode cL_bestCall 22 = .ok (.ireturn, 1) := by decide +kernel
set_option maxRecDepth 20000 in
theorem ggL_endWith_X6_endWith : GoodIn wsL_endWith wsX6_endWith := goodIn_ca (goodIn_ca (goodIn_r _ [7, 8, 9, 10, 11, 6, 12, 13, 14, 15, 16, 17, 18, 19, 20, 21, 22, 23, 24, 25, 26, 27, 28, 29, 30, 31, 32, 33, 34, 35, 36, 37, 38, 39, 40, 41, 42, 43, 44, 45, 46, 47, 48, 49, 50, 51, 52, 53, 54, 55, 56, 57, 58, 59, 60, 61, 62, 63, 64, 65, 66, 67, 68, 69, 70, 71, 72, 73, 74, 75, 76, 77, 78, 79, 80, 81, 82, 83, 84, 85, 86, 87, 88, 89, 90, 91, 92, 93, 94, 95, 96, 97, 98, 99, 100, 101, 102, 103, 104, 105, 106, 107, 108] (by decide +kernel) (by decide +kernel)) (goodIn_sub (fun _ h => List.mem_cons_of_mem _ (List.mem_append_left _ (List.mem_append_right _ h))) (by decide +kernel))) (goodIn_sub (fun _ h => List.mem_cons_of_mem _ (List.mem_append_right _ h)) (by decide +kernel))
set_option maxRecDepth 20000 in
theorem gL_endWith_X6_endWith : GoodIn wsL_endWith (wsV RL 87 RX6 yX6_endWith wsX6_endWith) := goodIn_app (goodIn_of _ (by decide +kernel)) ggL_endWith_X6_endWith
theorem dL_endWith_0 : decode cL_endWith 0 = .ok (.aload_n 3, 1) := by decide +kernel
theorem dL_endWith_1 : decode cL_endWith 1 = .ok (.iconst 0, 1) := by decide +kernel
theorem dL_endWith_2 : decode cL_endWith 2 = .ok (.aload_n 0, 1) := by decide +kernel
theorem dL_endWith_3 : decode cL_endWith 3 = .ok (.iload_n 1, 1) := by decide +kernel
theorem dL_endWith_4 : decode cL_endWith 4 = .ok (.iload_n 2, 1) := by decide +kernel
theorem dL_endWith_5 : decode cL_endWith 5 = .ok (.invokevirtual 87, 3) := by decide +kernel
theorem dL_endWith_8 : decode cL_endWith 8 = .ok (.i2l, 1) := by decide +kernel
theorem dL_endWith_9 : decode cL_endWith 9 = .ok (.lastore, 1) := by decide +kernel
theorem dL_endWith_10 : decode cL_endWith 10 = .ok (.goto 11, 3) := by decide +kernel
theorem dL_endWith_13 : decode cL_endWith 13 = .ok (.astore 4, 2) := by decide +kernel
theorem dL_endWith_15 : decode cL_endWith 15 = .ok (.iconst 1, 1) := by decide +kernel
theorem dL_endWith_16 : decode cL_endWith 16 = .ok (.ireturn, 1) := by decide +kernel
theorem dL_endWith_17 : decode cL_endWith 17 = .ok (.astore 4, 2) := by decide +kernel
theorem dL_endWith_19 : decode cL_endWith 19 = .ok (.iconst 2, 1) := by decide +kernel
theorem dL_endWith_20 : decode cL_endWith 20 = .ok (.ireturn, 1) := by decide +kernel
theorem dL_endWith_21 : decode cL_endWith 21 = .ok (.iconst 0, 1) := by decide +kernel
theorem dL_endWith_22 : decode cL_endWith 22 = .ok (.ireturn, 1) := by decide +kernel
set_option maxRecDepth 20000 in
theorem ggL_clashes_X6_clashes : GoodIn wsL_clashes wsX6_clashes := goodIn_ca (goodIn_r _ [6, 7, 8, 9, 10, 5, 11, 12, 13, 14, 15, 16, 17, 18, 19, 20, 21, 22, 23, 24, 25, 26, 27, 28, 29, 30, 31, 32, 33, 34, 35, 36, 37, 38, 39, 40, 41, 42, 43, 44, 45, 46, 47, 48, 49, 50, 51, 52, 53, 54, 55, 56, 57, 58, 59, 60, 61, 62, 63, 64, 65, 66, 67, 68, 69, 70, 71, 72, 73, 74, 75, 76, 77, 78, 79, 80, 81, 82, 83, 84, 85, 86, 87, 88, 89, 90, 91, 92, 93, 94, 95, 96, 97, 98, 99, 100, 101, 102, 103, 104, 105, 106, 107, 108, 109, 110, 111] (by decide +kernel) (by decide +kernel)) (goodIn_sub (fun _ h => List.mem_cons_of_mem _ (List.mem_append_right _ h)) (by decide +kernel))
set_option maxRecDepth 20000 in
theorem gL_clashes_X6_clashes : GoodIn wsL_clashes (wsV RL 90 RX6 yX6_clashes wsX6_clashes) := goodIn_app (goodIn_of _ (by decide +kernel)) ggL_clashes_X6_clashes
theorem dL_clashes_0 : decode cL_clashes 0 = .ok (.aload_n 2, 1) := by decide +kernel
theorem dL_clashes_1 : decode cL_clashes 1 = .ok (.iconst 0, 1) := by decide +kernel
theorem dL_clashes_2 : decode cL_clashes 2 = .ok (.aload_n 0, 1) := by decide +kernel
theorem dL_clashes_3 : decode cL_clashes 3 = .ok (.iload_n 1, 1) := by decide +kernel
theorem dL_clashes_4 : decode cL_clashes 4 = .ok (.invokevirtual 90, 3) := by decide +kernel
theorem dL_clashes_7 : decode cL_clashes 7 = .ok (.i2l, 1) := by decide +kernel
theorem dL_clashes_8 : decode cL_clashes 8 = .ok (.lastore, 1) := by decide +kernel
theorem dL_clashes_9 : decode cL_clashes 9 = .ok (.goto 6, 3) := by decide +kernel
theorem dL_clashes_12 : decode cL_clashes 12 = .ok (.astore_n 3, 1) := by decide +kernel
theorem dL_clashes_13 : decode cL_clashes 13 = .ok (.iconst 1, 1) := by decide +kernel
theorem dL_clashes_14 : decode cL_clashes 14 = .ok (.ireturn, 1) := by decide +kernel
theorem dL_clashes_15 : decode cL_clashes 15 = .ok (.iconst 0, 1) := by decide +kernel
theorem dL_clashes_16 : decode cL_clashes 16 = .ok (.ireturn, 1) := by decide +kernel
set_option maxRecDepth 20000 in
theorem ggL_law_X6_init : GoodIn wsL_law wsX6_init := goodIn_r _ [9, 10, 11, 12, 13, 14, 15, 16, 17, 18, 19, 20, 21, 22, 23, 24, 25, 26, 27, 28, 29, 30, 31, 32, 33, 34, 35, 36, 37, 38, 39, 40, 41, 42, 43, 44, 45, 46, 47, 48, 49, 50, 51, 52, 53, 54, 55, 56, 57, 58, 59, 60, 61, 62, 63, 64, 65, 66, 67, 68, 69, 70, 71, 72, 73, 902, 903, 904, 905, 889, 890, 891, 906, 907, 908, 909, 910, 911, 912, 913, 914, 915, 916, 917, 918] (by decide +kernel) (by decide +kernel)
set_option maxRecDepth 20000 in
theorem gL_law_X6_init : GoodIn wsL_law (wsX6_init) := ggL_law_X6_init
set_option maxRecDepth 20000 in
theorem ggL_law_X7_init : GoodIn wsL_law wsX7_init := goodIn_r _ [76, 77, 11, 12, 43, 78, 79, 80, 81, 82, 83, 84, 5, 85, 86, 87, 88, 892, 893, 894, 895, 896, 897, 898, 899, 900, 901] (by decide +kernel) (by decide +kernel)
set_option maxRecDepth 20000 in
theorem gL_law_X7_init : GoodIn wsL_law (wsX7_init) := ggL_law_X7_init
set_option maxRecDepth 20000 in
theorem ggL_law_L_begin : GoodIn wsL_law wsL_begin := goodIn_ca (goodIn_r _ [92, 93, 94, 95, 96, 2, 97, 98, 99, 16, 20, 100, 101, 102, 15, 103, 31, 32, 33, 34, 104, 105, 106, 30, 107, 108, 109, 110, 111, 19, 112, 50, 113, 114, 115, 116, 117, 51, 55, 118, 56, 119, 120, 121, 54, 122, 62, 123, 124, 125, 126, 127, 128, 129, 130, 131, 132, 133, 134, 135, 136, 137, 138, 139, 889, 890, 891, 902, 903, 904, 905, 916, 917, 906, 907, 908, 909, 910, 911, 918] (by decide +kernel) (by decide +kernel)) (goodIn_sub (fun _ h => List.mem_append_left _ (List.mem_append_left _ (List.mem_append_right _ h))) (by decide +kernel))
set_option maxRecDepth 20000 in
theorem gL_law_L_begin : GoodIn wsL_law (va_wsS RL 97 yL_begin wsL_begin) := goodIn_app (goodIn_of _ (by decide +kernel)) ggL_law_L_begin
set_option maxRecDepth 20000 in
theorem ggL_law_X7_begin : GoodIn wsL_law wsX7_begin := goodIn_r _ [143, 144, 145, 146, 5, 147, 148, 149, 150, 151, 82, 83, 84, 85, 86, 87, 88, 79, 152, 153, 154, 155, 156, 157, 158, 159, 43, 160, 161, 162, 892, 893, 894, 895, 896, 897, 898, 899, 900, 901] (by decide +kernel) (by decide +kernel)
set_option maxRecDepth 20000 in
theorem gL_law_X7_begin : GoodIn wsL_law (wsV RL 102 RX7 yX7_begin wsX7_begin) := goodIn_app (goodIn_of _ (by decide +kernel)) ggL_law_X7_begin
set_option maxRecDepth 20000 in
theorem ggL_law_X7_thrown : GoodIn wsL_law wsX7_thrown := goodIn_r _ [166, 144, 892, 893, 894, 895, 896, 897, 898, 899, 900, 901] (by decide +kernel) (by decide +kernel)
set_option maxRecDepth 20000 in
theorem gL_law_X7_thrown : GoodIn wsL_law (wsV RL 103 RX7 yX7_thrown wsX7_thrown) := goodIn_app (goodIn_of _ (by decide +kernel)) ggL_law_X7_thrown
set_option maxRecDepth 20000 in
theorem ggL_law_L_change : GoodIn wsL_law wsL_change := goodIn_ca (goodIn_ca (goodIn_r _ [169, 93, 170, 171, 172, 173, 2, 174, 175, 176, 16, 20, 177, 178, 179, 180, 98, 99, 181, 182, 183, 15, 184, 32, 185, 186, 129, 187, 188, 189, 190, 191, 192, 193, 194, 31, 195, 196, 197, 30, 198, 108, 199, 200, 201, 202, 203, 204, 205, 206, 44, 207, 208, 209, 19, 210, 50, 114, 115, 116, 117, 51, 55, 118, 56, 113, 105, 106, 107, 119, 120, 121, 54, 122, 62, 123, 124, 125, 126, 211, 212, 213, 214, 215, 216, 217, 218, 219, 57, 220, 221, 222, 223, 224, 225, 128, 130, 131, 132, 133, 226, 227, 228, 229, 230, 231, 232, 233, 234, 33, 34, 235, 236, 237, 238, 239, 240, 241, 242, 243, 244, 245, 246, 247, 248, 249, 250, 251, 252, 253, 254, 255, 256, 257, 258, 259, 260, 261, 262, 263, 264, 889, 890, 891, 902, 903, 904, 905, 916, 917, 906, 907, 908, 909, 910, 911, 918] (by decide +kernel) (by decide +kernel)) (goodIn_sub (fun _ h => List.mem_append_left _ (List.mem_append_right _ h)) (by decide +kernel))) (goodIn_sub (fun _ h => List.mem_append_left _ (List.mem_append_left _ (List.mem_append_right _ h))) (by decide +kernel))
set_option maxRecDepth 20000 in
theorem gL_law_L_change : GoodIn wsL_law (va_wsS RL 106 yL_change wsL_change) := goodIn_app (goodIn_of _ (by decide +kernel)) ggL_law_L_change
set_option maxRecDepth 20000 in
theorem ggL_law_X7_change : GoodIn wsL_law wsX7_change := goodIn_r _ [268, 144, 87, 78, 269, 270, 271, 5, 272, 86, 145, 146, 147, 148, 149, 150, 151, 892, 893, 894, 895, 896, 897, 898, 899, 900, 901] (by decide +kernel) (by decide +kernel)
set_option maxRecDepth 20000 in
theorem gL_law_X7_change : GoodIn wsL_law (wsV RL 108 RX7 yX7_change wsX7_change) := goodIn_app (goodIn_of _ (by decide +kernel)) ggL_law_X7_change
set_option maxRecDepth 20000 in
theorem ggL_law_L_mirror : GoodIn wsL_law wsL_mirror := goodIn_ca (goodIn_r _ [275, 170, 276, 277, 278, 2, 279, 175, 176, 16, 20, 191, 192, 193, 15, 194, 31, 195, 196, 197, 30, 198, 108, 280, 281, 282, 283, 235, 213, 214, 215, 44, 199, 200, 201, 202, 203, 204, 205, 206, 207, 208, 209, 19, 210, 50, 114, 115, 116, 117, 51, 55, 118, 56, 113, 105, 106, 107, 119, 120, 121, 54, 122, 62, 123, 124, 125, 126, 211, 212, 216, 217, 218, 219, 57, 220, 221, 222, 223, 224, 182, 183, 184, 32, 225, 128, 129, 130, 131, 132, 133, 226, 227, 228, 229, 230, 231, 232, 233, 234, 33, 34, 236, 237, 238, 188, 189, 190, 239, 240, 241, 242, 243, 244, 245, 246, 247, 248, 249, 250, 251, 252, 253, 254, 255, 256, 257, 258, 259, 260, 261, 262, 263, 264, 889, 890, 891, 902, 903, 904, 905, 916, 917, 906, 907, 908, 909, 910, 911, 918] (by decide +kernel) (by decide +kernel)) (goodIn_sub (fun _ h => List.mem_append_left _ (List.mem_append_right _ h)) (by decide +kernel))
set_option maxRecDepth 20000 in
theorem gL_law_L_mirror : GoodIn wsL_law (va_wsS RL 109 yL_mirror wsL_mirror) := goodIn_app (goodIn_of _ (by decide +kernel)) ggL_law_L_mirror
set_option maxRecDepth 20000 in
theorem ggL_law_X7_mirror : GoodIn wsL_law wsX7_mirror := goodIn_r _ [287, 144, 87, 78, 148, 149, 150, 5, 151, 892, 893, 894, 895, 896, 897, 898, 899, 900, 901] (by decide +kernel) (by decide +kernel)
set_option maxRecDepth 20000 in
theorem gL_law_X7_mirror : GoodIn wsL_law (wsV RL 112 RX7 yX7_mirror wsX7_mirror) := goodIn_app (goodIn_of _ (by decide +kernel)) ggL_law_X7_mirror
set_option maxRecDepth 20000 in
theorem ggL_law_L_unchange : GoodIn wsL_law wsL_unchange := goodIn_ca (goodIn_r _ [290, 170, 291, 292, 293, 2, 294, 175, 176, 16, 20, 191, 192, 193, 15, 194, 31, 195, 196, 197, 30, 198, 108, 295, 296, 297, 298, 299, 300, 301, 302, 303, 213, 214, 215, 44, 207, 208, 209, 19, 210, 50, 114, 115, 116, 117, 51, 55, 118, 56, 113, 105, 106, 107, 119, 120, 121, 54, 122, 62, 123, 124, 125, 126, 211, 212, 216, 217, 218, 219, 57, 220, 221, 222, 223, 224, 182, 183, 184, 32, 225, 128, 129, 130, 131, 132, 133, 226, 227, 228, 229, 230, 231, 232, 233, 234, 33, 34, 235, 236, 237, 238, 188, 189, 190, 239, 240, 241, 242, 243, 244, 245, 246, 247, 248, 249, 250, 251, 252, 253, 254, 255, 256, 257, 258, 259, 260, 261, 262, 263, 264, 204, 205, 206, 889, 890, 891, 902, 903, 904, 905, 916, 917, 906, 907, 908, 909, 910, 911, 918] (by decide +kernel) (by decide +kernel)) (goodIn_sub (fun _ h => List.mem_append_left _ (List.mem_append_right _ h)) (by decide +kernel))
set_option maxRecDepth 20000 in
theorem gL_law_L_unchange : GoodIn wsL_law (va_wsS RL 113 yL_unchange wsL_unchange) := goodIn_app (goodIn_of _ (by decide +kernel)) ggL_law_L_unchange
set_option maxRecDepth 20000 in
theorem ggL_law_X7_unchange : GoodIn wsL_law wsX7_unchange := goodIn_r _ [307, 144, 87, 78, 148, 149, 150, 5, 151, 892, 893, 894, 895, 896, 897, 898, 899, 900, 901] (by decide +kernel) (by decide +kernel)
set_option maxRecDepth 20000 in
theorem gL_law_X7_unchange : GoodIn wsL_law (wsV RL 115 RX7 yX7_unchange wsX7_unchange) := goodIn_app (goodIn_of _ (by decide +kernel)) ggL_law_X7_unchange
set_option maxRecDepth 20000 in
theorem ggL_law_L_at : GoodIn wsL_law wsL_at := goodIn_ca (goodIn_r _ [310, 93, 311, 312, 313, 2, 314, 98, 99, 16, 20, 177, 178, 179, 180, 181, 182, 183, 15, 184, 32, 185, 186, 129, 187, 188, 189, 190, 315, 232, 233, 234, 33, 34, 316, 317, 318, 319, 207, 208, 209, 19, 210, 50, 114, 115, 116, 117, 51, 55, 118, 56, 113, 105, 106, 30, 107, 108, 119, 120, 121, 54, 122, 62, 123, 124, 125, 126, 211, 196, 197, 198, 212, 213, 214, 215, 44, 216, 217, 218, 219, 57, 220, 221, 222, 223, 224, 225, 128, 130, 131, 132, 133, 226, 192, 193, 194, 31, 195, 227, 228, 229, 230, 231, 235, 236, 237, 238, 239, 240, 241, 242, 243, 244, 245, 246, 247, 248, 249, 250, 251, 252, 253, 254, 255, 256, 257, 258, 259, 260, 261, 262, 263, 264, 204, 205, 206, 889, 890, 891, 902, 903, 904, 905, 906, 907, 908, 909, 910, 911, 916, 917, 918] (by decide +kernel) (by decide +kernel)) (goodIn_sub (fun _ h => List.mem_append_left _ (List.mem_append_left _ (List.mem_append_right _ h))) (by decide +kernel))
set_option maxRecDepth 20000 in
theorem gL_law_L_at : GoodIn wsL_law (va_wsS RL 116 yL_at wsL_at) := goodIn_app (goodIn_of _ (by decide +kernel)) ggL_law_L_at
set_option maxRecDepth 20000 in
theorem ggL_law_X7_at : GoodIn wsL_law wsX7_at := goodIn_r _ [323, 144, 79, 145, 146, 5, 147, 269, 270, 271, 272, 86, 148, 149, 150, 151, 892, 893, 894, 895, 896, 897, 898, 899, 900, 901] (by decide +kernel) (by decide +kernel)
set_option maxRecDepth 20000 in
theorem gL_law_X7_at : GoodIn wsL_law (wsV RL 119 RX7 yX7_at wsX7_at) := goodIn_app (goodIn_of _ (by decide +kernel)) ggL_law_X7_at
set_option maxRecDepth 20000 in
theorem ggL_law_X6_isChange : GoodIn wsL_law wsX6_isChange := goodIn_r _ [327, 16, 181, 182, 183, 15, 184, 32, 185, 186, 129, 187, 188, 189, 190, 889, 890, 891, 902, 903, 904, 905] (by decide +kernel) (by decide +kernel)
set_option maxRecDepth 20000 in
theorem gL_law_X6_isChange : GoodIn wsL_law (wsV RL 120 RX6 yX6_isChange wsX6_isChange) := goodIn_app (goodIn_of _ (by decide +kernel)) ggL_law_X6_isChange
set_option maxRecDepth 20000 in
theorem ggL_law_X7_isChange : GoodIn wsL_law wsX7_isChange := goodIn_r _ [331, 144, 269, 270, 271, 5, 272, 86, 145, 146, 147, 892, 893, 894, 895, 896, 897, 898, 899, 900, 901] (by decide +kernel) (by decide +kernel)
set_option maxRecDepth 20000 in
theorem gL_law_X7_isChange : GoodIn wsL_law (wsV RL 124 RX7 yX7_isChange wsX7_isChange) := goodIn_app (goodIn_of _ (by decide +kernel)) ggL_law_X7_isChange
set_option maxRecDepth 20000 in
theorem ggL_law_L_told : GoodIn wsL_law wsL_told := goodIn_ca (goodIn_r _ [334, 93, 335, 336, 337, 2, 338, 98, 99, 16, 20, 181, 182, 183, 15, 184, 32, 191, 192, 193, 194, 31, 195, 196, 197, 30, 198, 108, 315, 232, 233, 234, 33, 34, 339, 340, 341, 19, 342, 50, 211, 343, 344, 345, 346, 347, 128, 129, 130, 131, 132, 133, 348, 349, 350, 351, 352, 228, 229, 230, 231, 235, 213, 214, 215, 44, 353, 237, 238, 188, 189, 190, 239, 240, 241, 354, 138, 139, 889, 890, 891, 902, 903, 904, 905, 916, 917, 906, 907, 908, 909, 910, 911] (by decide +kernel) (by decide +kernel)) (goodIn_sub (fun _ h => List.mem_append_left _ (List.mem_append_left _ (List.mem_append_right _ h))) (by decide +kernel))
set_option maxRecDepth 20000 in
theorem gL_law_L_told : GoodIn wsL_law (va_wsS RL 125 yL_told wsL_told) := goodIn_app (goodIn_of _ (by decide +kernel)) ggL_law_L_told
set_option maxRecDepth 20000 in
theorem ggL_law_X7_told : GoodIn wsL_law wsX7_told := goodIn_r _ [358, 144, 145, 146, 5, 147, 359, 360, 361, 362, 86, 87, 79, 88, 363, 364, 365, 366, 367, 368, 369, 370, 156, 157, 158, 159, 43, 371, 372, 373, 374, 78, 375, 376, 377, 378, 379, 380, 381, 148, 149, 150, 151, 892, 893, 894, 895, 896, 897, 898, 899, 900, 901] (by decide +kernel) (by decide +kernel)
set_option maxRecDepth 20000 in
theorem gL_law_X7_told : GoodIn wsL_law (wsV RL 127 RX7 yX7_told wsX7_told) := goodIn_app (goodIn_of _ (by decide +kernel)) ggL_law_X7_told
set_option maxRecDepth 20000 in
theorem ggL_law_L_changeAt : GoodIn wsL_law wsL_changeAt := goodIn_ca (goodIn_r _ [384, 385, 386, 387, 388, 2, 389, 390, 391, 16, 191, 192, 193, 15, 194, 31, 195, 196, 197, 30, 198, 108, 280, 281, 282, 283, 235, 213, 214, 215, 44, 889, 890, 891, 902, 903, 904, 905, 916, 917] (by decide +kernel) (by decide +kernel)) (goodIn_sub (fun _ h => List.mem_append_right _ h) (by decide +kernel))
set_option maxRecDepth 20000 in
theorem gL_law_L_changeAt : GoodIn wsL_law (va_wsS RL 128 yL_changeAt wsL_changeAt) := goodIn_app (goodIn_of _ (by decide +kernel)) ggL_law_L_changeAt
set_option maxRecDepth 20000 in
theorem ggL_law_X7_changeAt : GoodIn wsL_law wsX7_changeAt := goodIn_r _ [395, 144, 87, 78, 145, 146, 5, 147, 148, 149, 150, 151, 892, 893, 894, 895, 896, 897, 898, 899, 900, 901] (by decide +kernel) (by decide +kernel)
set_option maxRecDepth 20000 in
theorem gL_law_X7_changeAt : GoodIn wsL_law (wsV RL 130 RX7 yX7_changeAt wsX7_changeAt) := goodIn_app (goodIn_of _ (by decide +kernel)) ggL_law_X7_changeAt
set_option maxRecDepth 20000 in
theorem ggL_law_L_next : GoodIn wsL_law wsL_next := goodIn_ca (goodIn_r _ [398, 93, 399, 400, 401, 2, 402, 16, 403, 404, 405, 406, 98, 99, 181, 182, 183, 15, 184, 32, 407, 408, 129, 409, 131, 132, 133, 177, 178, 179, 180, 185, 186, 187, 188, 189, 190, 410, 237, 238, 239, 240, 241, 411, 412, 413, 414, 134, 135, 136, 137, 138, 139, 889, 890, 891, 902, 903, 904, 905] (by decide +kernel) (by decide +kernel)) (goodIn_sub (fun _ h => List.mem_append_left _ (List.mem_append_left _ (List.mem_append_right _ h))) (by decide +kernel))
set_option maxRecDepth 20000 in
theorem gL_law_L_next : GoodIn wsL_law (va_wsS RL 131 yL_next wsL_next) := goodIn_app (goodIn_of _ (by decide +kernel)) ggL_law_L_next
set_option maxRecDepth 20000 in
theorem ggL_law_X7_next : GoodIn wsL_law wsX7_next := goodIn_r _ [418, 144, 419, 420, 421, 5, 422, 423, 424, 425, 426, 86, 43, 427, 145, 146, 147, 269, 270, 271, 272, 375, 376, 377, 378, 156, 157, 158, 159, 379, 380, 381, 160, 161, 162, 148, 149, 150, 151, 892, 893, 894, 895, 896, 897, 898, 899, 900, 901] (by decide +kernel) (by decide +kernel)
set_option maxRecDepth 20000 in
theorem gL_law_X7_next : GoodIn wsL_law (wsV RL 133 RX7 yX7_next wsX7_next) := goodIn_app (goodIn_of _ (by decide +kernel)) ggL_law_X7_next
set_option maxRecDepth 20000 in
theorem ggL_law_L_lead : GoodIn wsL_law wsL_lead := goodIn_ca (goodIn_r _ [430, 93, 431, 432, 433, 2, 434, 16, 403, 404, 405, 406, 98, 99, 181, 182, 183, 15, 184, 32, 407, 408, 129, 409, 131, 132, 133, 435, 436, 437, 438, 439, 349, 350, 351, 31, 195, 196, 197, 30, 198, 108, 352, 228, 229, 230, 231, 232, 233, 234, 33, 34, 235, 213, 214, 215, 44, 353, 237, 238, 188, 189, 190, 239, 240, 241, 411, 412, 413, 414, 134, 135, 136, 137, 138, 139, 889, 890, 891, 902, 903, 904, 905, 916, 917] (by decide +kernel) (by decide +kernel)) (goodIn_sub (fun _ h => List.mem_append_left _ (List.mem_append_left _ (List.mem_append_right _ h))) (by decide +kernel))
set_option maxRecDepth 20000 in
theorem gL_law_L_lead : GoodIn wsL_law (va_wsS RL 134 yL_lead wsL_lead) := goodIn_app (goodIn_of _ (by decide +kernel)) ggL_law_L_lead
set_option maxRecDepth 20000 in
theorem ggL_law_X7_lead : GoodIn wsL_law wsX7_lead := goodIn_r _ [443, 144, 419, 420, 421, 5, 422, 423, 424, 425, 426, 86, 43, 427, 145, 146, 147, 367, 368, 369, 370, 87, 156, 157, 158, 159, 371, 372, 373, 374, 79, 78, 375, 376, 377, 378, 379, 380, 381, 160, 161, 162, 148, 149, 150, 151, 892, 893, 894, 895, 896, 897, 898, 899, 900, 901] (by decide +kernel) (by decide +kernel)
set_option maxRecDepth 20000 in
theorem gL_law_X7_lead : GoodIn wsL_law (wsV RL 136 RX7 yX7_lead wsX7_lead) := goodIn_app (goodIn_of _ (by decide +kernel)) ggL_law_X7_lead
set_option maxRecDepth 20000 in
theorem ggL_law_L_crossed : GoodIn wsL_law wsL_crossed := goodIn_ca (goodIn_r _ [446, 93, 447, 448, 449, 2, 450, 16, 403, 404, 405, 406, 98, 99, 181, 182, 183, 15, 184, 32, 407, 408, 129, 409, 131, 132, 133, 451, 452, 453, 137, 138, 139, 889, 890, 891, 902, 903, 904, 905] (by decide +kernel) (by decide +kernel)) (goodIn_sub (fun _ h => List.mem_append_left _ (List.mem_append_left _ (List.mem_append_right _ h))) (by decide +kernel))
set_option maxRecDepth 20000 in
theorem gL_law_L_crossed : GoodIn wsL_law (va_wsS RL 137 yL_crossed wsL_crossed) := goodIn_app (goodIn_of _ (by decide +kernel)) ggL_law_L_crossed
set_option maxRecDepth 20000 in
theorem ggL_law_X7_crossed : GoodIn wsL_law wsX7_crossed := goodIn_r _ [457, 144, 419, 420, 421, 5, 422, 423, 424, 425, 426, 86, 43, 427, 145, 146, 147, 458, 459, 460, 148, 149, 150, 151, 892, 893, 894, 895, 896, 897, 898, 899, 900, 901] (by decide +kernel) (by decide +kernel)
set_option maxRecDepth 20000 in
theorem gL_law_X7_crossed : GoodIn wsL_law (wsV RL 139 RX7 yX7_crossed wsX7_crossed) := goodIn_app (goodIn_of _ (by decide +kernel)) ggL_law_X7_crossed
set_option maxRecDepth 20000 in
theorem ggL_law_L_call : GoodIn wsL_law wsL_call := goodIn_ca (goodIn_ca (goodIn_r _ [463, 93, 170, 464, 465, 466, 2, 467, 175, 176, 20, 435, 436, 437, 438, 98, 99, 339, 340, 341, 19, 342, 50, 211, 196, 197, 30, 198, 108, 468, 469, 470, 471, 264, 204, 205, 206, 44, 216, 217, 218, 219, 57, 220, 221, 222, 223, 51, 224, 182, 183, 15, 184, 32, 225, 128, 129, 130, 131, 132, 133, 212, 213, 214, 215, 226, 192, 193, 194, 31, 195, 227, 228, 229, 230, 231, 232, 233, 234, 33, 34, 235, 236, 237, 238, 188, 189, 190, 239, 240, 241, 242, 243, 244, 245, 55, 118, 56, 246, 247, 248, 249, 250, 251, 252, 253, 254, 255, 256, 257, 258, 54, 259, 62, 260, 261, 262, 263, 472, 411, 412, 413, 414, 16, 181, 134, 135, 136, 137, 138, 139, 889, 890, 891, 906, 907, 908, 909, 910, 911, 916, 917, 902, 903, 904, 905, 918] (by decide +kernel) (by decide +kernel)) (goodIn_sub (fun _ h => List.mem_append_left _ (List.mem_append_right _ h)) (by decide +kernel))) (goodIn_sub (fun _ h => List.mem_append_left _ (List.mem_append_left _ (List.mem_append_right _ h))) (by decide +kernel))
set_option maxRecDepth 20000 in
theorem gL_law_L_call : GoodIn wsL_law (va_wsS RL 140 yL_call wsL_call) := goodIn_app (goodIn_of _ (by decide +kernel)) ggL_law_L_call
set_option maxRecDepth 20000 in
theorem ggL_law_X7_call : GoodIn wsL_law wsX7_call := goodIn_r _ [476, 144, 88, 80, 145, 146, 5, 147, 148, 149, 150, 151, 477, 478, 479, 480, 481, 482, 483, 484, 156, 157, 158, 159, 86, 43, 367, 368, 369, 370, 87, 371, 372, 373, 374, 79, 78, 375, 376, 377, 378, 379, 380, 381, 160, 161, 162, 892, 893, 894, 895, 896, 897, 898, 899, 900, 901] (by decide +kernel) (by decide +kernel)
set_option maxRecDepth 20000 in
theorem gL_law_X7_call : GoodIn wsL_law (wsV RL 142 RX7 yX7_call wsX7_call) := goodIn_app (goodIn_of _ (by decide +kernel)) ggL_law_X7_call
set_option maxRecDepth 20000 in
theorem ggL_law_L_uncall : GoodIn wsL_law wsL_uncall := goodIn_ca (goodIn_r _ [487, 170, 488, 489, 490, 2, 491, 175, 176, 20, 339, 340, 341, 19, 342, 50, 211, 196, 197, 30, 198, 108, 492, 493, 494, 495, 57, 226, 192, 193, 15, 194, 31, 195, 496, 497, 498, 499, 51, 55, 118, 56, 500, 300, 301, 302, 303, 213, 214, 215, 44, 224, 182, 183, 184, 32, 246, 247, 129, 248, 249, 250, 251, 252, 253, 254, 255, 256, 257, 258, 54, 259, 62, 501, 502, 503, 504, 505, 261, 262, 263, 889, 890, 891, 906, 907, 908, 909, 910, 911, 916, 917, 902, 903, 904, 905, 918] (by decide +kernel) (by decide +kernel)) (goodIn_sub (fun _ h => List.mem_append_left _ (List.mem_append_right _ h)) (by decide +kernel))
set_option maxRecDepth 20000 in
theorem gL_law_L_uncall : GoodIn wsL_law (va_wsS RL 143 yL_uncall wsL_uncall) := goodIn_app (goodIn_of _ (by decide +kernel)) ggL_law_L_uncall
set_option maxRecDepth 20000 in
theorem ggL_law_X7_uncall : GoodIn wsL_law wsX7_uncall := goodIn_r _ [509, 144, 88, 80, 148, 149, 150, 5, 151, 892, 893, 894, 895, 896, 897, 898, 899, 900, 901] (by decide +kernel) (by decide +kernel)
set_option maxRecDepth 20000 in
theorem gL_law_X7_uncall : GoodIn wsL_law (wsV RL 145 RX7 yX7_uncall wsX7_uncall) := goodIn_app (goodIn_of _ (by decide +kernel)) ggL_law_X7_uncall
set_option maxRecDepth 20000 in
theorem ggL_law_L_callAt : GoodIn wsL_law wsL_callAt := goodIn_ca (goodIn_r _ [512, 385, 513, 514, 515, 2, 516, 20, 517, 518, 519, 520, 390, 391, 339, 340, 341, 19, 342, 50, 211, 196, 197, 30, 198, 108, 521, 522, 523, 524, 212, 213, 214, 215, 44, 889, 890, 891, 906, 907, 908, 909, 910, 911, 916, 917] (by decide +kernel) (by decide +kernel)) (goodIn_sub (fun _ h => List.mem_append_right _ h) (by decide +kernel))
set_option maxRecDepth 20000 in
theorem gL_law_L_callAt : GoodIn wsL_law (va_wsS RL 146 yL_callAt wsL_callAt) := goodIn_app (goodIn_of _ (by decide +kernel)) ggL_law_L_callAt
set_option maxRecDepth 20000 in
theorem ggL_law_X7_callAt : GoodIn wsL_law wsX7_callAt := goodIn_r _ [528, 144, 88, 80, 145, 146, 5, 147, 148, 149, 150, 151, 892, 893, 894, 895, 896, 897, 898, 899, 900, 901] (by decide +kernel) (by decide +kernel)
set_option maxRecDepth 20000 in
theorem gL_law_X7_callAt : GoodIn wsL_law (wsV RL 148 RX7 yX7_callAt wsX7_callAt) := goodIn_app (goodIn_of _ (by decide +kernel)) ggL_law_X7_callAt
set_option maxRecDepth 20000 in
theorem ggL_law_L_touch : GoodIn wsL_law wsL_touch := goodIn_ca (goodIn_r _ [531, 93, 532, 533, 534, 2, 535, 98, 99, 20, 536, 537, 538, 19, 539, 51, 211, 196, 197, 30, 198, 108, 472, 221, 222, 223, 57, 224, 182, 183, 15, 184, 32, 225, 128, 129, 130, 131, 132, 133, 212, 213, 214, 215, 44, 411, 412, 413, 414, 16, 181, 134, 135, 136, 137, 138, 139, 540, 541, 542, 543, 220, 544, 545, 546, 547, 56, 548, 549, 550, 551, 552, 553, 554, 555, 556, 557, 558, 559, 560, 561, 562, 563, 564, 565, 566, 567, 568, 569, 570, 571, 572, 118, 889, 890, 891, 906, 907, 908, 909, 910, 911, 916, 917, 902, 903, 904, 905] (by decide +kernel) (by decide +kernel)) (goodIn_sub (fun _ h => List.mem_append_left _ (List.mem_append_left _ (List.mem_append_right _ h))) (by decide +kernel))
set_option maxRecDepth 20000 in
theorem gL_law_L_touch : GoodIn wsL_law (va_wsS RL 149 yL_touch wsL_touch) := goodIn_app (goodIn_of _ (by decide +kernel)) ggL_law_L_touch
set_option maxRecDepth 20000 in
theorem ggL_law_X7_touch : GoodIn wsL_law wsX7_touch := goodIn_r _ [576, 144, 145, 146, 5, 147, 577, 578, 579, 580, 581, 582, 583, 584, 80, 88, 156, 157, 158, 159, 86, 43, 585, 586, 587, 588, 87, 79, 78, 379, 380, 381, 160, 161, 162, 477, 478, 479, 480, 481, 482, 483, 484, 367, 368, 369, 370, 371, 372, 373, 374, 375, 376, 377, 378, 152, 153, 154, 155, 589, 590, 591, 592, 593, 594, 595, 596, 597, 598, 599, 600, 601, 602, 603, 604, 605, 606, 607, 608, 609, 610, 41, 611, 612, 613, 614, 148, 149, 150, 151, 892, 893, 894, 895, 896, 897, 898, 899, 900, 901] (by decide +kernel) (by decide +kernel)
set_option maxRecDepth 20000 in
theorem gL_law_X7_touch : GoodIn wsL_law (wsV RL 151 RX7 yX7_touch wsX7_touch) := goodIn_app (goodIn_of _ (by decide +kernel)) ggL_law_X7_touch
set_option maxRecDepth 20000 in
theorem ggL_law_L_row : GoodIn wsL_law wsL_row := goodIn_ca (goodIn_r _ [617, 385, 618, 619, 620, 2, 621, 20, 622, 623, 624, 625, 390, 391, 536, 537, 538, 19, 539, 51, 211, 196, 197, 30, 198, 108, 626, 627, 628, 629, 212, 213, 214, 215, 44, 411, 412, 413, 414, 16, 181, 182, 183, 15, 184, 32, 134, 135, 129, 136, 137, 138, 139, 889, 890, 891, 906, 907, 908, 909, 910, 911, 916, 917, 902, 903, 904, 905] (by decide +kernel) (by decide +kernel)) (goodIn_sub (fun _ h => List.mem_append_right _ h) (by decide +kernel))
set_option maxRecDepth 20000 in
theorem gL_law_L_row : GoodIn wsL_law (va_wsS RL 152 yL_row wsL_row) := goodIn_app (goodIn_of _ (by decide +kernel)) ggL_law_L_row
set_option maxRecDepth 20000 in
theorem ggL_law_X7_row : GoodIn wsL_law wsX7_row := goodIn_r _ [633, 144, 581, 582, 583, 5, 584, 80, 88, 156, 157, 158, 159, 86, 43, 585, 586, 587, 588, 87, 79, 78, 379, 380, 381, 160, 161, 162, 145, 146, 147, 148, 149, 150, 151, 892, 893, 894, 895, 896, 897, 898, 899, 900, 901] (by decide +kernel) (by decide +kernel)
set_option maxRecDepth 20000 in
theorem gL_law_X7_row : GoodIn wsL_law (wsV RL 154 RX7 yX7_row wsX7_row) := goodIn_app (goodIn_of _ (by decide +kernel)) ggL_law_X7_row
set_option maxRecDepth 20000 in
theorem ggL_law_L_where : GoodIn wsL_law wsL_where := goodIn_ca (goodIn_r _ [636, 93, 637, 638, 639, 2, 640, 20, 403, 404, 405, 406, 98, 99, 16, 181, 182, 183, 15, 184, 32, 407, 408, 129, 409, 131, 132, 133, 641, 642, 643, 19, 644, 55, 57, 224, 246, 247, 248, 249, 250, 251, 252, 253, 254, 255, 256, 257, 258, 54, 259, 62, 889, 890, 891, 902, 903, 904, 905, 906, 907, 908, 909, 910, 911, 918] (by decide +kernel) (by decide +kernel)) (goodIn_sub (fun _ h => List.mem_append_left _ (List.mem_append_left _ (List.mem_append_right _ h))) (by decide +kernel))
set_option maxRecDepth 20000 in
theorem gL_law_L_where : GoodIn wsL_law (va_wsS RL 155 yL_where wsL_where) := goodIn_app (goodIn_of _ (by decide +kernel)) ggL_law_L_where
set_option maxRecDepth 20000 in
theorem ggL_law_X7_where : GoodIn wsL_law wsX7_where := goodIn_r _ [648, 144, 419, 420, 421, 5, 422, 423, 424, 425, 426, 86, 43, 427, 145, 146, 147, 148, 149, 150, 151, 581, 582, 583, 584, 80, 88, 156, 157, 158, 159, 585, 586, 587, 588, 87, 79, 78, 379, 380, 381, 160, 161, 162, 592, 593, 594, 892, 893, 894, 895, 896, 897, 898, 899, 900, 901] (by decide +kernel) (by decide +kernel)
set_option maxRecDepth 20000 in
theorem gL_law_X7_where : GoodIn wsL_law (wsV RL 157 RX7 yX7_where wsX7_where) := goodIn_app (goodIn_of _ (by decide +kernel)) ggL_law_X7_where
set_option maxRecDepth 20000 in
theorem ggL_law_L_place : GoodIn wsL_law wsL_place := goodIn_ca (goodIn_r _ [651, 385, 652, 653, 654, 2, 655, 20, 16, 656, 657, 658, 659, 390, 391, 181, 182, 183, 15, 184, 32, 622, 623, 624, 625, 536, 537, 538, 19, 539, 51, 211, 196, 197, 30, 198, 108, 626, 627, 628, 629, 212, 213, 214, 215, 44, 660, 661, 129, 662, 137, 138, 139, 889, 890, 891, 902, 903, 904, 905, 906, 907, 908, 909, 910, 911, 916, 917] (by decide +kernel) (by decide +kernel)) (goodIn_sub (fun _ h => List.mem_append_right _ h) (by decide +kernel))
set_option maxRecDepth 20000 in
theorem gL_law_L_place : GoodIn wsL_law (va_wsS RL 158 yL_place wsL_place) := goodIn_app (goodIn_of _ (by decide +kernel)) ggL_law_L_place
set_option maxRecDepth 20000 in
theorem ggL_law_X7_place : GoodIn wsL_law wsX7_place := goodIn_r _ [666, 144, 86, 581, 582, 583, 5, 584, 80, 88, 156, 157, 158, 159, 43, 585, 586, 587, 588, 87, 79, 78, 379, 380, 381, 160, 161, 162, 145, 146, 147, 667, 668, 669, 670, 148, 149, 150, 151, 892, 893, 894, 895, 896, 897, 898, 899, 900, 901] (by decide +kernel) (by decide +kernel)
set_option maxRecDepth 20000 in
theorem gL_law_X7_place : GoodIn wsL_law (wsV RL 160 RX7 yX7_place wsX7_place) := goodIn_app (goodIn_of _ (by decide +kernel)) ggL_law_X7_place
set_option maxRecDepth 20000 in
theorem ggL_law_L_longest : GoodIn wsL_law wsL_longest := goodIn_ca (goodIn_r _ [673, 385, 674, 675, 676, 2, 677, 20, 656, 657, 658, 659, 390, 391, 16, 181, 182, 183, 15, 184, 32, 678, 679, 680, 19, 681, 51, 57, 682, 40, 41, 42, 211, 196, 197, 30, 198, 108, 212, 213, 214, 215, 44, 224, 683, 661, 129, 662, 137, 138, 139, 889, 890, 891, 902, 903, 904, 905, 906, 907, 908, 909, 910, 911, 916, 917] (by decide +kernel) (by decide +kernel)) (goodIn_sub (fun _ h => List.mem_append_right _ h) (by decide +kernel))
set_option maxRecDepth 20000 in
theorem gL_law_L_longest : GoodIn wsL_law (va_wsS RL 161 yL_longest wsL_longest) := goodIn_app (goodIn_of _ (by decide +kernel)) ggL_law_L_longest
set_option maxRecDepth 20000 in
theorem ggL_law_X7_longest : GoodIn wsL_law wsX7_longest := goodIn_r _ [687, 144, 86, 145, 146, 5, 147, 581, 582, 583, 584, 80, 88, 156, 157, 158, 159, 43, 585, 586, 587, 588, 87, 79, 78, 379, 380, 381, 160, 161, 162, 688, 689, 690, 691, 692, 40, 41, 42, 667, 668, 669, 670, 148, 149, 150, 151, 892, 893, 894, 895, 896, 897, 898, 899, 900, 901] (by decide +kernel) (by decide +kernel)
set_option maxRecDepth 20000 in
theorem gL_law_X7_longest : GoodIn wsL_law (wsV RL 163 RX7 yX7_longest wsX7_longest) := goodIn_app (goodIn_of _ (by decide +kernel)) ggL_law_X7_longest
set_option maxRecDepth 20000 in
theorem ggL_law_L_music : GoodIn wsL_law wsL_music := goodIn_ca (goodIn_r _ [695, 93, 696, 697, 698, 2, 699, 16, 403, 404, 405, 406, 98, 99, 181, 182, 183, 15, 184, 32, 407, 408, 129, 409, 131, 132, 133, 700, 564, 565, 566, 567, 568, 137, 138, 139, 889, 890, 891, 902, 903, 904, 905] (by decide +kernel) (by decide +kernel)) (goodIn_sub (fun _ h => List.mem_append_left _ (List.mem_append_left _ (List.mem_append_right _ h))) (by decide +kernel))
set_option maxRecDepth 20000 in
theorem gL_law_L_music : GoodIn wsL_law (va_wsS RL 164 yL_music wsL_music) := goodIn_app (goodIn_of _ (by decide +kernel)) ggL_law_L_music
set_option maxRecDepth 20000 in
theorem ggL_law_X7_music : GoodIn wsL_law wsX7_music := goodIn_r _ [704, 144, 419, 420, 421, 5, 422, 423, 424, 425, 426, 86, 43, 427, 145, 146, 147, 603, 604, 605, 606, 607, 608, 609, 610, 41, 611, 148, 149, 150, 151, 892, 893, 894, 895, 896, 897, 898, 899, 900, 901] (by decide +kernel) (by decide +kernel)
set_option maxRecDepth 20000 in
theorem gL_law_X7_music : GoodIn wsL_law (wsV RL 166 RX7 yX7_music wsX7_music) := goodIn_app (goodIn_of _ (by decide +kernel)) ggL_law_X7_music
set_option maxRecDepth 20000 in
theorem ggL_law_L_common : GoodIn wsL_law wsL_common := goodIn_ca (goodIn_r _ [707, 385, 708, 709, 710, 2, 711, 20, 517, 518, 519, 520, 390, 391, 339, 340, 341, 19, 342, 50, 211, 196, 197, 30, 198, 108, 712, 713, 714, 715, 57, 51, 226, 192, 193, 15, 194, 31, 195, 212, 213, 214, 215, 44, 716, 717, 718, 719, 889, 890, 891, 906, 907, 908, 909, 910, 911, 916, 917, 902, 903, 904, 905] (by decide +kernel) (by decide +kernel)) (goodIn_sub (fun _ h => List.mem_append_right _ h) (by decide +kernel))
set_option maxRecDepth 20000 in
theorem gL_law_L_common : GoodIn wsL_law (va_wsS RL 167 yL_common wsL_common) := goodIn_app (goodIn_of _ (by decide +kernel)) ggL_law_L_common
set_option maxRecDepth 20000 in
theorem ggL_law_X7_common : GoodIn wsL_law wsX7_common := goodIn_r _ [723, 144, 88, 87, 145, 146, 5, 147, 148, 149, 150, 151, 581, 582, 583, 584, 80, 156, 157, 158, 159, 86, 43, 585, 586, 587, 588, 79, 78, 379, 380, 381, 160, 161, 162, 724, 725, 726, 727, 728, 729, 730, 731, 592, 593, 594, 892, 893, 894, 895, 896, 897, 898, 899, 900, 901] (by decide +kernel) (by decide +kernel)
set_option maxRecDepth 20000 in
theorem gL_law_X7_common : GoodIn wsL_law (wsV RL 169 RX7 yX7_common wsX7_common) := goodIn_app (goodIn_of _ (by decide +kernel)) ggL_law_X7_common
set_option maxRecDepth 20000 in
theorem ggL_law_X6_meanPlace : GoodIn wsL_law wsX6_meanPlace := goodIn_r _ [735, 20, 16, 536, 537, 538, 19, 539, 51, 211, 196, 197, 30, 198, 108, 181, 182, 183, 15, 184, 32, 736, 737, 738, 739, 57, 212, 213, 214, 215, 44, 224, 683, 661, 129, 662, 137, 138, 139, 889, 890, 891, 906, 907, 908, 909, 910, 911, 916, 917, 902, 903, 904, 905] (by decide +kernel) (by decide +kernel)
set_option maxRecDepth 20000 in
theorem gL_law_X6_meanPlace : GoodIn wsL_law (wsV RL 170 RX6 yX6_meanPlace wsX6_meanPlace) := goodIn_app (goodIn_of _ (by decide +kernel)) ggL_law_X6_meanPlace
set_option maxRecDepth 20000 in
theorem ggL_law_X7_meanPlace : GoodIn wsL_law wsX7_meanPlace := goodIn_r _ [743, 144, 86, 581, 582, 583, 5, 584, 80, 88, 156, 157, 158, 159, 43, 585, 586, 587, 588, 87, 79, 78, 379, 380, 381, 160, 161, 162, 667, 668, 669, 670, 892, 893, 894, 895, 896, 897, 898, 899, 900, 901] (by decide +kernel) (by decide +kernel)
set_option maxRecDepth 20000 in
theorem gL_law_X7_meanPlace : GoodIn wsL_law (wsV RL 174 RX7 yX7_meanPlace wsX7_meanPlace) := goodIn_app (goodIn_of _ (by decide +kernel)) ggL_law_X7_meanPlace
set_option maxRecDepth 20000 in
theorem ggL_law_L_good : GoodIn wsL_law wsL_good := goodIn_ca (goodIn_r _ [746, 93, 747, 748, 749, 2, 750, 24, 751, 752, 753, 754, 98, 99, 755, 756, 757, 23, 758, 68, 759, 69, 760, 105, 106, 30, 107, 108, 761, 762, 763, 71, 764, 469, 470, 19, 471, 50, 264, 204, 205, 206, 44, 216, 217, 218, 219, 57, 220, 221, 222, 223, 51, 211, 196, 197, 198, 224, 182, 183, 15, 184, 32, 225, 128, 129, 130, 131, 132, 133, 212, 213, 214, 215, 226, 192, 193, 194, 31, 195, 227, 228, 229, 230, 231, 232, 233, 234, 33, 34, 235, 236, 237, 238, 188, 189, 190, 239, 240, 241, 242, 243, 244, 245, 55, 118, 56, 246, 247, 248, 249, 250, 251, 252, 253, 254, 255, 256, 257, 258, 54, 259, 62, 260, 261, 262, 263, 765, 545, 546, 547, 766, 541, 542, 543, 767, 560, 561, 562, 563, 564, 565, 566, 567, 568, 137, 138, 139, 768, 769, 770, 771, 772, 340, 341, 342, 773, 774, 522, 523, 524, 775, 776, 493, 494, 495, 496, 497, 498, 499, 500, 300, 301, 302, 303, 501, 502, 503, 504, 505, 777, 778, 779, 780, 889, 890, 891, 912, 913, 914, 915, 916, 917, 906, 907, 908, 909, 910, 911, 902, 903, 904, 905, 918] (by decide +kernel) (by decide +kernel)) (goodIn_sub (fun _ h => List.mem_append_left _ (List.mem_append_left _ (List.mem_append_right _ h))) (by decide +kernel))
set_option maxRecDepth 20000 in
theorem gL_law_L_good : GoodIn wsL_law (va_wsS RL 175 yL_good wsL_good) := goodIn_app (goodIn_of _ (by decide +kernel)) ggL_law_L_good
set_option maxRecDepth 20000 in
theorem ggL_law_X7_good : GoodIn wsL_law wsX7_good := goodIn_r _ [784, 144, 145, 146, 5, 147, 785, 786, 787, 788, 789, 790, 791, 792, 793, 794, 43, 81, 795, 87, 367, 368, 369, 370, 156, 157, 158, 159, 86, 371, 372, 373, 374, 79, 78, 375, 376, 377, 378, 379, 380, 381, 796, 797, 798, 799, 728, 729, 730, 731, 160, 161, 162, 152, 153, 154, 155, 585, 586, 587, 588, 589, 590, 591, 592, 593, 594, 599, 600, 601, 602, 603, 604, 605, 606, 607, 608, 609, 610, 41, 611, 148, 149, 150, 151, 892, 893, 894, 895, 896, 897, 898, 899, 900, 901] (by decide +kernel) (by decide +kernel)
set_option maxRecDepth 20000 in
theorem gL_law_X7_good : GoodIn wsL_law (wsV RL 177 RX7 yX7_good wsX7_good) := goodIn_app (goodIn_of _ (by decide +kernel)) ggL_law_X7_good
set_option maxRecDepth 20000 in
theorem ggL_law_L_best : GoodIn wsL_law wsL_best := goodIn_ca (goodIn_r _ [802, 93, 803, 804, 805, 2, 806, 24, 751, 752, 753, 754, 98, 99, 755, 756, 757, 23, 758, 68, 759, 69, 760, 105, 106, 30, 107, 108, 761, 762, 763, 71, 764, 469, 470, 19, 471, 50, 264, 204, 205, 206, 44, 216, 217, 218, 219, 57, 220, 221, 222, 223, 51, 211, 196, 197, 198, 224, 182, 183, 15, 184, 32, 225, 128, 129, 130, 131, 132, 133, 212, 213, 214, 215, 226, 192, 193, 194, 31, 195, 227, 228, 229, 230, 231, 232, 233, 234, 33, 34, 235, 236, 237, 238, 188, 189, 190, 239, 240, 241, 242, 243, 244, 245, 55, 118, 56, 246, 247, 248, 249, 250, 251, 252, 253, 254, 255, 256, 257, 258, 54, 259, 62, 260, 261, 262, 263, 765, 545, 546, 547, 766, 541, 542, 543, 767, 560, 561, 562, 563, 564, 565, 566, 567, 568, 137, 138, 139, 768, 769, 770, 771, 772, 340, 341, 342, 773, 774, 522, 523, 524, 775, 776, 493, 494, 495, 496, 497, 498, 499, 500, 300, 301, 302, 303, 501, 502, 503, 504, 505, 807, 808, 809, 810, 889, 890, 891, 912, 913, 914, 915, 916, 917, 906, 907, 908, 909, 910, 911, 902, 903, 904, 905, 918] (by decide +kernel) (by decide +kernel)) (goodIn_sub (fun _ h => List.mem_append_left _ (List.mem_append_left _ (List.mem_append_right _ h))) (by decide +kernel))
set_option maxRecDepth 20000 in
theorem gL_law_L_best : GoodIn wsL_law (va_wsS RL 178 yL_best wsL_best) := goodIn_app (goodIn_of _ (by decide +kernel)) ggL_law_L_best
set_option maxRecDepth 20000 in
theorem ggL_law_X7_best : GoodIn wsL_law wsX7_best := goodIn_r _ [814, 144, 145, 146, 5, 147, 815, 816, 817, 818, 794, 790, 791, 792, 793, 789, 43, 81, 795, 87, 367, 368, 369, 370, 156, 157, 158, 159, 86, 371, 372, 373, 374, 79, 78, 375, 376, 377, 378, 379, 380, 381, 796, 797, 798, 799, 728, 729, 730, 731, 160, 161, 162, 152, 153, 154, 155, 585, 586, 587, 588, 589, 590, 591, 592, 593, 594, 599, 600, 601, 602, 603, 604, 605, 606, 607, 608, 609, 610, 41, 611, 148, 149, 150, 151, 892, 893, 894, 895, 896, 897, 898, 899, 900, 901] (by decide +kernel) (by decide +kernel)
set_option maxRecDepth 20000 in
theorem gL_law_X7_best : GoodIn wsL_law (wsV RL 180 RX7 yX7_best wsX7_best) := goodIn_app (goodIn_of _ (by decide +kernel)) ggL_law_X7_best
set_option maxRecDepth 20000 in
theorem ggL_law_L_bestCall : GoodIn wsL_law wsL_bestCall := goodIn_ca (goodIn_ca (goodIn_r _ [821, 93, 385, 822, 823, 824, 2, 825, 390, 391, 24, 751, 752, 753, 754, 98, 99, 755, 756, 757, 23, 758, 68, 759, 69, 760, 105, 106, 30, 107, 108, 761, 762, 763, 71, 764, 469, 470, 19, 471, 50, 264, 204, 205, 206, 44, 216, 217, 218, 219, 57, 220, 221, 222, 223, 51, 211, 196, 197, 198, 224, 182, 183, 15, 184, 32, 225, 128, 129, 130, 131, 132, 133, 212, 213, 214, 215, 226, 192, 193, 194, 31, 195, 227, 228, 229, 230, 231, 232, 233, 234, 33, 34, 235, 236, 237, 238, 188, 189, 190, 239, 240, 241, 242, 243, 244, 245, 55, 118, 56, 246, 247, 248, 249, 250, 251, 252, 253, 254, 255, 256, 257, 258, 54, 259, 62, 260, 261, 262, 263, 765, 545, 546, 547, 766, 541, 542, 543, 767, 560, 561, 562, 563, 564, 565, 566, 567, 568, 137, 138, 139, 768, 769, 770, 771, 772, 340, 341, 342, 773, 774, 522, 523, 524, 775, 776, 493, 494, 495, 496, 497, 498, 499, 500, 300, 301, 302, 303, 501, 502, 503, 504, 505, 826, 827, 828, 829, 830, 831, 832, 833, 834, 889, 890, 891, 912, 913, 914, 915, 916, 917, 906, 907, 908, 909, 910, 911, 902, 903, 904, 905, 918] (by decide +kernel) (by decide +kernel)) (goodIn_sub (fun _ h => List.mem_append_right _ h) (by decide +kernel))) (goodIn_sub (fun _ h => List.mem_append_left _ (List.mem_append_left _ (List.mem_append_right _ h))) (by decide +kernel))
set_option maxRecDepth 20000 in
theorem gL_law_L_bestCall : GoodIn wsL_law (va_wsS RL 181 yL_bestCall wsL_bestCall) := goodIn_app (goodIn_of _ (by decide +kernel)) ggL_law_L_bestCall
set_option maxRecDepth 20000 in
theorem ggL_law_X7_bestCall : GoodIn wsL_law wsX7_bestCall := goodIn_r _ [838, 144, 81, 145, 146, 5, 147, 148, 149, 150, 151, 790, 791, 792, 793, 789, 794, 43, 795, 87, 367, 368, 369, 370, 156, 157, 158, 159, 86, 371, 372, 373, 374, 79, 78, 375, 376, 377, 378, 379, 380, 381, 796, 797, 798, 799, 728, 729, 730, 731, 160, 161, 162, 152, 153, 154, 155, 585, 586, 587, 588, 589, 590, 591, 592, 593, 594, 599, 600, 601, 602, 603, 604, 605, 606, 607, 608, 609, 610, 41, 611, 892, 893, 894, 895, 896, 897, 898, 899, 900, 901] (by decide +kernel) (by decide +kernel)
set_option maxRecDepth 20000 in
theorem gL_law_X7_bestCall : GoodIn wsL_law (wsV RL 183 RX7 yX7_bestCall wsX7_bestCall) := goodIn_app (goodIn_of _ (by decide +kernel)) ggL_law_X7_bestCall
set_option maxRecDepth 20000 in
theorem ggL_law_L_endWith : GoodIn wsL_law wsL_endWith := goodIn_ca (goodIn_ca (goodIn_r _ [841, 385, 93, 842, 843, 844, 2, 845, 20, 517, 518, 519, 520, 390, 391, 339, 340, 341, 19, 342, 50, 211, 196, 197, 30, 198, 108, 435, 436, 437, 438, 98, 99, 846, 847, 848, 849, 57, 224, 182, 183, 15, 184, 32, 225, 128, 129, 130, 131, 132, 133, 212, 213, 214, 215, 44, 850, 349, 350, 351, 31, 195, 352, 228, 229, 230, 231, 232, 233, 234, 33, 34, 235, 353, 237, 238, 188, 189, 190, 239, 240, 241, 411, 412, 413, 414, 16, 181, 134, 135, 136, 137, 138, 139, 889, 890, 891, 906, 907, 908, 909, 910, 911, 916, 917, 902, 903, 904, 905] (by decide +kernel) (by decide +kernel)) (goodIn_sub (fun _ h => List.mem_append_right _ h) (by decide +kernel))) (goodIn_sub (fun _ h => List.mem_append_left _ (List.mem_append_left _ (List.mem_append_right _ h))) (by decide +kernel))
set_option maxRecDepth 20000 in
theorem gL_law_L_endWith : GoodIn wsL_law (va_wsS RL 184 yL_endWith wsL_endWith) := goodIn_app (goodIn_of _ (by decide +kernel)) ggL_law_L_endWith
set_option maxRecDepth 20000 in
theorem ggL_law_X7_endWith : GoodIn wsL_law wsX7_endWith := goodIn_r _ [854, 144, 88, 80, 145, 146, 5, 147, 148, 149, 150, 151, 477, 478, 479, 480, 481, 482, 483, 484, 156, 157, 158, 159, 86, 43, 367, 368, 369, 370, 87, 371, 372, 373, 374, 79, 78, 375, 376, 377, 378, 379, 380, 381, 160, 161, 162, 892, 893, 894, 895, 896, 897, 898, 899, 900, 901] (by decide +kernel) (by decide +kernel)
set_option maxRecDepth 20000 in
theorem gL_law_X7_endWith : GoodIn wsL_law (wsV RL 186 RX7 yX7_endWith wsX7_endWith) := goodIn_app (goodIn_of _ (by decide +kernel)) ggL_law_X7_endWith
set_option maxRecDepth 20000 in
theorem ggL_law_L_clashes : GoodIn wsL_law wsL_clashes := goodIn_ca (goodIn_r _ [857, 93, 858, 859, 860, 2, 861, 20, 435, 436, 437, 438, 98, 99, 862, 863, 864, 19, 865, 57, 220, 221, 222, 223, 51, 211, 196, 197, 30, 198, 108, 224, 182, 183, 15, 184, 32, 225, 128, 129, 130, 131, 132, 133, 212, 213, 214, 215, 44, 226, 192, 193, 194, 31, 195, 227, 228, 229, 230, 231, 232, 233, 234, 33, 34, 235, 236, 237, 238, 188, 189, 190, 239, 240, 241, 866, 642, 643, 644, 55, 246, 247, 248, 249, 250, 251, 252, 253, 254, 255, 256, 257, 258, 54, 259, 62, 889, 890, 891, 906, 907, 908, 909, 910, 911, 916, 917, 902, 903, 904, 905, 918] (by decide +kernel) (by decide +kernel)) (goodIn_sub (fun _ h => List.mem_append_left _ (List.mem_append_left _ (List.mem_append_right _ h))) (by decide +kernel))
set_option maxRecDepth 20000 in
theorem gL_law_L_clashes : GoodIn wsL_law (va_wsS RL 187 yL_clashes wsL_clashes) := goodIn_app (goodIn_of _ (by decide +kernel)) ggL_law_L_clashes
set_option maxRecDepth 20000 in
theorem ggL_law_X7_clashes : GoodIn wsL_law wsX7_clashes := goodIn_r _ [870, 144, 145, 146, 5, 147, 871, 872, 873, 874, 43, 581, 582, 583, 584, 80, 88, 156, 157, 158, 159, 86, 585, 586, 587, 588, 87, 79, 78, 379, 380, 381, 160, 161, 162, 477, 478, 479, 480, 481, 482, 483, 484, 367, 368, 369, 370, 371, 372, 373, 374, 375, 376, 377, 378, 592, 593, 594, 148, 149, 150, 151, 892, 893, 894, 895, 896, 897, 898, 899, 900, 901] (by decide +kernel) (by decide +kernel)
set_option maxRecDepth 20000 in
theorem gL_law_X7_clashes : GoodIn wsL_law (wsV RL 189 RX7 yX7_clashes wsX7_clashes) := goodIn_app (goodIn_of _ (by decide +kernel)) ggL_law_X7_clashes
set_option maxRecDepth 20000 in
theorem ggL_law_X6_digest : GoodIn wsL_law wsX6_digest := goodIn_ca (goodIn_r _ [878, 879, 880, 16, 20, 24, 881, 336, 337, 2, 338, 98, 99, 181, 182, 183, 15, 184, 32, 191, 192, 193, 194, 31, 195, 196, 197, 30, 198, 108, 315, 232, 233, 234, 33, 34, 339, 340, 341, 19, 342, 50, 211, 343, 344, 345, 346, 347, 128, 129, 130, 131, 132, 133, 348, 349, 350, 351, 352, 228, 229, 230, 231, 235, 213, 214, 215, 44, 353, 237, 238, 188, 189, 190, 239, 240, 241, 354, 138, 139, 280, 281, 282, 283, 521, 522, 523, 524, 212, 882, 533, 534, 535, 536, 537, 538, 539, 51, 472, 221, 222, 223, 57, 224, 225, 411, 412, 413, 414, 134, 135, 136, 137, 540, 541, 542, 543, 220, 544, 545, 546, 547, 56, 548, 549, 550, 551, 552, 553, 554, 555, 556, 557, 558, 559, 560, 561, 562, 563, 564, 565, 566, 567, 568, 569, 570, 571, 572, 118, 626, 627, 628, 629, 678, 679, 680, 681, 682, 40, 41, 42, 683, 661, 662, 862, 863, 864, 865, 226, 227, 236, 866, 642, 643, 644, 55, 246, 247, 248, 249, 250, 251, 252, 253, 254, 255, 256, 257, 258, 54, 259, 62, 755, 756, 757, 23, 758, 68, 759, 69, 760, 105, 106, 107, 761, 762, 763, 71, 764, 469, 470, 471, 264, 204, 205, 206, 216, 217, 218, 219, 242, 243, 244, 245, 260, 261, 262, 263, 765, 766, 767, 768, 769, 770, 771, 772, 773, 774, 775, 776, 493, 494, 495, 496, 497, 498, 499, 500, 300, 301, 302, 303, 501, 502, 503, 504, 505, 777, 778, 779, 780, 807, 808, 809, 810, 889, 890, 891, 902, 903, 904, 905, 916, 917, 906, 907, 908, 909, 910, 911, 918, 912, 913, 914, 915] (by decide +kernel) (by decide +kernel)) (goodIn_sub (fun _ h => List.mem_append_left _ (List.mem_append_left _ (List.mem_append_right _ h))) (by decide +kernel))
set_option maxRecDepth 20000 in
theorem gL_law_X6_digest : GoodIn wsL_law (wsV RL 190 RX6 yX6_digest wsX6_digest) := goodIn_app (goodIn_of _ (by decide +kernel)) ggL_law_X6_digest
set_option maxRecDepth 20000 in
theorem ggL_law_X7_digest : GoodIn wsL_law wsX7_digest := goodIn_r _ [886, 144, 887, 888, 87, 78, 88, 80, 86, 359, 360, 361, 5, 362, 79, 363, 364, 365, 366, 367, 368, 369, 370, 156, 157, 158, 159, 43, 371, 372, 373, 374, 375, 376, 377, 378, 379, 380, 381, 577, 578, 579, 580, 581, 582, 583, 584, 585, 586, 587, 588, 160, 161, 162, 477, 478, 479, 480, 481, 482, 483, 484, 152, 153, 154, 155, 589, 590, 591, 592, 593, 594, 595, 596, 597, 598, 599, 600, 601, 602, 603, 604, 605, 606, 607, 608, 609, 610, 41, 611, 612, 613, 614, 688, 689, 690, 691, 692, 40, 42, 667, 668, 669, 670, 871, 872, 873, 874, 785, 786, 787, 788, 789, 790, 791, 792, 793, 794, 81, 795, 796, 797, 798, 799, 728, 729, 730, 731, 815, 816, 817, 818, 892, 893, 894, 895, 896, 897, 898, 899, 900, 901] (by decide +kernel) (by decide +kernel)
