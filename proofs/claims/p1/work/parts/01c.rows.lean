theorem dX0_init_0 : decode cX0_init 0 = .ok (.aload_n 0, 1) := by decide +kernel
theorem dX0_init_1 : decode cX0_init 1 = .ok (.invokespecial 3, 3) := by decide +kernel
theorem dX0_init_4 : decode cX0_init 4 = .ok (.aload_n 0, 1) := by decide +kernel
theorem dX0_init_5 : decode cX0_init 5 = .ok (.sipush 5040, 3) := by decide +kernel
theorem dX0_init_8 : decode cX0_init 8 = .ok (.newarray .int, 2) := by decide +kernel
theorem dX0_init_10 : decode cX0_init 10 = .ok (.putfield 9, 3) := by decide +kernel
theorem dX0_init_13 : decode cX0_init 13 = .ok (.return_, 1) := by decide +kernel
theorem dX0_firstNumber_0 : decode cX0_firstNumber 0 = .ok (.iload_n 1, 1) := by decide +kernel
theorem dX0_firstNumber_1 : decode cX0_firstNumber 1 = .ok (.ifCond .lt 23, 3) := by decide +kernel
theorem dX0_firstNumber_4 : decode cX0_firstNumber 4 = .ok (.iload_n 1, 1) := by decide +kernel
theorem dX0_firstNumber_5 : decode cX0_firstNumber 5 = .ok (.aload_n 0, 1) := by decide +kernel
theorem dX0_firstNumber_6 : decode cX0_firstNumber 6 = .ok (.getfield 9, 3) := by decide +kernel
theorem dX0_firstNumber_9 : decode cX0_firstNumber 9 = .ok (.arraylength, 1) := by decide +kernel
theorem dX0_firstNumber_10 : decode cX0_firstNumber 10 = .ok (.if_icmp .ge 14, 3) := by decide +kernel
theorem dX0_firstNumber_13 : decode cX0_firstNumber 13 = .ok (.aload_n 0, 1) := by decide +kernel
theorem dX0_firstNumber_14 : decode cX0_firstNumber 14 = .ok (.getfield 9, 3) := by decide +kernel
theorem dX0_firstNumber_17 : decode cX0_firstNumber 17 = .ok (.iload_n 1, 1) := by decide +kernel
theorem dX0_firstNumber_18 : decode cX0_firstNumber 18 = .ok (.iaload, 1) := by decide +kernel
theorem dX0_firstNumber_19 : decode cX0_firstNumber 19 = .ok (.iconst 1, 1) := by decide +kernel
theorem dX0_firstNumber_20 : decode cX0_firstNumber 20 = .ok (.isub, 1) := by decide +kernel
theorem dX0_firstNumber_21 : decode cX0_firstNumber 21 = .ok (.goto 4, 3) := by decide +kernel
theorem dX0_firstNumber_24 : decode cX0_firstNumber 24 = .ok (.iconst (-1), 1) := by decide +kernel
theorem dX0_firstNumber_25 : decode cX0_firstNumber 25 = .ok (.ireturn, 1) := by decide +kernel
theorem dX0_note_0 : decode cX0_note 0 = .ok (.iload_n 1, 1) := by decide +kernel
theorem dX0_note_1 : decode cX0_note 1 = .ok (.ifCond .lt 21, 3) := by decide +kernel
theorem dX0_note_4 : decode cX0_note 4 = .ok (.iload_n 1, 1) := by decide +kernel
theorem dX0_note_5 : decode cX0_note 5 = .ok (.aload_n 0, 1) := by decide +kernel
theorem dX0_note_6 : decode cX0_note 6 = .ok (.getfield 9, 3) := by decide +kernel
theorem dX0_note_9 : decode cX0_note 9 = .ok (.arraylength, 1) := by decide +kernel
theorem dX0_note_10 : decode cX0_note 10 = .ok (.if_icmp .ge 12, 3) := by decide +kernel
theorem dX0_note_13 : decode cX0_note 13 = .ok (.aload_n 0, 1) := by decide +kernel
theorem dX0_note_14 : decode cX0_note 14 = .ok (.getfield 9, 3) := by decide +kernel
theorem dX0_note_17 : decode cX0_note 17 = .ok (.iload_n 1, 1) := by decide +kernel
theorem dX0_note_18 : decode cX0_note 18 = .ok (.iload_n 2, 1) := by decide +kernel
theorem dX0_note_19 : decode cX0_note 19 = .ok (.iconst 1, 1) := by decide +kernel
theorem dX0_note_20 : decode cX0_note 20 = .ok (.iadd, 1) := by decide +kernel
theorem dX0_note_21 : decode cX0_note 21 = .ok (.iastore, 1) := by decide +kernel
theorem dX0_note_22 : decode cX0_note 22 = .ok (.return_, 1) := by decide +kernel
set_option maxRecDepth 20000 in
theorem ggX0_strike_X0_note : GoodIn wsX0_strike wsX0_note := goodIn_r _ [5, 6, 7] (by decide +kernel) (by decide +kernel)
set_option maxRecDepth 20000 in
theorem gX0_strike_X0_note : GoodIn wsX0_strike (wsV RX0 15 RX0 yX0_note wsX0_note) := goodIn_app (goodIn_of _ (by decide +kernel)) ggX0_strike_X0_note
theorem dX0_strike_0 : decode cX0_strike 0 = .ok (.aload_n 0, 1) := by decide +kernel
theorem dX0_strike_1 : decode cX0_strike 1 = .ok (.iload_n 1, 1) := by decide +kernel
theorem dX0_strike_2 : decode cX0_strike 2 = .ok (.iconst (-1), 1) := by decide +kernel
theorem dX0_strike_3 : decode cX0_strike 3 = .ok (.invokevirtual 15, 3) := by decide +kernel
theorem dX0_strike_6 : decode cX0_strike 6 = .ok (.return_, 1) := by decide +kernel
set_option maxRecDepth 20000 in
theorem ggX0_clear_J7_fill_53178 : GoodIn wsX0_clear wsJ7_fill_53178 := goodIn_r _ [5] (by decide +kernel) (by decide +kernel)
set_option maxRecDepth 20000 in
theorem gX0_clear_J7_fill_53178 : GoodIn wsX0_clear (va_wsS RX0 19 yJ7_fill_53178 wsJ7_fill_53178) := goodIn_app (goodIn_of _ (by decide +kernel)) ggX0_clear_J7_fill_53178
theorem dX0_clear_0 : decode cX0_clear 0 = .ok (.aload_n 0, 1) := by decide +kernel
theorem dX0_clear_1 : decode cX0_clear 1 = .ok (.getfield 9, 3) := by decide +kernel
theorem dX0_clear_4 : decode cX0_clear 4 = .ok (.iconst 0, 1) := by decide +kernel
theorem dX0_clear_5 : decode cX0_clear 5 = .ok (.invokestatic 19, 3) := by decide +kernel
theorem dX0_clear_8 : decode cX0_clear 8 = .ok (.return_, 1) := by decide +kernel
theorem dX1_init_0 : decode cX1_init 0 = .ok (.aload_n 0, 1) := by decide +kernel
theorem dX1_init_1 : decode cX1_init 1 = .ok (.invokespecial 3, 3) := by decide +kernel
theorem dX1_init_4 : decode cX1_init 4 = .ok (.aload_n 0, 1) := by decide +kernel
theorem dX1_init_5 : decode cX1_init 5 = .ok (.iload_n 1, 1) := by decide +kernel
theorem dX1_init_6 : decode cX1_init 6 = .ok (.iconst 0, 1) := by decide +kernel
theorem dX1_init_7 : decode cX1_init 7 = .ok (.invokestatic 9, 3) := by decide +kernel
theorem dX1_init_10 : decode cX1_init 10 = .ok (.newarray .int, 2) := by decide +kernel
theorem dX1_init_12 : decode cX1_init 12 = .ok (.putfield 15, 3) := by decide +kernel
theorem dX1_init_15 : decode cX1_init 15 = .ok (.return_, 1) := by decide +kernel
theorem dX1_size_0 : decode cX1_size 0 = .ok (.aload_n 0, 1) := by decide +kernel
theorem dX1_size_1 : decode cX1_size 1 = .ok (.getfield 21, 3) := by decide +kernel
theorem dX1_size_4 : decode cX1_size 4 = .ok (.ireturn, 1) := by decide +kernel
theorem dX1_get_0 : decode cX1_get 0 = .ok (.iload_n 1, 1) := by decide +kernel
theorem dX1_get_1 : decode cX1_get 1 = .ok (.ifCond .lt 29, 3) := by decide +kernel
theorem dX1_get_4 : decode cX1_get 4 = .ok (.iload_n 1, 1) := by decide +kernel
theorem dX1_get_5 : decode cX1_get 5 = .ok (.aload_n 0, 1) := by decide +kernel
theorem dX1_get_6 : decode cX1_get 6 = .ok (.getfield 21, 3) := by decide +kernel
theorem dX1_get_9 : decode cX1_get 9 = .ok (.if_icmp .ge 21, 3) := by decide +kernel
theorem dX1_get_12 : decode cX1_get 12 = .ok (.iload_n 1, 1) := by decide +kernel
theorem dX1_get_13 : decode cX1_get 13 = .ok (.aload_n 0, 1) := by decide +kernel
theorem dX1_get_14 : decode cX1_get 14 = .ok (.getfield 15, 3) := by decide +kernel
theorem dX1_get_17 : decode cX1_get 17 = .ok (.arraylength, 1) := by decide +kernel
theorem dX1_get_18 : decode cX1_get 18 = .ok (.if_icmp .ge 12, 3) := by decide +kernel
theorem dX1_get_21 : decode cX1_get 21 = .ok (.aload_n 0, 1) := by decide +kernel
theorem dX1_get_22 : decode cX1_get 22 = .ok (.getfield 15, 3) := by decide +kernel
theorem dX1_get_25 : decode cX1_get 25 = .ok (.iload_n 1, 1) := by decide +kernel
theorem dX1_get_26 : decode cX1_get 26 = .ok (.iaload, 1) := by decide +kernel
theorem dX1_get_27 : decode cX1_get 27 = .ok (.goto 4, 3) := by decide +kernel
theorem dX1_get_30 : decode cX1_get 30 = .ok (.iconst (-1), 1) := by decide +kernel
theorem dX1_get_31 : decode cX1_get 31 = .ok (.ireturn, 1) := by decide +kernel
theorem dX1_add_0 : decode cX1_add 0 = .ok (.aload_n 0, 1) := by decide +kernel
theorem dX1_add_1 : decode cX1_add 1 = .ok (.getfield 21, 3) := by decide +kernel
theorem dX1_add_4 : decode cX1_add 4 = .ok (.ifCond .lt 35, 3) := by decide +kernel
theorem dX1_add_7 : decode cX1_add 7 = .ok (.aload_n 0, 1) := by decide +kernel
theorem dX1_add_8 : decode cX1_add 8 = .ok (.getfield 21, 3) := by decide +kernel
theorem dX1_add_11 : decode cX1_add 11 = .ok (.aload_n 0, 1) := by decide +kernel
theorem dX1_add_12 : decode cX1_add 12 = .ok (.getfield 15, 3) := by decide +kernel
theorem dX1_add_15 : decode cX1_add 15 = .ok (.arraylength, 1) := by decide +kernel
theorem dX1_add_16 : decode cX1_add 16 = .ok (.if_icmp .ge 23, 3) := by decide +kernel
theorem dX1_add_19 : decode cX1_add 19 = .ok (.aload_n 0, 1) := by decide +kernel
theorem dX1_add_20 : decode cX1_add 20 = .ok (.getfield 15, 3) := by decide +kernel
theorem dX1_add_23 : decode cX1_add 23 = .ok (.aload_n 0, 1) := by decide +kernel
theorem dX1_add_24 : decode cX1_add 24 = .ok (.getfield 21, 3) := by decide +kernel
theorem dX1_add_27 : decode cX1_add 27 = .ok (.iload_n 1, 1) := by decide +kernel
theorem dX1_add_28 : decode cX1_add 28 = .ok (.iastore, 1) := by decide +kernel
theorem dX1_add_29 : decode cX1_add 29 = .ok (.aload_n 0, 1) := by decide +kernel
theorem dX1_add_30 : decode cX1_add 30 = .ok (.dup, 1) := by decide +kernel
theorem dX1_add_31 : decode cX1_add 31 = .ok (.getfield 21, 3) := by decide +kernel
theorem dX1_add_34 : decode cX1_add 34 = .ok (.iconst 1, 1) := by decide +kernel
theorem dX1_add_35 : decode cX1_add 35 = .ok (.iadd, 1) := by decide +kernel
theorem dX1_add_36 : decode cX1_add 36 = .ok (.putfield 21, 3) := by decide +kernel
theorem dX1_add_39 : decode cX1_add 39 = .ok (.return_, 1) := by decide +kernel
set_option maxRecDepth 20000 in
theorem ggX1_removeLast_X1_get : GoodIn wsX1_removeLast wsX1_get := goodIn_r _ [6, 1, 7, 8, 9] (by decide +kernel) (by decide +kernel)
set_option maxRecDepth 20000 in
theorem gX1_removeLast_X1_get : GoodIn wsX1_removeLast (wsV RX1 25 RX1 yX1_get wsX1_get) := goodIn_app (goodIn_of _ (by decide +kernel)) ggX1_removeLast_X1_get
theorem dX1_removeLast_0 : decode cX1_removeLast 0 = .ok (.aload_n 0, 1) := by decide +kernel
theorem dX1_removeLast_1 : decode cX1_removeLast 1 = .ok (.aload_n 0, 1) := by decide +kernel
theorem dX1_removeLast_2 : decode cX1_removeLast 2 = .ok (.getfield 21, 3) := by decide +kernel
theorem dX1_removeLast_5 : decode cX1_removeLast 5 = .ok (.iconst 1, 1) := by decide +kernel
theorem dX1_removeLast_6 : decode cX1_removeLast 6 = .ok (.isub, 1) := by decide +kernel
theorem dX1_removeLast_7 : decode cX1_removeLast 7 = .ok (.invokevirtual 25, 3) := by decide +kernel
theorem dX1_removeLast_10 : decode cX1_removeLast 10 = .ok (.istore_n 1, 1) := by decide +kernel
theorem dX1_removeLast_11 : decode cX1_removeLast 11 = .ok (.aload_n 0, 1) := by decide +kernel
theorem dX1_removeLast_12 : decode cX1_removeLast 12 = .ok (.getfield 21, 3) := by decide +kernel
theorem dX1_removeLast_15 : decode cX1_removeLast 15 = .ok (.ifCond .le 13, 3) := by decide +kernel
theorem dX1_removeLast_18 : decode cX1_removeLast 18 = .ok (.aload_n 0, 1) := by decide +kernel
theorem dX1_removeLast_19 : decode cX1_removeLast 19 = .ok (.dup, 1) := by decide +kernel
theorem dX1_removeLast_20 : decode cX1_removeLast 20 = .ok (.getfield 21, 3) := by decide +kernel
theorem dX1_removeLast_23 : decode cX1_removeLast 23 = .ok (.iconst 1, 1) := by decide +kernel
theorem dX1_removeLast_24 : decode cX1_removeLast 24 = .ok (.isub, 1) := by decide +kernel
theorem dX1_removeLast_25 : decode cX1_removeLast 25 = .ok (.putfield 21, 3) := by decide +kernel
theorem dX1_removeLast_28 : decode cX1_removeLast 28 = .ok (.iload_n 1, 1) := by decide +kernel
theorem dX1_removeLast_29 : decode cX1_removeLast 29 = .ok (.ireturn, 1) := by decide +kernel
theorem dX1_clear_0 : decode cX1_clear 0 = .ok (.aload_n 0, 1) := by decide +kernel
theorem dX1_clear_1 : decode cX1_clear 1 = .ok (.iconst 0, 1) := by decide +kernel
theorem dX1_clear_2 : decode cX1_clear 2 = .ok (.putfield 21, 3) := by decide +kernel
theorem dX1_clear_5 : decode cX1_clear 5 = .ok (.return_, 1) := by decide +kernel
set_option maxRecDepth 20000 in
theorem ggX2_init_X1_init : GoodIn wsX2_init wsX1_init := goodIn_r _ [13, 14, 2, 3, 15, 16, 17, 18, 19, 20, 21, 22] (by decide +kernel) (by decide +kernel)
set_option maxRecDepth 20000 in
theorem gX2_init_X1_init : GoodIn wsX2_init (wsX1_init) := ggX2_init_X1_init
theorem dX2_init_0 : decode cX2_init 0 = .ok (.aload_n 0, 1) := by decide +kernel
theorem dX2_init_1 : decode cX2_init 1 = .ok (.invokespecial 3, 3) := by decide +kernel
theorem dX2_init_4 : decode cX2_init 4 = .ok (.aload_n 0, 1) := by decide +kernel
theorem dX2_init_5 : decode cX2_init 5 = .ok (.new 9, 3) := by decide +kernel
theorem dX2_init_8 : decode cX2_init 8 = .ok (.dup, 1) := by decide +kernel
theorem dX2_init_9 : decode cX2_init 9 = .ok (.bipush 14, 2) := by decide +kernel
theorem dX2_init_11 : decode cX2_init 11 = .ok (.invokespecial 11, 3) := by decide +kernel
theorem dX2_init_14 : decode cX2_init 14 = .ok (.putfield 14, 3) := by decide +kernel
theorem dX2_init_17 : decode cX2_init 17 = .ok (.aload_n 0, 1) := by decide +kernel
theorem dX2_init_18 : decode cX2_init 18 = .ok (.iconst 5, 1) := by decide +kernel
theorem dX2_init_19 : decode cX2_init 19 = .ok (.putfield 20, 3) := by decide +kernel
theorem dX2_init_22 : decode cX2_init 22 = .ok (.aload_n 0, 1) := by decide +kernel
theorem dX2_init_23 : decode cX2_init 23 = .ok (.bipush 31, 2) := by decide +kernel
theorem dX2_init_25 : decode cX2_init 25 = .ok (.putfield 24, 3) := by decide +kernel
theorem dX2_init_28 : decode cX2_init 28 = .ok (.aload_n 0, 1) := by decide +kernel
theorem dX2_init_29 : decode cX2_init 29 = .ok (.bipush 31, 2) := by decide +kernel
theorem dX2_init_31 : decode cX2_init 31 = .ok (.putfield 27, 3) := by decide +kernel
theorem dX2_init_34 : decode cX2_init 34 = .ok (.return_, 1) := by decide +kernel
set_option maxRecDepth 20000 in
theorem ggX2_restart_X1_clear : GoodIn wsX2_restart wsX1_clear := goodIn_r _ [9, 10, 15, 16] (by decide +kernel) (by decide +kernel)
set_option maxRecDepth 20000 in
theorem gX2_restart_X1_clear : GoodIn wsX2_restart (wsV RX2 30 RX1 yX1_clear wsX1_clear) := goodIn_app (goodIn_of _ (by decide +kernel)) ggX2_restart_X1_clear
theorem dX2_restart_0 : decode cX2_restart 0 = .ok (.aload_n 0, 1) := by decide +kernel
theorem dX2_restart_1 : decode cX2_restart 1 = .ok (.getfield 14, 3) := by decide +kernel
theorem dX2_restart_4 : decode cX2_restart 4 = .ok (.invokevirtual 30, 3) := by decide +kernel
theorem dX2_restart_7 : decode cX2_restart 7 = .ok (.aload_n 0, 1) := by decide +kernel
theorem dX2_restart_8 : decode cX2_restart 8 = .ok (.iload_n 1, 1) := by decide +kernel
theorem dX2_restart_9 : decode cX2_restart 9 = .ok (.putfield 20, 3) := by decide +kernel
theorem dX2_restart_12 : decode cX2_restart 12 = .ok (.aload_n 0, 1) := by decide +kernel
theorem dX2_restart_13 : decode cX2_restart 13 = .ok (.iconst 1, 1) := by decide +kernel
theorem dX2_restart_14 : decode cX2_restart 14 = .ok (.iload_n 1, 1) := by decide +kernel
theorem dX2_restart_15 : decode cX2_restart 15 = .ok (.ishl, 1) := by decide +kernel
theorem dX2_restart_16 : decode cX2_restart 16 = .ok (.iconst 1, 1) := by decide +kernel
theorem dX2_restart_17 : decode cX2_restart 17 = .ok (.isub, 1) := by decide +kernel
theorem dX2_restart_18 : decode cX2_restart 18 = .ok (.putfield 24, 3) := by decide +kernel
theorem dX2_restart_21 : decode cX2_restart 21 = .ok (.aload_n 0, 1) := by decide +kernel
theorem dX2_restart_22 : decode cX2_restart 22 = .ok (.iconst 1, 1) := by decide +kernel
theorem dX2_restart_23 : decode cX2_restart 23 = .ok (.iload_n 1, 1) := by decide +kernel
theorem dX2_restart_24 : decode cX2_restart 24 = .ok (.ishl, 1) := by decide +kernel
theorem dX2_restart_25 : decode cX2_restart 25 = .ok (.iconst 1, 1) := by decide +kernel
theorem dX2_restart_26 : decode cX2_restart 26 = .ok (.isub, 1) := by decide +kernel
theorem dX2_restart_27 : decode cX2_restart 27 = .ok (.putfield 27, 3) := by decide +kernel
theorem dX2_restart_30 : decode cX2_restart 30 = .ok (.return_, 1) := by decide +kernel
theorem dX2_bells_0 : decode cX2_bells 0 = .ok (.aload_n 0, 1) := by decide +kernel
theorem dX2_bells_1 : decode cX2_bells 1 = .ok (.getfield 20, 3) := by decide +kernel
theorem dX2_bells_4 : decode cX2_bells 4 = .ok (.ireturn, 1) := by decide +kernel
set_option maxRecDepth 20000 in
theorem ggX2_length_X1_size : GoodIn wsX2_length wsX1_size := goodIn_r _ [6, 7, 12, 13] (by decide +kernel) (by decide +kernel)
set_option maxRecDepth 20000 in
theorem gX2_length_X1_size : GoodIn wsX2_length (wsV RX2 33 RX1 yX1_size wsX1_size) := goodIn_app (goodIn_of _ (by decide +kernel)) ggX2_length_X1_size
theorem dX2_length_0 : decode cX2_length 0 = .ok (.aload_n 0, 1) := by decide +kernel
theorem dX2_length_1 : decode cX2_length 1 = .ok (.getfield 14, 3) := by decide +kernel
theorem dX2_length_4 : decode cX2_length 4 = .ok (.invokevirtual 33, 3) := by decide +kernel
theorem dX2_length_7 : decode cX2_length 7 = .ok (.ireturn, 1) := by decide +kernel
set_option maxRecDepth 20000 in
theorem ggX2_add_X1_add : GoodIn wsX2_add wsX1_add := goodIn_r _ [6, 7, 8, 13, 14] (by decide +kernel) (by decide +kernel)
set_option maxRecDepth 20000 in
theorem gX2_add_X1_add : GoodIn wsX2_add (wsV RX2 37 RX1 yX1_add wsX1_add) := goodIn_app (goodIn_of _ (by decide +kernel)) ggX2_add_X1_add
theorem dX2_add_0 : decode cX2_add 0 = .ok (.aload_n 0, 1) := by decide +kernel
theorem dX2_add_1 : decode cX2_add 1 = .ok (.getfield 14, 3) := by decide +kernel
theorem dX2_add_4 : decode cX2_add 4 = .ok (.iload_n 1, 1) := by decide +kernel
theorem dX2_add_5 : decode cX2_add 5 = .ok (.invokevirtual 37, 3) := by decide +kernel
theorem dX2_add_8 : decode cX2_add 8 = .ok (.return_, 1) := by decide +kernel
set_option maxRecDepth 20000 in
theorem ggX2_removeLast_X1_removeLast : GoodIn wsX2_removeLast wsX1_removeLast := goodIn_r _ [6, 7, 8, 9, 10, 5, 11, 12, 17, 18] (by decide +kernel) (by decide +kernel)
set_option maxRecDepth 20000 in
theorem gX2_removeLast_X1_removeLast : GoodIn wsX2_removeLast (wsV RX2 40 RX1 yX1_removeLast wsX1_removeLast) := goodIn_app (goodIn_of _ (by decide +kernel)) ggX2_removeLast_X1_removeLast
theorem dX2_removeLast_0 : decode cX2_removeLast 0 = .ok (.aload_n 0, 1) := by decide +kernel
theorem dX2_removeLast_1 : decode cX2_removeLast 1 = .ok (.getfield 14, 3) := by decide +kernel
theorem dX2_removeLast_4 : decode cX2_removeLast 4 = .ok (.invokevirtual 40, 3) := by decide +kernel
theorem dX2_removeLast_7 : decode cX2_removeLast 7 = .ok (.ireturn, 1) := by decide +kernel
set_option maxRecDepth 20000 in
theorem ggX2_plainChange_X1_get : GoodIn wsX2_plainChange wsX1_get := goodIn_r _ [6, 7, 8, 13, 14] (by decide +kernel) (by decide +kernel)
set_option maxRecDepth 20000 in
theorem gX2_plainChange_X1_get : GoodIn wsX2_plainChange (wsV RX2 43 RX1 yX1_get wsX1_get) := goodIn_app (goodIn_of _ (by decide +kernel)) ggX2_plainChange_X1_get
theorem dX2_plainChange_0 : decode cX2_plainChange 0 = .ok (.aload_n 0, 1) := by decide +kernel
theorem dX2_plainChange_1 : decode cX2_plainChange 1 = .ok (.getfield 14, 3) := by decide +kernel
theorem dX2_plainChange_4 : decode cX2_plainChange 4 = .ok (.iload_n 1, 1) := by decide +kernel
theorem dX2_plainChange_5 : decode cX2_plainChange 5 = .ok (.invokevirtual 43, 3) := by decide +kernel
theorem dX2_plainChange_8 : decode cX2_plainChange 8 = .ok (.ireturn, 1) := by decide +kernel
theorem dX2_insteadOfLast_0 : decode cX2_insteadOfLast 0 = .ok (.iload_n 1, 1) := by decide +kernel
theorem dX2_insteadOfLast_1 : decode cX2_insteadOfLast 1 = .ok (.iconst 1, 1) := by decide +kernel
theorem dX2_insteadOfLast_2 : decode cX2_insteadOfLast 2 = .ok (.if_icmp .ne 10, 3) := by decide +kernel
theorem dX2_insteadOfLast_5 : decode cX2_insteadOfLast 5 = .ok (.aload_n 0, 1) := by decide +kernel
theorem dX2_insteadOfLast_6 : decode cX2_insteadOfLast 6 = .ok (.getfield 24, 3) := by decide +kernel
theorem dX2_insteadOfLast_9 : decode cX2_insteadOfLast 9 = .ok (.goto 7, 3) := by decide +kernel
theorem dX2_insteadOfLast_12 : decode cX2_insteadOfLast 12 = .ok (.aload_n 0, 1) := by decide +kernel
theorem dX2_insteadOfLast_13 : decode cX2_insteadOfLast 13 = .ok (.getfield 27, 3) := by decide +kernel
theorem dX2_insteadOfLast_16 : decode cX2_insteadOfLast 16 = .ok (.ireturn, 1) := by decide +kernel
theorem dX2_setInsteadOfLast_0 : decode cX2_setInsteadOfLast 0 = .ok (.iload_n 1, 1) := by decide +kernel
theorem dX2_setInsteadOfLast_1 : decode cX2_setInsteadOfLast 1 = .ok (.iconst 1, 1) := by decide +kernel
theorem dX2_setInsteadOfLast_2 : decode cX2_setInsteadOfLast 2 = .ok (.if_icmp .ne 11, 3) := by decide +kernel
theorem dX2_setInsteadOfLast_5 : decode cX2_setInsteadOfLast 5 = .ok (.aload_n 0, 1) := by decide +kernel
theorem dX2_setInsteadOfLast_6 : decode cX2_setInsteadOfLast 6 = .ok (.iload_n 2, 1) := by decide +kernel
theorem dX2_setInsteadOfLast_7 : decode cX2_setInsteadOfLast 7 = .ok (.putfield 24, 3) := by decide +kernel
theorem dX2_setInsteadOfLast_10 : decode cX2_setInsteadOfLast 10 = .ok (.goto 8, 3) := by decide +kernel
theorem dX2_setInsteadOfLast_13 : decode cX2_setInsteadOfLast 13 = .ok (.aload_n 0, 1) := by decide +kernel
theorem dX2_setInsteadOfLast_14 : decode cX2_setInsteadOfLast 14 = .ok (.iload_n 2, 1) := by decide +kernel
theorem dX2_setInsteadOfLast_15 : decode cX2_setInsteadOfLast 15 = .ok (.putfield 27, 3) := by decide +kernel
theorem dX2_setInsteadOfLast_18 : decode cX2_setInsteadOfLast 18 = .ok (.return_, 1) := by decide +kernel
set_option maxRecDepth 20000 in
theorem ggX2_rungChange_X1_size : GoodIn wsX2_rungChange wsX1_size := goodIn_r _ [6, 7, 24, 25] (by decide +kernel) (by decide +kernel)
set_option maxRecDepth 20000 in
theorem gX2_rungChange_X1_size : GoodIn wsX2_rungChange (wsV RX2 33 RX1 yX1_size wsX1_size) := goodIn_app (goodIn_of _ (by decide +kernel)) ggX2_rungChange_X1_size
set_option maxRecDepth 20000 in
theorem ggX2_rungChange_X2_insteadOfLast : GoodIn wsX2_rungChange wsX2_insteadOfLast := goodIn_r _ [12, 13, 14, 20, 21, 22, 23] (by decide +kernel) (by decide +kernel)
set_option maxRecDepth 20000 in
theorem gX2_rungChange_X2_insteadOfLast : GoodIn wsX2_rungChange (wsV RX2 47 RX2 yX2_insteadOfLast wsX2_insteadOfLast) := goodIn_app (goodIn_of _ (by decide +kernel)) ggX2_rungChange_X2_insteadOfLast
set_option maxRecDepth 20000 in
theorem ggX2_rungChange_X1_get : GoodIn wsX2_rungChange wsX1_get := goodIn_r _ [18, 7, 19, 24, 25] (by decide +kernel) (by decide +kernel)
set_option maxRecDepth 20000 in
theorem gX2_rungChange_X1_get : GoodIn wsX2_rungChange (wsV RX2 43 RX1 yX1_get wsX1_get) := goodIn_app (goodIn_of _ (by decide +kernel)) ggX2_rungChange_X1_get
theorem dX2_rungChange_0 : decode cX2_rungChange 0 = .ok (.iload_n 2, 1) := by decide +kernel
theorem dX2_rungChange_1 : decode cX2_rungChange 1 = .ok (.ifCond .eq 24, 3) := by decide +kernel
theorem dX2_rungChange_4 : decode cX2_rungChange 4 = .ok (.iload_n 1, 1) := by decide +kernel
theorem dX2_rungChange_5 : decode cX2_rungChange 5 = .ok (.aload_n 0, 1) := by decide +kernel
theorem dX2_rungChange_6 : decode cX2_rungChange 6 = .ok (.getfield 14, 3) := by decide +kernel
theorem dX2_rungChange_9 : decode cX2_rungChange 9 = .ok (.invokevirtual 33, 3) := by decide +kernel
theorem dX2_rungChange_12 : decode cX2_rungChange 12 = .ok (.iconst 1, 1) := by decide +kernel
theorem dX2_rungChange_13 : decode cX2_rungChange 13 = .ok (.isub, 1) := by decide +kernel
theorem dX2_rungChange_14 : decode cX2_rungChange 14 = .ok (.if_icmp .ne 11, 3) := by decide +kernel
theorem dX2_rungChange_17 : decode cX2_rungChange 17 = .ok (.aload_n 0, 1) := by decide +kernel
theorem dX2_rungChange_18 : decode cX2_rungChange 18 = .ok (.iload_n 2, 1) := by decide +kernel
theorem dX2_rungChange_19 : decode cX2_rungChange 19 = .ok (.invokevirtual 47, 3) := by decide +kernel
theorem dX2_rungChange_22 : decode cX2_rungChange 22 = .ok (.goto 11, 3) := by decide +kernel
theorem dX2_rungChange_25 : decode cX2_rungChange 25 = .ok (.aload_n 0, 1) := by decide +kernel
theorem dX2_rungChange_26 : decode cX2_rungChange 26 = .ok (.getfield 14, 3) := by decide +kernel
theorem dX2_rungChange_29 : decode cX2_rungChange 29 = .ok (.iload_n 1, 1) := by decide +kernel
theorem dX2_rungChange_30 : decode cX2_rungChange 30 = .ok (.invokevirtual 43, 3) := by decide +kernel
theorem dX2_rungChange_33 : decode cX2_rungChange 33 = .ok (.ireturn, 1) := by decide +kernel
set_option maxRecDepth 20000 in
theorem ggX2_leadEnd_X1_size : GoodIn wsX2_leadEnd wsX1_size := goodIn_r _ [7, 8, 39, 40] (by decide +kernel) (by decide +kernel)
set_option maxRecDepth 20000 in
theorem gX2_leadEnd_X1_size : GoodIn wsX2_leadEnd (wsV RX2 33 RX1 yX1_size wsX1_size) := goodIn_app (goodIn_of _ (by decide +kernel)) ggX2_leadEnd_X1_size
set_option maxRecDepth 20000 in
theorem ggX2_leadEnd_X2_rungChange : GoodIn wsX2_leadEnd wsX2_rungChange := goodIn_r _ [13, 1, 3, 4, 5, 6, 7, 8, 14, 15, 16, 12, 17, 18, 19, 20, 21, 22, 23, 24, 35, 36, 37, 38, 39, 40] (by decide +kernel) (by decide +kernel)
set_option maxRecDepth 20000 in
theorem gX2_leadEnd_X2_rungChange : GoodIn wsX2_leadEnd (wsV RX2 50 RX2 yX2_rungChange wsX2_rungChange) := goodIn_app (goodIn_of _ (by decide +kernel)) ggX2_leadEnd_X2_rungChange
set_option maxRecDepth 20000 in
theorem ggX2_leadEnd_X3_changed : GoodIn wsX2_leadEnd wsX3_changed := goodIn_r _ [28, 29, 30, 27, 31, 32, 33, 34] (by decide +kernel) (by decide +kernel)
set_option maxRecDepth 20000 in
theorem gX2_leadEnd_X3_changed : GoodIn wsX2_leadEnd (va_wsS RX2 54 yX3_changed wsX3_changed) := goodIn_app (goodIn_of _ (by decide +kernel)) ggX2_leadEnd_X3_changed
theorem dX2_leadEnd_0 : decode cX2_leadEnd 0 = .ok (.iload_n 1, 1) := by decide +kernel
theorem dX2_leadEnd_1 : decode cX2_leadEnd 1 = .ok (.istore_n 3, 1) := by decide +kernel
theorem dX2_leadEnd_2 : decode cX2_leadEnd 2 = .ok (.iconst 0, 1) := by decide +kernel
theorem dX2_leadEnd_3 : decode cX2_leadEnd 3 = .ok (.istore 4, 2) := by decide +kernel
theorem dX2_leadEnd_5 : decode cX2_leadEnd 5 = .ok (.iload 4, 2) := by decide +kernel
theorem dX2_leadEnd_7 : decode cX2_leadEnd 7 = .ok (.aload_n 0, 1) := by decide +kernel
theorem dX2_leadEnd_8 : decode cX2_leadEnd 8 = .ok (.getfield 14, 3) := by decide +kernel
theorem dX2_leadEnd_11 : decode cX2_leadEnd 11 = .ok (.invokevirtual 33, 3) := by decide +kernel
theorem dX2_leadEnd_14 : decode cX2_leadEnd 14 = .ok (.if_icmp .ge 25, 3) := by decide +kernel
theorem dX2_leadEnd_17 : decode cX2_leadEnd 17 = .ok (.iload_n 3, 1) := by decide +kernel
theorem dX2_leadEnd_18 : decode cX2_leadEnd 18 = .ok (.aload_n 0, 1) := by decide +kernel
theorem dX2_leadEnd_19 : decode cX2_leadEnd 19 = .ok (.iload 4, 2) := by decide +kernel
theorem dX2_leadEnd_21 : decode cX2_leadEnd 21 = .ok (.iload_n 2, 1) := by decide +kernel
theorem dX2_leadEnd_22 : decode cX2_leadEnd 22 = .ok (.invokevirtual 50, 3) := by decide +kernel
theorem dX2_leadEnd_25 : decode cX2_leadEnd 25 = .ok (.aload_n 0, 1) := by decide +kernel
theorem dX2_leadEnd_26 : decode cX2_leadEnd 26 = .ok (.getfield 20, 3) := by decide +kernel
theorem dX2_leadEnd_29 : decode cX2_leadEnd 29 = .ok (.invokestatic 54, 3) := by decide +kernel
theorem dX2_leadEnd_32 : decode cX2_leadEnd 32 = .ok (.istore_n 3, 1) := by decide +kernel
theorem dX2_leadEnd_33 : decode cX2_leadEnd 33 = .ok (.iinc 4 1, 3) := by decide +kernel
theorem dX2_leadEnd_36 : decode cX2_leadEnd 36 = .ok (.goto (-31), 3) := by decide +kernel
theorem dX2_leadEnd_39 : decode cX2_leadEnd 39 = .ok (.iload_n 3, 1) := by decide +kernel
theorem dX2_leadEnd_40 : decode cX2_leadEnd 40 = .ok (.ireturn, 1) := by decide +kernel
set_option maxRecDepth 20000 in
theorem ggX2_huntBells_X3_rounds : GoodIn wsX2_huntBells wsX3_rounds := goodIn_r _ [5, 6, 7, 4, 8] (by decide +kernel) (by decide +kernel)
set_option maxRecDepth 20000 in
theorem gX2_huntBells_X3_rounds : GoodIn wsX2_huntBells (va_wsS RX2 60 yX3_rounds wsX3_rounds) := goodIn_app (goodIn_of _ (by decide +kernel)) ggX2_huntBells_X3_rounds
set_option maxRecDepth 20000 in
theorem ggX2_huntBells_X2_leadEnd : GoodIn wsX2_huntBells wsX2_leadEnd := goodIn_r _ [13, 14, 1, 15, 16, 17, 18, 19, 20, 21, 22, 23, 12, 24, 25, 26, 27, 28, 29, 30, 31, 32, 33, 34, 35, 36, 37, 4, 38, 39, 40, 41, 42, 43, 44, 48, 49, 50, 51, 52, 53] (by decide +kernel) (by decide +kernel)
set_option maxRecDepth 20000 in
theorem gX2_huntBells_X2_leadEnd : GoodIn wsX2_huntBells (wsV RX2 63 RX2 yX2_leadEnd wsX2_leadEnd) := goodIn_app (goodIn_of _ (by decide +kernel)) ggX2_huntBells_X2_leadEnd
set_option maxRecDepth 20000 in
theorem ggX2_huntBells_X3_bellAt : GoodIn wsX2_huntBells wsX3_bellAt := goodIn_r _ [47] (by decide +kernel) (by decide +kernel)
set_option maxRecDepth 20000 in
theorem gX2_huntBells_X3_bellAt : GoodIn wsX2_huntBells (va_wsS RX2 66 yX3_bellAt wsX3_bellAt) := goodIn_app (goodIn_of _ (by decide +kernel)) ggX2_huntBells_X3_bellAt
theorem dX2_huntBells_0 : decode cX2_huntBells 0 = .ok (.aload_n 0, 1) := by decide +kernel
theorem dX2_huntBells_1 : decode cX2_huntBells 1 = .ok (.getfield 20, 3) := by decide +kernel
theorem dX2_huntBells_4 : decode cX2_huntBells 4 = .ok (.invokestatic 60, 3) := by decide +kernel
theorem dX2_huntBells_7 : decode cX2_huntBells 7 = .ok (.istore_n 1, 1) := by decide +kernel
theorem dX2_huntBells_8 : decode cX2_huntBells 8 = .ok (.aload_n 0, 1) := by decide +kernel
theorem dX2_huntBells_9 : decode cX2_huntBells 9 = .ok (.iload_n 1, 1) := by decide +kernel
theorem dX2_huntBells_10 : decode cX2_huntBells 10 = .ok (.iconst 0, 1) := by decide +kernel
theorem dX2_huntBells_11 : decode cX2_huntBells 11 = .ok (.invokevirtual 63, 3) := by decide +kernel
theorem dX2_huntBells_14 : decode cX2_huntBells 14 = .ok (.istore_n 2, 1) := by decide +kernel
theorem dX2_huntBells_15 : decode cX2_huntBells 15 = .ok (.aload_n 0, 1) := by decide +kernel
theorem dX2_huntBells_16 : decode cX2_huntBells 16 = .ok (.iload_n 1, 1) := by decide +kernel
theorem dX2_huntBells_17 : decode cX2_huntBells 17 = .ok (.iconst 1, 1) := by decide +kernel
theorem dX2_huntBells_18 : decode cX2_huntBells 18 = .ok (.invokevirtual 63, 3) := by decide +kernel
theorem dX2_huntBells_21 : decode cX2_huntBells 21 = .ok (.istore_n 3, 1) := by decide +kernel
theorem dX2_huntBells_22 : decode cX2_huntBells 22 = .ok (.aload_n 0, 1) := by decide +kernel
theorem dX2_huntBells_23 : decode cX2_huntBells 23 = .ok (.iload_n 1, 1) := by decide +kernel
theorem dX2_huntBells_24 : decode cX2_huntBells 24 = .ok (.iconst 2, 1) := by decide +kernel
theorem dX2_huntBells_25 : decode cX2_huntBells 25 = .ok (.invokevirtual 63, 3) := by decide +kernel
theorem dX2_huntBells_28 : decode cX2_huntBells 28 = .ok (.istore 4, 2) := by decide +kernel
theorem dX2_huntBells_30 : decode cX2_huntBells 30 = .ok (.iconst 0, 1) := by decide +kernel
theorem dX2_huntBells_31 : decode cX2_huntBells 31 = .ok (.istore 5, 2) := by decide +kernel
theorem dX2_huntBells_33 : decode cX2_huntBells 33 = .ok (.iconst 1, 1) := by decide +kernel
theorem dX2_huntBells_34 : decode cX2_huntBells 34 = .ok (.istore 6, 2) := by decide +kernel
theorem dX2_huntBells_36 : decode cX2_huntBells 36 = .ok (.iload 6, 2) := by decide +kernel
theorem dX2_huntBells_38 : decode cX2_huntBells 38 = .ok (.aload_n 0, 1) := by decide +kernel
theorem dX2_huntBells_39 : decode cX2_huntBells 39 = .ok (.getfield 20, 3) := by decide +kernel
theorem dX2_huntBells_42 : decode cX2_huntBells 42 = .ok (.if_icmp .gt 46, 3) := by decide +kernel
theorem dX2_huntBells_45 : decode cX2_huntBells 45 = .ok (.iload_n 2, 1) := by decide +kernel
theorem dX2_huntBells_46 : decode cX2_huntBells 46 = .ok (.iload 6, 2) := by decide +kernel
theorem dX2_huntBells_48 : decode cX2_huntBells 48 = .ok (.invokestatic 66, 3) := by decide +kernel
theorem dX2_huntBells_51 : decode cX2_huntBells 51 = .ok (.iload 6, 2) := by decide +kernel
theorem dX2_huntBells_53 : decode cX2_huntBells 53 = .ok (.if_icmp .ne 29, 3) := by decide +kernel
theorem dX2_huntBells_56 : decode cX2_huntBells 56 = .ok (.iload_n 3, 1) := by decide +kernel
theorem dX2_huntBells_57 : decode cX2_huntBells 57 = .ok (.iload 6, 2) := by decide +kernel
theorem dX2_huntBells_59 : decode cX2_huntBells 59 = .ok (.invokestatic 66, 3) := by decide +kernel
theorem dX2_huntBells_62 : decode cX2_huntBells 62 = .ok (.iload 6, 2) := by decide +kernel
theorem dX2_huntBells_64 : decode cX2_huntBells 64 = .ok (.if_icmp .ne 18, 3) := by decide +kernel
theorem dX2_huntBells_67 : decode cX2_huntBells 67 = .ok (.iload 4, 2) := by decide +kernel
theorem dX2_huntBells_69 : decode cX2_huntBells 69 = .ok (.iload 6, 2) := by decide +kernel
theorem dX2_huntBells_71 : decode cX2_huntBells 71 = .ok (.invokestatic 66, 3) := by decide +kernel
theorem dX2_huntBells_74 : decode cX2_huntBells 74 = .ok (.iload 6, 2) := by decide +kernel
theorem dX2_huntBells_76 : decode cX2_huntBells 76 = .ok (.if_icmp .ne 6, 3) := by decide +kernel
theorem dX2_huntBells_79 : decode cX2_huntBells 79 = .ok (.iinc 5 1, 3) := by decide +kernel
theorem dX2_huntBells_82 : decode cX2_huntBells 82 = .ok (.iinc 6 1, 3) := by decide +kernel
theorem dX2_huntBells_85 : decode cX2_huntBells 85 = .ok (.goto (-49), 3) := by decide +kernel
theorem dX2_huntBells_88 : decode cX2_huntBells 88 = .ok (.iload 5, 2) := by decide +kernel
theorem dX2_huntBells_90 : decode cX2_huntBells 90 = .ok (.ireturn, 1) := by decide +kernel
set_option maxRecDepth 20000 in
theorem ggX3_rounds_X3_shift : GoodIn wsX3_rounds wsX3_shift := goodIn_r _ [4] (by decide +kernel) (by decide +kernel)
set_option maxRecDepth 20000 in
theorem gX3_rounds_X3_shift : GoodIn wsX3_rounds (va_wsS RX3 9 yX3_shift wsX3_shift) := goodIn_app (goodIn_of _ (by decide +kernel)) ggX3_rounds_X3_shift
theorem dX3_rounds_0 : decode cX3_rounds 0 = .ok (.iconst 0, 1) := by decide +kernel
theorem dX3_rounds_1 : decode cX3_rounds 1 = .ok (.istore_n 1, 1) := by decide +kernel
theorem dX3_rounds_2 : decode cX3_rounds 2 = .ok (.iconst 1, 1) := by decide +kernel
theorem dX3_rounds_3 : decode cX3_rounds 3 = .ok (.istore_n 2, 1) := by decide +kernel
theorem dX3_rounds_4 : decode cX3_rounds 4 = .ok (.iload_n 2, 1) := by decide +kernel
theorem dX3_rounds_5 : decode cX3_rounds 5 = .ok (.iload_n 0, 1) := by decide +kernel
theorem dX3_rounds_6 : decode cX3_rounds 6 = .ok (.if_icmp .gt 18, 3) := by decide +kernel
theorem dX3_rounds_9 : decode cX3_rounds 9 = .ok (.iload_n 1, 1) := by decide +kernel
theorem dX3_rounds_10 : decode cX3_rounds 10 = .ok (.iload_n 2, 1) := by decide +kernel
theorem dX3_rounds_11 : decode cX3_rounds 11 = .ok (.iload_n 2, 1) := by decide +kernel
theorem dX3_rounds_12 : decode cX3_rounds 12 = .ok (.invokestatic 9, 3) := by decide +kernel
theorem dX3_rounds_15 : decode cX3_rounds 15 = .ok (.ishl, 1) := by decide +kernel
theorem dX3_rounds_16 : decode cX3_rounds 16 = .ok (.ior, 1) := by decide +kernel
theorem dX3_rounds_17 : decode cX3_rounds 17 = .ok (.istore_n 1, 1) := by decide +kernel
theorem dX3_rounds_18 : decode cX3_rounds 18 = .ok (.iinc 2 1, 3) := by decide +kernel
theorem dX3_rounds_21 : decode cX3_rounds 21 = .ok (.goto (-17), 3) := by decide +kernel
theorem dX3_rounds_24 : decode cX3_rounds 24 = .ok (.iload_n 1, 1) := by decide +kernel
theorem dX3_rounds_25 : decode cX3_rounds 25 = .ok (.ireturn, 1) := by decide +kernel
theorem dX3_shift_0 : decode cX3_shift 0 = .ok (.iconst 4, 1) := by decide +kernel
theorem dX3_shift_1 : decode cX3_shift 1 = .ok (.iload_n 0, 1) := by decide +kernel
theorem dX3_shift_2 : decode cX3_shift 2 = .ok (.iconst 1, 1) := by decide +kernel
theorem dX3_shift_3 : decode cX3_shift 3 = .ok (.isub, 1) := by decide +kernel
theorem dX3_shift_4 : decode cX3_shift 4 = .ok (.imul, 1) := by decide +kernel
theorem dX3_shift_5 : decode cX3_shift 5 = .ok (.ireturn, 1) := by decide +kernel
theorem dX3_bellAt_0 : decode cX3_bellAt 0 = .ok (.iload_n 0, 1) := by decide +kernel
theorem dX3_bellAt_1 : decode cX3_bellAt 1 = .ok (.iconst 4, 1) := by decide +kernel
theorem dX3_bellAt_2 : decode cX3_bellAt 2 = .ok (.iload_n 1, 1) := by decide +kernel
theorem dX3_bellAt_3 : decode cX3_bellAt 3 = .ok (.iconst 1, 1) := by decide +kernel
theorem dX3_bellAt_4 : decode cX3_bellAt 4 = .ok (.isub, 1) := by decide +kernel
theorem dX3_bellAt_5 : decode cX3_bellAt 5 = .ok (.imul, 1) := by decide +kernel
theorem dX3_bellAt_6 : decode cX3_bellAt 6 = .ok (.ishr, 1) := by decide +kernel
theorem dX3_bellAt_7 : decode cX3_bellAt 7 = .ok (.bipush 15, 2) := by decide +kernel
theorem dX3_bellAt_9 : decode cX3_bellAt 9 = .ok (.iand, 1) := by decide +kernel
theorem dX3_bellAt_10 : decode cX3_bellAt 10 = .ok (.ireturn, 1) := by decide +kernel
set_option maxRecDepth 20000 in
theorem ggX3_placeOf_X3_bellAt : GoodIn wsX3_placeOf wsX3_bellAt := goodIn_r _ [4] (by decide +kernel) (by decide +kernel)
set_option maxRecDepth 20000 in
theorem gX3_placeOf_X3_bellAt : GoodIn wsX3_placeOf (va_wsS RX3 15 yX3_bellAt wsX3_bellAt) := goodIn_app (goodIn_of _ (by decide +kernel)) ggX3_placeOf_X3_bellAt
theorem dX3_placeOf_0 : decode cX3_placeOf 0 = .ok (.iconst 1, 1) := by decide +kernel
theorem dX3_placeOf_1 : decode cX3_placeOf 1 = .ok (.istore_n 3, 1) := by decide +kernel
theorem dX3_placeOf_2 : decode cX3_placeOf 2 = .ok (.iload_n 3, 1) := by decide +kernel
theorem dX3_placeOf_3 : decode cX3_placeOf 3 = .ok (.iload_n 2, 1) := by decide +kernel
theorem dX3_placeOf_4 : decode cX3_placeOf 4 = .ok (.if_icmp .gt 20, 3) := by decide +kernel
theorem dX3_placeOf_7 : decode cX3_placeOf 7 = .ok (.iload_n 0, 1) := by decide +kernel
theorem dX3_placeOf_8 : decode cX3_placeOf 8 = .ok (.iload_n 3, 1) := by decide +kernel
theorem dX3_placeOf_9 : decode cX3_placeOf 9 = .ok (.invokestatic 15, 3) := by decide +kernel
theorem dX3_placeOf_12 : decode cX3_placeOf 12 = .ok (.iload_n 1, 1) := by decide +kernel
theorem dX3_placeOf_13 : decode cX3_placeOf 13 = .ok (.if_icmp .ne 5, 3) := by decide +kernel
theorem dX3_placeOf_16 : decode cX3_placeOf 16 = .ok (.iload_n 3, 1) := by decide +kernel
theorem dX3_placeOf_17 : decode cX3_placeOf 17 = .ok (.ireturn, 1) := by decide +kernel
theorem dX3_placeOf_18 : decode cX3_placeOf 18 = .ok (.iinc 3 1, 3) := by decide +kernel
theorem dX3_placeOf_21 : decode cX3_placeOf 21 = .ok (.goto (-19), 3) := by decide +kernel
theorem dX3_placeOf_24 : decode cX3_placeOf 24 = .ok (.iconst (-1), 1) := by decide +kernel
theorem dX3_placeOf_25 : decode cX3_placeOf 25 = .ok (.ireturn, 1) := by decide +kernel
set_option maxRecDepth 20000 in
theorem ggX3_packed_X3_shift : GoodIn wsX3_packed wsX3_shift := goodIn_r _ [4] (by decide +kernel) (by decide +kernel)
set_option maxRecDepth 20000 in
theorem gX3_packed_X3_shift : GoodIn wsX3_packed (va_wsS RX3 9 yX3_shift wsX3_shift) := goodIn_app (goodIn_of _ (by decide +kernel)) ggX3_packed_X3_shift
theorem dX3_packed_0 : decode cX3_packed 0 = .ok (.iconst 0, 1) := by decide +kernel
theorem dX3_packed_1 : decode cX3_packed 1 = .ok (.istore_n 2, 1) := by decide +kernel
theorem dX3_packed_2 : decode cX3_packed 2 = .ok (.iconst 0, 1) := by decide +kernel
theorem dX3_packed_3 : decode cX3_packed 3 = .ok (.istore_n 3, 1) := by decide +kernel
theorem dX3_packed_4 : decode cX3_packed 4 = .ok (.iload_n 0, 1) := by decide +kernel
theorem dX3_packed_5 : decode cX3_packed 5 = .ok (.istore 4, 2) := by decide +kernel
theorem dX3_packed_7 : decode cX3_packed 7 = .ok (.iload_n 1, 1) := by decide +kernel
theorem dX3_packed_8 : decode cX3_packed 8 = .ok (.istore 5, 2) := by decide +kernel
theorem dX3_packed_10 : decode cX3_packed 10 = .ok (.iload 5, 2) := by decide +kernel
theorem dX3_packed_12 : decode cX3_packed 12 = .ok (.iconst 1, 1) := by decide +kernel
theorem dX3_packed_13 : decode cX3_packed 13 = .ok (.if_icmp .lt 64, 3) := by decide +kernel
theorem dX3_packed_16 : decode cX3_packed 16 = .ok (.iload 4, 2) := by decide +kernel
theorem dX3_packed_18 : decode cX3_packed 18 = .ok (.bipush 10, 2) := by decide +kernel
theorem dX3_packed_20 : decode cX3_packed 20 = .ok (.irem, 1) := by decide +kernel
theorem dX3_packed_21 : decode cX3_packed 21 = .ok (.istore 6, 2) := by decide +kernel
theorem dX3_packed_23 : decode cX3_packed 23 = .ok (.iload 4, 2) := by decide +kernel
theorem dX3_packed_25 : decode cX3_packed 25 = .ok (.bipush 10, 2) := by decide +kernel
theorem dX3_packed_27 : decode cX3_packed 27 = .ok (.idiv, 1) := by decide +kernel
theorem dX3_packed_28 : decode cX3_packed 28 = .ok (.istore 4, 2) := by decide +kernel
theorem dX3_packed_30 : decode cX3_packed 30 = .ok (.iload 6, 2) := by decide +kernel
theorem dX3_packed_32 : decode cX3_packed 32 = .ok (.iconst 1, 1) := by decide +kernel
theorem dX3_packed_33 : decode cX3_packed 33 = .ok (.if_icmp .lt 18, 3) := by decide +kernel
theorem dX3_packed_36 : decode cX3_packed 36 = .ok (.iload 6, 2) := by decide +kernel
theorem dX3_packed_38 : decode cX3_packed 38 = .ok (.iload_n 1, 1) := by decide +kernel
theorem dX3_packed_39 : decode cX3_packed 39 = .ok (.if_icmp .gt 12, 3) := by decide +kernel
theorem dX3_packed_42 : decode cX3_packed 42 = .ok (.iload_n 3, 1) := by decide +kernel
theorem dX3_packed_43 : decode cX3_packed 43 = .ok (.iconst 1, 1) := by decide +kernel
theorem dX3_packed_44 : decode cX3_packed 44 = .ok (.iload 6, 2) := by decide +kernel
theorem dX3_packed_46 : decode cX3_packed 46 = .ok (.ishl, 1) := by decide +kernel
theorem dX3_packed_47 : decode cX3_packed 47 = .ok (.iand, 1) := by decide +kernel
theorem dX3_packed_48 : decode cX3_packed 48 = .ok (.ifCond .eq 5, 3) := by decide +kernel
theorem dX3_packed_51 : decode cX3_packed 51 = .ok (.iconst (-1), 1) := by decide +kernel
theorem dX3_packed_52 : decode cX3_packed 52 = .ok (.ireturn, 1) := by decide +kernel
theorem dX3_packed_53 : decode cX3_packed 53 = .ok (.iload_n 3, 1) := by decide +kernel
theorem dX3_packed_54 : decode cX3_packed 54 = .ok (.iconst 1, 1) := by decide +kernel
theorem dX3_packed_55 : decode cX3_packed 55 = .ok (.iload 6, 2) := by decide +kernel
theorem dX3_packed_57 : decode cX3_packed 57 = .ok (.ishl, 1) := by decide +kernel
theorem dX3_packed_58 : decode cX3_packed 58 = .ok (.ior, 1) := by decide +kernel
theorem dX3_packed_59 : decode cX3_packed 59 = .ok (.istore_n 3, 1) := by decide +kernel
theorem dX3_packed_60 : decode cX3_packed 60 = .ok (.iload_n 2, 1) := by decide +kernel
theorem dX3_packed_61 : decode cX3_packed 61 = .ok (.iload 6, 2) := by decide +kernel
theorem dX3_packed_63 : decode cX3_packed 63 = .ok (.iload 5, 2) := by decide +kernel
theorem dX3_packed_65 : decode cX3_packed 65 = .ok (.invokestatic 9, 3) := by decide +kernel
theorem dX3_packed_68 : decode cX3_packed 68 = .ok (.ishl, 1) := by decide +kernel
theorem dX3_packed_69 : decode cX3_packed 69 = .ok (.ior, 1) := by decide +kernel
theorem dX3_packed_70 : decode cX3_packed 70 = .ok (.istore_n 2, 1) := by decide +kernel
theorem dX3_packed_71 : decode cX3_packed 71 = .ok (.iinc 5 (-1), 3) := by decide +kernel
theorem dX3_packed_74 : decode cX3_packed 74 = .ok (.goto (-64), 3) := by decide +kernel
theorem dX3_packed_77 : decode cX3_packed 77 = .ok (.iload 4, 2) := by decide +kernel
theorem dX3_packed_79 : decode cX3_packed 79 = .ok (.ifCond .ne 7, 3) := by decide +kernel
theorem dX3_packed_82 : decode cX3_packed 82 = .ok (.iload_n 2, 1) := by decide +kernel
theorem dX3_packed_83 : decode cX3_packed 83 = .ok (.goto 4, 3) := by decide +kernel
theorem dX3_packed_86 : decode cX3_packed 86 = .ok (.iconst (-1), 1) := by decide +kernel
theorem dX3_packed_87 : decode cX3_packed 87 = .ok (.ireturn, 1) := by decide +kernel
set_option maxRecDepth 20000 in
theorem ggX3_number_X3_bellAt : GoodIn wsX3_number wsX3_bellAt := goodIn_r _ [4] (by decide +kernel) (by decide +kernel)
set_option maxRecDepth 20000 in
theorem gX3_number_X3_bellAt : GoodIn wsX3_number (va_wsS RX3 15 yX3_bellAt wsX3_bellAt) := goodIn_app (goodIn_of _ (by decide +kernel)) ggX3_number_X3_bellAt
theorem dX3_number_0 : decode cX3_number 0 = .ok (.iconst 0, 1) := by decide +kernel
theorem dX3_number_1 : decode cX3_number 1 = .ok (.istore_n 2, 1) := by decide +kernel
theorem dX3_number_2 : decode cX3_number 2 = .ok (.iconst 1, 1) := by decide +kernel
theorem dX3_number_3 : decode cX3_number 3 = .ok (.istore_n 3, 1) := by decide +kernel
theorem dX3_number_4 : decode cX3_number 4 = .ok (.iload_n 3, 1) := by decide +kernel
theorem dX3_number_5 : decode cX3_number 5 = .ok (.iload_n 1, 1) := by decide +kernel
theorem dX3_number_6 : decode cX3_number 6 = .ok (.if_icmp .gt 20, 3) := by decide +kernel
theorem dX3_number_9 : decode cX3_number 9 = .ok (.iload_n 2, 1) := by decide +kernel
theorem dX3_number_10 : decode cX3_number 10 = .ok (.bipush 10, 2) := by decide +kernel
theorem dX3_number_12 : decode cX3_number 12 = .ok (.imul, 1) := by decide +kernel
theorem dX3_number_13 : decode cX3_number 13 = .ok (.iload_n 0, 1) := by decide +kernel
theorem dX3_number_14 : decode cX3_number 14 = .ok (.iload_n 3, 1) := by decide +kernel
theorem dX3_number_15 : decode cX3_number 15 = .ok (.invokestatic 15, 3) := by decide +kernel
theorem dX3_number_18 : decode cX3_number 18 = .ok (.iadd, 1) := by decide +kernel
theorem dX3_number_19 : decode cX3_number 19 = .ok (.istore_n 2, 1) := by decide +kernel
theorem dX3_number_20 : decode cX3_number 20 = .ok (.iinc 3 1, 3) := by decide +kernel
theorem dX3_number_23 : decode cX3_number 23 = .ok (.goto (-19), 3) := by decide +kernel
theorem dX3_number_26 : decode cX3_number 26 = .ok (.iload_n 2, 1) := by decide +kernel
theorem dX3_number_27 : decode cX3_number 27 = .ok (.ireturn, 1) := by decide +kernel
theorem dX3_stays_0 : decode cX3_stays 0 = .ok (.iload_n 0, 1) := by decide +kernel
theorem dX3_stays_1 : decode cX3_stays 1 = .ok (.iconst 1, 1) := by decide +kernel
theorem dX3_stays_2 : decode cX3_stays 2 = .ok (.iload_n 1, 1) := by decide +kernel
theorem dX3_stays_3 : decode cX3_stays 3 = .ok (.iconst 1, 1) := by decide +kernel
theorem dX3_stays_4 : decode cX3_stays 4 = .ok (.isub, 1) := by decide +kernel
theorem dX3_stays_5 : decode cX3_stays 5 = .ok (.ishl, 1) := by decide +kernel
theorem dX3_stays_6 : decode cX3_stays 6 = .ok (.iand, 1) := by decide +kernel
theorem dX3_stays_7 : decode cX3_stays 7 = .ok (.ifCond .eq 7, 3) := by decide +kernel
theorem dX3_stays_10 : decode cX3_stays 10 = .ok (.iconst 1, 1) := by decide +kernel
theorem dX3_stays_11 : decode cX3_stays 11 = .ok (.goto 4, 3) := by decide +kernel
theorem dX3_stays_14 : decode cX3_stays 14 = .ok (.iconst 0, 1) := by decide +kernel
theorem dX3_stays_15 : decode cX3_stays 15 = .ok (.ireturn, 1) := by decide +kernel
set_option maxRecDepth 20000 in
theorem ggX3_canBeRung_X3_stays : GoodIn wsX3_canBeRung wsX3_stays := goodIn_r _ [4] (by decide +kernel) (by decide +kernel)
set_option maxRecDepth 20000 in
theorem gX3_canBeRung_X3_stays : GoodIn wsX3_canBeRung (va_wsS RX3 19 yX3_stays wsX3_stays) := goodIn_app (goodIn_of _ (by decide +kernel)) ggX3_canBeRung_X3_stays
theorem dX3_canBeRung_0 : decode cX3_canBeRung 0 = .ok (.iload_n 0, 1) := by decide +kernel
theorem dX3_canBeRung_1 : decode cX3_canBeRung 1 = .ok (.ifCond .lt 10, 3) := by decide +kernel
theorem dX3_canBeRung_4 : decode cX3_canBeRung 4 = .ok (.iload_n 0, 1) := by decide +kernel
theorem dX3_canBeRung_5 : decode cX3_canBeRung 5 = .ok (.iconst 1, 1) := by decide +kernel
theorem dX3_canBeRung_6 : decode cX3_canBeRung 6 = .ok (.iload_n 1, 1) := by decide +kernel
theorem dX3_canBeRung_7 : decode cX3_canBeRung 7 = .ok (.ishl, 1) := by decide +kernel
theorem dX3_canBeRung_8 : decode cX3_canBeRung 8 = .ok (.if_icmp .lt 5, 3) := by decide +kernel
theorem dX3_canBeRung_11 : decode cX3_canBeRung 11 = .ok (.iconst 0, 1) := by decide +kernel
theorem dX3_canBeRung_12 : decode cX3_canBeRung 12 = .ok (.ireturn, 1) := by decide +kernel
theorem dX3_canBeRung_13 : decode cX3_canBeRung 13 = .ok (.iconst 1, 1) := by decide +kernel
theorem dX3_canBeRung_14 : decode cX3_canBeRung 14 = .ok (.istore_n 2, 1) := by decide +kernel
theorem dX3_canBeRung_15 : decode cX3_canBeRung 15 = .ok (.iload_n 2, 1) := by decide +kernel
theorem dX3_canBeRung_16 : decode cX3_canBeRung 16 = .ok (.iload_n 1, 1) := by decide +kernel
theorem dX3_canBeRung_17 : decode cX3_canBeRung 17 = .ok (.if_icmp .gt 40, 3) := by decide +kernel
theorem dX3_canBeRung_20 : decode cX3_canBeRung 20 = .ok (.iload_n 0, 1) := by decide +kernel
theorem dX3_canBeRung_21 : decode cX3_canBeRung 21 = .ok (.iload_n 2, 1) := by decide +kernel
theorem dX3_canBeRung_22 : decode cX3_canBeRung 22 = .ok (.invokestatic 19, 3) := by decide +kernel
theorem dX3_canBeRung_25 : decode cX3_canBeRung 25 = .ok (.ifCond .eq 9, 3) := by decide +kernel
theorem dX3_canBeRung_28 : decode cX3_canBeRung 28 = .ok (.iinc 2 1, 3) := by decide +kernel
theorem dX3_canBeRung_31 : decode cX3_canBeRung 31 = .ok (.goto (-16), 3) := by decide +kernel
theorem dX3_canBeRung_34 : decode cX3_canBeRung 34 = .ok (.iload_n 2, 1) := by decide +kernel
theorem dX3_canBeRung_35 : decode cX3_canBeRung 35 = .ok (.iload_n 1, 1) := by decide +kernel
theorem dX3_canBeRung_36 : decode cX3_canBeRung 36 = .ok (.if_icmp .ge 19, 3) := by decide +kernel
theorem dX3_canBeRung_39 : decode cX3_canBeRung 39 = .ok (.iload_n 0, 1) := by decide +kernel
theorem dX3_canBeRung_40 : decode cX3_canBeRung 40 = .ok (.iload_n 2, 1) := by decide +kernel
theorem dX3_canBeRung_41 : decode cX3_canBeRung 41 = .ok (.iconst 1, 1) := by decide +kernel
theorem dX3_canBeRung_42 : decode cX3_canBeRung 42 = .ok (.iadd, 1) := by decide +kernel
theorem dX3_canBeRung_43 : decode cX3_canBeRung 43 = .ok (.invokestatic 19, 3) := by decide +kernel
theorem dX3_canBeRung_46 : decode cX3_canBeRung 46 = .ok (.ifCond .ne 9, 3) := by decide +kernel
theorem dX3_canBeRung_49 : decode cX3_canBeRung 49 = .ok (.iinc 2 2, 3) := by decide +kernel
theorem dX3_canBeRung_52 : decode cX3_canBeRung 52 = .ok (.goto (-37), 3) := by decide +kernel
theorem dX3_canBeRung_55 : decode cX3_canBeRung 55 = .ok (.iconst 0, 1) := by decide +kernel
theorem dX3_canBeRung_56 : decode cX3_canBeRung 56 = .ok (.ireturn, 1) := by decide +kernel
theorem dX3_canBeRung_57 : decode cX3_canBeRung 57 = .ok (.iconst 1, 1) := by decide +kernel
theorem dX3_canBeRung_58 : decode cX3_canBeRung 58 = .ok (.ireturn, 1) := by decide +kernel
set_option maxRecDepth 20000 in
theorem ggX3_changed_X3_stays : GoodIn wsX3_changed wsX3_stays := goodIn_r _ [4] (by decide +kernel) (by decide +kernel)
set_option maxRecDepth 20000 in
theorem gX3_changed_X3_stays : GoodIn wsX3_changed (va_wsS RX3 19 yX3_stays wsX3_stays) := goodIn_app (goodIn_of _ (by decide +kernel)) ggX3_changed_X3_stays
set_option maxRecDepth 20000 in
theorem ggX3_changed_X3_swapped : GoodIn wsX3_changed wsX3_swapped := goodIn_r _ [7] (by decide +kernel) (by decide +kernel)
set_option maxRecDepth 20000 in
theorem gX3_changed_X3_swapped : GoodIn wsX3_changed (va_wsS RX3 23 yX3_swapped wsX3_swapped) := goodIn_app (goodIn_of _ (by decide +kernel)) ggX3_changed_X3_swapped
theorem dX3_changed_0 : decode cX3_changed 0 = .ok (.iload_n 0, 1) := by decide +kernel
theorem dX3_changed_1 : decode cX3_changed 1 = .ok (.istore_n 3, 1) := by decide +kernel
theorem dX3_changed_2 : decode cX3_changed 2 = .ok (.iconst 1, 1) := by decide +kernel
theorem dX3_changed_3 : decode cX3_changed 3 = .ok (.istore 4, 2) := by decide +kernel
theorem dX3_changed_5 : decode cX3_changed 5 = .ok (.iload 4, 2) := by decide +kernel
theorem dX3_changed_7 : decode cX3_changed 7 = .ok (.iload_n 2, 1) := by decide +kernel
theorem dX3_changed_8 : decode cX3_changed 8 = .ok (.if_icmp .ge 31, 3) := by decide +kernel
theorem dX3_changed_11 : decode cX3_changed 11 = .ok (.iload_n 1, 1) := by decide +kernel
theorem dX3_changed_12 : decode cX3_changed 12 = .ok (.iload 4, 2) := by decide +kernel
theorem dX3_changed_14 : decode cX3_changed 14 = .ok (.invokestatic 19, 3) := by decide +kernel
theorem dX3_changed_17 : decode cX3_changed 17 = .ok (.ifCond .eq 9, 3) := by decide +kernel
theorem dX3_changed_20 : decode cX3_changed 20 = .ok (.iinc 4 1, 3) := by decide +kernel
theorem dX3_changed_23 : decode cX3_changed 23 = .ok (.goto (-18), 3) := by decide +kernel
theorem dX3_changed_26 : decode cX3_changed 26 = .ok (.iload_n 3, 1) := by decide +kernel
theorem dX3_changed_27 : decode cX3_changed 27 = .ok (.iload 4, 2) := by decide +kernel
theorem dX3_changed_29 : decode cX3_changed 29 = .ok (.invokestatic 23, 3) := by decide +kernel
theorem dX3_changed_32 : decode cX3_changed 32 = .ok (.istore_n 3, 1) := by decide +kernel
theorem dX3_changed_33 : decode cX3_changed 33 = .ok (.iinc 4 2, 3) := by decide +kernel
theorem dX3_changed_36 : decode cX3_changed 36 = .ok (.goto (-31), 3) := by decide +kernel
theorem dX3_changed_39 : decode cX3_changed 39 = .ok (.iload_n 3, 1) := by decide +kernel
theorem dX3_changed_40 : decode cX3_changed 40 = .ok (.ireturn, 1) := by decide +kernel
theorem dX3_swapped_0 : decode cX3_swapped 0 = .ok (.iconst 4, 1) := by decide +kernel
theorem dX3_swapped_1 : decode cX3_swapped 1 = .ok (.iload_n 1, 1) := by decide +kernel
theorem dX3_swapped_2 : decode cX3_swapped 2 = .ok (.iconst 1, 1) := by decide +kernel
theorem dX3_swapped_3 : decode cX3_swapped 3 = .ok (.isub, 1) := by decide +kernel
theorem dX3_swapped_4 : decode cX3_swapped 4 = .ok (.imul, 1) := by decide +kernel
theorem dX3_swapped_5 : decode cX3_swapped 5 = .ok (.istore_n 2, 1) := by decide +kernel
theorem dX3_swapped_6 : decode cX3_swapped 6 = .ok (.iload_n 2, 1) := by decide +kernel
theorem dX3_swapped_7 : decode cX3_swapped 7 = .ok (.iconst 4, 1) := by decide +kernel
theorem dX3_swapped_8 : decode cX3_swapped 8 = .ok (.iadd, 1) := by decide +kernel
theorem dX3_swapped_9 : decode cX3_swapped 9 = .ok (.istore_n 3, 1) := by decide +kernel
theorem dX3_swapped_10 : decode cX3_swapped 10 = .ok (.iload_n 0, 1) := by decide +kernel
theorem dX3_swapped_11 : decode cX3_swapped 11 = .ok (.iload_n 2, 1) := by decide +kernel
theorem dX3_swapped_12 : decode cX3_swapped 12 = .ok (.ishr, 1) := by decide +kernel
theorem dX3_swapped_13 : decode cX3_swapped 13 = .ok (.iload_n 0, 1) := by decide +kernel
theorem dX3_swapped_14 : decode cX3_swapped 14 = .ok (.iload_n 3, 1) := by decide +kernel
theorem dX3_swapped_15 : decode cX3_swapped 15 = .ok (.ishr, 1) := by decide +kernel
theorem dX3_swapped_16 : decode cX3_swapped 16 = .ok (.ixor, 1) := by decide +kernel
theorem dX3_swapped_17 : decode cX3_swapped 17 = .ok (.bipush 15, 2) := by decide +kernel
theorem dX3_swapped_19 : decode cX3_swapped 19 = .ok (.iand, 1) := by decide +kernel
theorem dX3_swapped_20 : decode cX3_swapped 20 = .ok (.istore 4, 2) := by decide +kernel
theorem dX3_swapped_22 : decode cX3_swapped 22 = .ok (.iload_n 0, 1) := by decide +kernel
theorem dX3_swapped_23 : decode cX3_swapped 23 = .ok (.iload 4, 2) := by decide +kernel
theorem dX3_swapped_25 : decode cX3_swapped 25 = .ok (.iload_n 2, 1) := by decide +kernel
theorem dX3_swapped_26 : decode cX3_swapped 26 = .ok (.ishl, 1) := by decide +kernel
theorem dX3_swapped_27 : decode cX3_swapped 27 = .ok (.ixor, 1) := by decide +kernel
theorem dX3_swapped_28 : decode cX3_swapped 28 = .ok (.iload 4, 2) := by decide +kernel
theorem dX3_swapped_30 : decode cX3_swapped 30 = .ok (.iload_n 3, 1) := by decide +kernel
theorem dX3_swapped_31 : decode cX3_swapped 31 = .ok (.ishl, 1) := by decide +kernel
theorem dX3_swapped_32 : decode cX3_swapped 32 = .ok (.ixor, 1) := by decide +kernel
theorem dX3_swapped_33 : decode cX3_swapped 33 = .ok (.ireturn, 1) := by decide +kernel
set_option maxRecDepth 20000 in
theorem ggX3_composed_X3_bellAt : GoodIn wsX3_composed wsX3_bellAt := goodIn_r _ [4] (by decide +kernel) (by decide +kernel)
set_option maxRecDepth 20000 in
theorem gX3_composed_X3_bellAt : GoodIn wsX3_composed (va_wsS RX3 15 yX3_bellAt wsX3_bellAt) := goodIn_app (goodIn_of _ (by decide +kernel)) ggX3_composed_X3_bellAt
set_option maxRecDepth 20000 in
theorem ggX3_composed_X3_shift : GoodIn wsX3_composed wsX3_shift := goodIn_r _ [7] (by decide +kernel) (by decide +kernel)
set_option maxRecDepth 20000 in
theorem gX3_composed_X3_shift : GoodIn wsX3_composed (va_wsS RX3 9 yX3_shift wsX3_shift) := goodIn_app (goodIn_of _ (by decide +kernel)) ggX3_composed_X3_shift
theorem dX3_composed_0 : decode cX3_composed 0 = .ok (.iconst 0, 1) := by decide +kernel
theorem dX3_composed_1 : decode cX3_composed 1 = .ok (.istore_n 3, 1) := by decide +kernel
theorem dX3_composed_2 : decode cX3_composed 2 = .ok (.iconst 1, 1) := by decide +kernel
theorem dX3_composed_3 : decode cX3_composed 3 = .ok (.istore 4, 2) := by decide +kernel
theorem dX3_composed_5 : decode cX3_composed 5 = .ok (.iload 4, 2) := by decide +kernel
theorem dX3_composed_7 : decode cX3_composed 7 = .ok (.iload_n 2, 1) := by decide +kernel
theorem dX3_composed_8 : decode cX3_composed 8 = .ok (.if_icmp .gt 28, 3) := by decide +kernel
theorem dX3_composed_11 : decode cX3_composed 11 = .ok (.iload_n 3, 1) := by decide +kernel
theorem dX3_composed_12 : decode cX3_composed 12 = .ok (.iload_n 0, 1) := by decide +kernel
theorem dX3_composed_13 : decode cX3_composed 13 = .ok (.iload_n 1, 1) := by decide +kernel
theorem dX3_composed_14 : decode cX3_composed 14 = .ok (.iload 4, 2) := by decide +kernel
theorem dX3_composed_16 : decode cX3_composed 16 = .ok (.invokestatic 15, 3) := by decide +kernel
theorem dX3_composed_19 : decode cX3_composed 19 = .ok (.invokestatic 15, 3) := by decide +kernel
theorem dX3_composed_22 : decode cX3_composed 22 = .ok (.iload 4, 2) := by decide +kernel
theorem dX3_composed_24 : decode cX3_composed 24 = .ok (.invokestatic 9, 3) := by decide +kernel
theorem dX3_composed_27 : decode cX3_composed 27 = .ok (.ishl, 1) := by decide +kernel
theorem dX3_composed_28 : decode cX3_composed 28 = .ok (.ior, 1) := by decide +kernel
theorem dX3_composed_29 : decode cX3_composed 29 = .ok (.istore_n 3, 1) := by decide +kernel
theorem dX3_composed_30 : decode cX3_composed 30 = .ok (.iinc 4 1, 3) := by decide +kernel
theorem dX3_composed_33 : decode cX3_composed 33 = .ok (.goto (-28), 3) := by decide +kernel
theorem dX3_composed_36 : decode cX3_composed 36 = .ok (.iload_n 3, 1) := by decide +kernel
theorem dX3_composed_37 : decode cX3_composed 37 = .ok (.ireturn, 1) := by decide +kernel
set_option maxRecDepth 20000 in
theorem ggX3_crossedPairs_X3_bellAt : GoodIn wsX3_crossedPairs wsX3_bellAt := goodIn_r _ [4] (by decide +kernel) (by decide +kernel)
set_option maxRecDepth 20000 in
theorem gX3_crossedPairs_X3_bellAt : GoodIn wsX3_crossedPairs (va_wsS RX3 15 yX3_bellAt wsX3_bellAt) := goodIn_app (goodIn_of _ (by decide +kernel)) ggX3_crossedPairs_X3_bellAt
theorem dX3_crossedPairs_0 : decode cX3_crossedPairs 0 = .ok (.iconst 0, 1) := by decide +kernel
theorem dX3_crossedPairs_1 : decode cX3_crossedPairs 1 = .ok (.istore_n 2, 1) := by decide +kernel
theorem dX3_crossedPairs_2 : decode cX3_crossedPairs 2 = .ok (.iconst 1, 1) := by decide +kernel
theorem dX3_crossedPairs_3 : decode cX3_crossedPairs 3 = .ok (.istore_n 3, 1) := by decide +kernel
theorem dX3_crossedPairs_4 : decode cX3_crossedPairs 4 = .ok (.iload_n 3, 1) := by decide +kernel
theorem dX3_crossedPairs_5 : decode cX3_crossedPairs 5 = .ok (.iload_n 1, 1) := by decide +kernel
theorem dX3_crossedPairs_6 : decode cX3_crossedPairs 6 = .ok (.if_icmp .gt 43, 3) := by decide +kernel
theorem dX3_crossedPairs_9 : decode cX3_crossedPairs 9 = .ok (.iload_n 3, 1) := by decide +kernel
theorem dX3_crossedPairs_10 : decode cX3_crossedPairs 10 = .ok (.iconst 1, 1) := by decide +kernel
theorem dX3_crossedPairs_11 : decode cX3_crossedPairs 11 = .ok (.iadd, 1) := by decide +kernel
theorem dX3_crossedPairs_12 : decode cX3_crossedPairs 12 = .ok (.istore 4, 2) := by decide +kernel
theorem dX3_crossedPairs_14 : decode cX3_crossedPairs 14 = .ok (.iload 4, 2) := by decide +kernel
theorem dX3_crossedPairs_16 : decode cX3_crossedPairs 16 = .ok (.iload_n 1, 1) := by decide +kernel
theorem dX3_crossedPairs_17 : decode cX3_crossedPairs 17 = .ok (.if_icmp .gt 26, 3) := by decide +kernel
theorem dX3_crossedPairs_20 : decode cX3_crossedPairs 20 = .ok (.iload_n 0, 1) := by decide +kernel
theorem dX3_crossedPairs_21 : decode cX3_crossedPairs 21 = .ok (.iload_n 3, 1) := by decide +kernel
theorem dX3_crossedPairs_22 : decode cX3_crossedPairs 22 = .ok (.invokestatic 15, 3) := by decide +kernel
theorem dX3_crossedPairs_25 : decode cX3_crossedPairs 25 = .ok (.iload_n 0, 1) := by decide +kernel
theorem dX3_crossedPairs_26 : decode cX3_crossedPairs 26 = .ok (.iload 4, 2) := by decide +kernel
theorem dX3_crossedPairs_28 : decode cX3_crossedPairs 28 = .ok (.invokestatic 15, 3) := by decide +kernel
theorem dX3_crossedPairs_31 : decode cX3_crossedPairs 31 = .ok (.if_icmp .le 6, 3) := by decide +kernel
theorem dX3_crossedPairs_34 : decode cX3_crossedPairs 34 = .ok (.iinc 2 1, 3) := by decide +kernel
theorem dX3_crossedPairs_37 : decode cX3_crossedPairs 37 = .ok (.iinc 4 1, 3) := by decide +kernel
theorem dX3_crossedPairs_40 : decode cX3_crossedPairs 40 = .ok (.goto (-26), 3) := by decide +kernel
theorem dX3_crossedPairs_43 : decode cX3_crossedPairs 43 = .ok (.iinc 3 1, 3) := by decide +kernel
theorem dX3_crossedPairs_46 : decode cX3_crossedPairs 46 = .ok (.goto (-42), 3) := by decide +kernel
theorem dX3_crossedPairs_49 : decode cX3_crossedPairs 49 = .ok (.iload_n 2, 1) := by decide +kernel
theorem dX3_crossedPairs_50 : decode cX3_crossedPairs 50 = .ok (.ireturn, 1) := by decide +kernel
set_option maxRecDepth 20000 in
theorem ggX3_musicOf_X3_runLength : GoodIn wsX3_musicOf wsX3_runLength := goodIn_r _ [4, 5, 6, 3, 7] (by decide +kernel) (by decide +kernel)
set_option maxRecDepth 20000 in
theorem gX3_musicOf_X3_runLength : GoodIn wsX3_musicOf (va_wsS RX3 26 yX3_runLength wsX3_runLength) := goodIn_app (goodIn_of _ (by decide +kernel)) ggX3_musicOf_X3_runLength
theorem dX3_musicOf_0 : decode cX3_musicOf 0 = .ok (.iload_n 0, 1) := by decide +kernel
theorem dX3_musicOf_1 : decode cX3_musicOf 1 = .ok (.iconst 1, 1) := by decide +kernel
theorem dX3_musicOf_2 : decode cX3_musicOf 2 = .ok (.iconst 1, 1) := by decide +kernel
theorem dX3_musicOf_3 : decode cX3_musicOf 3 = .ok (.iload_n 1, 1) := by decide +kernel
theorem dX3_musicOf_4 : decode cX3_musicOf 4 = .ok (.invokestatic 26, 3) := by decide +kernel
theorem dX3_musicOf_7 : decode cX3_musicOf 7 = .ok (.iload_n 0, 1) := by decide +kernel
theorem dX3_musicOf_8 : decode cX3_musicOf 8 = .ok (.iload_n 1, 1) := by decide +kernel
theorem dX3_musicOf_9 : decode cX3_musicOf 9 = .ok (.iconst (-1), 1) := by decide +kernel
theorem dX3_musicOf_10 : decode cX3_musicOf 10 = .ok (.iload_n 1, 1) := by decide +kernel
theorem dX3_musicOf_11 : decode cX3_musicOf 11 = .ok (.invokestatic 26, 3) := by decide +kernel
theorem dX3_musicOf_14 : decode cX3_musicOf 14 = .ok (.iadd, 1) := by decide +kernel
theorem dX3_musicOf_15 : decode cX3_musicOf 15 = .ok (.ireturn, 1) := by decide +kernel
set_option maxRecDepth 20000 in
theorem ggX3_runLength_X3_bellAt : GoodIn wsX3_runLength wsX3_bellAt := goodIn_r _ [4] (by decide +kernel) (by decide +kernel)
set_option maxRecDepth 20000 in
theorem gX3_runLength_X3_bellAt : GoodIn wsX3_runLength (va_wsS RX3 15 yX3_bellAt wsX3_bellAt) := goodIn_app (goodIn_of _ (by decide +kernel)) ggX3_runLength_X3_bellAt
theorem dX3_runLength_0 : decode cX3_runLength 0 = .ok (.iload_n 0, 1) := by decide +kernel
theorem dX3_runLength_1 : decode cX3_runLength 1 = .ok (.iload_n 1, 1) := by decide +kernel
theorem dX3_runLength_2 : decode cX3_runLength 2 = .ok (.iload_n 2, 1) := by decide +kernel
theorem dX3_runLength_3 : decode cX3_runLength 3 = .ok (.iadd, 1) := by decide +kernel
theorem dX3_runLength_4 : decode cX3_runLength 4 = .ok (.invokestatic 15, 3) := by decide +kernel
theorem dX3_runLength_7 : decode cX3_runLength 7 = .ok (.iload_n 0, 1) := by decide +kernel
theorem dX3_runLength_8 : decode cX3_runLength 8 = .ok (.iload_n 1, 1) := by decide +kernel
theorem dX3_runLength_9 : decode cX3_runLength 9 = .ok (.invokestatic 15, 3) := by decide +kernel
