theorem dX4_saidApart_37 : decode cX4_saidApart 37 = .ok (.iinc 2 1, 3) := by decide +kernel
theorem dX4_saidApart_40 : decode cX4_saidApart 40 = .ok (.goto (-36), 3) := by decide +kernel
theorem dX4_saidApart_43 : decode cX4_saidApart 43 = .ok (.iload_n 1, 1) := by decide +kernel
theorem dX4_saidApart_44 : decode cX4_saidApart 44 = .ok (.ireturn, 1) := by decide +kernel
theorem dX4_saidUnlikeAnswers_0 : decode cX4_saidUnlikeAnswers 0 = .ok (.aload_n 0, 1) := by decide +kernel
theorem dX4_saidUnlikeAnswers_1 : decode cX4_saidUnlikeAnswers 1 = .ok (.getfield 21, 3) := by decide +kernel
theorem dX4_saidUnlikeAnswers_4 : decode cX4_saidUnlikeAnswers 4 = .ok (.ifCond .le 22, 3) := by decide +kernel
theorem dX4_saidUnlikeAnswers_7 : decode cX4_saidUnlikeAnswers 7 = .ok (.aload_n 0, 1) := by decide +kernel
theorem dX4_saidUnlikeAnswers_8 : decode cX4_saidUnlikeAnswers 8 = .ok (.getfield 18, 3) := by decide +kernel
theorem dX4_saidUnlikeAnswers_11 : decode cX4_saidUnlikeAnswers 11 = .ok (.iconst 0, 1) := by decide +kernel
theorem dX4_saidUnlikeAnswers_12 : decode cX4_saidUnlikeAnswers 12 = .ok (.iaload, 1) := by decide +kernel
theorem dX4_saidUnlikeAnswers_13 : decode cX4_saidUnlikeAnswers 13 = .ok (.aload_n 0, 1) := by decide +kernel
theorem dX4_saidUnlikeAnswers_14 : decode cX4_saidUnlikeAnswers 14 = .ok (.getfield 28, 3) := by decide +kernel
theorem dX4_saidUnlikeAnswers_17 : decode cX4_saidUnlikeAnswers 17 = .ok (.ixor, 1) := by decide +kernel
theorem dX4_saidUnlikeAnswers_18 : decode cX4_saidUnlikeAnswers 18 = .ok (.aload_n 0, 1) := by decide +kernel
theorem dX4_saidUnlikeAnswers_19 : decode cX4_saidUnlikeAnswers 19 = .ok (.getfield 25, 3) := by decide +kernel
theorem dX4_saidUnlikeAnswers_22 : decode cX4_saidUnlikeAnswers 22 = .ok (.iand, 1) := by decide +kernel
theorem dX4_saidUnlikeAnswers_23 : decode cX4_saidUnlikeAnswers 23 = .ok (.goto 4, 3) := by decide +kernel
theorem dX4_saidUnlikeAnswers_26 : decode cX4_saidUnlikeAnswers 26 = .ok (.iconst 0, 1) := by decide +kernel
theorem dX4_saidUnlikeAnswers_27 : decode cX4_saidUnlikeAnswers 27 = .ok (.ireturn, 1) := by decide +kernel
set_option maxRecDepth 20000 in
theorem ggX4_firstUnlikeFirst_X6_bitAt : GoodIn wsX4_firstUnlikeFirst wsX6_bitAt := goodIn_r _ [5] (by decide +kernel) (by decide +kernel)
set_option maxRecDepth 20000 in
theorem gX4_firstUnlikeFirst_X6_bitAt_n50 : GoodIn wsX4_firstUnlikeFirst (wsX6_bitAt) := ggX4_firstUnlikeFirst_X6_bitAt
theorem dX4_firstUnlikeFirst_0 : decode cX4_firstUnlikeFirst 0 = .ok (.iconst 1, 1) := by decide +kernel
theorem dX4_firstUnlikeFirst_1 : decode cX4_firstUnlikeFirst 1 = .ok (.istore_n 2, 1) := by decide +kernel
theorem dX4_firstUnlikeFirst_2 : decode cX4_firstUnlikeFirst 2 = .ok (.iload_n 2, 1) := by decide +kernel
theorem dX4_firstUnlikeFirst_3 : decode cX4_firstUnlikeFirst 3 = .ok (.aload_n 0, 1) := by decide +kernel
theorem dX4_firstUnlikeFirst_4 : decode cX4_firstUnlikeFirst 4 = .ok (.getfield 21, 3) := by decide +kernel
theorem dX4_firstUnlikeFirst_7 : decode cX4_firstUnlikeFirst 7 = .ok (.if_icmp .ge 41, 3) := by decide +kernel
theorem dX4_firstUnlikeFirst_10 : decode cX4_firstUnlikeFirst 10 = .ok (.iload_n 2, 1) := by decide +kernel
theorem dX4_firstUnlikeFirst_11 : decode cX4_firstUnlikeFirst 11 = .ok (.aload_n 0, 1) := by decide +kernel
theorem dX4_firstUnlikeFirst_12 : decode cX4_firstUnlikeFirst 12 = .ok (.getfield 18, 3) := by decide +kernel
theorem dX4_firstUnlikeFirst_15 : decode cX4_firstUnlikeFirst 15 = .ok (.arraylength, 1) := by decide +kernel
theorem dX4_firstUnlikeFirst_16 : decode cX4_firstUnlikeFirst 16 = .ok (.if_icmp .ge 32, 3) := by decide +kernel
theorem dX4_firstUnlikeFirst_19 : decode cX4_firstUnlikeFirst 19 = .ok (.aload_n 0, 1) := by decide +kernel
theorem dX4_firstUnlikeFirst_20 : decode cX4_firstUnlikeFirst 20 = .ok (.getfield 18, 3) := by decide +kernel
theorem dX4_firstUnlikeFirst_23 : decode cX4_firstUnlikeFirst 23 = .ok (.iconst 0, 1) := by decide +kernel
theorem dX4_firstUnlikeFirst_24 : decode cX4_firstUnlikeFirst 24 = .ok (.iaload, 1) := by decide +kernel
theorem dX4_firstUnlikeFirst_25 : decode cX4_firstUnlikeFirst 25 = .ok (.aload_n 0, 1) := by decide +kernel
theorem dX4_firstUnlikeFirst_26 : decode cX4_firstUnlikeFirst 26 = .ok (.getfield 18, 3) := by decide +kernel
theorem dX4_firstUnlikeFirst_29 : decode cX4_firstUnlikeFirst 29 = .ok (.iload_n 2, 1) := by decide +kernel
theorem dX4_firstUnlikeFirst_30 : decode cX4_firstUnlikeFirst 30 = .ok (.iaload, 1) := by decide +kernel
theorem dX4_firstUnlikeFirst_31 : decode cX4_firstUnlikeFirst 31 = .ok (.ixor, 1) := by decide +kernel
theorem dX4_firstUnlikeFirst_32 : decode cX4_firstUnlikeFirst 32 = .ok (.iload_n 1, 1) := by decide +kernel
theorem dX4_firstUnlikeFirst_33 : decode cX4_firstUnlikeFirst 33 = .ok (.invokestatic 50, 3) := by decide +kernel
theorem dX4_firstUnlikeFirst_36 : decode cX4_firstUnlikeFirst 36 = .ok (.iconst 1, 1) := by decide +kernel
theorem dX4_firstUnlikeFirst_37 : decode cX4_firstUnlikeFirst 37 = .ok (.if_icmp .ne 5, 3) := by decide +kernel
theorem dX4_firstUnlikeFirst_40 : decode cX4_firstUnlikeFirst 40 = .ok (.iload_n 2, 1) := by decide +kernel
theorem dX4_firstUnlikeFirst_41 : decode cX4_firstUnlikeFirst 41 = .ok (.ireturn, 1) := by decide +kernel
theorem dX4_firstUnlikeFirst_42 : decode cX4_firstUnlikeFirst 42 = .ok (.iinc 2 1, 3) := by decide +kernel
theorem dX4_firstUnlikeFirst_45 : decode cX4_firstUnlikeFirst 45 = .ok (.goto (-43), 3) := by decide +kernel
theorem dX4_firstUnlikeFirst_48 : decode cX4_firstUnlikeFirst 48 = .ok (.iconst (-1), 1) := by decide +kernel
theorem dX4_firstUnlikeFirst_49 : decode cX4_firstUnlikeFirst 49 = .ok (.ireturn, 1) := by decide +kernel
theorem dX5_init_0 : decode cX5_init 0 = .ok (.aload_n 0, 1) := by decide +kernel
theorem dX5_init_1 : decode cX5_init 1 = .ok (.invokespecial 3, 3) := by decide +kernel
theorem dX5_init_4 : decode cX5_init 4 = .ok (.aload_n 0, 1) := by decide +kernel
theorem dX5_init_5 : decode cX5_init 5 = .ok (.bipush 80, 2) := by decide +kernel
theorem dX5_init_7 : decode cX5_init 7 = .ok (.newarray .byte, 2) := by decide +kernel
theorem dX5_init_9 : decode cX5_init 9 = .ok (.putfield 9, 3) := by decide +kernel
theorem dX5_init_12 : decode cX5_init 12 = .ok (.aload_n 0, 1) := by decide +kernel
theorem dX5_init_13 : decode cX5_init 13 = .ok (.iconst 0, 1) := by decide +kernel
theorem dX5_init_14 : decode cX5_init 14 = .ok (.putfield 15, 3) := by decide +kernel
theorem dX5_init_17 : decode cX5_init 17 = .ok (.return_, 1) := by decide +kernel
theorem dX5_append_0 : decode cX5_append 0 = .ok (.bipush 24, 2) := by decide +kernel
theorem dX5_append_2 : decode cX5_append 2 = .ok (.istore_n 2, 1) := by decide +kernel
theorem dX5_append_3 : decode cX5_append 3 = .ok (.iload_n 2, 1) := by decide +kernel
theorem dX5_append_4 : decode cX5_append 4 = .ok (.ifCond .lt 51, 3) := by decide +kernel
theorem dX5_append_7 : decode cX5_append 7 = .ok (.aload_n 0, 1) := by decide +kernel
theorem dX5_append_8 : decode cX5_append 8 = .ok (.getfield 15, 3) := by decide +kernel
theorem dX5_append_11 : decode cX5_append 11 = .ok (.ifCond .lt 38, 3) := by decide +kernel
theorem dX5_append_14 : decode cX5_append 14 = .ok (.aload_n 0, 1) := by decide +kernel
theorem dX5_append_15 : decode cX5_append 15 = .ok (.getfield 15, 3) := by decide +kernel
theorem dX5_append_18 : decode cX5_append 18 = .ok (.aload_n 0, 1) := by decide +kernel
theorem dX5_append_19 : decode cX5_append 19 = .ok (.getfield 9, 3) := by decide +kernel
theorem dX5_append_22 : decode cX5_append 22 = .ok (.arraylength, 1) := by decide +kernel
theorem dX5_append_23 : decode cX5_append 23 = .ok (.if_icmp .ge 26, 3) := by decide +kernel
theorem dX5_append_26 : decode cX5_append 26 = .ok (.aload_n 0, 1) := by decide +kernel
theorem dX5_append_27 : decode cX5_append 27 = .ok (.getfield 9, 3) := by decide +kernel
theorem dX5_append_30 : decode cX5_append 30 = .ok (.aload_n 0, 1) := by decide +kernel
theorem dX5_append_31 : decode cX5_append 31 = .ok (.getfield 15, 3) := by decide +kernel
theorem dX5_append_34 : decode cX5_append 34 = .ok (.iload_n 1, 1) := by decide +kernel
theorem dX5_append_35 : decode cX5_append 35 = .ok (.iload_n 2, 1) := by decide +kernel
theorem dX5_append_36 : decode cX5_append 36 = .ok (.iushr, 1) := by decide +kernel
theorem dX5_append_37 : decode cX5_append 37 = .ok (.i2b, 1) := by decide +kernel
theorem dX5_append_38 : decode cX5_append 38 = .ok (.bastore, 1) := by decide +kernel
theorem dX5_append_39 : decode cX5_append 39 = .ok (.aload_n 0, 1) := by decide +kernel
theorem dX5_append_40 : decode cX5_append 40 = .ok (.dup, 1) := by decide +kernel
theorem dX5_append_41 : decode cX5_append 41 = .ok (.getfield 15, 3) := by decide +kernel
theorem dX5_append_44 : decode cX5_append 44 = .ok (.iconst 1, 1) := by decide +kernel
theorem dX5_append_45 : decode cX5_append 45 = .ok (.iadd, 1) := by decide +kernel
theorem dX5_append_46 : decode cX5_append 46 = .ok (.putfield 15, 3) := by decide +kernel
theorem dX5_append_49 : decode cX5_append 49 = .ok (.iinc 2 (-8), 3) := by decide +kernel
theorem dX5_append_52 : decode cX5_append 52 = .ok (.goto (-49), 3) := by decide +kernel
theorem dX5_append_55 : decode cX5_append 55 = .ok (.return_, 1) := by decide +kernel
theorem dX5_offers_0 : decode cX5_offers 0 = .ok (.iload_n 1, 1) := by decide +kernel
theorem dX5_offers_1 : decode cX5_offers 1 = .ok (.ifCond .lt 21, 3) := by decide +kernel
theorem dX5_offers_4 : decode cX5_offers 4 = .ok (.iload_n 1, 1) := by decide +kernel
theorem dX5_offers_5 : decode cX5_offers 5 = .ok (.bipush 60, 2) := by decide +kernel
theorem dX5_offers_7 : decode cX5_offers 7 = .ok (.if_icmp .gt 15, 3) := by decide +kernel
theorem dX5_offers_10 : decode cX5_offers 10 = .ok (.iload_n 1, 1) := by decide +kernel
theorem dX5_offers_11 : decode cX5_offers 11 = .ok (.aload_n 0, 1) := by decide +kernel
theorem dX5_offers_12 : decode cX5_offers 12 = .ok (.getfield 15, 3) := by decide +kernel
theorem dX5_offers_15 : decode cX5_offers 15 = .ok (.if_icmp .gt 7, 3) := by decide +kernel
theorem dX5_offers_18 : decode cX5_offers 18 = .ok (.iconst 1, 1) := by decide +kernel
theorem dX5_offers_19 : decode cX5_offers 19 = .ok (.goto 4, 3) := by decide +kernel
theorem dX5_offers_22 : decode cX5_offers 22 = .ok (.iconst 0, 1) := by decide +kernel
theorem dX5_offers_23 : decode cX5_offers 23 = .ok (.ireturn, 1) := by decide +kernel
theorem dX5_byteAt_0 : decode cX5_byteAt 0 = .ok (.iload_n 1, 1) := by decide +kernel
theorem dX5_byteAt_1 : decode cX5_byteAt 1 = .ok (.ifCond .lt 33, 3) := by decide +kernel
theorem dX5_byteAt_4 : decode cX5_byteAt 4 = .ok (.iload_n 1, 1) := by decide +kernel
theorem dX5_byteAt_5 : decode cX5_byteAt 5 = .ok (.aload_n 0, 1) := by decide +kernel
theorem dX5_byteAt_6 : decode cX5_byteAt 6 = .ok (.getfield 15, 3) := by decide +kernel
theorem dX5_byteAt_9 : decode cX5_byteAt 9 = .ok (.if_icmp .ge 25, 3) := by decide +kernel
theorem dX5_byteAt_12 : decode cX5_byteAt 12 = .ok (.iload_n 1, 1) := by decide +kernel
theorem dX5_byteAt_13 : decode cX5_byteAt 13 = .ok (.aload_n 0, 1) := by decide +kernel
theorem dX5_byteAt_14 : decode cX5_byteAt 14 = .ok (.getfield 9, 3) := by decide +kernel
theorem dX5_byteAt_17 : decode cX5_byteAt 17 = .ok (.arraylength, 1) := by decide +kernel
theorem dX5_byteAt_18 : decode cX5_byteAt 18 = .ok (.if_icmp .ge 16, 3) := by decide +kernel
theorem dX5_byteAt_21 : decode cX5_byteAt 21 = .ok (.aload_n 0, 1) := by decide +kernel
theorem dX5_byteAt_22 : decode cX5_byteAt 22 = .ok (.getfield 9, 3) := by decide +kernel
theorem dX5_byteAt_25 : decode cX5_byteAt 25 = .ok (.iload_n 1, 1) := by decide +kernel
theorem dX5_byteAt_26 : decode cX5_byteAt 26 = .ok (.baload, 1) := by decide +kernel
theorem dX5_byteAt_27 : decode cX5_byteAt 27 = .ok (.sipush 255, 3) := by decide +kernel
theorem dX5_byteAt_30 : decode cX5_byteAt 30 = .ok (.iand, 1) := by decide +kernel
theorem dX5_byteAt_31 : decode cX5_byteAt 31 = .ok (.goto 4, 3) := by decide +kernel
theorem dX5_byteAt_34 : decode cX5_byteAt 34 = .ok (.iconst (-1), 1) := by decide +kernel
theorem dX5_byteAt_35 : decode cX5_byteAt 35 = .ok (.ireturn, 1) := by decide +kernel
theorem dX5_clear_0 : decode cX5_clear 0 = .ok (.aload_n 0, 1) := by decide +kernel
theorem dX5_clear_1 : decode cX5_clear 1 = .ok (.iconst 0, 1) := by decide +kernel
theorem dX5_clear_2 : decode cX5_clear 2 = .ok (.putfield 15, 3) := by decide +kernel
theorem dX5_clear_5 : decode cX5_clear 5 = .ok (.return_, 1) := by decide +kernel
set_option maxRecDepth 20000 in
theorem ggX6_init_X5_init : GoodIn wsX6_init wsX5_init := goodIn_r _ [26, 27, 2, 3, 28, 29, 30, 74, 75] (by decide +kernel) (by decide +kernel)
set_option maxRecDepth 20000 in
theorem gX6_init_X5_init_n9 : GoodIn wsX6_init (wsX5_init) := ggX6_init_X5_init
set_option maxRecDepth 20000 in
theorem ggX6_init_X3_init : GoodIn wsX6_init wsX3_init := goodIn_r _ [33, 34, 2, 3, 28, 35, 36, 37, 38, 39, 40, 41, 42, 85, 86, 87, 88, 89, 90, 91, 92] (by decide +kernel) (by decide +kernel)
set_option maxRecDepth 20000 in
theorem gX6_init_X3_init : GoodIn wsX6_init (wsX3_init) := ggX6_init_X3_init
set_option maxRecDepth 20000 in
theorem ggX6_init_X0_init : GoodIn wsX6_init wsX0_init := goodIn_r _ [45, 46, 2, 3, 47, 48, 49, 50, 51, 52, 53, 54, 55, 56, 57, 58, 59, 60, 61, 93, 94, 95, 105, 106, 107, 108] (by decide +kernel) (by decide +kernel)
set_option maxRecDepth 20000 in
theorem gX6_init_X0_init : GoodIn wsX6_init (wsX0_init) := ggX6_init_X0_init
set_option maxRecDepth 20000 in
theorem ggX6_init_X4_init : GoodIn wsX6_init wsX4_init := goodIn_r _ [63, 64, 2, 3, 49, 65, 66, 67, 68, 69, 70, 71, 72, 73, 96, 97, 98, 99, 100, 101, 102, 103, 104] (by decide +kernel) (by decide +kernel)
set_option maxRecDepth 20000 in
theorem gX6_init_X4_init_n34 : GoodIn wsX6_init (wsX4_init) := ggX6_init_X4_init
theorem dX6_init_0 : decode cX6_init 0 = .ok (.aload_n 0, 1) := by decide +kernel
theorem dX6_init_1 : decode cX6_init 1 = .ok (.invokespecial 1, 3) := by decide +kernel
theorem dX6_init_4 : decode cX6_init 4 = .ok (.aload_n 0, 1) := by decide +kernel
theorem dX6_init_5 : decode cX6_init 5 = .ok (.new 7, 3) := by decide +kernel
theorem dX6_init_8 : decode cX6_init 8 = .ok (.dup, 1) := by decide +kernel
theorem dX6_init_9 : decode cX6_init 9 = .ok (.invokespecial 9, 3) := by decide +kernel
theorem dX6_init_12 : decode cX6_init 12 = .ok (.putfield 10, 3) := by decide +kernel
theorem dX6_init_15 : decode cX6_init 15 = .ok (.aload_n 0, 1) := by decide +kernel
theorem dX6_init_16 : decode cX6_init 16 = .ok (.new 16, 3) := by decide +kernel
theorem dX6_init_19 : decode cX6_init 19 = .ok (.dup, 1) := by decide +kernel
theorem dX6_init_20 : decode cX6_init 20 = .ok (.aload_n 0, 1) := by decide +kernel
theorem dX6_init_21 : decode cX6_init 21 = .ok (.getfield 10, 3) := by decide +kernel
theorem dX6_init_24 : decode cX6_init 24 = .ok (.invokespecial 18, 3) := by decide +kernel
theorem dX6_init_27 : decode cX6_init 27 = .ok (.putfield 21, 3) := by decide +kernel
theorem dX6_init_30 : decode cX6_init 30 = .ok (.aload_n 0, 1) := by decide +kernel
theorem dX6_init_31 : decode cX6_init 31 = .ok (.new 25, 3) := by decide +kernel
theorem dX6_init_34 : decode cX6_init 34 = .ok (.dup, 1) := by decide +kernel
theorem dX6_init_35 : decode cX6_init 35 = .ok (.invokespecial 27, 3) := by decide +kernel
theorem dX6_init_38 : decode cX6_init 38 = .ok (.putfield 28, 3) := by decide +kernel
theorem dX6_init_41 : decode cX6_init 41 = .ok (.aload_n 0, 1) := by decide +kernel
theorem dX6_init_42 : decode cX6_init 42 = .ok (.new 32, 3) := by decide +kernel
theorem dX6_init_45 : decode cX6_init 45 = .ok (.dup, 1) := by decide +kernel
theorem dX6_init_46 : decode cX6_init 46 = .ok (.invokespecial 34, 3) := by decide +kernel
theorem dX6_init_49 : decode cX6_init 49 = .ok (.putfield 35, 3) := by decide +kernel
theorem dX6_init_52 : decode cX6_init 52 = .ok (.aload_n 0, 1) := by decide +kernel
theorem dX6_init_53 : decode cX6_init 53 = .ok (.iconst (-1), 1) := by decide +kernel
theorem dX6_init_54 : decode cX6_init 54 = .ok (.putfield 39, 3) := by decide +kernel
theorem dX6_init_57 : decode cX6_init 57 = .ok (.aload_n 0, 1) := by decide +kernel
theorem dX6_init_58 : decode cX6_init 58 = .ok (.iconst (-1), 1) := by decide +kernel
theorem dX6_init_59 : decode cX6_init 59 = .ok (.putfield 43, 3) := by decide +kernel
theorem dX6_init_62 : decode cX6_init 62 = .ok (.aload_n 0, 1) := by decide +kernel
theorem dX6_init_63 : decode cX6_init 63 = .ok (.iconst 0, 1) := by decide +kernel
theorem dX6_init_64 : decode cX6_init 64 = .ok (.putfield 46, 3) := by decide +kernel
theorem dX6_init_67 : decode cX6_init 67 = .ok (.aload_n 0, 1) := by decide +kernel
theorem dX6_init_68 : decode cX6_init 68 = .ok (.iconst 3, 1) := by decide +kernel
theorem dX6_init_69 : decode cX6_init 69 = .ok (.putfield 49, 3) := by decide +kernel
theorem dX6_init_72 : decode cX6_init 72 = .ok (.aload_n 0, 1) := by decide +kernel
theorem dX6_init_73 : decode cX6_init 73 = .ok (.iconst 3, 1) := by decide +kernel
theorem dX6_init_74 : decode cX6_init 74 = .ok (.putfield 52, 3) := by decide +kernel
theorem dX6_init_77 : decode cX6_init 77 = .ok (.return_, 1) := by decide +kernel
set_option maxRecDepth 20000 in
theorem ggX6_feed_X5_append : GoodIn wsX6_feed wsX5_append := goodIn_r _ [7, 8, 9, 19, 20] (by decide +kernel) (by decide +kernel)
set_option maxRecDepth 20000 in
theorem gX6_feed_X5_append : GoodIn wsX6_feed (wsV RX6 58 RX5 yX5_append wsX5_append) := goodIn_app (goodIn_of _ (by decide +kernel)) ggX6_feed_X5_append
theorem dX6_feed_0 : decode cX6_feed 0 = .ok (.aload_n 0, 1) := by decide +kernel
theorem dX6_feed_1 : decode cX6_feed 1 = .ok (.getfield 10, 3) := by decide +kernel
theorem dX6_feed_4 : decode cX6_feed 4 = .ok (.getfield 55, 3) := by decide +kernel
theorem dX6_feed_7 : decode cX6_feed 7 = .ok (.bipush 20, 2) := by decide +kernel
theorem dX6_feed_9 : decode cX6_feed 9 = .ok (.iadd, 1) := by decide +kernel
theorem dX6_feed_10 : decode cX6_feed 10 = .ok (.bipush 80, 2) := by decide +kernel
theorem dX6_feed_12 : decode cX6_feed 12 = .ok (.if_icmp .le 5, 3) := by decide +kernel
theorem dX6_feed_15 : decode cX6_feed 15 = .ok (.iconst (-1), 1) := by decide +kernel
theorem dX6_feed_16 : decode cX6_feed 16 = .ok (.ireturn, 1) := by decide +kernel
theorem dX6_feed_17 : decode cX6_feed 17 = .ok (.aload_n 0, 1) := by decide +kernel
theorem dX6_feed_18 : decode cX6_feed 18 = .ok (.getfield 10, 3) := by decide +kernel
theorem dX6_feed_21 : decode cX6_feed 21 = .ok (.iload_n 1, 1) := by decide +kernel
theorem dX6_feed_22 : decode cX6_feed 22 = .ok (.invokevirtual 58, 3) := by decide +kernel
theorem dX6_feed_25 : decode cX6_feed 25 = .ok (.aload_n 0, 1) := by decide +kernel
theorem dX6_feed_26 : decode cX6_feed 26 = .ok (.getfield 10, 3) := by decide +kernel
theorem dX6_feed_29 : decode cX6_feed 29 = .ok (.iload_n 2, 1) := by decide +kernel
theorem dX6_feed_30 : decode cX6_feed 30 = .ok (.invokevirtual 58, 3) := by decide +kernel
theorem dX6_feed_33 : decode cX6_feed 33 = .ok (.aload_n 0, 1) := by decide +kernel
theorem dX6_feed_34 : decode cX6_feed 34 = .ok (.getfield 10, 3) := by decide +kernel
theorem dX6_feed_37 : decode cX6_feed 37 = .ok (.iload_n 3, 1) := by decide +kernel
theorem dX6_feed_38 : decode cX6_feed 38 = .ok (.invokevirtual 58, 3) := by decide +kernel
theorem dX6_feed_41 : decode cX6_feed 41 = .ok (.aload_n 0, 1) := by decide +kernel
theorem dX6_feed_42 : decode cX6_feed 42 = .ok (.getfield 10, 3) := by decide +kernel
theorem dX6_feed_45 : decode cX6_feed 45 = .ok (.iload 4, 2) := by decide +kernel
theorem dX6_feed_47 : decode cX6_feed 47 = .ok (.invokevirtual 58, 3) := by decide +kernel
theorem dX6_feed_50 : decode cX6_feed 50 = .ok (.aload_n 0, 1) := by decide +kernel
theorem dX6_feed_51 : decode cX6_feed 51 = .ok (.getfield 10, 3) := by decide +kernel
theorem dX6_feed_54 : decode cX6_feed 54 = .ok (.iload 5, 2) := by decide +kernel
theorem dX6_feed_56 : decode cX6_feed 56 = .ok (.invokevirtual 58, 3) := by decide +kernel
theorem dX6_feed_59 : decode cX6_feed 59 = .ok (.aload_n 0, 1) := by decide +kernel
theorem dX6_feed_60 : decode cX6_feed 60 = .ok (.getfield 10, 3) := by decide +kernel
theorem dX6_feed_63 : decode cX6_feed 63 = .ok (.getfield 55, 3) := by decide +kernel
theorem dX6_feed_66 : decode cX6_feed 66 = .ok (.ireturn, 1) := by decide +kernel
set_option maxRecDepth 20000 in
theorem ggX6_law_X6_changeable : GoodIn wsX6_law wsX6_changeable := goodIn_r _ [8, 9, 10, 11, 12, 13, 14, 15, 16, 17, 18, 19, 20, 7, 21, 22, 23, 24, 25, 26, 145, 146, 147, 148, 149, 150, 151, 152, 153, 158, 159, 160] (by decide +kernel) (by decide +kernel)
set_option maxRecDepth 20000 in
theorem gX6_law_X6_changeable : GoodIn wsX6_law (wsV RX6 62 RX6 yX6_changeable wsX6_changeable) := goodIn_app (goodIn_of _ (by decide +kernel)) ggX6_law_X6_changeable
set_option maxRecDepth 20000 in
theorem ggX6_law_X5_offers : GoodIn wsX6_law wsX5_offers := goodIn_r _ [31, 32, 161, 162] (by decide +kernel) (by decide +kernel)
set_option maxRecDepth 20000 in
theorem gX6_law_X5_offers : GoodIn wsX6_law (wsV RX6 66 RX5 yX5_offers wsX5_offers) := goodIn_app (goodIn_of _ (by decide +kernel)) ggX6_law_X5_offers
set_option maxRecDepth 20000 in
theorem ggX6_law_X6_readTape : GoodIn wsX6_law wsX6_readTape := goodIn_r _ [36, 2, 37, 1, 38, 39, 40, 41, 42, 43, 44, 45, 46, 47, 48, 49, 50, 51, 52, 53, 54, 55, 56, 57, 58, 59, 60, 61, 62, 63, 30, 64, 32, 65, 66, 67, 68, 69, 70, 71, 72, 73, 74, 75, 76, 77, 78, 79, 80, 81, 82, 83, 84, 85, 86, 87, 88, 89, 90, 91, 92, 93, 94, 95, 96, 97, 98, 99, 100, 101, 102, 103, 104, 105, 106, 107, 108, 109, 110, 145, 146, 147, 148, 149, 150, 151, 152, 153, 163, 164, 165, 166, 167, 168, 169, 170, 161, 162] (by decide +kernel) (by decide +kernel)
set_option maxRecDepth 20000 in
theorem gX6_law_X6_readTape : GoodIn wsX6_law (wsV RX6 70 RX6 yX6_readTape wsX6_readTape) := goodIn_app (goodIn_of _ (by decide +kernel)) ggX6_law_X6_readTape
set_option maxRecDepth 20000 in
theorem ggX6_law_X3_formula : GoodIn wsX6_law wsX3_formula := goodIn_r _ [114, 115, 116, 117, 47, 77, 45, 118, 119, 120, 121, 122, 123, 124, 125, 126, 127, 128, 129, 130, 131, 132, 133, 134, 135, 136, 79, 80, 81, 137, 138, 139, 140, 141, 142, 143, 144, 171, 172, 163, 164, 165, 166, 167, 168, 169, 170] (by decide +kernel) (by decide +kernel)
set_option maxRecDepth 20000 in
theorem gX6_law_X3_formula : GoodIn wsX6_law (wsV RX6 73 RX3 yX3_formula wsX3_formula) := goodIn_app (goodIn_of _ (by decide +kernel)) ggX6_law_X3_formula
theorem dX6_law_0 : decode cX6_law 0 = .ok (.aload_n 0, 1) := by decide +kernel
theorem dX6_law_1 : decode cX6_law 1 = .ok (.iload_n 1, 1) := by decide +kernel
theorem dX6_law_2 : decode cX6_law 2 = .ok (.invokevirtual 62, 3) := by decide +kernel
theorem dX6_law_5 : decode cX6_law 5 = .ok (.astore_n 3, 1) := by decide +kernel
theorem dX6_law_6 : decode cX6_law 6 = .ok (.aload_n 3, 1) := by decide +kernel
theorem dX6_law_7 : decode cX6_law 7 = .ok (.ifnull 22, 3) := by decide +kernel
theorem dX6_law_10 : decode cX6_law 10 = .ok (.aload_n 0, 1) := by decide +kernel
theorem dX6_law_11 : decode cX6_law 11 = .ok (.getfield 10, 3) := by decide +kernel
theorem dX6_law_14 : decode cX6_law 14 = .ok (.iload_n 2, 1) := by decide +kernel
theorem dX6_law_15 : decode cX6_law 15 = .ok (.invokevirtual 66, 3) := by decide +kernel
theorem dX6_law_18 : decode cX6_law 18 = .ok (.ifCond .eq 11, 3) := by decide +kernel
theorem dX6_law_21 : decode cX6_law 21 = .ok (.aload_n 0, 1) := by decide +kernel
theorem dX6_law_22 : decode cX6_law 22 = .ok (.iload_n 2, 1) := by decide +kernel
theorem dX6_law_23 : decode cX6_law 23 = .ok (.invokevirtual 70, 3) := by decide +kernel
theorem dX6_law_26 : decode cX6_law 26 = .ok (.ifCond .ne 5, 3) := by decide +kernel
theorem dX6_law_29 : decode cX6_law 29 = .ok (.iconst 0, 1) := by decide +kernel
theorem dX6_law_30 : decode cX6_law 30 = .ok (.ireturn, 1) := by decide +kernel
theorem dX6_law_31 : decode cX6_law 31 = .ok (.aload_n 3, 1) := by decide +kernel
theorem dX6_law_32 : decode cX6_law 32 = .ok (.aload_n 0, 1) := by decide +kernel
theorem dX6_law_33 : decode cX6_law 33 = .ok (.getfield 21, 3) := by decide +kernel
theorem dX6_law_36 : decode cX6_law 36 = .ok (.invokevirtual 73, 3) := by decide +kernel
theorem dX6_law_39 : decode cX6_law 39 = .ok (.putfield 77, 3) := by decide +kernel
theorem dX6_law_42 : decode cX6_law 42 = .ok (.iconst 1, 1) := by decide +kernel
theorem dX6_law_43 : decode cX6_law 43 = .ok (.ireturn, 1) := by decide +kernel
set_option maxRecDepth 20000 in
theorem ggX6_picture_X6_changeable : GoodIn wsX6_picture wsX6_changeable := goodIn_r _ [8, 9, 10, 11, 12, 13, 14, 15, 16, 17, 18, 19, 20, 7, 21, 22, 23, 24, 25, 26, 158, 159, 160, 161, 162, 163, 164, 165, 166, 167, 168, 169] (by decide +kernel) (by decide +kernel)
set_option maxRecDepth 20000 in
theorem gX6_picture_X6_changeable : GoodIn wsX6_picture (wsV RX6 62 RX6 yX6_changeable wsX6_changeable) := goodIn_app (goodIn_of _ (by decide +kernel)) ggX6_picture_X6_changeable
set_option maxRecDepth 20000 in
theorem ggX6_picture_X5_offers : GoodIn wsX6_picture wsX5_offers := goodIn_r _ [31, 32, 170, 171] (by decide +kernel) (by decide +kernel)
set_option maxRecDepth 20000 in
theorem gX6_picture_X5_offers : GoodIn wsX6_picture (wsV RX6 66 RX5 yX5_offers wsX5_offers) := goodIn_app (goodIn_of _ (by decide +kernel)) ggX6_picture_X5_offers
set_option maxRecDepth 20000 in
theorem ggX6_picture_X6_readTape : GoodIn wsX6_picture wsX6_readTape := goodIn_r _ [36, 3, 37, 2, 38, 39, 40, 41, 42, 43, 44, 45, 46, 47, 48, 49, 50, 51, 52, 53, 54, 55, 56, 57, 58, 59, 60, 61, 62, 63, 30, 64, 32, 65, 66, 67, 68, 69, 70, 71, 72, 73, 74, 75, 76, 77, 78, 79, 80, 81, 82, 83, 84, 85, 86, 87, 88, 89, 90, 91, 92, 93, 94, 95, 96, 97, 98, 99, 100, 101, 102, 103, 104, 105, 106, 107, 108, 109, 110, 158, 159, 160, 161, 162, 163, 164, 165, 166, 172, 173, 174, 175, 176, 177, 178, 179, 170, 171] (by decide +kernel) (by decide +kernel)
set_option maxRecDepth 20000 in
theorem gX6_picture_X6_readTape : GoodIn wsX6_picture (wsV RX6 70 RX6 yX6_readTape wsX6_readTape) := goodIn_app (goodIn_of _ (by decide +kernel)) ggX6_picture_X6_readTape
set_option maxRecDepth 20000 in
theorem ggX6_picture_X3_formula : GoodIn wsX6_picture wsX3_formula := goodIn_r _ [114, 115, 116, 117, 47, 77, 45, 118, 119, 120, 121, 122, 123, 124, 125, 126, 127, 128, 129, 130, 131, 132, 133, 134, 135, 136, 79, 80, 81, 137, 138, 139, 140, 141, 142, 143, 144, 180, 181, 172, 173, 174, 175, 176, 177, 178, 179] (by decide +kernel) (by decide +kernel)
set_option maxRecDepth 20000 in
theorem gX6_picture_X3_formula : GoodIn wsX6_picture (wsV RX6 73 RX3 yX3_formula wsX3_formula) := goodIn_app (goodIn_of _ (by decide +kernel)) ggX6_picture_X3_formula
set_option maxRecDepth 20000 in
theorem ggX6_picture_X2_addPicture : GoodIn wsX6_picture wsX2_addPicture := goodIn_r _ [149, 150, 151, 152, 153, 20, 7, 21, 154, 155, 156, 157, 180, 181] (by decide +kernel) (by decide +kernel)
set_option maxRecDepth 20000 in
theorem gX6_picture_X2_addPicture : GoodIn wsX6_picture (wsV RX6 86 RX2 yX2_addPicture wsX2_addPicture) := goodIn_app (goodIn_of _ (by decide +kernel)) ggX6_picture_X2_addPicture
theorem dX6_picture_0 : decode cX6_picture 0 = .ok (.aload_n 0, 1) := by decide +kernel
theorem dX6_picture_1 : decode cX6_picture 1 = .ok (.iload_n 1, 1) := by decide +kernel
theorem dX6_picture_2 : decode cX6_picture 2 = .ok (.invokevirtual 62, 3) := by decide +kernel
theorem dX6_picture_5 : decode cX6_picture 5 = .ok (.astore_n 3, 1) := by decide +kernel
theorem dX6_picture_6 : decode cX6_picture 6 = .ok (.aload_n 3, 1) := by decide +kernel
theorem dX6_picture_7 : decode cX6_picture 7 = .ok (.ifnull 23, 3) := by decide +kernel
theorem dX6_picture_10 : decode cX6_picture 10 = .ok (.aload_n 3, 1) := by decide +kernel
theorem dX6_picture_11 : decode cX6_picture 11 = .ok (.getfield 83, 3) := by decide +kernel
theorem dX6_picture_14 : decode cX6_picture 14 = .ok (.bipush 12, 2) := by decide +kernel
theorem dX6_picture_16 : decode cX6_picture 16 = .ok (.if_icmp .ge 14, 3) := by decide +kernel
theorem dX6_picture_19 : decode cX6_picture 19 = .ok (.aload_n 0, 1) := by decide +kernel
theorem dX6_picture_20 : decode cX6_picture 20 = .ok (.getfield 10, 3) := by decide +kernel
theorem dX6_picture_23 : decode cX6_picture 23 = .ok (.iload_n 2, 1) := by decide +kernel
theorem dX6_picture_24 : decode cX6_picture 24 = .ok (.invokevirtual 66, 3) := by decide +kernel
theorem dX6_picture_27 : decode cX6_picture 27 = .ok (.ifCond .ne 6, 3) := by decide +kernel
theorem dX6_picture_30 : decode cX6_picture 30 = .ok (.bipush (-2), 2) := by decide +kernel
theorem dX6_picture_32 : decode cX6_picture 32 = .ok (.ireturn, 1) := by decide +kernel
theorem dX6_picture_33 : decode cX6_picture 33 = .ok (.aload_n 0, 1) := by decide +kernel
theorem dX6_picture_34 : decode cX6_picture 34 = .ok (.iload_n 2, 1) := by decide +kernel
theorem dX6_picture_35 : decode cX6_picture 35 = .ok (.invokevirtual 70, 3) := by decide +kernel
theorem dX6_picture_38 : decode cX6_picture 38 = .ok (.ifCond .eq 17, 3) := by decide +kernel
theorem dX6_picture_41 : decode cX6_picture 41 = .ok (.aload_n 3, 1) := by decide +kernel
theorem dX6_picture_42 : decode cX6_picture 42 = .ok (.aload_n 0, 1) := by decide +kernel
theorem dX6_picture_43 : decode cX6_picture 43 = .ok (.getfield 21, 3) := by decide +kernel
theorem dX6_picture_46 : decode cX6_picture 46 = .ok (.invokevirtual 73, 3) := by decide +kernel
theorem dX6_picture_49 : decode cX6_picture 49 = .ok (.invokevirtual 86, 3) := by decide +kernel
theorem dX6_picture_52 : decode cX6_picture 52 = .ok (.goto 4, 3) := by decide +kernel
theorem dX6_picture_55 : decode cX6_picture 55 = .ok (.iconst (-1), 1) := by decide +kernel
theorem dX6_picture_56 : decode cX6_picture 56 = .ok (.ireturn, 1) := by decide +kernel
theorem dX6_fault_0 : decode cX6_fault 0 = .ok (.aload_n 0, 1) := by decide +kernel
theorem dX6_fault_1 : decode cX6_fault 1 = .ok (.getfield 43, 3) := by decide +kernel
theorem dX6_fault_4 : decode cX6_fault 4 = .ok (.ireturn, 1) := by decide +kernel
set_option maxRecDepth 20000 in
theorem ggX6_tells_X6_formulaAt : GoodIn wsX6_tells wsX6_formulaAt := goodIn_r _ [6, 7, 8, 9, 10, 11, 12, 13, 14, 15, 16, 17, 18, 19, 20, 21, 22, 23, 24, 33, 34, 35, 36, 37, 38, 39, 40, 41, 42, 43, 44, 45, 46, 47, 48] (by decide +kernel) (by decide +kernel)
set_option maxRecDepth 20000 in
theorem gX6_tells_X6_formulaAt : GoodIn wsX6_tells (wsV RX6 90 RX6 yX6_formulaAt wsX6_formulaAt) := goodIn_app (goodIn_of _ (by decide +kernel)) ggX6_tells_X6_formulaAt
set_option maxRecDepth 20000 in
theorem ggX6_tells_X6_isCase : GoodIn wsX6_tells wsX6_isCase := goodIn_r _ [27] (by decide +kernel) (by decide +kernel)
set_option maxRecDepth 20000 in
theorem gX6_tells_X6_isCase : GoodIn wsX6_tells (va_wsS RX6 94 yX6_isCase wsX6_isCase) := goodIn_app (goodIn_of _ (by decide +kernel)) ggX6_tells_X6_isCase
set_option maxRecDepth 20000 in
theorem ggX6_tells_X6_bitAt : GoodIn wsX6_tells wsX6_bitAt := goodIn_r _ [30] (by decide +kernel) (by decide +kernel)
set_option maxRecDepth 20000 in
theorem gX6_tells_X6_bitAt : GoodIn wsX6_tells (va_wsS RX6 102 yX6_bitAt wsX6_bitAt) := goodIn_app (goodIn_of _ (by decide +kernel)) ggX6_tells_X6_bitAt
theorem dX6_tells_0 : decode cX6_tells 0 = .ok (.aload_n 0, 1) := by decide +kernel
theorem dX6_tells_1 : decode cX6_tells 1 = .ok (.iload_n 1, 1) := by decide +kernel
theorem dX6_tells_2 : decode cX6_tells 2 = .ok (.iload_n 2, 1) := by decide +kernel
theorem dX6_tells_3 : decode cX6_tells 3 = .ok (.invokevirtual 90, 3) := by decide +kernel
theorem dX6_tells_6 : decode cX6_tells 6 = .ok (.astore 4, 2) := by decide +kernel
theorem dX6_tells_8 : decode cX6_tells 8 = .ok (.aload 4, 2) := by decide +kernel
theorem dX6_tells_10 : decode cX6_tells 10 = .ok (.ifnull 10, 3) := by decide +kernel
theorem dX6_tells_13 : decode cX6_tells 13 = .ok (.iload_n 3, 1) := by decide +kernel
theorem dX6_tells_14 : decode cX6_tells 14 = .ok (.invokestatic 94, 3) := by decide +kernel
theorem dX6_tells_17 : decode cX6_tells 17 = .ok (.ifCond .ne 7, 3) := by decide +kernel
theorem dX6_tells_20 : decode cX6_tells 20 = .ok (.iconst (-1), 1) := by decide +kernel
theorem dX6_tells_21 : decode cX6_tells 21 = .ok (.goto 12, 3) := by decide +kernel
theorem dX6_tells_24 : decode cX6_tells 24 = .ok (.aload 4, 2) := by decide +kernel
theorem dX6_tells_26 : decode cX6_tells 26 = .ok (.getfield 97, 3) := by decide +kernel
theorem dX6_tells_29 : decode cX6_tells 29 = .ok (.iload_n 3, 1) := by decide +kernel
theorem dX6_tells_30 : decode cX6_tells 30 = .ok (.invokestatic 102, 3) := by decide +kernel
theorem dX6_tells_33 : decode cX6_tells 33 = .ok (.ireturn, 1) := by decide +kernel
set_option maxRecDepth 20000 in
theorem ggX6_written_X6_formulaAt : GoodIn wsX6_written wsX6_formulaAt := goodIn_r _ [5, 6, 7, 8, 9, 10, 11, 12, 13, 14, 15, 16, 17, 18, 19, 20, 21, 22, 23, 34, 35, 36, 37, 38, 39, 40, 41, 42, 43, 44, 45, 46, 47, 48, 49] (by decide +kernel) (by decide +kernel)
set_option maxRecDepth 20000 in
theorem gX6_written_X6_formulaAt : GoodIn wsX6_written (wsV RX6 90 RX6 yX6_formulaAt wsX6_formulaAt) := goodIn_app (goodIn_of _ (by decide +kernel)) ggX6_written_X6_formulaAt
set_option maxRecDepth 20000 in
theorem ggX6_written_X1_length : GoodIn wsX6_written wsX1_length := goodIn_r _ [28, 29, 50, 51] (by decide +kernel) (by decide +kernel)
set_option maxRecDepth 20000 in
theorem gX6_written_X1_length : GoodIn wsX6_written (wsV RX6 106 RX1 yX1_length wsX1_length) := goodIn_app (goodIn_of _ (by decide +kernel)) ggX6_written_X1_length
set_option maxRecDepth 20000 in
theorem ggX6_written_X1_byteAt : GoodIn wsX6_written wsX1_byteAt := goodIn_r _ [33, 29, 50, 51] (by decide +kernel) (by decide +kernel)
set_option maxRecDepth 20000 in
theorem gX6_written_X1_byteAt : GoodIn wsX6_written (wsV RX6 109 RX1 yX1_byteAt wsX1_byteAt) := goodIn_app (goodIn_of _ (by decide +kernel)) ggX6_written_X1_byteAt
theorem dX6_written_0 : decode cX6_written 0 = .ok (.aload_n 0, 1) := by decide +kernel
theorem dX6_written_1 : decode cX6_written 1 = .ok (.iload_n 1, 1) := by decide +kernel
theorem dX6_written_2 : decode cX6_written 2 = .ok (.iload_n 2, 1) := by decide +kernel
theorem dX6_written_3 : decode cX6_written 3 = .ok (.invokevirtual 90, 3) := by decide +kernel
theorem dX6_written_6 : decode cX6_written 6 = .ok (.astore 4, 2) := by decide +kernel
theorem dX6_written_8 : decode cX6_written 8 = .ok (.aload 4, 2) := by decide +kernel
theorem dX6_written_10 : decode cX6_written 10 = .ok (.ifnonnull 5, 3) := by decide +kernel
theorem dX6_written_13 : decode cX6_written 13 = .ok (.iconst (-1), 1) := by decide +kernel
theorem dX6_written_14 : decode cX6_written 14 = .ok (.ireturn, 1) := by decide +kernel
theorem dX6_written_15 : decode cX6_written 15 = .ok (.iload_n 3, 1) := by decide +kernel
theorem dX6_written_16 : decode cX6_written 16 = .ok (.iconst (-1), 1) := by decide +kernel
theorem dX6_written_17 : decode cX6_written 17 = .ok (.if_icmp .ne 11, 3) := by decide +kernel
theorem dX6_written_20 : decode cX6_written 20 = .ok (.aload 4, 2) := by decide +kernel
theorem dX6_written_22 : decode cX6_written 22 = .ok (.invokevirtual 106, 3) := by decide +kernel
theorem dX6_written_25 : decode cX6_written 25 = .ok (.goto 9, 3) := by decide +kernel
theorem dX6_written_28 : decode cX6_written 28 = .ok (.aload 4, 2) := by decide +kernel
theorem dX6_written_30 : decode cX6_written 30 = .ok (.iload_n 3, 1) := by decide +kernel
theorem dX6_written_31 : decode cX6_written 31 = .ok (.invokevirtual 109, 3) := by decide +kernel
theorem dX6_written_34 : decode cX6_written 34 = .ok (.ireturn, 1) := by decide +kernel
set_option maxRecDepth 20000 in
theorem ggX6_needs_X0_addNeed : GoodIn wsX6_needs wsX0_addNeed := goodIn_r _ [6, 7, 8, 9, 5, 10, 11, 12, 13, 14, 15, 16, 17, 27, 28, 29] (by decide +kernel) (by decide +kernel)
set_option maxRecDepth 20000 in
theorem gX6_needs_X0_addNeed : GoodIn wsX6_needs (wsV RX6 113 RX0 yX0_addNeed wsX0_addNeed) := goodIn_app (goodIn_of _ (by decide +kernel)) ggX6_needs_X0_addNeed
theorem dX6_needs_0 : decode cX6_needs 0 = .ok (.aload_n 0, 1) := by decide +kernel
theorem dX6_needs_1 : decode cX6_needs 1 = .ok (.getfield 28, 3) := by decide +kernel
theorem dX6_needs_4 : decode cX6_needs 4 = .ok (.iload_n 1, 1) := by decide +kernel
theorem dX6_needs_5 : decode cX6_needs 5 = .ok (.iload_n 2, 1) := by decide +kernel
theorem dX6_needs_6 : decode cX6_needs 6 = .ok (.invokevirtual 113, 3) := by decide +kernel
theorem dX6_needs_9 : decode cX6_needs 9 = .ok (.ireturn, 1) := by decide +kernel
set_option maxRecDepth 20000 in
theorem ggX6_open_X0_mayBegin : GoodIn wsX6_open wsX0_mayBegin := goodIn_r _ [6, 7, 8, 9, 10, 11, 12, 5, 13, 14, 15, 16, 17, 18, 19, 20, 21, 22, 23, 24, 34, 35, 36, 37, 38, 39, 40] (by decide +kernel) (by decide +kernel)
set_option maxRecDepth 20000 in
theorem gX6_open_X0_mayBegin : GoodIn wsX6_open (wsV RX6 117 RX0 yX0_mayBegin wsX0_mayBegin) := goodIn_app (goodIn_of _ (by decide +kernel)) ggX6_open_X0_mayBegin
theorem dX6_open_0 : decode cX6_open 0 = .ok (.iconst 0, 1) := by decide +kernel
theorem dX6_open_1 : decode cX6_open 1 = .ok (.istore_n 1, 1) := by decide +kernel
theorem dX6_open_2 : decode cX6_open 2 = .ok (.iload_n 1, 1) := by decide +kernel
theorem dX6_open_3 : decode cX6_open 3 = .ok (.bipush 6, 2) := by decide +kernel
theorem dX6_open_5 : decode cX6_open 5 = .ok (.if_icmp .ge 22, 3) := by decide +kernel
theorem dX6_open_8 : decode cX6_open 8 = .ok (.aload_n 0, 1) := by decide +kernel
theorem dX6_open_9 : decode cX6_open 9 = .ok (.getfield 28, 3) := by decide +kernel
theorem dX6_open_12 : decode cX6_open 12 = .ok (.iload_n 1, 1) := by decide +kernel
theorem dX6_open_13 : decode cX6_open 13 = .ok (.invokevirtual 117, 3) := by decide +kernel
theorem dX6_open_16 : decode cX6_open 16 = .ok (.ifCond .eq 5, 3) := by decide +kernel
theorem dX6_open_19 : decode cX6_open 19 = .ok (.iload_n 1, 1) := by decide +kernel
theorem dX6_open_20 : decode cX6_open 20 = .ok (.ireturn, 1) := by decide +kernel
theorem dX6_open_21 : decode cX6_open 21 = .ok (.iinc 1 1, 3) := by decide +kernel
theorem dX6_open_24 : decode cX6_open 24 = .ok (.goto (-22), 3) := by decide +kernel
theorem dX6_open_27 : decode cX6_open 27 = .ok (.iconst (-1), 1) := by decide +kernel
theorem dX6_open_28 : decode cX6_open 28 = .ok (.ireturn, 1) := by decide +kernel
set_option maxRecDepth 20000 in
theorem ggX6_begin_X0_mayBegin : GoodIn wsX6_begin wsX0_mayBegin := goodIn_r _ [8, 9, 10, 11, 12, 13, 14, 7, 15, 16, 17, 18, 19, 20, 21, 22, 23, 24, 25, 26, 53, 54, 55, 56, 57, 58, 59] (by decide +kernel) (by decide +kernel)
set_option maxRecDepth 20000 in
theorem gX6_begin_X0_mayBegin : GoodIn wsX6_begin (wsV RX6 117 RX0 yX0_mayBegin wsX0_mayBegin) := goodIn_app (goodIn_of _ (by decide +kernel)) ggX6_begin_X0_mayBegin
set_option maxRecDepth 20000 in
theorem ggX6_begin_X4_clear : GoodIn wsX6_begin wsX4_clear := goodIn_r _ [31, 32, 33, 34, 35, 36, 37, 38, 39, 40, 41, 42, 43, 60, 61, 62, 63, 64, 65, 66, 67, 68] (by decide +kernel) (by decide +kernel)
set_option maxRecDepth 20000 in
theorem gX6_begin_X4_clear : GoodIn wsX6_begin (wsV RX6 120 RX4 yX4_clear wsX4_clear) := goodIn_app (goodIn_of _ (by decide +kernel)) ggX6_begin_X4_clear
theorem dX6_begin_0 : decode cX6_begin 0 = .ok (.aload_n 0, 1) := by decide +kernel
theorem dX6_begin_1 : decode cX6_begin 1 = .ok (.getfield 28, 3) := by decide +kernel
theorem dX6_begin_4 : decode cX6_begin 4 = .ok (.iload_n 1, 1) := by decide +kernel
theorem dX6_begin_5 : decode cX6_begin 5 = .ok (.invokevirtual 117, 3) := by decide +kernel
theorem dX6_begin_8 : decode cX6_begin 8 = .ok (.ifCond .ne 5, 3) := by decide +kernel
theorem dX6_begin_11 : decode cX6_begin 11 = .ok (.iconst 0, 1) := by decide +kernel
theorem dX6_begin_12 : decode cX6_begin 12 = .ok (.ireturn, 1) := by decide +kernel
theorem dX6_begin_13 : decode cX6_begin 13 = .ok (.aload_n 0, 1) := by decide +kernel
theorem dX6_begin_14 : decode cX6_begin 14 = .ok (.iload_n 1, 1) := by decide +kernel
theorem dX6_begin_15 : decode cX6_begin 15 = .ok (.putfield 39, 3) := by decide +kernel
theorem dX6_begin_18 : decode cX6_begin 18 = .ok (.aload_n 0, 1) := by decide +kernel
theorem dX6_begin_19 : decode cX6_begin 19 = .ok (.getfield 35, 3) := by decide +kernel
theorem dX6_begin_22 : decode cX6_begin 22 = .ok (.invokevirtual 120, 3) := by decide +kernel
theorem dX6_begin_25 : decode cX6_begin 25 = .ok (.iconst 1, 1) := by decide +kernel
theorem dX6_begin_26 : decode cX6_begin 26 = .ok (.ireturn, 1) := by decide +kernel
set_option maxRecDepth 20000 in
theorem ggX6_set_X6_endIfDone : GoodIn wsX6_set wsX6_endIfDone := goodIn_r _ [8, 9, 10, 11, 3, 12, 13, 14, 15, 16, 17, 18, 19, 20, 21, 22, 23, 24, 25, 26, 27, 28, 29, 30, 31, 32, 33, 34, 35, 36, 37, 38, 39, 40, 41, 42] (by decide +kernel) (by decide +kernel)
set_option maxRecDepth 20000 in
theorem gX6_set_X6_endIfDone : GoodIn wsX6_set (wsV RX6 123 RX6 yX6_endIfDone wsX6_endIfDone) := goodIn_app (goodIn_of _ (by decide +kernel)) ggX6_set_X6_endIfDone
theorem dX6_set_0 : decode cX6_set 0 = .ok (.iload_n 1, 1) := by decide +kernel
theorem dX6_set_1 : decode cX6_set 1 = .ok (.tableswitch 88 0 2 #[27, 45, 64], 27) := by decide +kernel
theorem dX6_set_28 : decode cX6_set 28 = .ok (.iload_n 2, 1) := by decide +kernel
theorem dX6_set_29 : decode cX6_set 29 = .ok (.ifCond .lt 8, 3) := by decide +kernel
theorem dX6_set_32 : decode cX6_set 32 = .ok (.iload_n 2, 1) := by decide +kernel
theorem dX6_set_33 : decode cX6_set 33 = .ok (.iconst 3, 1) := by decide +kernel
theorem dX6_set_34 : decode cX6_set 34 = .ok (.if_icmp .le 5, 3) := by decide +kernel
theorem dX6_set_37 : decode cX6_set 37 = .ok (.iconst 0, 1) := by decide +kernel
theorem dX6_set_38 : decode cX6_set 38 = .ok (.ireturn, 1) := by decide +kernel
theorem dX6_set_39 : decode cX6_set 39 = .ok (.aload_n 0, 1) := by decide +kernel
theorem dX6_set_40 : decode cX6_set 40 = .ok (.iload_n 2, 1) := by decide +kernel
theorem dX6_set_41 : decode cX6_set 41 = .ok (.putfield 46, 3) := by decide +kernel
theorem dX6_set_44 : decode cX6_set 44 = .ok (.iconst 1, 1) := by decide +kernel
theorem dX6_set_45 : decode cX6_set 45 = .ok (.ireturn, 1) := by decide +kernel
theorem dX6_set_46 : decode cX6_set 46 = .ok (.iload_n 2, 1) := by decide +kernel
theorem dX6_set_47 : decode cX6_set 47 = .ok (.iconst 1, 1) := by decide +kernel
theorem dX6_set_48 : decode cX6_set 48 = .ok (.if_icmp .lt 8, 3) := by decide +kernel
theorem dX6_set_51 : decode cX6_set 51 = .ok (.iload_n 2, 1) := by decide +kernel
theorem dX6_set_52 : decode cX6_set 52 = .ok (.iconst 5, 1) := by decide +kernel
theorem dX6_set_53 : decode cX6_set 53 = .ok (.if_icmp .le 5, 3) := by decide +kernel
theorem dX6_set_56 : decode cX6_set 56 = .ok (.iconst 0, 1) := by decide +kernel
theorem dX6_set_57 : decode cX6_set 57 = .ok (.ireturn, 1) := by decide +kernel
theorem dX6_set_58 : decode cX6_set 58 = .ok (.aload_n 0, 1) := by decide +kernel
theorem dX6_set_59 : decode cX6_set 59 = .ok (.iload_n 2, 1) := by decide +kernel
theorem dX6_set_60 : decode cX6_set 60 = .ok (.putfield 49, 3) := by decide +kernel
theorem dX6_set_63 : decode cX6_set 63 = .ok (.iconst 1, 1) := by decide +kernel
theorem dX6_set_64 : decode cX6_set 64 = .ok (.ireturn, 1) := by decide +kernel
theorem dX6_set_65 : decode cX6_set 65 = .ok (.iload_n 2, 1) := by decide +kernel
theorem dX6_set_66 : decode cX6_set 66 = .ok (.iconst 1, 1) := by decide +kernel
theorem dX6_set_67 : decode cX6_set 67 = .ok (.if_icmp .lt 9, 3) := by decide +kernel
theorem dX6_set_70 : decode cX6_set 70 = .ok (.iload_n 2, 1) := by decide +kernel
theorem dX6_set_71 : decode cX6_set 71 = .ok (.bipush 8, 2) := by decide +kernel
theorem dX6_set_73 : decode cX6_set 73 = .ok (.if_icmp .le 5, 3) := by decide +kernel
theorem dX6_set_76 : decode cX6_set 76 = .ok (.iconst 0, 1) := by decide +kernel
theorem dX6_set_77 : decode cX6_set 77 = .ok (.ireturn, 1) := by decide +kernel
theorem dX6_set_78 : decode cX6_set 78 = .ok (.aload_n 0, 1) := by decide +kernel
theorem dX6_set_79 : decode cX6_set 79 = .ok (.iload_n 2, 1) := by decide +kernel
theorem dX6_set_80 : decode cX6_set 80 = .ok (.putfield 52, 3) := by decide +kernel
theorem dX6_set_83 : decode cX6_set 83 = .ok (.aload_n 0, 1) := by decide +kernel
theorem dX6_set_84 : decode cX6_set 84 = .ok (.invokevirtual 123, 3) := by decide +kernel
theorem dX6_set_87 : decode cX6_set 87 = .ok (.iconst 1, 1) := by decide +kernel
theorem dX6_set_88 : decode cX6_set 88 = .ok (.ireturn, 1) := by decide +kernel
theorem dX6_set_89 : decode cX6_set 89 = .ok (.iconst 0, 1) := by decide +kernel
theorem dX6_set_90 : decode cX6_set 90 = .ok (.ireturn, 1) := by decide +kernel
set_option maxRecDepth 20000 in
theorem ggX6_answer_X6_begunLaw : GoodIn wsX6_answer wsX6_begunLaw := goodIn_r _ [10, 2, 11, 12, 13, 9, 14, 1, 15, 16, 17, 18, 19, 20, 21, 22, 23, 24, 25, 26, 27, 28, 29, 30, 31, 65, 66, 67, 68, 69, 70, 71, 72, 73, 85, 86, 87, 88, 89, 90, 91] (by decide +kernel) (by decide +kernel)
set_option maxRecDepth 20000 in
theorem gX6_answer_X6_begunLaw : GoodIn wsX6_answer (wsV RX6 126 RX6 yX6_begunLaw wsX6_begunLaw) := goodIn_app (goodIn_of _ (by decide +kernel)) ggX6_answer_X6_begunLaw
set_option maxRecDepth 20000 in
theorem ggX6_answer_X0_isDone : GoodIn wsX6_answer wsX0_isDone := goodIn_r _ [35, 36, 22, 23, 19, 24, 37, 9, 38, 89, 90, 91] (by decide +kernel) (by decide +kernel)
set_option maxRecDepth 20000 in
theorem gX6_answer_X0_isDone : GoodIn wsX6_answer (wsV RX6 129 RX0 yX0_isDone wsX0_isDone) := goodIn_app (goodIn_of _ (by decide +kernel)) ggX6_answer_X0_isDone
set_option maxRecDepth 20000 in
theorem ggX6_answer_X6_isCase : GoodIn wsX6_answer wsX6_isCase := goodIn_r _ [41] (by decide +kernel) (by decide +kernel)
set_option maxRecDepth 20000 in
theorem gX6_answer_X6_isCase : GoodIn wsX6_answer (va_wsS RX6 94 yX6_isCase wsX6_isCase) := goodIn_app (goodIn_of _ (by decide +kernel)) ggX6_answer_X6_isCase
set_option maxRecDepth 20000 in
theorem ggX6_answer_X6_bitAt : GoodIn wsX6_answer wsX6_bitAt := goodIn_r _ [38] (by decide +kernel) (by decide +kernel)
set_option maxRecDepth 20000 in
theorem gX6_answer_X6_bitAt : GoodIn wsX6_answer (va_wsS RX6 102 yX6_bitAt wsX6_bitAt) := goodIn_app (goodIn_of _ (by decide +kernel)) ggX6_answer_X6_bitAt
set_option maxRecDepth 20000 in
theorem ggX6_answer_X4_addAnswer : GoodIn wsX6_answer wsX4_addAnswer := goodIn_r _ [47, 48, 49, 50, 51, 52, 53, 54, 40, 9, 41, 37, 38, 74, 75, 76, 77, 78, 79, 80, 81, 82] (by decide +kernel) (by decide +kernel)
set_option maxRecDepth 20000 in
theorem gX6_answer_X4_addAnswer : GoodIn wsX6_answer (wsV RX6 135 RX4 yX4_addAnswer wsX4_addAnswer) := goodIn_app (goodIn_of _ (by decide +kernel)) ggX6_answer_X4_addAnswer
set_option maxRecDepth 20000 in
theorem ggX6_answer_X6_endIfDone : GoodIn wsX6_answer wsX6_endIfDone := goodIn_r _ [58, 2, 3, 59, 60, 1, 61, 62, 63, 19, 64, 36, 22, 23, 24, 65, 66, 67, 68, 69, 70, 71, 72, 73, 74, 75, 76, 77, 78, 79, 80, 81, 82, 89, 90, 91] (by decide +kernel) (by decide +kernel)
set_option maxRecDepth 20000 in
theorem gX6_answer_X6_endIfDone : GoodIn wsX6_answer (wsV RX6 123 RX6 yX6_endIfDone wsX6_endIfDone) := goodIn_app (goodIn_of _ (by decide +kernel)) ggX6_answer_X6_endIfDone
theorem dX6_answer_0 : decode cX6_answer 0 = .ok (.aload_n 0, 1) := by decide +kernel
theorem dX6_answer_1 : decode cX6_answer 1 = .ok (.invokevirtual 126, 3) := by decide +kernel
theorem dX6_answer_4 : decode cX6_answer 4 = .ok (.astore_n 3, 1) := by decide +kernel
theorem dX6_answer_5 : decode cX6_answer 5 = .ok (.aload_n 3, 1) := by decide +kernel
theorem dX6_answer_6 : decode cX6_answer 6 = .ok (.ifnull 24, 3) := by decide +kernel
theorem dX6_answer_9 : decode cX6_answer 9 = .ok (.aload_n 0, 1) := by decide +kernel
theorem dX6_answer_10 : decode cX6_answer 10 = .ok (.getfield 28, 3) := by decide +kernel
theorem dX6_answer_13 : decode cX6_answer 13 = .ok (.aload_n 0, 1) := by decide +kernel
theorem dX6_answer_14 : decode cX6_answer 14 = .ok (.getfield 39, 3) := by decide +kernel
theorem dX6_answer_17 : decode cX6_answer 17 = .ok (.invokevirtual 129, 3) := by decide +kernel
theorem dX6_answer_20 : decode cX6_answer 20 = .ok (.ifCond .ne 10, 3) := by decide +kernel
theorem dX6_answer_23 : decode cX6_answer 23 = .ok (.iload_n 1, 1) := by decide +kernel
theorem dX6_answer_24 : decode cX6_answer 24 = .ok (.invokestatic 94, 3) := by decide +kernel
theorem dX6_answer_27 : decode cX6_answer 27 = .ok (.ifCond .ne 5, 3) := by decide +kernel
theorem dX6_answer_30 : decode cX6_answer 30 = .ok (.iconst (-1), 1) := by decide +kernel
theorem dX6_answer_31 : decode cX6_answer 31 = .ok (.ireturn, 1) := by decide +kernel
theorem dX6_answer_32 : decode cX6_answer 32 = .ok (.iload_n 2, 1) := by decide +kernel
theorem dX6_answer_33 : decode cX6_answer 33 = .ok (.ifCond .lt 20, 3) := by decide +kernel
theorem dX6_answer_36 : decode cX6_answer 36 = .ok (.iload_n 2, 1) := by decide +kernel
theorem dX6_answer_37 : decode cX6_answer 37 = .ok (.iconst 1, 1) := by decide +kernel
theorem dX6_answer_38 : decode cX6_answer 38 = .ok (.if_icmp .gt 15, 3) := by decide +kernel
theorem dX6_answer_41 : decode cX6_answer 41 = .ok (.aload_n 0, 1) := by decide +kernel
theorem dX6_answer_42 : decode cX6_answer 42 = .ok (.getfield 35, 3) := by decide +kernel
theorem dX6_answer_45 : decode cX6_answer 45 = .ok (.getfield 132, 3) := by decide +kernel
theorem dX6_answer_48 : decode cX6_answer 48 = .ok (.bipush 40, 2) := by decide +kernel
theorem dX6_answer_50 : decode cX6_answer 50 = .ok (.if_icmp .lt 5, 3) := by decide +kernel
theorem dX6_answer_53 : decode cX6_answer 53 = .ok (.iconst (-1), 1) := by decide +kernel
theorem dX6_answer_54 : decode cX6_answer 54 = .ok (.ireturn, 1) := by decide +kernel
theorem dX6_answer_55 : decode cX6_answer 55 = .ok (.aload_n 3, 1) := by decide +kernel
theorem dX6_answer_56 : decode cX6_answer 56 = .ok (.getfield 97, 3) := by decide +kernel
theorem dX6_answer_59 : decode cX6_answer 59 = .ok (.iload_n 1, 1) := by decide +kernel
theorem dX6_answer_60 : decode cX6_answer 60 = .ok (.invokestatic 102, 3) := by decide +kernel
theorem dX6_answer_63 : decode cX6_answer 63 = .ok (.iload_n 2, 1) := by decide +kernel
theorem dX6_answer_64 : decode cX6_answer 64 = .ok (.if_icmp .ne 7, 3) := by decide +kernel
theorem dX6_answer_67 : decode cX6_answer 67 = .ok (.iconst 1, 1) := by decide +kernel
theorem dX6_answer_68 : decode cX6_answer 68 = .ok (.goto 4, 3) := by decide +kernel
theorem dX6_answer_71 : decode cX6_answer 71 = .ok (.iconst 0, 1) := by decide +kernel
theorem dX6_answer_72 : decode cX6_answer 72 = .ok (.istore 4, 2) := by decide +kernel
theorem dX6_answer_74 : decode cX6_answer 74 = .ok (.aload_n 0, 1) := by decide +kernel
theorem dX6_answer_75 : decode cX6_answer 75 = .ok (.getfield 35, 3) := by decide +kernel
theorem dX6_answer_78 : decode cX6_answer 78 = .ok (.iload_n 1, 1) := by decide +kernel
theorem dX6_answer_79 : decode cX6_answer 79 = .ok (.iload_n 2, 1) := by decide +kernel
theorem dX6_answer_80 : decode cX6_answer 80 = .ok (.iload 4, 2) := by decide +kernel
theorem dX6_answer_82 : decode cX6_answer 82 = .ok (.invokevirtual 135, 3) := by decide +kernel
theorem dX6_answer_85 : decode cX6_answer 85 = .ok (.aload_n 0, 1) := by decide +kernel
theorem dX6_answer_86 : decode cX6_answer 86 = .ok (.invokevirtual 123, 3) := by decide +kernel
theorem dX6_answer_89 : decode cX6_answer 89 = .ok (.iload 4, 2) := by decide +kernel
theorem dX6_answer_91 : decode cX6_answer 91 = .ok (.ifCond .eq 7, 3) := by decide +kernel
theorem dX6_answer_94 : decode cX6_answer 94 = .ok (.iconst 1, 1) := by decide +kernel
theorem dX6_answer_95 : decode cX6_answer 95 = .ok (.goto 4, 3) := by decide +kernel
theorem dX6_answer_98 : decode cX6_answer 98 = .ok (.iconst 0, 1) := by decide +kernel
theorem dX6_answer_99 : decode cX6_answer 99 = .ok (.ireturn, 1) := by decide +kernel
set_option maxRecDepth 20000 in
theorem ggX6_pictureOf_X0_lessonAt : GoodIn wsX6_pictureOf wsX0_lessonAt := goodIn_r _ [10, 11, 12, 13, 9, 14, 69, 70, 71] (by decide +kernel) (by decide +kernel)
set_option maxRecDepth 20000 in
theorem gX6_pictureOf_X0_lessonAt : GoodIn wsX6_pictureOf (wsV RX6 139 RX0 yX0_lessonAt wsX0_lessonAt) := goodIn_app (goodIn_of _ (by decide +kernel)) ggX6_pictureOf_X0_lessonAt
set_option maxRecDepth 20000 in
theorem ggX6_pictureOf_X2_pictureAt : GoodIn wsX6_pictureOf wsX2_pictureAt := goodIn_r _ [19, 20, 21, 72, 73, 74, 75] (by decide +kernel) (by decide +kernel)
set_option maxRecDepth 20000 in
theorem gX6_pictureOf_X2_pictureAt : GoodIn wsX6_pictureOf (wsV RX6 142 RX2 yX2_pictureAt wsX2_pictureAt) := goodIn_app (goodIn_of _ (by decide +kernel)) ggX6_pictureOf_X2_pictureAt
set_option maxRecDepth 20000 in
theorem ggX6_pictureOf_X4_slipsOf : GoodIn wsX6_pictureOf wsX4_slipsOf := goodIn_r _ [26, 27, 28, 29, 25, 30, 31, 32, 33, 34, 35, 36, 37, 76, 77, 78, 79, 80, 81, 82, 83, 84] (by decide +kernel) (by decide +kernel)
set_option maxRecDepth 20000 in
theorem gX6_pictureOf_X4_slipsOf : GoodIn wsX6_pictureOf (wsV RX6 146 RX4 yX4_slipsOf wsX4_slipsOf) := goodIn_app (goodIn_of _ (by decide +kernel)) ggX6_pictureOf_X4_slipsOf
set_option maxRecDepth 20000 in
theorem ggX6_pictureOf_X2_pathOf : GoodIn wsX6_pictureOf wsX2_pathOf := goodIn_r _ [41, 20, 42, 43, 44, 45, 18, 46, 47, 48, 49, 50, 51, 52, 53, 54, 55, 56, 57, 36, 34, 37, 72, 73, 74, 75] (by decide +kernel) (by decide +kernel)
set_option maxRecDepth 20000 in
theorem gX6_pictureOf_X2_pathOf : GoodIn wsX6_pictureOf (wsV RX6 149 RX2 yX2_pathOf wsX2_pathOf) := goodIn_app (goodIn_of _ (by decide +kernel)) ggX6_pictureOf_X2_pathOf
theorem dX6_pictureOf_0 : decode cX6_pictureOf 0 = .ok (.aload_n 0, 1) := by decide +kernel
theorem dX6_pictureOf_1 : decode cX6_pictureOf 1 = .ok (.getfield 28, 3) := by decide +kernel
theorem dX6_pictureOf_4 : decode cX6_pictureOf 4 = .ok (.aload_n 0, 1) := by decide +kernel
theorem dX6_pictureOf_5 : decode cX6_pictureOf 5 = .ok (.getfield 39, 3) := by decide +kernel
theorem dX6_pictureOf_8 : decode cX6_pictureOf 8 = .ok (.invokevirtual 139, 3) := by decide +kernel
theorem dX6_pictureOf_11 : decode cX6_pictureOf 11 = .ok (.astore_n 3, 1) := by decide +kernel
theorem dX6_pictureOf_12 : decode cX6_pictureOf 12 = .ok (.aload_n 3, 1) := by decide +kernel
theorem dX6_pictureOf_13 : decode cX6_pictureOf 13 = .ok (.ifnonnull 5, 3) := by decide +kernel
theorem dX6_pictureOf_16 : decode cX6_pictureOf 16 = .ok (.iconst (-1), 1) := by decide +kernel
theorem dX6_pictureOf_17 : decode cX6_pictureOf 17 = .ok (.ireturn, 1) := by decide +kernel
theorem dX6_pictureOf_18 : decode cX6_pictureOf 18 = .ok (.aload_n 3, 1) := by decide +kernel
theorem dX6_pictureOf_19 : decode cX6_pictureOf 19 = .ok (.iload_n 1, 1) := by decide +kernel
theorem dX6_pictureOf_20 : decode cX6_pictureOf 20 = .ok (.invokevirtual 142, 3) := by decide +kernel
theorem dX6_pictureOf_23 : decode cX6_pictureOf 23 = .ok (.astore 4, 2) := by decide +kernel
theorem dX6_pictureOf_25 : decode cX6_pictureOf 25 = .ok (.aload 4, 2) := by decide +kernel
theorem dX6_pictureOf_27 : decode cX6_pictureOf 27 = .ok (.ifnonnull 5, 3) := by decide +kernel
theorem dX6_pictureOf_30 : decode cX6_pictureOf 30 = .ok (.iconst (-1), 1) := by decide +kernel
theorem dX6_pictureOf_31 : decode cX6_pictureOf 31 = .ok (.ireturn, 1) := by decide +kernel
theorem dX6_pictureOf_32 : decode cX6_pictureOf 32 = .ok (.iload_n 2, 1) := by decide +kernel
theorem dX6_pictureOf_33 : decode cX6_pictureOf 33 = .ok (.tableswitch 71 0 2 #[27, 40, 65], 27) := by decide +kernel
theorem dX6_pictureOf_60 : decode cX6_pictureOf 60 = .ok (.aload_n 0, 1) := by decide +kernel
theorem dX6_pictureOf_61 : decode cX6_pictureOf 61 = .ok (.getfield 35, 3) := by decide +kernel
theorem dX6_pictureOf_64 : decode cX6_pictureOf 64 = .ok (.aload 4, 2) := by decide +kernel
theorem dX6_pictureOf_66 : decode cX6_pictureOf 66 = .ok (.getfield 97, 3) := by decide +kernel
theorem dX6_pictureOf_69 : decode cX6_pictureOf 69 = .ok (.invokevirtual 146, 3) := by decide +kernel
theorem dX6_pictureOf_72 : decode cX6_pictureOf 72 = .ok (.ireturn, 1) := by decide +kernel
theorem dX6_pictureOf_73 : decode cX6_pictureOf 73 = .ok (.aload_n 0, 1) := by decide +kernel
theorem dX6_pictureOf_74 : decode cX6_pictureOf 74 = .ok (.getfield 35, 3) := by decide +kernel
theorem dX6_pictureOf_77 : decode cX6_pictureOf 77 = .ok (.aload 4, 2) := by decide +kernel
theorem dX6_pictureOf_79 : decode cX6_pictureOf 79 = .ok (.getfield 97, 3) := by decide +kernel
theorem dX6_pictureOf_82 : decode cX6_pictureOf 82 = .ok (.invokevirtual 146, 3) := by decide +kernel
theorem dX6_pictureOf_85 : decode cX6_pictureOf 85 = .ok (.aload_n 0, 1) := by decide +kernel
theorem dX6_pictureOf_86 : decode cX6_pictureOf 86 = .ok (.getfield 46, 3) := by decide +kernel
theorem dX6_pictureOf_89 : decode cX6_pictureOf 89 = .ok (.if_icmp .gt 7, 3) := by decide +kernel
theorem dX6_pictureOf_92 : decode cX6_pictureOf 92 = .ok (.iconst 1, 1) := by decide +kernel
theorem dX6_pictureOf_93 : decode cX6_pictureOf 93 = .ok (.goto 4, 3) := by decide +kernel
theorem dX6_pictureOf_96 : decode cX6_pictureOf 96 = .ok (.iconst 0, 1) := by decide +kernel
theorem dX6_pictureOf_97 : decode cX6_pictureOf 97 = .ok (.ireturn, 1) := by decide +kernel
theorem dX6_pictureOf_98 : decode cX6_pictureOf 98 = .ok (.aload_n 3, 1) := by decide +kernel
theorem dX6_pictureOf_99 : decode cX6_pictureOf 99 = .ok (.iload_n 1, 1) := by decide +kernel
theorem dX6_pictureOf_100 : decode cX6_pictureOf 100 = .ok (.invokevirtual 149, 3) := by decide +kernel
theorem dX6_pictureOf_103 : decode cX6_pictureOf 103 = .ok (.ireturn, 1) := by decide +kernel
theorem dX6_pictureOf_104 : decode cX6_pictureOf 104 = .ok (.iconst (-1), 1) := by decide +kernel
theorem dX6_pictureOf_105 : decode cX6_pictureOf 105 = .ok (.ireturn, 1) := by decide +kernel
set_option maxRecDepth 20000 in
theorem ggX6_next_X0_lessonAt : GoodIn wsX6_next wsX0_lessonAt := goodIn_r _ [9, 10, 11, 12, 8, 13, 78, 79, 80] (by decide +kernel) (by decide +kernel)
set_option maxRecDepth 20000 in
theorem gX6_next_X0_lessonAt : GoodIn wsX6_next (wsV RX6 139 RX0 yX0_lessonAt wsX0_lessonAt) := goodIn_app (goodIn_of _ (by decide +kernel)) ggX6_next_X0_lessonAt
set_option maxRecDepth 20000 in
theorem ggX6_next_X6_leftOf : GoodIn wsX6_next wsX6_leftOf := goodIn_r _ [18, 19, 3, 20, 21, 22, 23, 24, 25, 26, 27, 28, 29, 30, 31, 32, 33, 34, 35, 36, 37, 38, 39, 40, 17, 41, 42, 43, 81, 82, 83, 84, 60, 61, 62, 63, 64, 65, 66, 67, 68, 85, 86, 69, 70, 71, 72, 73, 74, 75, 76, 77] (by decide +kernel) (by decide +kernel)
set_option maxRecDepth 20000 in
theorem gX6_next_X6_leftOf : GoodIn wsX6_next (wsV RX6 152 RX6 yX6_leftOf wsX6_leftOf) := goodIn_app (goodIn_of _ (by decide +kernel)) ggX6_next_X6_leftOf
set_option maxRecDepth 20000 in
theorem ggX6_next_X2_partingCase : GoodIn wsX6_next wsX2_partingCase := goodIn_r _ [47, 48, 49, 50, 51, 52, 53, 54, 55, 56, 57, 58, 59, 42, 17, 43, 81, 82, 83, 84] (by decide +kernel) (by decide +kernel)
set_option maxRecDepth 20000 in
theorem gX6_next_X2_partingCase : GoodIn wsX6_next (wsV RX6 159 RX2 yX2_partingCase wsX2_partingCase) := goodIn_app (goodIn_of _ (by decide +kernel)) ggX6_next_X2_partingCase
theorem dX6_next_0 : decode cX6_next 0 = .ok (.aload_n 0, 1) := by decide +kernel
theorem dX6_next_1 : decode cX6_next 1 = .ok (.getfield 28, 3) := by decide +kernel
theorem dX6_next_4 : decode cX6_next 4 = .ok (.aload_n 0, 1) := by decide +kernel
theorem dX6_next_5 : decode cX6_next 5 = .ok (.getfield 39, 3) := by decide +kernel
theorem dX6_next_8 : decode cX6_next 8 = .ok (.invokevirtual 139, 3) := by decide +kernel
theorem dX6_next_11 : decode cX6_next 11 = .ok (.astore_n 1, 1) := by decide +kernel
theorem dX6_next_12 : decode cX6_next 12 = .ok (.aload_n 1, 1) := by decide +kernel
theorem dX6_next_13 : decode cX6_next 13 = .ok (.ifnonnull 7, 3) := by decide +kernel
theorem dX6_next_16 : decode cX6_next 16 = .ok (.iconst (-1), 1) := by decide +kernel
theorem dX6_next_17 : decode cX6_next 17 = .ok (.goto 19, 3) := by decide +kernel
theorem dX6_next_20 : decode cX6_next 20 = .ok (.aload_n 1, 1) := by decide +kernel
theorem dX6_next_21 : decode cX6_next 21 = .ok (.aload_n 0, 1) := by decide +kernel
theorem dX6_next_22 : decode cX6_next 22 = .ok (.aload_n 1, 1) := by decide +kernel
theorem dX6_next_23 : decode cX6_next 23 = .ok (.invokevirtual 152, 3) := by decide +kernel
theorem dX6_next_26 : decode cX6_next 26 = .ok (.aload_n 0, 1) := by decide +kernel
theorem dX6_next_27 : decode cX6_next 27 = .ok (.getfield 35, 3) := by decide +kernel
theorem dX6_next_30 : decode cX6_next 30 = .ok (.getfield 156, 3) := by decide +kernel
theorem dX6_next_33 : decode cX6_next 33 = .ok (.invokevirtual 159, 3) := by decide +kernel
theorem dX6_next_36 : decode cX6_next 36 = .ok (.ireturn, 1) := by decide +kernel
set_option maxRecDepth 20000 in
theorem ggX6_longest_X0_lessonAt : GoodIn wsX6_longest wsX0_lessonAt := goodIn_r _ [12, 13, 14, 15, 11, 16, 52, 53, 54] (by decide +kernel) (by decide +kernel)
set_option maxRecDepth 20000 in
theorem gX6_longest_X0_lessonAt : GoodIn wsX6_longest (wsV RX6 139 RX0 yX0_lessonAt wsX0_lessonAt) := goodIn_app (goodIn_of _ (by decide +kernel)) ggX6_longest_X0_lessonAt
set_option maxRecDepth 20000 in
theorem ggX6_longest_X2_pathOf : GoodIn wsX6_longest wsX2_pathOf := goodIn_r _ [21, 22, 23, 24, 25, 26, 20, 27, 28, 5, 6, 7, 29, 30, 31, 32, 33, 34, 35, 36, 37, 38, 48, 49, 50, 51] (by decide +kernel) (by decide +kernel)
set_option maxRecDepth 20000 in
theorem gX6_longest_X2_pathOf : GoodIn wsX6_longest (wsV RX6 149 RX2 yX2_pathOf wsX2_pathOf) := goodIn_app (goodIn_of _ (by decide +kernel)) ggX6_longest_X2_pathOf
theorem dX6_longest_0 : decode cX6_longest 0 = .ok (.aload_n 0, 1) := by decide +kernel
theorem dX6_longest_1 : decode cX6_longest 1 = .ok (.getfield 28, 3) := by decide +kernel
theorem dX6_longest_4 : decode cX6_longest 4 = .ok (.aload_n 0, 1) := by decide +kernel
theorem dX6_longest_5 : decode cX6_longest 5 = .ok (.getfield 39, 3) := by decide +kernel
theorem dX6_longest_8 : decode cX6_longest 8 = .ok (.invokevirtual 139, 3) := by decide +kernel
theorem dX6_longest_11 : decode cX6_longest 11 = .ok (.astore_n 1, 1) := by decide +kernel
theorem dX6_longest_12 : decode cX6_longest 12 = .ok (.aload_n 1, 1) := by decide +kernel
theorem dX6_longest_13 : decode cX6_longest 13 = .ok (.ifnonnull 5, 3) := by decide +kernel
theorem dX6_longest_16 : decode cX6_longest 16 = .ok (.iconst (-1), 1) := by decide +kernel
theorem dX6_longest_17 : decode cX6_longest 17 = .ok (.ireturn, 1) := by decide +kernel
theorem dX6_longest_18 : decode cX6_longest 18 = .ok (.iconst (-1), 1) := by decide +kernel
theorem dX6_longest_19 : decode cX6_longest 19 = .ok (.istore_n 2, 1) := by decide +kernel
theorem dX6_longest_20 : decode cX6_longest 20 = .ok (.iconst 0, 1) := by decide +kernel
theorem dX6_longest_21 : decode cX6_longest 21 = .ok (.istore_n 3, 1) := by decide +kernel
theorem dX6_longest_22 : decode cX6_longest 22 = .ok (.iload_n 3, 1) := by decide +kernel
theorem dX6_longest_23 : decode cX6_longest 23 = .ok (.aload_n 1, 1) := by decide +kernel
theorem dX6_longest_24 : decode cX6_longest 24 = .ok (.getfield 83, 3) := by decide +kernel
theorem dX6_longest_27 : decode cX6_longest 27 = .ok (.if_icmp .ge 19, 3) := by decide +kernel
theorem dX6_longest_30 : decode cX6_longest 30 = .ok (.iload_n 2, 1) := by decide +kernel
theorem dX6_longest_31 : decode cX6_longest 31 = .ok (.aload_n 1, 1) := by decide +kernel
theorem dX6_longest_32 : decode cX6_longest 32 = .ok (.iload_n 3, 1) := by decide +kernel
theorem dX6_longest_33 : decode cX6_longest 33 = .ok (.invokevirtual 149, 3) := by decide +kernel
theorem dX6_longest_36 : decode cX6_longest 36 = .ok (.invokestatic 162, 3) := by decide +kernel
theorem dX6_longest_39 : decode cX6_longest 39 = .ok (.istore_n 2, 1) := by decide +kernel
theorem dX6_longest_40 : decode cX6_longest 40 = .ok (.iinc 3 1, 3) := by decide +kernel
theorem dX6_longest_43 : decode cX6_longest 43 = .ok (.goto (-21), 3) := by decide +kernel
theorem dX6_longest_46 : decode cX6_longest 46 = .ok (.iload_n 2, 1) := by decide +kernel
theorem dX6_longest_47 : decode cX6_longest 47 = .ok (.ireturn, 1) := by decide +kernel
set_option maxRecDepth 20000 in
theorem ggX6_say_X6_begunLaw : GoodIn wsX6_say wsX6_begunLaw := goodIn_r _ [10, 11, 12, 13, 14, 9, 15, 16, 17, 18, 19, 20, 21, 22, 23, 24, 25, 26, 27, 28, 29, 30, 31, 32, 33, 125, 126, 127, 128, 129, 130, 131, 132, 133, 151, 152, 153, 154, 155, 156, 157] (by decide +kernel) (by decide +kernel)
set_option maxRecDepth 20000 in
theorem gX6_say_X6_begunLaw : GoodIn wsX6_say (wsV RX6 126 RX6 yX6_begunLaw wsX6_begunLaw) := goodIn_app (goodIn_of _ (by decide +kernel)) ggX6_say_X6_begunLaw
set_option maxRecDepth 20000 in
theorem ggX6_say_X5_offers : GoodIn wsX6_say wsX5_offers := goodIn_r _ [38, 39, 158, 159] (by decide +kernel) (by decide +kernel)
set_option maxRecDepth 20000 in
theorem gX6_say_X5_offers : GoodIn wsX6_say (wsV RX6 66 RX5 yX5_offers wsX5_offers) := goodIn_app (goodIn_of _ (by decide +kernel)) ggX6_say_X5_offers
set_option maxRecDepth 20000 in
theorem ggX6_say_X6_readTape : GoodIn wsX6_say wsX6_readTape := goodIn_r _ [43, 4, 44, 3, 45, 46, 47, 48, 49, 50, 51, 52, 53, 54, 55, 56, 57, 58, 59, 60, 61, 62, 63, 64, 65, 66, 67, 68, 69, 70, 37, 71, 39, 72, 73, 74, 75, 76, 77, 78, 79, 80, 81, 82, 83, 84, 85, 86, 87, 88, 89, 90, 91, 92, 93, 94, 95, 96, 97, 98, 99, 100, 101, 102, 103, 104, 105, 106, 107, 108, 109, 110, 111, 112, 113, 114, 115, 116, 117, 125, 126, 127, 128, 129, 130, 131, 132, 133, 143, 144, 145, 146, 147, 148, 149, 150, 158, 159] (by decide +kernel) (by decide +kernel)
set_option maxRecDepth 20000 in
theorem gX6_say_X6_readTape : GoodIn wsX6_say (wsV RX6 70 RX6 yX6_readTape wsX6_readTape) := goodIn_app (goodIn_of _ (by decide +kernel)) ggX6_say_X6_readTape
set_option maxRecDepth 20000 in
theorem ggX6_say_X4_addSaid : GoodIn wsX6_say wsX4_addSaid := goodIn_r _ [122, 123, 124, 134, 135, 136, 137, 138, 139, 140, 141, 142] (by decide +kernel) (by decide +kernel)
set_option maxRecDepth 20000 in
theorem gX6_say_X4_addSaid : GoodIn wsX6_say (wsV RX6 171 RX4 yX4_addSaid wsX4_addSaid) := goodIn_app (goodIn_of _ (by decide +kernel)) ggX6_say_X4_addSaid
theorem dX6_say_0 : decode cX6_say 0 = .ok (.aload_n 0, 1) := by decide +kernel
theorem dX6_say_1 : decode cX6_say 1 = .ok (.invokevirtual 126, 3) := by decide +kernel
theorem dX6_say_4 : decode cX6_say 4 = .ok (.ifnull 26, 3) := by decide +kernel
theorem dX6_say_7 : decode cX6_say 7 = .ok (.aload_n 0, 1) := by decide +kernel
theorem dX6_say_8 : decode cX6_say 8 = .ok (.getfield 35, 3) := by decide +kernel
theorem dX6_say_11 : decode cX6_say 11 = .ok (.getfield 167, 3) := by decide +kernel
theorem dX6_say_14 : decode cX6_say 14 = .ok (.bipush 10, 2) := by decide +kernel
theorem dX6_say_16 : decode cX6_say 16 = .ok (.if_icmp .ge 14, 3) := by decide +kernel
theorem dX6_say_19 : decode cX6_say 19 = .ok (.aload_n 0, 1) := by decide +kernel
theorem dX6_say_20 : decode cX6_say 20 = .ok (.getfield 10, 3) := by decide +kernel
theorem dX6_say_23 : decode cX6_say 23 = .ok (.iload_n 1, 1) := by decide +kernel
theorem dX6_say_24 : decode cX6_say 24 = .ok (.invokevirtual 66, 3) := by decide +kernel
theorem dX6_say_27 : decode cX6_say 27 = .ok (.ifCond .ne 6, 3) := by decide +kernel
theorem dX6_say_30 : decode cX6_say 30 = .ok (.bipush (-2), 2) := by decide +kernel
theorem dX6_say_32 : decode cX6_say 32 = .ok (.ireturn, 1) := by decide +kernel
theorem dX6_say_33 : decode cX6_say 33 = .ok (.aload_n 0, 1) := by decide +kernel
theorem dX6_say_34 : decode cX6_say 34 = .ok (.iload_n 1, 1) := by decide +kernel
theorem dX6_say_35 : decode cX6_say 35 = .ok (.invokevirtual 70, 3) := by decide +kernel
theorem dX6_say_38 : decode cX6_say 38 = .ok (.ifCond .eq 20, 3) := by decide +kernel
theorem dX6_say_41 : decode cX6_say 41 = .ok (.aload_n 0, 1) := by decide +kernel
theorem dX6_say_42 : decode cX6_say 42 = .ok (.getfield 35, 3) := by decide +kernel
theorem dX6_say_45 : decode cX6_say 45 = .ok (.aload_n 0, 1) := by decide +kernel
theorem dX6_say_46 : decode cX6_say 46 = .ok (.getfield 21, 3) := by decide +kernel
theorem dX6_say_49 : decode cX6_say 49 = .ok (.getfield 170, 3) := by decide +kernel
theorem dX6_say_52 : decode cX6_say 52 = .ok (.invokevirtual 171, 3) := by decide +kernel
theorem dX6_say_55 : decode cX6_say 55 = .ok (.goto 4, 3) := by decide +kernel
theorem dX6_say_58 : decode cX6_say 58 = .ok (.iconst (-1), 1) := by decide +kernel
theorem dX6_say_59 : decode cX6_say 59 = .ok (.ireturn, 1) := by decide +kernel
set_option maxRecDepth 20000 in
theorem ggX6_judge_X6_begunLaw : GoodIn wsX6_judge wsX6_begunLaw := goodIn_r _ [9, 10, 11, 12, 13, 8, 14, 15, 16, 17, 18, 19, 20, 21, 22, 23, 24, 25, 26, 27, 28, 29, 30, 31, 32, 124, 125, 126, 127, 128, 129, 130, 131, 132, 143, 144, 145, 146, 147, 148, 149] (by decide +kernel) (by decide +kernel)
set_option maxRecDepth 20000 in
theorem gX6_judge_X6_begunLaw : GoodIn wsX6_judge (wsV RX6 126 RX6 yX6_begunLaw wsX6_begunLaw) := goodIn_app (goodIn_of _ (by decide +kernel)) ggX6_judge_X6_begunLaw
set_option maxRecDepth 20000 in
theorem ggX6_judge_X5_offers : GoodIn wsX6_judge wsX5_offers := goodIn_r _ [37, 38, 150, 151] (by decide +kernel) (by decide +kernel)
set_option maxRecDepth 20000 in
theorem gX6_judge_X5_offers : GoodIn wsX6_judge (wsV RX6 66 RX5 yX5_offers wsX5_offers) := goodIn_app (goodIn_of _ (by decide +kernel)) ggX6_judge_X5_offers
set_option maxRecDepth 20000 in
theorem ggX6_judge_X6_readTape : GoodIn wsX6_judge wsX6_readTape := goodIn_r _ [42, 2, 43, 1, 44, 45, 46, 47, 48, 49, 50, 51, 52, 53, 54, 55, 56, 57, 58, 59, 60, 61, 62, 63, 64, 65, 66, 67, 68, 69, 36, 70, 38, 71, 72, 73, 74, 75, 76, 77, 78, 79, 80, 81, 82, 83, 84, 85, 86, 87, 88, 89, 90, 91, 92, 93, 94, 95, 96, 97, 98, 99, 100, 101, 102, 103, 104, 105, 106, 107, 108, 109, 110, 111, 112, 113, 114, 115, 116, 124, 125, 126, 127, 128, 129, 130, 131, 132, 133, 134, 135, 136, 137, 138, 139, 140, 150, 151] (by decide +kernel) (by decide +kernel)
set_option maxRecDepth 20000 in
theorem gX6_judge_X6_readTape : GoodIn wsX6_judge (wsV RX6 70 RX6 yX6_readTape wsX6_readTape) := goodIn_app (goodIn_of _ (by decide +kernel)) ggX6_judge_X6_readTape
set_option maxRecDepth 20000 in
theorem ggX6_judge_J6_bitCount_0f7a4 : GoodIn wsX6_judge wsJ6_bitCount_0f7a4 := goodIn_r _ [120, 121, 122, 123] (by decide +kernel) (by decide +kernel)
set_option maxRecDepth 20000 in
theorem gX6_judge_J6_bitCount_0f7a4 : GoodIn wsX6_judge (va_wsS RX6 174 yJ6_bitCount_0f7a4 wsJ6_bitCount_0f7a4) := goodIn_app (goodIn_of _ (by decide +kernel)) ggX6_judge_J6_bitCount_0f7a4
theorem dX6_judge_0 : decode cX6_judge 0 = .ok (.aload_n 0, 1) := by decide +kernel
theorem dX6_judge_1 : decode cX6_judge 1 = .ok (.invokevirtual 126, 3) := by decide +kernel
theorem dX6_judge_4 : decode cX6_judge 4 = .ok (.astore_n 2, 1) := by decide +kernel
theorem dX6_judge_5 : decode cX6_judge 5 = .ok (.aload_n 2, 1) := by decide +kernel
theorem dX6_judge_6 : decode cX6_judge 6 = .ok (.ifnull 14, 3) := by decide +kernel
theorem dX6_judge_9 : decode cX6_judge 9 = .ok (.aload_n 0, 1) := by decide +kernel
theorem dX6_judge_10 : decode cX6_judge 10 = .ok (.getfield 10, 3) := by decide +kernel
theorem dX6_judge_13 : decode cX6_judge 13 = .ok (.iload_n 1, 1) := by decide +kernel
theorem dX6_judge_14 : decode cX6_judge 14 = .ok (.invokevirtual 66, 3) := by decide +kernel
theorem dX6_judge_17 : decode cX6_judge 17 = .ok (.ifCond .ne 6, 3) := by decide +kernel
theorem dX6_judge_20 : decode cX6_judge 20 = .ok (.bipush (-2), 2) := by decide +kernel
theorem dX6_judge_22 : decode cX6_judge 22 = .ok (.ireturn, 1) := by decide +kernel
theorem dX6_judge_23 : decode cX6_judge 23 = .ok (.aload_n 0, 1) := by decide +kernel
theorem dX6_judge_24 : decode cX6_judge 24 = .ok (.iload_n 1, 1) := by decide +kernel
theorem dX6_judge_25 : decode cX6_judge 25 = .ok (.invokevirtual 70, 3) := by decide +kernel
theorem dX6_judge_28 : decode cX6_judge 28 = .ok (.ifCond .eq 21, 3) := by decide +kernel
theorem dX6_judge_31 : decode cX6_judge 31 = .ok (.aload_n 0, 1) := by decide +kernel
theorem dX6_judge_32 : decode cX6_judge 32 = .ok (.getfield 21, 3) := by decide +kernel
theorem dX6_judge_35 : decode cX6_judge 35 = .ok (.getfield 170, 3) := by decide +kernel
theorem dX6_judge_38 : decode cX6_judge 38 = .ok (.aload_n 2, 1) := by decide +kernel
theorem dX6_judge_39 : decode cX6_judge 39 = .ok (.getfield 97, 3) := by decide +kernel
theorem dX6_judge_42 : decode cX6_judge 42 = .ok (.ixor, 1) := by decide +kernel
theorem dX6_judge_43 : decode cX6_judge 43 = .ok (.invokestatic 174, 3) := by decide +kernel
theorem dX6_judge_46 : decode cX6_judge 46 = .ok (.goto 4, 3) := by decide +kernel
theorem dX6_judge_49 : decode cX6_judge 49 = .ok (.iconst (-1), 1) := by decide +kernel
theorem dX6_judge_50 : decode cX6_judge 50 = .ok (.ireturn, 1) := by decide +kernel
set_option maxRecDepth 20000 in
theorem ggX6_clash_X4_saidApart : GoodIn wsX6_clash wsX4_saidApart := goodIn_r _ [6, 7, 8, 35, 36, 37, 38, 39, 40, 41, 42, 43] (by decide +kernel) (by decide +kernel)
set_option maxRecDepth 20000 in
theorem gX6_clash_X4_saidApart : GoodIn wsX6_clash (wsV RX6 179 RX4 yX4_saidApart wsX4_saidApart) := goodIn_app (goodIn_of _ (by decide +kernel)) ggX6_clash_X4_saidApart
set_option maxRecDepth 20000 in
theorem ggX6_clash_X4_saidUnlikeAnswers : GoodIn wsX6_clash wsX4_saidUnlikeAnswers := goodIn_r _ [12, 7, 8, 13, 14, 35, 36, 37, 38, 39, 40, 41, 42, 43] (by decide +kernel) (by decide +kernel)
set_option maxRecDepth 20000 in
theorem gX6_clash_X4_saidUnlikeAnswers : GoodIn wsX6_clash (wsV RX6 182 RX4 yX4_saidUnlikeAnswers wsX4_saidUnlikeAnswers) := goodIn_app (goodIn_of _ (by decide +kernel)) ggX6_clash_X4_saidUnlikeAnswers
set_option maxRecDepth 20000 in
theorem ggX6_clash_X6_leastBit : GoodIn wsX6_clash wsX6_leastBit := goodIn_r _ [18, 19, 20, 17, 21] (by decide +kernel) (by decide +kernel)
set_option maxRecDepth 20000 in
theorem gX6_clash_X6_leastBit : GoodIn wsX6_clash (va_wsS RX6 185 yX6_leastBit wsX6_leastBit) := goodIn_app (goodIn_of _ (by decide +kernel)) ggX6_clash_X6_leastBit
set_option maxRecDepth 20000 in
theorem ggX6_clash_X4_firstUnlikeFirst : GoodIn wsX6_clash wsX4_firstUnlikeFirst := goodIn_r _ [25, 7, 8, 20, 17, 21, 35, 36, 37, 38, 39, 40, 41, 42, 43] (by decide +kernel) (by decide +kernel)
set_option maxRecDepth 20000 in
theorem gX6_clash_X4_firstUnlikeFirst : GoodIn wsX6_clash (wsV RX6 188 RX4 yX4_firstUnlikeFirst wsX4_firstUnlikeFirst) := goodIn_app (goodIn_of _ (by decide +kernel)) ggX6_clash_X4_firstUnlikeFirst
theorem dX6_clash_0 : decode cX6_clash 0 = .ok (.aload_n 0, 1) := by decide +kernel
theorem dX6_clash_1 : decode cX6_clash 1 = .ok (.getfield 35, 3) := by decide +kernel
theorem dX6_clash_4 : decode cX6_clash 4 = .ok (.invokevirtual 179, 3) := by decide +kernel
theorem dX6_clash_7 : decode cX6_clash 7 = .ok (.istore_n 2, 1) := by decide +kernel
theorem dX6_clash_8 : decode cX6_clash 8 = .ok (.iload_n 2, 1) := by decide +kernel
theorem dX6_clash_9 : decode cX6_clash 9 = .ok (.ifCond .eq 7, 3) := by decide +kernel
theorem dX6_clash_12 : decode cX6_clash 12 = .ok (.iconst 1, 1) := by decide +kernel
theorem dX6_clash_13 : decode cX6_clash 13 = .ok (.goto 4, 3) := by decide +kernel
theorem dX6_clash_16 : decode cX6_clash 16 = .ok (.iconst 0, 1) := by decide +kernel
theorem dX6_clash_17 : decode cX6_clash 17 = .ok (.istore_n 3, 1) := by decide +kernel
theorem dX6_clash_18 : decode cX6_clash 18 = .ok (.iload_n 3, 1) := by decide +kernel
theorem dX6_clash_19 : decode cX6_clash 19 = .ok (.ifCond .ne 11, 3) := by decide +kernel
theorem dX6_clash_22 : decode cX6_clash 22 = .ok (.aload_n 0, 1) := by decide +kernel
theorem dX6_clash_23 : decode cX6_clash 23 = .ok (.getfield 35, 3) := by decide +kernel
theorem dX6_clash_26 : decode cX6_clash 26 = .ok (.invokevirtual 182, 3) := by decide +kernel
theorem dX6_clash_29 : decode cX6_clash 29 = .ok (.istore_n 2, 1) := by decide +kernel
theorem dX6_clash_30 : decode cX6_clash 30 = .ok (.iload_n 2, 1) := by decide +kernel
theorem dX6_clash_31 : decode cX6_clash 31 = .ok (.invokestatic 185, 3) := by decide +kernel
theorem dX6_clash_34 : decode cX6_clash 34 = .ok (.istore 4, 2) := by decide +kernel
theorem dX6_clash_36 : decode cX6_clash 36 = .ok (.iload 4, 2) := by decide +kernel
theorem dX6_clash_38 : decode cX6_clash 38 = .ok (.iconst (-1), 1) := by decide +kernel
theorem dX6_clash_39 : decode cX6_clash 39 = .ok (.if_icmp .ne 5, 3) := by decide +kernel
theorem dX6_clash_42 : decode cX6_clash 42 = .ok (.iconst (-1), 1) := by decide +kernel
theorem dX6_clash_43 : decode cX6_clash 43 = .ok (.ireturn, 1) := by decide +kernel
theorem dX6_clash_44 : decode cX6_clash 44 = .ok (.iload_n 1, 1) := by decide +kernel
theorem dX6_clash_45 : decode cX6_clash 45 = .ok (.tableswitch 50 0 2 #[27, 30, 32], 27) := by decide +kernel
theorem dX6_clash_72 : decode cX6_clash 72 = .ok (.iload 4, 2) := by decide +kernel
theorem dX6_clash_74 : decode cX6_clash 74 = .ok (.ireturn, 1) := by decide +kernel
theorem dX6_clash_75 : decode cX6_clash 75 = .ok (.iconst 0, 1) := by decide +kernel
theorem dX6_clash_76 : decode cX6_clash 76 = .ok (.ireturn, 1) := by decide +kernel
theorem dX6_clash_77 : decode cX6_clash 77 = .ok (.iload_n 3, 1) := by decide +kernel
theorem dX6_clash_78 : decode cX6_clash 78 = .ok (.ifCond .eq 15, 3) := by decide +kernel
theorem dX6_clash_81 : decode cX6_clash 81 = .ok (.aload_n 0, 1) := by decide +kernel
theorem dX6_clash_82 : decode cX6_clash 82 = .ok (.getfield 35, 3) := by decide +kernel
theorem dX6_clash_85 : decode cX6_clash 85 = .ok (.iload 4, 2) := by decide +kernel
theorem dX6_clash_87 : decode cX6_clash 87 = .ok (.invokevirtual 188, 3) := by decide +kernel
theorem dX6_clash_90 : decode cX6_clash 90 = .ok (.goto 4, 3) := by decide +kernel
theorem dX6_clash_93 : decode cX6_clash 93 = .ok (.iconst (-1), 1) := by decide +kernel
theorem dX6_clash_94 : decode cX6_clash 94 = .ok (.ireturn, 1) := by decide +kernel
theorem dX6_clash_95 : decode cX6_clash 95 = .ok (.iconst (-1), 1) := by decide +kernel
theorem dX6_clash_96 : decode cX6_clash 96 = .ok (.ireturn, 1) := by decide +kernel
set_option maxRecDepth 20000 in
theorem ggX6_bridge_X0_lessonAt : GoodIn wsX6_bridge wsX0_lessonAt := goodIn_r _ [9, 10, 11, 12, 8, 13, 81, 82, 83] (by decide +kernel) (by decide +kernel)
set_option maxRecDepth 20000 in
theorem gX6_bridge_X0_lessonAt : GoodIn wsX6_bridge (wsV RX6 139 RX0 yX0_lessonAt wsX0_lessonAt) := goodIn_app (goodIn_of _ (by decide +kernel)) ggX6_bridge_X0_lessonAt
set_option maxRecDepth 20000 in
theorem ggX6_bridge_X6_isCase : GoodIn wsX6_bridge wsX6_isCase := goodIn_r _ [17] (by decide +kernel) (by decide +kernel)
set_option maxRecDepth 20000 in
theorem gX6_bridge_X6_isCase : GoodIn wsX6_bridge (va_wsS RX6 94 yX6_isCase wsX6_isCase) := goodIn_app (goodIn_of _ (by decide +kernel)) ggX6_bridge_X6_isCase
set_option maxRecDepth 20000 in
theorem ggX6_bridge_X6_leftOf : GoodIn wsX6_bridge wsX6_leftOf := goodIn_r _ [21, 22, 3, 23, 24, 25, 26, 27, 28, 29, 30, 31, 32, 33, 34, 35, 36, 37, 38, 39, 40, 41, 42, 15, 16, 17, 43, 44, 84, 85, 86, 87, 63, 64, 65, 66, 67, 68, 69, 70, 71, 88, 89, 72, 73, 74, 75, 76, 77, 78, 79, 80] (by decide +kernel) (by decide +kernel)
set_option maxRecDepth 20000 in
theorem gX6_bridge_X6_leftOf : GoodIn wsX6_bridge (wsV RX6 152 RX6 yX6_leftOf wsX6_leftOf) := goodIn_app (goodIn_of _ (by decide +kernel)) ggX6_bridge_X6_leftOf
set_option maxRecDepth 20000 in
theorem ggX6_bridge_X2_nearestToldAsLaw : GoodIn wsX6_bridge wsX2_nearestToldAsLaw := goodIn_r _ [48, 49, 50, 51, 52, 53, 54, 55, 43, 16, 44, 56, 57, 58, 28, 59, 60, 61, 62, 84, 85, 86, 87, 88, 89] (by decide +kernel) (by decide +kernel)
set_option maxRecDepth 20000 in
theorem gX6_bridge_X2_nearestToldAsLaw : GoodIn wsX6_bridge (wsV RX6 191 RX2 yX2_nearestToldAsLaw wsX2_nearestToldAsLaw) := goodIn_app (goodIn_of _ (by decide +kernel)) ggX6_bridge_X2_nearestToldAsLaw
theorem dX6_bridge_0 : decode cX6_bridge 0 = .ok (.aload_n 0, 1) := by decide +kernel
theorem dX6_bridge_1 : decode cX6_bridge 1 = .ok (.getfield 28, 3) := by decide +kernel
theorem dX6_bridge_4 : decode cX6_bridge 4 = .ok (.aload_n 0, 1) := by decide +kernel
theorem dX6_bridge_5 : decode cX6_bridge 5 = .ok (.getfield 39, 3) := by decide +kernel
theorem dX6_bridge_8 : decode cX6_bridge 8 = .ok (.invokevirtual 139, 3) := by decide +kernel
theorem dX6_bridge_11 : decode cX6_bridge 11 = .ok (.astore_n 2, 1) := by decide +kernel
theorem dX6_bridge_12 : decode cX6_bridge 12 = .ok (.aload_n 2, 1) := by decide +kernel
theorem dX6_bridge_13 : decode cX6_bridge 13 = .ok (.ifnull 10, 3) := by decide +kernel
theorem dX6_bridge_16 : decode cX6_bridge 16 = .ok (.iload_n 1, 1) := by decide +kernel
theorem dX6_bridge_17 : decode cX6_bridge 17 = .ok (.invokestatic 94, 3) := by decide +kernel
theorem dX6_bridge_20 : decode cX6_bridge 20 = .ok (.ifCond .ne 5, 3) := by decide +kernel
theorem dX6_bridge_23 : decode cX6_bridge 23 = .ok (.iconst (-1), 1) := by decide +kernel
theorem dX6_bridge_24 : decode cX6_bridge 24 = .ok (.ireturn, 1) := by decide +kernel
theorem dX6_bridge_25 : decode cX6_bridge 25 = .ok (.aload_n 2, 1) := by decide +kernel
theorem dX6_bridge_26 : decode cX6_bridge 26 = .ok (.iload_n 1, 1) := by decide +kernel
theorem dX6_bridge_27 : decode cX6_bridge 27 = .ok (.aload_n 0, 1) := by decide +kernel
theorem dX6_bridge_28 : decode cX6_bridge 28 = .ok (.aload_n 2, 1) := by decide +kernel
theorem dX6_bridge_29 : decode cX6_bridge 29 = .ok (.invokevirtual 152, 3) := by decide +kernel
theorem dX6_bridge_32 : decode cX6_bridge 32 = .ok (.aload_n 0, 1) := by decide +kernel
theorem dX6_bridge_33 : decode cX6_bridge 33 = .ok (.getfield 35, 3) := by decide +kernel
theorem dX6_bridge_36 : decode cX6_bridge 36 = .ok (.getfield 156, 3) := by decide +kernel
theorem dX6_bridge_39 : decode cX6_bridge 39 = .ok (.invokevirtual 191, 3) := by decide +kernel
theorem dX6_bridge_42 : decode cX6_bridge 42 = .ok (.ireturn, 1) := by decide +kernel
set_option maxRecDepth 20000 in
theorem ggX6_reveal_X6_begunLaw : GoodIn wsX6_reveal wsX6_begunLaw := goodIn_r _ [8, 9, 10, 11, 12, 7, 13, 14, 15, 16, 17, 18, 19, 20, 21, 22, 23, 24, 25, 26, 27, 28, 29, 30, 31, 45, 46, 47, 48, 49, 50, 51, 52, 53, 56, 57, 58, 59, 60, 61, 62] (by decide +kernel) (by decide +kernel)
set_option maxRecDepth 20000 in
theorem gX6_reveal_X6_begunLaw : GoodIn wsX6_reveal (wsV RX6 126 RX6 yX6_begunLaw wsX6_begunLaw) := goodIn_app (goodIn_of _ (by decide +kernel)) ggX6_reveal_X6_begunLaw
set_option maxRecDepth 20000 in
theorem ggX6_reveal_X6_isCase : GoodIn wsX6_reveal wsX6_isCase := goodIn_r _ [34] (by decide +kernel) (by decide +kernel)
set_option maxRecDepth 20000 in
theorem gX6_reveal_X6_isCase : GoodIn wsX6_reveal (va_wsS RX6 94 yX6_isCase wsX6_isCase) := goodIn_app (goodIn_of _ (by decide +kernel)) ggX6_reveal_X6_isCase
set_option maxRecDepth 20000 in
theorem ggX6_reveal_X4_wrongOf : GoodIn wsX6_reveal wsX4_wrongOf := goodIn_r _ [39, 40, 41, 33, 7, 34, 42, 43, 63, 64, 65, 66, 67, 68, 69, 70, 71] (by decide +kernel) (by decide +kernel)
set_option maxRecDepth 20000 in
theorem gX6_reveal_X4_wrongOf : GoodIn wsX6_reveal (wsV RX6 195 RX4 yX4_wrongOf wsX4_wrongOf) := goodIn_app (goodIn_of _ (by decide +kernel)) ggX6_reveal_X4_wrongOf
set_option maxRecDepth 20000 in
theorem ggX6_reveal_X6_bitAt : GoodIn wsX6_reveal wsX6_bitAt := goodIn_r _ [43] (by decide +kernel) (by decide +kernel)
set_option maxRecDepth 20000 in
theorem gX6_reveal_X6_bitAt : GoodIn wsX6_reveal (va_wsS RX6 102 yX6_bitAt wsX6_bitAt) := goodIn_app (goodIn_of _ (by decide +kernel)) ggX6_reveal_X6_bitAt
theorem dX6_reveal_0 : decode cX6_reveal 0 = .ok (.aload_n 0, 1) := by decide +kernel
theorem dX6_reveal_1 : decode cX6_reveal 1 = .ok (.invokevirtual 126, 3) := by decide +kernel
theorem dX6_reveal_4 : decode cX6_reveal 4 = .ok (.astore_n 2, 1) := by decide +kernel
theorem dX6_reveal_5 : decode cX6_reveal 5 = .ok (.aload_n 2, 1) := by decide +kernel
theorem dX6_reveal_6 : decode cX6_reveal 6 = .ok (.ifnull 29, 3) := by decide +kernel
theorem dX6_reveal_9 : decode cX6_reveal 9 = .ok (.iload_n 1, 1) := by decide +kernel
theorem dX6_reveal_10 : decode cX6_reveal 10 = .ok (.invokestatic 94, 3) := by decide +kernel
theorem dX6_reveal_13 : decode cX6_reveal 13 = .ok (.ifCond .eq 22, 3) := by decide +kernel
theorem dX6_reveal_16 : decode cX6_reveal 16 = .ok (.aload_n 0, 1) := by decide +kernel
theorem dX6_reveal_17 : decode cX6_reveal 17 = .ok (.getfield 35, 3) := by decide +kernel
theorem dX6_reveal_20 : decode cX6_reveal 20 = .ok (.iload_n 1, 1) := by decide +kernel
theorem dX6_reveal_21 : decode cX6_reveal 21 = .ok (.aload_n 2, 1) := by decide +kernel
theorem dX6_reveal_22 : decode cX6_reveal 22 = .ok (.getfield 97, 3) := by decide +kernel
theorem dX6_reveal_25 : decode cX6_reveal 25 = .ok (.invokevirtual 195, 3) := by decide +kernel
theorem dX6_reveal_28 : decode cX6_reveal 28 = .ok (.aload_n 0, 1) := by decide +kernel
theorem dX6_reveal_29 : decode cX6_reveal 29 = .ok (.getfield 49, 3) := by decide +kernel
theorem dX6_reveal_32 : decode cX6_reveal 32 = .ok (.if_icmp .ge 5, 3) := by decide +kernel
theorem dX6_reveal_35 : decode cX6_reveal 35 = .ok (.iconst (-1), 1) := by decide +kernel
theorem dX6_reveal_36 : decode cX6_reveal 36 = .ok (.ireturn, 1) := by decide +kernel
theorem dX6_reveal_37 : decode cX6_reveal 37 = .ok (.aload_n 2, 1) := by decide +kernel
theorem dX6_reveal_38 : decode cX6_reveal 38 = .ok (.getfield 97, 3) := by decide +kernel
theorem dX6_reveal_41 : decode cX6_reveal 41 = .ok (.iload_n 1, 1) := by decide +kernel
theorem dX6_reveal_42 : decode cX6_reveal 42 = .ok (.invokestatic 102, 3) := by decide +kernel
theorem dX6_reveal_45 : decode cX6_reveal 45 = .ok (.ireturn, 1) := by decide +kernel
set_option maxRecDepth 20000 in
theorem ggX6_caseOf_X6_begunLaw : GoodIn wsX6_caseOf wsX6_begunLaw := goodIn_r _ [7, 8, 9, 10, 11, 6, 12, 13, 14, 15, 16, 17, 18, 19, 20, 21, 22, 23, 24, 25, 26, 27, 28, 29, 30, 53, 54, 55, 56, 57, 58, 59, 60, 61, 64, 65, 66, 67, 68, 69, 70] (by decide +kernel) (by decide +kernel)
set_option maxRecDepth 20000 in
theorem gX6_caseOf_X6_begunLaw : GoodIn wsX6_caseOf (wsV RX6 126 RX6 yX6_begunLaw wsX6_begunLaw) := goodIn_app (goodIn_of _ (by decide +kernel)) ggX6_caseOf_X6_begunLaw
set_option maxRecDepth 20000 in
theorem ggX6_caseOf_X6_isCase : GoodIn wsX6_caseOf wsX6_isCase := goodIn_r _ [33] (by decide +kernel) (by decide +kernel)
set_option maxRecDepth 20000 in
theorem gX6_caseOf_X6_isCase : GoodIn wsX6_caseOf (va_wsS RX6 94 yX6_isCase wsX6_isCase) := goodIn_app (goodIn_of _ (by decide +kernel)) ggX6_caseOf_X6_isCase
set_option maxRecDepth 20000 in
theorem ggX6_caseOf_X4_timesAsked : GoodIn wsX6_caseOf wsX4_timesAsked := goodIn_r _ [38, 39, 40, 32, 6, 33, 71, 72, 73, 74, 75, 76, 77, 78, 79] (by decide +kernel) (by decide +kernel)
set_option maxRecDepth 20000 in
theorem gX6_caseOf_X4_timesAsked : GoodIn wsX6_caseOf (wsV RX6 198 RX4 yX4_timesAsked wsX4_timesAsked) := goodIn_app (goodIn_of _ (by decide +kernel)) ggX6_caseOf_X4_timesAsked
set_option maxRecDepth 20000 in
theorem ggX6_caseOf_X4_wrongOf : GoodIn wsX6_caseOf wsX4_wrongOf := goodIn_r _ [44, 39, 40, 32, 6, 33, 45, 46, 71, 72, 73, 74, 75, 76, 77, 78, 79] (by decide +kernel) (by decide +kernel)
set_option maxRecDepth 20000 in
theorem gX6_caseOf_X4_wrongOf : GoodIn wsX6_caseOf (wsV RX6 195 RX4 yX4_wrongOf wsX4_wrongOf) := goodIn_app (goodIn_of _ (by decide +kernel)) ggX6_caseOf_X4_wrongOf
set_option maxRecDepth 20000 in
theorem ggX6_caseOf_X4_latestOf : GoodIn wsX6_caseOf wsX4_latestOf := goodIn_r _ [50, 51, 52, 45, 6, 46, 71, 72, 73, 74, 75, 76, 77, 78, 79] (by decide +kernel) (by decide +kernel)
set_option maxRecDepth 20000 in
theorem gX6_caseOf_X4_latestOf : GoodIn wsX6_caseOf (wsV RX6 201 RX4 yX4_latestOf wsX4_latestOf) := goodIn_app (goodIn_of _ (by decide +kernel)) ggX6_caseOf_X4_latestOf
theorem dX6_caseOf_0 : decode cX6_caseOf 0 = .ok (.aload_n 0, 1) := by decide +kernel
theorem dX6_caseOf_1 : decode cX6_caseOf 1 = .ok (.invokevirtual 126, 3) := by decide +kernel
theorem dX6_caseOf_4 : decode cX6_caseOf 4 = .ok (.astore_n 3, 1) := by decide +kernel
theorem dX6_caseOf_5 : decode cX6_caseOf 5 = .ok (.aload_n 3, 1) := by decide +kernel
theorem dX6_caseOf_6 : decode cX6_caseOf 6 = .ok (.ifnull 10, 3) := by decide +kernel
theorem dX6_caseOf_9 : decode cX6_caseOf 9 = .ok (.iload_n 1, 1) := by decide +kernel
theorem dX6_caseOf_10 : decode cX6_caseOf 10 = .ok (.invokestatic 94, 3) := by decide +kernel
theorem dX6_caseOf_13 : decode cX6_caseOf 13 = .ok (.ifCond .ne 5, 3) := by decide +kernel
theorem dX6_caseOf_16 : decode cX6_caseOf 16 = .ok (.iconst (-1), 1) := by decide +kernel
theorem dX6_caseOf_17 : decode cX6_caseOf 17 = .ok (.ireturn, 1) := by decide +kernel
theorem dX6_caseOf_18 : decode cX6_caseOf 18 = .ok (.iload_n 2, 1) := by decide +kernel
theorem dX6_caseOf_19 : decode cX6_caseOf 19 = .ok (.tableswitch 56 0 2 #[25, 34, 47], 25) := by decide +kernel
theorem dX6_caseOf_44 : decode cX6_caseOf 44 = .ok (.aload_n 0, 1) := by decide +kernel
theorem dX6_caseOf_45 : decode cX6_caseOf 45 = .ok (.getfield 35, 3) := by decide +kernel
theorem dX6_caseOf_48 : decode cX6_caseOf 48 = .ok (.iload_n 1, 1) := by decide +kernel
theorem dX6_caseOf_49 : decode cX6_caseOf 49 = .ok (.invokevirtual 198, 3) := by decide +kernel
theorem dX6_caseOf_52 : decode cX6_caseOf 52 = .ok (.ireturn, 1) := by decide +kernel
theorem dX6_caseOf_53 : decode cX6_caseOf 53 = .ok (.aload_n 0, 1) := by decide +kernel
theorem dX6_caseOf_54 : decode cX6_caseOf 54 = .ok (.getfield 35, 3) := by decide +kernel
theorem dX6_caseOf_57 : decode cX6_caseOf 57 = .ok (.iload_n 1, 1) := by decide +kernel
theorem dX6_caseOf_58 : decode cX6_caseOf 58 = .ok (.aload_n 3, 1) := by decide +kernel
theorem dX6_caseOf_59 : decode cX6_caseOf 59 = .ok (.getfield 97, 3) := by decide +kernel
theorem dX6_caseOf_62 : decode cX6_caseOf 62 = .ok (.invokevirtual 195, 3) := by decide +kernel
theorem dX6_caseOf_65 : decode cX6_caseOf 65 = .ok (.ireturn, 1) := by decide +kernel
theorem dX6_caseOf_66 : decode cX6_caseOf 66 = .ok (.aload_n 0, 1) := by decide +kernel
theorem dX6_caseOf_67 : decode cX6_caseOf 67 = .ok (.getfield 35, 3) := by decide +kernel
theorem dX6_caseOf_70 : decode cX6_caseOf 70 = .ok (.iload_n 1, 1) := by decide +kernel
theorem dX6_caseOf_71 : decode cX6_caseOf 71 = .ok (.invokevirtual 201, 3) := by decide +kernel
theorem dX6_caseOf_74 : decode cX6_caseOf 74 = .ok (.ireturn, 1) := by decide +kernel
theorem dX6_caseOf_75 : decode cX6_caseOf 75 = .ok (.iconst (-1), 1) := by decide +kernel
theorem dX6_caseOf_76 : decode cX6_caseOf 76 = .ok (.ireturn, 1) := by decide +kernel
set_option maxRecDepth 20000 in
theorem ggX6_count_X0_lessonAt : GoodIn wsX6_count wsX0_lessonAt := goodIn_r _ [14, 15, 16, 17, 13, 18, 79, 80, 81] (by decide +kernel) (by decide +kernel)
set_option maxRecDepth 20000 in
theorem gX6_count_X0_lessonAt : GoodIn wsX6_count (wsV RX6 139 RX0 yX0_lessonAt wsX0_lessonAt) := goodIn_app (goodIn_of _ (by decide +kernel)) ggX6_count_X0_lessonAt
set_option maxRecDepth 20000 in
theorem ggX6_count_X6_leftOf : GoodIn wsX6_count wsX6_leftOf := goodIn_r _ [23, 24, 2, 25, 26, 27, 28, 29, 30, 31, 32, 33, 34, 35, 36, 37, 38, 39, 40, 41, 42, 43, 44, 45, 22, 46, 47, 48, 84, 85, 86, 87, 61, 62, 63, 64, 65, 66, 67, 68, 69, 88, 89, 70, 71, 72, 73, 74, 75, 76, 77, 78] (by decide +kernel) (by decide +kernel)
set_option maxRecDepth 20000 in
theorem gX6_count_X6_leftOf : GoodIn wsX6_count (wsV RX6 152 RX6 yX6_leftOf wsX6_leftOf) := goodIn_app (goodIn_of _ (by decide +kernel)) ggX6_count_X6_leftOf
set_option maxRecDepth 20000 in
theorem ggX6_count_J6_bitCount_0f7a4 : GoodIn wsX6_count wsJ6_bitCount_0f7a4 := goodIn_r _ [52, 53, 54, 55] (by decide +kernel) (by decide +kernel)
set_option maxRecDepth 20000 in
theorem gX6_count_J6_bitCount_0f7a4 : GoodIn wsX6_count (va_wsS RX6 174 yJ6_bitCount_0f7a4 wsJ6_bitCount_0f7a4) := goodIn_app (goodIn_of _ (by decide +kernel)) ggX6_count_J6_bitCount_0f7a4
set_option maxRecDepth 20000 in
theorem ggX6_count_X0_isDone : GoodIn wsX6_count wsX0_isDone := goodIn_r _ [59, 60, 16, 17, 13, 18, 47, 22, 48, 79, 80, 81] (by decide +kernel) (by decide +kernel)
set_option maxRecDepth 20000 in
theorem gX6_count_X0_isDone : GoodIn wsX6_count (wsV RX6 129 RX0 yX0_isDone wsX0_isDone) := goodIn_app (goodIn_of _ (by decide +kernel)) ggX6_count_X0_isDone
theorem dX6_count_0 : decode cX6_count 0 = .ok (.iload_n 1, 1) := by decide +kernel
theorem dX6_count_1 : decode cX6_count 1 = .ok (.tableswitch 131 0 7 #[47, 52, 60, 68, 76, 95, 115, 123], 47) := by decide +kernel
theorem dX6_count_48 : decode cX6_count 48 = .ok (.aload_n 0, 1) := by decide +kernel
theorem dX6_count_49 : decode cX6_count 49 = .ok (.getfield 39, 3) := by decide +kernel
theorem dX6_count_52 : decode cX6_count 52 = .ok (.ireturn, 1) := by decide +kernel
theorem dX6_count_53 : decode cX6_count 53 = .ok (.aload_n 0, 1) := by decide +kernel
theorem dX6_count_54 : decode cX6_count 54 = .ok (.getfield 35, 3) := by decide +kernel
theorem dX6_count_57 : decode cX6_count 57 = .ok (.getfield 132, 3) := by decide +kernel
theorem dX6_count_60 : decode cX6_count 60 = .ok (.ireturn, 1) := by decide +kernel
theorem dX6_count_61 : decode cX6_count 61 = .ok (.aload_n 0, 1) := by decide +kernel
theorem dX6_count_62 : decode cX6_count 62 = .ok (.getfield 35, 3) := by decide +kernel
theorem dX6_count_65 : decode cX6_count 65 = .ok (.getfield 204, 3) := by decide +kernel
theorem dX6_count_68 : decode cX6_count 68 = .ok (.ireturn, 1) := by decide +kernel
theorem dX6_count_69 : decode cX6_count 69 = .ok (.aload_n 0, 1) := by decide +kernel
theorem dX6_count_70 : decode cX6_count 70 = .ok (.getfield 35, 3) := by decide +kernel
theorem dX6_count_73 : decode cX6_count 73 = .ok (.getfield 167, 3) := by decide +kernel
theorem dX6_count_76 : decode cX6_count 76 = .ok (.ireturn, 1) := by decide +kernel
theorem dX6_count_77 : decode cX6_count 77 = .ok (.aload_n 0, 1) := by decide +kernel
theorem dX6_count_78 : decode cX6_count 78 = .ok (.aload_n 0, 1) := by decide +kernel
theorem dX6_count_79 : decode cX6_count 79 = .ok (.getfield 28, 3) := by decide +kernel
theorem dX6_count_82 : decode cX6_count 82 = .ok (.aload_n 0, 1) := by decide +kernel
theorem dX6_count_83 : decode cX6_count 83 = .ok (.getfield 39, 3) := by decide +kernel
theorem dX6_count_86 : decode cX6_count 86 = .ok (.invokevirtual 139, 3) := by decide +kernel
theorem dX6_count_89 : decode cX6_count 89 = .ok (.invokevirtual 152, 3) := by decide +kernel
theorem dX6_count_92 : decode cX6_count 92 = .ok (.invokestatic 174, 3) := by decide +kernel
theorem dX6_count_95 : decode cX6_count 95 = .ok (.ireturn, 1) := by decide +kernel
theorem dX6_count_96 : decode cX6_count 96 = .ok (.aload_n 0, 1) := by decide +kernel
theorem dX6_count_97 : decode cX6_count 97 = .ok (.getfield 28, 3) := by decide +kernel
theorem dX6_count_100 : decode cX6_count 100 = .ok (.aload_n 0, 1) := by decide +kernel
theorem dX6_count_101 : decode cX6_count 101 = .ok (.getfield 39, 3) := by decide +kernel
theorem dX6_count_104 : decode cX6_count 104 = .ok (.invokevirtual 129, 3) := by decide +kernel
theorem dX6_count_107 : decode cX6_count 107 = .ok (.ifCond .eq 7, 3) := by decide +kernel
theorem dX6_count_110 : decode cX6_count 110 = .ok (.iconst 1, 1) := by decide +kernel
theorem dX6_count_111 : decode cX6_count 111 = .ok (.goto 4, 3) := by decide +kernel
theorem dX6_count_114 : decode cX6_count 114 = .ok (.iconst 0, 1) := by decide +kernel
theorem dX6_count_115 : decode cX6_count 115 = .ok (.ireturn, 1) := by decide +kernel
theorem dX6_count_116 : decode cX6_count 116 = .ok (.aload_n 0, 1) := by decide +kernel
theorem dX6_count_117 : decode cX6_count 117 = .ok (.getfield 28, 3) := by decide +kernel
theorem dX6_count_120 : decode cX6_count 120 = .ok (.getfield 207, 3) := by decide +kernel
theorem dX6_count_123 : decode cX6_count 123 = .ok (.ireturn, 1) := by decide +kernel
theorem dX6_count_124 : decode cX6_count 124 = .ok (.aload_n 0, 1) := by decide +kernel
theorem dX6_count_125 : decode cX6_count 125 = .ok (.getfield 10, 3) := by decide +kernel
theorem dX6_count_128 : decode cX6_count 128 = .ok (.getfield 55, 3) := by decide +kernel
theorem dX6_count_131 : decode cX6_count 131 = .ok (.ireturn, 1) := by decide +kernel
theorem dX6_count_132 : decode cX6_count 132 = .ok (.iconst (-1), 1) := by decide +kernel
theorem dX6_count_133 : decode cX6_count 133 = .ok (.ireturn, 1) := by decide +kernel
set_option maxRecDepth 20000 in
theorem ggX6_changeable_X0_isDone : GoodIn wsX6_changeable wsX0_isDone := goodIn_r _ [7, 8, 9, 10, 6, 11, 12, 13, 14, 29, 30, 31] (by decide +kernel) (by decide +kernel)
set_option maxRecDepth 20000 in
theorem gX6_changeable_X0_isDone : GoodIn wsX6_changeable (wsV RX6 129 RX0 yX0_isDone wsX0_isDone) := goodIn_app (goodIn_of _ (by decide +kernel)) ggX6_changeable_X0_isDone
set_option maxRecDepth 20000 in
theorem ggX6_changeable_X0_lessonAt : GoodIn wsX6_changeable wsX0_lessonAt := goodIn_r _ [18, 19, 9, 10, 6, 11, 29, 30, 31] (by decide +kernel) (by decide +kernel)
set_option maxRecDepth 20000 in
theorem gX6_changeable_X0_lessonAt : GoodIn wsX6_changeable (wsV RX6 139 RX0 yX0_lessonAt wsX0_lessonAt) := goodIn_app (goodIn_of _ (by decide +kernel)) ggX6_changeable_X0_lessonAt
theorem dX6_changeable_0 : decode cX6_changeable 0 = .ok (.iload_n 1, 1) := by decide +kernel
theorem dX6_changeable_1 : decode cX6_changeable 1 = .ok (.aload_n 0, 1) := by decide +kernel
theorem dX6_changeable_2 : decode cX6_changeable 2 = .ok (.getfield 39, 3) := by decide +kernel
theorem dX6_changeable_5 : decode cX6_changeable 5 = .ok (.if_icmp .eq 14, 3) := by decide +kernel
theorem dX6_changeable_8 : decode cX6_changeable 8 = .ok (.aload_n 0, 1) := by decide +kernel
theorem dX6_changeable_9 : decode cX6_changeable 9 = .ok (.getfield 28, 3) := by decide +kernel
theorem dX6_changeable_12 : decode cX6_changeable 12 = .ok (.iload_n 1, 1) := by decide +kernel
theorem dX6_changeable_13 : decode cX6_changeable 13 = .ok (.invokevirtual 129, 3) := by decide +kernel
theorem dX6_changeable_16 : decode cX6_changeable 16 = .ok (.ifCond .eq 7, 3) := by decide +kernel
theorem dX6_changeable_19 : decode cX6_changeable 19 = .ok (.aconst_null, 1) := by decide +kernel
theorem dX6_changeable_20 : decode cX6_changeable 20 = .ok (.goto 11, 3) := by decide +kernel
theorem dX6_changeable_23 : decode cX6_changeable 23 = .ok (.aload_n 0, 1) := by decide +kernel
theorem dX6_changeable_24 : decode cX6_changeable 24 = .ok (.getfield 28, 3) := by decide +kernel
theorem dX6_changeable_27 : decode cX6_changeable 27 = .ok (.iload_n 1, 1) := by decide +kernel
theorem dX6_changeable_28 : decode cX6_changeable 28 = .ok (.invokevirtual 139, 3) := by decide +kernel
theorem dX6_changeable_31 : decode cX6_changeable 31 = .ok (.areturn, 1) := by decide +kernel
set_option maxRecDepth 20000 in
theorem ggX6_formulaAt_X0_lessonAt : GoodIn wsX6_formulaAt wsX0_lessonAt := goodIn_r _ [7, 8, 9, 10, 6, 11, 32, 33, 34] (by decide +kernel) (by decide +kernel)
set_option maxRecDepth 20000 in
theorem gX6_formulaAt_X0_lessonAt : GoodIn wsX6_formulaAt (wsV RX6 139 RX0 yX0_lessonAt wsX0_lessonAt) := goodIn_app (goodIn_of _ (by decide +kernel)) ggX6_formulaAt_X0_lessonAt
set_option maxRecDepth 20000 in
theorem ggX6_formulaAt_X2_pictureAt : GoodIn wsX6_formulaAt wsX2_pictureAt := goodIn_r _ [16, 17, 18, 28, 29, 30, 31] (by decide +kernel) (by decide +kernel)
set_option maxRecDepth 20000 in
theorem gX6_formulaAt_X2_pictureAt : GoodIn wsX6_formulaAt (wsV RX6 142 RX2 yX2_pictureAt wsX2_pictureAt) := goodIn_app (goodIn_of _ (by decide +kernel)) ggX6_formulaAt_X2_pictureAt
theorem dX6_formulaAt_0 : decode cX6_formulaAt 0 = .ok (.aload_n 0, 1) := by decide +kernel
theorem dX6_formulaAt_1 : decode cX6_formulaAt 1 = .ok (.getfield 28, 3) := by decide +kernel
theorem dX6_formulaAt_4 : decode cX6_formulaAt 4 = .ok (.iload_n 1, 1) := by decide +kernel
theorem dX6_formulaAt_5 : decode cX6_formulaAt 5 = .ok (.invokevirtual 139, 3) := by decide +kernel
theorem dX6_formulaAt_8 : decode cX6_formulaAt 8 = .ok (.astore_n 3, 1) := by decide +kernel
theorem dX6_formulaAt_9 : decode cX6_formulaAt 9 = .ok (.aload_n 3, 1) := by decide +kernel
theorem dX6_formulaAt_10 : decode cX6_formulaAt 10 = .ok (.ifnonnull 5, 3) := by decide +kernel
theorem dX6_formulaAt_13 : decode cX6_formulaAt 13 = .ok (.aconst_null, 1) := by decide +kernel
theorem dX6_formulaAt_14 : decode cX6_formulaAt 14 = .ok (.areturn, 1) := by decide +kernel
theorem dX6_formulaAt_15 : decode cX6_formulaAt 15 = .ok (.iload_n 2, 1) := by decide +kernel
theorem dX6_formulaAt_16 : decode cX6_formulaAt 16 = .ok (.iconst (-1), 1) := by decide +kernel
theorem dX6_formulaAt_17 : decode cX6_formulaAt 17 = .ok (.if_icmp .ne 10, 3) := by decide +kernel
theorem dX6_formulaAt_20 : decode cX6_formulaAt 20 = .ok (.aload_n 3, 1) := by decide +kernel
theorem dX6_formulaAt_21 : decode cX6_formulaAt 21 = .ok (.getfield 77, 3) := by decide +kernel
theorem dX6_formulaAt_24 : decode cX6_formulaAt 24 = .ok (.goto 8, 3) := by decide +kernel
theorem dX6_formulaAt_27 : decode cX6_formulaAt 27 = .ok (.aload_n 3, 1) := by decide +kernel
theorem dX6_formulaAt_28 : decode cX6_formulaAt 28 = .ok (.iload_n 2, 1) := by decide +kernel
theorem dX6_formulaAt_29 : decode cX6_formulaAt 29 = .ok (.invokevirtual 142, 3) := by decide +kernel
theorem dX6_formulaAt_32 : decode cX6_formulaAt 32 = .ok (.areturn, 1) := by decide +kernel
set_option maxRecDepth 20000 in
theorem ggX6_begunLaw_X6_formulaAt : GoodIn wsX6_begunLaw wsX6_formulaAt := goodIn_r _ [6, 7, 8, 9, 10, 11, 12, 13, 14, 15, 16, 17, 18, 19, 20, 21, 22, 23, 24, 25, 26, 27, 28, 29, 30, 31, 32, 33, 34, 35, 36, 37, 38, 39, 40] (by decide +kernel) (by decide +kernel)
set_option maxRecDepth 20000 in
theorem gX6_begunLaw_X6_formulaAt : GoodIn wsX6_begunLaw (wsV RX6 90 RX6 yX6_formulaAt wsX6_formulaAt) := goodIn_app (goodIn_of _ (by decide +kernel)) ggX6_begunLaw_X6_formulaAt
theorem dX6_begunLaw_0 : decode cX6_begunLaw 0 = .ok (.aload_n 0, 1) := by decide +kernel
theorem dX6_begunLaw_1 : decode cX6_begunLaw 1 = .ok (.aload_n 0, 1) := by decide +kernel
theorem dX6_begunLaw_2 : decode cX6_begunLaw 2 = .ok (.getfield 39, 3) := by decide +kernel
theorem dX6_begunLaw_5 : decode cX6_begunLaw 5 = .ok (.iconst (-1), 1) := by decide +kernel
theorem dX6_begunLaw_6 : decode cX6_begunLaw 6 = .ok (.invokevirtual 90, 3) := by decide +kernel
theorem dX6_begunLaw_9 : decode cX6_begunLaw 9 = .ok (.areturn, 1) := by decide +kernel
set_option maxRecDepth 20000 in
theorem ggX6_readTape_X3_readText : GoodIn wsX6_readTape wsX3_readText := goodIn_r _ [8, 9, 10, 11, 12, 13, 14, 15, 16, 7, 17, 18, 19, 20, 21, 22, 23, 24, 25, 26, 27, 28, 29, 30, 31, 32, 33, 34, 35, 36, 37, 38, 39, 40, 41, 42, 43, 44, 45, 46, 47, 48, 49, 50, 51, 52, 53, 54, 55, 56, 57, 58, 59, 60, 61, 62, 63, 64, 65, 66, 67, 68, 69, 70, 71, 72, 73, 74, 88, 89, 90, 91, 92, 93, 94, 95, 96, 97] (by decide +kernel) (by decide +kernel)
set_option maxRecDepth 20000 in
theorem gX6_readTape_X3_readText : GoodIn wsX6_readTape (wsV RX6 210 RX3 yX3_readText wsX3_readText) := goodIn_app (goodIn_of _ (by decide +kernel)) ggX6_readTape_X3_readText
set_option maxRecDepth 20000 in
theorem ggX6_readTape_X5_clear : GoodIn wsX6_readTape wsX5_clear := goodIn_r _ [78, 32, 96, 97] (by decide +kernel) (by decide +kernel)
set_option maxRecDepth 20000 in
theorem gX6_readTape_X5_clear : GoodIn wsX6_readTape (wsV RX6 213 RX5 yX5_clear wsX5_clear) := goodIn_app (goodIn_of _ (by decide +kernel)) ggX6_readTape_X5_clear
theorem dX6_readTape_0 : decode cX6_readTape 0 = .ok (.aload_n 0, 1) := by decide +kernel
theorem dX6_readTape_1 : decode cX6_readTape 1 = .ok (.aload_n 0, 1) := by decide +kernel
theorem dX6_readTape_2 : decode cX6_readTape 2 = .ok (.getfield 21, 3) := by decide +kernel
theorem dX6_readTape_5 : decode cX6_readTape 5 = .ok (.iload_n 1, 1) := by decide +kernel
theorem dX6_readTape_6 : decode cX6_readTape 6 = .ok (.invokevirtual 210, 3) := by decide +kernel
theorem dX6_readTape_9 : decode cX6_readTape 9 = .ok (.putfield 43, 3) := by decide +kernel
theorem dX6_readTape_12 : decode cX6_readTape 12 = .ok (.aload_n 0, 1) := by decide +kernel
theorem dX6_readTape_13 : decode cX6_readTape 13 = .ok (.getfield 10, 3) := by decide +kernel
theorem dX6_readTape_16 : decode cX6_readTape 16 = .ok (.invokevirtual 213, 3) := by decide +kernel
theorem dX6_readTape_19 : decode cX6_readTape 19 = .ok (.aload_n 0, 1) := by decide +kernel
theorem dX6_readTape_20 : decode cX6_readTape 20 = .ok (.getfield 43, 3) := by decide +kernel
theorem dX6_readTape_23 : decode cX6_readTape 23 = .ok (.iconst (-1), 1) := by decide +kernel
theorem dX6_readTape_24 : decode cX6_readTape 24 = .ok (.if_icmp .ne 7, 3) := by decide +kernel
theorem dX6_readTape_27 : decode cX6_readTape 27 = .ok (.iconst 1, 1) := by decide +kernel
theorem dX6_readTape_28 : decode cX6_readTape 28 = .ok (.goto 4, 3) := by decide +kernel
theorem dX6_readTape_31 : decode cX6_readTape 31 = .ok (.iconst 0, 1) := by decide +kernel
