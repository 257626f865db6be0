theorem inlX0 : ∀ w ∈ wsX00, w ∈ wsL_law := fun _ h => List.mem_append_left _ (List.mem_append_left _ (List.mem_append_left _ (List.mem_append_left _ (List.mem_append_right _ h))))
theorem inX0 : ∀ w ∈ wsX00, w ∈ lw_tbl := fun w h => wsL_law_in w (inlX0 w h)
theorem inlX1 : ∀ w ∈ wsX10, w ∈ wsL_law := fun _ h => List.mem_append_left _ (List.mem_append_right _ h)
theorem inX1 : ∀ w ∈ wsX10, w ∈ lw_tbl := fun w h => wsL_law_in w (inlX1 w h)
theorem inlX2 : ∀ w ∈ wsX20, w ∈ wsL_law := fun _ h => List.mem_append_left _ (List.mem_append_left _ (List.mem_append_right _ h))
theorem inX2 : ∀ w ∈ wsX20, w ∈ lw_tbl := fun w h => wsL_law_in w (inlX2 w h)
theorem inlX3 : ∀ w ∈ wsX30, w ∈ wsL_law := fun _ h => List.mem_append_left _ (List.mem_append_left _ (List.mem_append_left _ (List.mem_append_left _ (List.mem_append_left _ (List.mem_append_right _ h)))))
theorem inX3 : ∀ w ∈ wsX30, w ∈ lw_tbl := fun w h => wsL_law_in w (inlX3 w h)
theorem inlX4 : ∀ w ∈ wsX40, w ∈ wsL_law := fun _ h => List.mem_append_left _ (List.mem_append_left _ (List.mem_append_left _ (List.mem_append_right _ h)))
theorem inX4 : ∀ w ∈ wsX40, w ∈ lw_tbl := fun w h => wsL_law_in w (inlX4 w h)
theorem inlX5 : ∀ w ∈ wsX50, w ∈ wsL_law := fun _ h => List.mem_append_left _ (List.mem_append_left _ (List.mem_append_left _ (List.mem_append_left _ (List.mem_append_left _ (List.mem_append_left _ (List.mem_append_right _ h))))))
theorem inX5 : ∀ w ∈ wsX50, w ∈ lw_tbl := fun w h => wsL_law_in w (inlX5 w h)
theorem inlX6 : ∀ w ∈ wsX60, w ∈ wsL_law := fun _ h => List.mem_append_left _ (List.mem_append_left _ (List.mem_append_left _ (List.mem_append_left _ (List.mem_append_left _ (List.mem_append_left _ (List.mem_append_left _ (List.mem_append_left _ (List.mem_append_right _ h))))))))
theorem inX6 : ∀ w ∈ wsX60, w ∈ lw_tbl := fun w h => wsL_law_in w (inlX6 w h)
theorem inlX7 : ∀ w ∈ wsX70, w ∈ wsL_law := fun _ h => List.mem_append_left _ (List.mem_append_left _ (List.mem_append_left _ (List.mem_append_left _ (List.mem_append_left _ (List.mem_append_left _ (List.mem_append_left _ (List.mem_append_right _ h)))))))
theorem inX7 : ∀ w ∈ wsX70, w ∈ lw_tbl := fun w h => wsL_law_in w (inlX7 w h)
theorem inJx8e188 : ∀ w ∈ wsJx8e1880, w ∈ lw_tbl := by decide +kernel
theorem inJ6 : ∀ w ∈ wsJ60, w ∈ lw_tbl := by decide +kernel
theorem inJ9 : ∀ w ∈ wsJ90, w ∈ lw_tbl := by decide +kernel
theorem inJ10 : ∀ w ∈ wsJ100, w ∈ lw_tbl := by decide +kernel
theorem inJ7 : ∀ w ∈ wsJ70, w ∈ lw_tbl := by decide +kernel
set_option maxRecDepth 20000 in
theorem ggX0_init_X2_init : GoodIn wsX0_init wsX2_init := goodIn_r _ [12, 13, 2, 3, 14, 15, 6, 16, 17, 18, 22, 23, 24, 25] (by decide +kernel) (by decide +kernel)
set_option maxRecDepth 20000 in
theorem gX0_init_X2_init_n25 : GoodIn wsX0_init (wsX2_init) := ggX0_init_X2_init
theorem dX0_init_0 : decode cX0_init 0 = .ok (.aload_n 0, 1) := by decide +kernel
theorem dX0_init_1 : decode cX0_init 1 = .ok (.invokespecial 3, 3) := by decide +kernel
theorem dX0_init_4 : decode cX0_init 4 = .ok (.aload_n 0, 1) := by decide +kernel
theorem dX0_init_5 : decode cX0_init 5 = .ok (.bipush 6, 2) := by decide +kernel
theorem dX0_init_7 : decode cX0_init 7 = .ok (.anewarray 9, 3) := by decide +kernel
theorem dX0_init_10 : decode cX0_init 10 = .ok (.putfield 11, 3) := by decide +kernel
theorem dX0_init_13 : decode cX0_init 13 = .ok (.aload_n 0, 1) := by decide +kernel
theorem dX0_init_14 : decode cX0_init 14 = .ok (.bipush 6, 2) := by decide +kernel
theorem dX0_init_16 : decode cX0_init 16 = .ok (.newarray .int, 2) := by decide +kernel
theorem dX0_init_18 : decode cX0_init 18 = .ok (.putfield 17, 3) := by decide +kernel
theorem dX0_init_21 : decode cX0_init 21 = .ok (.aload_n 0, 1) := by decide +kernel
theorem dX0_init_22 : decode cX0_init 22 = .ok (.iconst 0, 1) := by decide +kernel
theorem dX0_init_23 : decode cX0_init 23 = .ok (.putfield 21, 3) := by decide +kernel
theorem dX0_init_26 : decode cX0_init 26 = .ok (.iconst 0, 1) := by decide +kernel
theorem dX0_init_27 : decode cX0_init 27 = .ok (.istore_n 1, 1) := by decide +kernel
theorem dX0_init_28 : decode cX0_init 28 = .ok (.iload_n 1, 1) := by decide +kernel
theorem dX0_init_29 : decode cX0_init 29 = .ok (.aload_n 0, 1) := by decide +kernel
theorem dX0_init_30 : decode cX0_init 30 = .ok (.getfield 11, 3) := by decide +kernel
theorem dX0_init_33 : decode cX0_init 33 = .ok (.arraylength, 1) := by decide +kernel
theorem dX0_init_34 : decode cX0_init 34 = .ok (.if_icmp .ge 22, 3) := by decide +kernel
theorem dX0_init_37 : decode cX0_init 37 = .ok (.aload_n 0, 1) := by decide +kernel
theorem dX0_init_38 : decode cX0_init 38 = .ok (.getfield 11, 3) := by decide +kernel
theorem dX0_init_41 : decode cX0_init 41 = .ok (.iload_n 1, 1) := by decide +kernel
theorem dX0_init_42 : decode cX0_init 42 = .ok (.new 9, 3) := by decide +kernel
theorem dX0_init_45 : decode cX0_init 45 = .ok (.dup, 1) := by decide +kernel
theorem dX0_init_46 : decode cX0_init 46 = .ok (.invokespecial 25, 3) := by decide +kernel
theorem dX0_init_49 : decode cX0_init 49 = .ok (.aastore, 1) := by decide +kernel
theorem dX0_init_50 : decode cX0_init 50 = .ok (.iinc 1 1, 3) := by decide +kernel
theorem dX0_init_53 : decode cX0_init 53 = .ok (.goto (-25), 3) := by decide +kernel
theorem dX0_init_56 : decode cX0_init 56 = .ok (.return_, 1) := by decide +kernel
set_option maxRecDepth 20000 in
theorem ggX0_lessonAt_X0_isLesson : GoodIn wsX0_lessonAt wsX0_isLesson := goodIn_r _ [5] (by decide +kernel) (by decide +kernel)
set_option maxRecDepth 20000 in
theorem gX0_lessonAt_X0_isLesson : GoodIn wsX0_lessonAt (va_wsS RX0 26 yX0_isLesson wsX0_isLesson) := goodIn_app (goodIn_of _ (by decide +kernel)) ggX0_lessonAt_X0_isLesson
theorem dX0_lessonAt_0 : decode cX0_lessonAt 0 = .ok (.iload_n 1, 1) := by decide +kernel
theorem dX0_lessonAt_1 : decode cX0_lessonAt 1 = .ok (.invokestatic 26, 3) := by decide +kernel
theorem dX0_lessonAt_4 : decode cX0_lessonAt 4 = .ok (.ifCond .eq 12, 3) := by decide +kernel
theorem dX0_lessonAt_7 : decode cX0_lessonAt 7 = .ok (.aload_n 0, 1) := by decide +kernel
theorem dX0_lessonAt_8 : decode cX0_lessonAt 8 = .ok (.getfield 11, 3) := by decide +kernel
theorem dX0_lessonAt_11 : decode cX0_lessonAt 11 = .ok (.iload_n 1, 1) := by decide +kernel
theorem dX0_lessonAt_12 : decode cX0_lessonAt 12 = .ok (.aaload, 1) := by decide +kernel
theorem dX0_lessonAt_13 : decode cX0_lessonAt 13 = .ok (.goto 4, 3) := by decide +kernel
theorem dX0_lessonAt_16 : decode cX0_lessonAt 16 = .ok (.aconst_null, 1) := by decide +kernel
theorem dX0_lessonAt_17 : decode cX0_lessonAt 17 = .ok (.areturn, 1) := by decide +kernel
set_option maxRecDepth 20000 in
theorem ggX0_isDone_X0_isLesson : GoodIn wsX0_isDone wsX0_isLesson := goodIn_r _ [5] (by decide +kernel) (by decide +kernel)
set_option maxRecDepth 20000 in
theorem gX0_isDone_X0_isLesson : GoodIn wsX0_isDone (va_wsS RX0 26 yX0_isLesson wsX0_isLesson) := goodIn_app (goodIn_of _ (by decide +kernel)) ggX0_isDone_X0_isLesson
set_option maxRecDepth 20000 in
theorem ggX0_isDone_X6_bitAt : GoodIn wsX0_isDone wsX6_bitAt := goodIn_r _ [8] (by decide +kernel) (by decide +kernel)
set_option maxRecDepth 20000 in
theorem gX0_isDone_X6_bitAt_n30 : GoodIn wsX0_isDone (wsX6_bitAt) := ggX0_isDone_X6_bitAt
theorem dX0_isDone_0 : decode cX0_isDone 0 = .ok (.iload_n 1, 1) := by decide +kernel
theorem dX0_isDone_1 : decode cX0_isDone 1 = .ok (.invokestatic 26, 3) := by decide +kernel
theorem dX0_isDone_4 : decode cX0_isDone 4 = .ok (.ifCond .eq 19, 3) := by decide +kernel
theorem dX0_isDone_7 : decode cX0_isDone 7 = .ok (.aload_n 0, 1) := by decide +kernel
theorem dX0_isDone_8 : decode cX0_isDone 8 = .ok (.getfield 21, 3) := by decide +kernel
theorem dX0_isDone_11 : decode cX0_isDone 11 = .ok (.iload_n 1, 1) := by decide +kernel
theorem dX0_isDone_12 : decode cX0_isDone 12 = .ok (.invokestatic 30, 3) := by decide +kernel
theorem dX0_isDone_15 : decode cX0_isDone 15 = .ok (.iconst 1, 1) := by decide +kernel
theorem dX0_isDone_16 : decode cX0_isDone 16 = .ok (.if_icmp .ne 7, 3) := by decide +kernel
theorem dX0_isDone_19 : decode cX0_isDone 19 = .ok (.iconst 1, 1) := by decide +kernel
theorem dX0_isDone_20 : decode cX0_isDone 20 = .ok (.goto 4, 3) := by decide +kernel
theorem dX0_isDone_23 : decode cX0_isDone 23 = .ok (.iconst 0, 1) := by decide +kernel
theorem dX0_isDone_24 : decode cX0_isDone 24 = .ok (.ireturn, 1) := by decide +kernel
set_option maxRecDepth 20000 in
theorem ggX0_end_X0_isLesson : GoodIn wsX0_end wsX0_isLesson := goodIn_r _ [5] (by decide +kernel) (by decide +kernel)
set_option maxRecDepth 20000 in
theorem gX0_end_X0_isLesson : GoodIn wsX0_end (va_wsS RX0 26 yX0_isLesson wsX0_isLesson) := goodIn_app (goodIn_of _ (by decide +kernel)) ggX0_end_X0_isLesson
theorem dX0_end_0 : decode cX0_end 0 = .ok (.iload_n 1, 1) := by decide +kernel
theorem dX0_end_1 : decode cX0_end 1 = .ok (.invokestatic 26, 3) := by decide +kernel
theorem dX0_end_4 : decode cX0_end 4 = .ok (.ifCond .eq 15, 3) := by decide +kernel
theorem dX0_end_7 : decode cX0_end 7 = .ok (.aload_n 0, 1) := by decide +kernel
theorem dX0_end_8 : decode cX0_end 8 = .ok (.dup, 1) := by decide +kernel
theorem dX0_end_9 : decode cX0_end 9 = .ok (.getfield 21, 3) := by decide +kernel
theorem dX0_end_12 : decode cX0_end 12 = .ok (.iconst 1, 1) := by decide +kernel
theorem dX0_end_13 : decode cX0_end 13 = .ok (.iload_n 1, 1) := by decide +kernel
theorem dX0_end_14 : decode cX0_end 14 = .ok (.ishl, 1) := by decide +kernel
theorem dX0_end_15 : decode cX0_end 15 = .ok (.ior, 1) := by decide +kernel
theorem dX0_end_16 : decode cX0_end 16 = .ok (.putfield 21, 3) := by decide +kernel
theorem dX0_end_19 : decode cX0_end 19 = .ok (.return_, 1) := by decide +kernel
set_option maxRecDepth 20000 in
theorem ggX0_mayBegin_X0_lessonAt : GoodIn wsX0_mayBegin wsX0_lessonAt := goodIn_r _ [8, 9, 10, 11, 7, 12, 24, 25, 26] (by decide +kernel) (by decide +kernel)
set_option maxRecDepth 20000 in
theorem gX0_mayBegin_X0_lessonAt : GoodIn wsX0_mayBegin (wsV RX0 34 RX0 yX0_lessonAt wsX0_lessonAt) := goodIn_app (goodIn_of _ (by decide +kernel)) ggX0_mayBegin_X0_lessonAt
set_option maxRecDepth 20000 in
theorem ggX0_mayBegin_X0_isDone : GoodIn wsX0_mayBegin wsX0_isDone := goodIn_r _ [16, 3, 10, 11, 7, 12, 17, 18, 19, 24, 25, 26] (by decide +kernel) (by decide +kernel)
set_option maxRecDepth 20000 in
theorem gX0_mayBegin_X0_isDone : GoodIn wsX0_mayBegin (wsV RX0 42 RX0 yX0_isDone wsX0_isDone) := goodIn_app (goodIn_of _ (by decide +kernel)) ggX0_mayBegin_X0_isDone
theorem dX0_mayBegin_0 : decode cX0_mayBegin 0 = .ok (.aload_n 0, 1) := by decide +kernel
theorem dX0_mayBegin_1 : decode cX0_mayBegin 1 = .ok (.iload_n 1, 1) := by decide +kernel
theorem dX0_mayBegin_2 : decode cX0_mayBegin 2 = .ok (.invokevirtual 34, 3) := by decide +kernel
theorem dX0_mayBegin_5 : decode cX0_mayBegin 5 = .ok (.astore_n 2, 1) := by decide +kernel
theorem dX0_mayBegin_6 : decode cX0_mayBegin 6 = .ok (.aload_n 2, 1) := by decide +kernel
theorem dX0_mayBegin_7 : decode cX0_mayBegin 7 = .ok (.ifnull 38, 3) := by decide +kernel
theorem dX0_mayBegin_10 : decode cX0_mayBegin 10 = .ok (.aload_n 2, 1) := by decide +kernel
theorem dX0_mayBegin_11 : decode cX0_mayBegin 11 = .ok (.getfield 38, 3) := by decide +kernel
theorem dX0_mayBegin_14 : decode cX0_mayBegin 14 = .ok (.ifnull 31, 3) := by decide +kernel
theorem dX0_mayBegin_17 : decode cX0_mayBegin 17 = .ok (.aload_n 0, 1) := by decide +kernel
theorem dX0_mayBegin_18 : decode cX0_mayBegin 18 = .ok (.iload_n 1, 1) := by decide +kernel
theorem dX0_mayBegin_19 : decode cX0_mayBegin 19 = .ok (.invokevirtual 42, 3) := by decide +kernel
theorem dX0_mayBegin_22 : decode cX0_mayBegin 22 = .ok (.ifCond .ne 23, 3) := by decide +kernel
theorem dX0_mayBegin_25 : decode cX0_mayBegin 25 = .ok (.aload_n 0, 1) := by decide +kernel
theorem dX0_mayBegin_26 : decode cX0_mayBegin 26 = .ok (.getfield 17, 3) := by decide +kernel
theorem dX0_mayBegin_29 : decode cX0_mayBegin 29 = .ok (.iload_n 1, 1) := by decide +kernel
theorem dX0_mayBegin_30 : decode cX0_mayBegin 30 = .ok (.iaload, 1) := by decide +kernel
theorem dX0_mayBegin_31 : decode cX0_mayBegin 31 = .ok (.aload_n 0, 1) := by decide +kernel
theorem dX0_mayBegin_32 : decode cX0_mayBegin 32 = .ok (.getfield 21, 3) := by decide +kernel
theorem dX0_mayBegin_35 : decode cX0_mayBegin 35 = .ok (.iconst (-1), 1) := by decide +kernel
theorem dX0_mayBegin_36 : decode cX0_mayBegin 36 = .ok (.ixor, 1) := by decide +kernel
theorem dX0_mayBegin_37 : decode cX0_mayBegin 37 = .ok (.iand, 1) := by decide +kernel
theorem dX0_mayBegin_38 : decode cX0_mayBegin 38 = .ok (.ifCond .ne 7, 3) := by decide +kernel
theorem dX0_mayBegin_41 : decode cX0_mayBegin 41 = .ok (.iconst 1, 1) := by decide +kernel
theorem dX0_mayBegin_42 : decode cX0_mayBegin 42 = .ok (.goto 4, 3) := by decide +kernel
theorem dX0_mayBegin_45 : decode cX0_mayBegin 45 = .ok (.iconst 0, 1) := by decide +kernel
theorem dX0_mayBegin_46 : decode cX0_mayBegin 46 = .ok (.ireturn, 1) := by decide +kernel
set_option maxRecDepth 20000 in
theorem ggX0_addNeed_X0_isLesson : GoodIn wsX0_addNeed wsX0_isLesson := goodIn_r _ [5] (by decide +kernel) (by decide +kernel)
set_option maxRecDepth 20000 in
theorem gX0_addNeed_X0_isLesson : GoodIn wsX0_addNeed (va_wsS RX0 26 yX0_isLesson wsX0_isLesson) := goodIn_app (goodIn_of _ (by decide +kernel)) ggX0_addNeed_X0_isLesson
set_option maxRecDepth 20000 in
theorem ggX0_addNeed_X6_bitAt : GoodIn wsX0_addNeed wsX6_bitAt := goodIn_r _ [8] (by decide +kernel) (by decide +kernel)
set_option maxRecDepth 20000 in
theorem gX0_addNeed_X6_bitAt_n30 : GoodIn wsX0_addNeed (wsX6_bitAt) := ggX0_addNeed_X6_bitAt
set_option maxRecDepth 20000 in
theorem ggX0_addNeed_X0_neededInTheEnd : GoodIn wsX0_addNeed wsX0_neededInTheEnd := goodIn_r _ [12, 1, 6, 7, 8, 13, 14, 15] (by decide +kernel) (by decide +kernel)
set_option maxRecDepth 20000 in
theorem gX0_addNeed_X0_neededInTheEnd : GoodIn wsX0_addNeed (wsV RX0 45 RX0 yX0_neededInTheEnd wsX0_neededInTheEnd) := goodIn_app (goodIn_of _ (by decide +kernel)) ggX0_addNeed_X0_neededInTheEnd
theorem dX0_addNeed_0 : decode cX0_addNeed 0 = .ok (.iload_n 1, 1) := by decide +kernel
theorem dX0_addNeed_1 : decode cX0_addNeed 1 = .ok (.invokestatic 26, 3) := by decide +kernel
theorem dX0_addNeed_4 : decode cX0_addNeed 4 = .ok (.ifCond .eq 15, 3) := by decide +kernel
theorem dX0_addNeed_7 : decode cX0_addNeed 7 = .ok (.iload_n 2, 1) := by decide +kernel
theorem dX0_addNeed_8 : decode cX0_addNeed 8 = .ok (.invokestatic 26, 3) := by decide +kernel
theorem dX0_addNeed_11 : decode cX0_addNeed 11 = .ok (.ifCond .eq 8, 3) := by decide +kernel
theorem dX0_addNeed_14 : decode cX0_addNeed 14 = .ok (.iload_n 1, 1) := by decide +kernel
theorem dX0_addNeed_15 : decode cX0_addNeed 15 = .ok (.iload_n 2, 1) := by decide +kernel
theorem dX0_addNeed_16 : decode cX0_addNeed 16 = .ok (.if_icmp .ne 5, 3) := by decide +kernel
theorem dX0_addNeed_19 : decode cX0_addNeed 19 = .ok (.iconst 0, 1) := by decide +kernel
theorem dX0_addNeed_20 : decode cX0_addNeed 20 = .ok (.ireturn, 1) := by decide +kernel
theorem dX0_addNeed_21 : decode cX0_addNeed 21 = .ok (.aload_n 0, 1) := by decide +kernel
theorem dX0_addNeed_22 : decode cX0_addNeed 22 = .ok (.getfield 17, 3) := by decide +kernel
theorem dX0_addNeed_25 : decode cX0_addNeed 25 = .ok (.iload_n 1, 1) := by decide +kernel
theorem dX0_addNeed_26 : decode cX0_addNeed 26 = .ok (.iaload, 1) := by decide +kernel
theorem dX0_addNeed_27 : decode cX0_addNeed 27 = .ok (.iload_n 2, 1) := by decide +kernel
theorem dX0_addNeed_28 : decode cX0_addNeed 28 = .ok (.invokestatic 30, 3) := by decide +kernel
theorem dX0_addNeed_31 : decode cX0_addNeed 31 = .ok (.iconst 1, 1) := by decide +kernel
theorem dX0_addNeed_32 : decode cX0_addNeed 32 = .ok (.if_icmp .eq 16, 3) := by decide +kernel
theorem dX0_addNeed_35 : decode cX0_addNeed 35 = .ok (.aload_n 0, 1) := by decide +kernel
theorem dX0_addNeed_36 : decode cX0_addNeed 36 = .ok (.iload_n 2, 1) := by decide +kernel
theorem dX0_addNeed_37 : decode cX0_addNeed 37 = .ok (.invokevirtual 45, 3) := by decide +kernel
theorem dX0_addNeed_40 : decode cX0_addNeed 40 = .ok (.iload_n 1, 1) := by decide +kernel
theorem dX0_addNeed_41 : decode cX0_addNeed 41 = .ok (.invokestatic 30, 3) := by decide +kernel
theorem dX0_addNeed_44 : decode cX0_addNeed 44 = .ok (.iconst 1, 1) := by decide +kernel
theorem dX0_addNeed_45 : decode cX0_addNeed 45 = .ok (.if_icmp .ne 5, 3) := by decide +kernel
theorem dX0_addNeed_48 : decode cX0_addNeed 48 = .ok (.iconst 0, 1) := by decide +kernel
theorem dX0_addNeed_49 : decode cX0_addNeed 49 = .ok (.ireturn, 1) := by decide +kernel
theorem dX0_addNeed_50 : decode cX0_addNeed 50 = .ok (.aload_n 0, 1) := by decide +kernel
theorem dX0_addNeed_51 : decode cX0_addNeed 51 = .ok (.getfield 17, 3) := by decide +kernel
theorem dX0_addNeed_54 : decode cX0_addNeed 54 = .ok (.iload_n 1, 1) := by decide +kernel
theorem dX0_addNeed_55 : decode cX0_addNeed 55 = .ok (.dup2, 1) := by decide +kernel
theorem dX0_addNeed_56 : decode cX0_addNeed 56 = .ok (.iaload, 1) := by decide +kernel
theorem dX0_addNeed_57 : decode cX0_addNeed 57 = .ok (.iconst 1, 1) := by decide +kernel
theorem dX0_addNeed_58 : decode cX0_addNeed 58 = .ok (.iload_n 2, 1) := by decide +kernel
theorem dX0_addNeed_59 : decode cX0_addNeed 59 = .ok (.ishl, 1) := by decide +kernel
theorem dX0_addNeed_60 : decode cX0_addNeed 60 = .ok (.ior, 1) := by decide +kernel
theorem dX0_addNeed_61 : decode cX0_addNeed 61 = .ok (.iastore, 1) := by decide +kernel
theorem dX0_addNeed_62 : decode cX0_addNeed 62 = .ok (.iconst 1, 1) := by decide +kernel
theorem dX0_addNeed_63 : decode cX0_addNeed 63 = .ok (.ireturn, 1) := by decide +kernel
set_option maxRecDepth 20000 in
theorem ggX0_neededInTheEnd_X6_bitAt : GoodIn wsX0_neededInTheEnd wsX6_bitAt := goodIn_r _ [4] (by decide +kernel) (by decide +kernel)
set_option maxRecDepth 20000 in
theorem gX0_neededInTheEnd_X6_bitAt_n30 : GoodIn wsX0_neededInTheEnd (wsX6_bitAt) := ggX0_neededInTheEnd_X6_bitAt
theorem dX0_neededInTheEnd_0 : decode cX0_neededInTheEnd 0 = .ok (.iconst 1, 1) := by decide +kernel
theorem dX0_neededInTheEnd_1 : decode cX0_neededInTheEnd 1 = .ok (.iload_n 1, 1) := by decide +kernel
theorem dX0_neededInTheEnd_2 : decode cX0_neededInTheEnd 2 = .ok (.ishl, 1) := by decide +kernel
theorem dX0_neededInTheEnd_3 : decode cX0_neededInTheEnd 3 = .ok (.istore_n 2, 1) := by decide +kernel
theorem dX0_neededInTheEnd_4 : decode cX0_neededInTheEnd 4 = .ok (.iconst 0, 1) := by decide +kernel
theorem dX0_neededInTheEnd_5 : decode cX0_neededInTheEnd 5 = .ok (.istore_n 3, 1) := by decide +kernel
theorem dX0_neededInTheEnd_6 : decode cX0_neededInTheEnd 6 = .ok (.iload_n 3, 1) := by decide +kernel
theorem dX0_neededInTheEnd_7 : decode cX0_neededInTheEnd 7 = .ok (.bipush 6, 2) := by decide +kernel
theorem dX0_neededInTheEnd_9 : decode cX0_neededInTheEnd 9 = .ok (.if_icmp .ge 48, 3) := by decide +kernel
theorem dX0_neededInTheEnd_12 : decode cX0_neededInTheEnd 12 = .ok (.iconst 0, 1) := by decide +kernel
theorem dX0_neededInTheEnd_13 : decode cX0_neededInTheEnd 13 = .ok (.istore 4, 2) := by decide +kernel
theorem dX0_neededInTheEnd_15 : decode cX0_neededInTheEnd 15 = .ok (.iload 4, 2) := by decide +kernel
theorem dX0_neededInTheEnd_17 : decode cX0_neededInTheEnd 17 = .ok (.aload_n 0, 1) := by decide +kernel
theorem dX0_neededInTheEnd_18 : decode cX0_neededInTheEnd 18 = .ok (.getfield 17, 3) := by decide +kernel
theorem dX0_neededInTheEnd_21 : decode cX0_neededInTheEnd 21 = .ok (.arraylength, 1) := by decide +kernel
theorem dX0_neededInTheEnd_22 : decode cX0_neededInTheEnd 22 = .ok (.if_icmp .ge 29, 3) := by decide +kernel
theorem dX0_neededInTheEnd_25 : decode cX0_neededInTheEnd 25 = .ok (.iload_n 2, 1) := by decide +kernel
theorem dX0_neededInTheEnd_26 : decode cX0_neededInTheEnd 26 = .ok (.iload 4, 2) := by decide +kernel
theorem dX0_neededInTheEnd_28 : decode cX0_neededInTheEnd 28 = .ok (.invokestatic 30, 3) := by decide +kernel
theorem dX0_neededInTheEnd_31 : decode cX0_neededInTheEnd 31 = .ok (.iconst 1, 1) := by decide +kernel
theorem dX0_neededInTheEnd_32 : decode cX0_neededInTheEnd 32 = .ok (.if_icmp .ne 13, 3) := by decide +kernel
theorem dX0_neededInTheEnd_35 : decode cX0_neededInTheEnd 35 = .ok (.iload_n 2, 1) := by decide +kernel
theorem dX0_neededInTheEnd_36 : decode cX0_neededInTheEnd 36 = .ok (.aload_n 0, 1) := by decide +kernel
theorem dX0_neededInTheEnd_37 : decode cX0_neededInTheEnd 37 = .ok (.getfield 17, 3) := by decide +kernel
theorem dX0_neededInTheEnd_40 : decode cX0_neededInTheEnd 40 = .ok (.iload 4, 2) := by decide +kernel
theorem dX0_neededInTheEnd_42 : decode cX0_neededInTheEnd 42 = .ok (.iaload, 1) := by decide +kernel
theorem dX0_neededInTheEnd_43 : decode cX0_neededInTheEnd 43 = .ok (.ior, 1) := by decide +kernel
theorem dX0_neededInTheEnd_44 : decode cX0_neededInTheEnd 44 = .ok (.istore_n 2, 1) := by decide +kernel
theorem dX0_neededInTheEnd_45 : decode cX0_neededInTheEnd 45 = .ok (.iinc 4 1, 3) := by decide +kernel
theorem dX0_neededInTheEnd_48 : decode cX0_neededInTheEnd 48 = .ok (.goto (-33), 3) := by decide +kernel
theorem dX0_neededInTheEnd_51 : decode cX0_neededInTheEnd 51 = .ok (.iinc 3 1, 3) := by decide +kernel
theorem dX0_neededInTheEnd_54 : decode cX0_neededInTheEnd 54 = .ok (.goto (-48), 3) := by decide +kernel
theorem dX0_neededInTheEnd_57 : decode cX0_neededInTheEnd 57 = .ok (.iload_n 2, 1) := by decide +kernel
theorem dX0_neededInTheEnd_58 : decode cX0_neededInTheEnd 58 = .ok (.ireturn, 1) := by decide +kernel
theorem dX0_isLesson_0 : decode cX0_isLesson 0 = .ok (.iload_n 0, 1) := by decide +kernel
theorem dX0_isLesson_1 : decode cX0_isLesson 1 = .ok (.ifCond .lt 13, 3) := by decide +kernel
theorem dX0_isLesson_4 : decode cX0_isLesson 4 = .ok (.iload_n 0, 1) := by decide +kernel
theorem dX0_isLesson_5 : decode cX0_isLesson 5 = .ok (.bipush 6, 2) := by decide +kernel
theorem dX0_isLesson_7 : decode cX0_isLesson 7 = .ok (.if_icmp .ge 7, 3) := by decide +kernel
theorem dX0_isLesson_10 : decode cX0_isLesson 10 = .ok (.iconst 1, 1) := by decide +kernel
theorem dX0_isLesson_11 : decode cX0_isLesson 11 = .ok (.goto 4, 3) := by decide +kernel
theorem dX0_isLesson_14 : decode cX0_isLesson 14 = .ok (.iconst 0, 1) := by decide +kernel
theorem dX0_isLesson_15 : decode cX0_isLesson 15 = .ok (.ireturn, 1) := by decide +kernel
theorem dX1_init_0 : decode cX1_init 0 = .ok (.aload_n 0, 1) := by decide +kernel
theorem dX1_init_1 : decode cX1_init 1 = .ok (.invokespecial 3, 3) := by decide +kernel
theorem dX1_init_4 : decode cX1_init 4 = .ok (.aload_n 0, 1) := by decide +kernel
theorem dX1_init_5 : decode cX1_init 5 = .ok (.iload_n 1, 1) := by decide +kernel
theorem dX1_init_6 : decode cX1_init 6 = .ok (.putfield 9, 3) := by decide +kernel
theorem dX1_init_9 : decode cX1_init 9 = .ok (.aload_n 0, 1) := by decide +kernel
theorem dX1_init_10 : decode cX1_init 10 = .ok (.aload_n 2, 1) := by decide +kernel
theorem dX1_init_11 : decode cX1_init 11 = .ok (.putfield 15, 3) := by decide +kernel
theorem dX1_init_14 : decode cX1_init 14 = .ok (.return_, 1) := by decide +kernel
theorem dX1_length_0 : decode cX1_length 0 = .ok (.aload_n 0, 1) := by decide +kernel
theorem dX1_length_1 : decode cX1_length 1 = .ok (.getfield 15, 3) := by decide +kernel
theorem dX1_length_4 : decode cX1_length 4 = .ok (.ifnonnull 7, 3) := by decide +kernel
theorem dX1_length_7 : decode cX1_length 7 = .ok (.iconst 0, 1) := by decide +kernel
theorem dX1_length_8 : decode cX1_length 8 = .ok (.goto 8, 3) := by decide +kernel
theorem dX1_length_11 : decode cX1_length 11 = .ok (.aload_n 0, 1) := by decide +kernel
theorem dX1_length_12 : decode cX1_length 12 = .ok (.getfield 15, 3) := by decide +kernel
theorem dX1_length_15 : decode cX1_length 15 = .ok (.arraylength, 1) := by decide +kernel
theorem dX1_length_16 : decode cX1_length 16 = .ok (.ireturn, 1) := by decide +kernel
theorem dX1_byteAt_0 : decode cX1_byteAt 0 = .ok (.aload_n 0, 1) := by decide +kernel
theorem dX1_byteAt_1 : decode cX1_byteAt 1 = .ok (.getfield 15, 3) := by decide +kernel
theorem dX1_byteAt_4 : decode cX1_byteAt 4 = .ok (.ifnull 25, 3) := by decide +kernel
theorem dX1_byteAt_7 : decode cX1_byteAt 7 = .ok (.iload_n 1, 1) := by decide +kernel
theorem dX1_byteAt_8 : decode cX1_byteAt 8 = .ok (.ifCond .lt 21, 3) := by decide +kernel
theorem dX1_byteAt_11 : decode cX1_byteAt 11 = .ok (.iload_n 1, 1) := by decide +kernel
theorem dX1_byteAt_12 : decode cX1_byteAt 12 = .ok (.aload_n 0, 1) := by decide +kernel
theorem dX1_byteAt_13 : decode cX1_byteAt 13 = .ok (.getfield 15, 3) := by decide +kernel
theorem dX1_byteAt_16 : decode cX1_byteAt 16 = .ok (.arraylength, 1) := by decide +kernel
theorem dX1_byteAt_17 : decode cX1_byteAt 17 = .ok (.if_icmp .ge 12, 3) := by decide +kernel
theorem dX1_byteAt_20 : decode cX1_byteAt 20 = .ok (.aload_n 0, 1) := by decide +kernel
theorem dX1_byteAt_21 : decode cX1_byteAt 21 = .ok (.getfield 15, 3) := by decide +kernel
theorem dX1_byteAt_24 : decode cX1_byteAt 24 = .ok (.iload_n 1, 1) := by decide +kernel
theorem dX1_byteAt_25 : decode cX1_byteAt 25 = .ok (.baload, 1) := by decide +kernel
theorem dX1_byteAt_26 : decode cX1_byteAt 26 = .ok (.goto 4, 3) := by decide +kernel
theorem dX1_byteAt_29 : decode cX1_byteAt 29 = .ok (.iconst (-1), 1) := by decide +kernel
theorem dX1_byteAt_30 : decode cX1_byteAt 30 = .ok (.ireturn, 1) := by decide +kernel
theorem dX2_init_0 : decode cX2_init 0 = .ok (.aload_n 0, 1) := by decide +kernel
theorem dX2_init_1 : decode cX2_init 1 = .ok (.invokespecial 3, 3) := by decide +kernel
theorem dX2_init_4 : decode cX2_init 4 = .ok (.aload_n 0, 1) := by decide +kernel
theorem dX2_init_5 : decode cX2_init 5 = .ok (.bipush 12, 2) := by decide +kernel
theorem dX2_init_7 : decode cX2_init 7 = .ok (.anewarray 9, 3) := by decide +kernel
theorem dX2_init_10 : decode cX2_init 10 = .ok (.putfield 11, 3) := by decide +kernel
theorem dX2_init_13 : decode cX2_init 13 = .ok (.aload_n 0, 1) := by decide +kernel
theorem dX2_init_14 : decode cX2_init 14 = .ok (.bipush 32, 2) := by decide +kernel
theorem dX2_init_16 : decode cX2_init 16 = .ok (.newarray .int, 2) := by decide +kernel
theorem dX2_init_18 : decode cX2_init 18 = .ok (.putfield 17, 3) := by decide +kernel
theorem dX2_init_21 : decode cX2_init 21 = .ok (.aload_n 0, 1) := by decide +kernel
theorem dX2_init_22 : decode cX2_init 22 = .ok (.iconst 0, 1) := by decide +kernel
theorem dX2_init_23 : decode cX2_init 23 = .ok (.putfield 21, 3) := by decide +kernel
theorem dX2_init_26 : decode cX2_init 26 = .ok (.aload_n 0, 1) := by decide +kernel
theorem dX2_init_27 : decode cX2_init 27 = .ok (.aconst_null, 1) := by decide +kernel
theorem dX2_init_28 : decode cX2_init 28 = .ok (.putfield 25, 3) := by decide +kernel
theorem dX2_init_31 : decode cX2_init 31 = .ok (.return_, 1) := by decide +kernel
set_option maxRecDepth 20000 in
theorem ggX2_addPicture_X6_bitAt : GoodIn wsX2_addPicture wsX6_bitAt := goodIn_r _ [7] (by decide +kernel) (by decide +kernel)
set_option maxRecDepth 20000 in
theorem gX2_addPicture_X6_bitAt_n32 : GoodIn wsX2_addPicture (wsX6_bitAt) := ggX2_addPicture_X6_bitAt
theorem dX2_addPicture_0 : decode cX2_addPicture 0 = .ok (.aload_n 0, 1) := by decide +kernel
theorem dX2_addPicture_1 : decode cX2_addPicture 1 = .ok (.getfield 21, 3) := by decide +kernel
theorem dX2_addPicture_4 : decode cX2_addPicture 4 = .ok (.istore_n 2, 1) := by decide +kernel
theorem dX2_addPicture_5 : decode cX2_addPicture 5 = .ok (.aload_n 1, 1) := by decide +kernel
theorem dX2_addPicture_6 : decode cX2_addPicture 6 = .ok (.ifnull 16, 3) := by decide +kernel
theorem dX2_addPicture_9 : decode cX2_addPicture 9 = .ok (.iload_n 2, 1) := by decide +kernel
theorem dX2_addPicture_10 : decode cX2_addPicture 10 = .ok (.ifCond .lt 12, 3) := by decide +kernel
theorem dX2_addPicture_13 : decode cX2_addPicture 13 = .ok (.iload_n 2, 1) := by decide +kernel
theorem dX2_addPicture_14 : decode cX2_addPicture 14 = .ok (.aload_n 0, 1) := by decide +kernel
theorem dX2_addPicture_15 : decode cX2_addPicture 15 = .ok (.getfield 11, 3) := by decide +kernel
theorem dX2_addPicture_18 : decode cX2_addPicture 18 = .ok (.arraylength, 1) := by decide +kernel
theorem dX2_addPicture_19 : decode cX2_addPicture 19 = .ok (.if_icmp .lt 5, 3) := by decide +kernel
theorem dX2_addPicture_22 : decode cX2_addPicture 22 = .ok (.iconst (-1), 1) := by decide +kernel
theorem dX2_addPicture_23 : decode cX2_addPicture 23 = .ok (.ireturn, 1) := by decide +kernel
theorem dX2_addPicture_24 : decode cX2_addPicture 24 = .ok (.aload_n 0, 1) := by decide +kernel
theorem dX2_addPicture_25 : decode cX2_addPicture 25 = .ok (.getfield 11, 3) := by decide +kernel
theorem dX2_addPicture_28 : decode cX2_addPicture 28 = .ok (.iload_n 2, 1) := by decide +kernel
theorem dX2_addPicture_29 : decode cX2_addPicture 29 = .ok (.aload_n 1, 1) := by decide +kernel
theorem dX2_addPicture_30 : decode cX2_addPicture 30 = .ok (.aastore, 1) := by decide +kernel
theorem dX2_addPicture_31 : decode cX2_addPicture 31 = .ok (.iconst 0, 1) := by decide +kernel
theorem dX2_addPicture_32 : decode cX2_addPicture 32 = .ok (.istore_n 3, 1) := by decide +kernel
theorem dX2_addPicture_33 : decode cX2_addPicture 33 = .ok (.iload_n 3, 1) := by decide +kernel
theorem dX2_addPicture_34 : decode cX2_addPicture 34 = .ok (.aload_n 0, 1) := by decide +kernel
theorem dX2_addPicture_35 : decode cX2_addPicture 35 = .ok (.getfield 17, 3) := by decide +kernel
theorem dX2_addPicture_38 : decode cX2_addPicture 38 = .ok (.arraylength, 1) := by decide +kernel
theorem dX2_addPicture_39 : decode cX2_addPicture 39 = .ok (.if_icmp .ge 28, 3) := by decide +kernel
theorem dX2_addPicture_42 : decode cX2_addPicture 42 = .ok (.aload_n 0, 1) := by decide +kernel
theorem dX2_addPicture_43 : decode cX2_addPicture 43 = .ok (.getfield 17, 3) := by decide +kernel
theorem dX2_addPicture_46 : decode cX2_addPicture 46 = .ok (.iload_n 3, 1) := by decide +kernel
theorem dX2_addPicture_47 : decode cX2_addPicture 47 = .ok (.dup2, 1) := by decide +kernel
theorem dX2_addPicture_48 : decode cX2_addPicture 48 = .ok (.iaload, 1) := by decide +kernel
theorem dX2_addPicture_49 : decode cX2_addPicture 49 = .ok (.aload_n 1, 1) := by decide +kernel
theorem dX2_addPicture_50 : decode cX2_addPicture 50 = .ok (.getfield 29, 3) := by decide +kernel
theorem dX2_addPicture_53 : decode cX2_addPicture 53 = .ok (.iload_n 3, 1) := by decide +kernel
theorem dX2_addPicture_54 : decode cX2_addPicture 54 = .ok (.invokestatic 32, 3) := by decide +kernel
theorem dX2_addPicture_57 : decode cX2_addPicture 57 = .ok (.iload_n 2, 1) := by decide +kernel
theorem dX2_addPicture_58 : decode cX2_addPicture 58 = .ok (.ishl, 1) := by decide +kernel
theorem dX2_addPicture_59 : decode cX2_addPicture 59 = .ok (.ior, 1) := by decide +kernel
theorem dX2_addPicture_60 : decode cX2_addPicture 60 = .ok (.iastore, 1) := by decide +kernel
theorem dX2_addPicture_61 : decode cX2_addPicture 61 = .ok (.iinc 3 1, 3) := by decide +kernel
theorem dX2_addPicture_64 : decode cX2_addPicture 64 = .ok (.goto (-31), 3) := by decide +kernel
theorem dX2_addPicture_67 : decode cX2_addPicture 67 = .ok (.aload_n 0, 1) := by decide +kernel
theorem dX2_addPicture_68 : decode cX2_addPicture 68 = .ok (.dup, 1) := by decide +kernel
theorem dX2_addPicture_69 : decode cX2_addPicture 69 = .ok (.getfield 21, 3) := by decide +kernel
theorem dX2_addPicture_72 : decode cX2_addPicture 72 = .ok (.iconst 1, 1) := by decide +kernel
theorem dX2_addPicture_73 : decode cX2_addPicture 73 = .ok (.iadd, 1) := by decide +kernel
theorem dX2_addPicture_74 : decode cX2_addPicture 74 = .ok (.putfield 21, 3) := by decide +kernel
theorem dX2_addPicture_77 : decode cX2_addPicture 77 = .ok (.iload_n 2, 1) := by decide +kernel
theorem dX2_addPicture_78 : decode cX2_addPicture 78 = .ok (.ireturn, 1) := by decide +kernel
theorem dX2_pictureAt_0 : decode cX2_pictureAt 0 = .ok (.iload_n 1, 1) := by decide +kernel
theorem dX2_pictureAt_1 : decode cX2_pictureAt 1 = .ok (.ifCond .lt 29, 3) := by decide +kernel
theorem dX2_pictureAt_4 : decode cX2_pictureAt 4 = .ok (.iload_n 1, 1) := by decide +kernel
theorem dX2_pictureAt_5 : decode cX2_pictureAt 5 = .ok (.aload_n 0, 1) := by decide +kernel
theorem dX2_pictureAt_6 : decode cX2_pictureAt 6 = .ok (.getfield 21, 3) := by decide +kernel
theorem dX2_pictureAt_9 : decode cX2_pictureAt 9 = .ok (.if_icmp .ge 21, 3) := by decide +kernel
theorem dX2_pictureAt_12 : decode cX2_pictureAt 12 = .ok (.iload_n 1, 1) := by decide +kernel
theorem dX2_pictureAt_13 : decode cX2_pictureAt 13 = .ok (.aload_n 0, 1) := by decide +kernel
theorem dX2_pictureAt_14 : decode cX2_pictureAt 14 = .ok (.getfield 11, 3) := by decide +kernel
theorem dX2_pictureAt_17 : decode cX2_pictureAt 17 = .ok (.arraylength, 1) := by decide +kernel
theorem dX2_pictureAt_18 : decode cX2_pictureAt 18 = .ok (.if_icmp .ge 12, 3) := by decide +kernel
theorem dX2_pictureAt_21 : decode cX2_pictureAt 21 = .ok (.aload_n 0, 1) := by decide +kernel
theorem dX2_pictureAt_22 : decode cX2_pictureAt 22 = .ok (.getfield 11, 3) := by decide +kernel
theorem dX2_pictureAt_25 : decode cX2_pictureAt 25 = .ok (.iload_n 1, 1) := by decide +kernel
theorem dX2_pictureAt_26 : decode cX2_pictureAt 26 = .ok (.aaload, 1) := by decide +kernel
theorem dX2_pictureAt_27 : decode cX2_pictureAt 27 = .ok (.goto 4, 3) := by decide +kernel
theorem dX2_pictureAt_30 : decode cX2_pictureAt 30 = .ok (.aconst_null, 1) := by decide +kernel
theorem dX2_pictureAt_31 : decode cX2_pictureAt 31 = .ok (.areturn, 1) := by decide +kernel
set_option maxRecDepth 20000 in
theorem ggX2_partingCase_J6_bitCount_0f7a4 : GoodIn wsX2_partingCase wsJ6_bitCount_0f7a4 := goodIn_r _ [9, 10, 11, 12] (by decide +kernel) (by decide +kernel)
set_option maxRecDepth 20000 in
theorem gX2_partingCase_J6_bitCount_0f7a4 : GoodIn wsX2_partingCase (va_wsS RX2 36 yJ6_bitCount_0f7a4 wsJ6_bitCount_0f7a4) := goodIn_app (goodIn_of _ (by decide +kernel)) ggX2_partingCase_J6_bitCount_0f7a4
set_option maxRecDepth 20000 in
theorem ggX2_partingCase_X6_bitAt : GoodIn wsX2_partingCase wsX6_bitAt := goodIn_r _ [15] (by decide +kernel) (by decide +kernel)
set_option maxRecDepth 20000 in
theorem gX2_partingCase_X6_bitAt_n32 : GoodIn wsX2_partingCase (wsX6_bitAt) := ggX2_partingCase_X6_bitAt
theorem dX2_partingCase_0 : decode cX2_partingCase 0 = .ok (.iload_n 1, 1) := by decide +kernel
theorem dX2_partingCase_1 : decode cX2_partingCase 1 = .ok (.invokestatic 36, 3) := by decide +kernel
theorem dX2_partingCase_4 : decode cX2_partingCase 4 = .ok (.istore_n 3, 1) := by decide +kernel
theorem dX2_partingCase_5 : decode cX2_partingCase 5 = .ok (.iload_n 3, 1) := by decide +kernel
theorem dX2_partingCase_6 : decode cX2_partingCase 6 = .ok (.istore 4, 2) := by decide +kernel
theorem dX2_partingCase_8 : decode cX2_partingCase 8 = .ok (.iconst (-1), 1) := by decide +kernel
theorem dX2_partingCase_9 : decode cX2_partingCase 9 = .ok (.istore 5, 2) := by decide +kernel
theorem dX2_partingCase_11 : decode cX2_partingCase 11 = .ok (.iconst 0, 1) := by decide +kernel
theorem dX2_partingCase_12 : decode cX2_partingCase 12 = .ok (.istore 6, 2) := by decide +kernel
theorem dX2_partingCase_14 : decode cX2_partingCase 14 = .ok (.iload 6, 2) := by decide +kernel
theorem dX2_partingCase_16 : decode cX2_partingCase 16 = .ok (.aload_n 0, 1) := by decide +kernel
theorem dX2_partingCase_17 : decode cX2_partingCase 17 = .ok (.getfield 17, 3) := by decide +kernel
theorem dX2_partingCase_20 : decode cX2_partingCase 20 = .ok (.arraylength, 1) := by decide +kernel
theorem dX2_partingCase_21 : decode cX2_partingCase 21 = .ok (.if_icmp .ge 58, 3) := by decide +kernel
theorem dX2_partingCase_24 : decode cX2_partingCase 24 = .ok (.aload_n 0, 1) := by decide +kernel
theorem dX2_partingCase_25 : decode cX2_partingCase 25 = .ok (.getfield 17, 3) := by decide +kernel
theorem dX2_partingCase_28 : decode cX2_partingCase 28 = .ok (.iload 6, 2) := by decide +kernel
theorem dX2_partingCase_30 : decode cX2_partingCase 30 = .ok (.iaload, 1) := by decide +kernel
theorem dX2_partingCase_31 : decode cX2_partingCase 31 = .ok (.iload_n 1, 1) := by decide +kernel
theorem dX2_partingCase_32 : decode cX2_partingCase 32 = .ok (.iand, 1) := by decide +kernel
theorem dX2_partingCase_33 : decode cX2_partingCase 33 = .ok (.invokestatic 36, 3) := by decide +kernel
theorem dX2_partingCase_36 : decode cX2_partingCase 36 = .ok (.istore 7, 2) := by decide +kernel
theorem dX2_partingCase_38 : decode cX2_partingCase 38 = .ok (.iload 7, 2) := by decide +kernel
theorem dX2_partingCase_40 : decode cX2_partingCase 40 = .ok (.iload_n 3, 1) := by decide +kernel
theorem dX2_partingCase_41 : decode cX2_partingCase 41 = .ok (.iload 7, 2) := by decide +kernel
theorem dX2_partingCase_43 : decode cX2_partingCase 43 = .ok (.isub, 1) := by decide +kernel
theorem dX2_partingCase_44 : decode cX2_partingCase 44 = .ok (.invokestatic 42, 3) := by decide +kernel
theorem dX2_partingCase_47 : decode cX2_partingCase 47 = .ok (.istore 8, 2) := by decide +kernel
theorem dX2_partingCase_49 : decode cX2_partingCase 49 = .ok (.iload_n 2, 1) := by decide +kernel
theorem dX2_partingCase_50 : decode cX2_partingCase 50 = .ok (.iload 6, 2) := by decide +kernel
theorem dX2_partingCase_52 : decode cX2_partingCase 52 = .ok (.invokestatic 32, 3) := by decide +kernel
theorem dX2_partingCase_55 : decode cX2_partingCase 55 = .ok (.ifCond .ne 18, 3) := by decide +kernel
theorem dX2_partingCase_58 : decode cX2_partingCase 58 = .ok (.iload 8, 2) := by decide +kernel
theorem dX2_partingCase_60 : decode cX2_partingCase 60 = .ok (.iload 4, 2) := by decide +kernel
theorem dX2_partingCase_62 : decode cX2_partingCase 62 = .ok (.if_icmp .ge 11, 3) := by decide +kernel
theorem dX2_partingCase_65 : decode cX2_partingCase 65 = .ok (.iload 8, 2) := by decide +kernel
theorem dX2_partingCase_67 : decode cX2_partingCase 67 = .ok (.istore 4, 2) := by decide +kernel
theorem dX2_partingCase_69 : decode cX2_partingCase 69 = .ok (.iload 6, 2) := by decide +kernel
theorem dX2_partingCase_71 : decode cX2_partingCase 71 = .ok (.istore 5, 2) := by decide +kernel
theorem dX2_partingCase_73 : decode cX2_partingCase 73 = .ok (.iinc 6 1, 3) := by decide +kernel
theorem dX2_partingCase_76 : decode cX2_partingCase 76 = .ok (.goto (-62), 3) := by decide +kernel
theorem dX2_partingCase_79 : decode cX2_partingCase 79 = .ok (.iload 5, 2) := by decide +kernel
theorem dX2_partingCase_81 : decode cX2_partingCase 81 = .ok (.ireturn, 1) := by decide +kernel
set_option maxRecDepth 20000 in
theorem ggX2_pathOf_X2_partingCase : GoodIn wsX2_pathOf wsX2_partingCase := goodIn_r _ [7, 2, 8, 9, 10, 11, 12, 13, 14, 15, 16, 17, 18, 19, 20, 21, 22, 23, 24, 25] (by decide +kernel) (by decide +kernel)
set_option maxRecDepth 20000 in
theorem gX2_pathOf_X2_partingCase : GoodIn wsX2_pathOf (wsV RX2 47 RX2 yX2_partingCase wsX2_partingCase) := goodIn_app (goodIn_of _ (by decide +kernel)) ggX2_pathOf_X2_partingCase
set_option maxRecDepth 20000 in
theorem ggX2_pathOf_X6_bitAt : GoodIn wsX2_pathOf wsX6_bitAt := goodIn_r _ [21] (by decide +kernel) (by decide +kernel)
set_option maxRecDepth 20000 in
theorem gX2_pathOf_X6_bitAt_n32 : GoodIn wsX2_pathOf (wsX6_bitAt) := ggX2_pathOf_X6_bitAt
theorem dX2_pathOf_0 : decode cX2_pathOf 0 = .ok (.iconst 1, 1) := by decide +kernel
theorem dX2_pathOf_1 : decode cX2_pathOf 1 = .ok (.aload_n 0, 1) := by decide +kernel
theorem dX2_pathOf_2 : decode cX2_pathOf 2 = .ok (.getfield 21, 3) := by decide +kernel
theorem dX2_pathOf_5 : decode cX2_pathOf 5 = .ok (.ishl, 1) := by decide +kernel
theorem dX2_pathOf_6 : decode cX2_pathOf 6 = .ok (.iconst 1, 1) := by decide +kernel
theorem dX2_pathOf_7 : decode cX2_pathOf 7 = .ok (.isub, 1) := by decide +kernel
theorem dX2_pathOf_8 : decode cX2_pathOf 8 = .ok (.istore_n 2, 1) := by decide +kernel
theorem dX2_pathOf_9 : decode cX2_pathOf 9 = .ok (.iconst 0, 1) := by decide +kernel
theorem dX2_pathOf_10 : decode cX2_pathOf 10 = .ok (.istore_n 3, 1) := by decide +kernel
theorem dX2_pathOf_11 : decode cX2_pathOf 11 = .ok (.iconst 0, 1) := by decide +kernel
theorem dX2_pathOf_12 : decode cX2_pathOf 12 = .ok (.istore 4, 2) := by decide +kernel
theorem dX2_pathOf_14 : decode cX2_pathOf 14 = .ok (.iload 4, 2) := by decide +kernel
theorem dX2_pathOf_16 : decode cX2_pathOf 16 = .ok (.bipush 32, 2) := by decide +kernel
theorem dX2_pathOf_18 : decode cX2_pathOf 18 = .ok (.if_icmp .ge 79, 3) := by decide +kernel
theorem dX2_pathOf_21 : decode cX2_pathOf 21 = .ok (.aload_n 0, 1) := by decide +kernel
theorem dX2_pathOf_22 : decode cX2_pathOf 22 = .ok (.iload_n 2, 1) := by decide +kernel
theorem dX2_pathOf_23 : decode cX2_pathOf 23 = .ok (.iload_n 3, 1) := by decide +kernel
theorem dX2_pathOf_24 : decode cX2_pathOf 24 = .ok (.invokevirtual 47, 3) := by decide +kernel
theorem dX2_pathOf_27 : decode cX2_pathOf 27 = .ok (.istore 5, 2) := by decide +kernel
theorem dX2_pathOf_29 : decode cX2_pathOf 29 = .ok (.iload 5, 2) := by decide +kernel
theorem dX2_pathOf_31 : decode cX2_pathOf 31 = .ok (.ifCond .lt 13, 3) := by decide +kernel
theorem dX2_pathOf_34 : decode cX2_pathOf 34 = .ok (.iload 5, 2) := by decide +kernel
theorem dX2_pathOf_36 : decode cX2_pathOf 36 = .ok (.aload_n 0, 1) := by decide +kernel
theorem dX2_pathOf_37 : decode cX2_pathOf 37 = .ok (.getfield 17, 3) := by decide +kernel
theorem dX2_pathOf_40 : decode cX2_pathOf 40 = .ok (.arraylength, 1) := by decide +kernel
theorem dX2_pathOf_41 : decode cX2_pathOf 41 = .ok (.if_icmp .lt 6, 3) := by decide +kernel
theorem dX2_pathOf_44 : decode cX2_pathOf 44 = .ok (.iload 4, 2) := by decide +kernel
theorem dX2_pathOf_46 : decode cX2_pathOf 46 = .ok (.ireturn, 1) := by decide +kernel
theorem dX2_pathOf_47 : decode cX2_pathOf 47 = .ok (.iload_n 3, 1) := by decide +kernel
theorem dX2_pathOf_48 : decode cX2_pathOf 48 = .ok (.iconst 1, 1) := by decide +kernel
theorem dX2_pathOf_49 : decode cX2_pathOf 49 = .ok (.iload 5, 2) := by decide +kernel
theorem dX2_pathOf_51 : decode cX2_pathOf 51 = .ok (.ishl, 1) := by decide +kernel
theorem dX2_pathOf_52 : decode cX2_pathOf 52 = .ok (.ior, 1) := by decide +kernel
theorem dX2_pathOf_53 : decode cX2_pathOf 53 = .ok (.istore_n 3, 1) := by decide +kernel
theorem dX2_pathOf_54 : decode cX2_pathOf 54 = .ok (.iload_n 2, 1) := by decide +kernel
theorem dX2_pathOf_55 : decode cX2_pathOf 55 = .ok (.aload_n 0, 1) := by decide +kernel
theorem dX2_pathOf_56 : decode cX2_pathOf 56 = .ok (.getfield 17, 3) := by decide +kernel
theorem dX2_pathOf_59 : decode cX2_pathOf 59 = .ok (.iload 5, 2) := by decide +kernel
theorem dX2_pathOf_61 : decode cX2_pathOf 61 = .ok (.iaload, 1) := by decide +kernel
theorem dX2_pathOf_62 : decode cX2_pathOf 62 = .ok (.iload_n 1, 1) := by decide +kernel
theorem dX2_pathOf_63 : decode cX2_pathOf 63 = .ok (.invokestatic 32, 3) := by decide +kernel
theorem dX2_pathOf_66 : decode cX2_pathOf 66 = .ok (.iconst 1, 1) := by decide +kernel
theorem dX2_pathOf_67 : decode cX2_pathOf 67 = .ok (.if_icmp .ne 13, 3) := by decide +kernel
theorem dX2_pathOf_70 : decode cX2_pathOf 70 = .ok (.aload_n 0, 1) := by decide +kernel
theorem dX2_pathOf_71 : decode cX2_pathOf 71 = .ok (.getfield 17, 3) := by decide +kernel
theorem dX2_pathOf_74 : decode cX2_pathOf 74 = .ok (.iload 5, 2) := by decide +kernel
theorem dX2_pathOf_76 : decode cX2_pathOf 76 = .ok (.iaload, 1) := by decide +kernel
theorem dX2_pathOf_77 : decode cX2_pathOf 77 = .ok (.goto 12, 3) := by decide +kernel
theorem dX2_pathOf_80 : decode cX2_pathOf 80 = .ok (.aload_n 0, 1) := by decide +kernel
theorem dX2_pathOf_81 : decode cX2_pathOf 81 = .ok (.getfield 17, 3) := by decide +kernel
theorem dX2_pathOf_84 : decode cX2_pathOf 84 = .ok (.iload 5, 2) := by decide +kernel
theorem dX2_pathOf_86 : decode cX2_pathOf 86 = .ok (.iaload, 1) := by decide +kernel
theorem dX2_pathOf_87 : decode cX2_pathOf 87 = .ok (.iconst (-1), 1) := by decide +kernel
theorem dX2_pathOf_88 : decode cX2_pathOf 88 = .ok (.ixor, 1) := by decide +kernel
theorem dX2_pathOf_89 : decode cX2_pathOf 89 = .ok (.iand, 1) := by decide +kernel
theorem dX2_pathOf_90 : decode cX2_pathOf 90 = .ok (.istore_n 2, 1) := by decide +kernel
theorem dX2_pathOf_91 : decode cX2_pathOf 91 = .ok (.iinc 4 1, 3) := by decide +kernel
theorem dX2_pathOf_94 : decode cX2_pathOf 94 = .ok (.goto (-80), 3) := by decide +kernel
theorem dX2_pathOf_97 : decode cX2_pathOf 97 = .ok (.bipush 32, 2) := by decide +kernel
theorem dX2_pathOf_99 : decode cX2_pathOf 99 = .ok (.ireturn, 1) := by decide +kernel
set_option maxRecDepth 20000 in
theorem ggX2_nearestToldAsLaw_J6_bitCount_0f7a4 : GoodIn wsX2_nearestToldAsLaw wsJ6_bitCount_0f7a4 := goodIn_r _ [4, 5, 6, 7] (by decide +kernel) (by decide +kernel)
set_option maxRecDepth 20000 in
theorem gX2_nearestToldAsLaw_J6_bitCount_0f7a4 : GoodIn wsX2_nearestToldAsLaw (va_wsS RX2 36 yJ6_bitCount_0f7a4 wsJ6_bitCount_0f7a4) := goodIn_app (goodIn_of _ (by decide +kernel)) ggX2_nearestToldAsLaw_J6_bitCount_0f7a4
set_option maxRecDepth 20000 in
theorem ggX2_nearestToldAsLaw_X6_bitAt : GoodIn wsX2_nearestToldAsLaw wsX6_bitAt := goodIn_r _ [10] (by decide +kernel) (by decide +kernel)
set_option maxRecDepth 20000 in
theorem gX2_nearestToldAsLaw_X6_bitAt_n32 : GoodIn wsX2_nearestToldAsLaw (wsX6_bitAt) := ggX2_nearestToldAsLaw_X6_bitAt
set_option maxRecDepth 20000 in
theorem ggX2_nearestToldAsLaw_X2_allTellAsLaw : GoodIn wsX2_nearestToldAsLaw wsX2_allTellAsLaw := goodIn_r _ [15, 16, 17, 18, 8, 9, 10, 19, 20, 21, 22, 23, 24] (by decide +kernel) (by decide +kernel)
set_option maxRecDepth 20000 in
theorem gX2_nearestToldAsLaw_X2_allTellAsLaw : GoodIn wsX2_nearestToldAsLaw (wsV RX2 50 RX2 yX2_allTellAsLaw wsX2_allTellAsLaw) := goodIn_app (goodIn_of _ (by decide +kernel)) ggX2_nearestToldAsLaw_X2_allTellAsLaw
theorem dX2_nearestToldAsLaw_0 : decode cX2_nearestToldAsLaw 0 = .ok (.bipush 32, 2) := by decide +kernel
theorem dX2_nearestToldAsLaw_2 : decode cX2_nearestToldAsLaw 2 = .ok (.istore 4, 2) := by decide +kernel
theorem dX2_nearestToldAsLaw_4 : decode cX2_nearestToldAsLaw 4 = .ok (.iconst (-1), 1) := by decide +kernel
theorem dX2_nearestToldAsLaw_5 : decode cX2_nearestToldAsLaw 5 = .ok (.istore 5, 2) := by decide +kernel
theorem dX2_nearestToldAsLaw_7 : decode cX2_nearestToldAsLaw 7 = .ok (.iconst 0, 1) := by decide +kernel
theorem dX2_nearestToldAsLaw_8 : decode cX2_nearestToldAsLaw 8 = .ok (.istore 6, 2) := by decide +kernel
theorem dX2_nearestToldAsLaw_10 : decode cX2_nearestToldAsLaw 10 = .ok (.iload 6, 2) := by decide +kernel
theorem dX2_nearestToldAsLaw_12 : decode cX2_nearestToldAsLaw 12 = .ok (.bipush 32, 2) := by decide +kernel
theorem dX2_nearestToldAsLaw_14 : decode cX2_nearestToldAsLaw 14 = .ok (.if_icmp .ge 52, 3) := by decide +kernel
theorem dX2_nearestToldAsLaw_17 : decode cX2_nearestToldAsLaw 17 = .ok (.iload 6, 2) := by decide +kernel
theorem dX2_nearestToldAsLaw_19 : decode cX2_nearestToldAsLaw 19 = .ok (.iload_n 1, 1) := by decide +kernel
theorem dX2_nearestToldAsLaw_20 : decode cX2_nearestToldAsLaw 20 = .ok (.ixor, 1) := by decide +kernel
theorem dX2_nearestToldAsLaw_21 : decode cX2_nearestToldAsLaw 21 = .ok (.invokestatic 36, 3) := by decide +kernel
theorem dX2_nearestToldAsLaw_24 : decode cX2_nearestToldAsLaw 24 = .ok (.istore 7, 2) := by decide +kernel
theorem dX2_nearestToldAsLaw_26 : decode cX2_nearestToldAsLaw 26 = .ok (.iload_n 3, 1) := by decide +kernel
theorem dX2_nearestToldAsLaw_27 : decode cX2_nearestToldAsLaw 27 = .ok (.iload 6, 2) := by decide +kernel
theorem dX2_nearestToldAsLaw_29 : decode cX2_nearestToldAsLaw 29 = .ok (.invokestatic 32, 3) := by decide +kernel
theorem dX2_nearestToldAsLaw_32 : decode cX2_nearestToldAsLaw 32 = .ok (.ifCond .ne 28, 3) := by decide +kernel
theorem dX2_nearestToldAsLaw_35 : decode cX2_nearestToldAsLaw 35 = .ok (.iload 7, 2) := by decide +kernel
theorem dX2_nearestToldAsLaw_37 : decode cX2_nearestToldAsLaw 37 = .ok (.iload 4, 2) := by decide +kernel
theorem dX2_nearestToldAsLaw_39 : decode cX2_nearestToldAsLaw 39 = .ok (.if_icmp .ge 21, 3) := by decide +kernel
theorem dX2_nearestToldAsLaw_42 : decode cX2_nearestToldAsLaw 42 = .ok (.aload_n 0, 1) := by decide +kernel
theorem dX2_nearestToldAsLaw_43 : decode cX2_nearestToldAsLaw 43 = .ok (.iload 6, 2) := by decide +kernel
theorem dX2_nearestToldAsLaw_45 : decode cX2_nearestToldAsLaw 45 = .ok (.iload_n 2, 1) := by decide +kernel
theorem dX2_nearestToldAsLaw_46 : decode cX2_nearestToldAsLaw 46 = .ok (.invokevirtual 50, 3) := by decide +kernel
theorem dX2_nearestToldAsLaw_49 : decode cX2_nearestToldAsLaw 49 = .ok (.ifCond .eq 11, 3) := by decide +kernel
theorem dX2_nearestToldAsLaw_52 : decode cX2_nearestToldAsLaw 52 = .ok (.iload 7, 2) := by decide +kernel
theorem dX2_nearestToldAsLaw_54 : decode cX2_nearestToldAsLaw 54 = .ok (.istore 4, 2) := by decide +kernel
theorem dX2_nearestToldAsLaw_56 : decode cX2_nearestToldAsLaw 56 = .ok (.iload 6, 2) := by decide +kernel
theorem dX2_nearestToldAsLaw_58 : decode cX2_nearestToldAsLaw 58 = .ok (.istore 5, 2) := by decide +kernel
theorem dX2_nearestToldAsLaw_60 : decode cX2_nearestToldAsLaw 60 = .ok (.iinc 6 1, 3) := by decide +kernel
theorem dX2_nearestToldAsLaw_63 : decode cX2_nearestToldAsLaw 63 = .ok (.goto (-53), 3) := by decide +kernel
theorem dX2_nearestToldAsLaw_66 : decode cX2_nearestToldAsLaw 66 = .ok (.iload 5, 2) := by decide +kernel
theorem dX2_nearestToldAsLaw_68 : decode cX2_nearestToldAsLaw 68 = .ok (.ireturn, 1) := by decide +kernel
set_option maxRecDepth 20000 in
theorem ggX2_allTellAsLaw_X6_bitAt : GoodIn wsX2_allTellAsLaw wsX6_bitAt := goodIn_r _ [6] (by decide +kernel) (by decide +kernel)
set_option maxRecDepth 20000 in
theorem gX2_allTellAsLaw_X6_bitAt_n32 : GoodIn wsX2_allTellAsLaw (wsX6_bitAt) := ggX2_allTellAsLaw_X6_bitAt
theorem dX2_allTellAsLaw_0 : decode cX2_allTellAsLaw 0 = .ok (.aload_n 0, 1) := by decide +kernel
theorem dX2_allTellAsLaw_1 : decode cX2_allTellAsLaw 1 = .ok (.getfield 25, 3) := by decide +kernel
theorem dX2_allTellAsLaw_4 : decode cX2_allTellAsLaw 4 = .ok (.ifnull 16, 3) := by decide +kernel
theorem dX2_allTellAsLaw_7 : decode cX2_allTellAsLaw 7 = .ok (.iload_n 1, 1) := by decide +kernel
theorem dX2_allTellAsLaw_8 : decode cX2_allTellAsLaw 8 = .ok (.ifCond .lt 12, 3) := by decide +kernel
theorem dX2_allTellAsLaw_11 : decode cX2_allTellAsLaw 11 = .ok (.iload_n 1, 1) := by decide +kernel
theorem dX2_allTellAsLaw_12 : decode cX2_allTellAsLaw 12 = .ok (.aload_n 0, 1) := by decide +kernel
theorem dX2_allTellAsLaw_13 : decode cX2_allTellAsLaw 13 = .ok (.getfield 17, 3) := by decide +kernel
theorem dX2_allTellAsLaw_16 : decode cX2_allTellAsLaw 16 = .ok (.arraylength, 1) := by decide +kernel
theorem dX2_allTellAsLaw_17 : decode cX2_allTellAsLaw 17 = .ok (.if_icmp .lt 5, 3) := by decide +kernel
theorem dX2_allTellAsLaw_20 : decode cX2_allTellAsLaw 20 = .ok (.iconst 0, 1) := by decide +kernel
theorem dX2_allTellAsLaw_21 : decode cX2_allTellAsLaw 21 = .ok (.ireturn, 1) := by decide +kernel
theorem dX2_allTellAsLaw_22 : decode cX2_allTellAsLaw 22 = .ok (.aload_n 0, 1) := by decide +kernel
theorem dX2_allTellAsLaw_23 : decode cX2_allTellAsLaw 23 = .ok (.getfield 25, 3) := by decide +kernel
theorem dX2_allTellAsLaw_26 : decode cX2_allTellAsLaw 26 = .ok (.getfield 29, 3) := by decide +kernel
theorem dX2_allTellAsLaw_29 : decode cX2_allTellAsLaw 29 = .ok (.iload_n 1, 1) := by decide +kernel
theorem dX2_allTellAsLaw_30 : decode cX2_allTellAsLaw 30 = .ok (.invokestatic 32, 3) := by decide +kernel
theorem dX2_allTellAsLaw_33 : decode cX2_allTellAsLaw 33 = .ok (.iconst 1, 1) := by decide +kernel
theorem dX2_allTellAsLaw_34 : decode cX2_allTellAsLaw 34 = .ok (.if_icmp .ne 7, 3) := by decide +kernel
theorem dX2_allTellAsLaw_37 : decode cX2_allTellAsLaw 37 = .ok (.iload_n 2, 1) := by decide +kernel
theorem dX2_allTellAsLaw_38 : decode cX2_allTellAsLaw 38 = .ok (.goto 4, 3) := by decide +kernel
theorem dX2_allTellAsLaw_41 : decode cX2_allTellAsLaw 41 = .ok (.iconst 0, 1) := by decide +kernel
theorem dX2_allTellAsLaw_42 : decode cX2_allTellAsLaw 42 = .ok (.istore_n 3, 1) := by decide +kernel
theorem dX2_allTellAsLaw_43 : decode cX2_allTellAsLaw 43 = .ok (.aload_n 0, 1) := by decide +kernel
theorem dX2_allTellAsLaw_44 : decode cX2_allTellAsLaw 44 = .ok (.getfield 17, 3) := by decide +kernel
theorem dX2_allTellAsLaw_47 : decode cX2_allTellAsLaw 47 = .ok (.iload_n 1, 1) := by decide +kernel
theorem dX2_allTellAsLaw_48 : decode cX2_allTellAsLaw 48 = .ok (.iaload, 1) := by decide +kernel
theorem dX2_allTellAsLaw_49 : decode cX2_allTellAsLaw 49 = .ok (.iload_n 2, 1) := by decide +kernel
theorem dX2_allTellAsLaw_50 : decode cX2_allTellAsLaw 50 = .ok (.iand, 1) := by decide +kernel
theorem dX2_allTellAsLaw_51 : decode cX2_allTellAsLaw 51 = .ok (.iload_n 3, 1) := by decide +kernel
theorem dX2_allTellAsLaw_52 : decode cX2_allTellAsLaw 52 = .ok (.if_icmp .ne 7, 3) := by decide +kernel
theorem dX2_allTellAsLaw_55 : decode cX2_allTellAsLaw 55 = .ok (.iconst 1, 1) := by decide +kernel
theorem dX2_allTellAsLaw_56 : decode cX2_allTellAsLaw 56 = .ok (.goto 4, 3) := by decide +kernel
theorem dX2_allTellAsLaw_59 : decode cX2_allTellAsLaw 59 = .ok (.iconst 0, 1) := by decide +kernel
theorem dX2_allTellAsLaw_60 : decode cX2_allTellAsLaw 60 = .ok (.ireturn, 1) := by decide +kernel
theorem dX3_init_0 : decode cX3_init 0 = .ok (.aload_n 0, 1) := by decide +kernel
theorem dX3_init_1 : decode cX3_init 1 = .ok (.invokespecial 3, 3) := by decide +kernel
theorem dX3_init_4 : decode cX3_init 4 = .ok (.aload_n 0, 1) := by decide +kernel
theorem dX3_init_5 : decode cX3_init 5 = .ok (.bipush 120, 2) := by decide +kernel
theorem dX3_init_7 : decode cX3_init 7 = .ok (.newarray .byte, 2) := by decide +kernel
theorem dX3_init_9 : decode cX3_init 9 = .ok (.putfield 9, 3) := by decide +kernel
theorem dX3_init_12 : decode cX3_init 12 = .ok (.aload_n 0, 1) := by decide +kernel
theorem dX3_init_13 : decode cX3_init 13 = .ok (.iconst 0, 1) := by decide +kernel
theorem dX3_init_14 : decode cX3_init 14 = .ok (.putfield 15, 3) := by decide +kernel
theorem dX3_init_17 : decode cX3_init 17 = .ok (.aload_n 0, 1) := by decide +kernel
theorem dX3_init_18 : decode cX3_init 18 = .ok (.iconst 0, 1) := by decide +kernel
theorem dX3_init_19 : decode cX3_init 19 = .ok (.putfield 19, 3) := by decide +kernel
theorem dX3_init_22 : decode cX3_init 22 = .ok (.aload_n 0, 1) := by decide +kernel
theorem dX3_init_23 : decode cX3_init 23 = .ok (.iconst 0, 1) := by decide +kernel
theorem dX3_init_24 : decode cX3_init 24 = .ok (.putfield 22, 3) := by decide +kernel
theorem dX3_init_27 : decode cX3_init 27 = .ok (.aload_n 0, 1) := by decide +kernel
theorem dX3_init_28 : decode cX3_init 28 = .ok (.iconst (-1), 1) := by decide +kernel
theorem dX3_init_29 : decode cX3_init 29 = .ok (.putfield 25, 3) := by decide +kernel
theorem dX3_init_32 : decode cX3_init 32 = .ok (.aload_n 0, 1) := by decide +kernel
theorem dX3_init_33 : decode cX3_init 33 = .ok (.iconst 3, 1) := by decide +kernel
theorem dX3_init_34 : decode cX3_init 34 = .ok (.putfield 28, 3) := by decide +kernel
theorem dX3_init_37 : decode cX3_init 37 = .ok (.aload_n 0, 1) := by decide +kernel
theorem dX3_init_38 : decode cX3_init 38 = .ok (.iconst 0, 1) := by decide +kernel
theorem dX3_init_39 : decode cX3_init 39 = .ok (.putfield 31, 3) := by decide +kernel
theorem dX3_init_42 : decode cX3_init 42 = .ok (.aload_n 0, 1) := by decide +kernel
theorem dX3_init_43 : decode cX3_init 43 = .ok (.aload_n 1, 1) := by decide +kernel
theorem dX3_init_44 : decode cX3_init 44 = .ok (.putfield 34, 3) := by decide +kernel
theorem dX3_init_47 : decode cX3_init 47 = .ok (.return_, 1) := by decide +kernel
set_option maxRecDepth 20000 in
theorem ggX3_readText_X3_readRow : GoodIn wsX3_readText wsX3_readRow := goodIn_r _ [10, 3, 11, 12, 13, 14, 9, 15, 16, 17, 18, 2, 1, 19, 20, 21, 22, 23, 24, 25, 26, 27, 28, 29, 30, 31, 32, 33, 34, 35, 36, 37, 38, 39, 40, 41, 42, 43, 44, 45, 46, 47, 48, 49, 50, 51, 52, 53, 54, 55, 56, 57, 58, 4, 59, 6, 7, 8, 60, 61, 62, 63, 64, 65, 66, 67, 68, 69, 70, 71, 72, 73, 74, 75, 76, 77] (by decide +kernel) (by decide +kernel)
set_option maxRecDepth 20000 in
theorem gX3_readText_X3_readRow : GoodIn wsX3_readText (wsV RX3 38 RX3 yX3_readRow wsX3_readRow) := goodIn_app (goodIn_of _ (by decide +kernel)) ggX3_readText_X3_readRow
set_option maxRecDepth 20000 in
theorem ggX3_readText_X3_look : GoodIn wsX3_readText wsX3_look := goodIn_r _ [18, 2, 1, 19, 20, 21, 22, 23, 24, 25, 26, 27, 28, 9, 29, 68, 69, 70, 71, 72, 73, 74, 75, 76, 77] (by decide +kernel) (by decide +kernel)
set_option maxRecDepth 20000 in
theorem gX3_readText_X3_look : GoodIn wsX3_readText (wsV RX3 42 RX3 yX3_look wsX3_look) := goodIn_app (goodIn_of _ (by decide +kernel)) ggX3_readText_X3_look
set_option maxRecDepth 20000 in
theorem ggX3_readText_X3_fail : GoodIn wsX3_readText wsX3_fail := goodIn_r _ [58, 4, 2, 1, 68, 69, 70, 71, 72, 73, 74, 75] (by decide +kernel) (by decide +kernel)
set_option maxRecDepth 20000 in
theorem gX3_readText_X3_fail : GoodIn wsX3_readText (wsV RX3 48 RX3 yX3_fail wsX3_fail) := goodIn_app (goodIn_of _ (by decide +kernel)) ggX3_readText_X3_fail
theorem dX3_readText_0 : decode cX3_readText 0 = .ok (.aload_n 0, 1) := by decide +kernel
theorem dX3_readText_1 : decode cX3_readText 1 = .ok (.iload_n 1, 1) := by decide +kernel
theorem dX3_readText_2 : decode cX3_readText 2 = .ok (.putfield 19, 3) := by decide +kernel
theorem dX3_readText_5 : decode cX3_readText 5 = .ok (.aload_n 0, 1) := by decide +kernel
theorem dX3_readText_6 : decode cX3_readText 6 = .ok (.iconst 0, 1) := by decide +kernel
theorem dX3_readText_7 : decode cX3_readText 7 = .ok (.putfield 22, 3) := by decide +kernel
theorem dX3_readText_10 : decode cX3_readText 10 = .ok (.aload_n 0, 1) := by decide +kernel
theorem dX3_readText_11 : decode cX3_readText 11 = .ok (.iconst 0, 1) := by decide +kernel
theorem dX3_readText_12 : decode cX3_readText 12 = .ok (.putfield 15, 3) := by decide +kernel
theorem dX3_readText_15 : decode cX3_readText 15 = .ok (.aload_n 0, 1) := by decide +kernel
theorem dX3_readText_16 : decode cX3_readText 16 = .ok (.iconst (-1), 1) := by decide +kernel
theorem dX3_readText_17 : decode cX3_readText 17 = .ok (.putfield 25, 3) := by decide +kernel
theorem dX3_readText_20 : decode cX3_readText 20 = .ok (.aload_n 0, 1) := by decide +kernel
theorem dX3_readText_21 : decode cX3_readText 21 = .ok (.aload_n 0, 1) := by decide +kernel
theorem dX3_readText_22 : decode cX3_readText 22 = .ok (.iconst 0, 1) := by decide +kernel
theorem dX3_readText_23 : decode cX3_readText 23 = .ok (.iconst 0, 1) := by decide +kernel
theorem dX3_readText_24 : decode cX3_readText 24 = .ok (.invokevirtual 38, 3) := by decide +kernel
theorem dX3_readText_27 : decode cX3_readText 27 = .ok (.putfield 31, 3) := by decide +kernel
theorem dX3_readText_30 : decode cX3_readText 30 = .ok (.aload_n 0, 1) := by decide +kernel
theorem dX3_readText_31 : decode cX3_readText 31 = .ok (.invokevirtual 42, 3) := by decide +kernel
theorem dX3_readText_34 : decode cX3_readText 34 = .ok (.iconst (-1), 1) := by decide +kernel
theorem dX3_readText_35 : decode cX3_readText 35 = .ok (.if_icmp .eq 7, 3) := by decide +kernel
theorem dX3_readText_38 : decode cX3_readText 38 = .ok (.aload_n 0, 1) := by decide +kernel
theorem dX3_readText_39 : decode cX3_readText 39 = .ok (.invokevirtual 48, 3) := by decide +kernel
theorem dX3_readText_42 : decode cX3_readText 42 = .ok (.aload_n 0, 1) := by decide +kernel
theorem dX3_readText_43 : decode cX3_readText 43 = .ok (.getfield 25, 3) := by decide +kernel
theorem dX3_readText_46 : decode cX3_readText 46 = .ok (.ireturn, 1) := by decide +kernel
set_option maxRecDepth 20000 in
theorem ggX3_formula_J7_copyOf_9075b : GoodIn wsX3_formula wsJ7_copyOf_9075b := goodIn_r _ [14, 15, 16, 17, 18, 19, 20, 21, 22, 23, 9, 24, 25, 26, 27, 28] (by decide +kernel) (by decide +kernel)
set_option maxRecDepth 20000 in
theorem gX3_formula_J7_copyOf_9075b : GoodIn wsX3_formula (va_wsS RX3 58 yJ7_copyOf_9075b wsJ7_copyOf_9075b) := goodIn_app (goodIn_of _ (by decide +kernel)) ggX3_formula_J7_copyOf_9075b
set_option maxRecDepth 20000 in
theorem ggX3_formula_X1_init : GoodIn wsX3_formula wsX1_init := goodIn_r _ [31, 32, 33, 34, 35, 36, 37, 38] (by decide +kernel) (by decide +kernel)
set_option maxRecDepth 20000 in
theorem gX3_formula_X1_init : GoodIn wsX3_formula (wsX1_init) := ggX3_formula_X1_init
theorem dX3_formula_0 : decode cX3_formula 0 = .ok (.new 51, 3) := by decide +kernel
theorem dX3_formula_3 : decode cX3_formula 3 = .ok (.dup, 1) := by decide +kernel
theorem dX3_formula_4 : decode cX3_formula 4 = .ok (.aload_n 0, 1) := by decide +kernel
theorem dX3_formula_5 : decode cX3_formula 5 = .ok (.getfield 31, 3) := by decide +kernel
theorem dX3_formula_8 : decode cX3_formula 8 = .ok (.aload_n 0, 1) := by decide +kernel
theorem dX3_formula_9 : decode cX3_formula 9 = .ok (.getfield 9, 3) := by decide +kernel
theorem dX3_formula_12 : decode cX3_formula 12 = .ok (.iconst 0, 1) := by decide +kernel
theorem dX3_formula_13 : decode cX3_formula 13 = .ok (.aload_n 0, 1) := by decide +kernel
theorem dX3_formula_14 : decode cX3_formula 14 = .ok (.getfield 15, 3) := by decide +kernel
theorem dX3_formula_17 : decode cX3_formula 17 = .ok (.invokestatic 53, 3) := by decide +kernel
theorem dX3_formula_20 : decode cX3_formula 20 = .ok (.invokestatic 58, 3) := by decide +kernel
theorem dX3_formula_23 : decode cX3_formula 23 = .ok (.invokespecial 64, 3) := by decide +kernel
theorem dX3_formula_26 : decode cX3_formula 26 = .ok (.areturn, 1) := by decide +kernel
set_option maxRecDepth 20000 in
theorem ggX3_readRow_X3_readPart : GoodIn wsX3_readRow wsX3_readPart := goodIn_r _ [62, 63, 64, 65, 6, 55, 56, 57, 44, 2, 45, 7, 8, 9, 10, 11, 12, 13, 14, 15, 16, 17, 18, 19, 20, 21, 22, 23, 46, 47, 48, 37, 38, 39, 40, 1, 32, 49, 50, 51, 52, 53, 54, 58, 59, 60, 61, 28, 29, 30, 31, 33, 34, 35, 36, 0, 3, 4, 5, 24, 25, 26, 27, 41, 42, 43, 66, 67, 68, 69, 70, 71, 72, 73, 74, 75] (by decide +kernel) (by decide +kernel)
set_option maxRecDepth 20000 in
theorem gX3_readRow_X3_readPart : GoodIn wsX3_readRow (wsV RX3 67 RX3 yX3_readPart wsX3_readPart) := goodIn_app (goodIn_of _ (by decide +kernel)) ggX3_readRow_X3_readPart
set_option maxRecDepth 20000 in
theorem ggX3_readRow_X3_look : GoodIn wsX3_readRow wsX3_look := goodIn_r _ [10, 11, 12, 13, 14, 15, 16, 17, 18, 19, 20, 21, 22, 6, 23, 66, 67, 68, 69, 70, 71, 72, 73, 74, 75] (by decide +kernel) (by decide +kernel)
set_option maxRecDepth 20000 in
theorem gX3_readRow_X3_look : GoodIn wsX3_readRow (wsV RX3 42 RX3 yX3_look wsX3_look) := goodIn_app (goodIn_of _ (by decide +kernel)) ggX3_readRow_X3_look
set_option maxRecDepth 20000 in
theorem ggX3_readRow_X3_signOf : GoodIn wsX3_readRow wsX3_signOf := goodIn_r _ [26, 27] (by decide +kernel) (by decide +kernel)
set_option maxRecDepth 20000 in
theorem gX3_readRow_X3_signOf : GoodIn wsX3_readRow (va_wsS RX3 70 yX3_signOf wsX3_signOf) := goodIn_app (goodIn_of _ (by decide +kernel)) ggX3_readRow_X3_signOf
set_option maxRecDepth 20000 in
theorem ggX3_readRow_X3_bracketIfLooser : GoodIn wsX3_readRow wsX3_bracketIfLooser := goodIn_r _ [31, 2, 1, 32, 33, 34, 35, 36, 66, 67, 68, 69, 70, 71, 72, 73] (by decide +kernel) (by decide +kernel)
set_option maxRecDepth 20000 in
theorem gX3_readRow_X3_bracketIfLooser : GoodIn wsX3_readRow (wsV RX3 74 RX3 yX3_bracketIfLooser wsX3_bracketIfLooser) := goodIn_app (goodIn_of _ (by decide +kernel)) ggX3_readRow_X3_bracketIfLooser
set_option maxRecDepth 20000 in
theorem ggX3_readRow_X3_copySign : GoodIn wsX3_readRow wsX3_copySign := goodIn_r _ [40, 1, 32, 13, 11, 14, 15, 16, 17, 18, 19, 20, 66, 67, 68, 69, 70, 71, 72, 73, 74, 75] (by decide +kernel) (by decide +kernel)
set_option maxRecDepth 20000 in
theorem gX3_readRow_X3_copySign : GoodIn wsX3_readRow (wsV RX3 78 RX3 yX3_copySign wsX3_copySign) := goodIn_app (goodIn_of _ (by decide +kernel)) ggX3_readRow_X3_copySign
set_option maxRecDepth 20000 in
theorem ggX3_readRow_X3_join : GoodIn wsX3_readRow wsX3_join := goodIn_r _ [43] (by decide +kernel) (by decide +kernel)
set_option maxRecDepth 20000 in
theorem gX3_readRow_X3_join : GoodIn wsX3_readRow (va_wsS RX3 81 yX3_join wsX3_join) := goodIn_app (goodIn_of _ (by decide +kernel)) ggX3_readRow_X3_join
theorem dX3_readRow_0 : decode cX3_readRow 0 = .ok (.aload_n 0, 1) := by decide +kernel
theorem dX3_readRow_1 : decode cX3_readRow 1 = .ok (.getfield 15, 3) := by decide +kernel
theorem dX3_readRow_4 : decode cX3_readRow 4 = .ok (.istore_n 3, 1) := by decide +kernel
theorem dX3_readRow_5 : decode cX3_readRow 5 = .ok (.aload_n 0, 1) := by decide +kernel
theorem dX3_readRow_6 : decode cX3_readRow 6 = .ok (.iload_n 1, 1) := by decide +kernel
theorem dX3_readRow_7 : decode cX3_readRow 7 = .ok (.iload_n 2, 1) := by decide +kernel
theorem dX3_readRow_8 : decode cX3_readRow 8 = .ok (.invokevirtual 67, 3) := by decide +kernel
theorem dX3_readRow_11 : decode cX3_readRow 11 = .ok (.istore 4, 2) := by decide +kernel
theorem dX3_readRow_13 : decode cX3_readRow 13 = .ok (.iconst 0, 1) := by decide +kernel
theorem dX3_readRow_14 : decode cX3_readRow 14 = .ok (.istore 5, 2) := by decide +kernel
theorem dX3_readRow_16 : decode cX3_readRow 16 = .ok (.iload 5, 2) := by decide +kernel
theorem dX3_readRow_18 : decode cX3_readRow 18 = .ok (.bipush 60, 2) := by decide +kernel
theorem dX3_readRow_20 : decode cX3_readRow 20 = .ok (.if_icmp .ge 66, 3) := by decide +kernel
theorem dX3_readRow_23 : decode cX3_readRow 23 = .ok (.aload_n 0, 1) := by decide +kernel
theorem dX3_readRow_24 : decode cX3_readRow 24 = .ok (.invokevirtual 42, 3) := by decide +kernel
theorem dX3_readRow_27 : decode cX3_readRow 27 = .ok (.iload_n 1, 1) := by decide +kernel
theorem dX3_readRow_28 : decode cX3_readRow 28 = .ok (.invokestatic 70, 3) := by decide +kernel
theorem dX3_readRow_31 : decode cX3_readRow 31 = .ok (.if_icmp .ne 55, 3) := by decide +kernel
theorem dX3_readRow_34 : decode cX3_readRow 34 = .ok (.aload_n 0, 1) := by decide +kernel
theorem dX3_readRow_35 : decode cX3_readRow 35 = .ok (.iload_n 3, 1) := by decide +kernel
theorem dX3_readRow_36 : decode cX3_readRow 36 = .ok (.iload_n 1, 1) := by decide +kernel
theorem dX3_readRow_37 : decode cX3_readRow 37 = .ok (.invokevirtual 74, 3) := by decide +kernel
theorem dX3_readRow_40 : decode cX3_readRow 40 = .ok (.aload_n 0, 1) := by decide +kernel
theorem dX3_readRow_41 : decode cX3_readRow 41 = .ok (.invokevirtual 78, 3) := by decide +kernel
theorem dX3_readRow_44 : decode cX3_readRow 44 = .ok (.aload_n 0, 1) := by decide +kernel
theorem dX3_readRow_45 : decode cX3_readRow 45 = .ok (.getfield 15, 3) := by decide +kernel
theorem dX3_readRow_48 : decode cX3_readRow 48 = .ok (.istore 6, 2) := by decide +kernel
theorem dX3_readRow_50 : decode cX3_readRow 50 = .ok (.aload_n 0, 1) := by decide +kernel
theorem dX3_readRow_51 : decode cX3_readRow 51 = .ok (.iload_n 1, 1) := by decide +kernel
theorem dX3_readRow_52 : decode cX3_readRow 52 = .ok (.iload_n 2, 1) := by decide +kernel
theorem dX3_readRow_53 : decode cX3_readRow 53 = .ok (.invokevirtual 67, 3) := by decide +kernel
theorem dX3_readRow_56 : decode cX3_readRow 56 = .ok (.istore 7, 2) := by decide +kernel
theorem dX3_readRow_58 : decode cX3_readRow 58 = .ok (.aload_n 0, 1) := by decide +kernel
theorem dX3_readRow_59 : decode cX3_readRow 59 = .ok (.iload 6, 2) := by decide +kernel
theorem dX3_readRow_61 : decode cX3_readRow 61 = .ok (.iload_n 1, 1) := by decide +kernel
theorem dX3_readRow_62 : decode cX3_readRow 62 = .ok (.invokevirtual 74, 3) := by decide +kernel
theorem dX3_readRow_65 : decode cX3_readRow 65 = .ok (.iload_n 1, 1) := by decide +kernel
theorem dX3_readRow_66 : decode cX3_readRow 66 = .ok (.iload 4, 2) := by decide +kernel
theorem dX3_readRow_68 : decode cX3_readRow 68 = .ok (.iload 7, 2) := by decide +kernel
theorem dX3_readRow_70 : decode cX3_readRow 70 = .ok (.invokestatic 81, 3) := by decide +kernel
theorem dX3_readRow_73 : decode cX3_readRow 73 = .ok (.istore 4, 2) := by decide +kernel
theorem dX3_readRow_75 : decode cX3_readRow 75 = .ok (.aload_n 0, 1) := by decide +kernel
theorem dX3_readRow_76 : decode cX3_readRow 76 = .ok (.iload_n 1, 1) := by decide +kernel
theorem dX3_readRow_77 : decode cX3_readRow 77 = .ok (.putfield 28, 3) := by decide +kernel
theorem dX3_readRow_80 : decode cX3_readRow 80 = .ok (.iinc 5 1, 3) := by decide +kernel
theorem dX3_readRow_83 : decode cX3_readRow 83 = .ok (.goto (-67), 3) := by decide +kernel
theorem dX3_readRow_86 : decode cX3_readRow 86 = .ok (.iload 4, 2) := by decide +kernel
theorem dX3_readRow_88 : decode cX3_readRow 88 = .ok (.ireturn, 1) := by decide +kernel
set_option maxRecDepth 20000 in
theorem ggX3_readPart_X3_readNots : GoodIn wsX3_readPart wsX3_readNots := goodIn_r _ [43, 35, 9, 11, 12, 13, 4, 14, 15, 16, 17, 18, 19, 20, 21, 22, 23, 24, 25, 26, 27, 31, 32, 33, 34, 36, 44, 45, 46, 47, 48, 49, 50, 51, 52, 53, 54, 8, 10, 28, 29, 30, 37, 38, 39, 40, 41, 42, 5, 6, 7, 0, 1, 2, 3, 55, 56, 57, 58, 59, 60, 61, 62, 63, 64, 65, 66, 67, 68, 69, 70, 71, 72, 73, 74, 75] (by decide +kernel) (by decide +kernel)
set_option maxRecDepth 20000 in
theorem gX3_readPart_X3_readNots : GoodIn wsX3_readPart (wsV RX3 85 RX3 yX3_readNots wsX3_readNots) := goodIn_app (goodIn_of _ (by decide +kernel)) ggX3_readPart_X3_readNots
set_option maxRecDepth 20000 in
theorem ggX3_readPart_X3_readRow : GoodIn wsX3_readPart wsX3_readRow := goodIn_r _ [55, 35, 9, 56, 57, 58, 4, 11, 12, 13, 14, 15, 16, 17, 18, 19, 20, 21, 22, 23, 24, 25, 26, 27, 59, 60, 61, 62, 47, 48, 49, 50, 36, 51, 52, 53, 54, 31, 32, 33, 34, 63, 64, 65, 8, 10, 28, 29, 30, 37, 38, 39, 40, 41, 42, 5, 6, 7, 43, 44, 45, 46, 0, 1, 2, 3, 66, 67, 68, 69, 70, 71, 72, 73, 74, 75] (by decide +kernel) (by decide +kernel)
set_option maxRecDepth 20000 in
theorem gX3_readPart_X3_readRow : GoodIn wsX3_readPart (wsV RX3 38 RX3 yX3_readRow wsX3_readRow) := goodIn_app (goodIn_of _ (by decide +kernel)) ggX3_readPart_X3_readRow
theorem dX3_readPart_0 : decode cX3_readPart 0 = .ok (.iload_n 1, 1) := by decide +kernel
theorem dX3_readPart_1 : decode cX3_readPart 1 = .ok (.iconst 2, 1) := by decide +kernel
theorem dX3_readPart_2 : decode cX3_readPart 2 = .ok (.if_icmp .lt 11, 3) := by decide +kernel
theorem dX3_readPart_5 : decode cX3_readPart 5 = .ok (.aload_n 0, 1) := by decide +kernel
theorem dX3_readPart_6 : decode cX3_readPart 6 = .ok (.iload_n 2, 1) := by decide +kernel
theorem dX3_readPart_7 : decode cX3_readPart 7 = .ok (.invokevirtual 85, 3) := by decide +kernel
theorem dX3_readPart_10 : decode cX3_readPart 10 = .ok (.goto 11, 3) := by decide +kernel
theorem dX3_readPart_13 : decode cX3_readPart 13 = .ok (.aload_n 0, 1) := by decide +kernel
theorem dX3_readPart_14 : decode cX3_readPart 14 = .ok (.iload_n 1, 1) := by decide +kernel
theorem dX3_readPart_15 : decode cX3_readPart 15 = .ok (.iconst 1, 1) := by decide +kernel
theorem dX3_readPart_16 : decode cX3_readPart 16 = .ok (.iadd, 1) := by decide +kernel
theorem dX3_readPart_17 : decode cX3_readPart 17 = .ok (.iload_n 2, 1) := by decide +kernel
theorem dX3_readPart_18 : decode cX3_readPart 18 = .ok (.invokevirtual 38, 3) := by decide +kernel
theorem dX3_readPart_21 : decode cX3_readPart 21 = .ok (.ireturn, 1) := by decide +kernel
set_option maxRecDepth 20000 in
theorem ggX3_readNots_X3_look : GoodIn wsX3_readNots wsX3_look := goodIn_r _ [7, 8, 9, 10, 11, 12, 13, 14, 15, 16, 17, 18, 19, 6, 20, 66, 67, 68, 69, 70, 71, 72, 73, 74, 75] (by decide +kernel) (by decide +kernel)
set_option maxRecDepth 20000 in
theorem gX3_readNots_X3_look : GoodIn wsX3_readNots (wsV RX3 42 RX3 yX3_look wsX3_look) := goodIn_app (goodIn_of _ (by decide +kernel)) ggX3_readNots_X3_look
set_option maxRecDepth 20000 in
theorem ggX3_readNots_X3_copySign : GoodIn wsX3_readNots wsX3_copySign := goodIn_r _ [24, 1, 25, 10, 8, 11, 12, 13, 14, 15, 16, 17, 66, 67, 68, 69, 70, 71, 72, 73, 74, 75] (by decide +kernel) (by decide +kernel)
set_option maxRecDepth 20000 in
theorem gX3_readNots_X3_copySign : GoodIn wsX3_readNots (wsV RX3 78 RX3 yX3_copySign wsX3_copySign) := goodIn_app (goodIn_of _ (by decide +kernel)) ggX3_readNots_X3_copySign
set_option maxRecDepth 20000 in
theorem ggX3_readNots_X3_readAtom : GoodIn wsX3_readNots wsX3_readAtom := goodIn_r _ [37, 2, 38, 3, 4, 5, 6, 7, 8, 9, 10, 11, 12, 13, 14, 15, 16, 17, 18, 19, 20, 39, 40, 41, 21, 22, 23, 24, 1, 25, 42, 43, 44, 45, 46, 47, 48, 49, 50, 0, 26, 27, 28, 29, 30, 31, 32, 33, 34, 35, 36, 51, 52, 53, 54, 55, 56, 57, 58, 59, 60, 61, 62, 63, 64, 65, 66, 67, 68, 69, 70, 71, 72, 73, 74, 75] (by decide +kernel) (by decide +kernel)
set_option maxRecDepth 20000 in
theorem gX3_readNots_X3_readAtom : GoodIn wsX3_readNots (wsV RX3 88 RX3 yX3_readAtom wsX3_readAtom) := goodIn_app (goodIn_of _ (by decide +kernel)) ggX3_readNots_X3_readAtom
set_option maxRecDepth 20000 in
theorem ggX3_readNots_X3_bracketIfLooser : GoodIn wsX3_readNots wsX3_bracketIfLooser := goodIn_r _ [32, 2, 1, 25, 33, 34, 35, 36, 66, 67, 68, 69, 70, 71, 72, 73] (by decide +kernel) (by decide +kernel)
set_option maxRecDepth 20000 in
theorem gX3_readNots_X3_bracketIfLooser : GoodIn wsX3_readNots (wsV RX3 74 RX3 yX3_bracketIfLooser wsX3_bracketIfLooser) := goodIn_app (goodIn_of _ (by decide +kernel)) ggX3_readNots_X3_bracketIfLooser
theorem dX3_readNots_0 : decode cX3_readNots 0 = .ok (.iconst 0, 1) := by decide +kernel
theorem dX3_readNots_1 : decode cX3_readNots 1 = .ok (.istore_n 2, 1) := by decide +kernel
theorem dX3_readNots_2 : decode cX3_readNots 2 = .ok (.iload_n 2, 1) := by decide +kernel
theorem dX3_readNots_3 : decode cX3_readNots 3 = .ok (.bipush 8, 2) := by decide +kernel
theorem dX3_readNots_5 : decode cX3_readNots 5 = .ok (.if_icmp .ge 22, 3) := by decide +kernel
theorem dX3_readNots_8 : decode cX3_readNots 8 = .ok (.aload_n 0, 1) := by decide +kernel
theorem dX3_readNots_9 : decode cX3_readNots 9 = .ok (.invokevirtual 42, 3) := by decide +kernel
theorem dX3_readNots_12 : decode cX3_readNots 12 = .ok (.bipush 33, 2) := by decide +kernel
theorem dX3_readNots_14 : decode cX3_readNots 14 = .ok (.if_icmp .ne 13, 3) := by decide +kernel
theorem dX3_readNots_17 : decode cX3_readNots 17 = .ok (.aload_n 0, 1) := by decide +kernel
theorem dX3_readNots_18 : decode cX3_readNots 18 = .ok (.invokevirtual 78, 3) := by decide +kernel
theorem dX3_readNots_21 : decode cX3_readNots 21 = .ok (.iinc 2 1, 3) := by decide +kernel
theorem dX3_readNots_24 : decode cX3_readNots 24 = .ok (.goto (-22), 3) := by decide +kernel
theorem dX3_readNots_27 : decode cX3_readNots 27 = .ok (.aload_n 0, 1) := by decide +kernel
theorem dX3_readNots_28 : decode cX3_readNots 28 = .ok (.getfield 15, 3) := by decide +kernel
theorem dX3_readNots_31 : decode cX3_readNots 31 = .ok (.istore_n 3, 1) := by decide +kernel
theorem dX3_readNots_32 : decode cX3_readNots 32 = .ok (.aload_n 0, 1) := by decide +kernel
theorem dX3_readNots_33 : decode cX3_readNots 33 = .ok (.iload_n 1, 1) := by decide +kernel
theorem dX3_readNots_34 : decode cX3_readNots 34 = .ok (.invokevirtual 88, 3) := by decide +kernel
theorem dX3_readNots_37 : decode cX3_readNots 37 = .ok (.istore 4, 2) := by decide +kernel
theorem dX3_readNots_39 : decode cX3_readNots 39 = .ok (.iload_n 2, 1) := by decide +kernel
theorem dX3_readNots_40 : decode cX3_readNots 40 = .ok (.ifCond .le 14, 3) := by decide +kernel
theorem dX3_readNots_43 : decode cX3_readNots 43 = .ok (.aload_n 0, 1) := by decide +kernel
theorem dX3_readNots_44 : decode cX3_readNots 44 = .ok (.iload_n 3, 1) := by decide +kernel
theorem dX3_readNots_45 : decode cX3_readNots 45 = .ok (.iconst 3, 1) := by decide +kernel
theorem dX3_readNots_46 : decode cX3_readNots 46 = .ok (.invokevirtual 74, 3) := by decide +kernel
theorem dX3_readNots_49 : decode cX3_readNots 49 = .ok (.aload_n 0, 1) := by decide +kernel
theorem dX3_readNots_50 : decode cX3_readNots 50 = .ok (.iconst 3, 1) := by decide +kernel
theorem dX3_readNots_51 : decode cX3_readNots 51 = .ok (.putfield 28, 3) := by decide +kernel
theorem dX3_readNots_54 : decode cX3_readNots 54 = .ok (.iload_n 2, 1) := by decide +kernel
theorem dX3_readNots_55 : decode cX3_readNots 55 = .ok (.iconst 2, 1) := by decide +kernel
theorem dX3_readNots_56 : decode cX3_readNots 56 = .ok (.irem, 1) := by decide +kernel
theorem dX3_readNots_57 : decode cX3_readNots 57 = .ok (.ifCond .ne 8, 3) := by decide +kernel
theorem dX3_readNots_60 : decode cX3_readNots 60 = .ok (.iload 4, 2) := by decide +kernel
theorem dX3_readNots_62 : decode cX3_readNots 62 = .ok (.goto 7, 3) := by decide +kernel
theorem dX3_readNots_65 : decode cX3_readNots 65 = .ok (.iload 4, 2) := by decide +kernel
theorem dX3_readNots_67 : decode cX3_readNots 67 = .ok (.iconst (-1), 1) := by decide +kernel
theorem dX3_readNots_68 : decode cX3_readNots 68 = .ok (.ixor, 1) := by decide +kernel
theorem dX3_readNots_69 : decode cX3_readNots 69 = .ok (.ireturn, 1) := by decide +kernel
set_option maxRecDepth 20000 in
theorem ggX3_readAtom_X3_look : GoodIn wsX3_readAtom wsX3_look := goodIn_r _ [7, 8, 9, 10, 11, 12, 13, 14, 15, 16, 17, 18, 19, 6, 20, 66, 67, 68, 69, 70, 71, 72, 73, 74, 75] (by decide +kernel) (by decide +kernel)
set_option maxRecDepth 20000 in
theorem gX3_readAtom_X3_look : GoodIn wsX3_readAtom (wsV RX3 42 RX3 yX3_look wsX3_look) := goodIn_app (goodIn_of _ (by decide +kernel)) ggX3_readAtom_X3_look
set_option maxRecDepth 20000 in
theorem ggX3_readAtom_X3_readBracket : GoodIn wsX3_readAtom wsX3_readBracket := goodIn_r _ [35, 8, 36, 37, 38, 6, 3, 4, 5, 7, 9, 10, 11, 12, 13, 14, 15, 16, 17, 18, 19, 20, 30, 31, 32, 33, 34, 0, 1, 2, 21, 22, 23, 24, 25, 26, 27, 28, 29, 39, 40, 41, 42, 43, 44, 45, 46, 47, 48, 49, 50, 51, 52, 53, 54, 55, 56, 57, 58, 59, 60, 61, 62, 63, 64, 65, 66, 67, 68, 69, 70, 71, 72, 73, 74, 75] (by decide +kernel) (by decide +kernel)
set_option maxRecDepth 20000 in
theorem gX3_readAtom_X3_readBracket : GoodIn wsX3_readAtom (wsV RX3 91 RX3 yX3_readBracket wsX3_readBracket) := goodIn_app (goodIn_of _ (by decide +kernel)) ggX3_readAtom_X3_readBracket
set_option maxRecDepth 20000 in
theorem ggX3_readAtom_X3_copySign : GoodIn wsX3_readAtom wsX3_copySign := goodIn_r _ [27, 28, 29, 10, 8, 11, 12, 13, 14, 15, 16, 17, 66, 67, 68, 69, 70, 71, 72, 73, 74, 75] (by decide +kernel) (by decide +kernel)
set_option maxRecDepth 20000 in
theorem gX3_readAtom_X3_copySign : GoodIn wsX3_readAtom (wsV RX3 78 RX3 yX3_copySign wsX3_copySign) := goodIn_app (goodIn_of _ (by decide +kernel)) ggX3_readAtom_X3_copySign
set_option maxRecDepth 20000 in
theorem ggX3_readAtom_X3_fail : GoodIn wsX3_readAtom wsX3_fail := goodIn_r _ [33, 34, 8, 9, 66, 67, 68, 69, 70, 71, 72, 73] (by decide +kernel) (by decide +kernel)
set_option maxRecDepth 20000 in
theorem gX3_readAtom_X3_fail : GoodIn wsX3_readAtom (wsV RX3 48 RX3 yX3_fail wsX3_fail) := goodIn_app (goodIn_of _ (by decide +kernel)) ggX3_readAtom_X3_fail
theorem dX3_readAtom_0 : decode cX3_readAtom 0 = .ok (.aload_n 0, 1) := by decide +kernel
theorem dX3_readAtom_1 : decode cX3_readAtom 1 = .ok (.invokevirtual 42, 3) := by decide +kernel
theorem dX3_readAtom_4 : decode cX3_readAtom 4 = .ok (.istore_n 2, 1) := by decide +kernel
theorem dX3_readAtom_5 : decode cX3_readAtom 5 = .ok (.iload_n 2, 1) := by decide +kernel
theorem dX3_readAtom_6 : decode cX3_readAtom 6 = .ok (.bipush 40, 2) := by decide +kernel
theorem dX3_readAtom_8 : decode cX3_readAtom 8 = .ok (.if_icmp .ne 17, 3) := by decide +kernel
theorem dX3_readAtom_11 : decode cX3_readAtom 11 = .ok (.iload_n 1, 1) := by decide +kernel
theorem dX3_readAtom_12 : decode cX3_readAtom 12 = .ok (.bipush 8, 2) := by decide +kernel
theorem dX3_readAtom_14 : decode cX3_readAtom 14 = .ok (.if_icmp .ge 11, 3) := by decide +kernel
theorem dX3_readAtom_17 : decode cX3_readAtom 17 = .ok (.aload_n 0, 1) := by decide +kernel
theorem dX3_readAtom_18 : decode cX3_readAtom 18 = .ok (.iload_n 1, 1) := by decide +kernel
theorem dX3_readAtom_19 : decode cX3_readAtom 19 = .ok (.iconst 1, 1) := by decide +kernel
theorem dX3_readAtom_20 : decode cX3_readAtom 20 = .ok (.iadd, 1) := by decide +kernel
theorem dX3_readAtom_21 : decode cX3_readAtom 21 = .ok (.invokevirtual 91, 3) := by decide +kernel
theorem dX3_readAtom_24 : decode cX3_readAtom 24 = .ok (.ireturn, 1) := by decide +kernel
theorem dX3_readAtom_25 : decode cX3_readAtom 25 = .ok (.aload_n 0, 1) := by decide +kernel
theorem dX3_readAtom_26 : decode cX3_readAtom 26 = .ok (.iconst 3, 1) := by decide +kernel
theorem dX3_readAtom_27 : decode cX3_readAtom 27 = .ok (.putfield 28, 3) := by decide +kernel
theorem dX3_readAtom_30 : decode cX3_readAtom 30 = .ok (.iload_n 2, 1) := by decide +kernel
theorem dX3_readAtom_31 : decode cX3_readAtom 31 = .ok (.bipush 97, 2) := by decide +kernel
theorem dX3_readAtom_33 : decode cX3_readAtom 33 = .ok (.isub, 1) := by decide +kernel
theorem dX3_readAtom_34 : decode cX3_readAtom 34 = .ok (.istore_n 3, 1) := by decide +kernel
theorem dX3_readAtom_35 : decode cX3_readAtom 35 = .ok (.iload_n 3, 1) := by decide +kernel
theorem dX3_readAtom_36 : decode cX3_readAtom 36 = .ok (.ifCond .lt 21, 3) := by decide +kernel
theorem dX3_readAtom_39 : decode cX3_readAtom 39 = .ok (.iload_n 3, 1) := by decide +kernel
theorem dX3_readAtom_40 : decode cX3_readAtom 40 = .ok (.getstatic 94, 3) := by decide +kernel
theorem dX3_readAtom_43 : decode cX3_readAtom 43 = .ok (.arraylength, 1) := by decide +kernel
theorem dX3_readAtom_44 : decode cX3_readAtom 44 = .ok (.if_icmp .ge 13, 3) := by decide +kernel
theorem dX3_readAtom_47 : decode cX3_readAtom 47 = .ok (.aload_n 0, 1) := by decide +kernel
theorem dX3_readAtom_48 : decode cX3_readAtom 48 = .ok (.invokevirtual 78, 3) := by decide +kernel
theorem dX3_readAtom_51 : decode cX3_readAtom 51 = .ok (.getstatic 94, 3) := by decide +kernel
theorem dX3_readAtom_54 : decode cX3_readAtom 54 = .ok (.iload_n 3, 1) := by decide +kernel
theorem dX3_readAtom_55 : decode cX3_readAtom 55 = .ok (.iaload, 1) := by decide +kernel
theorem dX3_readAtom_56 : decode cX3_readAtom 56 = .ok (.ireturn, 1) := by decide +kernel
theorem dX3_readAtom_57 : decode cX3_readAtom 57 = .ok (.iload_n 2, 1) := by decide +kernel
theorem dX3_readAtom_58 : decode cX3_readAtom 58 = .ok (.bipush 48, 2) := by decide +kernel
theorem dX3_readAtom_60 : decode cX3_readAtom 60 = .ok (.if_icmp .eq 9, 3) := by decide +kernel
theorem dX3_readAtom_63 : decode cX3_readAtom 63 = .ok (.iload_n 2, 1) := by decide +kernel
theorem dX3_readAtom_64 : decode cX3_readAtom 64 = .ok (.bipush 49, 2) := by decide +kernel
theorem dX3_readAtom_66 : decode cX3_readAtom 66 = .ok (.if_icmp .ne 19, 3) := by decide +kernel
theorem dX3_readAtom_69 : decode cX3_readAtom 69 = .ok (.aload_n 0, 1) := by decide +kernel
theorem dX3_readAtom_70 : decode cX3_readAtom 70 = .ok (.invokevirtual 78, 3) := by decide +kernel
theorem dX3_readAtom_73 : decode cX3_readAtom 73 = .ok (.iload_n 2, 1) := by decide +kernel
theorem dX3_readAtom_74 : decode cX3_readAtom 74 = .ok (.bipush 49, 2) := by decide +kernel
theorem dX3_readAtom_76 : decode cX3_readAtom 76 = .ok (.if_icmp .ne 7, 3) := by decide +kernel
theorem dX3_readAtom_79 : decode cX3_readAtom 79 = .ok (.iconst (-1), 1) := by decide +kernel
theorem dX3_readAtom_80 : decode cX3_readAtom 80 = .ok (.goto 4, 3) := by decide +kernel
theorem dX3_readAtom_83 : decode cX3_readAtom 83 = .ok (.iconst 0, 1) := by decide +kernel
theorem dX3_readAtom_84 : decode cX3_readAtom 84 = .ok (.ireturn, 1) := by decide +kernel
theorem dX3_readAtom_85 : decode cX3_readAtom 85 = .ok (.aload_n 0, 1) := by decide +kernel
theorem dX3_readAtom_86 : decode cX3_readAtom 86 = .ok (.invokevirtual 48, 3) := by decide +kernel
theorem dX3_readAtom_89 : decode cX3_readAtom 89 = .ok (.iconst 0, 1) := by decide +kernel
theorem dX3_readAtom_90 : decode cX3_readAtom 90 = .ok (.ireturn, 1) := by decide +kernel
set_option maxRecDepth 20000 in
theorem ggX3_readBracket_X3_readRow : GoodIn wsX3_readBracket wsX3_readRow := goodIn_r _ [55, 37, 28, 56, 57, 58, 5, 6, 7, 8, 9, 1, 10, 11, 12, 13, 14, 15, 16, 17, 18, 19, 20, 21, 59, 60, 61, 62, 43, 44, 45, 46, 38, 47, 48, 49, 50, 33, 34, 35, 36, 63, 64, 65, 27, 29, 30, 31, 32, 22, 23, 24, 25, 26, 0, 2, 3, 4, 39, 40, 41, 42, 51, 52, 53, 54, 66, 67, 68, 69, 70, 71, 72, 73, 74, 75] (by decide +kernel) (by decide +kernel)
set_option maxRecDepth 20000 in
theorem gX3_readBracket_X3_readRow : GoodIn wsX3_readBracket (wsV RX3 38 RX3 yX3_readRow wsX3_readRow) := goodIn_app (goodIn_of _ (by decide +kernel)) ggX3_readBracket_X3_readRow
set_option maxRecDepth 20000 in
theorem ggX3_readBracket_X3_look : GoodIn wsX3_readBracket wsX3_look := goodIn_r _ [9, 1, 10, 11, 12, 13, 14, 15, 16, 17, 18, 19, 20, 5, 21, 66, 67, 68, 69, 70, 71, 72, 73, 74, 75] (by decide +kernel) (by decide +kernel)
set_option maxRecDepth 20000 in
theorem gX3_readBracket_X3_look : GoodIn wsX3_readBracket (wsV RX3 42 RX3 yX3_look wsX3_look) := goodIn_app (goodIn_of _ (by decide +kernel)) ggX3_readBracket_X3_look
set_option maxRecDepth 20000 in
theorem ggX3_readBracket_X3_fail : GoodIn wsX3_readBracket wsX3_fail := goodIn_r _ [25, 26, 1, 10, 66, 67, 68, 69, 70, 71, 72, 73] (by decide +kernel) (by decide +kernel)
set_option maxRecDepth 20000 in
theorem gX3_readBracket_X3_fail : GoodIn wsX3_readBracket (wsV RX3 48 RX3 yX3_fail wsX3_fail) := goodIn_app (goodIn_of _ (by decide +kernel)) ggX3_readBracket_X3_fail
theorem dX3_readBracket_0 : decode cX3_readBracket 0 = .ok (.aload_n 0, 1) := by decide +kernel
theorem dX3_readBracket_1 : decode cX3_readBracket 1 = .ok (.dup, 1) := by decide +kernel
theorem dX3_readBracket_2 : decode cX3_readBracket 2 = .ok (.getfield 22, 3) := by decide +kernel
theorem dX3_readBracket_5 : decode cX3_readBracket 5 = .ok (.iconst 1, 1) := by decide +kernel
theorem dX3_readBracket_6 : decode cX3_readBracket 6 = .ok (.iadd, 1) := by decide +kernel
theorem dX3_readBracket_7 : decode cX3_readBracket 7 = .ok (.putfield 22, 3) := by decide +kernel
theorem dX3_readBracket_10 : decode cX3_readBracket 10 = .ok (.aload_n 0, 1) := by decide +kernel
theorem dX3_readBracket_11 : decode cX3_readBracket 11 = .ok (.iconst 0, 1) := by decide +kernel
theorem dX3_readBracket_12 : decode cX3_readBracket 12 = .ok (.iload_n 1, 1) := by decide +kernel
theorem dX3_readBracket_13 : decode cX3_readBracket 13 = .ok (.invokevirtual 38, 3) := by decide +kernel
theorem dX3_readBracket_16 : decode cX3_readBracket 16 = .ok (.istore_n 2, 1) := by decide +kernel
theorem dX3_readBracket_17 : decode cX3_readBracket 17 = .ok (.aload_n 0, 1) := by decide +kernel
theorem dX3_readBracket_18 : decode cX3_readBracket 18 = .ok (.invokevirtual 42, 3) := by decide +kernel
theorem dX3_readBracket_21 : decode cX3_readBracket 21 = .ok (.bipush 41, 2) := by decide +kernel
theorem dX3_readBracket_23 : decode cX3_readBracket 23 = .ok (.if_icmp .ne 16, 3) := by decide +kernel
theorem dX3_readBracket_26 : decode cX3_readBracket 26 = .ok (.aload_n 0, 1) := by decide +kernel
theorem dX3_readBracket_27 : decode cX3_readBracket 27 = .ok (.dup, 1) := by decide +kernel
theorem dX3_readBracket_28 : decode cX3_readBracket 28 = .ok (.getfield 22, 3) := by decide +kernel
theorem dX3_readBracket_31 : decode cX3_readBracket 31 = .ok (.iconst 1, 1) := by decide +kernel
theorem dX3_readBracket_32 : decode cX3_readBracket 32 = .ok (.iadd, 1) := by decide +kernel
theorem dX3_readBracket_33 : decode cX3_readBracket 33 = .ok (.putfield 22, 3) := by decide +kernel
theorem dX3_readBracket_36 : decode cX3_readBracket 36 = .ok (.goto 7, 3) := by decide +kernel
theorem dX3_readBracket_39 : decode cX3_readBracket 39 = .ok (.aload_n 0, 1) := by decide +kernel
theorem dX3_readBracket_40 : decode cX3_readBracket 40 = .ok (.invokevirtual 48, 3) := by decide +kernel
theorem dX3_readBracket_43 : decode cX3_readBracket 43 = .ok (.iload_n 2, 1) := by decide +kernel
theorem dX3_readBracket_44 : decode cX3_readBracket 44 = .ok (.ireturn, 1) := by decide +kernel
set_option maxRecDepth 20000 in
theorem ggX3_look_X5_byteAt : GoodIn wsX3_look wsX5_byteAt := goodIn_r _ [8, 9, 10, 23, 24] (by decide +kernel) (by decide +kernel)
set_option maxRecDepth 20000 in
theorem gX3_look_X5_byteAt : GoodIn wsX3_look (wsV RX3 98 RX5 yX5_byteAt wsX5_byteAt) := goodIn_app (goodIn_of _ (by decide +kernel)) ggX3_look_X5_byteAt
set_option maxRecDepth 20000 in
theorem ggX3_look_X3_isBlank : GoodIn wsX3_look wsX3_isBlank := goodIn_r _ [14] (by decide +kernel) (by decide +kernel)
set_option maxRecDepth 20000 in
theorem gX3_look_X3_isBlank : GoodIn wsX3_look (va_wsS RX3 101 yX3_isBlank wsX3_isBlank) := goodIn_app (goodIn_of _ (by decide +kernel)) ggX3_look_X3_isBlank
theorem dX3_look_0 : decode cX3_look 0 = .ok (.aload_n 0, 1) := by decide +kernel
theorem dX3_look_1 : decode cX3_look 1 = .ok (.getfield 22, 3) := by decide +kernel
theorem dX3_look_4 : decode cX3_look 4 = .ok (.aload_n 0, 1) := by decide +kernel
theorem dX3_look_5 : decode cX3_look 5 = .ok (.getfield 19, 3) := by decide +kernel
theorem dX3_look_8 : decode cX3_look 8 = .ok (.if_icmp .ge 33, 3) := by decide +kernel
theorem dX3_look_11 : decode cX3_look 11 = .ok (.aload_n 0, 1) := by decide +kernel
theorem dX3_look_12 : decode cX3_look 12 = .ok (.getfield 34, 3) := by decide +kernel
theorem dX3_look_15 : decode cX3_look 15 = .ok (.aload_n 0, 1) := by decide +kernel
theorem dX3_look_16 : decode cX3_look 16 = .ok (.getfield 22, 3) := by decide +kernel
theorem dX3_look_19 : decode cX3_look 19 = .ok (.invokevirtual 98, 3) := by decide +kernel
theorem dX3_look_22 : decode cX3_look 22 = .ok (.invokestatic 101, 3) := by decide +kernel
theorem dX3_look_25 : decode cX3_look 25 = .ok (.ifCond .eq 16, 3) := by decide +kernel
theorem dX3_look_28 : decode cX3_look 28 = .ok (.aload_n 0, 1) := by decide +kernel
theorem dX3_look_29 : decode cX3_look 29 = .ok (.dup, 1) := by decide +kernel
theorem dX3_look_30 : decode cX3_look 30 = .ok (.getfield 22, 3) := by decide +kernel
theorem dX3_look_33 : decode cX3_look 33 = .ok (.iconst 1, 1) := by decide +kernel
theorem dX3_look_34 : decode cX3_look 34 = .ok (.iadd, 1) := by decide +kernel
theorem dX3_look_35 : decode cX3_look 35 = .ok (.putfield 22, 3) := by decide +kernel
theorem dX3_look_38 : decode cX3_look 38 = .ok (.goto (-38), 3) := by decide +kernel
theorem dX3_look_41 : decode cX3_look 41 = .ok (.aload_n 0, 1) := by decide +kernel
theorem dX3_look_42 : decode cX3_look 42 = .ok (.getfield 22, 3) := by decide +kernel
theorem dX3_look_45 : decode cX3_look 45 = .ok (.aload_n 0, 1) := by decide +kernel
theorem dX3_look_46 : decode cX3_look 46 = .ok (.getfield 19, 3) := by decide +kernel
theorem dX3_look_49 : decode cX3_look 49 = .ok (.if_icmp .ge 17, 3) := by decide +kernel
theorem dX3_look_52 : decode cX3_look 52 = .ok (.aload_n 0, 1) := by decide +kernel
theorem dX3_look_53 : decode cX3_look 53 = .ok (.getfield 34, 3) := by decide +kernel
theorem dX3_look_56 : decode cX3_look 56 = .ok (.aload_n 0, 1) := by decide +kernel
theorem dX3_look_57 : decode cX3_look 57 = .ok (.getfield 22, 3) := by decide +kernel
theorem dX3_look_60 : decode cX3_look 60 = .ok (.invokevirtual 98, 3) := by decide +kernel
theorem dX3_look_63 : decode cX3_look 63 = .ok (.goto 4, 3) := by decide +kernel
theorem dX3_look_66 : decode cX3_look 66 = .ok (.iconst (-1), 1) := by decide +kernel
theorem dX3_look_67 : decode cX3_look 67 = .ok (.ireturn, 1) := by decide +kernel
theorem dX3_fail_0 : decode cX3_fail 0 = .ok (.aload_n 0, 1) := by decide +kernel
theorem dX3_fail_1 : decode cX3_fail 1 = .ok (.getfield 25, 3) := by decide +kernel
theorem dX3_fail_4 : decode cX3_fail 4 = .ok (.iconst (-1), 1) := by decide +kernel
theorem dX3_fail_5 : decode cX3_fail 5 = .ok (.if_icmp .ne 11, 3) := by decide +kernel
theorem dX3_fail_8 : decode cX3_fail 8 = .ok (.aload_n 0, 1) := by decide +kernel
theorem dX3_fail_9 : decode cX3_fail 9 = .ok (.aload_n 0, 1) := by decide +kernel
theorem dX3_fail_10 : decode cX3_fail 10 = .ok (.getfield 22, 3) := by decide +kernel
theorem dX3_fail_13 : decode cX3_fail 13 = .ok (.putfield 25, 3) := by decide +kernel
theorem dX3_fail_16 : decode cX3_fail 16 = .ok (.aload_n 0, 1) := by decide +kernel
theorem dX3_fail_17 : decode cX3_fail 17 = .ok (.aload_n 0, 1) := by decide +kernel
theorem dX3_fail_18 : decode cX3_fail 18 = .ok (.getfield 19, 3) := by decide +kernel
theorem dX3_fail_21 : decode cX3_fail 21 = .ok (.putfield 22, 3) := by decide +kernel
theorem dX3_fail_24 : decode cX3_fail 24 = .ok (.return_, 1) := by decide +kernel
set_option maxRecDepth 20000 in
theorem ggX3_copySign_X5_byteAt : GoodIn wsX3_copySign wsX5_byteAt := goodIn_r _ [9, 10, 11, 20, 21] (by decide +kernel) (by decide +kernel)
set_option maxRecDepth 20000 in
theorem gX3_copySign_X5_byteAt : GoodIn wsX3_copySign (wsV RX3 98 RX5 yX5_byteAt wsX5_byteAt) := goodIn_app (goodIn_of _ (by decide +kernel)) ggX3_copySign_X5_byteAt
theorem dX3_copySign_0 : decode cX3_copySign 0 = .ok (.aload_n 0, 1) := by decide +kernel
theorem dX3_copySign_1 : decode cX3_copySign 1 = .ok (.getfield 15, 3) := by decide +kernel
theorem dX3_copySign_4 : decode cX3_copySign 4 = .ok (.ifCond .lt 46, 3) := by decide +kernel
theorem dX3_copySign_7 : decode cX3_copySign 7 = .ok (.aload_n 0, 1) := by decide +kernel
theorem dX3_copySign_8 : decode cX3_copySign 8 = .ok (.getfield 15, 3) := by decide +kernel
theorem dX3_copySign_11 : decode cX3_copySign 11 = .ok (.aload_n 0, 1) := by decide +kernel
theorem dX3_copySign_12 : decode cX3_copySign 12 = .ok (.getfield 9, 3) := by decide +kernel
theorem dX3_copySign_15 : decode cX3_copySign 15 = .ok (.arraylength, 1) := by decide +kernel
theorem dX3_copySign_16 : decode cX3_copySign 16 = .ok (.if_icmp .ge 34, 3) := by decide +kernel
theorem dX3_copySign_19 : decode cX3_copySign 19 = .ok (.aload_n 0, 1) := by decide +kernel
theorem dX3_copySign_20 : decode cX3_copySign 20 = .ok (.getfield 9, 3) := by decide +kernel
theorem dX3_copySign_23 : decode cX3_copySign 23 = .ok (.aload_n 0, 1) := by decide +kernel
theorem dX3_copySign_24 : decode cX3_copySign 24 = .ok (.getfield 15, 3) := by decide +kernel
theorem dX3_copySign_27 : decode cX3_copySign 27 = .ok (.aload_n 0, 1) := by decide +kernel
theorem dX3_copySign_28 : decode cX3_copySign 28 = .ok (.getfield 34, 3) := by decide +kernel
theorem dX3_copySign_31 : decode cX3_copySign 31 = .ok (.aload_n 0, 1) := by decide +kernel
theorem dX3_copySign_32 : decode cX3_copySign 32 = .ok (.getfield 22, 3) := by decide +kernel
theorem dX3_copySign_35 : decode cX3_copySign 35 = .ok (.invokevirtual 98, 3) := by decide +kernel
theorem dX3_copySign_38 : decode cX3_copySign 38 = .ok (.i2b, 1) := by decide +kernel
theorem dX3_copySign_39 : decode cX3_copySign 39 = .ok (.bastore, 1) := by decide +kernel
theorem dX3_copySign_40 : decode cX3_copySign 40 = .ok (.aload_n 0, 1) := by decide +kernel
theorem dX3_copySign_41 : decode cX3_copySign 41 = .ok (.dup, 1) := by decide +kernel
theorem dX3_copySign_42 : decode cX3_copySign 42 = .ok (.getfield 15, 3) := by decide +kernel
theorem dX3_copySign_45 : decode cX3_copySign 45 = .ok (.iconst 1, 1) := by decide +kernel
theorem dX3_copySign_46 : decode cX3_copySign 46 = .ok (.iadd, 1) := by decide +kernel
theorem dX3_copySign_47 : decode cX3_copySign 47 = .ok (.putfield 15, 3) := by decide +kernel
theorem dX3_copySign_50 : decode cX3_copySign 50 = .ok (.aload_n 0, 1) := by decide +kernel
theorem dX3_copySign_51 : decode cX3_copySign 51 = .ok (.dup, 1) := by decide +kernel
theorem dX3_copySign_52 : decode cX3_copySign 52 = .ok (.getfield 22, 3) := by decide +kernel
theorem dX3_copySign_55 : decode cX3_copySign 55 = .ok (.iconst 1, 1) := by decide +kernel
theorem dX3_copySign_56 : decode cX3_copySign 56 = .ok (.iadd, 1) := by decide +kernel
theorem dX3_copySign_57 : decode cX3_copySign 57 = .ok (.putfield 22, 3) := by decide +kernel
theorem dX3_copySign_60 : decode cX3_copySign 60 = .ok (.return_, 1) := by decide +kernel
theorem dX3_bracketIfLooser_0 : decode cX3_bracketIfLooser 0 = .ok (.aload_n 0, 1) := by decide +kernel
theorem dX3_bracketIfLooser_1 : decode cX3_bracketIfLooser 1 = .ok (.getfield 28, 3) := by decide +kernel
theorem dX3_bracketIfLooser_4 : decode cX3_bracketIfLooser 4 = .ok (.iload_n 2, 1) := by decide +kernel
theorem dX3_bracketIfLooser_5 : decode cX3_bracketIfLooser 5 = .ok (.if_icmp .ge 29, 3) := by decide +kernel
theorem dX3_bracketIfLooser_8 : decode cX3_bracketIfLooser 8 = .ok (.iload_n 1, 1) := by decide +kernel
theorem dX3_bracketIfLooser_9 : decode cX3_bracketIfLooser 9 = .ok (.ifCond .lt 25, 3) := by decide +kernel
theorem dX3_bracketIfLooser_12 : decode cX3_bracketIfLooser 12 = .ok (.iload_n 1, 1) := by decide +kernel
theorem dX3_bracketIfLooser_13 : decode cX3_bracketIfLooser 13 = .ok (.aload_n 0, 1) := by decide +kernel
theorem dX3_bracketIfLooser_14 : decode cX3_bracketIfLooser 14 = .ok (.getfield 15, 3) := by decide +kernel
theorem dX3_bracketIfLooser_17 : decode cX3_bracketIfLooser 17 = .ok (.if_icmp .gt 17, 3) := by decide +kernel
theorem dX3_bracketIfLooser_20 : decode cX3_bracketIfLooser 20 = .ok (.aload_n 0, 1) := by decide +kernel
theorem dX3_bracketIfLooser_21 : decode cX3_bracketIfLooser 21 = .ok (.getfield 15, 3) := by decide +kernel
theorem dX3_bracketIfLooser_24 : decode cX3_bracketIfLooser 24 = .ok (.iconst 2, 1) := by decide +kernel
theorem dX3_bracketIfLooser_25 : decode cX3_bracketIfLooser 25 = .ok (.iadd, 1) := by decide +kernel
theorem dX3_bracketIfLooser_26 : decode cX3_bracketIfLooser 26 = .ok (.aload_n 0, 1) := by decide +kernel
theorem dX3_bracketIfLooser_27 : decode cX3_bracketIfLooser 27 = .ok (.getfield 9, 3) := by decide +kernel
theorem dX3_bracketIfLooser_30 : decode cX3_bracketIfLooser 30 = .ok (.arraylength, 1) := by decide +kernel
theorem dX3_bracketIfLooser_31 : decode cX3_bracketIfLooser 31 = .ok (.if_icmp .le 4, 3) := by decide +kernel
theorem dX3_bracketIfLooser_34 : decode cX3_bracketIfLooser 34 = .ok (.return_, 1) := by decide +kernel
theorem dX3_bracketIfLooser_35 : decode cX3_bracketIfLooser 35 = .ok (.aload_n 0, 1) := by decide +kernel
theorem dX3_bracketIfLooser_36 : decode cX3_bracketIfLooser 36 = .ok (.getfield 9, 3) := by decide +kernel
theorem dX3_bracketIfLooser_39 : decode cX3_bracketIfLooser 39 = .ok (.iload_n 1, 1) := by decide +kernel
theorem dX3_bracketIfLooser_40 : decode cX3_bracketIfLooser 40 = .ok (.aload_n 0, 1) := by decide +kernel
theorem dX3_bracketIfLooser_41 : decode cX3_bracketIfLooser 41 = .ok (.getfield 9, 3) := by decide +kernel
theorem dX3_bracketIfLooser_44 : decode cX3_bracketIfLooser 44 = .ok (.iload_n 1, 1) := by decide +kernel
theorem dX3_bracketIfLooser_45 : decode cX3_bracketIfLooser 45 = .ok (.iconst 1, 1) := by decide +kernel
theorem dX3_bracketIfLooser_46 : decode cX3_bracketIfLooser 46 = .ok (.iadd, 1) := by decide +kernel
theorem dX3_bracketIfLooser_47 : decode cX3_bracketIfLooser 47 = .ok (.aload_n 0, 1) := by decide +kernel
theorem dX3_bracketIfLooser_48 : decode cX3_bracketIfLooser 48 = .ok (.getfield 15, 3) := by decide +kernel
theorem dX3_bracketIfLooser_51 : decode cX3_bracketIfLooser 51 = .ok (.iload_n 1, 1) := by decide +kernel
theorem dX3_bracketIfLooser_52 : decode cX3_bracketIfLooser 52 = .ok (.isub, 1) := by decide +kernel
theorem dX3_bracketIfLooser_53 : decode cX3_bracketIfLooser 53 = .ok (.invokestatic 105, 3) := by decide +kernel
theorem dX3_bracketIfLooser_56 : decode cX3_bracketIfLooser 56 = .ok (.aload_n 0, 1) := by decide +kernel
theorem dX3_bracketIfLooser_57 : decode cX3_bracketIfLooser 57 = .ok (.getfield 9, 3) := by decide +kernel
theorem dX3_bracketIfLooser_60 : decode cX3_bracketIfLooser 60 = .ok (.iload_n 1, 1) := by decide +kernel
theorem dX3_bracketIfLooser_61 : decode cX3_bracketIfLooser 61 = .ok (.bipush 40, 2) := by decide +kernel
theorem dX3_bracketIfLooser_63 : decode cX3_bracketIfLooser 63 = .ok (.bastore, 1) := by decide +kernel
theorem dX3_bracketIfLooser_64 : decode cX3_bracketIfLooser 64 = .ok (.aload_n 0, 1) := by decide +kernel
theorem dX3_bracketIfLooser_65 : decode cX3_bracketIfLooser 65 = .ok (.getfield 9, 3) := by decide +kernel
theorem dX3_bracketIfLooser_68 : decode cX3_bracketIfLooser 68 = .ok (.aload_n 0, 1) := by decide +kernel
theorem dX3_bracketIfLooser_69 : decode cX3_bracketIfLooser 69 = .ok (.getfield 15, 3) := by decide +kernel
theorem dX3_bracketIfLooser_72 : decode cX3_bracketIfLooser 72 = .ok (.iconst 1, 1) := by decide +kernel
theorem dX3_bracketIfLooser_73 : decode cX3_bracketIfLooser 73 = .ok (.iadd, 1) := by decide +kernel
theorem dX3_bracketIfLooser_74 : decode cX3_bracketIfLooser 74 = .ok (.bipush 41, 2) := by decide +kernel
theorem dX3_bracketIfLooser_76 : decode cX3_bracketIfLooser 76 = .ok (.bastore, 1) := by decide +kernel
theorem dX3_bracketIfLooser_77 : decode cX3_bracketIfLooser 77 = .ok (.aload_n 0, 1) := by decide +kernel
theorem dX3_bracketIfLooser_78 : decode cX3_bracketIfLooser 78 = .ok (.dup, 1) := by decide +kernel
theorem dX3_bracketIfLooser_79 : decode cX3_bracketIfLooser 79 = .ok (.getfield 15, 3) := by decide +kernel
theorem dX3_bracketIfLooser_82 : decode cX3_bracketIfLooser 82 = .ok (.iconst 2, 1) := by decide +kernel
theorem dX3_bracketIfLooser_83 : decode cX3_bracketIfLooser 83 = .ok (.iadd, 1) := by decide +kernel
theorem dX3_bracketIfLooser_84 : decode cX3_bracketIfLooser 84 = .ok (.putfield 15, 3) := by decide +kernel
theorem dX3_bracketIfLooser_87 : decode cX3_bracketIfLooser 87 = .ok (.return_, 1) := by decide +kernel
theorem dX3_signOf_0 : decode cX3_signOf 0 = .ok (.iload_n 0, 1) := by decide +kernel
theorem dX3_signOf_1 : decode cX3_signOf 1 = .ok (.ifCond .lt 19, 3) := by decide +kernel
theorem dX3_signOf_4 : decode cX3_signOf 4 = .ok (.iload_n 0, 1) := by decide +kernel
theorem dX3_signOf_5 : decode cX3_signOf 5 = .ok (.getstatic 111, 3) := by decide +kernel
theorem dX3_signOf_8 : decode cX3_signOf 8 = .ok (.arraylength, 1) := by decide +kernel
theorem dX3_signOf_9 : decode cX3_signOf 9 = .ok (.if_icmp .ge 11, 3) := by decide +kernel
theorem dX3_signOf_12 : decode cX3_signOf 12 = .ok (.getstatic 111, 3) := by decide +kernel
theorem dX3_signOf_15 : decode cX3_signOf 15 = .ok (.iload_n 0, 1) := by decide +kernel
theorem dX3_signOf_16 : decode cX3_signOf 16 = .ok (.caload, 1) := by decide +kernel
theorem dX3_signOf_17 : decode cX3_signOf 17 = .ok (.goto 5, 3) := by decide +kernel
theorem dX3_signOf_20 : decode cX3_signOf 20 = .ok (.bipush (-2), 2) := by decide +kernel
theorem dX3_signOf_22 : decode cX3_signOf 22 = .ok (.ireturn, 1) := by decide +kernel
theorem dX3_join_0 : decode cX3_join 0 = .ok (.iload_n 0, 1) := by decide +kernel
theorem dX3_join_1 : decode cX3_join 1 = .ok (.lookupswitch 35 #[(0, 27), (1, 31)], 27) := by decide +kernel
theorem dX3_join_28 : decode cX3_join 28 = .ok (.iload_n 1, 1) := by decide +kernel
theorem dX3_join_29 : decode cX3_join 29 = .ok (.iload_n 2, 1) := by decide +kernel
theorem dX3_join_30 : decode cX3_join 30 = .ok (.ior, 1) := by decide +kernel
theorem dX3_join_31 : decode cX3_join 31 = .ok (.ireturn, 1) := by decide +kernel
theorem dX3_join_32 : decode cX3_join 32 = .ok (.iload_n 1, 1) := by decide +kernel
theorem dX3_join_33 : decode cX3_join 33 = .ok (.iload_n 2, 1) := by decide +kernel
theorem dX3_join_34 : decode cX3_join 34 = .ok (.ixor, 1) := by decide +kernel
theorem dX3_join_35 : decode cX3_join 35 = .ok (.ireturn, 1) := by decide +kernel
theorem dX3_join_36 : decode cX3_join 36 = .ok (.iload_n 1, 1) := by decide +kernel
theorem dX3_join_37 : decode cX3_join 37 = .ok (.iload_n 2, 1) := by decide +kernel
theorem dX3_join_38 : decode cX3_join 38 = .ok (.iand, 1) := by decide +kernel
theorem dX3_join_39 : decode cX3_join 39 = .ok (.ireturn, 1) := by decide +kernel
theorem dX3_isBlank_0 : decode cX3_isBlank 0 = .ok (.iload_n 0, 1) := by decide +kernel
theorem dX3_isBlank_1 : decode cX3_isBlank 1 = .ok (.bipush 32, 2) := by decide +kernel
theorem dX3_isBlank_3 : decode cX3_isBlank 3 = .ok (.if_icmp .eq 9, 3) := by decide +kernel
theorem dX3_isBlank_6 : decode cX3_isBlank 6 = .ok (.iload_n 0, 1) := by decide +kernel
theorem dX3_isBlank_7 : decode cX3_isBlank 7 = .ok (.bipush 10, 2) := by decide +kernel
theorem dX3_isBlank_9 : decode cX3_isBlank 9 = .ok (.if_icmp .ne 7, 3) := by decide +kernel
theorem dX3_isBlank_12 : decode cX3_isBlank 12 = .ok (.iconst 1, 1) := by decide +kernel
theorem dX3_isBlank_13 : decode cX3_isBlank 13 = .ok (.goto 4, 3) := by decide +kernel
theorem dX3_isBlank_16 : decode cX3_isBlank 16 = .ok (.iconst 0, 1) := by decide +kernel
theorem dX3_isBlank_17 : decode cX3_isBlank 17 = .ok (.ireturn, 1) := by decide +kernel
theorem dX4_init_0 : decode cX4_init 0 = .ok (.aload_n 0, 1) := by decide +kernel
theorem dX4_init_1 : decode cX4_init 1 = .ok (.invokespecial 3, 3) := by decide +kernel
theorem dX4_init_4 : decode cX4_init 4 = .ok (.aload_n 0, 1) := by decide +kernel
theorem dX4_init_5 : decode cX4_init 5 = .ok (.bipush 32, 2) := by decide +kernel
theorem dX4_init_7 : decode cX4_init 7 = .ok (.newarray .int, 2) := by decide +kernel
theorem dX4_init_9 : decode cX4_init 9 = .ok (.putfield 9, 3) := by decide +kernel
theorem dX4_init_12 : decode cX4_init 12 = .ok (.aload_n 0, 1) := by decide +kernel
theorem dX4_init_13 : decode cX4_init 13 = .ok (.bipush 32, 2) := by decide +kernel
theorem dX4_init_15 : decode cX4_init 15 = .ok (.newarray .int, 2) := by decide +kernel
theorem dX4_init_17 : decode cX4_init 17 = .ok (.putfield 15, 3) := by decide +kernel
theorem dX4_init_20 : decode cX4_init 20 = .ok (.aload_n 0, 1) := by decide +kernel
theorem dX4_init_21 : decode cX4_init 21 = .ok (.bipush 10, 2) := by decide +kernel
