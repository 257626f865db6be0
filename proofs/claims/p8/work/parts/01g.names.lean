set_option maxRecDepth 20000 in
theorem gX7_pictureOf_X7_path : GoodIn wsX7_pictureOf (wsV RX7 212 RX7 yX7_path wsX7_path) := goodIn_app (goodIn_of _ (by decide +kernel)) ggX7_pictureOf_X7_path
theorem dX7_pictureOf_0 : decode cX7_pictureOf 0 = .ok (.aload_n 0, 1) := by decide +kernel
theorem dX7_pictureOf_1 : decode cX7_pictureOf 1 = .ok (.getfield 36, 3) := by decide +kernel
theorem dX7_pictureOf_4 : decode cX7_pictureOf 4 = .ok (.iconst (-1), 1) := by decide +kernel
theorem dX7_pictureOf_5 : decode cX7_pictureOf 5 = .ok (.if_icmp .eq 22, 3) := by decide +kernel
theorem dX7_pictureOf_8 : decode cX7_pictureOf 8 = .ok (.iload_n 1, 1) := by decide +kernel
theorem dX7_pictureOf_9 : decode cX7_pictureOf 9 = .ok (.iconst 0, 1) := by decide +kernel
theorem dX7_pictureOf_10 : decode cX7_pictureOf 10 = .ok (.aload_n 0, 1) := by decide +kernel
theorem dX7_pictureOf_11 : decode cX7_pictureOf 11 = .ok (.getfield 33, 3) := by decide +kernel
theorem dX7_pictureOf_14 : decode cX7_pictureOf 14 = .ok (.aload_n 0, 1) := by decide +kernel
theorem dX7_pictureOf_15 : decode cX7_pictureOf 15 = .ok (.getfield 36, 3) := by decide +kernel
theorem dX7_pictureOf_18 : decode cX7_pictureOf 18 = .ok (.iaload, 1) := by decide +kernel
theorem dX7_pictureOf_19 : decode cX7_pictureOf 19 = .ok (.iconst 1, 1) := by decide +kernel
theorem dX7_pictureOf_20 : decode cX7_pictureOf 20 = .ok (.isub, 1) := by decide +kernel
theorem dX7_pictureOf_21 : decode cX7_pictureOf 21 = .ok (.invokestatic 67, 3) := by decide +kernel
theorem dX7_pictureOf_24 : decode cX7_pictureOf 24 = .ok (.ifCond .ne 5, 3) := by decide +kernel
theorem dX7_pictureOf_27 : decode cX7_pictureOf 27 = .ok (.iconst (-1), 1) := by decide +kernel
theorem dX7_pictureOf_28 : decode cX7_pictureOf 28 = .ok (.ireturn, 1) := by decide +kernel
theorem dX7_pictureOf_29 : decode cX7_pictureOf 29 = .ok (.iload_n 2, 1) := by decide +kernel
theorem dX7_pictureOf_30 : decode cX7_pictureOf 30 = .ok (.ifCond .ne 11, 3) := by decide +kernel
theorem dX7_pictureOf_33 : decode cX7_pictureOf 33 = .ok (.aload_n 0, 1) := by decide +kernel
theorem dX7_pictureOf_34 : decode cX7_pictureOf 34 = .ok (.iload_n 1, 1) := by decide +kernel
theorem dX7_pictureOf_35 : decode cX7_pictureOf 35 = .ok (.invokevirtual 191, 3) := by decide +kernel
theorem dX7_pictureOf_38 : decode cX7_pictureOf 38 = .ok (.goto 45, 3) := by decide +kernel
theorem dX7_pictureOf_41 : decode cX7_pictureOf 41 = .ok (.iload_n 2, 1) := by decide +kernel
theorem dX7_pictureOf_42 : decode cX7_pictureOf 42 = .ok (.iconst 1, 1) := by decide +kernel
theorem dX7_pictureOf_43 : decode cX7_pictureOf 43 = .ok (.if_icmp .ne 26, 3) := by decide +kernel
theorem dX7_pictureOf_46 : decode cX7_pictureOf 46 = .ok (.aload_n 0, 1) := by decide +kernel
theorem dX7_pictureOf_47 : decode cX7_pictureOf 47 = .ok (.iload_n 1, 1) := by decide +kernel
theorem dX7_pictureOf_48 : decode cX7_pictureOf 48 = .ok (.invokevirtual 191, 3) := by decide +kernel
theorem dX7_pictureOf_51 : decode cX7_pictureOf 51 = .ok (.aload_n 0, 1) := by decide +kernel
theorem dX7_pictureOf_52 : decode cX7_pictureOf 52 = .ok (.getfield 178, 3) := by decide +kernel
theorem dX7_pictureOf_55 : decode cX7_pictureOf 55 = .ok (.if_icmp .gt 7, 3) := by decide +kernel
theorem dX7_pictureOf_58 : decode cX7_pictureOf 58 = .ok (.iconst 1, 1) := by decide +kernel
theorem dX7_pictureOf_59 : decode cX7_pictureOf 59 = .ok (.goto 4, 3) := by decide +kernel
theorem dX7_pictureOf_62 : decode cX7_pictureOf 62 = .ok (.iconst 0, 1) := by decide +kernel
theorem dX7_pictureOf_63 : decode cX7_pictureOf 63 = .ok (.invokestatic 181, 3) := by decide +kernel
theorem dX7_pictureOf_66 : decode cX7_pictureOf 66 = .ok (.goto 17, 3) := by decide +kernel
theorem dX7_pictureOf_69 : decode cX7_pictureOf 69 = .ok (.iload_n 2, 1) := by decide +kernel
theorem dX7_pictureOf_70 : decode cX7_pictureOf 70 = .ok (.iconst 2, 1) := by decide +kernel
theorem dX7_pictureOf_71 : decode cX7_pictureOf 71 = .ok (.if_icmp .ne 11, 3) := by decide +kernel
theorem dX7_pictureOf_74 : decode cX7_pictureOf 74 = .ok (.aload_n 0, 1) := by decide +kernel
theorem dX7_pictureOf_75 : decode cX7_pictureOf 75 = .ok (.iload_n 1, 1) := by decide +kernel
theorem dX7_pictureOf_76 : decode cX7_pictureOf 76 = .ok (.invokevirtual 212, 3) := by decide +kernel
theorem dX7_pictureOf_79 : decode cX7_pictureOf 79 = .ok (.goto 4, 3) := by decide +kernel
theorem dX7_pictureOf_82 : decode cX7_pictureOf 82 = .ok (.iconst (-1), 1) := by decide +kernel
theorem dX7_pictureOf_83 : decode cX7_pictureOf 83 = .ok (.ireturn, 1) := by decide +kernel
set_option maxRecDepth 20000 in
theorem ggX7_longest_X7_path : GoodIn wsX7_longest wsX7_path := goodIn_r _ [11, 2, 1, 12, 13, 14, 10, 15, 3, 4, 5, 6, 16, 17, 18, 19, 20, 21, 22, 23, 24, 25, 26, 27, 28, 29, 30, 31, 32, 33, 34, 35, 36, 37, 38, 39, 40, 41, 42, 43, 44, 45, 46, 47, 48, 49, 50, 51, 52, 53, 54, 55, 56, 57, 58] (by decide +kernel) (by decide +kernel)
set_option maxRecDepth 20000 in
theorem gX7_longest_X7_path : GoodIn wsX7_longest (wsV RX7 212 RX7 yX7_path wsX7_path) := goodIn_app (goodIn_of _ (by decide +kernel)) ggX7_longest_X7_path
theorem dX7_longest_0 : decode cX7_longest 0 = .ok (.iconst (-1), 1) := by decide +kernel
theorem dX7_longest_1 : decode cX7_longest 1 = .ok (.istore_n 1, 1) := by decide +kernel
theorem dX7_longest_2 : decode cX7_longest 2 = .ok (.iconst 0, 1) := by decide +kernel
theorem dX7_longest_3 : decode cX7_longest 3 = .ok (.istore_n 2, 1) := by decide +kernel
theorem dX7_longest_4 : decode cX7_longest 4 = .ok (.aload_n 0, 1) := by decide +kernel
theorem dX7_longest_5 : decode cX7_longest 5 = .ok (.getfield 36, 3) := by decide +kernel
theorem dX7_longest_8 : decode cX7_longest 8 = .ok (.iconst (-1), 1) := by decide +kernel
theorem dX7_longest_9 : decode cX7_longest 9 = .ok (.if_icmp .eq 32, 3) := by decide +kernel
theorem dX7_longest_12 : decode cX7_longest 12 = .ok (.iload_n 2, 1) := by decide +kernel
theorem dX7_longest_13 : decode cX7_longest 13 = .ok (.aload_n 0, 1) := by decide +kernel
theorem dX7_longest_14 : decode cX7_longest 14 = .ok (.getfield 33, 3) := by decide +kernel
theorem dX7_longest_17 : decode cX7_longest 17 = .ok (.aload_n 0, 1) := by decide +kernel
theorem dX7_longest_18 : decode cX7_longest 18 = .ok (.getfield 36, 3) := by decide +kernel
theorem dX7_longest_21 : decode cX7_longest 21 = .ok (.iaload, 1) := by decide +kernel
theorem dX7_longest_22 : decode cX7_longest 22 = .ok (.if_icmp .ge 19, 3) := by decide +kernel
theorem dX7_longest_25 : decode cX7_longest 25 = .ok (.iload_n 1, 1) := by decide +kernel
theorem dX7_longest_26 : decode cX7_longest 26 = .ok (.aload_n 0, 1) := by decide +kernel
theorem dX7_longest_27 : decode cX7_longest 27 = .ok (.iload_n 2, 1) := by decide +kernel
theorem dX7_longest_28 : decode cX7_longest 28 = .ok (.invokevirtual 212, 3) := by decide +kernel
theorem dX7_longest_31 : decode cX7_longest 31 = .ok (.invokestatic 200, 3) := by decide +kernel
theorem dX7_longest_34 : decode cX7_longest 34 = .ok (.istore_n 1, 1) := by decide +kernel
theorem dX7_longest_35 : decode cX7_longest 35 = .ok (.iinc 2 1, 3) := by decide +kernel
theorem dX7_longest_38 : decode cX7_longest 38 = .ok (.goto (-34), 3) := by decide +kernel
theorem dX7_longest_41 : decode cX7_longest 41 = .ok (.iload_n 1, 1) := by decide +kernel
theorem dX7_longest_42 : decode cX7_longest 42 = .ok (.ireturn, 1) := by decide +kernel
set_option maxRecDepth 20000 in
theorem ggX7_say_X7_isText : GoodIn wsX7_say wsX7_isText := goodIn_r _ [7, 8, 9, 10, 11, 12, 13, 14, 6, 15, 77, 78, 79, 80, 81, 82, 83, 84, 85, 86, 87, 88, 89, 90, 91, 92, 93, 94, 95, 96, 97, 98, 99, 100, 101, 102, 103, 104] (by decide +kernel) (by decide +kernel)
set_option maxRecDepth 20000 in
theorem gX7_say_X7_isText : GoodIn wsX7_say (wsV RX7 138 RX7 yX7_isText wsX7_isText) := goodIn_app (goodIn_of _ (by decide +kernel)) ggX7_say_X7_isText
set_option maxRecDepth 20000 in
theorem ggX7_say_X7_reads : GoodIn wsX7_say wsX7_reads := goodIn_r _ [19, 20, 21, 22, 23, 24, 8, 25, 26, 27, 28, 29, 30, 6, 31, 32, 33, 34, 35, 36, 37, 38, 39, 40, 41, 42, 43, 44, 45, 46, 47, 48, 49, 50, 51, 52, 53, 54, 55, 56, 13, 14, 15, 57, 58, 59, 60, 61, 62, 63, 64, 65, 66, 67, 68, 69, 70, 71, 72, 77, 78, 79, 80, 81, 82, 83, 84, 85, 86, 87, 88, 89, 90, 91, 92, 93, 94, 95, 96, 97, 98, 99, 100, 101, 102, 103, 104] (by decide +kernel) (by decide +kernel)
set_option maxRecDepth 20000 in
theorem gX7_say_X7_reads : GoodIn wsX7_say (wsV RX7 145 RX7 yX7_reads wsX7_reads) := goodIn_app (goodIn_of _ (by decide +kernel)) ggX7_say_X7_reads
set_option maxRecDepth 20000 in
theorem ggX7_say_X7_keeps : GoodIn wsX7_say wsX7_keeps := goodIn_r _ [76, 26, 27, 72, 77, 78, 79, 80, 81, 82, 83, 84, 85, 86, 87, 88, 89, 90, 91, 92, 93, 94, 95, 96, 97, 98, 99, 100, 101, 102, 103, 104] (by decide +kernel) (by decide +kernel)
set_option maxRecDepth 20000 in
theorem gX7_say_X7_keeps : GoodIn wsX7_say (wsV RX7 148 RX7 yX7_keeps wsX7_keeps) := goodIn_app (goodIn_of _ (by decide +kernel)) ggX7_say_X7_keeps
theorem dX7_say_0 : decode cX7_say 0 = .ok (.aload_n 0, 1) := by decide +kernel
theorem dX7_say_1 : decode cX7_say 1 = .ok (.getfield 36, 3) := by decide +kernel
theorem dX7_say_4 : decode cX7_say 4 = .ok (.iconst (-1), 1) := by decide +kernel
theorem dX7_say_5 : decode cX7_say 5 = .ok (.if_icmp .eq 20, 3) := by decide +kernel
theorem dX7_say_8 : decode cX7_say 8 = .ok (.aload_n 0, 1) := by decide +kernel
theorem dX7_say_9 : decode cX7_say 9 = .ok (.iload_n 1, 1) := by decide +kernel
theorem dX7_say_10 : decode cX7_say 10 = .ok (.invokevirtual 138, 3) := by decide +kernel
theorem dX7_say_13 : decode cX7_say 13 = .ok (.ifCond .eq 12, 3) := by decide +kernel
theorem dX7_say_16 : decode cX7_say 16 = .ok (.aload_n 0, 1) := by decide +kernel
theorem dX7_say_17 : decode cX7_say 17 = .ok (.getfield 175, 3) := by decide +kernel
theorem dX7_say_20 : decode cX7_say 20 = .ok (.bipush 10, 2) := by decide +kernel
theorem dX7_say_22 : decode cX7_say 22 = .ok (.if_icmp .ne 6, 3) := by decide +kernel
theorem dX7_say_25 : decode cX7_say 25 = .ok (.bipush (-2), 2) := by decide +kernel
theorem dX7_say_27 : decode cX7_say 27 = .ok (.ireturn, 1) := by decide +kernel
theorem dX7_say_28 : decode cX7_say 28 = .ok (.aload_n 0, 1) := by decide +kernel
theorem dX7_say_29 : decode cX7_say 29 = .ok (.iload_n 1, 1) := by decide +kernel
theorem dX7_say_30 : decode cX7_say 30 = .ok (.invokevirtual 145, 3) := by decide +kernel
theorem dX7_say_33 : decode cX7_say 33 = .ok (.ifCond .ne 5, 3) := by decide +kernel
theorem dX7_say_36 : decode cX7_say 36 = .ok (.iconst (-1), 1) := by decide +kernel
theorem dX7_say_37 : decode cX7_say 37 = .ok (.ireturn, 1) := by decide +kernel
theorem dX7_say_38 : decode cX7_say 38 = .ok (.aload_n 0, 1) := by decide +kernel
theorem dX7_say_39 : decode cX7_say 39 = .ok (.bipush 78, 2) := by decide +kernel
theorem dX7_say_41 : decode cX7_say 41 = .ok (.aload_n 0, 1) := by decide +kernel
theorem dX7_say_42 : decode cX7_say 42 = .ok (.getfield 175, 3) := by decide +kernel
theorem dX7_say_45 : decode cX7_say 45 = .ok (.iadd, 1) := by decide +kernel
theorem dX7_say_46 : decode cX7_say 46 = .ok (.invokevirtual 148, 3) := by decide +kernel
theorem dX7_say_49 : decode cX7_say 49 = .ok (.aload_n 0, 1) := by decide +kernel
theorem dX7_say_50 : decode cX7_say 50 = .ok (.dup, 1) := by decide +kernel
theorem dX7_say_51 : decode cX7_say 51 = .ok (.getfield 175, 3) := by decide +kernel
theorem dX7_say_54 : decode cX7_say 54 = .ok (.iconst 1, 1) := by decide +kernel
theorem dX7_say_55 : decode cX7_say 55 = .ok (.iadd, 1) := by decide +kernel
theorem dX7_say_56 : decode cX7_say 56 = .ok (.putfield 175, 3) := by decide +kernel
theorem dX7_say_59 : decode cX7_say 59 = .ok (.aload_n 0, 1) := by decide +kernel
theorem dX7_say_60 : decode cX7_say 60 = .ok (.getfield 175, 3) := by decide +kernel
theorem dX7_say_63 : decode cX7_say 63 = .ok (.iconst 1, 1) := by decide +kernel
theorem dX7_say_64 : decode cX7_say 64 = .ok (.isub, 1) := by decide +kernel
theorem dX7_say_65 : decode cX7_say 65 = .ok (.ireturn, 1) := by decide +kernel
set_option maxRecDepth 20000 in
theorem ggX7_judge_X7_isText : GoodIn wsX7_judge wsX7_isText := goodIn_r _ [6, 7, 8, 9, 10, 11, 12, 13, 5, 14, 79, 80, 81, 82, 83, 84, 85, 86, 87, 88, 89, 90, 91, 92, 93, 94, 95, 96, 97, 98, 99, 100, 101, 102, 103, 104, 105, 106] (by decide +kernel) (by decide +kernel)
set_option maxRecDepth 20000 in
theorem gX7_judge_X7_isText : GoodIn wsX7_judge (wsV RX7 138 RX7 yX7_isText wsX7_isText) := goodIn_app (goodIn_of _ (by decide +kernel)) ggX7_judge_X7_isText
set_option maxRecDepth 20000 in
theorem ggX7_judge_X7_reads : GoodIn wsX7_judge wsX7_reads := goodIn_r _ [18, 19, 20, 21, 22, 23, 7, 24, 25, 26, 27, 28, 29, 5, 30, 31, 32, 33, 34, 35, 36, 37, 38, 39, 40, 41, 42, 43, 44, 45, 46, 47, 48, 49, 50, 51, 52, 53, 54, 55, 12, 13, 14, 56, 57, 58, 59, 60, 61, 62, 63, 64, 65, 66, 67, 68, 69, 70, 71, 79, 80, 81, 82, 83, 84, 85, 86, 87, 88, 89, 90, 91, 92, 93, 94, 95, 96, 97, 98, 99, 100, 101, 102, 103, 104, 105, 106] (by decide +kernel) (by decide +kernel)
set_option maxRecDepth 20000 in
theorem gX7_judge_X7_reads : GoodIn wsX7_judge (wsV RX7 145 RX7 yX7_reads wsX7_reads) := goodIn_app (goodIn_of _ (by decide +kernel)) ggX7_judge_X7_reads
set_option maxRecDepth 20000 in
theorem ggX7_judge_X7_tellsOf : GoodIn wsX7_judge wsX7_tellsOf := goodIn_r _ [75, 25, 79, 80, 81, 82, 83, 84, 85, 86, 87, 88, 89, 90, 91, 92, 93, 94, 95, 96, 97, 98, 99, 100, 101, 102, 103, 104, 105, 106] (by decide +kernel) (by decide +kernel)
set_option maxRecDepth 20000 in
theorem gX7_judge_X7_tellsOf : GoodIn wsX7_judge (wsV RX7 160 RX7 yX7_tellsOf wsX7_tellsOf) := goodIn_app (goodIn_of _ (by decide +kernel)) ggX7_judge_X7_tellsOf
set_option maxRecDepth 20000 in
theorem ggX7_judge_X7_one : GoodIn wsX7_judge wsX7_one := goodIn_r _ [78] (by decide +kernel) (by decide +kernel)
set_option maxRecDepth 20000 in
theorem gX7_judge_X7_one : GoodIn wsX7_judge (va_wsS RX7 181 yX7_one wsX7_one) := goodIn_app (goodIn_of _ (by decide +kernel)) ggX7_judge_X7_one
theorem dX7_judge_0 : decode cX7_judge 0 = .ok (.aload_n 0, 1) := by decide +kernel
theorem dX7_judge_1 : decode cX7_judge 1 = .ok (.getfield 36, 3) := by decide +kernel
theorem dX7_judge_4 : decode cX7_judge 4 = .ok (.iconst (-1), 1) := by decide +kernel
theorem dX7_judge_5 : decode cX7_judge 5 = .ok (.if_icmp .eq 11, 3) := by decide +kernel
theorem dX7_judge_8 : decode cX7_judge 8 = .ok (.aload_n 0, 1) := by decide +kernel
theorem dX7_judge_9 : decode cX7_judge 9 = .ok (.iload_n 1, 1) := by decide +kernel
theorem dX7_judge_10 : decode cX7_judge 10 = .ok (.invokevirtual 138, 3) := by decide +kernel
theorem dX7_judge_13 : decode cX7_judge 13 = .ok (.ifCond .ne 6, 3) := by decide +kernel
theorem dX7_judge_16 : decode cX7_judge 16 = .ok (.bipush (-2), 2) := by decide +kernel
theorem dX7_judge_18 : decode cX7_judge 18 = .ok (.ireturn, 1) := by decide +kernel
theorem dX7_judge_19 : decode cX7_judge 19 = .ok (.aload_n 0, 1) := by decide +kernel
theorem dX7_judge_20 : decode cX7_judge 20 = .ok (.iload_n 1, 1) := by decide +kernel
theorem dX7_judge_21 : decode cX7_judge 21 = .ok (.invokevirtual 145, 3) := by decide +kernel
theorem dX7_judge_24 : decode cX7_judge 24 = .ok (.ifCond .ne 5, 3) := by decide +kernel
theorem dX7_judge_27 : decode cX7_judge 27 = .ok (.iconst (-1), 1) := by decide +kernel
theorem dX7_judge_28 : decode cX7_judge 28 = .ok (.ireturn, 1) := by decide +kernel
theorem dX7_judge_29 : decode cX7_judge 29 = .ok (.iconst 0, 1) := by decide +kernel
theorem dX7_judge_30 : decode cX7_judge 30 = .ok (.istore_n 2, 1) := by decide +kernel
theorem dX7_judge_31 : decode cX7_judge 31 = .ok (.iconst 0, 1) := by decide +kernel
theorem dX7_judge_32 : decode cX7_judge 32 = .ok (.istore_n 3, 1) := by decide +kernel
theorem dX7_judge_33 : decode cX7_judge 33 = .ok (.iload_n 3, 1) := by decide +kernel
theorem dX7_judge_34 : decode cX7_judge 34 = .ok (.bipush 32, 2) := by decide +kernel
theorem dX7_judge_36 : decode cX7_judge 36 = .ok (.if_icmp .ge 39, 3) := by decide +kernel
theorem dX7_judge_39 : decode cX7_judge 39 = .ok (.iload_n 2, 1) := by decide +kernel
theorem dX7_judge_40 : decode cX7_judge 40 = .ok (.aload_n 0, 1) := by decide +kernel
theorem dX7_judge_41 : decode cX7_judge 41 = .ok (.bipush 88, 2) := by decide +kernel
theorem dX7_judge_43 : decode cX7_judge 43 = .ok (.iload_n 3, 1) := by decide +kernel
theorem dX7_judge_44 : decode cX7_judge 44 = .ok (.invokevirtual 160, 3) := by decide +kernel
theorem dX7_judge_47 : decode cX7_judge 47 = .ok (.aload_n 0, 1) := by decide +kernel
theorem dX7_judge_48 : decode cX7_judge 48 = .ok (.aload_n 0, 1) := by decide +kernel
theorem dX7_judge_49 : decode cX7_judge 49 = .ok (.getfield 36, 3) := by decide +kernel
theorem dX7_judge_52 : decode cX7_judge 52 = .ok (.iload_n 3, 1) := by decide +kernel
theorem dX7_judge_53 : decode cX7_judge 53 = .ok (.invokevirtual 160, 3) := by decide +kernel
theorem dX7_judge_56 : decode cX7_judge 56 = .ok (.if_icmp .eq 7, 3) := by decide +kernel
theorem dX7_judge_59 : decode cX7_judge 59 = .ok (.iconst 1, 1) := by decide +kernel
theorem dX7_judge_60 : decode cX7_judge 60 = .ok (.goto 4, 3) := by decide +kernel
theorem dX7_judge_63 : decode cX7_judge 63 = .ok (.iconst 0, 1) := by decide +kernel
theorem dX7_judge_64 : decode cX7_judge 64 = .ok (.invokestatic 181, 3) := by decide +kernel
theorem dX7_judge_67 : decode cX7_judge 67 = .ok (.iadd, 1) := by decide +kernel
theorem dX7_judge_68 : decode cX7_judge 68 = .ok (.istore_n 2, 1) := by decide +kernel
theorem dX7_judge_69 : decode cX7_judge 69 = .ok (.iinc 3 1, 3) := by decide +kernel
theorem dX7_judge_72 : decode cX7_judge 72 = .ok (.goto (-39), 3) := by decide +kernel
theorem dX7_judge_75 : decode cX7_judge 75 = .ok (.iload_n 2, 1) := by decide +kernel
theorem dX7_judge_76 : decode cX7_judge 76 = .ok (.ireturn, 1) := by decide +kernel
theorem dX7_latest_0 : decode cX7_latest 0 = .ok (.iconst (-1), 1) := by decide +kernel
theorem dX7_latest_1 : decode cX7_latest 1 = .ok (.istore_n 2, 1) := by decide +kernel
theorem dX7_latest_2 : decode cX7_latest 2 = .ok (.iconst 0, 1) := by decide +kernel
theorem dX7_latest_3 : decode cX7_latest 3 = .ok (.istore_n 3, 1) := by decide +kernel
theorem dX7_latest_4 : decode cX7_latest 4 = .ok (.iload_n 3, 1) := by decide +kernel
theorem dX7_latest_5 : decode cX7_latest 5 = .ok (.aload_n 0, 1) := by decide +kernel
theorem dX7_latest_6 : decode cX7_latest 6 = .ok (.getfield 169, 3) := by decide +kernel
theorem dX7_latest_9 : decode cX7_latest 9 = .ok (.if_icmp .ge 26, 3) := by decide +kernel
theorem dX7_latest_12 : decode cX7_latest 12 = .ok (.aload_n 0, 1) := by decide +kernel
theorem dX7_latest_13 : decode cX7_latest 13 = .ok (.getfield 46, 3) := by decide +kernel
theorem dX7_latest_16 : decode cX7_latest 16 = .ok (.iload_n 3, 1) := by decide +kernel
theorem dX7_latest_17 : decode cX7_latest 17 = .ok (.iaload, 1) := by decide +kernel
theorem dX7_latest_18 : decode cX7_latest 18 = .ok (.iload_n 1, 1) := by decide +kernel
theorem dX7_latest_19 : decode cX7_latest 19 = .ok (.if_icmp .ne 10, 3) := by decide +kernel
theorem dX7_latest_22 : decode cX7_latest 22 = .ok (.aload_n 0, 1) := by decide +kernel
theorem dX7_latest_23 : decode cX7_latest 23 = .ok (.getfield 49, 3) := by decide +kernel
theorem dX7_latest_26 : decode cX7_latest 26 = .ok (.iload_n 3, 1) := by decide +kernel
theorem dX7_latest_27 : decode cX7_latest 27 = .ok (.iaload, 1) := by decide +kernel
theorem dX7_latest_28 : decode cX7_latest 28 = .ok (.istore_n 2, 1) := by decide +kernel
theorem dX7_latest_29 : decode cX7_latest 29 = .ok (.iinc 3 1, 3) := by decide +kernel
theorem dX7_latest_32 : decode cX7_latest 32 = .ok (.goto (-28), 3) := by decide +kernel
theorem dX7_latest_35 : decode cX7_latest 35 = .ok (.iload_n 2, 1) := by decide +kernel
theorem dX7_latest_36 : decode cX7_latest 36 = .ok (.ireturn, 1) := by decide +kernel
set_option maxRecDepth 20000 in
theorem ggX7_clash_X7_isIn : GoodIn wsX7_clash wsX7_isIn := goodIn_r _ [6] (by decide +kernel) (by decide +kernel)
set_option maxRecDepth 20000 in
theorem gX7_clash_X7_isIn : GoodIn wsX7_clash (va_wsS RX7 67 yX7_isIn wsX7_isIn) := goodIn_app (goodIn_of _ (by decide +kernel)) ggX7_clash_X7_isIn
set_option maxRecDepth 20000 in
theorem ggX7_clash_X7_tellsOf : GoodIn wsX7_clash wsX7_tellsOf := goodIn_r _ [10, 11, 19, 20, 21, 22, 23, 24, 25, 26, 27, 28, 29, 30, 31, 32, 33, 34, 35, 36, 37, 38, 39, 40, 41, 42, 43, 44, 45, 46] (by decide +kernel) (by decide +kernel)
set_option maxRecDepth 20000 in
theorem gX7_clash_X7_tellsOf : GoodIn wsX7_clash (wsV RX7 160 RX7 yX7_tellsOf wsX7_tellsOf) := goodIn_app (goodIn_of _ (by decide +kernel)) ggX7_clash_X7_tellsOf
set_option maxRecDepth 20000 in
theorem ggX7_clash_X7_latest : GoodIn wsX7_clash wsX7_latest := goodIn_r _ [15, 16, 17, 18, 19, 20, 21, 22, 23, 24, 25, 26, 27, 28, 29, 30, 31, 32, 33, 34, 35, 36, 37, 38, 39, 40, 41, 42, 43, 44, 45, 46] (by decide +kernel) (by decide +kernel)
set_option maxRecDepth 20000 in
theorem gX7_clash_X7_latest : GoodIn wsX7_clash (wsV RX7 215 RX7 yX7_latest wsX7_latest) := goodIn_app (goodIn_of _ (by decide +kernel)) ggX7_clash_X7_latest
theorem dX7_clash_0 : decode cX7_clash 0 = .ok (.aload_n 0, 1) := by decide +kernel
theorem dX7_clash_1 : decode cX7_clash 1 = .ok (.getfield 36, 3) := by decide +kernel
theorem dX7_clash_4 : decode cX7_clash 4 = .ok (.iconst (-1), 1) := by decide +kernel
theorem dX7_clash_5 : decode cX7_clash 5 = .ok (.if_icmp .eq 12, 3) := by decide +kernel
theorem dX7_clash_8 : decode cX7_clash 8 = .ok (.iload_n 1, 1) := by decide +kernel
theorem dX7_clash_9 : decode cX7_clash 9 = .ok (.iconst 0, 1) := by decide +kernel
theorem dX7_clash_10 : decode cX7_clash 10 = .ok (.iconst 2, 1) := by decide +kernel
theorem dX7_clash_11 : decode cX7_clash 11 = .ok (.invokestatic 67, 3) := by decide +kernel
theorem dX7_clash_14 : decode cX7_clash 14 = .ok (.ifCond .ne 5, 3) := by decide +kernel
theorem dX7_clash_17 : decode cX7_clash 17 = .ok (.iconst (-1), 1) := by decide +kernel
theorem dX7_clash_18 : decode cX7_clash 18 = .ok (.ireturn, 1) := by decide +kernel
theorem dX7_clash_19 : decode cX7_clash 19 = .ok (.iconst 0, 1) := by decide +kernel
theorem dX7_clash_20 : decode cX7_clash 20 = .ok (.istore_n 2, 1) := by decide +kernel
theorem dX7_clash_21 : decode cX7_clash 21 = .ok (.iload_n 2, 1) := by decide +kernel
theorem dX7_clash_22 : decode cX7_clash 22 = .ok (.bipush 32, 2) := by decide +kernel
theorem dX7_clash_24 : decode cX7_clash 24 = .ok (.if_icmp .ge 87, 3) := by decide +kernel
theorem dX7_clash_27 : decode cX7_clash 27 = .ok (.iconst 0, 1) := by decide +kernel
theorem dX7_clash_28 : decode cX7_clash 28 = .ok (.istore_n 3, 1) := by decide +kernel
theorem dX7_clash_29 : decode cX7_clash 29 = .ok (.iload_n 3, 1) := by decide +kernel
theorem dX7_clash_30 : decode cX7_clash 30 = .ok (.aload_n 0, 1) := by decide +kernel
theorem dX7_clash_31 : decode cX7_clash 31 = .ok (.getfield 175, 3) := by decide +kernel
theorem dX7_clash_34 : decode cX7_clash 34 = .ok (.if_icmp .ge 71, 3) := by decide +kernel
theorem dX7_clash_37 : decode cX7_clash 37 = .ok (.iload_n 3, 1) := by decide +kernel
theorem dX7_clash_38 : decode cX7_clash 38 = .ok (.iconst 1, 1) := by decide +kernel
theorem dX7_clash_39 : decode cX7_clash 39 = .ok (.iadd, 1) := by decide +kernel
theorem dX7_clash_40 : decode cX7_clash 40 = .ok (.istore 4, 2) := by decide +kernel
theorem dX7_clash_42 : decode cX7_clash 42 = .ok (.iload 4, 2) := by decide +kernel
theorem dX7_clash_44 : decode cX7_clash 44 = .ok (.aload_n 0, 1) := by decide +kernel
theorem dX7_clash_45 : decode cX7_clash 45 = .ok (.getfield 175, 3) := by decide +kernel
theorem dX7_clash_48 : decode cX7_clash 48 = .ok (.if_icmp .ge 51, 3) := by decide +kernel
theorem dX7_clash_51 : decode cX7_clash 51 = .ok (.aload_n 0, 1) := by decide +kernel
theorem dX7_clash_52 : decode cX7_clash 52 = .ok (.bipush 78, 2) := by decide +kernel
theorem dX7_clash_54 : decode cX7_clash 54 = .ok (.iload_n 3, 1) := by decide +kernel
theorem dX7_clash_55 : decode cX7_clash 55 = .ok (.iadd, 1) := by decide +kernel
theorem dX7_clash_56 : decode cX7_clash 56 = .ok (.iload_n 2, 1) := by decide +kernel
theorem dX7_clash_57 : decode cX7_clash 57 = .ok (.invokevirtual 160, 3) := by decide +kernel
theorem dX7_clash_60 : decode cX7_clash 60 = .ok (.aload_n 0, 1) := by decide +kernel
theorem dX7_clash_61 : decode cX7_clash 61 = .ok (.bipush 78, 2) := by decide +kernel
theorem dX7_clash_63 : decode cX7_clash 63 = .ok (.iload 4, 2) := by decide +kernel
theorem dX7_clash_65 : decode cX7_clash 65 = .ok (.iadd, 1) := by decide +kernel
theorem dX7_clash_66 : decode cX7_clash 66 = .ok (.iload_n 2, 1) := by decide +kernel
theorem dX7_clash_67 : decode cX7_clash 67 = .ok (.invokevirtual 160, 3) := by decide +kernel
theorem dX7_clash_70 : decode cX7_clash 70 = .ok (.if_icmp .eq 23, 3) := by decide +kernel
theorem dX7_clash_73 : decode cX7_clash 73 = .ok (.iload_n 1, 1) := by decide +kernel
theorem dX7_clash_74 : decode cX7_clash 74 = .ok (.ifCond .ne 7, 3) := by decide +kernel
theorem dX7_clash_77 : decode cX7_clash 77 = .ok (.iload_n 2, 1) := by decide +kernel
theorem dX7_clash_78 : decode cX7_clash 78 = .ok (.goto 14, 3) := by decide +kernel
theorem dX7_clash_81 : decode cX7_clash 81 = .ok (.iload_n 1, 1) := by decide +kernel
theorem dX7_clash_82 : decode cX7_clash 82 = .ok (.iconst 1, 1) := by decide +kernel
theorem dX7_clash_83 : decode cX7_clash 83 = .ok (.if_icmp .ne 7, 3) := by decide +kernel
theorem dX7_clash_86 : decode cX7_clash 86 = .ok (.iload_n 3, 1) := by decide +kernel
theorem dX7_clash_87 : decode cX7_clash 87 = .ok (.goto 5, 3) := by decide +kernel
theorem dX7_clash_90 : decode cX7_clash 90 = .ok (.iload 4, 2) := by decide +kernel
theorem dX7_clash_92 : decode cX7_clash 92 = .ok (.ireturn, 1) := by decide +kernel
theorem dX7_clash_93 : decode cX7_clash 93 = .ok (.iinc 4 1, 3) := by decide +kernel
theorem dX7_clash_96 : decode cX7_clash 96 = .ok (.goto (-54), 3) := by decide +kernel
theorem dX7_clash_99 : decode cX7_clash 99 = .ok (.iinc 3 1, 3) := by decide +kernel
theorem dX7_clash_102 : decode cX7_clash 102 = .ok (.goto (-73), 3) := by decide +kernel
theorem dX7_clash_105 : decode cX7_clash 105 = .ok (.iinc 2 1, 3) := by decide +kernel
theorem dX7_clash_108 : decode cX7_clash 108 = .ok (.goto (-87), 3) := by decide +kernel
theorem dX7_clash_111 : decode cX7_clash 111 = .ok (.iconst 0, 1) := by decide +kernel
theorem dX7_clash_112 : decode cX7_clash 112 = .ok (.istore_n 2, 1) := by decide +kernel
theorem dX7_clash_113 : decode cX7_clash 113 = .ok (.iload_n 2, 1) := by decide +kernel
theorem dX7_clash_114 : decode cX7_clash 114 = .ok (.bipush 32, 2) := by decide +kernel
theorem dX7_clash_116 : decode cX7_clash 116 = .ok (.if_icmp .ge 72, 3) := by decide +kernel
theorem dX7_clash_119 : decode cX7_clash 119 = .ok (.aload_n 0, 1) := by decide +kernel
theorem dX7_clash_120 : decode cX7_clash 120 = .ok (.iload_n 2, 1) := by decide +kernel
theorem dX7_clash_121 : decode cX7_clash 121 = .ok (.invokevirtual 215, 3) := by decide +kernel
theorem dX7_clash_124 : decode cX7_clash 124 = .ok (.istore_n 3, 1) := by decide +kernel
theorem dX7_clash_125 : decode cX7_clash 125 = .ok (.iconst 0, 1) := by decide +kernel
theorem dX7_clash_126 : decode cX7_clash 126 = .ok (.istore 4, 2) := by decide +kernel
theorem dX7_clash_128 : decode cX7_clash 128 = .ok (.iload 4, 2) := by decide +kernel
theorem dX7_clash_130 : decode cX7_clash 130 = .ok (.aload_n 0, 1) := by decide +kernel
theorem dX7_clash_131 : decode cX7_clash 131 = .ok (.getfield 175, 3) := by decide +kernel
theorem dX7_clash_134 : decode cX7_clash 134 = .ok (.if_icmp .ge 48, 3) := by decide +kernel
theorem dX7_clash_137 : decode cX7_clash 137 = .ok (.iload_n 3, 1) := by decide +kernel
theorem dX7_clash_138 : decode cX7_clash 138 = .ok (.iconst (-1), 1) := by decide +kernel
theorem dX7_clash_139 : decode cX7_clash 139 = .ok (.if_icmp .eq 43, 3) := by decide +kernel
theorem dX7_clash_142 : decode cX7_clash 142 = .ok (.aload_n 0, 1) := by decide +kernel
theorem dX7_clash_143 : decode cX7_clash 143 = .ok (.bipush 78, 2) := by decide +kernel
theorem dX7_clash_145 : decode cX7_clash 145 = .ok (.iload 4, 2) := by decide +kernel
theorem dX7_clash_147 : decode cX7_clash 147 = .ok (.iadd, 1) := by decide +kernel
theorem dX7_clash_148 : decode cX7_clash 148 = .ok (.iload_n 2, 1) := by decide +kernel
theorem dX7_clash_149 : decode cX7_clash 149 = .ok (.invokevirtual 160, 3) := by decide +kernel
theorem dX7_clash_152 : decode cX7_clash 152 = .ok (.iload_n 3, 1) := by decide +kernel
theorem dX7_clash_153 : decode cX7_clash 153 = .ok (.if_icmp .eq 23, 3) := by decide +kernel
theorem dX7_clash_156 : decode cX7_clash 156 = .ok (.iload_n 1, 1) := by decide +kernel
theorem dX7_clash_157 : decode cX7_clash 157 = .ok (.ifCond .ne 7, 3) := by decide +kernel
theorem dX7_clash_160 : decode cX7_clash 160 = .ok (.iload_n 2, 1) := by decide +kernel
theorem dX7_clash_161 : decode cX7_clash 161 = .ok (.goto 14, 3) := by decide +kernel
theorem dX7_clash_164 : decode cX7_clash 164 = .ok (.iload_n 1, 1) := by decide +kernel
theorem dX7_clash_165 : decode cX7_clash 165 = .ok (.iconst 1, 1) := by decide +kernel
theorem dX7_clash_166 : decode cX7_clash 166 = .ok (.if_icmp .ne 8, 3) := by decide +kernel
theorem dX7_clash_169 : decode cX7_clash 169 = .ok (.iload 4, 2) := by decide +kernel
theorem dX7_clash_171 : decode cX7_clash 171 = .ok (.goto 4, 3) := by decide +kernel
theorem dX7_clash_174 : decode cX7_clash 174 = .ok (.iconst (-1), 1) := by decide +kernel
theorem dX7_clash_175 : decode cX7_clash 175 = .ok (.ireturn, 1) := by decide +kernel
theorem dX7_clash_176 : decode cX7_clash 176 = .ok (.iinc 4 1, 3) := by decide +kernel
theorem dX7_clash_179 : decode cX7_clash 179 = .ok (.goto (-51), 3) := by decide +kernel
theorem dX7_clash_182 : decode cX7_clash 182 = .ok (.iinc 2 1, 3) := by decide +kernel
theorem dX7_clash_185 : decode cX7_clash 185 = .ok (.goto (-72), 3) := by decide +kernel
theorem dX7_clash_188 : decode cX7_clash 188 = .ok (.iconst (-1), 1) := by decide +kernel
theorem dX7_clash_189 : decode cX7_clash 189 = .ok (.ireturn, 1) := by decide +kernel
set_option maxRecDepth 20000 in
theorem ggX7_bridge_X7_isCase : GoodIn wsX7_bridge wsX7_isCase := goodIn_r _ [5, 6, 7, 4, 8] (by decide +kernel) (by decide +kernel)
set_option maxRecDepth 20000 in
theorem gX7_bridge_X7_isCase : GoodIn wsX7_bridge (va_wsS RX7 157 yX7_isCase wsX7_isCase) := goodIn_app (goodIn_of _ (by decide +kernel)) ggX7_bridge_X7_isCase
set_option maxRecDepth 20000 in
theorem ggX7_bridge_X7_lefts : GoodIn wsX7_bridge wsX7_lefts := goodIn_r _ [12, 13, 1, 14, 15, 16, 17, 4, 18, 19, 20, 21, 22, 23, 24, 25, 26, 27, 28, 29, 30, 31, 32, 44, 45, 46, 47, 48, 49, 50, 51, 52, 53, 54, 55, 56, 57, 58, 59, 60, 61, 62, 63, 64, 65, 66, 67, 68, 69, 70, 71] (by decide +kernel) (by decide +kernel)
set_option maxRecDepth 20000 in
theorem gX7_bridge_X7_lefts : GoodIn wsX7_bridge (wsV RX7 203 RX7 yX7_lefts wsX7_lefts) := goodIn_app (goodIn_of _ (by decide +kernel)) ggX7_bridge_X7_lefts
set_option maxRecDepth 20000 in
theorem ggX7_bridge_X7_gone : GoodIn wsX7_bridge wsX7_gone := goodIn_r _ [36, 19, 20, 44, 45, 46, 47, 48, 49, 50, 51, 52, 53, 54, 55, 56, 57, 58, 59, 60, 61, 62, 63, 64, 65, 66, 67, 68, 69, 70, 71] (by decide +kernel) (by decide +kernel)
set_option maxRecDepth 20000 in
theorem gX7_bridge_X7_gone : GoodIn wsX7_bridge (wsV RX7 206 RX7 yX7_gone wsX7_gone) := goodIn_app (goodIn_of _ (by decide +kernel)) ggX7_bridge_X7_gone
set_option maxRecDepth 20000 in
theorem ggX7_bridge_X7_tellsOf : GoodIn wsX7_bridge wsX7_tellsOf := goodIn_r _ [28, 29, 44, 45, 46, 47, 48, 49, 50, 51, 52, 53, 54, 55, 56, 57, 58, 59, 60, 61, 62, 63, 64, 65, 66, 67, 68, 69, 70, 71] (by decide +kernel) (by decide +kernel)
set_option maxRecDepth 20000 in
theorem gX7_bridge_X7_tellsOf : GoodIn wsX7_bridge (wsV RX7 160 RX7 yX7_tellsOf wsX7_tellsOf) := goodIn_app (goodIn_of _ (by decide +kernel)) ggX7_bridge_X7_tellsOf
set_option maxRecDepth 20000 in
theorem ggX7_bridge_X7_tellOne : GoodIn wsX7_bridge wsX7_tellOne := goodIn_r _ [40, 13, 1, 22, 23, 4, 24, 25, 26, 27, 28, 29, 44, 45, 46, 47, 48, 49, 50, 51, 52, 53, 54, 55, 56, 57, 58, 59, 60, 61, 62, 63, 64, 65, 66, 67, 68, 69, 70, 71] (by decide +kernel) (by decide +kernel)
set_option maxRecDepth 20000 in
theorem gX7_bridge_X7_tellOne : GoodIn wsX7_bridge (wsV RX7 197 RX7 yX7_tellOne wsX7_tellOne) := goodIn_app (goodIn_of _ (by decide +kernel)) ggX7_bridge_X7_tellOne
set_option maxRecDepth 20000 in
theorem ggX7_bridge_X7_many : GoodIn wsX7_bridge wsX7_many := goodIn_r _ [43] (by decide +kernel) (by decide +kernel)
set_option maxRecDepth 20000 in
theorem gX7_bridge_X7_many : GoodIn wsX7_bridge (va_wsS RX7 194 yX7_many wsX7_many) := goodIn_app (goodIn_of _ (by decide +kernel)) ggX7_bridge_X7_many
theorem dX7_bridge_0 : decode cX7_bridge 0 = .ok (.aload_n 0, 1) := by decide +kernel
theorem dX7_bridge_1 : decode cX7_bridge 1 = .ok (.getfield 36, 3) := by decide +kernel
theorem dX7_bridge_4 : decode cX7_bridge 4 = .ok (.iconst (-1), 1) := by decide +kernel
theorem dX7_bridge_5 : decode cX7_bridge 5 = .ok (.if_icmp .eq 10, 3) := by decide +kernel
theorem dX7_bridge_8 : decode cX7_bridge 8 = .ok (.iload_n 1, 1) := by decide +kernel
theorem dX7_bridge_9 : decode cX7_bridge 9 = .ok (.invokestatic 157, 3) := by decide +kernel
theorem dX7_bridge_12 : decode cX7_bridge 12 = .ok (.ifCond .ne 5, 3) := by decide +kernel
theorem dX7_bridge_15 : decode cX7_bridge 15 = .ok (.iconst (-1), 1) := by decide +kernel
theorem dX7_bridge_16 : decode cX7_bridge 16 = .ok (.ireturn, 1) := by decide +kernel
theorem dX7_bridge_17 : decode cX7_bridge 17 = .ok (.aload_n 0, 1) := by decide +kernel
theorem dX7_bridge_18 : decode cX7_bridge 18 = .ok (.invokevirtual 203, 3) := by decide +kernel
theorem dX7_bridge_21 : decode cX7_bridge 21 = .ok (.istore_n 2, 1) := by decide +kernel
theorem dX7_bridge_22 : decode cX7_bridge 22 = .ok (.aload_n 0, 1) := by decide +kernel
theorem dX7_bridge_23 : decode cX7_bridge 23 = .ok (.invokevirtual 206, 3) := by decide +kernel
theorem dX7_bridge_26 : decode cX7_bridge 26 = .ok (.istore_n 3, 1) := by decide +kernel
theorem dX7_bridge_27 : decode cX7_bridge 27 = .ok (.iconst (-1), 1) := by decide +kernel
theorem dX7_bridge_28 : decode cX7_bridge 28 = .ok (.istore 4, 2) := by decide +kernel
theorem dX7_bridge_30 : decode cX7_bridge 30 = .ok (.iconst 0, 1) := by decide +kernel
theorem dX7_bridge_31 : decode cX7_bridge 31 = .ok (.istore 5, 2) := by decide +kernel
theorem dX7_bridge_33 : decode cX7_bridge 33 = .ok (.iload 5, 2) := by decide +kernel
theorem dX7_bridge_35 : decode cX7_bridge 35 = .ok (.bipush 32, 2) := by decide +kernel
theorem dX7_bridge_37 : decode cX7_bridge 37 = .ok (.if_icmp .ge 82, 3) := by decide +kernel
theorem dX7_bridge_40 : decode cX7_bridge 40 = .ok (.aload_n 0, 1) := by decide +kernel
theorem dX7_bridge_41 : decode cX7_bridge 41 = .ok (.aload_n 0, 1) := by decide +kernel
theorem dX7_bridge_42 : decode cX7_bridge 42 = .ok (.getfield 36, 3) := by decide +kernel
theorem dX7_bridge_45 : decode cX7_bridge 45 = .ok (.iload 5, 2) := by decide +kernel
theorem dX7_bridge_47 : decode cX7_bridge 47 = .ok (.invokevirtual 160, 3) := by decide +kernel
theorem dX7_bridge_50 : decode cX7_bridge 50 = .ok (.iconst 1, 1) := by decide +kernel
theorem dX7_bridge_51 : decode cX7_bridge 51 = .ok (.if_icmp .ne 7, 3) := by decide +kernel
theorem dX7_bridge_54 : decode cX7_bridge 54 = .ok (.iload_n 2, 1) := by decide +kernel
theorem dX7_bridge_55 : decode cX7_bridge 55 = .ok (.goto 4, 3) := by decide +kernel
theorem dX7_bridge_58 : decode cX7_bridge 58 = .ok (.iconst 0, 1) := by decide +kernel
theorem dX7_bridge_59 : decode cX7_bridge 59 = .ok (.istore 6, 2) := by decide +kernel
theorem dX7_bridge_61 : decode cX7_bridge 61 = .ok (.iload_n 3, 1) := by decide +kernel
theorem dX7_bridge_62 : decode cX7_bridge 62 = .ok (.iload 5, 2) := by decide +kernel
theorem dX7_bridge_64 : decode cX7_bridge 64 = .ok (.ishr, 1) := by decide +kernel
theorem dX7_bridge_65 : decode cX7_bridge 65 = .ok (.iconst 1, 1) := by decide +kernel
theorem dX7_bridge_66 : decode cX7_bridge 66 = .ok (.iand, 1) := by decide +kernel
theorem dX7_bridge_67 : decode cX7_bridge 67 = .ok (.iconst 1, 1) := by decide +kernel
theorem dX7_bridge_68 : decode cX7_bridge 68 = .ok (.if_icmp .eq 45, 3) := by decide +kernel
theorem dX7_bridge_71 : decode cX7_bridge 71 = .ok (.aload_n 0, 1) := by decide +kernel
theorem dX7_bridge_72 : decode cX7_bridge 72 = .ok (.iload_n 2, 1) := by decide +kernel
theorem dX7_bridge_73 : decode cX7_bridge 73 = .ok (.iload 5, 2) := by decide +kernel
theorem dX7_bridge_75 : decode cX7_bridge 75 = .ok (.invokevirtual 197, 3) := by decide +kernel
theorem dX7_bridge_78 : decode cX7_bridge 78 = .ok (.iload 6, 2) := by decide +kernel
theorem dX7_bridge_80 : decode cX7_bridge 80 = .ok (.if_icmp .eq 6, 3) := by decide +kernel
theorem dX7_bridge_83 : decode cX7_bridge 83 = .ok (.goto 30, 3) := by decide +kernel
theorem dX7_bridge_86 : decode cX7_bridge 86 = .ok (.iload 4, 2) := by decide +kernel
theorem dX7_bridge_88 : decode cX7_bridge 88 = .ok (.iconst (-1), 1) := by decide +kernel
theorem dX7_bridge_89 : decode cX7_bridge 89 = .ok (.if_icmp .eq 20, 3) := by decide +kernel
theorem dX7_bridge_92 : decode cX7_bridge 92 = .ok (.iload 5, 2) := by decide +kernel
theorem dX7_bridge_94 : decode cX7_bridge 94 = .ok (.iload_n 1, 1) := by decide +kernel
theorem dX7_bridge_95 : decode cX7_bridge 95 = .ok (.ixor, 1) := by decide +kernel
theorem dX7_bridge_96 : decode cX7_bridge 96 = .ok (.invokestatic 194, 3) := by decide +kernel
theorem dX7_bridge_99 : decode cX7_bridge 99 = .ok (.iload 4, 2) := by decide +kernel
theorem dX7_bridge_101 : decode cX7_bridge 101 = .ok (.iload_n 1, 1) := by decide +kernel
theorem dX7_bridge_102 : decode cX7_bridge 102 = .ok (.ixor, 1) := by decide +kernel
theorem dX7_bridge_103 : decode cX7_bridge 103 = .ok (.invokestatic 194, 3) := by decide +kernel
theorem dX7_bridge_106 : decode cX7_bridge 106 = .ok (.if_icmp .ge 7, 3) := by decide +kernel
theorem dX7_bridge_109 : decode cX7_bridge 109 = .ok (.iload 5, 2) := by decide +kernel
theorem dX7_bridge_111 : decode cX7_bridge 111 = .ok (.istore 4, 2) := by decide +kernel
theorem dX7_bridge_113 : decode cX7_bridge 113 = .ok (.iinc 5 1, 3) := by decide +kernel
theorem dX7_bridge_116 : decode cX7_bridge 116 = .ok (.goto (-83), 3) := by decide +kernel
theorem dX7_bridge_119 : decode cX7_bridge 119 = .ok (.iload 4, 2) := by decide +kernel
theorem dX7_bridge_121 : decode cX7_bridge 121 = .ok (.ireturn, 1) := by decide +kernel
set_option maxRecDepth 20000 in
theorem ggX7_wrongs_X7_isRight : GoodIn wsX7_wrongs wsX7_isRight := goodIn_r _ [7, 8, 9, 2, 10, 11, 12, 6, 13, 14, 18, 19, 20, 21, 22, 23, 24, 25, 26, 27, 28, 29, 30, 31, 32, 33, 34, 35, 36, 37, 38, 39, 40, 41, 42, 43, 44, 45] (by decide +kernel) (by decide +kernel)
set_option maxRecDepth 20000 in
theorem gX7_wrongs_X7_isRight : GoodIn wsX7_wrongs (wsV RX7 185 RX7 yX7_isRight wsX7_isRight) := goodIn_app (goodIn_of _ (by decide +kernel)) ggX7_wrongs_X7_isRight
set_option maxRecDepth 20000 in
theorem ggX7_wrongs_X7_one : GoodIn wsX7_wrongs wsX7_one := goodIn_r _ [17] (by decide +kernel) (by decide +kernel)
set_option maxRecDepth 20000 in
theorem gX7_wrongs_X7_one : GoodIn wsX7_wrongs (va_wsS RX7 181 yX7_one wsX7_one) := goodIn_app (goodIn_of _ (by decide +kernel)) ggX7_wrongs_X7_one
theorem dX7_wrongs_0 : decode cX7_wrongs 0 = .ok (.iconst 0, 1) := by decide +kernel
theorem dX7_wrongs_1 : decode cX7_wrongs 1 = .ok (.istore_n 2, 1) := by decide +kernel
theorem dX7_wrongs_2 : decode cX7_wrongs 2 = .ok (.iconst 0, 1) := by decide +kernel
theorem dX7_wrongs_3 : decode cX7_wrongs 3 = .ok (.istore_n 3, 1) := by decide +kernel
theorem dX7_wrongs_4 : decode cX7_wrongs 4 = .ok (.iload_n 3, 1) := by decide +kernel
theorem dX7_wrongs_5 : decode cX7_wrongs 5 = .ok (.aload_n 0, 1) := by decide +kernel
theorem dX7_wrongs_6 : decode cX7_wrongs 6 = .ok (.getfield 169, 3) := by decide +kernel
theorem dX7_wrongs_9 : decode cX7_wrongs 9 = .ok (.if_icmp .ge 38, 3) := by decide +kernel
theorem dX7_wrongs_12 : decode cX7_wrongs 12 = .ok (.iload_n 2, 1) := by decide +kernel
theorem dX7_wrongs_13 : decode cX7_wrongs 13 = .ok (.aload_n 0, 1) := by decide +kernel
theorem dX7_wrongs_14 : decode cX7_wrongs 14 = .ok (.getfield 46, 3) := by decide +kernel
theorem dX7_wrongs_17 : decode cX7_wrongs 17 = .ok (.iload_n 3, 1) := by decide +kernel
theorem dX7_wrongs_18 : decode cX7_wrongs 18 = .ok (.iaload, 1) := by decide +kernel
theorem dX7_wrongs_19 : decode cX7_wrongs 19 = .ok (.iload_n 1, 1) := by decide +kernel
theorem dX7_wrongs_20 : decode cX7_wrongs 20 = .ok (.if_icmp .ne 15, 3) := by decide +kernel
theorem dX7_wrongs_23 : decode cX7_wrongs 23 = .ok (.aload_n 0, 1) := by decide +kernel
theorem dX7_wrongs_24 : decode cX7_wrongs 24 = .ok (.iload_n 3, 1) := by decide +kernel
theorem dX7_wrongs_25 : decode cX7_wrongs 25 = .ok (.invokevirtual 185, 3) := by decide +kernel
theorem dX7_wrongs_28 : decode cX7_wrongs 28 = .ok (.ifCond .ne 7, 3) := by decide +kernel
theorem dX7_wrongs_31 : decode cX7_wrongs 31 = .ok (.iconst 1, 1) := by decide +kernel
theorem dX7_wrongs_32 : decode cX7_wrongs 32 = .ok (.goto 4, 3) := by decide +kernel
theorem dX7_wrongs_35 : decode cX7_wrongs 35 = .ok (.iconst 0, 1) := by decide +kernel
theorem dX7_wrongs_36 : decode cX7_wrongs 36 = .ok (.invokestatic 181, 3) := by decide +kernel
theorem dX7_wrongs_39 : decode cX7_wrongs 39 = .ok (.iadd, 1) := by decide +kernel
theorem dX7_wrongs_40 : decode cX7_wrongs 40 = .ok (.istore_n 2, 1) := by decide +kernel
theorem dX7_wrongs_41 : decode cX7_wrongs 41 = .ok (.iinc 3 1, 3) := by decide +kernel
theorem dX7_wrongs_44 : decode cX7_wrongs 44 = .ok (.goto (-40), 3) := by decide +kernel
theorem dX7_wrongs_47 : decode cX7_wrongs 47 = .ok (.iload_n 2, 1) := by decide +kernel
theorem dX7_wrongs_48 : decode cX7_wrongs 48 = .ok (.ireturn, 1) := by decide +kernel
set_option maxRecDepth 20000 in
theorem ggX7_reveal_X7_isCase : GoodIn wsX7_reveal wsX7_isCase := goodIn_r _ [6, 7, 8, 5, 9] (by decide +kernel) (by decide +kernel)
set_option maxRecDepth 20000 in
theorem gX7_reveal_X7_isCase : GoodIn wsX7_reveal (va_wsS RX7 157 yX7_isCase wsX7_isCase) := goodIn_app (goodIn_of _ (by decide +kernel)) ggX7_reveal_X7_isCase
set_option maxRecDepth 20000 in
theorem ggX7_reveal_X7_wrongs : GoodIn wsX7_reveal wsX7_wrongs := goodIn_r _ [13, 14, 15, 16, 17, 18, 5, 19, 20, 1, 21, 22, 23, 24, 25, 26, 27, 28, 29, 30, 31, 32, 33, 34, 35, 36, 37, 38, 39, 40, 41, 42, 43, 44, 45, 46, 47, 48, 49, 50, 51, 52, 53, 54, 55, 56] (by decide +kernel) (by decide +kernel)
set_option maxRecDepth 20000 in
theorem gX7_reveal_X7_wrongs : GoodIn wsX7_reveal (wsV RX7 218 RX7 yX7_wrongs wsX7_wrongs) := goodIn_app (goodIn_of _ (by decide +kernel)) ggX7_reveal_X7_wrongs
set_option maxRecDepth 20000 in
theorem ggX7_reveal_X7_tellsOf : GoodIn wsX7_reveal wsX7_tellsOf := goodIn_r _ [24, 25, 29, 30, 31, 32, 33, 34, 35, 36, 37, 38, 39, 40, 41, 42, 43, 44, 45, 46, 47, 48, 49, 50, 51, 52, 53, 54, 55, 56] (by decide +kernel) (by decide +kernel)
set_option maxRecDepth 20000 in
theorem gX7_reveal_X7_tellsOf : GoodIn wsX7_reveal (wsV RX7 160 RX7 yX7_tellsOf wsX7_tellsOf) := goodIn_app (goodIn_of _ (by decide +kernel)) ggX7_reveal_X7_tellsOf
theorem dX7_reveal_0 : decode cX7_reveal 0 = .ok (.aload_n 0, 1) := by decide +kernel
theorem dX7_reveal_1 : decode cX7_reveal 1 = .ok (.getfield 36, 3) := by decide +kernel
theorem dX7_reveal_4 : decode cX7_reveal 4 = .ok (.iconst (-1), 1) := by decide +kernel
theorem dX7_reveal_5 : decode cX7_reveal 5 = .ok (.if_icmp .eq 34, 3) := by decide +kernel
theorem dX7_reveal_8 : decode cX7_reveal 8 = .ok (.iload_n 1, 1) := by decide +kernel
theorem dX7_reveal_9 : decode cX7_reveal 9 = .ok (.invokestatic 157, 3) := by decide +kernel
theorem dX7_reveal_12 : decode cX7_reveal 12 = .ok (.ifCond .eq 27, 3) := by decide +kernel
theorem dX7_reveal_15 : decode cX7_reveal 15 = .ok (.aload_n 0, 1) := by decide +kernel
theorem dX7_reveal_16 : decode cX7_reveal 16 = .ok (.iload_n 1, 1) := by decide +kernel
theorem dX7_reveal_17 : decode cX7_reveal 17 = .ok (.invokevirtual 218, 3) := by decide +kernel
theorem dX7_reveal_20 : decode cX7_reveal 20 = .ok (.aload_n 0, 1) := by decide +kernel
theorem dX7_reveal_21 : decode cX7_reveal 21 = .ok (.getfield 40, 3) := by decide +kernel
theorem dX7_reveal_24 : decode cX7_reveal 24 = .ok (.if_icmp .lt 15, 3) := by decide +kernel
theorem dX7_reveal_27 : decode cX7_reveal 27 = .ok (.aload_n 0, 1) := by decide +kernel
theorem dX7_reveal_28 : decode cX7_reveal 28 = .ok (.aload_n 0, 1) := by decide +kernel
theorem dX7_reveal_29 : decode cX7_reveal 29 = .ok (.getfield 36, 3) := by decide +kernel
theorem dX7_reveal_32 : decode cX7_reveal 32 = .ok (.iload_n 1, 1) := by decide +kernel
theorem dX7_reveal_33 : decode cX7_reveal 33 = .ok (.invokevirtual 160, 3) := by decide +kernel
theorem dX7_reveal_36 : decode cX7_reveal 36 = .ok (.goto 4, 3) := by decide +kernel
theorem dX7_reveal_39 : decode cX7_reveal 39 = .ok (.iconst (-1), 1) := by decide +kernel
theorem dX7_reveal_40 : decode cX7_reveal 40 = .ok (.ireturn, 1) := by decide +kernel
set_option maxRecDepth 20000 in
theorem ggX7_caseOf_X7_isCase : GoodIn wsX7_caseOf wsX7_isCase := goodIn_r _ [6, 7, 8, 5, 9] (by decide +kernel) (by decide +kernel)
set_option maxRecDepth 20000 in
theorem gX7_caseOf_X7_isCase : GoodIn wsX7_caseOf (va_wsS RX7 157 yX7_isCase wsX7_isCase) := goodIn_app (goodIn_of _ (by decide +kernel)) ggX7_caseOf_X7_isCase
set_option maxRecDepth 20000 in
theorem ggX7_caseOf_X7_timesAsked : GoodIn wsX7_caseOf wsX7_timesAsked := goodIn_r _ [13, 14, 15, 16, 5, 17, 36, 37, 38, 39, 40, 41, 42, 43, 44, 45, 46, 47, 48, 49, 50, 51, 52, 53, 54, 55, 56, 57, 58, 59, 60, 61, 62, 63] (by decide +kernel) (by decide +kernel)
set_option maxRecDepth 20000 in
theorem gX7_caseOf_X7_timesAsked : GoodIn wsX7_caseOf (wsV RX7 188 RX7 yX7_timesAsked wsX7_timesAsked) := goodIn_app (goodIn_of _ (by decide +kernel)) ggX7_caseOf_X7_timesAsked
set_option maxRecDepth 20000 in
theorem ggX7_caseOf_X7_wrongs : GoodIn wsX7_caseOf wsX7_wrongs := goodIn_r _ [21, 2, 14, 22, 23, 24, 5, 25, 26, 1, 27, 28, 29, 30, 31, 15, 16, 17, 36, 37, 38, 39, 40, 41, 42, 43, 44, 45, 46, 47, 48, 49, 50, 51, 52, 53, 54, 55, 56, 57, 58, 59, 60, 61, 62, 63] (by decide +kernel) (by decide +kernel)
set_option maxRecDepth 20000 in
theorem gX7_caseOf_X7_wrongs : GoodIn wsX7_caseOf (wsV RX7 218 RX7 yX7_wrongs wsX7_wrongs) := goodIn_app (goodIn_of _ (by decide +kernel)) ggX7_caseOf_X7_wrongs
set_option maxRecDepth 20000 in
theorem ggX7_caseOf_X7_latest : GoodIn wsX7_caseOf wsX7_latest := goodIn_r _ [35, 2, 14, 26, 36, 37, 38, 39, 40, 41, 42, 43, 44, 45, 46, 47, 48, 49, 50, 51, 52, 53, 54, 55, 56, 57, 58, 59, 60, 61, 62, 63] (by decide +kernel) (by decide +kernel)
set_option maxRecDepth 20000 in
theorem gX7_caseOf_X7_latest : GoodIn wsX7_caseOf (wsV RX7 215 RX7 yX7_latest wsX7_latest) := goodIn_app (goodIn_of _ (by decide +kernel)) ggX7_caseOf_X7_latest
theorem dX7_caseOf_0 : decode cX7_caseOf 0 = .ok (.aload_n 0, 1) := by decide +kernel
theorem dX7_caseOf_1 : decode cX7_caseOf 1 = .ok (.getfield 36, 3) := by decide +kernel
theorem dX7_caseOf_4 : decode cX7_caseOf 4 = .ok (.iconst (-1), 1) := by decide +kernel
theorem dX7_caseOf_5 : decode cX7_caseOf 5 = .ok (.if_icmp .eq 10, 3) := by decide +kernel
theorem dX7_caseOf_8 : decode cX7_caseOf 8 = .ok (.iload_n 1, 1) := by decide +kernel
theorem dX7_caseOf_9 : decode cX7_caseOf 9 = .ok (.invokestatic 157, 3) := by decide +kernel
theorem dX7_caseOf_12 : decode cX7_caseOf 12 = .ok (.ifCond .ne 5, 3) := by decide +kernel
theorem dX7_caseOf_15 : decode cX7_caseOf 15 = .ok (.iconst (-1), 1) := by decide +kernel
theorem dX7_caseOf_16 : decode cX7_caseOf 16 = .ok (.ireturn, 1) := by decide +kernel
theorem dX7_caseOf_17 : decode cX7_caseOf 17 = .ok (.iload_n 2, 1) := by decide +kernel
theorem dX7_caseOf_18 : decode cX7_caseOf 18 = .ok (.ifCond .ne 15, 3) := by decide +kernel
theorem dX7_caseOf_21 : decode cX7_caseOf 21 = .ok (.aload_n 0, 1) := by decide +kernel
theorem dX7_caseOf_22 : decode cX7_caseOf 22 = .ok (.iload_n 1, 1) := by decide +kernel
theorem dX7_caseOf_23 : decode cX7_caseOf 23 = .ok (.aload_n 0, 1) := by decide +kernel
theorem dX7_caseOf_24 : decode cX7_caseOf 24 = .ok (.getfield 169, 3) := by decide +kernel
theorem dX7_caseOf_27 : decode cX7_caseOf 27 = .ok (.invokevirtual 188, 3) := by decide +kernel
theorem dX7_caseOf_30 : decode cX7_caseOf 30 = .ok (.goto 30, 3) := by decide +kernel
theorem dX7_caseOf_33 : decode cX7_caseOf 33 = .ok (.iload_n 2, 1) := by decide +kernel
theorem dX7_caseOf_34 : decode cX7_caseOf 34 = .ok (.iconst 1, 1) := by decide +kernel
theorem dX7_caseOf_35 : decode cX7_caseOf 35 = .ok (.if_icmp .ne 11, 3) := by decide +kernel
theorem dX7_caseOf_38 : decode cX7_caseOf 38 = .ok (.aload_n 0, 1) := by decide +kernel
theorem dX7_caseOf_39 : decode cX7_caseOf 39 = .ok (.iload_n 1, 1) := by decide +kernel
theorem dX7_caseOf_40 : decode cX7_caseOf 40 = .ok (.invokevirtual 218, 3) := by decide +kernel
theorem dX7_caseOf_43 : decode cX7_caseOf 43 = .ok (.goto 17, 3) := by decide +kernel
theorem dX7_caseOf_46 : decode cX7_caseOf 46 = .ok (.iload_n 2, 1) := by decide +kernel
theorem dX7_caseOf_47 : decode cX7_caseOf 47 = .ok (.iconst 2, 1) := by decide +kernel
theorem dX7_caseOf_48 : decode cX7_caseOf 48 = .ok (.if_icmp .ne 11, 3) := by decide +kernel
theorem dX7_caseOf_51 : decode cX7_caseOf 51 = .ok (.aload_n 0, 1) := by decide +kernel
theorem dX7_caseOf_52 : decode cX7_caseOf 52 = .ok (.iload_n 1, 1) := by decide +kernel
theorem dX7_caseOf_53 : decode cX7_caseOf 53 = .ok (.invokevirtual 215, 3) := by decide +kernel
theorem dX7_caseOf_56 : decode cX7_caseOf 56 = .ok (.goto 4, 3) := by decide +kernel
theorem dX7_caseOf_59 : decode cX7_caseOf 59 = .ok (.iconst (-1), 1) := by decide +kernel
theorem dX7_caseOf_60 : decode cX7_caseOf 60 = .ok (.ireturn, 1) := by decide +kernel
set_option maxRecDepth 20000 in
theorem ggX7_count_X7_lefts : GoodIn wsX7_count wsX7_lefts := goodIn_r _ [11, 12, 1, 13, 14, 15, 16, 10, 17, 2, 18, 19, 20, 21, 22, 23, 24, 25, 26, 27, 28, 29, 30, 34, 35, 36, 37, 38, 39, 40, 41, 42, 43, 44, 45, 46, 47, 48, 49, 50, 51, 52, 53, 54, 55, 56, 57, 58, 59, 60, 61] (by decide +kernel) (by decide +kernel)
set_option maxRecDepth 20000 in
theorem gX7_count_X7_lefts : GoodIn wsX7_count (wsV RX7 203 RX7 yX7_lefts wsX7_lefts) := goodIn_app (goodIn_of _ (by decide +kernel)) ggX7_count_X7_lefts
set_option maxRecDepth 20000 in
theorem ggX7_count_X7_many : GoodIn wsX7_count wsX7_many := goodIn_r _ [33] (by decide +kernel) (by decide +kernel)
set_option maxRecDepth 20000 in
theorem gX7_count_X7_many : GoodIn wsX7_count (va_wsS RX7 194 yX7_many wsX7_many) := goodIn_app (goodIn_of _ (by decide +kernel)) ggX7_count_X7_many
set_option maxRecDepth 20000 in
theorem ggX7_count_X7_one : GoodIn wsX7_count wsX7_one := goodIn_r _ [30] (by decide +kernel) (by decide +kernel)
set_option maxRecDepth 20000 in
theorem gX7_count_X7_one : GoodIn wsX7_count (va_wsS RX7 181 yX7_one wsX7_one) := goodIn_app (goodIn_of _ (by decide +kernel)) ggX7_count_X7_one
theorem dX7_count_0 : decode cX7_count 0 = .ok (.iload_n 1, 1) := by decide +kernel
theorem dX7_count_1 : decode cX7_count 1 = .ok (.tableswitch 150 0 7 #[47, 52, 57, 62, 67, 87, 112, 145], 47) := by decide +kernel
theorem dX7_count_48 : decode cX7_count 48 = .ok (.aload_n 0, 1) := by decide +kernel
theorem dX7_count_49 : decode cX7_count 49 = .ok (.getfield 36, 3) := by decide +kernel
theorem dX7_count_52 : decode cX7_count 52 = .ok (.ireturn, 1) := by decide +kernel
theorem dX7_count_53 : decode cX7_count 53 = .ok (.aload_n 0, 1) := by decide +kernel
theorem dX7_count_54 : decode cX7_count 54 = .ok (.getfield 169, 3) := by decide +kernel
theorem dX7_count_57 : decode cX7_count 57 = .ok (.ireturn, 1) := by decide +kernel
theorem dX7_count_58 : decode cX7_count 58 = .ok (.aload_n 0, 1) := by decide +kernel
theorem dX7_count_59 : decode cX7_count 59 = .ok (.getfield 172, 3) := by decide +kernel
theorem dX7_count_62 : decode cX7_count 62 = .ok (.ireturn, 1) := by decide +kernel
theorem dX7_count_63 : decode cX7_count 63 = .ok (.aload_n 0, 1) := by decide +kernel
theorem dX7_count_64 : decode cX7_count 64 = .ok (.getfield 175, 3) := by decide +kernel
theorem dX7_count_67 : decode cX7_count 67 = .ok (.ireturn, 1) := by decide +kernel
theorem dX7_count_68 : decode cX7_count 68 = .ok (.aload_n 0, 1) := by decide +kernel
theorem dX7_count_69 : decode cX7_count 69 = .ok (.getfield 36, 3) := by decide +kernel
theorem dX7_count_72 : decode cX7_count 72 = .ok (.iconst (-1), 1) := by decide +kernel
theorem dX7_count_73 : decode cX7_count 73 = .ok (.if_icmp .ne 7, 3) := by decide +kernel
theorem dX7_count_76 : decode cX7_count 76 = .ok (.iconst 0, 1) := by decide +kernel
theorem dX7_count_77 : decode cX7_count 77 = .ok (.goto 10, 3) := by decide +kernel
theorem dX7_count_80 : decode cX7_count 80 = .ok (.aload_n 0, 1) := by decide +kernel
theorem dX7_count_81 : decode cX7_count 81 = .ok (.invokevirtual 203, 3) := by decide +kernel
theorem dX7_count_84 : decode cX7_count 84 = .ok (.invokestatic 194, 3) := by decide +kernel
theorem dX7_count_87 : decode cX7_count 87 = .ok (.ireturn, 1) := by decide +kernel
theorem dX7_count_88 : decode cX7_count 88 = .ok (.aload_n 0, 1) := by decide +kernel
theorem dX7_count_89 : decode cX7_count 89 = .ok (.getfield 36, 3) := by decide +kernel
theorem dX7_count_92 : decode cX7_count 92 = .ok (.iconst (-1), 1) := by decide +kernel
theorem dX7_count_93 : decode cX7_count 93 = .ok (.if_icmp .ne 7, 3) := by decide +kernel
theorem dX7_count_96 : decode cX7_count 96 = .ok (.iconst 0, 1) := by decide +kernel
theorem dX7_count_97 : decode cX7_count 97 = .ok (.goto 15, 3) := by decide +kernel
theorem dX7_count_100 : decode cX7_count 100 = .ok (.aload_n 0, 1) := by decide +kernel
theorem dX7_count_101 : decode cX7_count 101 = .ok (.getfield 27, 3) := by decide +kernel
theorem dX7_count_104 : decode cX7_count 104 = .ok (.aload_n 0, 1) := by decide +kernel
theorem dX7_count_105 : decode cX7_count 105 = .ok (.getfield 36, 3) := by decide +kernel
theorem dX7_count_108 : decode cX7_count 108 = .ok (.baload, 1) := by decide +kernel
theorem dX7_count_109 : decode cX7_count 109 = .ok (.invokestatic 181, 3) := by decide +kernel
theorem dX7_count_112 : decode cX7_count 112 = .ok (.ireturn, 1) := by decide +kernel
theorem dX7_count_113 : decode cX7_count 113 = .ok (.iconst 0, 1) := by decide +kernel
theorem dX7_count_114 : decode cX7_count 114 = .ok (.istore_n 2, 1) := by decide +kernel
theorem dX7_count_115 : decode cX7_count 115 = .ok (.iconst 0, 1) := by decide +kernel
theorem dX7_count_116 : decode cX7_count 116 = .ok (.istore_n 3, 1) := by decide +kernel
theorem dX7_count_117 : decode cX7_count 117 = .ok (.iload_n 3, 1) := by decide +kernel
theorem dX7_count_118 : decode cX7_count 118 = .ok (.bipush 6, 2) := by decide +kernel
theorem dX7_count_120 : decode cX7_count 120 = .ok (.if_icmp .ge 24, 3) := by decide +kernel
theorem dX7_count_123 : decode cX7_count 123 = .ok (.aload_n 0, 1) := by decide +kernel
theorem dX7_count_124 : decode cX7_count 124 = .ok (.getfield 27, 3) := by decide +kernel
theorem dX7_count_127 : decode cX7_count 127 = .ok (.iload_n 3, 1) := by decide +kernel
theorem dX7_count_128 : decode cX7_count 128 = .ok (.baload, 1) := by decide +kernel
theorem dX7_count_129 : decode cX7_count 129 = .ok (.ifCond .eq 9, 3) := by decide +kernel
theorem dX7_count_132 : decode cX7_count 132 = .ok (.iload_n 2, 1) := by decide +kernel
theorem dX7_count_133 : decode cX7_count 133 = .ok (.iconst 1, 1) := by decide +kernel
theorem dX7_count_134 : decode cX7_count 134 = .ok (.iload_n 3, 1) := by decide +kernel
theorem dX7_count_135 : decode cX7_count 135 = .ok (.ishl, 1) := by decide +kernel
theorem dX7_count_136 : decode cX7_count 136 = .ok (.ior, 1) := by decide +kernel
theorem dX7_count_137 : decode cX7_count 137 = .ok (.istore_n 2, 1) := by decide +kernel
theorem dX7_count_138 : decode cX7_count 138 = .ok (.iinc 3 1, 3) := by decide +kernel
theorem dX7_count_141 : decode cX7_count 141 = .ok (.goto (-24), 3) := by decide +kernel
theorem dX7_count_144 : decode cX7_count 144 = .ok (.iload_n 2, 1) := by decide +kernel
theorem dX7_count_145 : decode cX7_count 145 = .ok (.ireturn, 1) := by decide +kernel
theorem dX7_count_146 : decode cX7_count 146 = .ok (.aload_n 0, 1) := by decide +kernel
theorem dX7_count_147 : decode cX7_count 147 = .ok (.getfield 71, 3) := by decide +kernel
theorem dX7_count_150 : decode cX7_count 150 = .ok (.ireturn, 1) := by decide +kernel
theorem dX7_count_151 : decode cX7_count 151 = .ok (.iconst (-1), 1) := by decide +kernel
theorem dX7_count_152 : decode cX7_count 152 = .ok (.ireturn, 1) := by decide +kernel
theorem dJ6_bitCount_0f7a4_0 : decode cJ6_bitCount_0f7a4 0 = .ok (.iload_n 0, 1) := by decide +kernel
theorem dJ6_bitCount_0f7a4_1 : decode cJ6_bitCount_0f7a4 1 = .ok (.iload_n 0, 1) := by decide +kernel
theorem dJ6_bitCount_0f7a4_2 : decode cJ6_bitCount_0f7a4 2 = .ok (.iconst 1, 1) := by decide +kernel
theorem dJ6_bitCount_0f7a4_3 : decode cJ6_bitCount_0f7a4 3 = .ok (.iushr, 1) := by decide +kernel
theorem dJ6_bitCount_0f7a4_4 : decode cJ6_bitCount_0f7a4 4 = .ok (.ldc_w 265, 3) := by decide +kernel
theorem dJ6_bitCount_0f7a4_7 : decode cJ6_bitCount_0f7a4 7 = .ok (.iand, 1) := by decide +kernel
theorem dJ6_bitCount_0f7a4_8 : decode cJ6_bitCount_0f7a4 8 = .ok (.isub, 1) := by decide +kernel
theorem dJ6_bitCount_0f7a4_9 : decode cJ6_bitCount_0f7a4 9 = .ok (.istore_n 0, 1) := by decide +kernel
theorem dJ6_bitCount_0f7a4_10 : decode cJ6_bitCount_0f7a4 10 = .ok (.iload_n 0, 1) := by decide +kernel
theorem dJ6_bitCount_0f7a4_11 : decode cJ6_bitCount_0f7a4 11 = .ok (.ldc_w 266, 3) := by decide +kernel
theorem dJ6_bitCount_0f7a4_14 : decode cJ6_bitCount_0f7a4 14 = .ok (.iand, 1) := by decide +kernel
theorem dJ6_bitCount_0f7a4_15 : decode cJ6_bitCount_0f7a4 15 = .ok (.iload_n 0, 1) := by decide +kernel
theorem dJ6_bitCount_0f7a4_16 : decode cJ6_bitCount_0f7a4 16 = .ok (.iconst 2, 1) := by decide +kernel
theorem dJ6_bitCount_0f7a4_17 : decode cJ6_bitCount_0f7a4 17 = .ok (.iushr, 1) := by decide +kernel
theorem dJ6_bitCount_0f7a4_18 : decode cJ6_bitCount_0f7a4 18 = .ok (.ldc_w 266, 3) := by decide +kernel
theorem dJ6_bitCount_0f7a4_21 : decode cJ6_bitCount_0f7a4 21 = .ok (.iand, 1) := by decide +kernel
theorem dJ6_bitCount_0f7a4_22 : decode cJ6_bitCount_0f7a4 22 = .ok (.iadd, 1) := by decide +kernel
theorem dJ6_bitCount_0f7a4_23 : decode cJ6_bitCount_0f7a4 23 = .ok (.istore_n 0, 1) := by decide +kernel
theorem dJ6_bitCount_0f7a4_24 : decode cJ6_bitCount_0f7a4 24 = .ok (.iload_n 0, 1) := by decide +kernel
theorem dJ6_bitCount_0f7a4_25 : decode cJ6_bitCount_0f7a4 25 = .ok (.iload_n 0, 1) := by decide +kernel
theorem dJ6_bitCount_0f7a4_26 : decode cJ6_bitCount_0f7a4 26 = .ok (.iconst 4, 1) := by decide +kernel
theorem dJ6_bitCount_0f7a4_27 : decode cJ6_bitCount_0f7a4 27 = .ok (.iushr, 1) := by decide +kernel
theorem dJ6_bitCount_0f7a4_28 : decode cJ6_bitCount_0f7a4 28 = .ok (.iadd, 1) := by decide +kernel
theorem dJ6_bitCount_0f7a4_29 : decode cJ6_bitCount_0f7a4 29 = .ok (.ldc_w 267, 3) := by decide +kernel
theorem dJ6_bitCount_0f7a4_32 : decode cJ6_bitCount_0f7a4 32 = .ok (.iand, 1) := by decide +kernel
theorem dJ6_bitCount_0f7a4_33 : decode cJ6_bitCount_0f7a4 33 = .ok (.istore_n 0, 1) := by decide +kernel
theorem dJ6_bitCount_0f7a4_34 : decode cJ6_bitCount_0f7a4 34 = .ok (.iload_n 0, 1) := by decide +kernel
theorem dJ6_bitCount_0f7a4_35 : decode cJ6_bitCount_0f7a4 35 = .ok (.iload_n 0, 1) := by decide +kernel
theorem dJ6_bitCount_0f7a4_36 : decode cJ6_bitCount_0f7a4 36 = .ok (.bipush 8, 2) := by decide +kernel
theorem dJ6_bitCount_0f7a4_38 : decode cJ6_bitCount_0f7a4 38 = .ok (.iushr, 1) := by decide +kernel
theorem dJ6_bitCount_0f7a4_39 : decode cJ6_bitCount_0f7a4 39 = .ok (.iadd, 1) := by decide +kernel
theorem dJ6_bitCount_0f7a4_40 : decode cJ6_bitCount_0f7a4 40 = .ok (.istore_n 0, 1) := by decide +kernel
theorem dJ6_bitCount_0f7a4_41 : decode cJ6_bitCount_0f7a4 41 = .ok (.iload_n 0, 1) := by decide +kernel
theorem dJ6_bitCount_0f7a4_42 : decode cJ6_bitCount_0f7a4 42 = .ok (.iload_n 0, 1) := by decide +kernel
theorem dJ6_bitCount_0f7a4_43 : decode cJ6_bitCount_0f7a4 43 = .ok (.bipush 16, 2) := by decide +kernel
theorem dJ6_bitCount_0f7a4_45 : decode cJ6_bitCount_0f7a4 45 = .ok (.iushr, 1) := by decide +kernel
theorem dJ6_bitCount_0f7a4_46 : decode cJ6_bitCount_0f7a4 46 = .ok (.iadd, 1) := by decide +kernel
theorem dJ6_bitCount_0f7a4_47 : decode cJ6_bitCount_0f7a4 47 = .ok (.istore_n 0, 1) := by decide +kernel
theorem dJ6_bitCount_0f7a4_48 : decode cJ6_bitCount_0f7a4 48 = .ok (.iload_n 0, 1) := by decide +kernel
theorem dJ6_bitCount_0f7a4_49 : decode cJ6_bitCount_0f7a4 49 = .ok (.bipush 63, 2) := by decide +kernel
theorem dJ6_bitCount_0f7a4_51 : decode cJ6_bitCount_0f7a4 51 = .ok (.iand, 1) := by decide +kernel
theorem dJ6_bitCount_0f7a4_52 : decode cJ6_bitCount_0f7a4 52 = .ok (.ireturn, 1) := by decide +kernel
theorem dJ9_max_7cf53_0 : decode cJ9_max_7cf53 0 = .ok (.iload_n 0, 1) := by decide +kernel
theorem dJ9_max_7cf53_1 : decode cJ9_max_7cf53 1 = .ok (.iload_n 1, 1) := by decide +kernel
theorem dJ9_max_7cf53_2 : decode cJ9_max_7cf53 2 = .ok (.if_icmp .lt 7, 3) := by decide +kernel
theorem dJ9_max_7cf53_5 : decode cJ9_max_7cf53 5 = .ok (.iload_n 0, 1) := by decide +kernel
theorem dJ9_max_7cf53_6 : decode cJ9_max_7cf53 6 = .ok (.goto 4, 3) := by decide +kernel
theorem dJ9_max_7cf53_9 : decode cJ9_max_7cf53 9 = .ok (.iload_n 1, 1) := by decide +kernel
theorem dJ9_max_7cf53_10 : decode cJ9_max_7cf53 10 = .ok (.ireturn, 1) := by decide +kernel
theorem dJ9_min_7cf53_0 : decode cJ9_min_7cf53 0 = .ok (.iload_n 0, 1) := by decide +kernel
theorem dJ9_min_7cf53_1 : decode cJ9_min_7cf53 1 = .ok (.iload_n 1, 1) := by decide +kernel
theorem dJ9_min_7cf53_2 : decode cJ9_min_7cf53 2 = .ok (.if_icmp .gt 7, 3) := by decide +kernel
theorem dJ9_min_7cf53_5 : decode cJ9_min_7cf53 5 = .ok (.iload_n 0, 1) := by decide +kernel
theorem dJ9_min_7cf53_6 : decode cJ9_min_7cf53 6 = .ok (.goto 4, 3) := by decide +kernel
theorem dJ9_min_7cf53_9 : decode cJ9_min_7cf53 9 = .ok (.iload_n 1, 1) := by decide +kernel
theorem dJ9_min_7cf53_10 : decode cJ9_min_7cf53 10 = .ok (.ireturn, 1) := by decide +kernel
theorem dJ7_fill_53178_0 : decode cJ7_fill_53178 0 = .ok (.iconst 0, 1) := by decide +kernel
theorem dJ7_fill_53178_1 : decode cJ7_fill_53178 1 = .ok (.istore_n 2, 1) := by decide +kernel
theorem dJ7_fill_53178_2 : decode cJ7_fill_53178 2 = .ok (.aload_n 0, 1) := by decide +kernel
theorem dJ7_fill_53178_3 : decode cJ7_fill_53178 3 = .ok (.arraylength, 1) := by decide +kernel
theorem dJ7_fill_53178_4 : decode cJ7_fill_53178 4 = .ok (.istore_n 3, 1) := by decide +kernel
theorem dJ7_fill_53178_5 : decode cJ7_fill_53178 5 = .ok (.iload_n 2, 1) := by decide +kernel
theorem dJ7_fill_53178_6 : decode cJ7_fill_53178 6 = .ok (.iload_n 3, 1) := by decide +kernel
theorem dJ7_fill_53178_7 : decode cJ7_fill_53178 7 = .ok (.if_icmp .ge 13, 3) := by decide +kernel
theorem dJ7_fill_53178_10 : decode cJ7_fill_53178 10 = .ok (.aload_n 0, 1) := by decide +kernel
theorem dJ7_fill_53178_11 : decode cJ7_fill_53178 11 = .ok (.iload_n 2, 1) := by decide +kernel
theorem dJ7_fill_53178_12 : decode cJ7_fill_53178 12 = .ok (.iload_n 1, 1) := by decide +kernel
theorem dJ7_fill_53178_13 : decode cJ7_fill_53178 13 = .ok (.iastore, 1) := by decide +kernel
theorem dJ7_fill_53178_14 : decode cJ7_fill_53178 14 = .ok (.iinc 2 1, 3) := by decide +kernel
theorem dJ7_fill_53178_17 : decode cJ7_fill_53178 17 = .ok (.goto (-12), 3) := by decide +kernel
theorem dJ7_fill_53178_20 : decode cJ7_fill_53178 20 = .ok (.return_, 1) := by decide +kernel
theorem dJ7_copyOf_9075b_0 : decode cJ7_copyOf_9075b 0 = .ok (.iload_n 1, 1) := by decide +kernel
theorem dJ7_copyOf_9075b_1 : decode cJ7_copyOf_9075b 1 = .ok (.aload_n 0, 1) := by decide +kernel
theorem dJ7_copyOf_9075b_2 : decode cJ7_copyOf_9075b 2 = .ok (.arraylength, 1) := by decide +kernel
theorem dJ7_copyOf_9075b_3 : decode cJ7_copyOf_9075b 3 = .ok (.if_icmp .ne 11, 3) := by decide +kernel
theorem dJ7_copyOf_9075b_6 : decode cJ7_copyOf_9075b 6 = .ok (.aload_n 0, 1) := by decide +kernel
theorem dJ7_copyOf_9075b_7 : decode cJ7_copyOf_9075b 7 = .ok (.invokevirtual 310, 3) := by decide +kernel
theorem dJ7_copyOf_9075b_10 : decode cJ7_copyOf_9075b 10 = .ok (.checkcast 311, 3) := by decide +kernel
theorem dJ7_copyOf_9075b_13 : decode cJ7_copyOf_9075b 13 = .ok (.areturn, 1) := by decide +kernel
theorem dJ7_copyOf_9075b_14 : decode cJ7_copyOf_9075b 14 = .ok (.iload_n 1, 1) := by decide +kernel
theorem dJ7_copyOf_9075b_15 : decode cJ7_copyOf_9075b 15 = .ok (.newarray .byte, 2) := by decide +kernel
theorem dJ7_copyOf_9075b_17 : decode cJ7_copyOf_9075b 17 = .ok (.astore_n 2, 1) := by decide +kernel
theorem dJ7_copyOf_9075b_18 : decode cJ7_copyOf_9075b 18 = .ok (.aload_n 0, 1) := by decide +kernel
theorem dJ7_copyOf_9075b_19 : decode cJ7_copyOf_9075b 19 = .ok (.iconst 0, 1) := by decide +kernel
theorem dJ7_copyOf_9075b_20 : decode cJ7_copyOf_9075b 20 = .ok (.aload_n 2, 1) := by decide +kernel
theorem dJ7_copyOf_9075b_21 : decode cJ7_copyOf_9075b 21 = .ok (.iconst 0, 1) := by decide +kernel
theorem dJ7_copyOf_9075b_22 : decode cJ7_copyOf_9075b 22 = .ok (.aload_n 0, 1) := by decide +kernel
theorem dJ7_copyOf_9075b_23 : decode cJ7_copyOf_9075b 23 = .ok (.arraylength, 1) := by decide +kernel
theorem dJ7_copyOf_9075b_24 : decode cJ7_copyOf_9075b 24 = .ok (.iload_n 1, 1) := by decide +kernel
theorem dJ7_copyOf_9075b_25 : decode cJ7_copyOf_9075b 25 = .ok (.invokestatic 304, 3) := by decide +kernel
theorem dJ7_copyOf_9075b_28 : decode cJ7_copyOf_9075b 28 = .ok (.invokestatic 150, 3) := by decide +kernel
theorem dJ7_copyOf_9075b_31 : decode cJ7_copyOf_9075b 31 = .ok (.aload_n 2, 1) := by decide +kernel
theorem dJ7_copyOf_9075b_32 : decode cJ7_copyOf_9075b 32 = .ok (.areturn, 1) := by decide +kernel
set_option maxRecDepth 20000 in
theorem ggL_law_X6_init : GoodIn wsL_law wsX6_init := goodIn_r _ [8, 9, 10, 11, 12, 13, 14, 15, 16, 17, 18, 19, 20, 21, 22, 23, 24, 25, 26, 27, 28, 29, 30, 31, 32, 33, 34, 35, 36, 37, 38, 39, 40, 41, 42, 43, 44, 45, 46, 47, 48, 49, 50, 51, 52, 53, 54, 55, 56, 57, 58, 59, 60, 61, 62, 63, 64, 65, 66, 67, 68, 69, 70, 71, 72, 73, 74, 75, 76, 77, 78, 79, 80, 81, 719, 720, 682, 683, 684, 685, 686, 687, 688, 689, 690, 721, 722, 723, 724, 725, 726, 727, 728, 729, 730, 731, 732, 733, 734, 735, 736, 737, 738, 739, 740, 741, 742, 743, 744] (by decide +kernel) (by decide +kernel)
set_option maxRecDepth 20000 in
theorem gL_law_X6_init : GoodIn wsL_law (wsX6_init) := ggL_law_X6_init
set_option maxRecDepth 20000 in
theorem ggL_law_X7_init : GoodIn wsL_law wsX7_init := goodIn_r _ [84, 85, 10, 11, 36, 86, 57, 87, 88, 89, 90, 91, 92, 93, 94, 95, 96, 97, 98, 99, 100, 101, 102, 103, 104, 691, 692, 693, 694, 695, 696, 697, 698, 699, 700, 701, 702, 703, 704, 705, 706, 707, 708, 709, 710, 711, 712, 713, 714, 715, 716, 717, 718] (by decide +kernel) (by decide +kernel)
set_option maxRecDepth 20000 in
theorem gL_law_X7_init : GoodIn wsL_law (wsX7_init) := ggL_law_X7_init
set_option maxRecDepth 20000 in
theorem ggL_law_X6_feed : GoodIn wsL_law wsX6_feed := goodIn_r _ [108, 15, 109, 110, 111, 112, 14, 113, 38, 37, 682, 683, 684, 685, 686, 687, 688, 689, 690, 719, 720] (by decide +kernel) (by decide +kernel)
set_option maxRecDepth 20000 in
theorem gL_law_X6_feed : GoodIn wsL_law (wsV RL 13 RX6 yX6_feed wsX6_feed) := goodIn_app (goodIn_of _ (by decide +kernel)) ggL_law_X6_feed
set_option maxRecDepth 20000 in
theorem ggL_law_X7_feed : GoodIn wsL_law wsX7_feed := goodIn_r _ [117, 118, 119, 120, 121, 5, 122, 86, 691, 692, 693, 694, 695, 696, 697, 698, 699, 700, 701, 702, 703, 704, 705, 706, 707, 708, 709, 710, 711, 712, 713, 714, 715, 716, 717, 718] (by decide +kernel) (by decide +kernel)
set_option maxRecDepth 20000 in
theorem gL_law_X7_feed : GoodIn wsL_law (wsV RL 17 RX7 yX7_feed wsX7_feed) := goodIn_app (goodIn_of _ (by decide +kernel)) ggL_law_X7_feed
set_option maxRecDepth 20000 in
theorem ggL_law_X6_law : GoodIn wsL_law wsX6_law := goodIn_r _ [126, 15, 19, 127, 128, 129, 130, 2, 131, 28, 23, 132, 133, 134, 22, 135, 59, 136, 137, 138, 139, 140, 141, 142, 143, 144, 56, 145, 146, 147, 14, 148, 38, 149, 150, 151, 152, 29, 153, 154, 155, 18, 156, 45, 46, 44, 47, 49, 157, 158, 159, 160, 48, 161, 162, 163, 164, 165, 166, 167, 50, 168, 169, 170, 171, 37, 172, 173, 174, 175, 176, 177, 178, 179, 180, 181, 182, 43, 183, 184, 185, 186, 187, 188, 189, 190, 191, 192, 193, 194, 195, 196, 197, 198, 199, 200, 201, 202, 203, 204, 205, 206, 207, 208, 209, 210, 211, 212, 213, 214, 215, 216, 217, 218, 219, 220, 221, 222, 223, 224, 225, 226, 227, 228, 229, 230, 231, 232, 233, 234, 235, 236, 36, 237, 238, 239, 240, 241, 242, 243, 244, 10, 11, 245, 246, 682, 683, 684, 685, 686, 687, 688, 689, 690, 741, 742, 743, 744, 729, 730, 731, 719, 720, 721, 722, 723, 724, 725, 726, 727, 728, 745, 746] (by decide +kernel) (by decide +kernel)
set_option maxRecDepth 20000 in
theorem gL_law_X6_law : GoodIn wsL_law (wsV RL 18 RX6 yX6_law wsX6_law) := goodIn_app (goodIn_of _ (by decide +kernel)) ggL_law_X6_law
set_option maxRecDepth 20000 in
theorem ggL_law_X7_law : GoodIn wsL_law wsX7_law := goodIn_r _ [250, 91, 251, 252, 253, 5, 254, 95, 92, 255, 256, 257, 258, 259, 260, 261, 262, 263, 264, 118, 265, 238, 225, 239, 266, 267, 268, 269, 270, 271, 272, 273, 274, 104, 87, 88, 275, 276, 277, 278, 279, 280, 281, 282, 283, 284, 285, 86, 286, 287, 288, 289, 290, 291, 292, 293, 100, 103, 101, 102, 294, 295, 296, 297, 298, 299, 300, 301, 302, 303, 304, 305, 306, 307, 308, 309, 310, 311, 312, 313, 89, 314, 315, 316, 317, 691, 692, 693, 694, 695, 696, 697, 698, 699, 700, 701, 702, 703, 704, 705, 706, 707, 708, 709, 710, 711, 712, 713, 714, 715, 716, 717, 718] (by decide +kernel) (by decide +kernel)
set_option maxRecDepth 20000 in
theorem gL_law_X7_law : GoodIn wsL_law (wsV RL 22 RX7 yX7_law wsX7_law) := goodIn_app (goodIn_of _ (by decide +kernel)) ggL_law_X7_law
set_option maxRecDepth 20000 in
theorem ggL_law_X6_picture : GoodIn wsL_law wsX6_picture := goodIn_r _ [321, 322, 15, 19, 128, 129, 130, 2, 131, 28, 23, 132, 133, 134, 22, 135, 59, 136, 137, 138, 139, 140, 141, 142, 143, 144, 56, 145, 146, 147, 14, 148, 38, 149, 150, 151, 152, 29, 153, 154, 155, 18, 156, 45, 46, 44, 47, 49, 157, 158, 159, 160, 48, 161, 162, 163, 164, 165, 166, 167, 50, 168, 169, 170, 171, 37, 172, 173, 174, 175, 176, 177, 178, 179, 180, 181, 182, 43, 183, 184, 185, 186, 187, 188, 189, 190, 191, 192, 193, 194, 195, 196, 197, 198, 199, 200, 201, 202, 203, 204, 205, 206, 207, 208, 209, 210, 211, 212, 213, 214, 215, 216, 217, 218, 219, 220, 221, 222, 223, 224, 225, 226, 227, 228, 229, 230, 231, 232, 233, 234, 235, 236, 36, 237, 238, 239, 240, 241, 242, 243, 244, 10, 11, 245, 246, 323, 324, 325, 61, 326, 68, 66, 67, 327, 741, 742, 743, 744, 682, 683, 684, 685, 686, 687, 688, 689, 690, 729, 730, 731, 719, 720, 721, 722, 723, 724, 725, 726, 727, 728, 745, 746] (by decide +kernel) (by decide +kernel)
set_option maxRecDepth 20000 in
theorem gL_law_X6_picture : GoodIn wsL_law (wsV RL 23 RX6 yX6_picture wsX6_picture) := goodIn_app (goodIn_of _ (by decide +kernel)) ggL_law_X6_picture
set_option maxRecDepth 20000 in
theorem ggL_law_X7_picture : GoodIn wsL_law wsX7_picture := goodIn_r _ [331, 94, 251, 252, 253, 5, 254, 95, 92, 255, 256, 257, 258, 259, 260, 261, 262, 263, 264, 118, 265, 238, 225, 239, 266, 267, 268, 269, 270, 271, 272, 273, 274, 104, 87, 88, 275, 276, 277, 278, 279, 280, 281, 282, 283, 284, 285, 86, 286, 287, 288, 289, 290, 291, 292, 293, 100, 103, 101, 102, 294, 295, 296, 297, 298, 299, 300, 301, 302, 303, 304, 305, 306, 307, 308, 309, 310, 311, 312, 313, 89, 332, 333, 334, 314, 315, 316, 317, 691, 692, 693, 694, 695, 696, 697, 698, 699, 700, 701, 702, 703, 704, 705, 706, 707, 708, 709, 710, 711, 712, 713, 714, 715, 716, 717, 718] (by decide +kernel) (by decide +kernel)
set_option maxRecDepth 20000 in
theorem gL_law_X7_picture : GoodIn wsL_law (wsV RL 27 RX7 yX7_picture wsX7_picture) := goodIn_app (goodIn_of _ (by decide +kernel)) ggL_law_X7_picture
set_option maxRecDepth 20000 in
theorem ggL_law_X6_fault : GoodIn wsL_law wsX6_fault := goodIn_r _ [338, 29, 682, 683, 684, 685, 686, 687, 688, 689, 690] (by decide +kernel) (by decide +kernel)
set_option maxRecDepth 20000 in
theorem gL_law_X6_fault : GoodIn wsL_law (wsV RL 28 RX6 yX6_fault wsX6_fault) := goodIn_app (goodIn_of _ (by decide +kernel)) ggL_law_X6_fault
set_option maxRecDepth 20000 in
theorem ggL_law_X7_fault : GoodIn wsL_law wsX7_fault := goodIn_r _ [342, 104, 691, 692, 693, 694, 695, 696, 697, 698, 699, 700, 701, 702, 703, 704, 705, 706, 707, 708, 709, 710, 711, 712, 713, 714, 715, 716, 717, 718] (by decide +kernel) (by decide +kernel)
set_option maxRecDepth 20000 in
theorem gL_law_X7_fault : GoodIn wsL_law (wsV RL 32 RX7 yX7_fault wsX7_fault) := goodIn_app (goodIn_of _ (by decide +kernel)) ggL_law_X7_fault
set_option maxRecDepth 20000 in
theorem ggL_law_X6_tells : GoodIn wsL_law wsX6_tells := goodIn_r _ [346, 347, 348, 349, 350, 2, 351, 23, 127, 141, 142, 143, 22, 144, 56, 136, 137, 138, 352, 353, 354, 61, 355, 68, 66, 356, 357, 358, 359, 139, 140, 745, 746, 682, 683, 684, 685, 686, 687, 688, 689, 690, 741, 742, 743, 744, 729, 730, 731] (by decide +kernel) (by decide +kernel)
set_option maxRecDepth 20000 in
theorem gL_law_X6_tells : GoodIn wsL_law (wsV RL 33 RX6 yX6_tells wsX6_tells) := goodIn_app (goodIn_of _ (by decide +kernel)) ggL_law_X6_tells
set_option maxRecDepth 20000 in
theorem ggL_law_X7_tells : GoodIn wsL_law wsX7_tells := goodIn_r _ [363, 364, 365, 366, 5, 367, 91, 94, 255, 256, 257, 258, 259, 260, 332, 333, 334, 368, 369, 370, 371, 372, 373, 374, 87, 691, 692, 693, 694, 695, 696, 697, 698, 699, 700, 701, 702, 703, 704, 705, 706, 707, 708, 709, 710, 711, 712, 713, 714, 715, 716, 717, 718] (by decide +kernel) (by decide +kernel)
set_option maxRecDepth 20000 in
theorem gL_law_X7_tells : GoodIn wsL_law (wsV RL 37 RX7 yX7_tells wsX7_tells) := goodIn_app (goodIn_of _ (by decide +kernel)) ggL_law_X7_tells
set_option maxRecDepth 20000 in
theorem ggL_law_X6_written : GoodIn wsL_law wsX6_written := goodIn_r _ [378, 348, 349, 350, 2, 351, 23, 127, 141, 142, 143, 22, 144, 56, 136, 137, 138, 352, 353, 354, 61, 355, 68, 66, 379, 380, 381, 222, 382, 246, 383, 384, 385, 386, 682, 683, 684, 685, 686, 687, 688, 689, 690, 741, 742, 743, 744, 729, 730, 731, 745, 746] (by decide +kernel) (by decide +kernel)
set_option maxRecDepth 20000 in
theorem gL_law_X6_written : GoodIn wsL_law (wsV RL 38 RX6 yX6_written wsX6_written) := goodIn_app (goodIn_of _ (by decide +kernel)) ggL_law_X6_written
set_option maxRecDepth 20000 in
theorem ggL_law_X7_written : GoodIn wsL_law wsX7_written := goodIn_r _ [390, 88, 89, 364, 365, 366, 5, 367, 91, 94, 255, 256, 257, 258, 259, 260, 332, 333, 334, 691, 692, 693, 694, 695, 696, 697, 698, 699, 700, 701, 702, 703, 704, 705, 706, 707, 708, 709, 710, 711, 712, 713, 714, 715, 716, 717, 718] (by decide +kernel) (by decide +kernel)
set_option maxRecDepth 20000 in
theorem gL_law_X7_written : GoodIn wsL_law (wsV RL 41 RX7 yX7_written wsX7_written) := goodIn_app (goodIn_of _ (by decide +kernel)) ggL_law_X7_written
set_option maxRecDepth 20000 in
theorem ggL_law_X6_needs : GoodIn wsL_law wsX6_needs := goodIn_r _ [394, 23, 395, 396, 397, 22, 398, 58, 136, 137, 138, 139, 2, 140, 399, 400, 401, 402, 682, 683, 684, 685, 686, 687, 688, 689, 690, 729, 730, 731] (by decide +kernel) (by decide +kernel)
set_option maxRecDepth 20000 in
theorem gL_law_X6_needs : GoodIn wsL_law (wsV RL 42 RX6 yX6_needs wsX6_needs) := goodIn_app (goodIn_of _ (by decide +kernel)) ggL_law_X6_needs
set_option maxRecDepth 20000 in
theorem ggL_law_X7_needs : GoodIn wsL_law wsX7_needs := goodIn_r _ [406, 93, 255, 256, 5, 257, 258, 259, 260, 407, 408, 409, 410, 691, 692, 693, 694, 695, 696, 697, 698, 699, 700, 701, 702, 703, 704, 705, 706, 707, 708, 709, 710, 711, 712, 713, 714, 715, 716, 717, 718] (by decide +kernel) (by decide +kernel)
set_option maxRecDepth 20000 in
theorem gL_law_X7_needs : GoodIn wsL_law (wsV RL 45 RX7 yX7_needs wsX7_needs) := goodIn_app (goodIn_of _ (by decide +kernel)) ggL_law_X7_needs
set_option maxRecDepth 20000 in
theorem ggL_law_X6_open : GoodIn wsL_law wsX6_open := goodIn_r _ [414, 23, 415, 416, 417, 22, 418, 419, 58, 59, 420, 142, 143, 144, 56, 136, 137, 138, 421, 133, 134, 135, 139, 2, 140, 682, 683, 684, 685, 686, 687, 688, 689, 690, 741, 742, 743, 744, 729, 730, 731] (by decide +kernel) (by decide +kernel)
set_option maxRecDepth 20000 in
theorem gL_law_X6_open : GoodIn wsL_law (wsV RL 46 RX6 yX6_open wsX6_open) := goodIn_app (goodIn_of _ (by decide +kernel)) ggL_law_X6_open
set_option maxRecDepth 20000 in
theorem ggL_law_X7_open : GoodIn wsL_law wsX7_open := goodIn_r _ [425, 426, 427, 428, 5, 429, 91, 92, 93, 255, 256, 257, 258, 259, 260, 691, 692, 693, 694, 695, 696, 697, 698, 699, 700, 701, 702, 703, 704, 705, 706, 707, 708, 709, 710, 711, 712, 713, 714, 715, 716, 717, 718] (by decide +kernel) (by decide +kernel)
set_option maxRecDepth 20000 in
theorem gL_law_X7_open : GoodIn wsL_law (wsV RL 49 RX7 yX7_open wsX7_open) := goodIn_app (goodIn_of _ (by decide +kernel)) ggL_law_X7_open
set_option maxRecDepth 20000 in
theorem ggL_law_X6_begin : GoodIn wsL_law wsX6_begin := goodIn_r _ [433, 23, 28, 27, 415, 416, 417, 22, 418, 419, 58, 59, 420, 142, 143, 144, 56, 136, 137, 138, 421, 133, 134, 135, 139, 2, 140, 434, 435, 436, 26, 437, 73, 74, 76, 77, 78, 79, 80, 81, 438, 439, 229, 440, 682, 683, 684, 685, 686, 687, 688, 689, 690, 741, 742, 743, 744, 729, 730, 731, 732, 733, 734, 735, 736, 737, 738, 739, 740] (by decide +kernel) (by decide +kernel)
set_option maxRecDepth 20000 in
theorem gL_law_X6_begin : GoodIn wsL_law (wsV RL 50 RX6 yX6_begin wsX6_begin) := goodIn_app (goodIn_of _ (by decide +kernel)) ggL_law_X6_begin
set_option maxRecDepth 20000 in
theorem ggL_law_X7_begin : GoodIn wsL_law wsX7_begin := goodIn_r _ [444, 95, 445, 446, 447, 426, 427, 428, 5, 429, 91, 92, 93, 255, 256, 257, 258, 259, 260, 691, 692, 693, 694, 695, 696, 697, 698, 699, 700, 701, 702, 703, 704, 705, 706, 707, 708, 709, 710, 711, 712, 713, 714, 715, 716, 717, 718] (by decide +kernel) (by decide +kernel)
set_option maxRecDepth 20000 in
theorem gL_law_X7_begin : GoodIn wsL_law (wsV RL 54 RX7 yX7_begin wsX7_begin) := goodIn_app (goodIn_of _ (by decide +kernel)) ggL_law_X7_begin
set_option maxRecDepth 20000 in
theorem ggL_law_X6_set : GoodIn wsL_law wsX6_set := goodIn_r _ [451, 30, 31, 32, 452, 453, 454, 2, 455, 28, 27, 456, 23, 457, 458, 459, 22, 460, 59, 136, 137, 138, 682, 683, 684, 685, 686, 687, 688, 689, 690, 732, 733, 734, 735, 736, 737, 738, 739, 740, 729, 730, 731] (by decide +kernel) (by decide +kernel)
set_option maxRecDepth 20000 in
theorem gL_law_X6_set : GoodIn wsL_law (wsV RL 55 RX6 yX6_set wsX6_set) := goodIn_app (goodIn_of _ (by decide +kernel)) ggL_law_X6_set
set_option maxRecDepth 20000 in
theorem ggL_law_X7_set : GoodIn wsL_law wsX7_set := goodIn_r _ [464, 465, 96, 97, 258, 259, 5, 260, 691, 692, 693, 694, 695, 696, 697, 698, 699, 700, 701, 702, 703, 704, 705, 706, 707, 708, 709, 710, 711, 712, 713, 714, 715, 716, 717, 718] (by decide +kernel) (by decide +kernel)
set_option maxRecDepth 20000 in
theorem gL_law_X7_set : GoodIn wsL_law (wsV RL 58 RX7 yX7_set wsX7_set) := goodIn_app (goodIn_of _ (by decide +kernel)) ggL_law_X7_set
set_option maxRecDepth 20000 in
theorem ggL_law_X6_answer : GoodIn wsL_law wsX6_answer := goodIn_r _ [469, 23, 28, 27, 470, 347, 471, 472, 473, 2, 474, 348, 349, 350, 351, 127, 141, 142, 143, 22, 144, 56, 136, 137, 138, 352, 353, 354, 61, 355, 68, 66, 132, 133, 134, 135, 59, 139, 140, 356, 357, 358, 359, 475, 476, 477, 26, 478, 77, 74, 78, 73, 79, 80, 81, 452, 453, 454, 455, 456, 32, 457, 458, 459, 460, 682, 683, 684, 685, 686, 687, 688, 689, 690, 732, 733, 734, 735, 736, 737, 738, 739, 740, 745, 746, 741, 742, 743, 744, 729, 730, 731] (by decide +kernel) (by decide +kernel)
set_option maxRecDepth 20000 in
theorem gL_law_X6_answer : GoodIn wsL_law (wsV RL 59 RX6 yX6_answer wsX6_answer) := goodIn_app (goodIn_of _ (by decide +kernel)) ggL_law_X6_answer
set_option maxRecDepth 20000 in
theorem ggL_law_X7_answer : GoodIn wsL_law wsX7_answer := goodIn_r _ [482, 95, 92, 445, 98, 99, 446, 97, 368, 369, 5, 370, 258, 259, 260, 483, 484, 485, 486, 371, 372, 373, 374, 87, 487, 488, 489, 490, 491, 492, 493, 691, 692, 693, 694, 695, 696, 697, 698, 699, 700, 701, 702, 703, 704, 705, 706, 707, 708, 709, 710, 711, 712, 713, 714, 715, 716, 717, 718] (by decide +kernel) (by decide +kernel)
set_option maxRecDepth 20000 in
theorem gL_law_X7_answer : GoodIn wsL_law (wsV RL 62 RX7 yX7_answer wsX7_answer) := goodIn_app (goodIn_of _ (by decide +kernel)) ggL_law_X7_answer
set_option maxRecDepth 20000 in
theorem ggL_law_X6_pictureOf : GoodIn wsL_law wsX6_pictureOf := goodIn_r _ [497, 23, 28, 27, 347, 30, 141, 142, 143, 22, 144, 56, 136, 137, 138, 352, 353, 354, 61, 355, 68, 66, 498, 499, 500, 26, 501, 502, 503, 504, 505, 73, 74, 357, 2, 358, 139, 140, 506, 507, 508, 509, 67, 510, 511, 512, 513, 514, 224, 225, 226, 515, 516, 517, 518, 519, 520, 521, 682, 683, 684, 685, 686, 687, 688, 689, 690, 745, 746, 729, 730, 731, 741, 742, 743, 744, 732, 733, 734, 735, 736, 737, 738, 739, 740] (by decide +kernel) (by decide +kernel)
set_option maxRecDepth 20000 in
theorem gL_law_X6_pictureOf : GoodIn wsL_law (wsV RL 63 RX6 yX6_pictureOf wsX6_pictureOf) := goodIn_app (goodIn_of _ (by decide +kernel)) ggL_law_X6_pictureOf
set_option maxRecDepth 20000 in
theorem ggL_law_X7_pictureOf : GoodIn wsL_law wsX7_pictureOf := goodIn_r _ [525, 95, 94, 465, 258, 259, 5, 260, 526, 527, 528, 529, 445, 98, 99, 332, 333, 334, 371, 372, 373, 374, 87, 487, 488, 489, 530, 531, 532, 533, 534, 535, 536, 537, 538, 224, 225, 226, 539, 540, 541, 542, 543, 544, 545, 691, 692, 693, 694, 695, 696, 697, 698, 699, 700, 701, 702, 703, 704, 705, 706, 707, 708, 709, 710, 711, 712, 713, 714, 715, 716, 717, 718] (by decide +kernel) (by decide +kernel)
set_option maxRecDepth 20000 in
theorem gL_law_X7_pictureOf : GoodIn wsL_law (wsV RL 66 RX7 yX7_pictureOf wsX7_pictureOf) := goodIn_app (goodIn_of _ (by decide +kernel)) ggL_law_X7_pictureOf
set_option maxRecDepth 20000 in
theorem ggL_law_X6_next : GoodIn wsL_law wsX6_next := goodIn_r _ [549, 23, 28, 27, 550, 141, 142, 143, 22, 144, 56, 136, 137, 138, 551, 552, 553, 2, 554, 322, 347, 30, 352, 353, 354, 61, 355, 68, 66, 498, 499, 500, 26, 501, 502, 503, 504, 505, 73, 74, 357, 358, 139, 140, 555, 511, 512, 513, 67, 514, 224, 225, 226, 515, 516, 517, 518, 519, 520, 521, 682, 683, 684, 685, 686, 687, 688, 689, 690, 732, 733, 734, 735, 736, 737, 738, 739, 740, 729, 730, 731, 741, 742, 743, 744, 745, 746] (by decide +kernel) (by decide +kernel)
set_option maxRecDepth 20000 in
theorem gL_law_X6_next : GoodIn wsL_law (wsV RL 67 RX6 yX6_next wsX6_next) := goodIn_app (goodIn_of _ (by decide +kernel)) ggL_law_X6_next
set_option maxRecDepth 20000 in
theorem ggL_law_X7_next : GoodIn wsL_law wsX7_next := goodIn_r _ [559, 95, 560, 561, 562, 5, 563, 94, 465, 526, 527, 528, 529, 445, 98, 99, 332, 333, 334, 371, 372, 373, 374, 87, 487, 488, 489, 564, 565, 566, 567, 534, 535, 536, 537, 538, 224, 225, 226, 539, 540, 541, 542, 543, 544, 545, 691, 692, 693, 694, 695, 696, 697, 698, 699, 700, 701, 702, 703, 704, 705, 706, 707, 708, 709, 710, 711, 712, 713, 714, 715, 716, 717, 718] (by decide +kernel) (by decide +kernel)
set_option maxRecDepth 20000 in
theorem gL_law_X7_next : GoodIn wsL_law (wsV RL 70 RX7 yX7_next wsX7_next) := goodIn_app (goodIn_of _ (by decide +kernel)) ggL_law_X7_next
set_option maxRecDepth 20000 in
theorem ggL_law_X6_longest : GoodIn wsL_law wsX6_longest := goodIn_r _ [571, 23, 28, 322, 572, 224, 225, 226, 141, 142, 143, 22, 144, 56, 136, 137, 138, 506, 507, 508, 61, 509, 68, 67, 510, 511, 512, 513, 514, 515, 516, 517, 518, 519, 520, 521, 139, 2, 140, 682, 683, 684, 685, 686, 687, 688, 689, 690, 741, 742, 743, 744, 729, 730, 731] (by decide +kernel) (by decide +kernel)
set_option maxRecDepth 20000 in
theorem gL_law_X6_longest : GoodIn wsL_law (wsV RL 71 RX6 yX6_longest wsX6_longest) := goodIn_app (goodIn_of _ (by decide +kernel)) ggL_law_X6_longest
set_option maxRecDepth 20000 in
theorem ggL_law_X7_longest : GoodIn wsL_law wsX7_longest := goodIn_r _ [576, 95, 94, 538, 224, 225, 226, 530, 531, 532, 5, 533, 534, 535, 536, 537, 539, 540, 541, 542, 543, 544, 545, 332, 333, 334, 371, 372, 373, 374, 87, 691, 692, 693, 694, 695, 696, 697, 698, 699, 700, 701, 702, 703, 704, 705, 706, 707, 708, 709, 710, 711, 712, 713, 714, 715, 716, 717, 718] (by decide +kernel) (by decide +kernel)
set_option maxRecDepth 20000 in
theorem gL_law_X7_longest : GoodIn wsL_law (wsV RL 74 RX7 yX7_longest wsX7_longest) := goodIn_app (goodIn_of _ (by decide +kernel)) ggL_law_X7_longest
set_option maxRecDepth 20000 in
theorem ggL_law_X6_say : GoodIn wsL_law wsX6_say := goodIn_r _ [580, 27, 581, 15, 19, 582, 471, 472, 473, 2, 474, 28, 348, 349, 350, 351, 23, 127, 141, 142, 143, 22, 144, 56, 136, 137, 138, 352, 353, 354, 61, 355, 68, 66, 145, 146, 147, 14, 148, 38, 149, 150, 151, 152, 29, 153, 154, 155, 18, 156, 45, 46, 44, 47, 49, 157, 158, 159, 160, 48, 161, 162, 163, 164, 165, 166, 167, 50, 168, 169, 170, 171, 37, 172, 173, 174, 175, 176, 177, 178, 179, 180, 181, 182, 43, 183, 184, 185, 186, 187, 188, 189, 190, 191, 192, 193, 194, 195, 196, 197, 198, 199, 200, 201, 202, 203, 204, 205, 206, 207, 208, 209, 210, 211, 212, 213, 214, 215, 583, 584, 585, 26, 586, 76, 75, 682, 683, 684, 685, 686, 687, 688, 689, 690, 732, 733, 734, 735, 736, 737, 738, 739, 740, 721, 722, 723, 724, 725, 726, 727, 728, 741, 742, 743, 744, 729, 730, 731, 719, 720] (by decide +kernel) (by decide +kernel)
set_option maxRecDepth 20000 in
theorem gL_law_X6_say : GoodIn wsL_law (wsV RL 75 RX6 yX6_say wsX6_say) := goodIn_app (goodIn_of _ (by decide +kernel)) ggL_law_X6_say
set_option maxRecDepth 20000 in
theorem ggL_law_X7_say : GoodIn wsL_law wsX7_say := goodIn_r _ [590, 95, 447, 261, 262, 263, 5, 264, 118, 265, 238, 225, 239, 258, 259, 260, 266, 267, 268, 269, 270, 271, 272, 273, 274, 104, 87, 88, 275, 276, 277, 278, 279, 280, 281, 282, 283, 284, 285, 86, 286, 287, 288, 289, 290, 291, 292, 293, 100, 103, 101, 102, 294, 295, 296, 297, 298, 299, 300, 301, 302, 303, 304, 305, 306, 307, 308, 309, 310, 311, 312, 313, 89, 314, 315, 316, 317, 691, 692, 693, 694, 695, 696, 697, 698, 699, 700, 701, 702, 703, 704, 705, 706, 707, 708, 709, 710, 711, 712, 713, 714, 715, 716, 717, 718] (by decide +kernel) (by decide +kernel)
set_option maxRecDepth 20000 in
theorem gL_law_X7_say : GoodIn wsL_law (wsV RL 79 RX7 yX7_say wsX7_say) := goodIn_app (goodIn_of _ (by decide +kernel)) ggL_law_X7_say
set_option maxRecDepth 20000 in
theorem ggL_law_X6_judge : GoodIn wsL_law wsX6_judge := goodIn_r _ [594, 15, 19, 582, 347, 471, 472, 473, 2, 474, 28, 348, 349, 350, 351, 23, 127, 141, 142, 143, 22, 144, 56, 136, 137, 138, 352, 353, 354, 61, 355, 68, 66, 145, 146, 147, 14, 148, 38, 149, 150, 151, 152, 29, 153, 154, 155, 18, 156, 45, 46, 44, 47, 49, 157, 158, 159, 160, 48, 161, 162, 163, 164, 165, 166, 167, 50, 168, 169, 170, 171, 37, 172, 173, 174, 175, 176, 177, 178, 179, 180, 181, 182, 43, 183, 184, 185, 186, 187, 188, 189, 190, 191, 192, 193, 194, 195, 196, 197, 198, 199, 200, 201, 202, 203, 204, 205, 206, 207, 208, 209, 210, 211, 212, 213, 214, 215, 595, 516, 517, 518, 519, 520, 521, 682, 683, 684, 685, 686, 687, 688, 689, 690, 721, 722, 723, 724, 725, 726, 727, 728, 745, 746, 741, 742, 743, 744, 729, 730, 731, 719, 720] (by decide +kernel) (by decide +kernel)
set_option maxRecDepth 20000 in
theorem gL_law_X6_judge : GoodIn wsL_law (wsV RL 80 RX6 yX6_judge wsX6_judge) := goodIn_app (goodIn_of _ (by decide +kernel)) ggL_law_X6_judge
set_option maxRecDepth 20000 in
theorem ggL_law_X7_judge : GoodIn wsL_law wsX7_judge := goodIn_r _ [599, 95, 261, 262, 263, 5, 264, 118, 265, 238, 225, 239, 258, 259, 260, 266, 267, 268, 269, 270, 271, 272, 273, 274, 104, 87, 88, 275, 276, 277, 278, 279, 280, 281, 282, 283, 284, 285, 86, 286, 287, 288, 289, 290, 291, 292, 293, 100, 103, 101, 102, 294, 295, 296, 297, 298, 299, 300, 301, 302, 303, 304, 305, 306, 307, 308, 309, 310, 311, 312, 313, 89, 371, 372, 373, 374, 487, 488, 489, 691, 692, 693, 694, 695, 696, 697, 698, 699, 700, 701, 702, 703, 704, 705, 706, 707, 708, 709, 710, 711, 712, 713, 714, 715, 716, 717, 718] (by decide +kernel) (by decide +kernel)
set_option maxRecDepth 20000 in
theorem gL_law_X7_judge : GoodIn wsL_law (wsV RL 83 RX7 yX7_judge wsX7_judge) := goodIn_app (goodIn_of _ (by decide +kernel)) ggL_law_X7_judge
set_option maxRecDepth 20000 in
theorem ggL_law_X6_clash : GoodIn wsL_law wsX6_clash := goodIn_r _ [603, 27, 604, 605, 606, 26, 607, 76, 75, 608, 609, 610, 611, 78, 77, 612, 613, 2, 614, 359, 139, 140, 615, 616, 617, 618, 682, 683, 684, 685, 686, 687, 688, 689, 690, 732, 733, 734, 735, 736, 737, 738, 739, 740] (by decide +kernel) (by decide +kernel)
set_option maxRecDepth 20000 in
theorem gL_law_X6_clash : GoodIn wsL_law (wsV RL 84 RX6 yX6_clash wsX6_clash) := goodIn_app (goodIn_of _ (by decide +kernel)) ggL_law_X6_clash
set_option maxRecDepth 20000 in
theorem ggL_law_X7_clash : GoodIn wsL_law wsX7_clash := goodIn_r _ [622, 95, 447, 258, 259, 5, 260, 371, 372, 373, 374, 87, 623, 624, 625, 626, 445, 98, 99, 691, 692, 693, 694, 695, 696, 697, 698, 699, 700, 701, 702, 703, 704, 705, 706, 707, 708, 709, 710, 711, 712, 713, 714, 715, 716, 717, 718] (by decide +kernel) (by decide +kernel)
set_option maxRecDepth 20000 in
theorem gL_law_X7_clash : GoodIn wsL_law (wsV RL 87 RX7 yX7_clash wsX7_clash) := goodIn_app (goodIn_of _ (by decide +kernel)) ggL_law_X7_clash
set_option maxRecDepth 20000 in
theorem ggL_law_X6_bridge : GoodIn wsL_law wsX6_bridge := goodIn_r _ [630, 23, 28, 27, 550, 141, 142, 143, 22, 144, 56, 136, 137, 138, 356, 357, 2, 358, 551, 552, 553, 554, 322, 347, 30, 352, 353, 354, 61, 355, 68, 66, 498, 499, 500, 26, 501, 502, 503, 504, 505, 73, 74, 139, 140, 631, 632, 633, 634, 515, 516, 517, 518, 519, 520, 521, 635, 636, 637, 638, 69, 67, 327, 682, 683, 684, 685, 686, 687, 688, 689, 690, 732, 733, 734, 735, 736, 737, 738, 739, 740, 729, 730, 731, 741, 742, 743, 744, 745, 746] (by decide +kernel) (by decide +kernel)
set_option maxRecDepth 20000 in
theorem gL_law_X6_bridge : GoodIn wsL_law (wsV RL 88 RX6 yX6_bridge wsX6_bridge) := goodIn_app (goodIn_of _ (by decide +kernel)) ggL_law_X6_bridge
set_option maxRecDepth 20000 in
theorem ggL_law_X7_bridge : GoodIn wsL_law wsX7_bridge := goodIn_r _ [642, 95, 368, 369, 5, 370, 258, 259, 260, 560, 561, 562, 563, 94, 465, 526, 527, 528, 529, 445, 98, 99, 332, 333, 334, 371, 372, 373, 374, 87, 487, 488, 489, 564, 565, 566, 567, 542, 543, 544, 545, 539, 540, 541, 691, 692, 693, 694, 695, 696, 697, 698, 699, 700, 701, 702, 703, 704, 705, 706, 707, 708, 709, 710, 711, 712, 713, 714, 715, 716, 717, 718] (by decide +kernel) (by decide +kernel)
set_option maxRecDepth 20000 in
theorem gL_law_X7_bridge : GoodIn wsL_law (wsV RL 91 RX7 yX7_bridge wsX7_bridge) := goodIn_app (goodIn_of _ (by decide +kernel)) ggL_law_X7_bridge
set_option maxRecDepth 20000 in
theorem ggL_law_X6_reveal : GoodIn wsL_law wsX6_reveal := goodIn_r _ [646, 27, 347, 31, 471, 472, 473, 2, 474, 28, 348, 349, 350, 351, 23, 127, 141, 142, 143, 22, 144, 56, 136, 137, 138, 352, 353, 354, 61, 355, 68, 66, 356, 357, 358, 647, 503, 504, 26, 505, 73, 74, 139, 140, 359, 682, 683, 684, 685, 686, 687, 688, 689, 690, 745, 746, 741, 742, 743, 744, 729, 730, 731, 732, 733, 734, 735, 736, 737, 738, 739, 740] (by decide +kernel) (by decide +kernel)
set_option maxRecDepth 20000 in
theorem gL_law_X6_reveal : GoodIn wsL_law (wsV RL 92 RX6 yX6_reveal wsX6_reveal) := goodIn_app (goodIn_of _ (by decide +kernel)) ggL_law_X6_reveal
set_option maxRecDepth 20000 in
theorem ggL_law_X7_reveal : GoodIn wsL_law wsX7_reveal := goodIn_r _ [651, 95, 96, 368, 369, 5, 370, 258, 259, 260, 652, 653, 654, 655, 445, 98, 483, 484, 485, 486, 99, 371, 372, 373, 374, 87, 487, 488, 489, 691, 692, 693, 694, 695, 696, 697, 698, 699, 700, 701, 702, 703, 704, 705, 706, 707, 708, 709, 710, 711, 712, 713, 714, 715, 716, 717, 718] (by decide +kernel) (by decide +kernel)
set_option maxRecDepth 20000 in
theorem gL_law_X7_reveal : GoodIn wsL_law (wsV RL 95 RX7 yX7_reveal wsX7_reveal) := goodIn_app (goodIn_of _ (by decide +kernel)) ggL_law_X7_reveal
set_option maxRecDepth 20000 in
theorem ggL_law_X6_caseOf : GoodIn wsL_law wsX6_caseOf := goodIn_r _ [659, 27, 347, 471, 472, 473, 2, 474, 28, 348, 349, 350, 351, 23, 127, 141, 142, 143, 22, 144, 56, 136, 137, 138, 352, 353, 354, 61, 355, 68, 66, 356, 357, 358, 660, 661, 662, 26, 663, 73, 74, 647, 503, 504, 505, 139, 140, 664, 665, 666, 667, 77, 78, 682, 683, 684, 685, 686, 687, 688, 689, 690, 745, 746, 741, 742, 743, 744, 729, 730, 731, 732, 733, 734, 735, 736, 737, 738, 739, 740] (by decide +kernel) (by decide +kernel)
set_option maxRecDepth 20000 in
theorem gL_law_X6_caseOf : GoodIn wsL_law (wsV RL 96 RX6 yX6_caseOf wsX6_caseOf) := goodIn_app (goodIn_of _ (by decide +kernel)) ggL_law_X6_caseOf
set_option maxRecDepth 20000 in
theorem ggL_law_X7_caseOf : GoodIn wsL_law wsX7_caseOf := goodIn_r _ [671, 95, 445, 368, 369, 5, 370, 258, 259, 260, 490, 491, 492, 493, 98, 487, 488, 489, 652, 653, 654, 655, 483, 484, 485, 486, 99, 371, 372, 373, 374, 87, 623, 624, 625, 626, 691, 692, 693, 694, 695, 696, 697, 698, 699, 700, 701, 702, 703, 704, 705, 706, 707, 708, 709, 710, 711, 712, 713, 714, 715, 716, 717, 718] (by decide +kernel) (by decide +kernel)
set_option maxRecDepth 20000 in
theorem gL_law_X7_caseOf : GoodIn wsL_law (wsV RL 99 RX7 yX7_caseOf wsX7_caseOf) := goodIn_app (goodIn_of _ (by decide +kernel)) ggL_law_X7_caseOf
set_option maxRecDepth 20000 in
theorem ggL_law_X6_count : GoodIn wsL_law wsX6_count := goodIn_r _ [675, 28, 27, 470, 676, 581, 23, 677, 15, 109, 141, 142, 143, 22, 144, 56, 136, 137, 138, 551, 552, 553, 2, 554, 322, 347, 30, 352, 353, 354, 61, 355, 68, 66, 498, 499, 500, 26, 501, 502, 503, 504, 505, 73, 74, 357, 358, 139, 140, 595, 516, 517, 518, 519, 520, 521, 132, 133, 134, 135, 59, 682, 683, 684, 685, 686, 687, 688, 689, 690, 732, 733, 734, 735, 736, 737, 738, 739, 740, 729, 730, 731, 719, 720, 741, 742, 743, 744, 745, 746] (by decide +kernel) (by decide +kernel)
set_option maxRecDepth 20000 in
theorem gL_law_X6_count : GoodIn wsL_law (wsV RL 100 RX6 yX6_count wsX6_count) := goodIn_app (goodIn_of _ (by decide +kernel)) ggL_law_X6_count
set_option maxRecDepth 20000 in
theorem ggL_law_X7_count : GoodIn wsL_law wsX7_count := goodIn_r _ [681, 95, 445, 446, 447, 92, 118, 560, 561, 562, 5, 563, 94, 465, 526, 527, 528, 529, 98, 99, 332, 333, 334, 371, 372, 373, 374, 87, 487, 488, 489, 539, 540, 541, 691, 692, 693, 694, 695, 696, 697, 698, 699, 700, 701, 702, 703, 704, 705, 706, 707, 708, 709, 710, 711, 712, 713, 714, 715, 716, 717, 718] (by decide +kernel) (by decide +kernel)
set_option maxRecDepth 20000 in
theorem gL_law_X7_count : GoodIn wsL_law (wsV RL 103 RX7 yX7_count wsX7_count) := goodIn_app (goodIn_of _ (by decide +kernel)) ggL_law_X7_count
theorem dL_law_0 : decode cL_law 0 = .ok (.new 7, 3) := by decide +kernel
theorem dL_law_3 : decode cL_law 3 = .ok (.dup, 1) := by decide +kernel
theorem dL_law_4 : decode cL_law 4 = .ok (.invokespecial 9, 3) := by decide +kernel
theorem dL_law_7 : decode cL_law 7 = .ok (.astore_n 1, 1) := by decide +kernel
theorem dL_law_8 : decode cL_law 8 = .ok (.new 10, 3) := by decide +kernel
theorem dL_law_11 : decode cL_law 11 = .ok (.dup, 1) := by decide +kernel
theorem dL_law_12 : decode cL_law 12 = .ok (.invokespecial 12, 3) := by decide +kernel
theorem dL_law_15 : decode cL_law 15 = .ok (.astore_n 2, 1) := by decide +kernel
theorem dL_law_16 : decode cL_law 16 = .ok (.iconst 0, 1) := by decide +kernel
theorem dL_law_17 : decode cL_law 17 = .ok (.istore_n 3, 1) := by decide +kernel
theorem dL_law_18 : decode cL_law 18 = .ok (.iload_n 3, 1) := by decide +kernel
theorem dL_law_19 : decode cL_law 19 = .ok (.aload_n 0, 1) := by decide +kernel
theorem dL_law_20 : decode cL_law 20 = .ok (.arraylength, 1) := by decide +kernel
theorem dL_law_21 : decode cL_law 21 = .ok (.bipush 6, 2) := by decide +kernel
theorem dL_law_23 : decode cL_law 23 = .ok (.isub, 1) := by decide +kernel
theorem dL_law_24 : decode cL_law 24 = .ok (.if_icmp .gt 707, 3) := by decide +kernel
theorem dL_law_27 : decode cL_law 27 = .ok (.aload_n 0, 1) := by decide +kernel
theorem dL_law_28 : decode cL_law 28 = .ok (.iload_n 3, 1) := by decide +kernel
theorem dL_law_29 : decode cL_law 29 = .ok (.iaload, 1) := by decide +kernel
theorem dL_law_30 : decode cL_law 30 = .ok (.bipush 31, 2) := by decide +kernel
theorem dL_law_32 : decode cL_law 32 = .ok (.iand, 1) := by decide +kernel
theorem dL_law_33 : decode cL_law 33 = .ok (.tableswitch 692 0 20 #[99, 162, 195, 228, 241, 284, 327, 360, 373, 396, 429, 462, 495, 508, 521, 544, 567, 590, 613, 636, 669], 99) := by decide +kernel
theorem dL_law_132 : decode cL_law 132 = .ok (.aload_n 1, 1) := by decide +kernel
theorem dL_law_133 : decode cL_law 133 = .ok (.aload_n 0, 1) := by decide +kernel
theorem dL_law_134 : decode cL_law 134 = .ok (.iload_n 3, 1) := by decide +kernel
theorem dL_law_135 : decode cL_law 135 = .ok (.iconst 1, 1) := by decide +kernel
theorem dL_law_136 : decode cL_law 136 = .ok (.iadd, 1) := by decide +kernel
theorem dL_law_137 : decode cL_law 137 = .ok (.iaload, 1) := by decide +kernel
theorem dL_law_138 : decode cL_law 138 = .ok (.aload_n 0, 1) := by decide +kernel
theorem dL_law_139 : decode cL_law 139 = .ok (.iload_n 3, 1) := by decide +kernel
theorem dL_law_140 : decode cL_law 140 = .ok (.iconst 2, 1) := by decide +kernel
theorem dL_law_141 : decode cL_law 141 = .ok (.iadd, 1) := by decide +kernel
theorem dL_law_142 : decode cL_law 142 = .ok (.iaload, 1) := by decide +kernel
theorem dL_law_143 : decode cL_law 143 = .ok (.aload_n 0, 1) := by decide +kernel
theorem dL_law_144 : decode cL_law 144 = .ok (.iload_n 3, 1) := by decide +kernel
theorem dL_law_145 : decode cL_law 145 = .ok (.iconst 3, 1) := by decide +kernel
theorem dL_law_146 : decode cL_law 146 = .ok (.iadd, 1) := by decide +kernel
theorem dL_law_147 : decode cL_law 147 = .ok (.iaload, 1) := by decide +kernel
theorem dL_law_148 : decode cL_law 148 = .ok (.aload_n 0, 1) := by decide +kernel
theorem dL_law_149 : decode cL_law 149 = .ok (.iload_n 3, 1) := by decide +kernel
theorem dL_law_150 : decode cL_law 150 = .ok (.iconst 4, 1) := by decide +kernel
theorem dL_law_151 : decode cL_law 151 = .ok (.iadd, 1) := by decide +kernel
theorem dL_law_152 : decode cL_law 152 = .ok (.iaload, 1) := by decide +kernel
theorem dL_law_153 : decode cL_law 153 = .ok (.aload_n 0, 1) := by decide +kernel
theorem dL_law_154 : decode cL_law 154 = .ok (.iload_n 3, 1) := by decide +kernel
theorem dL_law_155 : decode cL_law 155 = .ok (.iconst 5, 1) := by decide +kernel
theorem dL_law_156 : decode cL_law 156 = .ok (.iadd, 1) := by decide +kernel
theorem dL_law_157 : decode cL_law 157 = .ok (.iaload, 1) := by decide +kernel
theorem dL_law_158 : decode cL_law 158 = .ok (.invokevirtual 13, 3) := by decide +kernel
theorem dL_law_161 : decode cL_law 161 = .ok (.pop, 1) := by decide +kernel
theorem dL_law_162 : decode cL_law 162 = .ok (.aload_n 2, 1) := by decide +kernel
theorem dL_law_163 : decode cL_law 163 = .ok (.aload_n 0, 1) := by decide +kernel
theorem dL_law_164 : decode cL_law 164 = .ok (.iload_n 3, 1) := by decide +kernel
theorem dL_law_165 : decode cL_law 165 = .ok (.iconst 1, 1) := by decide +kernel
theorem dL_law_166 : decode cL_law 166 = .ok (.iadd, 1) := by decide +kernel
theorem dL_law_167 : decode cL_law 167 = .ok (.iaload, 1) := by decide +kernel
theorem dL_law_168 : decode cL_law 168 = .ok (.aload_n 0, 1) := by decide +kernel
theorem dL_law_169 : decode cL_law 169 = .ok (.iload_n 3, 1) := by decide +kernel
theorem dL_law_170 : decode cL_law 170 = .ok (.iconst 2, 1) := by decide +kernel
theorem dL_law_171 : decode cL_law 171 = .ok (.iadd, 1) := by decide +kernel
theorem dL_law_172 : decode cL_law 172 = .ok (.iaload, 1) := by decide +kernel
theorem dL_law_173 : decode cL_law 173 = .ok (.aload_n 0, 1) := by decide +kernel
theorem dL_law_174 : decode cL_law 174 = .ok (.iload_n 3, 1) := by decide +kernel
theorem dL_law_175 : decode cL_law 175 = .ok (.iconst 3, 1) := by decide +kernel
theorem dL_law_176 : decode cL_law 176 = .ok (.iadd, 1) := by decide +kernel
theorem dL_law_177 : decode cL_law 177 = .ok (.iaload, 1) := by decide +kernel
theorem dL_law_178 : decode cL_law 178 = .ok (.aload_n 0, 1) := by decide +kernel
theorem dL_law_179 : decode cL_law 179 = .ok (.iload_n 3, 1) := by decide +kernel
theorem dL_law_180 : decode cL_law 180 = .ok (.iconst 4, 1) := by decide +kernel
theorem dL_law_181 : decode cL_law 181 = .ok (.iadd, 1) := by decide +kernel
theorem dL_law_182 : decode cL_law 182 = .ok (.iaload, 1) := by decide +kernel
theorem dL_law_183 : decode cL_law 183 = .ok (.aload_n 0, 1) := by decide +kernel
theorem dL_law_184 : decode cL_law 184 = .ok (.iload_n 3, 1) := by decide +kernel
theorem dL_law_185 : decode cL_law 185 = .ok (.iconst 5, 1) := by decide +kernel
theorem dL_law_186 : decode cL_law 186 = .ok (.iadd, 1) := by decide +kernel
theorem dL_law_187 : decode cL_law 187 = .ok (.iaload, 1) := by decide +kernel
theorem dL_law_188 : decode cL_law 188 = .ok (.invokevirtual 17, 3) := by decide +kernel
theorem dL_law_191 : decode cL_law 191 = .ok (.pop, 1) := by decide +kernel
theorem dL_law_192 : decode cL_law 192 = .ok (.goto 533, 3) := by decide +kernel
theorem dL_law_195 : decode cL_law 195 = .ok (.aload_n 1, 1) := by decide +kernel
theorem dL_law_196 : decode cL_law 196 = .ok (.aload_n 0, 1) := by decide +kernel
theorem dL_law_197 : decode cL_law 197 = .ok (.iload_n 3, 1) := by decide +kernel
theorem dL_law_198 : decode cL_law 198 = .ok (.iconst 1, 1) := by decide +kernel
theorem dL_law_199 : decode cL_law 199 = .ok (.iadd, 1) := by decide +kernel
theorem dL_law_200 : decode cL_law 200 = .ok (.iaload, 1) := by decide +kernel
theorem dL_law_201 : decode cL_law 201 = .ok (.aload_n 0, 1) := by decide +kernel
theorem dL_law_202 : decode cL_law 202 = .ok (.iload_n 3, 1) := by decide +kernel
theorem dL_law_203 : decode cL_law 203 = .ok (.iconst 2, 1) := by decide +kernel
theorem dL_law_204 : decode cL_law 204 = .ok (.iadd, 1) := by decide +kernel
theorem dL_law_205 : decode cL_law 205 = .ok (.iaload, 1) := by decide +kernel
theorem dL_law_206 : decode cL_law 206 = .ok (.invokevirtual 18, 3) := by decide +kernel
theorem dL_law_209 : decode cL_law 209 = .ok (.pop, 1) := by decide +kernel
theorem dL_law_210 : decode cL_law 210 = .ok (.aload_n 2, 1) := by decide +kernel
theorem dL_law_211 : decode cL_law 211 = .ok (.aload_n 0, 1) := by decide +kernel
theorem dL_law_212 : decode cL_law 212 = .ok (.iload_n 3, 1) := by decide +kernel
theorem dL_law_213 : decode cL_law 213 = .ok (.iconst 1, 1) := by decide +kernel
theorem dL_law_214 : decode cL_law 214 = .ok (.iadd, 1) := by decide +kernel
theorem dL_law_215 : decode cL_law 215 = .ok (.iaload, 1) := by decide +kernel
theorem dL_law_216 : decode cL_law 216 = .ok (.aload_n 0, 1) := by decide +kernel
theorem dL_law_217 : decode cL_law 217 = .ok (.iload_n 3, 1) := by decide +kernel
theorem dL_law_218 : decode cL_law 218 = .ok (.iconst 2, 1) := by decide +kernel
theorem dL_law_219 : decode cL_law 219 = .ok (.iadd, 1) := by decide +kernel
theorem dL_law_220 : decode cL_law 220 = .ok (.iaload, 1) := by decide +kernel
theorem dL_law_221 : decode cL_law 221 = .ok (.invokevirtual 22, 3) := by decide +kernel
theorem dL_law_224 : decode cL_law 224 = .ok (.pop, 1) := by decide +kernel
theorem dL_law_225 : decode cL_law 225 = .ok (.goto 500, 3) := by decide +kernel
theorem dL_law_228 : decode cL_law 228 = .ok (.aload_n 1, 1) := by decide +kernel
theorem dL_law_229 : decode cL_law 229 = .ok (.aload_n 0, 1) := by decide +kernel
theorem dL_law_230 : decode cL_law 230 = .ok (.iload_n 3, 1) := by decide +kernel
theorem dL_law_231 : decode cL_law 231 = .ok (.iconst 1, 1) := by decide +kernel
theorem dL_law_232 : decode cL_law 232 = .ok (.iadd, 1) := by decide +kernel
theorem dL_law_233 : decode cL_law 233 = .ok (.iaload, 1) := by decide +kernel
theorem dL_law_234 : decode cL_law 234 = .ok (.aload_n 0, 1) := by decide +kernel
theorem dL_law_235 : decode cL_law 235 = .ok (.iload_n 3, 1) := by decide +kernel
theorem dL_law_236 : decode cL_law 236 = .ok (.iconst 2, 1) := by decide +kernel
theorem dL_law_237 : decode cL_law 237 = .ok (.iadd, 1) := by decide +kernel
theorem dL_law_238 : decode cL_law 238 = .ok (.iaload, 1) := by decide +kernel
theorem dL_law_239 : decode cL_law 239 = .ok (.invokevirtual 23, 3) := by decide +kernel
theorem dL_law_242 : decode cL_law 242 = .ok (.pop, 1) := by decide +kernel
theorem dL_law_243 : decode cL_law 243 = .ok (.aload_n 2, 1) := by decide +kernel
theorem dL_law_244 : decode cL_law 244 = .ok (.aload_n 0, 1) := by decide +kernel
theorem dL_law_245 : decode cL_law 245 = .ok (.iload_n 3, 1) := by decide +kernel
theorem dL_law_246 : decode cL_law 246 = .ok (.iconst 1, 1) := by decide +kernel
theorem dL_law_247 : decode cL_law 247 = .ok (.iadd, 1) := by decide +kernel
theorem dL_law_248 : decode cL_law 248 = .ok (.iaload, 1) := by decide +kernel
theorem dL_law_249 : decode cL_law 249 = .ok (.aload_n 0, 1) := by decide +kernel
theorem dL_law_250 : decode cL_law 250 = .ok (.iload_n 3, 1) := by decide +kernel
theorem dL_law_251 : decode cL_law 251 = .ok (.iconst 2, 1) := by decide +kernel
theorem dL_law_252 : decode cL_law 252 = .ok (.iadd, 1) := by decide +kernel
theorem dL_law_253 : decode cL_law 253 = .ok (.iaload, 1) := by decide +kernel
theorem dL_law_254 : decode cL_law 254 = .ok (.invokevirtual 27, 3) := by decide +kernel
theorem dL_law_257 : decode cL_law 257 = .ok (.pop, 1) := by decide +kernel
theorem dL_law_258 : decode cL_law 258 = .ok (.goto 467, 3) := by decide +kernel
theorem dL_law_261 : decode cL_law 261 = .ok (.aload_n 1, 1) := by decide +kernel
theorem dL_law_262 : decode cL_law 262 = .ok (.invokevirtual 28, 3) := by decide +kernel
theorem dL_law_265 : decode cL_law 265 = .ok (.pop, 1) := by decide +kernel
theorem dL_law_266 : decode cL_law 266 = .ok (.aload_n 2, 1) := by decide +kernel
theorem dL_law_267 : decode cL_law 267 = .ok (.invokevirtual 32, 3) := by decide +kernel
theorem dL_law_270 : decode cL_law 270 = .ok (.pop, 1) := by decide +kernel
theorem dL_law_271 : decode cL_law 271 = .ok (.goto 454, 3) := by decide +kernel
theorem dL_law_274 : decode cL_law 274 = .ok (.aload_n 1, 1) := by decide +kernel
theorem dL_law_275 : decode cL_law 275 = .ok (.aload_n 0, 1) := by decide +kernel
theorem dL_law_276 : decode cL_law 276 = .ok (.iload_n 3, 1) := by decide +kernel
theorem dL_law_277 : decode cL_law 277 = .ok (.iconst 1, 1) := by decide +kernel
theorem dL_law_278 : decode cL_law 278 = .ok (.iadd, 1) := by decide +kernel
theorem dL_law_279 : decode cL_law 279 = .ok (.iaload, 1) := by decide +kernel
theorem dL_law_280 : decode cL_law 280 = .ok (.aload_n 0, 1) := by decide +kernel
theorem dL_law_281 : decode cL_law 281 = .ok (.iload_n 3, 1) := by decide +kernel
theorem dL_law_282 : decode cL_law 282 = .ok (.iconst 2, 1) := by decide +kernel
theorem dL_law_283 : decode cL_law 283 = .ok (.iadd, 1) := by decide +kernel
theorem dL_law_284 : decode cL_law 284 = .ok (.iaload, 1) := by decide +kernel
theorem dL_law_285 : decode cL_law 285 = .ok (.aload_n 0, 1) := by decide +kernel
theorem dL_law_286 : decode cL_law 286 = .ok (.iload_n 3, 1) := by decide +kernel
theorem dL_law_287 : decode cL_law 287 = .ok (.iconst 3, 1) := by decide +kernel
theorem dL_law_288 : decode cL_law 288 = .ok (.iadd, 1) := by decide +kernel
theorem dL_law_289 : decode cL_law 289 = .ok (.iaload, 1) := by decide +kernel
theorem dL_law_290 : decode cL_law 290 = .ok (.invokevirtual 33, 3) := by decide +kernel
theorem dL_law_293 : decode cL_law 293 = .ok (.pop, 1) := by decide +kernel
theorem dL_law_294 : decode cL_law 294 = .ok (.aload_n 2, 1) := by decide +kernel
theorem dL_law_295 : decode cL_law 295 = .ok (.aload_n 0, 1) := by decide +kernel
theorem dL_law_296 : decode cL_law 296 = .ok (.iload_n 3, 1) := by decide +kernel
theorem dL_law_297 : decode cL_law 297 = .ok (.iconst 1, 1) := by decide +kernel
theorem dL_law_298 : decode cL_law 298 = .ok (.iadd, 1) := by decide +kernel
theorem dL_law_299 : decode cL_law 299 = .ok (.iaload, 1) := by decide +kernel
theorem dL_law_300 : decode cL_law 300 = .ok (.aload_n 0, 1) := by decide +kernel
theorem dL_law_301 : decode cL_law 301 = .ok (.iload_n 3, 1) := by decide +kernel
theorem dL_law_302 : decode cL_law 302 = .ok (.iconst 2, 1) := by decide +kernel
theorem dL_law_303 : decode cL_law 303 = .ok (.iadd, 1) := by decide +kernel
theorem dL_law_304 : decode cL_law 304 = .ok (.iaload, 1) := by decide +kernel
theorem dL_law_305 : decode cL_law 305 = .ok (.aload_n 0, 1) := by decide +kernel
theorem dL_law_306 : decode cL_law 306 = .ok (.iload_n 3, 1) := by decide +kernel
theorem dL_law_307 : decode cL_law 307 = .ok (.iconst 3, 1) := by decide +kernel
theorem dL_law_308 : decode cL_law 308 = .ok (.iadd, 1) := by decide +kernel
theorem dL_law_309 : decode cL_law 309 = .ok (.iaload, 1) := by decide +kernel
theorem dL_law_310 : decode cL_law 310 = .ok (.invokevirtual 37, 3) := by decide +kernel
theorem dL_law_313 : decode cL_law 313 = .ok (.pop, 1) := by decide +kernel
theorem dL_law_314 : decode cL_law 314 = .ok (.goto 411, 3) := by decide +kernel
theorem dL_law_317 : decode cL_law 317 = .ok (.aload_n 1, 1) := by decide +kernel
theorem dL_law_318 : decode cL_law 318 = .ok (.aload_n 0, 1) := by decide +kernel
theorem dL_law_319 : decode cL_law 319 = .ok (.iload_n 3, 1) := by decide +kernel
theorem dL_law_320 : decode cL_law 320 = .ok (.iconst 1, 1) := by decide +kernel
theorem dL_law_321 : decode cL_law 321 = .ok (.iadd, 1) := by decide +kernel
theorem dL_law_322 : decode cL_law 322 = .ok (.iaload, 1) := by decide +kernel
theorem dL_law_323 : decode cL_law 323 = .ok (.aload_n 0, 1) := by decide +kernel
theorem dL_law_324 : decode cL_law 324 = .ok (.iload_n 3, 1) := by decide +kernel
theorem dL_law_325 : decode cL_law 325 = .ok (.iconst 2, 1) := by decide +kernel
theorem dL_law_326 : decode cL_law 326 = .ok (.iadd, 1) := by decide +kernel
theorem dL_law_327 : decode cL_law 327 = .ok (.iaload, 1) := by decide +kernel
theorem dL_law_328 : decode cL_law 328 = .ok (.aload_n 0, 1) := by decide +kernel
theorem dL_law_329 : decode cL_law 329 = .ok (.iload_n 3, 1) := by decide +kernel
theorem dL_law_330 : decode cL_law 330 = .ok (.iconst 3, 1) := by decide +kernel
theorem dL_law_331 : decode cL_law 331 = .ok (.iadd, 1) := by decide +kernel
theorem dL_law_332 : decode cL_law 332 = .ok (.iaload, 1) := by decide +kernel
theorem dL_law_333 : decode cL_law 333 = .ok (.invokevirtual 38, 3) := by decide +kernel
theorem dL_law_336 : decode cL_law 336 = .ok (.pop, 1) := by decide +kernel
theorem dL_law_337 : decode cL_law 337 = .ok (.aload_n 2, 1) := by decide +kernel
theorem dL_law_338 : decode cL_law 338 = .ok (.aload_n 0, 1) := by decide +kernel
theorem dL_law_339 : decode cL_law 339 = .ok (.iload_n 3, 1) := by decide +kernel
theorem dL_law_340 : decode cL_law 340 = .ok (.iconst 1, 1) := by decide +kernel
theorem dL_law_341 : decode cL_law 341 = .ok (.iadd, 1) := by decide +kernel
theorem dL_law_342 : decode cL_law 342 = .ok (.iaload, 1) := by decide +kernel
theorem dL_law_343 : decode cL_law 343 = .ok (.aload_n 0, 1) := by decide +kernel
theorem dL_law_344 : decode cL_law 344 = .ok (.iload_n 3, 1) := by decide +kernel
theorem dL_law_345 : decode cL_law 345 = .ok (.iconst 2, 1) := by decide +kernel
theorem dL_law_346 : decode cL_law 346 = .ok (.iadd, 1) := by decide +kernel
theorem dL_law_347 : decode cL_law 347 = .ok (.iaload, 1) := by decide +kernel
theorem dL_law_348 : decode cL_law 348 = .ok (.aload_n 0, 1) := by decide +kernel
theorem dL_law_349 : decode cL_law 349 = .ok (.iload_n 3, 1) := by decide +kernel
theorem dL_law_350 : decode cL_law 350 = .ok (.iconst 3, 1) := by decide +kernel
theorem dL_law_351 : decode cL_law 351 = .ok (.iadd, 1) := by decide +kernel
theorem dL_law_352 : decode cL_law 352 = .ok (.iaload, 1) := by decide +kernel
theorem dL_law_353 : decode cL_law 353 = .ok (.invokevirtual 41, 3) := by decide +kernel
theorem dL_law_356 : decode cL_law 356 = .ok (.pop, 1) := by decide +kernel
theorem dL_law_357 : decode cL_law 357 = .ok (.goto 368, 3) := by decide +kernel
theorem dL_law_360 : decode cL_law 360 = .ok (.aload_n 1, 1) := by decide +kernel
theorem dL_law_361 : decode cL_law 361 = .ok (.aload_n 0, 1) := by decide +kernel
theorem dL_law_362 : decode cL_law 362 = .ok (.iload_n 3, 1) := by decide +kernel
theorem dL_law_363 : decode cL_law 363 = .ok (.iconst 1, 1) := by decide +kernel
theorem dL_law_364 : decode cL_law 364 = .ok (.iadd, 1) := by decide +kernel
theorem dL_law_365 : decode cL_law 365 = .ok (.iaload, 1) := by decide +kernel
theorem dL_law_366 : decode cL_law 366 = .ok (.aload_n 0, 1) := by decide +kernel
theorem dL_law_367 : decode cL_law 367 = .ok (.iload_n 3, 1) := by decide +kernel
theorem dL_law_368 : decode cL_law 368 = .ok (.iconst 2, 1) := by decide +kernel
theorem dL_law_369 : decode cL_law 369 = .ok (.iadd, 1) := by decide +kernel
