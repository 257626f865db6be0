theorem dX7_reads_30 : decode cX7_reads 30 = .ok (.istore_n 2, 1) := by decide +kernel
theorem dX7_reads_31 : decode cX7_reads 31 = .ok (.aload_n 0, 1) := by decide +kernel
theorem dX7_reads_32 : decode cX7_reads 32 = .ok (.invokevirtual 87, 3) := by decide +kernel
theorem dX7_reads_35 : decode cX7_reads 35 = .ok (.aload_n 0, 1) := by decide +kernel
theorem dX7_reads_36 : decode cX7_reads 36 = .ok (.getfield 81, 3) := by decide +kernel
theorem dX7_reads_39 : decode cX7_reads 39 = .ok (.aload_n 0, 1) := by decide +kernel
theorem dX7_reads_40 : decode cX7_reads 40 = .ok (.getfield 84, 3) := by decide +kernel
theorem dX7_reads_43 : decode cX7_reads 43 = .ok (.if_icmp .ge 8, 3) := by decide +kernel
theorem dX7_reads_46 : decode cX7_reads 46 = .ok (.aload_n 0, 1) := by decide +kernel
theorem dX7_reads_47 : decode cX7_reads 47 = .ok (.iconst 1, 1) := by decide +kernel
theorem dX7_reads_48 : decode cX7_reads 48 = .ok (.putfield 97, 3) := by decide +kernel
theorem dX7_reads_51 : decode cX7_reads 51 = .ok (.aload_n 0, 1) := by decide +kernel
theorem dX7_reads_52 : decode cX7_reads 52 = .ok (.iconst 0, 1) := by decide +kernel
theorem dX7_reads_53 : decode cX7_reads 53 = .ok (.putfield 71, 3) := by decide +kernel
theorem dX7_reads_56 : decode cX7_reads 56 = .ok (.aload_n 0, 1) := by decide +kernel
theorem dX7_reads_57 : decode cX7_reads 57 = .ok (.aload_n 0, 1) := by decide +kernel
theorem dX7_reads_58 : decode cX7_reads 58 = .ok (.getfield 97, 3) := by decide +kernel
theorem dX7_reads_61 : decode cX7_reads 61 = .ok (.ifCond .eq 10, 3) := by decide +kernel
theorem dX7_reads_64 : decode cX7_reads 64 = .ok (.aload_n 0, 1) := by decide +kernel
theorem dX7_reads_65 : decode cX7_reads 65 = .ok (.getfield 81, 3) := by decide +kernel
theorem dX7_reads_68 : decode cX7_reads 68 = .ok (.goto 4, 3) := by decide +kernel
theorem dX7_reads_71 : decode cX7_reads 71 = .ok (.iconst (-1), 1) := by decide +kernel
theorem dX7_reads_72 : decode cX7_reads 72 = .ok (.putfield 64, 3) := by decide +kernel
theorem dX7_reads_75 : decode cX7_reads 75 = .ok (.aload_n 0, 1) := by decide +kernel
theorem dX7_reads_76 : decode cX7_reads 76 = .ok (.getfield 97, 3) := by decide +kernel
theorem dX7_reads_79 : decode cX7_reads 79 = .ok (.ifCond .eq 5, 3) := by decide +kernel
theorem dX7_reads_82 : decode cX7_reads 82 = .ok (.iconst 0, 1) := by decide +kernel
theorem dX7_reads_83 : decode cX7_reads 83 = .ok (.ireturn, 1) := by decide +kernel
theorem dX7_reads_84 : decode cX7_reads 84 = .ok (.aload_n 0, 1) := by decide +kernel
theorem dX7_reads_85 : decode cX7_reads 85 = .ok (.getfield 13, 3) := by decide +kernel
theorem dX7_reads_88 : decode cX7_reads 88 = .ok (.bipush 88, 2) := by decide +kernel
theorem dX7_reads_90 : decode cX7_reads 90 = .ok (.aload_n 0, 1) := by decide +kernel
theorem dX7_reads_91 : decode cX7_reads 91 = .ok (.iload_n 2, 1) := by decide +kernel
theorem dX7_reads_92 : decode cX7_reads 92 = .ok (.invokevirtual 119, 3) := by decide +kernel
theorem dX7_reads_95 : decode cX7_reads 95 = .ok (.iastore, 1) := by decide +kernel
theorem dX7_reads_96 : decode cX7_reads 96 = .ok (.aload_n 0, 1) := by decide +kernel
theorem dX7_reads_97 : decode cX7_reads 97 = .ok (.getfield 17, 3) := by decide +kernel
theorem dX7_reads_100 : decode cX7_reads 100 = .ok (.bipush 88, 2) := by decide +kernel
theorem dX7_reads_102 : decode cX7_reads 102 = .ok (.iconst 0, 1) := by decide +kernel
theorem dX7_reads_103 : decode cX7_reads 103 = .ok (.iastore, 1) := by decide +kernel
theorem dX7_reads_104 : decode cX7_reads 104 = .ok (.aload_n 0, 1) := by decide +kernel
theorem dX7_reads_105 : decode cX7_reads 105 = .ok (.iload_n 2, 1) := by decide +kernel
theorem dX7_reads_106 : decode cX7_reads 106 = .ok (.iconst 1, 1) := by decide +kernel
theorem dX7_reads_107 : decode cX7_reads 107 = .ok (.invokevirtual 125, 3) := by decide +kernel
theorem dX7_reads_110 : decode cX7_reads 110 = .ok (.iconst 1, 1) := by decide +kernel
theorem dX7_reads_111 : decode cX7_reads 111 = .ok (.ireturn, 1) := by decide +kernel
set_option maxRecDepth 20000 in
theorem ggX7_isText_X7_isIn : GoodIn wsX7_isText wsX7_isIn := goodIn_r _ [9] (by decide +kernel) (by decide +kernel)
set_option maxRecDepth 20000 in
theorem gX7_isText_X7_isIn : GoodIn wsX7_isText (va_wsS RX7 67 yX7_isIn wsX7_isIn) := goodIn_app (goodIn_of _ (by decide +kernel)) ggX7_isText_X7_isIn
theorem dX7_isText_0 : decode cX7_isText 0 = .ok (.iload_n 1, 1) := by decide +kernel
theorem dX7_isText_1 : decode cX7_isText 1 = .ok (.iconst 0, 1) := by decide +kernel
theorem dX7_isText_2 : decode cX7_isText 2 = .ok (.bipush 60, 2) := by decide +kernel
theorem dX7_isText_4 : decode cX7_isText 4 = .ok (.aload_n 0, 1) := by decide +kernel
theorem dX7_isText_5 : decode cX7_isText 5 = .ok (.getfield 71, 3) := by decide +kernel
theorem dX7_isText_8 : decode cX7_isText 8 = .ok (.invokestatic 129, 3) := by decide +kernel
theorem dX7_isText_11 : decode cX7_isText 11 = .ok (.invokestatic 67, 3) := by decide +kernel
theorem dX7_isText_14 : decode cX7_isText 14 = .ok (.ireturn, 1) := by decide +kernel
theorem dX7_keeps_0 : decode cX7_keeps 0 = .ok (.aload_n 0, 1) := by decide +kernel
theorem dX7_keeps_1 : decode cX7_keeps 1 = .ok (.getfield 13, 3) := by decide +kernel
theorem dX7_keeps_4 : decode cX7_keeps 4 = .ok (.iload_n 1, 1) := by decide +kernel
theorem dX7_keeps_5 : decode cX7_keeps 5 = .ok (.aload_n 0, 1) := by decide +kernel
theorem dX7_keeps_6 : decode cX7_keeps 6 = .ok (.getfield 13, 3) := by decide +kernel
theorem dX7_keeps_9 : decode cX7_keeps 9 = .ok (.bipush 88, 2) := by decide +kernel
theorem dX7_keeps_11 : decode cX7_keeps 11 = .ok (.iaload, 1) := by decide +kernel
theorem dX7_keeps_12 : decode cX7_keeps 12 = .ok (.iastore, 1) := by decide +kernel
theorem dX7_keeps_13 : decode cX7_keeps 13 = .ok (.aload_n 0, 1) := by decide +kernel
theorem dX7_keeps_14 : decode cX7_keeps 14 = .ok (.getfield 17, 3) := by decide +kernel
theorem dX7_keeps_17 : decode cX7_keeps 17 = .ok (.iload_n 1, 1) := by decide +kernel
theorem dX7_keeps_18 : decode cX7_keeps 18 = .ok (.aload_n 0, 1) := by decide +kernel
theorem dX7_keeps_19 : decode cX7_keeps 19 = .ok (.getfield 17, 3) := by decide +kernel
theorem dX7_keeps_22 : decode cX7_keeps 22 = .ok (.bipush 88, 2) := by decide +kernel
theorem dX7_keeps_24 : decode cX7_keeps 24 = .ok (.iaload, 1) := by decide +kernel
theorem dX7_keeps_25 : decode cX7_keeps 25 = .ok (.iastore, 1) := by decide +kernel
theorem dX7_keeps_26 : decode cX7_keeps 26 = .ok (.iconst 0, 1) := by decide +kernel
theorem dX7_keeps_27 : decode cX7_keeps 27 = .ok (.istore_n 2, 1) := by decide +kernel
theorem dX7_keeps_28 : decode cX7_keeps 28 = .ok (.iload_n 2, 1) := by decide +kernel
theorem dX7_keeps_29 : decode cX7_keeps 29 = .ok (.aload_n 0, 1) := by decide +kernel
theorem dX7_keeps_30 : decode cX7_keeps 30 = .ok (.getfield 17, 3) := by decide +kernel
theorem dX7_keeps_33 : decode cX7_keeps 33 = .ok (.bipush 88, 2) := by decide +kernel
theorem dX7_keeps_35 : decode cX7_keeps 35 = .ok (.iaload, 1) := by decide +kernel
theorem dX7_keeps_36 : decode cX7_keeps 36 = .ok (.if_icmp .ge 30, 3) := by decide +kernel
theorem dX7_keeps_39 : decode cX7_keeps 39 = .ok (.aload_n 0, 1) := by decide +kernel
theorem dX7_keeps_40 : decode cX7_keeps 40 = .ok (.getfield 20, 3) := by decide +kernel
theorem dX7_keeps_43 : decode cX7_keeps 43 = .ok (.bipush 60, 2) := by decide +kernel
theorem dX7_keeps_45 : decode cX7_keeps 45 = .ok (.iload_n 1, 1) := by decide +kernel
theorem dX7_keeps_46 : decode cX7_keeps 46 = .ok (.imul, 1) := by decide +kernel
theorem dX7_keeps_47 : decode cX7_keeps 47 = .ok (.iload_n 2, 1) := by decide +kernel
theorem dX7_keeps_48 : decode cX7_keeps 48 = .ok (.iadd, 1) := by decide +kernel
theorem dX7_keeps_49 : decode cX7_keeps 49 = .ok (.aload_n 0, 1) := by decide +kernel
theorem dX7_keeps_50 : decode cX7_keeps 50 = .ok (.getfield 20, 3) := by decide +kernel
theorem dX7_keeps_53 : decode cX7_keeps 53 = .ok (.sipush 5280, 3) := by decide +kernel
theorem dX7_keeps_56 : decode cX7_keeps 56 = .ok (.iload_n 2, 1) := by decide +kernel
theorem dX7_keeps_57 : decode cX7_keeps 57 = .ok (.iadd, 1) := by decide +kernel
theorem dX7_keeps_58 : decode cX7_keeps 58 = .ok (.baload, 1) := by decide +kernel
theorem dX7_keeps_59 : decode cX7_keeps 59 = .ok (.bastore, 1) := by decide +kernel
theorem dX7_keeps_60 : decode cX7_keeps 60 = .ok (.iinc 2 1, 3) := by decide +kernel
theorem dX7_keeps_63 : decode cX7_keeps 63 = .ok (.goto (-35), 3) := by decide +kernel
theorem dX7_keeps_66 : decode cX7_keeps 66 = .ok (.return_, 1) := by decide +kernel
set_option maxRecDepth 20000 in
theorem ggX7_isOpenFor_X7_isLesson : GoodIn wsX7_isOpenFor wsX7_isLesson := goodIn_r _ [6, 7, 8, 5, 9] (by decide +kernel) (by decide +kernel)
set_option maxRecDepth 20000 in
theorem gX7_isOpenFor_X7_isLesson : GoodIn wsX7_isOpenFor (va_wsS RX7 135 yX7_isLesson wsX7_isLesson) := goodIn_app (goodIn_of _ (by decide +kernel)) ggX7_isOpenFor_X7_isLesson
set_option maxRecDepth 20000 in
theorem ggX7_isOpenFor_X7_isText : GoodIn wsX7_isOpenFor wsX7_isText := goodIn_r _ [13, 14, 15, 16, 17, 18, 7, 8, 5, 9, 19, 20, 21, 22, 23, 24, 25, 26, 27, 28, 29, 30, 31, 32, 33, 34, 35, 36, 37, 38, 39, 40, 41, 42, 43, 44, 45, 46] (by decide +kernel) (by decide +kernel)
set_option maxRecDepth 20000 in
theorem gX7_isOpenFor_X7_isText : GoodIn wsX7_isOpenFor (wsV RX7 138 RX7 yX7_isText wsX7_isText) := goodIn_app (goodIn_of _ (by decide +kernel)) ggX7_isOpenFor_X7_isText
theorem dX7_isOpenFor_0 : decode cX7_isOpenFor 0 = .ok (.iload_n 1, 1) := by decide +kernel
theorem dX7_isOpenFor_1 : decode cX7_isOpenFor 1 = .ok (.invokestatic 135, 3) := by decide +kernel
theorem dX7_isOpenFor_4 : decode cX7_isOpenFor 4 = .ok (.ifCond .eq 32, 3) := by decide +kernel
theorem dX7_isOpenFor_7 : decode cX7_isOpenFor 7 = .ok (.iload_n 1, 1) := by decide +kernel
theorem dX7_isOpenFor_8 : decode cX7_isOpenFor 8 = .ok (.aload_n 0, 1) := by decide +kernel
theorem dX7_isOpenFor_9 : decode cX7_isOpenFor 9 = .ok (.getfield 36, 3) := by decide +kernel
theorem dX7_isOpenFor_12 : decode cX7_isOpenFor 12 = .ok (.if_icmp .eq 24, 3) := by decide +kernel
theorem dX7_isOpenFor_15 : decode cX7_isOpenFor 15 = .ok (.aload_n 0, 1) := by decide +kernel
theorem dX7_isOpenFor_16 : decode cX7_isOpenFor 16 = .ok (.getfield 27, 3) := by decide +kernel
theorem dX7_isOpenFor_19 : decode cX7_isOpenFor 19 = .ok (.iload_n 1, 1) := by decide +kernel
theorem dX7_isOpenFor_20 : decode cX7_isOpenFor 20 = .ok (.baload, 1) := by decide +kernel
theorem dX7_isOpenFor_21 : decode cX7_isOpenFor 21 = .ok (.ifCond .ne 15, 3) := by decide +kernel
theorem dX7_isOpenFor_24 : decode cX7_isOpenFor 24 = .ok (.aload_n 0, 1) := by decide +kernel
theorem dX7_isOpenFor_25 : decode cX7_isOpenFor 25 = .ok (.iload_n 2, 1) := by decide +kernel
theorem dX7_isOpenFor_26 : decode cX7_isOpenFor 26 = .ok (.invokevirtual 138, 3) := by decide +kernel
theorem dX7_isOpenFor_29 : decode cX7_isOpenFor 29 = .ok (.ifCond .eq 7, 3) := by decide +kernel
theorem dX7_isOpenFor_32 : decode cX7_isOpenFor 32 = .ok (.iconst 1, 1) := by decide +kernel
theorem dX7_isOpenFor_33 : decode cX7_isOpenFor 33 = .ok (.goto 4, 3) := by decide +kernel
theorem dX7_isOpenFor_36 : decode cX7_isOpenFor 36 = .ok (.iconst 0, 1) := by decide +kernel
theorem dX7_isOpenFor_37 : decode cX7_isOpenFor 37 = .ok (.ireturn, 1) := by decide +kernel
set_option maxRecDepth 20000 in
theorem ggX7_law_X7_isOpenFor : GoodIn wsX7_law wsX7_isOpenFor := goodIn_r _ [6, 7, 8, 9, 10, 5, 11, 12, 13, 14, 15, 16, 17, 18, 19, 20, 21, 22, 23, 85, 86, 87, 88, 89, 90, 91, 92, 93, 94, 95, 96, 97, 98, 99, 100, 101, 102, 103, 104, 105, 106, 107, 108, 109, 110, 111, 112] (by decide +kernel) (by decide +kernel)
set_option maxRecDepth 20000 in
theorem gX7_law_X7_isOpenFor : GoodIn wsX7_law (wsV RX7 141 RX7 yX7_isOpenFor wsX7_isOpenFor) := goodIn_app (goodIn_of _ (by decide +kernel)) ggX7_law_X7_isOpenFor
set_option maxRecDepth 20000 in
theorem ggX7_law_X7_reads : GoodIn wsX7_law wsX7_reads := goodIn_r _ [27, 28, 29, 30, 31, 32, 19, 33, 34, 35, 36, 37, 38, 5, 39, 40, 41, 42, 43, 44, 45, 46, 47, 48, 49, 50, 51, 52, 53, 54, 55, 56, 57, 58, 59, 60, 61, 62, 63, 64, 12, 13, 14, 65, 66, 67, 68, 69, 70, 71, 72, 73, 74, 75, 76, 77, 78, 79, 80, 85, 86, 87, 88, 89, 90, 91, 92, 93, 94, 95, 96, 97, 98, 99, 100, 101, 102, 103, 104, 105, 106, 107, 108, 109, 110, 111, 112] (by decide +kernel) (by decide +kernel)
set_option maxRecDepth 20000 in
theorem gX7_law_X7_reads : GoodIn wsX7_law (wsV RX7 145 RX7 yX7_reads wsX7_reads) := goodIn_app (goodIn_of _ (by decide +kernel)) ggX7_law_X7_reads
set_option maxRecDepth 20000 in
theorem ggX7_law_X7_keeps : GoodIn wsX7_law wsX7_keeps := goodIn_r _ [84, 34, 35, 80, 85, 86, 87, 88, 89, 90, 91, 92, 93, 94, 95, 96, 97, 98, 99, 100, 101, 102, 103, 104, 105, 106, 107, 108, 109, 110, 111, 112] (by decide +kernel) (by decide +kernel)
set_option maxRecDepth 20000 in
theorem gX7_law_X7_keeps : GoodIn wsX7_law (wsV RX7 148 RX7 yX7_keeps wsX7_keeps) := goodIn_app (goodIn_of _ (by decide +kernel)) ggX7_law_X7_keeps
theorem dX7_law_0 : decode cX7_law 0 = .ok (.aload_n 0, 1) := by decide +kernel
theorem dX7_law_1 : decode cX7_law 1 = .ok (.iload_n 1, 1) := by decide +kernel
theorem dX7_law_2 : decode cX7_law 2 = .ok (.iload_n 2, 1) := by decide +kernel
theorem dX7_law_3 : decode cX7_law 3 = .ok (.invokevirtual 141, 3) := by decide +kernel
theorem dX7_law_6 : decode cX7_law 6 = .ok (.ifCond .eq 11, 3) := by decide +kernel
theorem dX7_law_9 : decode cX7_law 9 = .ok (.aload_n 0, 1) := by decide +kernel
theorem dX7_law_10 : decode cX7_law 10 = .ok (.iload_n 2, 1) := by decide +kernel
theorem dX7_law_11 : decode cX7_law 11 = .ok (.invokevirtual 145, 3) := by decide +kernel
theorem dX7_law_14 : decode cX7_law 14 = .ok (.ifCond .ne 5, 3) := by decide +kernel
theorem dX7_law_17 : decode cX7_law 17 = .ok (.iconst 0, 1) := by decide +kernel
theorem dX7_law_18 : decode cX7_law 18 = .ok (.ireturn, 1) := by decide +kernel
theorem dX7_law_19 : decode cX7_law 19 = .ok (.aload_n 0, 1) := by decide +kernel
theorem dX7_law_20 : decode cX7_law 20 = .ok (.iload_n 1, 1) := by decide +kernel
theorem dX7_law_21 : decode cX7_law 21 = .ok (.invokevirtual 148, 3) := by decide +kernel
theorem dX7_law_24 : decode cX7_law 24 = .ok (.aload_n 0, 1) := by decide +kernel
theorem dX7_law_25 : decode cX7_law 25 = .ok (.getfield 23, 3) := by decide +kernel
theorem dX7_law_28 : decode cX7_law 28 = .ok (.iload_n 1, 1) := by decide +kernel
theorem dX7_law_29 : decode cX7_law 29 = .ok (.iconst 1, 1) := by decide +kernel
theorem dX7_law_30 : decode cX7_law 30 = .ok (.bastore, 1) := by decide +kernel
theorem dX7_law_31 : decode cX7_law 31 = .ok (.iconst 1, 1) := by decide +kernel
theorem dX7_law_32 : decode cX7_law 32 = .ok (.ireturn, 1) := by decide +kernel
theorem dX7_pictureAt_0 : decode cX7_pictureAt 0 = .ok (.bipush 6, 2) := by decide +kernel
theorem dX7_pictureAt_2 : decode cX7_pictureAt 2 = .ok (.bipush 12, 2) := by decide +kernel
theorem dX7_pictureAt_4 : decode cX7_pictureAt 4 = .ok (.iload_n 0, 1) := by decide +kernel
theorem dX7_pictureAt_5 : decode cX7_pictureAt 5 = .ok (.imul, 1) := by decide +kernel
theorem dX7_pictureAt_6 : decode cX7_pictureAt 6 = .ok (.iadd, 1) := by decide +kernel
theorem dX7_pictureAt_7 : decode cX7_pictureAt 7 = .ok (.iload_n 1, 1) := by decide +kernel
theorem dX7_pictureAt_8 : decode cX7_pictureAt 8 = .ok (.iadd, 1) := by decide +kernel
theorem dX7_pictureAt_9 : decode cX7_pictureAt 9 = .ok (.ireturn, 1) := by decide +kernel
set_option maxRecDepth 20000 in
theorem ggX7_picture_X7_isOpenFor : GoodIn wsX7_picture wsX7_isOpenFor := goodIn_r _ [6, 7, 8, 9, 10, 5, 11, 12, 13, 14, 15, 16, 17, 18, 19, 20, 21, 22, 23, 88, 89, 90, 91, 92, 93, 94, 95, 96, 97, 98, 99, 100, 101, 102, 103, 104, 105, 106, 107, 108, 109, 110, 111, 112, 113, 114, 115] (by decide +kernel) (by decide +kernel)
set_option maxRecDepth 20000 in
theorem gX7_picture_X7_isOpenFor : GoodIn wsX7_picture (wsV RX7 141 RX7 yX7_isOpenFor wsX7_isOpenFor) := goodIn_app (goodIn_of _ (by decide +kernel)) ggX7_picture_X7_isOpenFor
set_option maxRecDepth 20000 in
theorem ggX7_picture_X7_reads : GoodIn wsX7_picture wsX7_reads := goodIn_r _ [27, 28, 29, 30, 31, 32, 19, 33, 34, 35, 36, 37, 38, 5, 39, 40, 41, 42, 43, 44, 45, 46, 47, 48, 49, 50, 51, 52, 53, 54, 55, 56, 57, 58, 59, 60, 61, 62, 63, 64, 12, 13, 14, 65, 66, 67, 68, 69, 70, 71, 72, 73, 74, 75, 76, 77, 78, 79, 80, 88, 89, 90, 91, 92, 93, 94, 95, 96, 97, 98, 99, 100, 101, 102, 103, 104, 105, 106, 107, 108, 109, 110, 111, 112, 113, 114, 115] (by decide +kernel) (by decide +kernel)
set_option maxRecDepth 20000 in
theorem gX7_picture_X7_reads : GoodIn wsX7_picture (wsV RX7 145 RX7 yX7_reads wsX7_reads) := goodIn_app (goodIn_of _ (by decide +kernel)) ggX7_picture_X7_reads
set_option maxRecDepth 20000 in
theorem ggX7_picture_X7_pictureAt : GoodIn wsX7_picture wsX7_pictureAt := goodIn_r _ [83] (by decide +kernel) (by decide +kernel)
set_option maxRecDepth 20000 in
theorem gX7_picture_X7_pictureAt : GoodIn wsX7_picture (va_wsS RX7 151 yX7_pictureAt wsX7_pictureAt) := goodIn_app (goodIn_of _ (by decide +kernel)) ggX7_picture_X7_pictureAt
set_option maxRecDepth 20000 in
theorem ggX7_picture_X7_keeps : GoodIn wsX7_picture wsX7_keeps := goodIn_r _ [87, 34, 35, 80, 88, 89, 90, 91, 92, 93, 94, 95, 96, 97, 98, 99, 100, 101, 102, 103, 104, 105, 106, 107, 108, 109, 110, 111, 112, 113, 114, 115] (by decide +kernel) (by decide +kernel)
set_option maxRecDepth 20000 in
theorem gX7_picture_X7_keeps : GoodIn wsX7_picture (wsV RX7 148 RX7 yX7_keeps wsX7_keeps) := goodIn_app (goodIn_of _ (by decide +kernel)) ggX7_picture_X7_keeps
theorem dX7_picture_0 : decode cX7_picture 0 = .ok (.aload_n 0, 1) := by decide +kernel
theorem dX7_picture_1 : decode cX7_picture 1 = .ok (.iload_n 1, 1) := by decide +kernel
theorem dX7_picture_2 : decode cX7_picture 2 = .ok (.iload_n 2, 1) := by decide +kernel
theorem dX7_picture_3 : decode cX7_picture 3 = .ok (.invokevirtual 141, 3) := by decide +kernel
theorem dX7_picture_6 : decode cX7_picture 6 = .ok (.ifCond .eq 14, 3) := by decide +kernel
theorem dX7_picture_9 : decode cX7_picture 9 = .ok (.aload_n 0, 1) := by decide +kernel
theorem dX7_picture_10 : decode cX7_picture 10 = .ok (.getfield 33, 3) := by decide +kernel
theorem dX7_picture_13 : decode cX7_picture 13 = .ok (.iload_n 1, 1) := by decide +kernel
theorem dX7_picture_14 : decode cX7_picture 14 = .ok (.iaload, 1) := by decide +kernel
theorem dX7_picture_15 : decode cX7_picture 15 = .ok (.bipush 12, 2) := by decide +kernel
theorem dX7_picture_17 : decode cX7_picture 17 = .ok (.if_icmp .ne 6, 3) := by decide +kernel
theorem dX7_picture_20 : decode cX7_picture 20 = .ok (.bipush (-2), 2) := by decide +kernel
theorem dX7_picture_22 : decode cX7_picture 22 = .ok (.ireturn, 1) := by decide +kernel
theorem dX7_picture_23 : decode cX7_picture 23 = .ok (.aload_n 0, 1) := by decide +kernel
theorem dX7_picture_24 : decode cX7_picture 24 = .ok (.iload_n 2, 1) := by decide +kernel
theorem dX7_picture_25 : decode cX7_picture 25 = .ok (.invokevirtual 145, 3) := by decide +kernel
theorem dX7_picture_28 : decode cX7_picture 28 = .ok (.ifCond .ne 5, 3) := by decide +kernel
theorem dX7_picture_31 : decode cX7_picture 31 = .ok (.iconst (-1), 1) := by decide +kernel
theorem dX7_picture_32 : decode cX7_picture 32 = .ok (.ireturn, 1) := by decide +kernel
theorem dX7_picture_33 : decode cX7_picture 33 = .ok (.aload_n 0, 1) := by decide +kernel
theorem dX7_picture_34 : decode cX7_picture 34 = .ok (.iload_n 1, 1) := by decide +kernel
theorem dX7_picture_35 : decode cX7_picture 35 = .ok (.aload_n 0, 1) := by decide +kernel
theorem dX7_picture_36 : decode cX7_picture 36 = .ok (.getfield 33, 3) := by decide +kernel
theorem dX7_picture_39 : decode cX7_picture 39 = .ok (.iload_n 1, 1) := by decide +kernel
theorem dX7_picture_40 : decode cX7_picture 40 = .ok (.iaload, 1) := by decide +kernel
theorem dX7_picture_41 : decode cX7_picture 41 = .ok (.invokestatic 151, 3) := by decide +kernel
theorem dX7_picture_44 : decode cX7_picture 44 = .ok (.invokevirtual 148, 3) := by decide +kernel
theorem dX7_picture_47 : decode cX7_picture 47 = .ok (.aload_n 0, 1) := by decide +kernel
theorem dX7_picture_48 : decode cX7_picture 48 = .ok (.getfield 33, 3) := by decide +kernel
theorem dX7_picture_51 : decode cX7_picture 51 = .ok (.iload_n 1, 1) := by decide +kernel
theorem dX7_picture_52 : decode cX7_picture 52 = .ok (.dup2, 1) := by decide +kernel
theorem dX7_picture_53 : decode cX7_picture 53 = .ok (.iaload, 1) := by decide +kernel
theorem dX7_picture_54 : decode cX7_picture 54 = .ok (.iconst 1, 1) := by decide +kernel
theorem dX7_picture_55 : decode cX7_picture 55 = .ok (.iadd, 1) := by decide +kernel
theorem dX7_picture_56 : decode cX7_picture 56 = .ok (.iastore, 1) := by decide +kernel
theorem dX7_picture_57 : decode cX7_picture 57 = .ok (.aload_n 0, 1) := by decide +kernel
theorem dX7_picture_58 : decode cX7_picture 58 = .ok (.getfield 33, 3) := by decide +kernel
theorem dX7_picture_61 : decode cX7_picture 61 = .ok (.iload_n 1, 1) := by decide +kernel
theorem dX7_picture_62 : decode cX7_picture 62 = .ok (.iaload, 1) := by decide +kernel
theorem dX7_picture_63 : decode cX7_picture 63 = .ok (.iconst 1, 1) := by decide +kernel
theorem dX7_picture_64 : decode cX7_picture 64 = .ok (.isub, 1) := by decide +kernel
theorem dX7_picture_65 : decode cX7_picture 65 = .ok (.ireturn, 1) := by decide +kernel
theorem dX7_fault_0 : decode cX7_fault 0 = .ok (.aload_n 0, 1) := by decide +kernel
theorem dX7_fault_1 : decode cX7_fault 1 = .ok (.getfield 64, 3) := by decide +kernel
theorem dX7_fault_4 : decode cX7_fault 4 = .ok (.ireturn, 1) := by decide +kernel
set_option maxRecDepth 20000 in
theorem ggX7_formula_X7_isLesson : GoodIn wsX7_formula wsX7_isLesson := goodIn_r _ [6, 7, 8, 5, 9] (by decide +kernel) (by decide +kernel)
set_option maxRecDepth 20000 in
theorem gX7_formula_X7_isLesson : GoodIn wsX7_formula (va_wsS RX7 135 yX7_isLesson wsX7_isLesson) := goodIn_app (goodIn_of _ (by decide +kernel)) ggX7_formula_X7_isLesson
set_option maxRecDepth 20000 in
theorem ggX7_formula_X7_isIn : GoodIn wsX7_formula wsX7_isIn := goodIn_r _ [9] (by decide +kernel) (by decide +kernel)
set_option maxRecDepth 20000 in
theorem gX7_formula_X7_isIn : GoodIn wsX7_formula (va_wsS RX7 67 yX7_isIn wsX7_isIn) := goodIn_app (goodIn_of _ (by decide +kernel)) ggX7_formula_X7_isIn
set_option maxRecDepth 20000 in
theorem ggX7_formula_X7_pictureAt : GoodIn wsX7_formula wsX7_pictureAt := goodIn_r _ [12] (by decide +kernel) (by decide +kernel)
set_option maxRecDepth 20000 in
theorem gX7_formula_X7_pictureAt : GoodIn wsX7_formula (va_wsS RX7 151 yX7_pictureAt wsX7_pictureAt) := goodIn_app (goodIn_of _ (by decide +kernel)) ggX7_formula_X7_pictureAt
theorem dX7_formula_0 : decode cX7_formula 0 = .ok (.iload_n 1, 1) := by decide +kernel
theorem dX7_formula_1 : decode cX7_formula 1 = .ok (.invokestatic 135, 3) := by decide +kernel
theorem dX7_formula_4 : decode cX7_formula 4 = .ok (.ifCond .ne 5, 3) := by decide +kernel
theorem dX7_formula_7 : decode cX7_formula 7 = .ok (.iconst (-1), 1) := by decide +kernel
theorem dX7_formula_8 : decode cX7_formula 8 = .ok (.ireturn, 1) := by decide +kernel
theorem dX7_formula_9 : decode cX7_formula 9 = .ok (.iload_n 2, 1) := by decide +kernel
theorem dX7_formula_10 : decode cX7_formula 10 = .ok (.iconst (-1), 1) := by decide +kernel
theorem dX7_formula_11 : decode cX7_formula 11 = .ok (.if_icmp .ne 18, 3) := by decide +kernel
theorem dX7_formula_14 : decode cX7_formula 14 = .ok (.aload_n 0, 1) := by decide +kernel
theorem dX7_formula_15 : decode cX7_formula 15 = .ok (.getfield 23, 3) := by decide +kernel
theorem dX7_formula_18 : decode cX7_formula 18 = .ok (.iload_n 1, 1) := by decide +kernel
theorem dX7_formula_19 : decode cX7_formula 19 = .ok (.baload, 1) := by decide +kernel
theorem dX7_formula_20 : decode cX7_formula 20 = .ok (.ifCond .eq 7, 3) := by decide +kernel
theorem dX7_formula_23 : decode cX7_formula 23 = .ok (.iload_n 1, 1) := by decide +kernel
theorem dX7_formula_24 : decode cX7_formula 24 = .ok (.goto 4, 3) := by decide +kernel
theorem dX7_formula_27 : decode cX7_formula 27 = .ok (.iconst (-1), 1) := by decide +kernel
theorem dX7_formula_28 : decode cX7_formula 28 = .ok (.ireturn, 1) := by decide +kernel
theorem dX7_formula_29 : decode cX7_formula 29 = .ok (.iload_n 2, 1) := by decide +kernel
theorem dX7_formula_30 : decode cX7_formula 30 = .ok (.iconst 0, 1) := by decide +kernel
theorem dX7_formula_31 : decode cX7_formula 31 = .ok (.aload_n 0, 1) := by decide +kernel
theorem dX7_formula_32 : decode cX7_formula 32 = .ok (.getfield 33, 3) := by decide +kernel
theorem dX7_formula_35 : decode cX7_formula 35 = .ok (.iload_n 1, 1) := by decide +kernel
theorem dX7_formula_36 : decode cX7_formula 36 = .ok (.iaload, 1) := by decide +kernel
theorem dX7_formula_37 : decode cX7_formula 37 = .ok (.iconst 1, 1) := by decide +kernel
theorem dX7_formula_38 : decode cX7_formula 38 = .ok (.isub, 1) := by decide +kernel
theorem dX7_formula_39 : decode cX7_formula 39 = .ok (.invokestatic 67, 3) := by decide +kernel
theorem dX7_formula_42 : decode cX7_formula 42 = .ok (.ifCond .eq 11, 3) := by decide +kernel
theorem dX7_formula_45 : decode cX7_formula 45 = .ok (.iload_n 1, 1) := by decide +kernel
theorem dX7_formula_46 : decode cX7_formula 46 = .ok (.iload_n 2, 1) := by decide +kernel
theorem dX7_formula_47 : decode cX7_formula 47 = .ok (.invokestatic 151, 3) := by decide +kernel
theorem dX7_formula_50 : decode cX7_formula 50 = .ok (.goto 4, 3) := by decide +kernel
theorem dX7_formula_53 : decode cX7_formula 53 = .ok (.iconst (-1), 1) := by decide +kernel
theorem dX7_formula_54 : decode cX7_formula 54 = .ok (.ireturn, 1) := by decide +kernel
theorem dX7_tellsOf_0 : decode cX7_tellsOf 0 = .ok (.aload_n 0, 1) := by decide +kernel
theorem dX7_tellsOf_1 : decode cX7_tellsOf 1 = .ok (.getfield 13, 3) := by decide +kernel
theorem dX7_tellsOf_4 : decode cX7_tellsOf 4 = .ok (.iload_n 1, 1) := by decide +kernel
theorem dX7_tellsOf_5 : decode cX7_tellsOf 5 = .ok (.iaload, 1) := by decide +kernel
theorem dX7_tellsOf_6 : decode cX7_tellsOf 6 = .ok (.iload_n 2, 1) := by decide +kernel
theorem dX7_tellsOf_7 : decode cX7_tellsOf 7 = .ok (.ishr, 1) := by decide +kernel
theorem dX7_tellsOf_8 : decode cX7_tellsOf 8 = .ok (.iconst 1, 1) := by decide +kernel
theorem dX7_tellsOf_9 : decode cX7_tellsOf 9 = .ok (.iand, 1) := by decide +kernel
theorem dX7_tellsOf_10 : decode cX7_tellsOf 10 = .ok (.ireturn, 1) := by decide +kernel
set_option maxRecDepth 20000 in
theorem ggX7_tells_X7_formula : GoodIn wsX7_tells wsX7_formula := goodIn_r _ [5, 6, 7, 8, 9, 4, 10, 11, 12, 13, 14, 15, 16, 25, 26, 27, 28, 29, 30, 31, 32, 33, 34, 35, 36, 37, 38, 39, 40, 41, 42, 43, 44, 45, 46, 47, 48, 49, 50, 51, 52] (by decide +kernel) (by decide +kernel)
set_option maxRecDepth 20000 in
theorem gX7_tells_X7_formula : GoodIn wsX7_tells (wsV RX7 154 RX7 yX7_formula wsX7_formula) := goodIn_app (goodIn_of _ (by decide +kernel)) ggX7_tells_X7_formula
set_option maxRecDepth 20000 in
theorem ggX7_tells_X7_isCase : GoodIn wsX7_tells wsX7_isCase := goodIn_r _ [19, 11, 12, 4, 13] (by decide +kernel) (by decide +kernel)
set_option maxRecDepth 20000 in
theorem gX7_tells_X7_isCase : GoodIn wsX7_tells (va_wsS RX7 157 yX7_isCase wsX7_isCase) := goodIn_app (goodIn_of _ (by decide +kernel)) ggX7_tells_X7_isCase
set_option maxRecDepth 20000 in
theorem ggX7_tells_X7_tellsOf : GoodIn wsX7_tells wsX7_tellsOf := goodIn_r _ [23, 24, 25, 26, 27, 28, 29, 30, 31, 32, 33, 34, 35, 36, 37, 38, 39, 40, 41, 42, 43, 44, 45, 46, 47, 48, 49, 50, 51, 52] (by decide +kernel) (by decide +kernel)
set_option maxRecDepth 20000 in
theorem gX7_tells_X7_tellsOf : GoodIn wsX7_tells (wsV RX7 160 RX7 yX7_tellsOf wsX7_tellsOf) := goodIn_app (goodIn_of _ (by decide +kernel)) ggX7_tells_X7_tellsOf
theorem dX7_tells_0 : decode cX7_tells 0 = .ok (.aload_n 0, 1) := by decide +kernel
theorem dX7_tells_1 : decode cX7_tells 1 = .ok (.iload_n 1, 1) := by decide +kernel
theorem dX7_tells_2 : decode cX7_tells 2 = .ok (.iload_n 2, 1) := by decide +kernel
theorem dX7_tells_3 : decode cX7_tells 3 = .ok (.invokevirtual 154, 3) := by decide +kernel
theorem dX7_tells_6 : decode cX7_tells 6 = .ok (.istore 4, 2) := by decide +kernel
theorem dX7_tells_8 : decode cX7_tells 8 = .ok (.iload 4, 2) := by decide +kernel
theorem dX7_tells_10 : decode cX7_tells 10 = .ok (.iconst (-1), 1) := by decide +kernel
theorem dX7_tells_11 : decode cX7_tells 11 = .ok (.if_icmp .eq 10, 3) := by decide +kernel
theorem dX7_tells_14 : decode cX7_tells 14 = .ok (.iload_n 3, 1) := by decide +kernel
theorem dX7_tells_15 : decode cX7_tells 15 = .ok (.invokestatic 157, 3) := by decide +kernel
theorem dX7_tells_18 : decode cX7_tells 18 = .ok (.ifCond .ne 7, 3) := by decide +kernel
theorem dX7_tells_21 : decode cX7_tells 21 = .ok (.iconst (-1), 1) := by decide +kernel
theorem dX7_tells_22 : decode cX7_tells 22 = .ok (.goto 10, 3) := by decide +kernel
theorem dX7_tells_25 : decode cX7_tells 25 = .ok (.aload_n 0, 1) := by decide +kernel
theorem dX7_tells_26 : decode cX7_tells 26 = .ok (.iload 4, 2) := by decide +kernel
theorem dX7_tells_28 : decode cX7_tells 28 = .ok (.iload_n 3, 1) := by decide +kernel
theorem dX7_tells_29 : decode cX7_tells 29 = .ok (.invokevirtual 160, 3) := by decide +kernel
theorem dX7_tells_32 : decode cX7_tells 32 = .ok (.ireturn, 1) := by decide +kernel
set_option maxRecDepth 20000 in
theorem ggX7_written_X7_formula : GoodIn wsX7_written wsX7_formula := goodIn_r _ [7, 8, 9, 10, 11, 6, 12, 13, 14, 15, 16, 17, 18, 19, 20, 21, 22, 23, 24, 25, 26, 27, 28, 29, 30, 31, 32, 33, 34, 35, 36, 37, 38, 39, 40, 41, 42, 43, 44, 45, 46] (by decide +kernel) (by decide +kernel)
set_option maxRecDepth 20000 in
theorem gX7_written_X7_formula : GoodIn wsX7_written (wsV RX7 154 RX7 yX7_formula wsX7_formula) := goodIn_app (goodIn_of _ (by decide +kernel)) ggX7_written_X7_formula
set_option maxRecDepth 20000 in
theorem ggX7_written_X7_isIn : GoodIn wsX7_written wsX7_isIn := goodIn_r _ [15] (by decide +kernel) (by decide +kernel)
set_option maxRecDepth 20000 in
theorem gX7_written_X7_isIn : GoodIn wsX7_written (va_wsS RX7 67 yX7_isIn wsX7_isIn) := goodIn_app (goodIn_of _ (by decide +kernel)) ggX7_written_X7_isIn
theorem dX7_written_0 : decode cX7_written 0 = .ok (.aload_n 0, 1) := by decide +kernel
theorem dX7_written_1 : decode cX7_written 1 = .ok (.iload_n 1, 1) := by decide +kernel
theorem dX7_written_2 : decode cX7_written 2 = .ok (.iload_n 2, 1) := by decide +kernel
theorem dX7_written_3 : decode cX7_written 3 = .ok (.invokevirtual 154, 3) := by decide +kernel
theorem dX7_written_6 : decode cX7_written 6 = .ok (.istore 4, 2) := by decide +kernel
theorem dX7_written_8 : decode cX7_written 8 = .ok (.iload 4, 2) := by decide +kernel
theorem dX7_written_10 : decode cX7_written 10 = .ok (.iconst (-1), 1) := by decide +kernel
theorem dX7_written_11 : decode cX7_written 11 = .ok (.if_icmp .ne 5, 3) := by decide +kernel
theorem dX7_written_14 : decode cX7_written 14 = .ok (.iconst (-1), 1) := by decide +kernel
theorem dX7_written_15 : decode cX7_written 15 = .ok (.ireturn, 1) := by decide +kernel
theorem dX7_written_16 : decode cX7_written 16 = .ok (.iload_n 3, 1) := by decide +kernel
theorem dX7_written_17 : decode cX7_written 17 = .ok (.iconst (-1), 1) := by decide +kernel
theorem dX7_written_18 : decode cX7_written 18 = .ok (.if_icmp .ne 13, 3) := by decide +kernel
theorem dX7_written_21 : decode cX7_written 21 = .ok (.aload_n 0, 1) := by decide +kernel
theorem dX7_written_22 : decode cX7_written 22 = .ok (.getfield 17, 3) := by decide +kernel
theorem dX7_written_25 : decode cX7_written 25 = .ok (.iload 4, 2) := by decide +kernel
theorem dX7_written_27 : decode cX7_written 27 = .ok (.iaload, 1) := by decide +kernel
theorem dX7_written_28 : decode cX7_written 28 = .ok (.goto 36, 3) := by decide +kernel
theorem dX7_written_31 : decode cX7_written 31 = .ok (.iload_n 3, 1) := by decide +kernel
theorem dX7_written_32 : decode cX7_written 32 = .ok (.iconst 0, 1) := by decide +kernel
theorem dX7_written_33 : decode cX7_written 33 = .ok (.aload_n 0, 1) := by decide +kernel
theorem dX7_written_34 : decode cX7_written 34 = .ok (.getfield 17, 3) := by decide +kernel
theorem dX7_written_37 : decode cX7_written 37 = .ok (.iload 4, 2) := by decide +kernel
theorem dX7_written_39 : decode cX7_written 39 = .ok (.iaload, 1) := by decide +kernel
theorem dX7_written_40 : decode cX7_written 40 = .ok (.iconst 1, 1) := by decide +kernel
theorem dX7_written_41 : decode cX7_written 41 = .ok (.isub, 1) := by decide +kernel
theorem dX7_written_42 : decode cX7_written 42 = .ok (.invokestatic 67, 3) := by decide +kernel
theorem dX7_written_45 : decode cX7_written 45 = .ok (.ifCond .eq 18, 3) := by decide +kernel
theorem dX7_written_48 : decode cX7_written 48 = .ok (.aload_n 0, 1) := by decide +kernel
theorem dX7_written_49 : decode cX7_written 49 = .ok (.getfield 20, 3) := by decide +kernel
theorem dX7_written_52 : decode cX7_written 52 = .ok (.bipush 60, 2) := by decide +kernel
theorem dX7_written_54 : decode cX7_written 54 = .ok (.iload 4, 2) := by decide +kernel
theorem dX7_written_56 : decode cX7_written 56 = .ok (.imul, 1) := by decide +kernel
theorem dX7_written_57 : decode cX7_written 57 = .ok (.iload_n 3, 1) := by decide +kernel
theorem dX7_written_58 : decode cX7_written 58 = .ok (.iadd, 1) := by decide +kernel
theorem dX7_written_59 : decode cX7_written 59 = .ok (.baload, 1) := by decide +kernel
theorem dX7_written_60 : decode cX7_written 60 = .ok (.goto 4, 3) := by decide +kernel
theorem dX7_written_63 : decode cX7_written 63 = .ok (.iconst (-1), 1) := by decide +kernel
theorem dX7_written_64 : decode cX7_written 64 = .ok (.ireturn, 1) := by decide +kernel
theorem dX7_hangsOn_0 : decode cX7_hangsOn 0 = .ok (.iconst 1, 1) := by decide +kernel
theorem dX7_hangsOn_1 : decode cX7_hangsOn 1 = .ok (.iload_n 1, 1) := by decide +kernel
theorem dX7_hangsOn_2 : decode cX7_hangsOn 2 = .ok (.ishl, 1) := by decide +kernel
theorem dX7_hangsOn_3 : decode cX7_hangsOn 3 = .ok (.istore_n 3, 1) := by decide +kernel
theorem dX7_hangsOn_4 : decode cX7_hangsOn 4 = .ok (.iconst 0, 1) := by decide +kernel
theorem dX7_hangsOn_5 : decode cX7_hangsOn 5 = .ok (.istore 4, 2) := by decide +kernel
theorem dX7_hangsOn_7 : decode cX7_hangsOn 7 = .ok (.iload 4, 2) := by decide +kernel
theorem dX7_hangsOn_9 : decode cX7_hangsOn 9 = .ok (.bipush 6, 2) := by decide +kernel
theorem dX7_hangsOn_11 : decode cX7_hangsOn 11 = .ok (.if_icmp .ge 74, 3) := by decide +kernel
theorem dX7_hangsOn_14 : decode cX7_hangsOn 14 = .ok (.iconst 0, 1) := by decide +kernel
theorem dX7_hangsOn_15 : decode cX7_hangsOn 15 = .ok (.istore 5, 2) := by decide +kernel
theorem dX7_hangsOn_17 : decode cX7_hangsOn 17 = .ok (.iload 5, 2) := by decide +kernel
theorem dX7_hangsOn_19 : decode cX7_hangsOn 19 = .ok (.bipush 6, 2) := by decide +kernel
theorem dX7_hangsOn_21 : decode cX7_hangsOn 21 = .ok (.if_icmp .ge 58, 3) := by decide +kernel
theorem dX7_hangsOn_24 : decode cX7_hangsOn 24 = .ok (.iconst 0, 1) := by decide +kernel
theorem dX7_hangsOn_25 : decode cX7_hangsOn 25 = .ok (.istore 6, 2) := by decide +kernel
theorem dX7_hangsOn_27 : decode cX7_hangsOn 27 = .ok (.iload 6, 2) := by decide +kernel
theorem dX7_hangsOn_29 : decode cX7_hangsOn 29 = .ok (.bipush 6, 2) := by decide +kernel
theorem dX7_hangsOn_31 : decode cX7_hangsOn 31 = .ok (.if_icmp .ge 42, 3) := by decide +kernel
theorem dX7_hangsOn_34 : decode cX7_hangsOn 34 = .ok (.iload_n 3, 1) := by decide +kernel
theorem dX7_hangsOn_35 : decode cX7_hangsOn 35 = .ok (.iload 5, 2) := by decide +kernel
theorem dX7_hangsOn_37 : decode cX7_hangsOn 37 = .ok (.ishr, 1) := by decide +kernel
theorem dX7_hangsOn_38 : decode cX7_hangsOn 38 = .ok (.iconst 1, 1) := by decide +kernel
theorem dX7_hangsOn_39 : decode cX7_hangsOn 39 = .ok (.iand, 1) := by decide +kernel
theorem dX7_hangsOn_40 : decode cX7_hangsOn 40 = .ok (.iconst 1, 1) := by decide +kernel
theorem dX7_hangsOn_41 : decode cX7_hangsOn 41 = .ok (.if_icmp .ne 26, 3) := by decide +kernel
theorem dX7_hangsOn_44 : decode cX7_hangsOn 44 = .ok (.aload_n 0, 1) := by decide +kernel
theorem dX7_hangsOn_45 : decode cX7_hangsOn 45 = .ok (.getfield 30, 3) := by decide +kernel
theorem dX7_hangsOn_48 : decode cX7_hangsOn 48 = .ok (.bipush 6, 2) := by decide +kernel
theorem dX7_hangsOn_50 : decode cX7_hangsOn 50 = .ok (.iload 5, 2) := by decide +kernel
theorem dX7_hangsOn_52 : decode cX7_hangsOn 52 = .ok (.imul, 1) := by decide +kernel
theorem dX7_hangsOn_53 : decode cX7_hangsOn 53 = .ok (.iload 6, 2) := by decide +kernel
theorem dX7_hangsOn_55 : decode cX7_hangsOn 55 = .ok (.iadd, 1) := by decide +kernel
theorem dX7_hangsOn_56 : decode cX7_hangsOn 56 = .ok (.baload, 1) := by decide +kernel
theorem dX7_hangsOn_57 : decode cX7_hangsOn 57 = .ok (.ifCond .eq 10, 3) := by decide +kernel
theorem dX7_hangsOn_60 : decode cX7_hangsOn 60 = .ok (.iload_n 3, 1) := by decide +kernel
theorem dX7_hangsOn_61 : decode cX7_hangsOn 61 = .ok (.iconst 1, 1) := by decide +kernel
theorem dX7_hangsOn_62 : decode cX7_hangsOn 62 = .ok (.iload 6, 2) := by decide +kernel
theorem dX7_hangsOn_64 : decode cX7_hangsOn 64 = .ok (.ishl, 1) := by decide +kernel
theorem dX7_hangsOn_65 : decode cX7_hangsOn 65 = .ok (.ior, 1) := by decide +kernel
theorem dX7_hangsOn_66 : decode cX7_hangsOn 66 = .ok (.istore_n 3, 1) := by decide +kernel
theorem dX7_hangsOn_67 : decode cX7_hangsOn 67 = .ok (.iinc 6 1, 3) := by decide +kernel
theorem dX7_hangsOn_70 : decode cX7_hangsOn 70 = .ok (.goto (-43), 3) := by decide +kernel
theorem dX7_hangsOn_73 : decode cX7_hangsOn 73 = .ok (.iinc 5 1, 3) := by decide +kernel
theorem dX7_hangsOn_76 : decode cX7_hangsOn 76 = .ok (.goto (-59), 3) := by decide +kernel
theorem dX7_hangsOn_79 : decode cX7_hangsOn 79 = .ok (.iinc 4 1, 3) := by decide +kernel
theorem dX7_hangsOn_82 : decode cX7_hangsOn 82 = .ok (.goto (-75), 3) := by decide +kernel
theorem dX7_hangsOn_85 : decode cX7_hangsOn 85 = .ok (.iload_n 3, 1) := by decide +kernel
theorem dX7_hangsOn_86 : decode cX7_hangsOn 86 = .ok (.iload_n 2, 1) := by decide +kernel
theorem dX7_hangsOn_87 : decode cX7_hangsOn 87 = .ok (.ishr, 1) := by decide +kernel
theorem dX7_hangsOn_88 : decode cX7_hangsOn 88 = .ok (.iconst 1, 1) := by decide +kernel
theorem dX7_hangsOn_89 : decode cX7_hangsOn 89 = .ok (.iand, 1) := by decide +kernel
theorem dX7_hangsOn_90 : decode cX7_hangsOn 90 = .ok (.iconst 1, 1) := by decide +kernel
theorem dX7_hangsOn_91 : decode cX7_hangsOn 91 = .ok (.if_icmp .ne 7, 3) := by decide +kernel
theorem dX7_hangsOn_94 : decode cX7_hangsOn 94 = .ok (.iconst 1, 1) := by decide +kernel
theorem dX7_hangsOn_95 : decode cX7_hangsOn 95 = .ok (.goto 4, 3) := by decide +kernel
theorem dX7_hangsOn_98 : decode cX7_hangsOn 98 = .ok (.iconst 0, 1) := by decide +kernel
theorem dX7_hangsOn_99 : decode cX7_hangsOn 99 = .ok (.ireturn, 1) := by decide +kernel
set_option maxRecDepth 20000 in
theorem ggX7_needs_X7_isLesson : GoodIn wsX7_needs wsX7_isLesson := goodIn_r _ [5, 6, 7, 4, 8] (by decide +kernel) (by decide +kernel)
set_option maxRecDepth 20000 in
theorem gX7_needs_X7_isLesson : GoodIn wsX7_needs (va_wsS RX7 135 yX7_isLesson wsX7_isLesson) := goodIn_app (goodIn_of _ (by decide +kernel)) ggX7_needs_X7_isLesson
set_option maxRecDepth 20000 in
theorem ggX7_needs_X7_hangsOn : GoodIn wsX7_needs wsX7_hangsOn := goodIn_r _ [12, 1, 13, 14, 15, 16, 17, 18, 19, 20, 21, 22, 23, 24, 25, 26, 27, 28, 29, 30, 31, 32, 33, 34, 35, 36, 37, 38, 39, 40] (by decide +kernel) (by decide +kernel)
set_option maxRecDepth 20000 in
theorem gX7_needs_X7_hangsOn : GoodIn wsX7_needs (wsV RX7 163 RX7 yX7_hangsOn wsX7_hangsOn) := goodIn_app (goodIn_of _ (by decide +kernel)) ggX7_needs_X7_hangsOn
theorem dX7_needs_0 : decode cX7_needs 0 = .ok (.iload_n 1, 1) := by decide +kernel
theorem dX7_needs_1 : decode cX7_needs 1 = .ok (.invokestatic 135, 3) := by decide +kernel
theorem dX7_needs_4 : decode cX7_needs 4 = .ok (.ifCond .eq 38, 3) := by decide +kernel
theorem dX7_needs_7 : decode cX7_needs 7 = .ok (.iload_n 2, 1) := by decide +kernel
theorem dX7_needs_8 : decode cX7_needs 8 = .ok (.invokestatic 135, 3) := by decide +kernel
theorem dX7_needs_11 : decode cX7_needs 11 = .ok (.ifCond .eq 31, 3) := by decide +kernel
theorem dX7_needs_14 : decode cX7_needs 14 = .ok (.iload_n 1, 1) := by decide +kernel
theorem dX7_needs_15 : decode cX7_needs 15 = .ok (.iload_n 2, 1) := by decide +kernel
theorem dX7_needs_16 : decode cX7_needs 16 = .ok (.if_icmp .eq 26, 3) := by decide +kernel
theorem dX7_needs_19 : decode cX7_needs 19 = .ok (.aload_n 0, 1) := by decide +kernel
theorem dX7_needs_20 : decode cX7_needs 20 = .ok (.getfield 30, 3) := by decide +kernel
theorem dX7_needs_23 : decode cX7_needs 23 = .ok (.bipush 6, 2) := by decide +kernel
theorem dX7_needs_25 : decode cX7_needs 25 = .ok (.iload_n 1, 1) := by decide +kernel
theorem dX7_needs_26 : decode cX7_needs 26 = .ok (.imul, 1) := by decide +kernel
theorem dX7_needs_27 : decode cX7_needs 27 = .ok (.iload_n 2, 1) := by decide +kernel
theorem dX7_needs_28 : decode cX7_needs 28 = .ok (.iadd, 1) := by decide +kernel
theorem dX7_needs_29 : decode cX7_needs 29 = .ok (.baload, 1) := by decide +kernel
theorem dX7_needs_30 : decode cX7_needs 30 = .ok (.ifCond .ne 12, 3) := by decide +kernel
theorem dX7_needs_33 : decode cX7_needs 33 = .ok (.aload_n 0, 1) := by decide +kernel
theorem dX7_needs_34 : decode cX7_needs 34 = .ok (.iload_n 2, 1) := by decide +kernel
theorem dX7_needs_35 : decode cX7_needs 35 = .ok (.iload_n 1, 1) := by decide +kernel
theorem dX7_needs_36 : decode cX7_needs 36 = .ok (.invokevirtual 163, 3) := by decide +kernel
theorem dX7_needs_39 : decode cX7_needs 39 = .ok (.ifCond .eq 5, 3) := by decide +kernel
theorem dX7_needs_42 : decode cX7_needs 42 = .ok (.iconst 0, 1) := by decide +kernel
theorem dX7_needs_43 : decode cX7_needs 43 = .ok (.ireturn, 1) := by decide +kernel
theorem dX7_needs_44 : decode cX7_needs 44 = .ok (.aload_n 0, 1) := by decide +kernel
theorem dX7_needs_45 : decode cX7_needs 45 = .ok (.getfield 30, 3) := by decide +kernel
theorem dX7_needs_48 : decode cX7_needs 48 = .ok (.bipush 6, 2) := by decide +kernel
theorem dX7_needs_50 : decode cX7_needs 50 = .ok (.iload_n 1, 1) := by decide +kernel
theorem dX7_needs_51 : decode cX7_needs 51 = .ok (.imul, 1) := by decide +kernel
theorem dX7_needs_52 : decode cX7_needs 52 = .ok (.iload_n 2, 1) := by decide +kernel
theorem dX7_needs_53 : decode cX7_needs 53 = .ok (.iadd, 1) := by decide +kernel
theorem dX7_needs_54 : decode cX7_needs 54 = .ok (.iconst 1, 1) := by decide +kernel
theorem dX7_needs_55 : decode cX7_needs 55 = .ok (.bastore, 1) := by decide +kernel
theorem dX7_needs_56 : decode cX7_needs 56 = .ok (.iconst 1, 1) := by decide +kernel
theorem dX7_needs_57 : decode cX7_needs 57 = .ok (.ireturn, 1) := by decide +kernel
set_option maxRecDepth 20000 in
theorem ggX7_mayBegin_X7_isLesson : GoodIn wsX7_mayBegin wsX7_isLesson := goodIn_r _ [7, 8, 9, 6, 10] (by decide +kernel) (by decide +kernel)
set_option maxRecDepth 20000 in
theorem gX7_mayBegin_X7_isLesson : GoodIn wsX7_mayBegin (va_wsS RX7 135 yX7_isLesson wsX7_isLesson) := goodIn_app (goodIn_of _ (by decide +kernel)) ggX7_mayBegin_X7_isLesson
theorem dX7_mayBegin_0 : decode cX7_mayBegin 0 = .ok (.iload_n 1, 1) := by decide +kernel
theorem dX7_mayBegin_1 : decode cX7_mayBegin 1 = .ok (.invokestatic 135, 3) := by decide +kernel
theorem dX7_mayBegin_4 : decode cX7_mayBegin 4 = .ok (.ifCond .eq 25, 3) := by decide +kernel
theorem dX7_mayBegin_7 : decode cX7_mayBegin 7 = .ok (.aload_n 0, 1) := by decide +kernel
theorem dX7_mayBegin_8 : decode cX7_mayBegin 8 = .ok (.getfield 23, 3) := by decide +kernel
theorem dX7_mayBegin_11 : decode cX7_mayBegin 11 = .ok (.iload_n 1, 1) := by decide +kernel
theorem dX7_mayBegin_12 : decode cX7_mayBegin 12 = .ok (.baload, 1) := by decide +kernel
theorem dX7_mayBegin_13 : decode cX7_mayBegin 13 = .ok (.ifCond .eq 16, 3) := by decide +kernel
theorem dX7_mayBegin_16 : decode cX7_mayBegin 16 = .ok (.aload_n 0, 1) := by decide +kernel
theorem dX7_mayBegin_17 : decode cX7_mayBegin 17 = .ok (.getfield 27, 3) := by decide +kernel
theorem dX7_mayBegin_20 : decode cX7_mayBegin 20 = .ok (.iload_n 1, 1) := by decide +kernel
theorem dX7_mayBegin_21 : decode cX7_mayBegin 21 = .ok (.baload, 1) := by decide +kernel
theorem dX7_mayBegin_22 : decode cX7_mayBegin 22 = .ok (.ifCond .ne 7, 3) := by decide +kernel
theorem dX7_mayBegin_25 : decode cX7_mayBegin 25 = .ok (.iconst 1, 1) := by decide +kernel
theorem dX7_mayBegin_26 : decode cX7_mayBegin 26 = .ok (.goto 4, 3) := by decide +kernel
theorem dX7_mayBegin_29 : decode cX7_mayBegin 29 = .ok (.iconst 0, 1) := by decide +kernel
theorem dX7_mayBegin_30 : decode cX7_mayBegin 30 = .ok (.istore_n 2, 1) := by decide +kernel
theorem dX7_mayBegin_31 : decode cX7_mayBegin 31 = .ok (.iconst 0, 1) := by decide +kernel
theorem dX7_mayBegin_32 : decode cX7_mayBegin 32 = .ok (.istore_n 3, 1) := by decide +kernel
theorem dX7_mayBegin_33 : decode cX7_mayBegin 33 = .ok (.iload_n 3, 1) := by decide +kernel
theorem dX7_mayBegin_34 : decode cX7_mayBegin 34 = .ok (.bipush 6, 2) := by decide +kernel
theorem dX7_mayBegin_36 : decode cX7_mayBegin 36 = .ok (.if_icmp .ge 42, 3) := by decide +kernel
theorem dX7_mayBegin_39 : decode cX7_mayBegin 39 = .ok (.iload_n 2, 1) := by decide +kernel
theorem dX7_mayBegin_40 : decode cX7_mayBegin 40 = .ok (.ifCond .eq 38, 3) := by decide +kernel
theorem dX7_mayBegin_43 : decode cX7_mayBegin 43 = .ok (.aload_n 0, 1) := by decide +kernel
theorem dX7_mayBegin_44 : decode cX7_mayBegin 44 = .ok (.getfield 30, 3) := by decide +kernel
theorem dX7_mayBegin_47 : decode cX7_mayBegin 47 = .ok (.bipush 6, 2) := by decide +kernel
theorem dX7_mayBegin_49 : decode cX7_mayBegin 49 = .ok (.iload_n 1, 1) := by decide +kernel
theorem dX7_mayBegin_50 : decode cX7_mayBegin 50 = .ok (.imul, 1) := by decide +kernel
theorem dX7_mayBegin_51 : decode cX7_mayBegin 51 = .ok (.iload_n 3, 1) := by decide +kernel
theorem dX7_mayBegin_52 : decode cX7_mayBegin 52 = .ok (.iadd, 1) := by decide +kernel
theorem dX7_mayBegin_53 : decode cX7_mayBegin 53 = .ok (.baload, 1) := by decide +kernel
theorem dX7_mayBegin_54 : decode cX7_mayBegin 54 = .ok (.ifCond .eq 12, 3) := by decide +kernel
theorem dX7_mayBegin_57 : decode cX7_mayBegin 57 = .ok (.aload_n 0, 1) := by decide +kernel
theorem dX7_mayBegin_58 : decode cX7_mayBegin 58 = .ok (.getfield 27, 3) := by decide +kernel
theorem dX7_mayBegin_61 : decode cX7_mayBegin 61 = .ok (.iload_n 3, 1) := by decide +kernel
theorem dX7_mayBegin_62 : decode cX7_mayBegin 62 = .ok (.baload, 1) := by decide +kernel
theorem dX7_mayBegin_63 : decode cX7_mayBegin 63 = .ok (.ifCond .eq 7, 3) := by decide +kernel
theorem dX7_mayBegin_66 : decode cX7_mayBegin 66 = .ok (.iconst 1, 1) := by decide +kernel
theorem dX7_mayBegin_67 : decode cX7_mayBegin 67 = .ok (.goto 4, 3) := by decide +kernel
theorem dX7_mayBegin_70 : decode cX7_mayBegin 70 = .ok (.iconst 0, 1) := by decide +kernel
theorem dX7_mayBegin_71 : decode cX7_mayBegin 71 = .ok (.istore_n 2, 1) := by decide +kernel
theorem dX7_mayBegin_72 : decode cX7_mayBegin 72 = .ok (.iinc 3 1, 3) := by decide +kernel
theorem dX7_mayBegin_75 : decode cX7_mayBegin 75 = .ok (.goto (-42), 3) := by decide +kernel
theorem dX7_mayBegin_78 : decode cX7_mayBegin 78 = .ok (.iload_n 2, 1) := by decide +kernel
theorem dX7_mayBegin_79 : decode cX7_mayBegin 79 = .ok (.ireturn, 1) := by decide +kernel
set_option maxRecDepth 20000 in
theorem ggX7_open_X7_mayBegin : GoodIn wsX7_open wsX7_mayBegin := goodIn_r _ [5, 6, 7, 8, 9, 10, 4, 11, 12, 13, 14, 15, 16, 17, 18, 19, 20, 21, 22, 23, 24, 25, 26, 27, 28, 29, 30, 31, 32, 33, 34, 35, 36, 37, 38, 39, 40, 41, 42] (by decide +kernel) (by decide +kernel)
set_option maxRecDepth 20000 in
theorem gX7_open_X7_mayBegin : GoodIn wsX7_open (wsV RX7 166 RX7 yX7_mayBegin wsX7_mayBegin) := goodIn_app (goodIn_of _ (by decide +kernel)) ggX7_open_X7_mayBegin
theorem dX7_open_0 : decode cX7_open 0 = .ok (.iconst 0, 1) := by decide +kernel
theorem dX7_open_1 : decode cX7_open 1 = .ok (.istore_n 1, 1) := by decide +kernel
theorem dX7_open_2 : decode cX7_open 2 = .ok (.iload_n 1, 1) := by decide +kernel
theorem dX7_open_3 : decode cX7_open 3 = .ok (.bipush 6, 2) := by decide +kernel
theorem dX7_open_5 : decode cX7_open 5 = .ok (.if_icmp .ge 19, 3) := by decide +kernel
theorem dX7_open_8 : decode cX7_open 8 = .ok (.aload_n 0, 1) := by decide +kernel
theorem dX7_open_9 : decode cX7_open 9 = .ok (.iload_n 1, 1) := by decide +kernel
theorem dX7_open_10 : decode cX7_open 10 = .ok (.invokevirtual 166, 3) := by decide +kernel
theorem dX7_open_13 : decode cX7_open 13 = .ok (.ifCond .eq 5, 3) := by decide +kernel
theorem dX7_open_16 : decode cX7_open 16 = .ok (.iload_n 1, 1) := by decide +kernel
theorem dX7_open_17 : decode cX7_open 17 = .ok (.ireturn, 1) := by decide +kernel
theorem dX7_open_18 : decode cX7_open 18 = .ok (.iinc 1 1, 3) := by decide +kernel
theorem dX7_open_21 : decode cX7_open 21 = .ok (.goto (-19), 3) := by decide +kernel
theorem dX7_open_24 : decode cX7_open 24 = .ok (.iconst (-1), 1) := by decide +kernel
theorem dX7_open_25 : decode cX7_open 25 = .ok (.ireturn, 1) := by decide +kernel
set_option maxRecDepth 20000 in
theorem ggX7_begin_X7_mayBegin : GoodIn wsX7_begin wsX7_mayBegin := goodIn_r _ [9, 10, 11, 12, 13, 14, 8, 15, 16, 17, 18, 19, 20, 21, 22, 23, 24, 25, 26, 27, 28, 29, 30, 31, 32, 33, 34, 35, 36, 37, 38, 39, 40, 41, 42, 43, 44, 45, 46] (by decide +kernel) (by decide +kernel)
set_option maxRecDepth 20000 in
theorem gX7_begin_X7_mayBegin : GoodIn wsX7_begin (wsV RX7 166 RX7 yX7_mayBegin wsX7_mayBegin) := goodIn_app (goodIn_of _ (by decide +kernel)) ggX7_begin_X7_mayBegin
theorem dX7_begin_0 : decode cX7_begin 0 = .ok (.aload_n 0, 1) := by decide +kernel
theorem dX7_begin_1 : decode cX7_begin 1 = .ok (.iload_n 1, 1) := by decide +kernel
theorem dX7_begin_2 : decode cX7_begin 2 = .ok (.invokevirtual 166, 3) := by decide +kernel
theorem dX7_begin_5 : decode cX7_begin 5 = .ok (.ifCond .ne 5, 3) := by decide +kernel
theorem dX7_begin_8 : decode cX7_begin 8 = .ok (.iconst 0, 1) := by decide +kernel
theorem dX7_begin_9 : decode cX7_begin 9 = .ok (.ireturn, 1) := by decide +kernel
theorem dX7_begin_10 : decode cX7_begin 10 = .ok (.aload_n 0, 1) := by decide +kernel
theorem dX7_begin_11 : decode cX7_begin 11 = .ok (.iload_n 1, 1) := by decide +kernel
theorem dX7_begin_12 : decode cX7_begin 12 = .ok (.putfield 36, 3) := by decide +kernel
theorem dX7_begin_15 : decode cX7_begin 15 = .ok (.aload_n 0, 1) := by decide +kernel
theorem dX7_begin_16 : decode cX7_begin 16 = .ok (.iconst 0, 1) := by decide +kernel
theorem dX7_begin_17 : decode cX7_begin 17 = .ok (.putfield 169, 3) := by decide +kernel
theorem dX7_begin_20 : decode cX7_begin 20 = .ok (.aload_n 0, 1) := by decide +kernel
theorem dX7_begin_21 : decode cX7_begin 21 = .ok (.iconst 0, 1) := by decide +kernel
theorem dX7_begin_22 : decode cX7_begin 22 = .ok (.putfield 172, 3) := by decide +kernel
theorem dX7_begin_25 : decode cX7_begin 25 = .ok (.aload_n 0, 1) := by decide +kernel
theorem dX7_begin_26 : decode cX7_begin 26 = .ok (.iconst 0, 1) := by decide +kernel
theorem dX7_begin_27 : decode cX7_begin 27 = .ok (.putfield 175, 3) := by decide +kernel
theorem dX7_begin_30 : decode cX7_begin 30 = .ok (.iconst 1, 1) := by decide +kernel
theorem dX7_begin_31 : decode cX7_begin 31 = .ok (.ireturn, 1) := by decide +kernel
set_option maxRecDepth 20000 in
theorem ggX7_set_X7_isIn : GoodIn wsX7_set wsX7_isIn := goodIn_r _ [7] (by decide +kernel) (by decide +kernel)
set_option maxRecDepth 20000 in
theorem gX7_set_X7_isIn : GoodIn wsX7_set (va_wsS RX7 67 yX7_isIn wsX7_isIn) := goodIn_app (goodIn_of _ (by decide +kernel)) ggX7_set_X7_isIn
theorem dX7_set_0 : decode cX7_set 0 = .ok (.iload_n 1, 1) := by decide +kernel
theorem dX7_set_1 : decode cX7_set 1 = .ok (.iconst 0, 1) := by decide +kernel
theorem dX7_set_2 : decode cX7_set 2 = .ok (.iconst 2, 1) := by decide +kernel
theorem dX7_set_3 : decode cX7_set 3 = .ok (.invokestatic 67, 3) := by decide +kernel
theorem dX7_set_6 : decode cX7_set 6 = .ok (.ifCond .eq 38, 3) := by decide +kernel
theorem dX7_set_9 : decode cX7_set 9 = .ok (.iload_n 2, 1) := by decide +kernel
theorem dX7_set_10 : decode cX7_set 10 = .ok (.iload_n 1, 1) := by decide +kernel
theorem dX7_set_11 : decode cX7_set 11 = .ok (.ifCond .ne 7, 3) := by decide +kernel
theorem dX7_set_14 : decode cX7_set 14 = .ok (.iconst 0, 1) := by decide +kernel
theorem dX7_set_15 : decode cX7_set 15 = .ok (.goto 4, 3) := by decide +kernel
theorem dX7_set_18 : decode cX7_set 18 = .ok (.iconst 1, 1) := by decide +kernel
theorem dX7_set_19 : decode cX7_set 19 = .ok (.iload_n 1, 1) := by decide +kernel
theorem dX7_set_20 : decode cX7_set 20 = .ok (.ifCond .ne 7, 3) := by decide +kernel
theorem dX7_set_23 : decode cX7_set 23 = .ok (.iconst 3, 1) := by decide +kernel
theorem dX7_set_24 : decode cX7_set 24 = .ok (.goto 14, 3) := by decide +kernel
theorem dX7_set_27 : decode cX7_set 27 = .ok (.iload_n 1, 1) := by decide +kernel
theorem dX7_set_28 : decode cX7_set 28 = .ok (.iconst 1, 1) := by decide +kernel
theorem dX7_set_29 : decode cX7_set 29 = .ok (.if_icmp .ne 7, 3) := by decide +kernel
theorem dX7_set_32 : decode cX7_set 32 = .ok (.iconst 5, 1) := by decide +kernel
theorem dX7_set_33 : decode cX7_set 33 = .ok (.goto 5, 3) := by decide +kernel
theorem dX7_set_36 : decode cX7_set 36 = .ok (.bipush 8, 2) := by decide +kernel
theorem dX7_set_38 : decode cX7_set 38 = .ok (.invokestatic 67, 3) := by decide +kernel
theorem dX7_set_41 : decode cX7_set 41 = .ok (.ifCond .ne 5, 3) := by decide +kernel
theorem dX7_set_44 : decode cX7_set 44 = .ok (.iconst 0, 1) := by decide +kernel
theorem dX7_set_45 : decode cX7_set 45 = .ok (.ireturn, 1) := by decide +kernel
theorem dX7_set_46 : decode cX7_set 46 = .ok (.iload_n 1, 1) := by decide +kernel
theorem dX7_set_47 : decode cX7_set 47 = .ok (.ifCond .ne 11, 3) := by decide +kernel
theorem dX7_set_50 : decode cX7_set 50 = .ok (.aload_n 0, 1) := by decide +kernel
theorem dX7_set_51 : decode cX7_set 51 = .ok (.iload_n 2, 1) := by decide +kernel
theorem dX7_set_52 : decode cX7_set 52 = .ok (.putfield 178, 3) := by decide +kernel
theorem dX7_set_55 : decode cX7_set 55 = .ok (.goto 21, 3) := by decide +kernel
theorem dX7_set_58 : decode cX7_set 58 = .ok (.iload_n 1, 1) := by decide +kernel
theorem dX7_set_59 : decode cX7_set 59 = .ok (.iconst 1, 1) := by decide +kernel
theorem dX7_set_60 : decode cX7_set 60 = .ok (.if_icmp .ne 11, 3) := by decide +kernel
theorem dX7_set_63 : decode cX7_set 63 = .ok (.aload_n 0, 1) := by decide +kernel
theorem dX7_set_64 : decode cX7_set 64 = .ok (.iload_n 2, 1) := by decide +kernel
theorem dX7_set_65 : decode cX7_set 65 = .ok (.putfield 40, 3) := by decide +kernel
theorem dX7_set_68 : decode cX7_set 68 = .ok (.goto 8, 3) := by decide +kernel
theorem dX7_set_71 : decode cX7_set 71 = .ok (.aload_n 0, 1) := by decide +kernel
theorem dX7_set_72 : decode cX7_set 72 = .ok (.iload_n 2, 1) := by decide +kernel
theorem dX7_set_73 : decode cX7_set 73 = .ok (.putfield 43, 3) := by decide +kernel
theorem dX7_set_76 : decode cX7_set 76 = .ok (.iconst 1, 1) := by decide +kernel
theorem dX7_set_77 : decode cX7_set 77 = .ok (.ireturn, 1) := by decide +kernel
set_option maxRecDepth 20000 in
theorem ggX7_timesAsked_X7_one : GoodIn wsX7_timesAsked wsX7_one := goodIn_r _ [5] (by decide +kernel) (by decide +kernel)
set_option maxRecDepth 20000 in
theorem gX7_timesAsked_X7_one : GoodIn wsX7_timesAsked (va_wsS RX7 181 yX7_one wsX7_one) := goodIn_app (goodIn_of _ (by decide +kernel)) ggX7_timesAsked_X7_one
theorem dX7_timesAsked_0 : decode cX7_timesAsked 0 = .ok (.iconst 0, 1) := by decide +kernel
theorem dX7_timesAsked_1 : decode cX7_timesAsked 1 = .ok (.istore_n 3, 1) := by decide +kernel
theorem dX7_timesAsked_2 : decode cX7_timesAsked 2 = .ok (.iconst 0, 1) := by decide +kernel
theorem dX7_timesAsked_3 : decode cX7_timesAsked 3 = .ok (.istore 4, 2) := by decide +kernel
theorem dX7_timesAsked_5 : decode cX7_timesAsked 5 = .ok (.iload 4, 2) := by decide +kernel
theorem dX7_timesAsked_7 : decode cX7_timesAsked 7 = .ok (.iload_n 2, 1) := by decide +kernel
theorem dX7_timesAsked_8 : decode cX7_timesAsked 8 = .ok (.if_icmp .ge 31, 3) := by decide +kernel
theorem dX7_timesAsked_11 : decode cX7_timesAsked 11 = .ok (.iload_n 3, 1) := by decide +kernel
theorem dX7_timesAsked_12 : decode cX7_timesAsked 12 = .ok (.aload_n 0, 1) := by decide +kernel
theorem dX7_timesAsked_13 : decode cX7_timesAsked 13 = .ok (.getfield 46, 3) := by decide +kernel
theorem dX7_timesAsked_16 : decode cX7_timesAsked 16 = .ok (.iload 4, 2) := by decide +kernel
theorem dX7_timesAsked_18 : decode cX7_timesAsked 18 = .ok (.iaload, 1) := by decide +kernel
theorem dX7_timesAsked_19 : decode cX7_timesAsked 19 = .ok (.iload_n 1, 1) := by decide +kernel
theorem dX7_timesAsked_20 : decode cX7_timesAsked 20 = .ok (.if_icmp .ne 7, 3) := by decide +kernel
theorem dX7_timesAsked_23 : decode cX7_timesAsked 23 = .ok (.iconst 1, 1) := by decide +kernel
theorem dX7_timesAsked_24 : decode cX7_timesAsked 24 = .ok (.goto 4, 3) := by decide +kernel
theorem dX7_timesAsked_27 : decode cX7_timesAsked 27 = .ok (.iconst 0, 1) := by decide +kernel
theorem dX7_timesAsked_28 : decode cX7_timesAsked 28 = .ok (.invokestatic 181, 3) := by decide +kernel
theorem dX7_timesAsked_31 : decode cX7_timesAsked 31 = .ok (.iadd, 1) := by decide +kernel
theorem dX7_timesAsked_32 : decode cX7_timesAsked 32 = .ok (.istore_n 3, 1) := by decide +kernel
theorem dX7_timesAsked_33 : decode cX7_timesAsked 33 = .ok (.iinc 4 1, 3) := by decide +kernel
theorem dX7_timesAsked_36 : decode cX7_timesAsked 36 = .ok (.goto (-31), 3) := by decide +kernel
theorem dX7_timesAsked_39 : decode cX7_timesAsked 39 = .ok (.iload_n 3, 1) := by decide +kernel
theorem dX7_timesAsked_40 : decode cX7_timesAsked 40 = .ok (.ireturn, 1) := by decide +kernel
set_option maxRecDepth 20000 in
theorem ggX7_isRight_X7_tellsOf : GoodIn wsX7_isRight wsX7_tellsOf := goodIn_r _ [8, 9, 10, 11, 12, 13, 14, 15, 16, 17, 18, 19, 20, 21, 22, 23, 24, 25, 26, 27, 28, 29, 30, 31, 32, 33, 34, 35, 36, 37] (by decide +kernel) (by decide +kernel)
set_option maxRecDepth 20000 in
theorem gX7_isRight_X7_tellsOf : GoodIn wsX7_isRight (wsV RX7 160 RX7 yX7_tellsOf wsX7_tellsOf) := goodIn_app (goodIn_of _ (by decide +kernel)) ggX7_isRight_X7_tellsOf
theorem dX7_isRight_0 : decode cX7_isRight 0 = .ok (.aload_n 0, 1) := by decide +kernel
theorem dX7_isRight_1 : decode cX7_isRight 1 = .ok (.getfield 49, 3) := by decide +kernel
theorem dX7_isRight_4 : decode cX7_isRight 4 = .ok (.iload_n 1, 1) := by decide +kernel
theorem dX7_isRight_5 : decode cX7_isRight 5 = .ok (.iaload, 1) := by decide +kernel
theorem dX7_isRight_6 : decode cX7_isRight 6 = .ok (.aload_n 0, 1) := by decide +kernel
theorem dX7_isRight_7 : decode cX7_isRight 7 = .ok (.aload_n 0, 1) := by decide +kernel
theorem dX7_isRight_8 : decode cX7_isRight 8 = .ok (.getfield 36, 3) := by decide +kernel
theorem dX7_isRight_11 : decode cX7_isRight 11 = .ok (.aload_n 0, 1) := by decide +kernel
theorem dX7_isRight_12 : decode cX7_isRight 12 = .ok (.getfield 46, 3) := by decide +kernel
theorem dX7_isRight_15 : decode cX7_isRight 15 = .ok (.iload_n 1, 1) := by decide +kernel
theorem dX7_isRight_16 : decode cX7_isRight 16 = .ok (.iaload, 1) := by decide +kernel
theorem dX7_isRight_17 : decode cX7_isRight 17 = .ok (.invokevirtual 160, 3) := by decide +kernel
theorem dX7_isRight_20 : decode cX7_isRight 20 = .ok (.if_icmp .ne 7, 3) := by decide +kernel
theorem dX7_isRight_23 : decode cX7_isRight 23 = .ok (.iconst 1, 1) := by decide +kernel
theorem dX7_isRight_24 : decode cX7_isRight 24 = .ok (.goto 4, 3) := by decide +kernel
theorem dX7_isRight_27 : decode cX7_isRight 27 = .ok (.iconst 0, 1) := by decide +kernel
theorem dX7_isRight_28 : decode cX7_isRight 28 = .ok (.ireturn, 1) := by decide +kernel
set_option maxRecDepth 20000 in
theorem ggX7_answer_X7_isCase : GoodIn wsX7_answer wsX7_isCase := goodIn_r _ [11, 12, 13, 10, 14] (by decide +kernel) (by decide +kernel)
set_option maxRecDepth 20000 in
theorem gX7_answer_X7_isCase : GoodIn wsX7_answer (va_wsS RX7 157 yX7_isCase wsX7_isCase) := goodIn_app (goodIn_of _ (by decide +kernel)) ggX7_answer_X7_isCase
set_option maxRecDepth 20000 in
theorem ggX7_answer_X7_isIn : GoodIn wsX7_answer wsX7_isIn := goodIn_r _ [14] (by decide +kernel) (by decide +kernel)
set_option maxRecDepth 20000 in
theorem gX7_answer_X7_isIn : GoodIn wsX7_answer (va_wsS RX7 67 yX7_isIn wsX7_isIn) := goodIn_app (goodIn_of _ (by decide +kernel)) ggX7_answer_X7_isIn
set_option maxRecDepth 20000 in
theorem ggX7_answer_X7_isRight : GoodIn wsX7_answer wsX7_isRight := goodIn_r _ [18, 5, 1, 4, 19, 20, 21, 10, 22, 23, 31, 32, 33, 34, 35, 36, 37, 38, 39, 40, 41, 42, 43, 44, 45, 46, 47, 48, 49, 50, 51, 52, 53, 54, 55, 56, 57, 58] (by decide +kernel) (by decide +kernel)
set_option maxRecDepth 20000 in
theorem gX7_answer_X7_isRight : GoodIn wsX7_answer (wsV RX7 185 RX7 yX7_isRight wsX7_isRight) := goodIn_app (goodIn_of _ (by decide +kernel)) ggX7_answer_X7_isRight
set_option maxRecDepth 20000 in
theorem ggX7_answer_X7_one : GoodIn wsX7_answer wsX7_one := goodIn_r _ [26] (by decide +kernel) (by decide +kernel)
set_option maxRecDepth 20000 in
theorem gX7_answer_X7_one : GoodIn wsX7_answer (va_wsS RX7 181 yX7_one wsX7_one) := goodIn_app (goodIn_of _ (by decide +kernel)) ggX7_answer_X7_one
set_option maxRecDepth 20000 in
theorem ggX7_answer_X7_timesAsked : GoodIn wsX7_answer wsX7_timesAsked := goodIn_r _ [30, 4, 24, 25, 10, 26, 31, 32, 33, 34, 35, 36, 37, 38, 39, 40, 41, 42, 43, 44, 45, 46, 47, 48, 49, 50, 51, 52, 53, 54, 55, 56, 57, 58] (by decide +kernel) (by decide +kernel)
set_option maxRecDepth 20000 in
theorem gX7_answer_X7_timesAsked : GoodIn wsX7_answer (wsV RX7 188 RX7 yX7_timesAsked wsX7_timesAsked) := goodIn_app (goodIn_of _ (by decide +kernel)) ggX7_answer_X7_timesAsked
theorem dX7_answer_0 : decode cX7_answer 0 = .ok (.aload_n 0, 1) := by decide +kernel
theorem dX7_answer_1 : decode cX7_answer 1 = .ok (.getfield 36, 3) := by decide +kernel
theorem dX7_answer_4 : decode cX7_answer 4 = .ok (.iconst (-1), 1) := by decide +kernel
theorem dX7_answer_5 : decode cX7_answer 5 = .ok (.if_icmp .eq 40, 3) := by decide +kernel
theorem dX7_answer_8 : decode cX7_answer 8 = .ok (.aload_n 0, 1) := by decide +kernel
theorem dX7_answer_9 : decode cX7_answer 9 = .ok (.getfield 27, 3) := by decide +kernel
theorem dX7_answer_12 : decode cX7_answer 12 = .ok (.aload_n 0, 1) := by decide +kernel
theorem dX7_answer_13 : decode cX7_answer 13 = .ok (.getfield 36, 3) := by decide +kernel
theorem dX7_answer_16 : decode cX7_answer 16 = .ok (.baload, 1) := by decide +kernel
theorem dX7_answer_17 : decode cX7_answer 17 = .ok (.ifCond .ne 28, 3) := by decide +kernel
theorem dX7_answer_20 : decode cX7_answer 20 = .ok (.iload_n 1, 1) := by decide +kernel
theorem dX7_answer_21 : decode cX7_answer 21 = .ok (.invokestatic 157, 3) := by decide +kernel
theorem dX7_answer_24 : decode cX7_answer 24 = .ok (.ifCond .eq 21, 3) := by decide +kernel
theorem dX7_answer_27 : decode cX7_answer 27 = .ok (.iload_n 2, 1) := by decide +kernel
theorem dX7_answer_28 : decode cX7_answer 28 = .ok (.iconst 0, 1) := by decide +kernel
theorem dX7_answer_29 : decode cX7_answer 29 = .ok (.iconst 1, 1) := by decide +kernel
theorem dX7_answer_30 : decode cX7_answer 30 = .ok (.invokestatic 67, 3) := by decide +kernel
theorem dX7_answer_33 : decode cX7_answer 33 = .ok (.ifCond .eq 12, 3) := by decide +kernel
theorem dX7_answer_36 : decode cX7_answer 36 = .ok (.aload_n 0, 1) := by decide +kernel
theorem dX7_answer_37 : decode cX7_answer 37 = .ok (.getfield 169, 3) := by decide +kernel
theorem dX7_answer_40 : decode cX7_answer 40 = .ok (.bipush 40, 2) := by decide +kernel
theorem dX7_answer_42 : decode cX7_answer 42 = .ok (.if_icmp .ne 5, 3) := by decide +kernel
theorem dX7_answer_45 : decode cX7_answer 45 = .ok (.iconst (-1), 1) := by decide +kernel
theorem dX7_answer_46 : decode cX7_answer 46 = .ok (.ireturn, 1) := by decide +kernel
theorem dX7_answer_47 : decode cX7_answer 47 = .ok (.aload_n 0, 1) := by decide +kernel
theorem dX7_answer_48 : decode cX7_answer 48 = .ok (.getfield 46, 3) := by decide +kernel
theorem dX7_answer_51 : decode cX7_answer 51 = .ok (.aload_n 0, 1) := by decide +kernel
theorem dX7_answer_52 : decode cX7_answer 52 = .ok (.getfield 169, 3) := by decide +kernel
theorem dX7_answer_55 : decode cX7_answer 55 = .ok (.iload_n 1, 1) := by decide +kernel
theorem dX7_answer_56 : decode cX7_answer 56 = .ok (.iastore, 1) := by decide +kernel
theorem dX7_answer_57 : decode cX7_answer 57 = .ok (.aload_n 0, 1) := by decide +kernel
theorem dX7_answer_58 : decode cX7_answer 58 = .ok (.getfield 49, 3) := by decide +kernel
theorem dX7_answer_61 : decode cX7_answer 61 = .ok (.aload_n 0, 1) := by decide +kernel
theorem dX7_answer_62 : decode cX7_answer 62 = .ok (.getfield 169, 3) := by decide +kernel
theorem dX7_answer_65 : decode cX7_answer 65 = .ok (.iload_n 2, 1) := by decide +kernel
theorem dX7_answer_66 : decode cX7_answer 66 = .ok (.iastore, 1) := by decide +kernel
theorem dX7_answer_67 : decode cX7_answer 67 = .ok (.aload_n 0, 1) := by decide +kernel
theorem dX7_answer_68 : decode cX7_answer 68 = .ok (.dup, 1) := by decide +kernel
theorem dX7_answer_69 : decode cX7_answer 69 = .ok (.getfield 169, 3) := by decide +kernel
theorem dX7_answer_72 : decode cX7_answer 72 = .ok (.iconst 1, 1) := by decide +kernel
theorem dX7_answer_73 : decode cX7_answer 73 = .ok (.iadd, 1) := by decide +kernel
theorem dX7_answer_74 : decode cX7_answer 74 = .ok (.putfield 169, 3) := by decide +kernel
theorem dX7_answer_77 : decode cX7_answer 77 = .ok (.aload_n 0, 1) := by decide +kernel
theorem dX7_answer_78 : decode cX7_answer 78 = .ok (.aload_n 0, 1) := by decide +kernel
theorem dX7_answer_79 : decode cX7_answer 79 = .ok (.getfield 169, 3) := by decide +kernel
theorem dX7_answer_82 : decode cX7_answer 82 = .ok (.iconst 1, 1) := by decide +kernel
theorem dX7_answer_83 : decode cX7_answer 83 = .ok (.isub, 1) := by decide +kernel
theorem dX7_answer_84 : decode cX7_answer 84 = .ok (.invokevirtual 185, 3) := by decide +kernel
theorem dX7_answer_87 : decode cX7_answer 87 = .ok (.istore_n 3, 1) := by decide +kernel
theorem dX7_answer_88 : decode cX7_answer 88 = .ok (.aload_n 0, 1) := by decide +kernel
theorem dX7_answer_89 : decode cX7_answer 89 = .ok (.dup, 1) := by decide +kernel
theorem dX7_answer_90 : decode cX7_answer 90 = .ok (.getfield 172, 3) := by decide +kernel
theorem dX7_answer_93 : decode cX7_answer 93 = .ok (.iload_n 3, 1) := by decide +kernel
theorem dX7_answer_94 : decode cX7_answer 94 = .ok (.invokestatic 181, 3) := by decide +kernel
theorem dX7_answer_97 : decode cX7_answer 97 = .ok (.iadd, 1) := by decide +kernel
theorem dX7_answer_98 : decode cX7_answer 98 = .ok (.putfield 172, 3) := by decide +kernel
theorem dX7_answer_101 : decode cX7_answer 101 = .ok (.aload_n 0, 1) := by decide +kernel
theorem dX7_answer_102 : decode cX7_answer 102 = .ok (.getfield 169, 3) := by decide +kernel
theorem dX7_answer_105 : decode cX7_answer 105 = .ok (.aload_n 0, 1) := by decide +kernel
theorem dX7_answer_106 : decode cX7_answer 106 = .ok (.getfield 43, 3) := by decide +kernel
theorem dX7_answer_109 : decode cX7_answer 109 = .ok (.if_icmp .lt 7, 3) := by decide +kernel
theorem dX7_answer_112 : decode cX7_answer 112 = .ok (.iconst 1, 1) := by decide +kernel
theorem dX7_answer_113 : decode cX7_answer 113 = .ok (.goto 4, 3) := by decide +kernel
theorem dX7_answer_116 : decode cX7_answer 116 = .ok (.iconst 0, 1) := by decide +kernel
theorem dX7_answer_117 : decode cX7_answer 117 = .ok (.istore 4, 2) := by decide +kernel
theorem dX7_answer_119 : decode cX7_answer 119 = .ok (.aload_n 0, 1) := by decide +kernel
theorem dX7_answer_120 : decode cX7_answer 120 = .ok (.getfield 169, 3) := by decide +kernel
theorem dX7_answer_123 : decode cX7_answer 123 = .ok (.aload_n 0, 1) := by decide +kernel
theorem dX7_answer_124 : decode cX7_answer 124 = .ok (.getfield 43, 3) := by decide +kernel
theorem dX7_answer_127 : decode cX7_answer 127 = .ok (.isub, 1) := by decide +kernel
theorem dX7_answer_128 : decode cX7_answer 128 = .ok (.istore 5, 2) := by decide +kernel
theorem dX7_answer_130 : decode cX7_answer 130 = .ok (.iload 5, 2) := by decide +kernel
theorem dX7_answer_132 : decode cX7_answer 132 = .ok (.aload_n 0, 1) := by decide +kernel
theorem dX7_answer_133 : decode cX7_answer 133 = .ok (.getfield 169, 3) := by decide +kernel
theorem dX7_answer_136 : decode cX7_answer 136 = .ok (.if_icmp .ge 46, 3) := by decide +kernel
theorem dX7_answer_139 : decode cX7_answer 139 = .ok (.iload 4, 2) := by decide +kernel
theorem dX7_answer_141 : decode cX7_answer 141 = .ok (.ifCond .eq 41, 3) := by decide +kernel
theorem dX7_answer_144 : decode cX7_answer 144 = .ok (.aload_n 0, 1) := by decide +kernel
theorem dX7_answer_145 : decode cX7_answer 145 = .ok (.iload 5, 2) := by decide +kernel
theorem dX7_answer_147 : decode cX7_answer 147 = .ok (.invokevirtual 185, 3) := by decide +kernel
theorem dX7_answer_150 : decode cX7_answer 150 = .ok (.ifCond .eq 23, 3) := by decide +kernel
theorem dX7_answer_153 : decode cX7_answer 153 = .ok (.aload_n 0, 1) := by decide +kernel
theorem dX7_answer_154 : decode cX7_answer 154 = .ok (.aload_n 0, 1) := by decide +kernel
theorem dX7_answer_155 : decode cX7_answer 155 = .ok (.getfield 46, 3) := by decide +kernel
theorem dX7_answer_158 : decode cX7_answer 158 = .ok (.iload 5, 2) := by decide +kernel
theorem dX7_answer_160 : decode cX7_answer 160 = .ok (.iaload, 1) := by decide +kernel
theorem dX7_answer_161 : decode cX7_answer 161 = .ok (.iload 5, 2) := by decide +kernel
theorem dX7_answer_163 : decode cX7_answer 163 = .ok (.invokevirtual 188, 3) := by decide +kernel
theorem dX7_answer_166 : decode cX7_answer 166 = .ok (.ifCond .ne 7, 3) := by decide +kernel
theorem dX7_answer_169 : decode cX7_answer 169 = .ok (.iconst 1, 1) := by decide +kernel
theorem dX7_answer_170 : decode cX7_answer 170 = .ok (.goto 4, 3) := by decide +kernel
theorem dX7_answer_173 : decode cX7_answer 173 = .ok (.iconst 0, 1) := by decide +kernel
theorem dX7_answer_174 : decode cX7_answer 174 = .ok (.istore 4, 2) := by decide +kernel
theorem dX7_answer_176 : decode cX7_answer 176 = .ok (.iinc 5 1, 3) := by decide +kernel
theorem dX7_answer_179 : decode cX7_answer 179 = .ok (.goto (-49), 3) := by decide +kernel
theorem dX7_answer_182 : decode cX7_answer 182 = .ok (.aload_n 0, 1) := by decide +kernel
theorem dX7_answer_183 : decode cX7_answer 183 = .ok (.getfield 27, 3) := by decide +kernel
theorem dX7_answer_186 : decode cX7_answer 186 = .ok (.aload_n 0, 1) := by decide +kernel
theorem dX7_answer_187 : decode cX7_answer 187 = .ok (.getfield 36, 3) := by decide +kernel
theorem dX7_answer_190 : decode cX7_answer 190 = .ok (.iload 4, 2) := by decide +kernel
theorem dX7_answer_192 : decode cX7_answer 192 = .ok (.bastore, 1) := by decide +kernel
theorem dX7_answer_193 : decode cX7_answer 193 = .ok (.iload_n 3, 1) := by decide +kernel
theorem dX7_answer_194 : decode cX7_answer 194 = .ok (.invokestatic 181, 3) := by decide +kernel
theorem dX7_answer_197 : decode cX7_answer 197 = .ok (.ireturn, 1) := by decide +kernel
set_option maxRecDepth 20000 in
theorem ggX7_slipsOf_X7_pictureAt : GoodIn wsX7_slipsOf wsX7_pictureAt := goodIn_r _ [8] (by decide +kernel) (by decide +kernel)
set_option maxRecDepth 20000 in
theorem gX7_slipsOf_X7_pictureAt : GoodIn wsX7_slipsOf (va_wsS RX7 151 yX7_pictureAt wsX7_pictureAt) := goodIn_app (goodIn_of _ (by decide +kernel)) ggX7_slipsOf_X7_pictureAt
set_option maxRecDepth 20000 in
theorem ggX7_slipsOf_X7_tellsOf : GoodIn wsX7_slipsOf wsX7_tellsOf := goodIn_r _ [12, 13, 17, 18, 19, 20, 21, 22, 23, 24, 25, 26, 27, 28, 29, 30, 31, 32, 33, 34, 35, 36, 37, 38, 39, 40, 41, 42, 43, 44] (by decide +kernel) (by decide +kernel)
set_option maxRecDepth 20000 in
theorem gX7_slipsOf_X7_tellsOf : GoodIn wsX7_slipsOf (wsV RX7 160 RX7 yX7_tellsOf wsX7_tellsOf) := goodIn_app (goodIn_of _ (by decide +kernel)) ggX7_slipsOf_X7_tellsOf
set_option maxRecDepth 20000 in
theorem ggX7_slipsOf_X7_one : GoodIn wsX7_slipsOf wsX7_one := goodIn_r _ [16] (by decide +kernel) (by decide +kernel)
set_option maxRecDepth 20000 in
theorem gX7_slipsOf_X7_one : GoodIn wsX7_slipsOf (va_wsS RX7 181 yX7_one wsX7_one) := goodIn_app (goodIn_of _ (by decide +kernel)) ggX7_slipsOf_X7_one
theorem dX7_slipsOf_0 : decode cX7_slipsOf 0 = .ok (.iconst 0, 1) := by decide +kernel
theorem dX7_slipsOf_1 : decode cX7_slipsOf 1 = .ok (.istore_n 2, 1) := by decide +kernel
theorem dX7_slipsOf_2 : decode cX7_slipsOf 2 = .ok (.iconst 0, 1) := by decide +kernel
theorem dX7_slipsOf_3 : decode cX7_slipsOf 3 = .ok (.istore_n 3, 1) := by decide +kernel
theorem dX7_slipsOf_4 : decode cX7_slipsOf 4 = .ok (.iload_n 3, 1) := by decide +kernel
theorem dX7_slipsOf_5 : decode cX7_slipsOf 5 = .ok (.aload_n 0, 1) := by decide +kernel
theorem dX7_slipsOf_6 : decode cX7_slipsOf 6 = .ok (.getfield 169, 3) := by decide +kernel
theorem dX7_slipsOf_9 : decode cX7_slipsOf 9 = .ok (.if_icmp .ge 47, 3) := by decide +kernel
theorem dX7_slipsOf_12 : decode cX7_slipsOf 12 = .ok (.iload_n 2, 1) := by decide +kernel
theorem dX7_slipsOf_13 : decode cX7_slipsOf 13 = .ok (.aload_n 0, 1) := by decide +kernel
theorem dX7_slipsOf_14 : decode cX7_slipsOf 14 = .ok (.aload_n 0, 1) := by decide +kernel
theorem dX7_slipsOf_15 : decode cX7_slipsOf 15 = .ok (.getfield 36, 3) := by decide +kernel
theorem dX7_slipsOf_18 : decode cX7_slipsOf 18 = .ok (.iload_n 1, 1) := by decide +kernel
theorem dX7_slipsOf_19 : decode cX7_slipsOf 19 = .ok (.invokestatic 151, 3) := by decide +kernel
theorem dX7_slipsOf_22 : decode cX7_slipsOf 22 = .ok (.aload_n 0, 1) := by decide +kernel
theorem dX7_slipsOf_23 : decode cX7_slipsOf 23 = .ok (.getfield 46, 3) := by decide +kernel
theorem dX7_slipsOf_26 : decode cX7_slipsOf 26 = .ok (.iload_n 3, 1) := by decide +kernel
theorem dX7_slipsOf_27 : decode cX7_slipsOf 27 = .ok (.iaload, 1) := by decide +kernel
theorem dX7_slipsOf_28 : decode cX7_slipsOf 28 = .ok (.invokevirtual 160, 3) := by decide +kernel
theorem dX7_slipsOf_31 : decode cX7_slipsOf 31 = .ok (.aload_n 0, 1) := by decide +kernel
theorem dX7_slipsOf_32 : decode cX7_slipsOf 32 = .ok (.getfield 49, 3) := by decide +kernel
theorem dX7_slipsOf_35 : decode cX7_slipsOf 35 = .ok (.iload_n 3, 1) := by decide +kernel
theorem dX7_slipsOf_36 : decode cX7_slipsOf 36 = .ok (.iaload, 1) := by decide +kernel
theorem dX7_slipsOf_37 : decode cX7_slipsOf 37 = .ok (.if_icmp .eq 7, 3) := by decide +kernel
theorem dX7_slipsOf_40 : decode cX7_slipsOf 40 = .ok (.iconst 1, 1) := by decide +kernel
theorem dX7_slipsOf_41 : decode cX7_slipsOf 41 = .ok (.goto 4, 3) := by decide +kernel
theorem dX7_slipsOf_44 : decode cX7_slipsOf 44 = .ok (.iconst 0, 1) := by decide +kernel
theorem dX7_slipsOf_45 : decode cX7_slipsOf 45 = .ok (.invokestatic 181, 3) := by decide +kernel
theorem dX7_slipsOf_48 : decode cX7_slipsOf 48 = .ok (.iadd, 1) := by decide +kernel
theorem dX7_slipsOf_49 : decode cX7_slipsOf 49 = .ok (.istore_n 2, 1) := by decide +kernel
theorem dX7_slipsOf_50 : decode cX7_slipsOf 50 = .ok (.iinc 3 1, 3) := by decide +kernel
theorem dX7_slipsOf_53 : decode cX7_slipsOf 53 = .ok (.goto (-49), 3) := by decide +kernel
theorem dX7_slipsOf_56 : decode cX7_slipsOf 56 = .ok (.iload_n 2, 1) := by decide +kernel
theorem dX7_slipsOf_57 : decode cX7_slipsOf 57 = .ok (.ireturn, 1) := by decide +kernel
set_option maxRecDepth 20000 in
theorem ggX7_lefts_X7_slipsOf : GoodIn wsX7_lefts wsX7_slipsOf := goodIn_r _ [8, 9, 2, 10, 11, 12, 13, 7, 14, 15, 16, 17, 18, 19, 20, 21, 22, 23, 24, 25, 26, 27, 28, 29, 30, 31, 32, 33, 34, 35, 36, 37, 38, 39, 40, 41, 42, 43, 44, 45, 46, 47, 48, 49, 50] (by decide +kernel) (by decide +kernel)
set_option maxRecDepth 20000 in
theorem gX7_lefts_X7_slipsOf : GoodIn wsX7_lefts (wsV RX7 191 RX7 yX7_slipsOf wsX7_slipsOf) := goodIn_app (goodIn_of _ (by decide +kernel)) ggX7_lefts_X7_slipsOf
theorem dX7_lefts_0 : decode cX7_lefts 0 = .ok (.iconst 0, 1) := by decide +kernel
theorem dX7_lefts_1 : decode cX7_lefts 1 = .ok (.istore_n 1, 1) := by decide +kernel
theorem dX7_lefts_2 : decode cX7_lefts 2 = .ok (.iconst 0, 1) := by decide +kernel
theorem dX7_lefts_3 : decode cX7_lefts 3 = .ok (.istore_n 2, 1) := by decide +kernel
theorem dX7_lefts_4 : decode cX7_lefts 4 = .ok (.iload_n 2, 1) := by decide +kernel
theorem dX7_lefts_5 : decode cX7_lefts 5 = .ok (.aload_n 0, 1) := by decide +kernel
theorem dX7_lefts_6 : decode cX7_lefts 6 = .ok (.getfield 33, 3) := by decide +kernel
theorem dX7_lefts_9 : decode cX7_lefts 9 = .ok (.aload_n 0, 1) := by decide +kernel
theorem dX7_lefts_10 : decode cX7_lefts 10 = .ok (.getfield 36, 3) := by decide +kernel
theorem dX7_lefts_13 : decode cX7_lefts 13 = .ok (.iaload, 1) := by decide +kernel
theorem dX7_lefts_14 : decode cX7_lefts 14 = .ok (.if_icmp .ge 27, 3) := by decide +kernel
theorem dX7_lefts_17 : decode cX7_lefts 17 = .ok (.aload_n 0, 1) := by decide +kernel
theorem dX7_lefts_18 : decode cX7_lefts 18 = .ok (.iload_n 2, 1) := by decide +kernel
theorem dX7_lefts_19 : decode cX7_lefts 19 = .ok (.invokevirtual 191, 3) := by decide +kernel
theorem dX7_lefts_22 : decode cX7_lefts 22 = .ok (.aload_n 0, 1) := by decide +kernel
theorem dX7_lefts_23 : decode cX7_lefts 23 = .ok (.getfield 178, 3) := by decide +kernel
theorem dX7_lefts_26 : decode cX7_lefts 26 = .ok (.if_icmp .gt 9, 3) := by decide +kernel
theorem dX7_lefts_29 : decode cX7_lefts 29 = .ok (.iload_n 1, 1) := by decide +kernel
theorem dX7_lefts_30 : decode cX7_lefts 30 = .ok (.iconst 1, 1) := by decide +kernel
theorem dX7_lefts_31 : decode cX7_lefts 31 = .ok (.iload_n 2, 1) := by decide +kernel
theorem dX7_lefts_32 : decode cX7_lefts 32 = .ok (.ishl, 1) := by decide +kernel
theorem dX7_lefts_33 : decode cX7_lefts 33 = .ok (.ior, 1) := by decide +kernel
theorem dX7_lefts_34 : decode cX7_lefts 34 = .ok (.istore_n 1, 1) := by decide +kernel
theorem dX7_lefts_35 : decode cX7_lefts 35 = .ok (.iinc 2 1, 3) := by decide +kernel
theorem dX7_lefts_38 : decode cX7_lefts 38 = .ok (.goto (-34), 3) := by decide +kernel
theorem dX7_lefts_41 : decode cX7_lefts 41 = .ok (.iload_n 1, 1) := by decide +kernel
theorem dX7_lefts_42 : decode cX7_lefts 42 = .ok (.ireturn, 1) := by decide +kernel
theorem dX7_many_0 : decode cX7_many 0 = .ok (.iconst 0, 1) := by decide +kernel
theorem dX7_many_1 : decode cX7_many 1 = .ok (.istore_n 1, 1) := by decide +kernel
theorem dX7_many_2 : decode cX7_many 2 = .ok (.iload_n 0, 1) := by decide +kernel
theorem dX7_many_3 : decode cX7_many 3 = .ok (.istore_n 2, 1) := by decide +kernel
theorem dX7_many_4 : decode cX7_many 4 = .ok (.iload_n 2, 1) := by decide +kernel
theorem dX7_many_5 : decode cX7_many 5 = .ok (.ifCond .le 16, 3) := by decide +kernel
theorem dX7_many_8 : decode cX7_many 8 = .ok (.iload_n 1, 1) := by decide +kernel
theorem dX7_many_9 : decode cX7_many 9 = .ok (.iload_n 2, 1) := by decide +kernel
theorem dX7_many_10 : decode cX7_many 10 = .ok (.iconst 1, 1) := by decide +kernel
theorem dX7_many_11 : decode cX7_many 11 = .ok (.iand, 1) := by decide +kernel
theorem dX7_many_12 : decode cX7_many 12 = .ok (.iadd, 1) := by decide +kernel
theorem dX7_many_13 : decode cX7_many 13 = .ok (.istore_n 1, 1) := by decide +kernel
theorem dX7_many_14 : decode cX7_many 14 = .ok (.iload_n 2, 1) := by decide +kernel
theorem dX7_many_15 : decode cX7_many 15 = .ok (.iconst 1, 1) := by decide +kernel
theorem dX7_many_16 : decode cX7_many 16 = .ok (.ishr, 1) := by decide +kernel
theorem dX7_many_17 : decode cX7_many 17 = .ok (.istore_n 2, 1) := by decide +kernel
theorem dX7_many_18 : decode cX7_many 18 = .ok (.goto (-14), 3) := by decide +kernel
theorem dX7_many_21 : decode cX7_many 21 = .ok (.iload_n 1, 1) := by decide +kernel
theorem dX7_many_22 : decode cX7_many 22 = .ok (.ireturn, 1) := by decide +kernel
set_option maxRecDepth 20000 in
theorem ggX7_tellOne_X7_pictureAt : GoodIn wsX7_tellOne wsX7_pictureAt := goodIn_r _ [6] (by decide +kernel) (by decide +kernel)
set_option maxRecDepth 20000 in
theorem gX7_tellOne_X7_pictureAt : GoodIn wsX7_tellOne (va_wsS RX7 151 yX7_pictureAt wsX7_pictureAt) := goodIn_app (goodIn_of _ (by decide +kernel)) ggX7_tellOne_X7_pictureAt
set_option maxRecDepth 20000 in
theorem ggX7_tellOne_X7_tellsOf : GoodIn wsX7_tellOne wsX7_tellsOf := goodIn_r _ [10, 11, 12, 13, 14, 15, 16, 17, 18, 19, 20, 21, 22, 23, 24, 25, 26, 27, 28, 29, 30, 31, 32, 33, 34, 35, 36, 37, 38, 39] (by decide +kernel) (by decide +kernel)
set_option maxRecDepth 20000 in
theorem gX7_tellOne_X7_tellsOf : GoodIn wsX7_tellOne (wsV RX7 160 RX7 yX7_tellsOf wsX7_tellsOf) := goodIn_app (goodIn_of _ (by decide +kernel)) ggX7_tellOne_X7_tellsOf
theorem dX7_tellOne_0 : decode cX7_tellOne 0 = .ok (.iconst 0, 1) := by decide +kernel
theorem dX7_tellOne_1 : decode cX7_tellOne 1 = .ok (.istore_n 3, 1) := by decide +kernel
theorem dX7_tellOne_2 : decode cX7_tellOne 2 = .ok (.iconst 0, 1) := by decide +kernel
theorem dX7_tellOne_3 : decode cX7_tellOne 3 = .ok (.istore 4, 2) := by decide +kernel
theorem dX7_tellOne_5 : decode cX7_tellOne 5 = .ok (.iload 4, 2) := by decide +kernel
theorem dX7_tellOne_7 : decode cX7_tellOne 7 = .ok (.aload_n 0, 1) := by decide +kernel
theorem dX7_tellOne_8 : decode cX7_tellOne 8 = .ok (.getfield 33, 3) := by decide +kernel
theorem dX7_tellOne_11 : decode cX7_tellOne 11 = .ok (.aload_n 0, 1) := by decide +kernel
theorem dX7_tellOne_12 : decode cX7_tellOne 12 = .ok (.getfield 36, 3) := by decide +kernel
theorem dX7_tellOne_15 : decode cX7_tellOne 15 = .ok (.iaload, 1) := by decide +kernel
theorem dX7_tellOne_16 : decode cX7_tellOne 16 = .ok (.if_icmp .ge 44, 3) := by decide +kernel
theorem dX7_tellOne_19 : decode cX7_tellOne 19 = .ok (.iload_n 1, 1) := by decide +kernel
theorem dX7_tellOne_20 : decode cX7_tellOne 20 = .ok (.iload 4, 2) := by decide +kernel
theorem dX7_tellOne_22 : decode cX7_tellOne 22 = .ok (.ishr, 1) := by decide +kernel
theorem dX7_tellOne_23 : decode cX7_tellOne 23 = .ok (.iconst 1, 1) := by decide +kernel
theorem dX7_tellOne_24 : decode cX7_tellOne 24 = .ok (.iand, 1) := by decide +kernel
theorem dX7_tellOne_25 : decode cX7_tellOne 25 = .ok (.iconst 1, 1) := by decide +kernel
theorem dX7_tellOne_26 : decode cX7_tellOne 26 = .ok (.if_icmp .ne 28, 3) := by decide +kernel
theorem dX7_tellOne_29 : decode cX7_tellOne 29 = .ok (.aload_n 0, 1) := by decide +kernel
theorem dX7_tellOne_30 : decode cX7_tellOne 30 = .ok (.aload_n 0, 1) := by decide +kernel
theorem dX7_tellOne_31 : decode cX7_tellOne 31 = .ok (.getfield 36, 3) := by decide +kernel
theorem dX7_tellOne_34 : decode cX7_tellOne 34 = .ok (.iload 4, 2) := by decide +kernel
theorem dX7_tellOne_36 : decode cX7_tellOne 36 = .ok (.invokestatic 151, 3) := by decide +kernel
theorem dX7_tellOne_39 : decode cX7_tellOne 39 = .ok (.iload_n 2, 1) := by decide +kernel
theorem dX7_tellOne_40 : decode cX7_tellOne 40 = .ok (.invokevirtual 160, 3) := by decide +kernel
theorem dX7_tellOne_43 : decode cX7_tellOne 43 = .ok (.iconst 1, 1) := by decide +kernel
theorem dX7_tellOne_44 : decode cX7_tellOne 44 = .ok (.if_icmp .ne 10, 3) := by decide +kernel
theorem dX7_tellOne_47 : decode cX7_tellOne 47 = .ok (.iload_n 3, 1) := by decide +kernel
theorem dX7_tellOne_48 : decode cX7_tellOne 48 = .ok (.iconst 1, 1) := by decide +kernel
theorem dX7_tellOne_49 : decode cX7_tellOne 49 = .ok (.iload 4, 2) := by decide +kernel
theorem dX7_tellOne_51 : decode cX7_tellOne 51 = .ok (.ishl, 1) := by decide +kernel
theorem dX7_tellOne_52 : decode cX7_tellOne 52 = .ok (.ior, 1) := by decide +kernel
theorem dX7_tellOne_53 : decode cX7_tellOne 53 = .ok (.istore_n 3, 1) := by decide +kernel
theorem dX7_tellOne_54 : decode cX7_tellOne 54 = .ok (.iinc 4 1, 3) := by decide +kernel
theorem dX7_tellOne_57 : decode cX7_tellOne 57 = .ok (.goto (-52), 3) := by decide +kernel
theorem dX7_tellOne_60 : decode cX7_tellOne 60 = .ok (.iload_n 3, 1) := by decide +kernel
theorem dX7_tellOne_61 : decode cX7_tellOne 61 = .ok (.ireturn, 1) := by decide +kernel
set_option maxRecDepth 20000 in
theorem ggX7_parts_X7_many : GoodIn wsX7_parts wsX7_many := goodIn_r _ [8] (by decide +kernel) (by decide +kernel)
set_option maxRecDepth 20000 in
theorem gX7_parts_X7_many : GoodIn wsX7_parts (va_wsS RX7 194 yX7_many wsX7_many) := goodIn_app (goodIn_of _ (by decide +kernel)) ggX7_parts_X7_many
set_option maxRecDepth 20000 in
theorem ggX7_parts_X7_tellOne : GoodIn wsX7_parts wsX7_tellOne := goodIn_r _ [12, 13, 14, 15, 16, 7, 17, 18, 19, 20, 21, 22, 23, 24, 25, 26, 27, 28, 29, 30, 31, 32, 33, 34, 35, 36, 37, 38, 39, 40, 41, 42, 43, 44, 45, 46, 47, 48, 49, 50] (by decide +kernel) (by decide +kernel)
set_option maxRecDepth 20000 in
theorem gX7_parts_X7_tellOne : GoodIn wsX7_parts (wsV RX7 197 RX7 yX7_tellOne wsX7_tellOne) := goodIn_app (goodIn_of _ (by decide +kernel)) ggX7_parts_X7_tellOne
theorem dX7_parts_0 : decode cX7_parts 0 = .ok (.iconst (-1), 1) := by decide +kernel
theorem dX7_parts_1 : decode cX7_parts 1 = .ok (.istore_n 3, 1) := by decide +kernel
theorem dX7_parts_2 : decode cX7_parts 2 = .ok (.iload_n 1, 1) := by decide +kernel
theorem dX7_parts_3 : decode cX7_parts 3 = .ok (.invokestatic 194, 3) := by decide +kernel
theorem dX7_parts_6 : decode cX7_parts 6 = .ok (.istore 4, 2) := by decide +kernel
theorem dX7_parts_8 : decode cX7_parts 8 = .ok (.iconst 0, 1) := by decide +kernel
theorem dX7_parts_9 : decode cX7_parts 9 = .ok (.istore 5, 2) := by decide +kernel
theorem dX7_parts_11 : decode cX7_parts 11 = .ok (.iload 5, 2) := by decide +kernel
theorem dX7_parts_13 : decode cX7_parts 13 = .ok (.bipush 32, 2) := by decide +kernel
theorem dX7_parts_15 : decode cX7_parts 15 = .ok (.if_icmp .ge 65, 3) := by decide +kernel
theorem dX7_parts_18 : decode cX7_parts 18 = .ok (.iload_n 2, 1) := by decide +kernel
theorem dX7_parts_19 : decode cX7_parts 19 = .ok (.iload 5, 2) := by decide +kernel
theorem dX7_parts_21 : decode cX7_parts 21 = .ok (.ishr, 1) := by decide +kernel
theorem dX7_parts_22 : decode cX7_parts 22 = .ok (.iconst 1, 1) := by decide +kernel
theorem dX7_parts_23 : decode cX7_parts 23 = .ok (.iand, 1) := by decide +kernel
theorem dX7_parts_24 : decode cX7_parts 24 = .ok (.iconst 1, 1) := by decide +kernel
theorem dX7_parts_25 : decode cX7_parts 25 = .ok (.if_icmp .ne 6, 3) := by decide +kernel
theorem dX7_parts_28 : decode cX7_parts 28 = .ok (.goto 46, 3) := by decide +kernel
theorem dX7_parts_31 : decode cX7_parts 31 = .ok (.aload_n 0, 1) := by decide +kernel
theorem dX7_parts_32 : decode cX7_parts 32 = .ok (.iload_n 1, 1) := by decide +kernel
theorem dX7_parts_33 : decode cX7_parts 33 = .ok (.iload 5, 2) := by decide +kernel
theorem dX7_parts_35 : decode cX7_parts 35 = .ok (.invokevirtual 197, 3) := by decide +kernel
theorem dX7_parts_38 : decode cX7_parts 38 = .ok (.invokestatic 194, 3) := by decide +kernel
theorem dX7_parts_41 : decode cX7_parts 41 = .ok (.istore 6, 2) := by decide +kernel
theorem dX7_parts_43 : decode cX7_parts 43 = .ok (.iload 6, 2) := by decide +kernel
theorem dX7_parts_45 : decode cX7_parts 45 = .ok (.iload_n 1, 1) := by decide +kernel
theorem dX7_parts_46 : decode cX7_parts 46 = .ok (.invokestatic 194, 3) := by decide +kernel
theorem dX7_parts_49 : decode cX7_parts 49 = .ok (.iload 6, 2) := by decide +kernel
theorem dX7_parts_51 : decode cX7_parts 51 = .ok (.isub, 1) := by decide +kernel
theorem dX7_parts_52 : decode cX7_parts 52 = .ok (.invokestatic 200, 3) := by decide +kernel
theorem dX7_parts_55 : decode cX7_parts 55 = .ok (.istore 7, 2) := by decide +kernel
theorem dX7_parts_57 : decode cX7_parts 57 = .ok (.iload 7, 2) := by decide +kernel
theorem dX7_parts_59 : decode cX7_parts 59 = .ok (.iload 4, 2) := by decide +kernel
theorem dX7_parts_61 : decode cX7_parts 61 = .ok (.if_icmp .lt 6, 3) := by decide +kernel
theorem dX7_parts_64 : decode cX7_parts 64 = .ok (.goto 10, 3) := by decide +kernel
theorem dX7_parts_67 : decode cX7_parts 67 = .ok (.iload 5, 2) := by decide +kernel
theorem dX7_parts_69 : decode cX7_parts 69 = .ok (.istore_n 3, 1) := by decide +kernel
theorem dX7_parts_70 : decode cX7_parts 70 = .ok (.iload 7, 2) := by decide +kernel
theorem dX7_parts_72 : decode cX7_parts 72 = .ok (.istore 4, 2) := by decide +kernel
theorem dX7_parts_74 : decode cX7_parts 74 = .ok (.iinc 5 1, 3) := by decide +kernel
theorem dX7_parts_77 : decode cX7_parts 77 = .ok (.goto (-66), 3) := by decide +kernel
theorem dX7_parts_80 : decode cX7_parts 80 = .ok (.iload_n 3, 1) := by decide +kernel
theorem dX7_parts_81 : decode cX7_parts 81 = .ok (.ireturn, 1) := by decide +kernel
theorem dX7_gone_0 : decode cX7_gone 0 = .ok (.iconst 0, 1) := by decide +kernel
theorem dX7_gone_1 : decode cX7_gone 1 = .ok (.istore_n 1, 1) := by decide +kernel
theorem dX7_gone_2 : decode cX7_gone 2 = .ok (.iconst 0, 1) := by decide +kernel
theorem dX7_gone_3 : decode cX7_gone 3 = .ok (.istore_n 2, 1) := by decide +kernel
theorem dX7_gone_4 : decode cX7_gone 4 = .ok (.iload_n 2, 1) := by decide +kernel
theorem dX7_gone_5 : decode cX7_gone 5 = .ok (.aload_n 0, 1) := by decide +kernel
theorem dX7_gone_6 : decode cX7_gone 6 = .ok (.getfield 169, 3) := by decide +kernel
theorem dX7_gone_9 : decode cX7_gone 9 = .ok (.if_icmp .ge 20, 3) := by decide +kernel
theorem dX7_gone_12 : decode cX7_gone 12 = .ok (.iload_n 1, 1) := by decide +kernel
theorem dX7_gone_13 : decode cX7_gone 13 = .ok (.iconst 1, 1) := by decide +kernel
theorem dX7_gone_14 : decode cX7_gone 14 = .ok (.aload_n 0, 1) := by decide +kernel
theorem dX7_gone_15 : decode cX7_gone 15 = .ok (.getfield 46, 3) := by decide +kernel
theorem dX7_gone_18 : decode cX7_gone 18 = .ok (.iload_n 2, 1) := by decide +kernel
theorem dX7_gone_19 : decode cX7_gone 19 = .ok (.iaload, 1) := by decide +kernel
theorem dX7_gone_20 : decode cX7_gone 20 = .ok (.ishl, 1) := by decide +kernel
theorem dX7_gone_21 : decode cX7_gone 21 = .ok (.ior, 1) := by decide +kernel
theorem dX7_gone_22 : decode cX7_gone 22 = .ok (.istore_n 1, 1) := by decide +kernel
theorem dX7_gone_23 : decode cX7_gone 23 = .ok (.iinc 2 1, 3) := by decide +kernel
theorem dX7_gone_26 : decode cX7_gone 26 = .ok (.goto (-22), 3) := by decide +kernel
theorem dX7_gone_29 : decode cX7_gone 29 = .ok (.iload_n 1, 1) := by decide +kernel
theorem dX7_gone_30 : decode cX7_gone 30 = .ok (.ireturn, 1) := by decide +kernel
set_option maxRecDepth 20000 in
theorem ggX7_next_X7_lefts : GoodIn wsX7_next wsX7_lefts := goodIn_r _ [6, 7, 1, 8, 9, 10, 11, 5, 12, 13, 14, 15, 16, 17, 18, 19, 20, 21, 22, 23, 24, 25, 26, 46, 47, 48, 49, 50, 51, 52, 53, 54, 55, 56, 57, 58, 59, 60, 61, 62, 63, 64, 65, 66, 67, 68, 69, 70, 71, 72, 73] (by decide +kernel) (by decide +kernel)
set_option maxRecDepth 20000 in
theorem gX7_next_X7_lefts : GoodIn wsX7_next (wsV RX7 203 RX7 yX7_lefts wsX7_lefts) := goodIn_app (goodIn_of _ (by decide +kernel)) ggX7_next_X7_lefts
set_option maxRecDepth 20000 in
theorem ggX7_next_X7_gone : GoodIn wsX7_next wsX7_gone := goodIn_r _ [30, 13, 14, 46, 47, 48, 49, 50, 51, 52, 53, 54, 55, 56, 57, 58, 59, 60, 61, 62, 63, 64, 65, 66, 67, 68, 69, 70, 71, 72, 73] (by decide +kernel) (by decide +kernel)
set_option maxRecDepth 20000 in
theorem gX7_next_X7_gone : GoodIn wsX7_next (wsV RX7 206 RX7 yX7_gone wsX7_gone) := goodIn_app (goodIn_of _ (by decide +kernel)) ggX7_next_X7_gone
set_option maxRecDepth 20000 in
theorem ggX7_next_X7_parts : GoodIn wsX7_next wsX7_parts := goodIn_r _ [34, 35, 36, 37, 38, 39, 40, 5, 41, 42, 43, 44, 45, 7, 1, 16, 17, 18, 19, 20, 21, 22, 23, 46, 47, 48, 49, 50, 51, 52, 53, 54, 55, 56, 57, 58, 59, 60, 61, 62, 63, 64, 65, 66, 67, 68, 69, 70, 71, 72, 73] (by decide +kernel) (by decide +kernel)
set_option maxRecDepth 20000 in
theorem gX7_next_X7_parts : GoodIn wsX7_next (wsV RX7 209 RX7 yX7_parts wsX7_parts) := goodIn_app (goodIn_of _ (by decide +kernel)) ggX7_next_X7_parts
theorem dX7_next_0 : decode cX7_next 0 = .ok (.aload_n 0, 1) := by decide +kernel
theorem dX7_next_1 : decode cX7_next 1 = .ok (.getfield 36, 3) := by decide +kernel
theorem dX7_next_4 : decode cX7_next 4 = .ok (.iconst (-1), 1) := by decide +kernel
theorem dX7_next_5 : decode cX7_next 5 = .ok (.if_icmp .ne 7, 3) := by decide +kernel
theorem dX7_next_8 : decode cX7_next 8 = .ok (.iconst (-1), 1) := by decide +kernel
theorem dX7_next_9 : decode cX7_next 9 = .ok (.goto 15, 3) := by decide +kernel
theorem dX7_next_12 : decode cX7_next 12 = .ok (.aload_n 0, 1) := by decide +kernel
theorem dX7_next_13 : decode cX7_next 13 = .ok (.aload_n 0, 1) := by decide +kernel
theorem dX7_next_14 : decode cX7_next 14 = .ok (.invokevirtual 203, 3) := by decide +kernel
theorem dX7_next_17 : decode cX7_next 17 = .ok (.aload_n 0, 1) := by decide +kernel
theorem dX7_next_18 : decode cX7_next 18 = .ok (.invokevirtual 206, 3) := by decide +kernel
theorem dX7_next_21 : decode cX7_next 21 = .ok (.invokevirtual 209, 3) := by decide +kernel
theorem dX7_next_24 : decode cX7_next 24 = .ok (.ireturn, 1) := by decide +kernel
set_option maxRecDepth 20000 in
theorem ggX7_path_X7_parts : GoodIn wsX7_path wsX7_parts := goodIn_r _ [7, 8, 9, 10, 11, 12, 13, 6, 14, 15, 16, 17, 18, 1, 2, 19, 20, 21, 22, 23, 24, 25, 26, 27, 28, 29, 30, 31, 32, 33, 34, 35, 36, 37, 38, 39, 40, 41, 42, 43, 44, 45, 46, 47, 48, 49, 50, 51, 52, 53, 54] (by decide +kernel) (by decide +kernel)
set_option maxRecDepth 20000 in
theorem gX7_path_X7_parts : GoodIn wsX7_path (wsV RX7 209 RX7 yX7_parts wsX7_parts) := goodIn_app (goodIn_of _ (by decide +kernel)) ggX7_path_X7_parts
set_option maxRecDepth 20000 in
theorem ggX7_path_X7_tellOne : GoodIn wsX7_path wsX7_tellOne := goodIn_r _ [18, 1, 2, 19, 20, 6, 21, 22, 23, 24, 25, 26, 27, 28, 29, 30, 31, 32, 33, 34, 35, 36, 37, 38, 39, 40, 41, 42, 43, 44, 45, 46, 47, 48, 49, 50, 51, 52, 53, 54] (by decide +kernel) (by decide +kernel)
set_option maxRecDepth 20000 in
theorem gX7_path_X7_tellOne : GoodIn wsX7_path (wsV RX7 197 RX7 yX7_tellOne wsX7_tellOne) := goodIn_app (goodIn_of _ (by decide +kernel)) ggX7_path_X7_tellOne
set_option maxRecDepth 20000 in
theorem ggX7_path_X7_pictureAt : GoodIn wsX7_path wsX7_pictureAt := goodIn_r _ [21] (by decide +kernel) (by decide +kernel)
set_option maxRecDepth 20000 in
theorem gX7_path_X7_pictureAt : GoodIn wsX7_path (va_wsS RX7 151 yX7_pictureAt wsX7_pictureAt) := goodIn_app (goodIn_of _ (by decide +kernel)) ggX7_path_X7_pictureAt
set_option maxRecDepth 20000 in
theorem ggX7_path_X7_tellsOf : GoodIn wsX7_path wsX7_tellsOf := goodIn_r _ [25, 26, 27, 28, 29, 30, 31, 32, 33, 34, 35, 36, 37, 38, 39, 40, 41, 42, 43, 44, 45, 46, 47, 48, 49, 50, 51, 52, 53, 54] (by decide +kernel) (by decide +kernel)
set_option maxRecDepth 20000 in
theorem gX7_path_X7_tellsOf : GoodIn wsX7_path (wsV RX7 160 RX7 yX7_tellsOf wsX7_tellsOf) := goodIn_app (goodIn_of _ (by decide +kernel)) ggX7_path_X7_tellsOf
theorem dX7_path_0 : decode cX7_path 0 = .ok (.iconst 1, 1) := by decide +kernel
theorem dX7_path_1 : decode cX7_path 1 = .ok (.aload_n 0, 1) := by decide +kernel
theorem dX7_path_2 : decode cX7_path 2 = .ok (.getfield 33, 3) := by decide +kernel
theorem dX7_path_5 : decode cX7_path 5 = .ok (.aload_n 0, 1) := by decide +kernel
theorem dX7_path_6 : decode cX7_path 6 = .ok (.getfield 36, 3) := by decide +kernel
theorem dX7_path_9 : decode cX7_path 9 = .ok (.iaload, 1) := by decide +kernel
theorem dX7_path_10 : decode cX7_path 10 = .ok (.ishl, 1) := by decide +kernel
theorem dX7_path_11 : decode cX7_path 11 = .ok (.iconst 1, 1) := by decide +kernel
theorem dX7_path_12 : decode cX7_path 12 = .ok (.isub, 1) := by decide +kernel
theorem dX7_path_13 : decode cX7_path 13 = .ok (.istore_n 2, 1) := by decide +kernel
theorem dX7_path_14 : decode cX7_path 14 = .ok (.iconst 0, 1) := by decide +kernel
theorem dX7_path_15 : decode cX7_path 15 = .ok (.istore_n 3, 1) := by decide +kernel
theorem dX7_path_16 : decode cX7_path 16 = .ok (.iconst 0, 1) := by decide +kernel
theorem dX7_path_17 : decode cX7_path 17 = .ok (.istore 4, 2) := by decide +kernel
theorem dX7_path_19 : decode cX7_path 19 = .ok (.aload_n 0, 1) := by decide +kernel
theorem dX7_path_20 : decode cX7_path 20 = .ok (.iload_n 2, 1) := by decide +kernel
theorem dX7_path_21 : decode cX7_path 21 = .ok (.iload_n 3, 1) := by decide +kernel
theorem dX7_path_22 : decode cX7_path 22 = .ok (.invokevirtual 209, 3) := by decide +kernel
theorem dX7_path_25 : decode cX7_path 25 = .ok (.istore 5, 2) := by decide +kernel
theorem dX7_path_27 : decode cX7_path 27 = .ok (.iload 5, 2) := by decide +kernel
theorem dX7_path_29 : decode cX7_path 29 = .ok (.iconst (-1), 1) := by decide +kernel
theorem dX7_path_30 : decode cX7_path 30 = .ok (.if_icmp .eq 63, 3) := by decide +kernel
theorem dX7_path_33 : decode cX7_path 33 = .ok (.iinc 4 1, 3) := by decide +kernel
theorem dX7_path_36 : decode cX7_path 36 = .ok (.iload_n 3, 1) := by decide +kernel
theorem dX7_path_37 : decode cX7_path 37 = .ok (.iconst 1, 1) := by decide +kernel
theorem dX7_path_38 : decode cX7_path 38 = .ok (.iload 5, 2) := by decide +kernel
theorem dX7_path_40 : decode cX7_path 40 = .ok (.ishl, 1) := by decide +kernel
theorem dX7_path_41 : decode cX7_path 41 = .ok (.ior, 1) := by decide +kernel
theorem dX7_path_42 : decode cX7_path 42 = .ok (.istore_n 3, 1) := by decide +kernel
theorem dX7_path_43 : decode cX7_path 43 = .ok (.aload_n 0, 1) := by decide +kernel
theorem dX7_path_44 : decode cX7_path 44 = .ok (.iload_n 2, 1) := by decide +kernel
theorem dX7_path_45 : decode cX7_path 45 = .ok (.iload 5, 2) := by decide +kernel
theorem dX7_path_47 : decode cX7_path 47 = .ok (.invokevirtual 197, 3) := by decide +kernel
theorem dX7_path_50 : decode cX7_path 50 = .ok (.istore 6, 2) := by decide +kernel
theorem dX7_path_52 : decode cX7_path 52 = .ok (.aload_n 0, 1) := by decide +kernel
theorem dX7_path_53 : decode cX7_path 53 = .ok (.aload_n 0, 1) := by decide +kernel
theorem dX7_path_54 : decode cX7_path 54 = .ok (.getfield 36, 3) := by decide +kernel
theorem dX7_path_57 : decode cX7_path 57 = .ok (.iload_n 1, 1) := by decide +kernel
theorem dX7_path_58 : decode cX7_path 58 = .ok (.invokestatic 151, 3) := by decide +kernel
theorem dX7_path_61 : decode cX7_path 61 = .ok (.iload 5, 2) := by decide +kernel
theorem dX7_path_63 : decode cX7_path 63 = .ok (.invokevirtual 160, 3) := by decide +kernel
theorem dX7_path_66 : decode cX7_path 66 = .ok (.iconst 1, 1) := by decide +kernel
theorem dX7_path_67 : decode cX7_path 67 = .ok (.if_icmp .ne 8, 3) := by decide +kernel
theorem dX7_path_70 : decode cX7_path 70 = .ok (.iload 6, 2) := by decide +kernel
theorem dX7_path_72 : decode cX7_path 72 = .ok (.goto 9, 3) := by decide +kernel
theorem dX7_path_75 : decode cX7_path 75 = .ok (.iload_n 2, 1) := by decide +kernel
theorem dX7_path_76 : decode cX7_path 76 = .ok (.iload 6, 2) := by decide +kernel
theorem dX7_path_78 : decode cX7_path 78 = .ok (.iconst (-1), 1) := by decide +kernel
theorem dX7_path_79 : decode cX7_path 79 = .ok (.ixor, 1) := by decide +kernel
theorem dX7_path_80 : decode cX7_path 80 = .ok (.iand, 1) := by decide +kernel
theorem dX7_path_81 : decode cX7_path 81 = .ok (.istore_n 2, 1) := by decide +kernel
theorem dX7_path_82 : decode cX7_path 82 = .ok (.aload_n 0, 1) := by decide +kernel
theorem dX7_path_83 : decode cX7_path 83 = .ok (.iload_n 2, 1) := by decide +kernel
theorem dX7_path_84 : decode cX7_path 84 = .ok (.iload_n 3, 1) := by decide +kernel
theorem dX7_path_85 : decode cX7_path 85 = .ok (.invokevirtual 209, 3) := by decide +kernel
theorem dX7_path_88 : decode cX7_path 88 = .ok (.istore 5, 2) := by decide +kernel
theorem dX7_path_90 : decode cX7_path 90 = .ok (.goto (-63), 3) := by decide +kernel
theorem dX7_path_93 : decode cX7_path 93 = .ok (.iload 4, 2) := by decide +kernel
theorem dX7_path_95 : decode cX7_path 95 = .ok (.ireturn, 1) := by decide +kernel
set_option maxRecDepth 20000 in
theorem ggX7_pictureOf_X7_isIn : GoodIn wsX7_pictureOf wsX7_isIn := goodIn_r _ [7] (by decide +kernel) (by decide +kernel)
set_option maxRecDepth 20000 in
theorem gX7_pictureOf_X7_isIn : GoodIn wsX7_pictureOf (va_wsS RX7 67 yX7_isIn wsX7_isIn) := goodIn_app (goodIn_of _ (by decide +kernel)) ggX7_pictureOf_X7_isIn
set_option maxRecDepth 20000 in
theorem ggX7_pictureOf_X7_slipsOf : GoodIn wsX7_pictureOf wsX7_slipsOf := goodIn_r _ [11, 12, 1, 13, 14, 15, 16, 6, 17, 18, 19, 20, 21, 22, 23, 24, 25, 45, 46, 47, 48, 49, 50, 51, 52, 53, 54, 55, 56, 57, 58, 59, 60, 61, 62, 63, 64, 65, 66, 67, 68, 69, 70, 71, 72] (by decide +kernel) (by decide +kernel)
set_option maxRecDepth 20000 in
theorem gX7_pictureOf_X7_slipsOf : GoodIn wsX7_pictureOf (wsV RX7 191 RX7 yX7_slipsOf wsX7_slipsOf) := goodIn_app (goodIn_of _ (by decide +kernel)) ggX7_pictureOf_X7_slipsOf
set_option maxRecDepth 20000 in
theorem ggX7_pictureOf_X7_one : GoodIn wsX7_pictureOf wsX7_one := goodIn_r _ [25] (by decide +kernel) (by decide +kernel)
set_option maxRecDepth 20000 in
theorem gX7_pictureOf_X7_one : GoodIn wsX7_pictureOf (va_wsS RX7 181 yX7_one wsX7_one) := goodIn_app (goodIn_of _ (by decide +kernel)) ggX7_pictureOf_X7_one
set_option maxRecDepth 20000 in
theorem ggX7_pictureOf_X7_path : GoodIn wsX7_pictureOf wsX7_path := goodIn_r _ [29, 2, 1, 30, 31, 32, 6, 33, 34, 35, 36, 37, 38, 39, 40, 41, 42, 43, 44, 15, 16, 17, 18, 19, 20, 21, 22, 45, 46, 47, 48, 49, 50, 51, 52, 53, 54, 55, 56, 57, 58, 59, 60, 61, 62, 63, 64, 65, 66, 67, 68, 69, 70, 71, 72] (by decide +kernel) (by decide +kernel)
