theorem dX6_clash_90 : decode cX6_clash 90 = .ok (.goto 4, 3) := by decide +kernel
theorem dX6_clash_93 : decode cX6_clash 93 = .ok (.iconst (-1), 1) := by decide +kernel
theorem dX6_clash_94 : decode cX6_clash 94 = .ok (.ireturn, 1) := by decide +kernel
theorem dX6_clash_95 : decode cX6_clash 95 = .ok (.iconst (-1), 1) := by decide +kernel
theorem dX6_clash_96 : decode cX6_clash 96 = .ok (.ireturn, 1) := by decide +kernel
set_option maxRecDepth 20000 in
theorem ggX6_bridge_X0_lessonAt : GoodIn wsX6_bridge wsX0_lessonAt := goodIn_r _ [9, 10, 11, 12, 8, 13, 81, 82, 83] (by decide +kernel) (by decide +kernel)
set_option maxRecDepth 20000 in
theorem gX6_bridge_X0_lessonAt : GoodIn wsX6_bridge (wsV RX6 139 RX0 yX0_lessonAt wsX0_lessonAt) := goodIn_app (goodIn_of _ (by decide +kernel)) ggX6_bridge_X0_lessonAt
set_option maxRecDepth 20000 in
theorem ggX6_bridge_X6_isCase : GoodIn wsX6_bridge wsX6_isCase := goodIn_r _ [17] (by decide +kernel) (by decide +kernel)
set_option maxRecDepth 20000 in
theorem gX6_bridge_X6_isCase : GoodIn wsX6_bridge (va_wsS RX6 94 yX6_isCase wsX6_isCase) := goodIn_app (goodIn_of _ (by decide +kernel)) ggX6_bridge_X6_isCase
set_option maxRecDepth 20000 in
theorem ggX6_bridge_X6_leftOf : GoodIn wsX6_bridge wsX6_leftOf := goodIn_r _ [21, 22, 3, 23, 24, 25, 26, 27, 28, 29, 30, 31, 32, 33, 34, 35, 36, 37, 38, 39, 40, 41, 42, 15, 16, 17, 43, 44, 84, 85, 86, 87, 63, 64, 65, 66, 67, 68, 69, 70, 71, 88, 89, 72, 73, 74, 75, 76, 77, 78, 79, 80] (by decide +kernel) (by decide +kernel)
set_option maxRecDepth 20000 in
theorem gX6_bridge_X6_leftOf : GoodIn wsX6_bridge (wsV RX6 152 RX6 yX6_leftOf wsX6_leftOf) := goodIn_app (goodIn_of _ (by decide +kernel)) ggX6_bridge_X6_leftOf
set_option maxRecDepth 20000 in
theorem ggX6_bridge_X2_nearestToldAsLaw : GoodIn wsX6_bridge wsX2_nearestToldAsLaw := goodIn_r _ [48, 49, 50, 51, 52, 53, 54, 55, 43, 16, 44, 56, 57, 58, 28, 59, 60, 61, 62, 84, 85, 86, 87, 88, 89] (by decide +kernel) (by decide +kernel)
set_option maxRecDepth 20000 in
theorem gX6_bridge_X2_nearestToldAsLaw : GoodIn wsX6_bridge (wsV RX6 191 RX2 yX2_nearestToldAsLaw wsX2_nearestToldAsLaw) := goodIn_app (goodIn_of _ (by decide +kernel)) ggX6_bridge_X2_nearestToldAsLaw
theorem dX6_bridge_0 : decode cX6_bridge 0 = .ok (.aload_n 0, 1) := by decide +kernel
theorem dX6_bridge_1 : decode cX6_bridge 1 = .ok (.getfield 28, 3) := by decide +kernel
theorem dX6_bridge_4 : decode cX6_bridge 4 = .ok (.aload_n 0, 1) := by decide +kernel
theorem dX6_bridge_5 : decode cX6_bridge 5 = .ok (.getfield 39, 3) := by decide +kernel
theorem dX6_bridge_8 : decode cX6_bridge 8 = .ok (.invokevirtual 139, 3) := by decide +kernel
theorem dX6_bridge_11 : decode cX6_bridge 11 = .ok (.astore_n 2, 1) := by decide +kernel
theorem dX6_bridge_12 : decode cX6_bridge 12 = .ok (.aload_n 2, 1) := by decide +kernel
theorem dX6_bridge_13 : decode cX6_bridge 13 = .ok (.ifnull 10, 3) := by decide +kernel
theorem dX6_bridge_16 : decode cX6_bridge 16 = .ok (.iload_n 1, 1) := by decide +kernel
theorem dX6_bridge_17 : decode cX6_bridge 17 = .ok (.invokestatic 94, 3) := by decide +kernel
theorem dX6_bridge_20 : decode cX6_bridge 20 = .ok (.ifCond .ne 5, 3) := by decide +kernel
theorem dX6_bridge_23 : decode cX6_bridge 23 = .ok (.iconst (-1), 1) := by decide +kernel
theorem dX6_bridge_24 : decode cX6_bridge 24 = .ok (.ireturn, 1) := by decide +kernel
theorem dX6_bridge_25 : decode cX6_bridge 25 = .ok (.aload_n 2, 1) := by decide +kernel
theorem dX6_bridge_26 : decode cX6_bridge 26 = .ok (.iload_n 1, 1) := by decide +kernel
theorem dX6_bridge_27 : decode cX6_bridge 27 = .ok (.aload_n 0, 1) := by decide +kernel
theorem dX6_bridge_28 : decode cX6_bridge 28 = .ok (.aload_n 2, 1) := by decide +kernel
theorem dX6_bridge_29 : decode cX6_bridge 29 = .ok (.invokevirtual 152, 3) := by decide +kernel
theorem dX6_bridge_32 : decode cX6_bridge 32 = .ok (.aload_n 0, 1) := by decide +kernel
theorem dX6_bridge_33 : decode cX6_bridge 33 = .ok (.getfield 35, 3) := by decide +kernel
theorem dX6_bridge_36 : decode cX6_bridge 36 = .ok (.getfield 156, 3) := by decide +kernel
theorem dX6_bridge_39 : decode cX6_bridge 39 = .ok (.invokevirtual 191, 3) := by decide +kernel
theorem dX6_bridge_42 : decode cX6_bridge 42 = .ok (.ireturn, 1) := by decide +kernel
set_option maxRecDepth 20000 in
theorem ggX6_reveal_X6_begunLaw : GoodIn wsX6_reveal wsX6_begunLaw := goodIn_r _ [8, 9, 10, 11, 12, 7, 13, 14, 15, 16, 17, 18, 19, 20, 21, 22, 23, 24, 25, 26, 27, 28, 29, 30, 31, 45, 46, 47, 48, 49, 50, 51, 52, 53, 56, 57, 58, 59, 60, 61, 62] (by decide +kernel) (by decide +kernel)
set_option maxRecDepth 20000 in
theorem gX6_reveal_X6_begunLaw : GoodIn wsX6_reveal (wsV RX6 126 RX6 yX6_begunLaw wsX6_begunLaw) := goodIn_app (goodIn_of _ (by decide +kernel)) ggX6_reveal_X6_begunLaw
set_option maxRecDepth 20000 in
theorem ggX6_reveal_X6_isCase : GoodIn wsX6_reveal wsX6_isCase := goodIn_r _ [34] (by decide +kernel) (by decide +kernel)
set_option maxRecDepth 20000 in
theorem gX6_reveal_X6_isCase : GoodIn wsX6_reveal (va_wsS RX6 94 yX6_isCase wsX6_isCase) := goodIn_app (goodIn_of _ (by decide +kernel)) ggX6_reveal_X6_isCase
set_option maxRecDepth 20000 in
theorem ggX6_reveal_X4_wrongOf : GoodIn wsX6_reveal wsX4_wrongOf := goodIn_r _ [39, 40, 41, 33, 7, 34, 42, 43, 63, 64, 65, 66, 67, 68, 69, 70, 71] (by decide +kernel) (by decide +kernel)
set_option maxRecDepth 20000 in
theorem gX6_reveal_X4_wrongOf : GoodIn wsX6_reveal (wsV RX6 195 RX4 yX4_wrongOf wsX4_wrongOf) := goodIn_app (goodIn_of _ (by decide +kernel)) ggX6_reveal_X4_wrongOf
set_option maxRecDepth 20000 in
theorem ggX6_reveal_X6_bitAt : GoodIn wsX6_reveal wsX6_bitAt := goodIn_r _ [43] (by decide +kernel) (by decide +kernel)
set_option maxRecDepth 20000 in
theorem gX6_reveal_X6_bitAt : GoodIn wsX6_reveal (va_wsS RX6 102 yX6_bitAt wsX6_bitAt) := goodIn_app (goodIn_of _ (by decide +kernel)) ggX6_reveal_X6_bitAt
theorem dX6_reveal_0 : decode cX6_reveal 0 = .ok (.aload_n 0, 1) := by decide +kernel
theorem dX6_reveal_1 : decode cX6_reveal 1 = .ok (.invokevirtual 126, 3) := by decide +kernel
theorem dX6_reveal_4 : decode cX6_reveal 4 = .ok (.astore_n 2, 1) := by decide +kernel
theorem dX6_reveal_5 : decode cX6_reveal 5 = .ok (.aload_n 2, 1) := by decide +kernel
theorem dX6_reveal_6 : decode cX6_reveal 6 = .ok (.ifnull 29, 3) := by decide +kernel
theorem dX6_reveal_9 : decode cX6_reveal 9 = .ok (.iload_n 1, 1) := by decide +kernel
theorem dX6_reveal_10 : decode cX6_reveal 10 = .ok (.invokestatic 94, 3) := by decide +kernel
theorem dX6_reveal_13 : decode cX6_reveal 13 = .ok (.ifCond .eq 22, 3) := by decide +kernel
theorem dX6_reveal_16 : decode cX6_reveal 16 = .ok (.aload_n 0, 1) := by decide +kernel
theorem dX6_reveal_17 : decode cX6_reveal 17 = .ok (.getfield 35, 3) := by decide +kernel
theorem dX6_reveal_20 : decode cX6_reveal 20 = .ok (.iload_n 1, 1) := by decide +kernel
theorem dX6_reveal_21 : decode cX6_reveal 21 = .ok (.aload_n 2, 1) := by decide +kernel
theorem dX6_reveal_22 : decode cX6_reveal 22 = .ok (.getfield 97, 3) := by decide +kernel
theorem dX6_reveal_25 : decode cX6_reveal 25 = .ok (.invokevirtual 195, 3) := by decide +kernel
theorem dX6_reveal_28 : decode cX6_reveal 28 = .ok (.aload_n 0, 1) := by decide +kernel
theorem dX6_reveal_29 : decode cX6_reveal 29 = .ok (.getfield 49, 3) := by decide +kernel
theorem dX6_reveal_32 : decode cX6_reveal 32 = .ok (.if_icmp .ge 5, 3) := by decide +kernel
theorem dX6_reveal_35 : decode cX6_reveal 35 = .ok (.iconst (-1), 1) := by decide +kernel
theorem dX6_reveal_36 : decode cX6_reveal 36 = .ok (.ireturn, 1) := by decide +kernel
theorem dX6_reveal_37 : decode cX6_reveal 37 = .ok (.aload_n 2, 1) := by decide +kernel
theorem dX6_reveal_38 : decode cX6_reveal 38 = .ok (.getfield 97, 3) := by decide +kernel
theorem dX6_reveal_41 : decode cX6_reveal 41 = .ok (.iload_n 1, 1) := by decide +kernel
theorem dX6_reveal_42 : decode cX6_reveal 42 = .ok (.invokestatic 102, 3) := by decide +kernel
theorem dX6_reveal_45 : decode cX6_reveal 45 = .ok (.ireturn, 1) := by decide +kernel
set_option maxRecDepth 20000 in
theorem ggX6_caseOf_X6_begunLaw : GoodIn wsX6_caseOf wsX6_begunLaw := goodIn_r _ [7, 8, 9, 10, 11, 6, 12, 13, 14, 15, 16, 17, 18, 19, 20, 21, 22, 23, 24, 25, 26, 27, 28, 29, 30, 53, 54, 55, 56, 57, 58, 59, 60, 61, 64, 65, 66, 67, 68, 69, 70] (by decide +kernel) (by decide +kernel)
set_option maxRecDepth 20000 in
theorem gX6_caseOf_X6_begunLaw : GoodIn wsX6_caseOf (wsV RX6 126 RX6 yX6_begunLaw wsX6_begunLaw) := goodIn_app (goodIn_of _ (by decide +kernel)) ggX6_caseOf_X6_begunLaw
set_option maxRecDepth 20000 in
theorem ggX6_caseOf_X6_isCase : GoodIn wsX6_caseOf wsX6_isCase := goodIn_r _ [33] (by decide +kernel) (by decide +kernel)
set_option maxRecDepth 20000 in
theorem gX6_caseOf_X6_isCase : GoodIn wsX6_caseOf (va_wsS RX6 94 yX6_isCase wsX6_isCase) := goodIn_app (goodIn_of _ (by decide +kernel)) ggX6_caseOf_X6_isCase
set_option maxRecDepth 20000 in
theorem ggX6_caseOf_X4_timesAsked : GoodIn wsX6_caseOf wsX4_timesAsked := goodIn_r _ [38, 39, 40, 32, 6, 33, 71, 72, 73, 74, 75, 76, 77, 78, 79] (by decide +kernel) (by decide +kernel)
set_option maxRecDepth 20000 in
theorem gX6_caseOf_X4_timesAsked : GoodIn wsX6_caseOf (wsV RX6 198 RX4 yX4_timesAsked wsX4_timesAsked) := goodIn_app (goodIn_of _ (by decide +kernel)) ggX6_caseOf_X4_timesAsked
set_option maxRecDepth 20000 in
theorem ggX6_caseOf_X4_wrongOf : GoodIn wsX6_caseOf wsX4_wrongOf := goodIn_r _ [44, 39, 40, 32, 6, 33, 45, 46, 71, 72, 73, 74, 75, 76, 77, 78, 79] (by decide +kernel) (by decide +kernel)
set_option maxRecDepth 20000 in
theorem gX6_caseOf_X4_wrongOf : GoodIn wsX6_caseOf (wsV RX6 195 RX4 yX4_wrongOf wsX4_wrongOf) := goodIn_app (goodIn_of _ (by decide +kernel)) ggX6_caseOf_X4_wrongOf
set_option maxRecDepth 20000 in
theorem ggX6_caseOf_X4_latestOf : GoodIn wsX6_caseOf wsX4_latestOf := goodIn_r _ [50, 51, 52, 45, 6, 46, 71, 72, 73, 74, 75, 76, 77, 78, 79] (by decide +kernel) (by decide +kernel)
set_option maxRecDepth 20000 in
theorem gX6_caseOf_X4_latestOf : GoodIn wsX6_caseOf (wsV RX6 201 RX4 yX4_latestOf wsX4_latestOf) := goodIn_app (goodIn_of _ (by decide +kernel)) ggX6_caseOf_X4_latestOf
theorem dX6_caseOf_0 : decode cX6_caseOf 0 = .ok (.aload_n 0, 1) := by decide +kernel
theorem dX6_caseOf_1 : decode cX6_caseOf 1 = .ok (.invokevirtual 126, 3) := by decide +kernel
theorem dX6_caseOf_4 : decode cX6_caseOf 4 = .ok (.astore_n 3, 1) := by decide +kernel
theorem dX6_caseOf_5 : decode cX6_caseOf 5 = .ok (.aload_n 3, 1) := by decide +kernel
theorem dX6_caseOf_6 : decode cX6_caseOf 6 = .ok (.ifnull 10, 3) := by decide +kernel
theorem dX6_caseOf_9 : decode cX6_caseOf 9 = .ok (.iload_n 1, 1) := by decide +kernel
theorem dX6_caseOf_10 : decode cX6_caseOf 10 = .ok (.invokestatic 94, 3) := by decide +kernel
theorem dX6_caseOf_13 : decode cX6_caseOf 13 = .ok (.ifCond .ne 5, 3) := by decide +kernel
theorem dX6_caseOf_16 : decode cX6_caseOf 16 = .ok (.iconst (-1), 1) := by decide +kernel
theorem dX6_caseOf_17 : decode cX6_caseOf 17 = .ok (.ireturn, 1) := by decide +kernel
theorem dX6_caseOf_18 : decode cX6_caseOf 18 = .ok (.iload_n 2, 1) := by decide +kernel
theorem dX6_caseOf_19 : decode cX6_caseOf 19 = .ok (.tableswitch 56 0 2 #[25, 34, 47], 25) := by decide +kernel
theorem dX6_caseOf_44 : decode cX6_caseOf 44 = .ok (.aload_n 0, 1) := by decide +kernel
theorem dX6_caseOf_45 : decode cX6_caseOf 45 = .ok (.getfield 35, 3) := by decide +kernel
theorem dX6_caseOf_48 : decode cX6_caseOf 48 = .ok (.iload_n 1, 1) := by decide +kernel
theorem dX6_caseOf_49 : decode cX6_caseOf 49 = .ok (.invokevirtual 198, 3) := by decide +kernel
theorem dX6_caseOf_52 : decode cX6_caseOf 52 = .ok (.ireturn, 1) := by decide +kernel
theorem dX6_caseOf_53 : decode cX6_caseOf 53 = .ok (.aload_n 0, 1) := by decide +kernel
theorem dX6_caseOf_54 : decode cX6_caseOf 54 = .ok (.getfield 35, 3) := by decide +kernel
theorem dX6_caseOf_57 : decode cX6_caseOf 57 = .ok (.iload_n 1, 1) := by decide +kernel
theorem dX6_caseOf_58 : decode cX6_caseOf 58 = .ok (.aload_n 3, 1) := by decide +kernel
theorem dX6_caseOf_59 : decode cX6_caseOf 59 = .ok (.getfield 97, 3) := by decide +kernel
theorem dX6_caseOf_62 : decode cX6_caseOf 62 = .ok (.invokevirtual 195, 3) := by decide +kernel
theorem dX6_caseOf_65 : decode cX6_caseOf 65 = .ok (.ireturn, 1) := by decide +kernel
theorem dX6_caseOf_66 : decode cX6_caseOf 66 = .ok (.aload_n 0, 1) := by decide +kernel
theorem dX6_caseOf_67 : decode cX6_caseOf 67 = .ok (.getfield 35, 3) := by decide +kernel
theorem dX6_caseOf_70 : decode cX6_caseOf 70 = .ok (.iload_n 1, 1) := by decide +kernel
theorem dX6_caseOf_71 : decode cX6_caseOf 71 = .ok (.invokevirtual 201, 3) := by decide +kernel
theorem dX6_caseOf_74 : decode cX6_caseOf 74 = .ok (.ireturn, 1) := by decide +kernel
theorem dX6_caseOf_75 : decode cX6_caseOf 75 = .ok (.iconst (-1), 1) := by decide +kernel
theorem dX6_caseOf_76 : decode cX6_caseOf 76 = .ok (.ireturn, 1) := by decide +kernel
set_option maxRecDepth 20000 in
theorem ggX6_count_X0_lessonAt : GoodIn wsX6_count wsX0_lessonAt := goodIn_r _ [14, 15, 16, 17, 13, 18, 79, 80, 81] (by decide +kernel) (by decide +kernel)
set_option maxRecDepth 20000 in
theorem gX6_count_X0_lessonAt : GoodIn wsX6_count (wsV RX6 139 RX0 yX0_lessonAt wsX0_lessonAt) := goodIn_app (goodIn_of _ (by decide +kernel)) ggX6_count_X0_lessonAt
set_option maxRecDepth 20000 in
theorem ggX6_count_X6_leftOf : GoodIn wsX6_count wsX6_leftOf := goodIn_r _ [23, 24, 2, 25, 26, 27, 28, 29, 30, 31, 32, 33, 34, 35, 36, 37, 38, 39, 40, 41, 42, 43, 44, 45, 22, 46, 47, 48, 84, 85, 86, 87, 61, 62, 63, 64, 65, 66, 67, 68, 69, 88, 89, 70, 71, 72, 73, 74, 75, 76, 77, 78] (by decide +kernel) (by decide +kernel)
set_option maxRecDepth 20000 in
theorem gX6_count_X6_leftOf : GoodIn wsX6_count (wsV RX6 152 RX6 yX6_leftOf wsX6_leftOf) := goodIn_app (goodIn_of _ (by decide +kernel)) ggX6_count_X6_leftOf
set_option maxRecDepth 20000 in
theorem ggX6_count_J6_bitCount_0f7a4 : GoodIn wsX6_count wsJ6_bitCount_0f7a4 := goodIn_r _ [52, 53, 54, 55] (by decide +kernel) (by decide +kernel)
set_option maxRecDepth 20000 in
theorem gX6_count_J6_bitCount_0f7a4 : GoodIn wsX6_count (va_wsS RX6 174 yJ6_bitCount_0f7a4 wsJ6_bitCount_0f7a4) := goodIn_app (goodIn_of _ (by decide +kernel)) ggX6_count_J6_bitCount_0f7a4
set_option maxRecDepth 20000 in
theorem ggX6_count_X0_isDone : GoodIn wsX6_count wsX0_isDone := goodIn_r _ [59, 60, 16, 17, 13, 18, 47, 22, 48, 79, 80, 81] (by decide +kernel) (by decide +kernel)
set_option maxRecDepth 20000 in
theorem gX6_count_X0_isDone : GoodIn wsX6_count (wsV RX6 129 RX0 yX0_isDone wsX0_isDone) := goodIn_app (goodIn_of _ (by decide +kernel)) ggX6_count_X0_isDone
theorem dX6_count_0 : decode cX6_count 0 = .ok (.iload_n 1, 1) := by decide +kernel
theorem dX6_count_1 : decode cX6_count 1 = .ok (.tableswitch 131 0 7 #[47, 52, 60, 68, 76, 95, 115, 123], 47) := by decide +kernel
theorem dX6_count_48 : decode cX6_count 48 = .ok (.aload_n 0, 1) := by decide +kernel
theorem dX6_count_49 : decode cX6_count 49 = .ok (.getfield 39, 3) := by decide +kernel
theorem dX6_count_52 : decode cX6_count 52 = .ok (.ireturn, 1) := by decide +kernel
theorem dX6_count_53 : decode cX6_count 53 = .ok (.aload_n 0, 1) := by decide +kernel
theorem dX6_count_54 : decode cX6_count 54 = .ok (.getfield 35, 3) := by decide +kernel
theorem dX6_count_57 : decode cX6_count 57 = .ok (.getfield 132, 3) := by decide +kernel
theorem dX6_count_60 : decode cX6_count 60 = .ok (.ireturn, 1) := by decide +kernel
theorem dX6_count_61 : decode cX6_count 61 = .ok (.aload_n 0, 1) := by decide +kernel
theorem dX6_count_62 : decode cX6_count 62 = .ok (.getfield 35, 3) := by decide +kernel
theorem dX6_count_65 : decode cX6_count 65 = .ok (.getfield 204, 3) := by decide +kernel
theorem dX6_count_68 : decode cX6_count 68 = .ok (.ireturn, 1) := by decide +kernel
theorem dX6_count_69 : decode cX6_count 69 = .ok (.aload_n 0, 1) := by decide +kernel
theorem dX6_count_70 : decode cX6_count 70 = .ok (.getfield 35, 3) := by decide +kernel
theorem dX6_count_73 : decode cX6_count 73 = .ok (.getfield 167, 3) := by decide +kernel
theorem dX6_count_76 : decode cX6_count 76 = .ok (.ireturn, 1) := by decide +kernel
theorem dX6_count_77 : decode cX6_count 77 = .ok (.aload_n 0, 1) := by decide +kernel
theorem dX6_count_78 : decode cX6_count 78 = .ok (.aload_n 0, 1) := by decide +kernel
theorem dX6_count_79 : decode cX6_count 79 = .ok (.getfield 28, 3) := by decide +kernel
theorem dX6_count_82 : decode cX6_count 82 = .ok (.aload_n 0, 1) := by decide +kernel
theorem dX6_count_83 : decode cX6_count 83 = .ok (.getfield 39, 3) := by decide +kernel
theorem dX6_count_86 : decode cX6_count 86 = .ok (.invokevirtual 139, 3) := by decide +kernel
theorem dX6_count_89 : decode cX6_count 89 = .ok (.invokevirtual 152, 3) := by decide +kernel
theorem dX6_count_92 : decode cX6_count 92 = .ok (.invokestatic 174, 3) := by decide +kernel
theorem dX6_count_95 : decode cX6_count 95 = .ok (.ireturn, 1) := by decide +kernel
theorem dX6_count_96 : decode cX6_count 96 = .ok (.aload_n 0, 1) := by decide +kernel
theorem dX6_count_97 : decode cX6_count 97 = .ok (.getfield 28, 3) := by decide +kernel
theorem dX6_count_100 : decode cX6_count 100 = .ok (.aload_n 0, 1) := by decide +kernel
theorem dX6_count_101 : decode cX6_count 101 = .ok (.getfield 39, 3) := by decide +kernel
theorem dX6_count_104 : decode cX6_count 104 = .ok (.invokevirtual 129, 3) := by decide +kernel
theorem dX6_count_107 : decode cX6_count 107 = .ok (.ifCond .eq 7, 3) := by decide +kernel
theorem dX6_count_110 : decode cX6_count 110 = .ok (.iconst 1, 1) := by decide +kernel
theorem dX6_count_111 : decode cX6_count 111 = .ok (.goto 4, 3) := by decide +kernel
theorem dX6_count_114 : decode cX6_count 114 = .ok (.iconst 0, 1) := by decide +kernel
theorem dX6_count_115 : decode cX6_count 115 = .ok (.ireturn, 1) := by decide +kernel
theorem dX6_count_116 : decode cX6_count 116 = .ok (.aload_n 0, 1) := by decide +kernel
theorem dX6_count_117 : decode cX6_count 117 = .ok (.getfield 28, 3) := by decide +kernel
theorem dX6_count_120 : decode cX6_count 120 = .ok (.getfield 207, 3) := by decide +kernel
theorem dX6_count_123 : decode cX6_count 123 = .ok (.ireturn, 1) := by decide +kernel
theorem dX6_count_124 : decode cX6_count 124 = .ok (.aload_n 0, 1) := by decide +kernel
theorem dX6_count_125 : decode cX6_count 125 = .ok (.getfield 10, 3) := by decide +kernel
theorem dX6_count_128 : decode cX6_count 128 = .ok (.getfield 55, 3) := by decide +kernel
theorem dX6_count_131 : decode cX6_count 131 = .ok (.ireturn, 1) := by decide +kernel
theorem dX6_count_132 : decode cX6_count 132 = .ok (.iconst (-1), 1) := by decide +kernel
theorem dX6_count_133 : decode cX6_count 133 = .ok (.ireturn, 1) := by decide +kernel
set_option maxRecDepth 20000 in
theorem ggX6_changeable_X0_isDone : GoodIn wsX6_changeable wsX0_isDone := goodIn_r _ [7, 8, 9, 10, 6, 11, 12, 13, 14, 29, 30, 31] (by decide +kernel) (by decide +kernel)
set_option maxRecDepth 20000 in
theorem gX6_changeable_X0_isDone : GoodIn wsX6_changeable (wsV RX6 129 RX0 yX0_isDone wsX0_isDone) := goodIn_app (goodIn_of _ (by decide +kernel)) ggX6_changeable_X0_isDone
set_option maxRecDepth 20000 in
theorem ggX6_changeable_X0_lessonAt : GoodIn wsX6_changeable wsX0_lessonAt := goodIn_r _ [18, 19, 9, 10, 6, 11, 29, 30, 31] (by decide +kernel) (by decide +kernel)
set_option maxRecDepth 20000 in
theorem gX6_changeable_X0_lessonAt : GoodIn wsX6_changeable (wsV RX6 139 RX0 yX0_lessonAt wsX0_lessonAt) := goodIn_app (goodIn_of _ (by decide +kernel)) ggX6_changeable_X0_lessonAt
theorem dX6_changeable_0 : decode cX6_changeable 0 = .ok (.iload_n 1, 1) := by decide +kernel
theorem dX6_changeable_1 : decode cX6_changeable 1 = .ok (.aload_n 0, 1) := by decide +kernel
theorem dX6_changeable_2 : decode cX6_changeable 2 = .ok (.getfield 39, 3) := by decide +kernel
theorem dX6_changeable_5 : decode cX6_changeable 5 = .ok (.if_icmp .eq 14, 3) := by decide +kernel
theorem dX6_changeable_8 : decode cX6_changeable 8 = .ok (.aload_n 0, 1) := by decide +kernel
theorem dX6_changeable_9 : decode cX6_changeable 9 = .ok (.getfield 28, 3) := by decide +kernel
theorem dX6_changeable_12 : decode cX6_changeable 12 = .ok (.iload_n 1, 1) := by decide +kernel
theorem dX6_changeable_13 : decode cX6_changeable 13 = .ok (.invokevirtual 129, 3) := by decide +kernel
theorem dX6_changeable_16 : decode cX6_changeable 16 = .ok (.ifCond .eq 7, 3) := by decide +kernel
theorem dX6_changeable_19 : decode cX6_changeable 19 = .ok (.aconst_null, 1) := by decide +kernel
theorem dX6_changeable_20 : decode cX6_changeable 20 = .ok (.goto 11, 3) := by decide +kernel
theorem dX6_changeable_23 : decode cX6_changeable 23 = .ok (.aload_n 0, 1) := by decide +kernel
theorem dX6_changeable_24 : decode cX6_changeable 24 = .ok (.getfield 28, 3) := by decide +kernel
theorem dX6_changeable_27 : decode cX6_changeable 27 = .ok (.iload_n 1, 1) := by decide +kernel
theorem dX6_changeable_28 : decode cX6_changeable 28 = .ok (.invokevirtual 139, 3) := by decide +kernel
theorem dX6_changeable_31 : decode cX6_changeable 31 = .ok (.areturn, 1) := by decide +kernel
set_option maxRecDepth 20000 in
theorem ggX6_formulaAt_X0_lessonAt : GoodIn wsX6_formulaAt wsX0_lessonAt := goodIn_r _ [7, 8, 9, 10, 6, 11, 32, 33, 34] (by decide +kernel) (by decide +kernel)
set_option maxRecDepth 20000 in
theorem gX6_formulaAt_X0_lessonAt : GoodIn wsX6_formulaAt (wsV RX6 139 RX0 yX0_lessonAt wsX0_lessonAt) := goodIn_app (goodIn_of _ (by decide +kernel)) ggX6_formulaAt_X0_lessonAt
set_option maxRecDepth 20000 in
theorem ggX6_formulaAt_X2_pictureAt : GoodIn wsX6_formulaAt wsX2_pictureAt := goodIn_r _ [16, 17, 18, 28, 29, 30, 31] (by decide +kernel) (by decide +kernel)
set_option maxRecDepth 20000 in
theorem gX6_formulaAt_X2_pictureAt : GoodIn wsX6_formulaAt (wsV RX6 142 RX2 yX2_pictureAt wsX2_pictureAt) := goodIn_app (goodIn_of _ (by decide +kernel)) ggX6_formulaAt_X2_pictureAt
theorem dX6_formulaAt_0 : decode cX6_formulaAt 0 = .ok (.aload_n 0, 1) := by decide +kernel
theorem dX6_formulaAt_1 : decode cX6_formulaAt 1 = .ok (.getfield 28, 3) := by decide +kernel
theorem dX6_formulaAt_4 : decode cX6_formulaAt 4 = .ok (.iload_n 1, 1) := by decide +kernel
theorem dX6_formulaAt_5 : decode cX6_formulaAt 5 = .ok (.invokevirtual 139, 3) := by decide +kernel
theorem dX6_formulaAt_8 : decode cX6_formulaAt 8 = .ok (.astore_n 3, 1) := by decide +kernel
theorem dX6_formulaAt_9 : decode cX6_formulaAt 9 = .ok (.aload_n 3, 1) := by decide +kernel
theorem dX6_formulaAt_10 : decode cX6_formulaAt 10 = .ok (.ifnonnull 5, 3) := by decide +kernel
theorem dX6_formulaAt_13 : decode cX6_formulaAt 13 = .ok (.aconst_null, 1) := by decide +kernel
theorem dX6_formulaAt_14 : decode cX6_formulaAt 14 = .ok (.areturn, 1) := by decide +kernel
theorem dX6_formulaAt_15 : decode cX6_formulaAt 15 = .ok (.iload_n 2, 1) := by decide +kernel
theorem dX6_formulaAt_16 : decode cX6_formulaAt 16 = .ok (.iconst (-1), 1) := by decide +kernel
theorem dX6_formulaAt_17 : decode cX6_formulaAt 17 = .ok (.if_icmp .ne 10, 3) := by decide +kernel
theorem dX6_formulaAt_20 : decode cX6_formulaAt 20 = .ok (.aload_n 3, 1) := by decide +kernel
theorem dX6_formulaAt_21 : decode cX6_formulaAt 21 = .ok (.getfield 77, 3) := by decide +kernel
theorem dX6_formulaAt_24 : decode cX6_formulaAt 24 = .ok (.goto 8, 3) := by decide +kernel
theorem dX6_formulaAt_27 : decode cX6_formulaAt 27 = .ok (.aload_n 3, 1) := by decide +kernel
theorem dX6_formulaAt_28 : decode cX6_formulaAt 28 = .ok (.iload_n 2, 1) := by decide +kernel
theorem dX6_formulaAt_29 : decode cX6_formulaAt 29 = .ok (.invokevirtual 142, 3) := by decide +kernel
theorem dX6_formulaAt_32 : decode cX6_formulaAt 32 = .ok (.areturn, 1) := by decide +kernel
set_option maxRecDepth 20000 in
theorem ggX6_begunLaw_X6_formulaAt : GoodIn wsX6_begunLaw wsX6_formulaAt := goodIn_r _ [6, 7, 8, 9, 10, 11, 12, 13, 14, 15, 16, 17, 18, 19, 20, 21, 22, 23, 24, 25, 26, 27, 28, 29, 30, 31, 32, 33, 34, 35, 36, 37, 38, 39, 40] (by decide +kernel) (by decide +kernel)
set_option maxRecDepth 20000 in
theorem gX6_begunLaw_X6_formulaAt : GoodIn wsX6_begunLaw (wsV RX6 90 RX6 yX6_formulaAt wsX6_formulaAt) := goodIn_app (goodIn_of _ (by decide +kernel)) ggX6_begunLaw_X6_formulaAt
theorem dX6_begunLaw_0 : decode cX6_begunLaw 0 = .ok (.aload_n 0, 1) := by decide +kernel
theorem dX6_begunLaw_1 : decode cX6_begunLaw 1 = .ok (.aload_n 0, 1) := by decide +kernel
theorem dX6_begunLaw_2 : decode cX6_begunLaw 2 = .ok (.getfield 39, 3) := by decide +kernel
theorem dX6_begunLaw_5 : decode cX6_begunLaw 5 = .ok (.iconst (-1), 1) := by decide +kernel
theorem dX6_begunLaw_6 : decode cX6_begunLaw 6 = .ok (.invokevirtual 90, 3) := by decide +kernel
theorem dX6_begunLaw_9 : decode cX6_begunLaw 9 = .ok (.areturn, 1) := by decide +kernel
set_option maxRecDepth 20000 in
theorem ggX6_readTape_X3_readText : GoodIn wsX6_readTape wsX3_readText := goodIn_r _ [8, 9, 10, 11, 12, 13, 14, 15, 16, 7, 17, 18, 19, 20, 21, 22, 23, 24, 25, 26, 27, 28, 29, 30, 31, 32, 33, 34, 35, 36, 37, 38, 39, 40, 41, 42, 43, 44, 45, 46, 47, 48, 49, 50, 51, 52, 53, 54, 55, 56, 57, 58, 59, 60, 61, 62, 63, 64, 65, 66, 67, 68, 69, 70, 71, 72, 73, 74, 88, 89, 90, 91, 92, 93, 94, 95, 96, 97] (by decide +kernel) (by decide +kernel)
set_option maxRecDepth 20000 in
theorem gX6_readTape_X3_readText : GoodIn wsX6_readTape (wsV RX6 210 RX3 yX3_readText wsX3_readText) := goodIn_app (goodIn_of _ (by decide +kernel)) ggX6_readTape_X3_readText
set_option maxRecDepth 20000 in
theorem ggX6_readTape_X5_clear : GoodIn wsX6_readTape wsX5_clear := goodIn_r _ [78, 32, 96, 97] (by decide +kernel) (by decide +kernel)
set_option maxRecDepth 20000 in
theorem gX6_readTape_X5_clear : GoodIn wsX6_readTape (wsV RX6 213 RX5 yX5_clear wsX5_clear) := goodIn_app (goodIn_of _ (by decide +kernel)) ggX6_readTape_X5_clear
theorem dX6_readTape_0 : decode cX6_readTape 0 = .ok (.aload_n 0, 1) := by decide +kernel
theorem dX6_readTape_1 : decode cX6_readTape 1 = .ok (.aload_n 0, 1) := by decide +kernel
theorem dX6_readTape_2 : decode cX6_readTape 2 = .ok (.getfield 21, 3) := by decide +kernel
theorem dX6_readTape_5 : decode cX6_readTape 5 = .ok (.iload_n 1, 1) := by decide +kernel
theorem dX6_readTape_6 : decode cX6_readTape 6 = .ok (.invokevirtual 210, 3) := by decide +kernel
theorem dX6_readTape_9 : decode cX6_readTape 9 = .ok (.putfield 43, 3) := by decide +kernel
theorem dX6_readTape_12 : decode cX6_readTape 12 = .ok (.aload_n 0, 1) := by decide +kernel
theorem dX6_readTape_13 : decode cX6_readTape 13 = .ok (.getfield 10, 3) := by decide +kernel
theorem dX6_readTape_16 : decode cX6_readTape 16 = .ok (.invokevirtual 213, 3) := by decide +kernel
theorem dX6_readTape_19 : decode cX6_readTape 19 = .ok (.aload_n 0, 1) := by decide +kernel
theorem dX6_readTape_20 : decode cX6_readTape 20 = .ok (.getfield 43, 3) := by decide +kernel
theorem dX6_readTape_23 : decode cX6_readTape 23 = .ok (.iconst (-1), 1) := by decide +kernel
theorem dX6_readTape_24 : decode cX6_readTape 24 = .ok (.if_icmp .ne 7, 3) := by decide +kernel
theorem dX6_readTape_27 : decode cX6_readTape 27 = .ok (.iconst 1, 1) := by decide +kernel
theorem dX6_readTape_28 : decode cX6_readTape 28 = .ok (.goto 4, 3) := by decide +kernel
theorem dX6_readTape_31 : decode cX6_readTape 31 = .ok (.iconst 0, 1) := by decide +kernel
theorem dX6_readTape_32 : decode cX6_readTape 32 = .ok (.ireturn, 1) := by decide +kernel
set_option maxRecDepth 20000 in
theorem ggX6_endIfDone_X0_end : GoodIn wsX6_endIfDone wsX0_end := goodIn_r _ [10, 11, 12, 13, 9, 14, 33, 34, 35] (by decide +kernel) (by decide +kernel)
set_option maxRecDepth 20000 in
theorem gX6_endIfDone_X0_end : GoodIn wsX6_endIfDone (wsV RX6 217 RX0 yX0_end wsX0_end) := goodIn_app (goodIn_of _ (by decide +kernel)) ggX6_endIfDone_X0_end
theorem dX6_endIfDone_0 : decode cX6_endIfDone 0 = .ok (.aload_n 0, 1) := by decide +kernel
theorem dX6_endIfDone_1 : decode cX6_endIfDone 1 = .ok (.getfield 39, 3) := by decide +kernel
theorem dX6_endIfDone_4 : decode cX6_endIfDone 4 = .ok (.iconst (-1), 1) := by decide +kernel
theorem dX6_endIfDone_5 : decode cX6_endIfDone 5 = .ok (.if_icmp .eq 28, 3) := by decide +kernel
theorem dX6_endIfDone_8 : decode cX6_endIfDone 8 = .ok (.aload_n 0, 1) := by decide +kernel
theorem dX6_endIfDone_9 : decode cX6_endIfDone 9 = .ok (.getfield 35, 3) := by decide +kernel
theorem dX6_endIfDone_12 : decode cX6_endIfDone 12 = .ok (.getfield 214, 3) := by decide +kernel
theorem dX6_endIfDone_15 : decode cX6_endIfDone 15 = .ok (.aload_n 0, 1) := by decide +kernel
theorem dX6_endIfDone_16 : decode cX6_endIfDone 16 = .ok (.getfield 52, 3) := by decide +kernel
theorem dX6_endIfDone_19 : decode cX6_endIfDone 19 = .ok (.if_icmp .lt 14, 3) := by decide +kernel
theorem dX6_endIfDone_22 : decode cX6_endIfDone 22 = .ok (.aload_n 0, 1) := by decide +kernel
theorem dX6_endIfDone_23 : decode cX6_endIfDone 23 = .ok (.getfield 28, 3) := by decide +kernel
theorem dX6_endIfDone_26 : decode cX6_endIfDone 26 = .ok (.aload_n 0, 1) := by decide +kernel
theorem dX6_endIfDone_27 : decode cX6_endIfDone 27 = .ok (.getfield 39, 3) := by decide +kernel
theorem dX6_endIfDone_30 : decode cX6_endIfDone 30 = .ok (.invokevirtual 217, 3) := by decide +kernel
theorem dX6_endIfDone_33 : decode cX6_endIfDone 33 = .ok (.return_, 1) := by decide +kernel
set_option maxRecDepth 20000 in
theorem ggX6_leftOf_X2_pictureAt : GoodIn wsX6_leftOf wsX2_pictureAt := goodIn_r _ [9, 10, 11, 28, 29, 30, 31] (by decide +kernel) (by decide +kernel)
set_option maxRecDepth 20000 in
theorem gX6_leftOf_X2_pictureAt : GoodIn wsX6_leftOf (wsV RX6 142 RX2 yX2_pictureAt wsX2_pictureAt) := goodIn_app (goodIn_of _ (by decide +kernel)) ggX6_leftOf_X2_pictureAt
set_option maxRecDepth 20000 in
theorem ggX6_leftOf_X4_slipsOf : GoodIn wsX6_leftOf wsX4_slipsOf := goodIn_r _ [16, 17, 18, 19, 15, 20, 21, 22, 23, 24, 25, 26, 27, 43, 44, 45, 46, 47, 48, 49, 50, 51] (by decide +kernel) (by decide +kernel)
set_option maxRecDepth 20000 in
theorem gX6_leftOf_X4_slipsOf : GoodIn wsX6_leftOf (wsV RX6 146 RX4 yX4_slipsOf wsX4_slipsOf) := goodIn_app (goodIn_of _ (by decide +kernel)) ggX6_leftOf_X4_slipsOf
theorem dX6_leftOf_0 : decode cX6_leftOf 0 = .ok (.aload_n 1, 1) := by decide +kernel
theorem dX6_leftOf_1 : decode cX6_leftOf 1 = .ok (.ifnonnull 5, 3) := by decide +kernel
theorem dX6_leftOf_4 : decode cX6_leftOf 4 = .ok (.iconst 0, 1) := by decide +kernel
theorem dX6_leftOf_5 : decode cX6_leftOf 5 = .ok (.ireturn, 1) := by decide +kernel
theorem dX6_leftOf_6 : decode cX6_leftOf 6 = .ok (.iconst 0, 1) := by decide +kernel
theorem dX6_leftOf_7 : decode cX6_leftOf 7 = .ok (.istore_n 2, 1) := by decide +kernel
theorem dX6_leftOf_8 : decode cX6_leftOf 8 = .ok (.iconst 0, 1) := by decide +kernel
theorem dX6_leftOf_9 : decode cX6_leftOf 9 = .ok (.istore_n 3, 1) := by decide +kernel
theorem dX6_leftOf_10 : decode cX6_leftOf 10 = .ok (.iload_n 3, 1) := by decide +kernel
theorem dX6_leftOf_11 : decode cX6_leftOf 11 = .ok (.aload_n 1, 1) := by decide +kernel
theorem dX6_leftOf_12 : decode cX6_leftOf 12 = .ok (.getfield 83, 3) := by decide +kernel
theorem dX6_leftOf_15 : decode cX6_leftOf 15 = .ok (.if_icmp .ge 46, 3) := by decide +kernel
theorem dX6_leftOf_18 : decode cX6_leftOf 18 = .ok (.aload_n 1, 1) := by decide +kernel
theorem dX6_leftOf_19 : decode cX6_leftOf 19 = .ok (.iload_n 3, 1) := by decide +kernel
theorem dX6_leftOf_20 : decode cX6_leftOf 20 = .ok (.invokevirtual 142, 3) := by decide +kernel
theorem dX6_leftOf_23 : decode cX6_leftOf 23 = .ok (.astore 4, 2) := by decide +kernel
theorem dX6_leftOf_25 : decode cX6_leftOf 25 = .ok (.aload 4, 2) := by decide +kernel
theorem dX6_leftOf_27 : decode cX6_leftOf 27 = .ok (.ifnull 28, 3) := by decide +kernel
theorem dX6_leftOf_30 : decode cX6_leftOf 30 = .ok (.aload_n 0, 1) := by decide +kernel
theorem dX6_leftOf_31 : decode cX6_leftOf 31 = .ok (.getfield 35, 3) := by decide +kernel
theorem dX6_leftOf_34 : decode cX6_leftOf 34 = .ok (.aload 4, 2) := by decide +kernel
theorem dX6_leftOf_36 : decode cX6_leftOf 36 = .ok (.getfield 97, 3) := by decide +kernel
theorem dX6_leftOf_39 : decode cX6_leftOf 39 = .ok (.invokevirtual 146, 3) := by decide +kernel
theorem dX6_leftOf_42 : decode cX6_leftOf 42 = .ok (.aload_n 0, 1) := by decide +kernel
theorem dX6_leftOf_43 : decode cX6_leftOf 43 = .ok (.getfield 46, 3) := by decide +kernel
theorem dX6_leftOf_46 : decode cX6_leftOf 46 = .ok (.if_icmp .gt 9, 3) := by decide +kernel
theorem dX6_leftOf_49 : decode cX6_leftOf 49 = .ok (.iload_n 2, 1) := by decide +kernel
theorem dX6_leftOf_50 : decode cX6_leftOf 50 = .ok (.iconst 1, 1) := by decide +kernel
theorem dX6_leftOf_51 : decode cX6_leftOf 51 = .ok (.iload_n 3, 1) := by decide +kernel
theorem dX6_leftOf_52 : decode cX6_leftOf 52 = .ok (.ishl, 1) := by decide +kernel
theorem dX6_leftOf_53 : decode cX6_leftOf 53 = .ok (.ior, 1) := by decide +kernel
theorem dX6_leftOf_54 : decode cX6_leftOf 54 = .ok (.istore_n 2, 1) := by decide +kernel
theorem dX6_leftOf_55 : decode cX6_leftOf 55 = .ok (.iinc 3 1, 3) := by decide +kernel
theorem dX6_leftOf_58 : decode cX6_leftOf 58 = .ok (.goto (-48), 3) := by decide +kernel
theorem dX6_leftOf_61 : decode cX6_leftOf 61 = .ok (.iload_n 2, 1) := by decide +kernel
theorem dX6_leftOf_62 : decode cX6_leftOf 62 = .ok (.ireturn, 1) := by decide +kernel
theorem dX6_isCase_0 : decode cX6_isCase 0 = .ok (.iload_n 0, 1) := by decide +kernel
theorem dX6_isCase_1 : decode cX6_isCase 1 = .ok (.ifCond .lt 13, 3) := by decide +kernel
theorem dX6_isCase_4 : decode cX6_isCase 4 = .ok (.iload_n 0, 1) := by decide +kernel
theorem dX6_isCase_5 : decode cX6_isCase 5 = .ok (.bipush 32, 2) := by decide +kernel
theorem dX6_isCase_7 : decode cX6_isCase 7 = .ok (.if_icmp .ge 7, 3) := by decide +kernel
theorem dX6_isCase_10 : decode cX6_isCase 10 = .ok (.iconst 1, 1) := by decide +kernel
theorem dX6_isCase_11 : decode cX6_isCase 11 = .ok (.goto 4, 3) := by decide +kernel
theorem dX6_isCase_14 : decode cX6_isCase 14 = .ok (.iconst 0, 1) := by decide +kernel
theorem dX6_isCase_15 : decode cX6_isCase 15 = .ok (.ireturn, 1) := by decide +kernel
theorem dX6_bitAt_0 : decode cX6_bitAt 0 = .ok (.iload_n 0, 1) := by decide +kernel
theorem dX6_bitAt_1 : decode cX6_bitAt 1 = .ok (.iload_n 1, 1) := by decide +kernel
theorem dX6_bitAt_2 : decode cX6_bitAt 2 = .ok (.iushr, 1) := by decide +kernel
theorem dX6_bitAt_3 : decode cX6_bitAt 3 = .ok (.iconst 1, 1) := by decide +kernel
theorem dX6_bitAt_4 : decode cX6_bitAt 4 = .ok (.iand, 1) := by decide +kernel
theorem dX6_bitAt_5 : decode cX6_bitAt 5 = .ok (.ireturn, 1) := by decide +kernel
set_option maxRecDepth 20000 in
theorem ggX6_leastBit_X6_bitAt : GoodIn wsX6_leastBit wsX6_bitAt := goodIn_r _ [4] (by decide +kernel) (by decide +kernel)
set_option maxRecDepth 20000 in
theorem gX6_leastBit_X6_bitAt : GoodIn wsX6_leastBit (va_wsS RX6 102 yX6_bitAt wsX6_bitAt) := goodIn_app (goodIn_of _ (by decide +kernel)) ggX6_leastBit_X6_bitAt
theorem dX6_leastBit_0 : decode cX6_leastBit 0 = .ok (.iconst 0, 1) := by decide +kernel
theorem dX6_leastBit_1 : decode cX6_leastBit 1 = .ok (.istore_n 1, 1) := by decide +kernel
theorem dX6_leastBit_2 : decode cX6_leastBit 2 = .ok (.iload_n 1, 1) := by decide +kernel
theorem dX6_leastBit_3 : decode cX6_leastBit 3 = .ok (.bipush 32, 2) := by decide +kernel
theorem dX6_leastBit_5 : decode cX6_leastBit 5 = .ok (.if_icmp .ge 20, 3) := by decide +kernel
theorem dX6_leastBit_8 : decode cX6_leastBit 8 = .ok (.iload_n 0, 1) := by decide +kernel
theorem dX6_leastBit_9 : decode cX6_leastBit 9 = .ok (.iload_n 1, 1) := by decide +kernel
theorem dX6_leastBit_10 : decode cX6_leastBit 10 = .ok (.invokestatic 102, 3) := by decide +kernel
theorem dX6_leastBit_13 : decode cX6_leastBit 13 = .ok (.iconst 1, 1) := by decide +kernel
theorem dX6_leastBit_14 : decode cX6_leastBit 14 = .ok (.if_icmp .ne 5, 3) := by decide +kernel
theorem dX6_leastBit_17 : decode cX6_leastBit 17 = .ok (.iload_n 1, 1) := by decide +kernel
theorem dX6_leastBit_18 : decode cX6_leastBit 18 = .ok (.ireturn, 1) := by decide +kernel
theorem dX6_leastBit_19 : decode cX6_leastBit 19 = .ok (.iinc 1 1, 3) := by decide +kernel
theorem dX6_leastBit_22 : decode cX6_leastBit 22 = .ok (.goto (-20), 3) := by decide +kernel
theorem dX6_leastBit_25 : decode cX6_leastBit 25 = .ok (.iconst (-1), 1) := by decide +kernel
theorem dX6_leastBit_26 : decode cX6_leastBit 26 = .ok (.ireturn, 1) := by decide +kernel
theorem dX7_init_0 : decode cX7_init 0 = .ok (.aload_n 0, 1) := by decide +kernel
theorem dX7_init_1 : decode cX7_init 1 = .ok (.invokespecial 1, 3) := by decide +kernel
theorem dX7_init_4 : decode cX7_init 4 = .ok (.aload_n 0, 1) := by decide +kernel
theorem dX7_init_5 : decode cX7_init 5 = .ok (.bipush 80, 2) := by decide +kernel
theorem dX7_init_7 : decode cX7_init 7 = .ok (.newarray .byte, 2) := by decide +kernel
theorem dX7_init_9 : decode cX7_init 9 = .ok (.putfield 7, 3) := by decide +kernel
theorem dX7_init_12 : decode cX7_init 12 = .ok (.aload_n 0, 1) := by decide +kernel
theorem dX7_init_13 : decode cX7_init 13 = .ok (.bipush 89, 2) := by decide +kernel
theorem dX7_init_15 : decode cX7_init 15 = .ok (.newarray .int, 2) := by decide +kernel
theorem dX7_init_17 : decode cX7_init 17 = .ok (.putfield 13, 3) := by decide +kernel
theorem dX7_init_20 : decode cX7_init 20 = .ok (.aload_n 0, 1) := by decide +kernel
theorem dX7_init_21 : decode cX7_init 21 = .ok (.bipush 89, 2) := by decide +kernel
theorem dX7_init_23 : decode cX7_init 23 = .ok (.newarray .int, 2) := by decide +kernel
theorem dX7_init_25 : decode cX7_init 25 = .ok (.putfield 17, 3) := by decide +kernel
theorem dX7_init_28 : decode cX7_init 28 = .ok (.aload_n 0, 1) := by decide +kernel
theorem dX7_init_29 : decode cX7_init 29 = .ok (.sipush 5340, 3) := by decide +kernel
theorem dX7_init_32 : decode cX7_init 32 = .ok (.newarray .byte, 2) := by decide +kernel
theorem dX7_init_34 : decode cX7_init 34 = .ok (.putfield 20, 3) := by decide +kernel
theorem dX7_init_37 : decode cX7_init 37 = .ok (.aload_n 0, 1) := by decide +kernel
theorem dX7_init_38 : decode cX7_init 38 = .ok (.bipush 6, 2) := by decide +kernel
theorem dX7_init_40 : decode cX7_init 40 = .ok (.newarray .boolean, 2) := by decide +kernel
theorem dX7_init_42 : decode cX7_init 42 = .ok (.putfield 23, 3) := by decide +kernel
theorem dX7_init_45 : decode cX7_init 45 = .ok (.aload_n 0, 1) := by decide +kernel
theorem dX7_init_46 : decode cX7_init 46 = .ok (.bipush 6, 2) := by decide +kernel
theorem dX7_init_48 : decode cX7_init 48 = .ok (.newarray .boolean, 2) := by decide +kernel
theorem dX7_init_50 : decode cX7_init 50 = .ok (.putfield 27, 3) := by decide +kernel
theorem dX7_init_53 : decode cX7_init 53 = .ok (.aload_n 0, 1) := by decide +kernel
theorem dX7_init_54 : decode cX7_init 54 = .ok (.bipush 36, 2) := by decide +kernel
theorem dX7_init_56 : decode cX7_init 56 = .ok (.newarray .boolean, 2) := by decide +kernel
theorem dX7_init_58 : decode cX7_init 58 = .ok (.putfield 30, 3) := by decide +kernel
theorem dX7_init_61 : decode cX7_init 61 = .ok (.aload_n 0, 1) := by decide +kernel
theorem dX7_init_62 : decode cX7_init 62 = .ok (.bipush 6, 2) := by decide +kernel
theorem dX7_init_64 : decode cX7_init 64 = .ok (.newarray .int, 2) := by decide +kernel
theorem dX7_init_66 : decode cX7_init 66 = .ok (.putfield 33, 3) := by decide +kernel
theorem dX7_init_69 : decode cX7_init 69 = .ok (.aload_n 0, 1) := by decide +kernel
theorem dX7_init_70 : decode cX7_init 70 = .ok (.iconst (-1), 1) := by decide +kernel
theorem dX7_init_71 : decode cX7_init 71 = .ok (.putfield 36, 3) := by decide +kernel
theorem dX7_init_74 : decode cX7_init 74 = .ok (.aload_n 0, 1) := by decide +kernel
theorem dX7_init_75 : decode cX7_init 75 = .ok (.iconst 3, 1) := by decide +kernel
theorem dX7_init_76 : decode cX7_init 76 = .ok (.putfield 40, 3) := by decide +kernel
theorem dX7_init_79 : decode cX7_init 79 = .ok (.aload_n 0, 1) := by decide +kernel
theorem dX7_init_80 : decode cX7_init 80 = .ok (.iconst 3, 1) := by decide +kernel
theorem dX7_init_81 : decode cX7_init 81 = .ok (.putfield 43, 3) := by decide +kernel
theorem dX7_init_84 : decode cX7_init 84 = .ok (.aload_n 0, 1) := by decide +kernel
theorem dX7_init_85 : decode cX7_init 85 = .ok (.bipush 40, 2) := by decide +kernel
theorem dX7_init_87 : decode cX7_init 87 = .ok (.newarray .int, 2) := by decide +kernel
theorem dX7_init_89 : decode cX7_init 89 = .ok (.putfield 46, 3) := by decide +kernel
theorem dX7_init_92 : decode cX7_init 92 = .ok (.aload_n 0, 1) := by decide +kernel
theorem dX7_init_93 : decode cX7_init 93 = .ok (.bipush 40, 2) := by decide +kernel
theorem dX7_init_95 : decode cX7_init 95 = .ok (.newarray .int, 2) := by decide +kernel
theorem dX7_init_97 : decode cX7_init 97 = .ok (.putfield 49, 3) := by decide +kernel
theorem dX7_init_100 : decode cX7_init 100 = .ok (.aload_n 0, 1) := by decide +kernel
theorem dX7_init_101 : decode cX7_init 101 = .ok (.bipush 60, 2) := by decide +kernel
theorem dX7_init_103 : decode cX7_init 103 = .ok (.newarray .int, 2) := by decide +kernel
theorem dX7_init_105 : decode cX7_init 105 = .ok (.putfield 52, 3) := by decide +kernel
theorem dX7_init_108 : decode cX7_init 108 = .ok (.aload_n 0, 1) := by decide +kernel
theorem dX7_init_109 : decode cX7_init 109 = .ok (.bipush 60, 2) := by decide +kernel
theorem dX7_init_111 : decode cX7_init 111 = .ok (.newarray .int, 2) := by decide +kernel
theorem dX7_init_113 : decode cX7_init 113 = .ok (.putfield 55, 3) := by decide +kernel
theorem dX7_init_116 : decode cX7_init 116 = .ok (.aload_n 0, 1) := by decide +kernel
theorem dX7_init_117 : decode cX7_init 117 = .ok (.bipush 60, 2) := by decide +kernel
theorem dX7_init_119 : decode cX7_init 119 = .ok (.newarray .int, 2) := by decide +kernel
theorem dX7_init_121 : decode cX7_init 121 = .ok (.putfield 58, 3) := by decide +kernel
theorem dX7_init_124 : decode cX7_init 124 = .ok (.aload_n 0, 1) := by decide +kernel
theorem dX7_init_125 : decode cX7_init 125 = .ok (.bipush 60, 2) := by decide +kernel
theorem dX7_init_127 : decode cX7_init 127 = .ok (.newarray .int, 2) := by decide +kernel
theorem dX7_init_129 : decode cX7_init 129 = .ok (.putfield 61, 3) := by decide +kernel
theorem dX7_init_132 : decode cX7_init 132 = .ok (.aload_n 0, 1) := by decide +kernel
theorem dX7_init_133 : decode cX7_init 133 = .ok (.iconst (-1), 1) := by decide +kernel
theorem dX7_init_134 : decode cX7_init 134 = .ok (.putfield 64, 3) := by decide +kernel
theorem dX7_init_137 : decode cX7_init 137 = .ok (.return_, 1) := by decide +kernel
theorem dX7_isIn_0 : decode cX7_isIn 0 = .ok (.iload_n 0, 1) := by decide +kernel
theorem dX7_isIn_1 : decode cX7_isIn 1 = .ok (.iload_n 1, 1) := by decide +kernel
theorem dX7_isIn_2 : decode cX7_isIn 2 = .ok (.if_icmp .lt 12, 3) := by decide +kernel
theorem dX7_isIn_5 : decode cX7_isIn 5 = .ok (.iload_n 0, 1) := by decide +kernel
theorem dX7_isIn_6 : decode cX7_isIn 6 = .ok (.iload_n 2, 1) := by decide +kernel
theorem dX7_isIn_7 : decode cX7_isIn 7 = .ok (.if_icmp .gt 7, 3) := by decide +kernel
theorem dX7_isIn_10 : decode cX7_isIn 10 = .ok (.iconst 1, 1) := by decide +kernel
theorem dX7_isIn_11 : decode cX7_isIn 11 = .ok (.goto 4, 3) := by decide +kernel
theorem dX7_isIn_14 : decode cX7_isIn 14 = .ok (.iconst 0, 1) := by decide +kernel
theorem dX7_isIn_15 : decode cX7_isIn 15 = .ok (.ireturn, 1) := by decide +kernel
theorem dX7_one_0 : decode cX7_one 0 = .ok (.iload_n 0, 1) := by decide +kernel
theorem dX7_one_1 : decode cX7_one 1 = .ok (.ifCond .eq 7, 3) := by decide +kernel
theorem dX7_one_4 : decode cX7_one 4 = .ok (.iconst 1, 1) := by decide +kernel
theorem dX7_one_5 : decode cX7_one 5 = .ok (.goto 4, 3) := by decide +kernel
theorem dX7_one_8 : decode cX7_one 8 = .ok (.iconst 0, 1) := by decide +kernel
theorem dX7_one_9 : decode cX7_one 9 = .ok (.ireturn, 1) := by decide +kernel
set_option maxRecDepth 20000 in
theorem ggX7_isLesson_X7_isIn : GoodIn wsX7_isLesson wsX7_isIn := goodIn_r _ [4] (by decide +kernel) (by decide +kernel)
set_option maxRecDepth 20000 in
theorem gX7_isLesson_X7_isIn : GoodIn wsX7_isLesson (va_wsS RX7 67 yX7_isIn wsX7_isIn) := goodIn_app (goodIn_of _ (by decide +kernel)) ggX7_isLesson_X7_isIn
theorem dX7_isLesson_0 : decode cX7_isLesson 0 = .ok (.iload_n 0, 1) := by decide +kernel
theorem dX7_isLesson_1 : decode cX7_isLesson 1 = .ok (.iconst 0, 1) := by decide +kernel
theorem dX7_isLesson_2 : decode cX7_isLesson 2 = .ok (.iconst 5, 1) := by decide +kernel
theorem dX7_isLesson_3 : decode cX7_isLesson 3 = .ok (.invokestatic 67, 3) := by decide +kernel
theorem dX7_isLesson_6 : decode cX7_isLesson 6 = .ok (.ireturn, 1) := by decide +kernel
set_option maxRecDepth 20000 in
theorem ggX7_isCase_X7_isIn : GoodIn wsX7_isCase wsX7_isIn := goodIn_r _ [4] (by decide +kernel) (by decide +kernel)
set_option maxRecDepth 20000 in
theorem gX7_isCase_X7_isIn : GoodIn wsX7_isCase (va_wsS RX7 67 yX7_isIn wsX7_isIn) := goodIn_app (goodIn_of _ (by decide +kernel)) ggX7_isCase_X7_isIn
theorem dX7_isCase_0 : decode cX7_isCase 0 = .ok (.iload_n 0, 1) := by decide +kernel
theorem dX7_isCase_1 : decode cX7_isCase 1 = .ok (.iconst 0, 1) := by decide +kernel
theorem dX7_isCase_2 : decode cX7_isCase 2 = .ok (.bipush 31, 2) := by decide +kernel
theorem dX7_isCase_4 : decode cX7_isCase 4 = .ok (.invokestatic 67, 3) := by decide +kernel
theorem dX7_isCase_7 : decode cX7_isCase 7 = .ok (.ireturn, 1) := by decide +kernel
set_option maxRecDepth 20000 in
theorem ggX7_feed_X7_four : GoodIn wsX7_feed wsX7_four := goodIn_r _ [6, 7, 1, 8, 9, 10, 11, 12, 13, 14, 15, 16, 17, 18, 19, 20, 21, 22, 23, 24, 25, 26, 27, 28, 29, 30, 31, 32, 33, 34, 35] (by decide +kernel) (by decide +kernel)
set_option maxRecDepth 20000 in
theorem gX7_feed_X7_four : GoodIn wsX7_feed (wsV RX7 74 RX7 yX7_four wsX7_four) := goodIn_app (goodIn_of _ (by decide +kernel)) ggX7_feed_X7_four
theorem dX7_feed_0 : decode cX7_feed 0 = .ok (.aload_n 0, 1) := by decide +kernel
theorem dX7_feed_1 : decode cX7_feed 1 = .ok (.getfield 71, 3) := by decide +kernel
theorem dX7_feed_4 : decode cX7_feed 4 = .ok (.bipush 20, 2) := by decide +kernel
theorem dX7_feed_6 : decode cX7_feed 6 = .ok (.iadd, 1) := by decide +kernel
theorem dX7_feed_7 : decode cX7_feed 7 = .ok (.bipush 80, 2) := by decide +kernel
theorem dX7_feed_9 : decode cX7_feed 9 = .ok (.if_icmp .le 5, 3) := by decide +kernel
theorem dX7_feed_12 : decode cX7_feed 12 = .ok (.iconst (-1), 1) := by decide +kernel
theorem dX7_feed_13 : decode cX7_feed 13 = .ok (.ireturn, 1) := by decide +kernel
theorem dX7_feed_14 : decode cX7_feed 14 = .ok (.aload_n 0, 1) := by decide +kernel
theorem dX7_feed_15 : decode cX7_feed 15 = .ok (.iload_n 1, 1) := by decide +kernel
theorem dX7_feed_16 : decode cX7_feed 16 = .ok (.invokevirtual 74, 3) := by decide +kernel
theorem dX7_feed_19 : decode cX7_feed 19 = .ok (.aload_n 0, 1) := by decide +kernel
theorem dX7_feed_20 : decode cX7_feed 20 = .ok (.iload_n 2, 1) := by decide +kernel
theorem dX7_feed_21 : decode cX7_feed 21 = .ok (.invokevirtual 74, 3) := by decide +kernel
theorem dX7_feed_24 : decode cX7_feed 24 = .ok (.aload_n 0, 1) := by decide +kernel
theorem dX7_feed_25 : decode cX7_feed 25 = .ok (.iload_n 3, 1) := by decide +kernel
theorem dX7_feed_26 : decode cX7_feed 26 = .ok (.invokevirtual 74, 3) := by decide +kernel
theorem dX7_feed_29 : decode cX7_feed 29 = .ok (.aload_n 0, 1) := by decide +kernel
theorem dX7_feed_30 : decode cX7_feed 30 = .ok (.iload 4, 2) := by decide +kernel
theorem dX7_feed_32 : decode cX7_feed 32 = .ok (.invokevirtual 74, 3) := by decide +kernel
theorem dX7_feed_35 : decode cX7_feed 35 = .ok (.aload_n 0, 1) := by decide +kernel
theorem dX7_feed_36 : decode cX7_feed 36 = .ok (.iload 5, 2) := by decide +kernel
theorem dX7_feed_38 : decode cX7_feed 38 = .ok (.invokevirtual 74, 3) := by decide +kernel
theorem dX7_feed_41 : decode cX7_feed 41 = .ok (.aload_n 0, 1) := by decide +kernel
theorem dX7_feed_42 : decode cX7_feed 42 = .ok (.getfield 71, 3) := by decide +kernel
theorem dX7_feed_45 : decode cX7_feed 45 = .ok (.ireturn, 1) := by decide +kernel
theorem dX7_four_0 : decode cX7_four 0 = .ok (.bipush 24, 2) := by decide +kernel
theorem dX7_four_2 : decode cX7_four 2 = .ok (.istore_n 2, 1) := by decide +kernel
theorem dX7_four_3 : decode cX7_four 3 = .ok (.iload_n 2, 1) := by decide +kernel
theorem dX7_four_4 : decode cX7_four 4 = .ok (.ifCond .lt 32, 3) := by decide +kernel
theorem dX7_four_7 : decode cX7_four 7 = .ok (.aload_n 0, 1) := by decide +kernel
theorem dX7_four_8 : decode cX7_four 8 = .ok (.getfield 7, 3) := by decide +kernel
theorem dX7_four_11 : decode cX7_four 11 = .ok (.aload_n 0, 1) := by decide +kernel
theorem dX7_four_12 : decode cX7_four 12 = .ok (.getfield 71, 3) := by decide +kernel
theorem dX7_four_15 : decode cX7_four 15 = .ok (.iload_n 1, 1) := by decide +kernel
theorem dX7_four_16 : decode cX7_four 16 = .ok (.iload_n 2, 1) := by decide +kernel
theorem dX7_four_17 : decode cX7_four 17 = .ok (.ishr, 1) := by decide +kernel
theorem dX7_four_18 : decode cX7_four 18 = .ok (.i2b, 1) := by decide +kernel
theorem dX7_four_19 : decode cX7_four 19 = .ok (.bastore, 1) := by decide +kernel
theorem dX7_four_20 : decode cX7_four 20 = .ok (.aload_n 0, 1) := by decide +kernel
theorem dX7_four_21 : decode cX7_four 21 = .ok (.dup, 1) := by decide +kernel
theorem dX7_four_22 : decode cX7_four 22 = .ok (.getfield 71, 3) := by decide +kernel
theorem dX7_four_25 : decode cX7_four 25 = .ok (.iconst 1, 1) := by decide +kernel
theorem dX7_four_26 : decode cX7_four 26 = .ok (.iadd, 1) := by decide +kernel
theorem dX7_four_27 : decode cX7_four 27 = .ok (.putfield 71, 3) := by decide +kernel
theorem dX7_four_30 : decode cX7_four 30 = .ok (.iinc 2 (-8), 3) := by decide +kernel
theorem dX7_four_33 : decode cX7_four 33 = .ok (.goto (-30), 3) := by decide +kernel
theorem dX7_four_36 : decode cX7_four 36 = .ok (.return_, 1) := by decide +kernel
theorem dX7_node_0 : decode cX7_node 0 = .ok (.aload_n 0, 1) := by decide +kernel
theorem dX7_node_1 : decode cX7_node 1 = .ok (.getfield 52, 3) := by decide +kernel
theorem dX7_node_4 : decode cX7_node 4 = .ok (.aload_n 0, 1) := by decide +kernel
theorem dX7_node_5 : decode cX7_node 5 = .ok (.getfield 78, 3) := by decide +kernel
theorem dX7_node_8 : decode cX7_node 8 = .ok (.iload_n 1, 1) := by decide +kernel
theorem dX7_node_9 : decode cX7_node 9 = .ok (.iastore, 1) := by decide +kernel
theorem dX7_node_10 : decode cX7_node 10 = .ok (.aload_n 0, 1) := by decide +kernel
theorem dX7_node_11 : decode cX7_node 11 = .ok (.getfield 61, 3) := by decide +kernel
theorem dX7_node_14 : decode cX7_node 14 = .ok (.aload_n 0, 1) := by decide +kernel
theorem dX7_node_15 : decode cX7_node 15 = .ok (.getfield 78, 3) := by decide +kernel
theorem dX7_node_18 : decode cX7_node 18 = .ok (.iload_n 2, 1) := by decide +kernel
theorem dX7_node_19 : decode cX7_node 19 = .ok (.iastore, 1) := by decide +kernel
theorem dX7_node_20 : decode cX7_node 20 = .ok (.aload_n 0, 1) := by decide +kernel
theorem dX7_node_21 : decode cX7_node 21 = .ok (.getfield 55, 3) := by decide +kernel
theorem dX7_node_24 : decode cX7_node 24 = .ok (.aload_n 0, 1) := by decide +kernel
theorem dX7_node_25 : decode cX7_node 25 = .ok (.getfield 78, 3) := by decide +kernel
theorem dX7_node_28 : decode cX7_node 28 = .ok (.iload_n 3, 1) := by decide +kernel
theorem dX7_node_29 : decode cX7_node 29 = .ok (.iastore, 1) := by decide +kernel
theorem dX7_node_30 : decode cX7_node 30 = .ok (.aload_n 0, 1) := by decide +kernel
theorem dX7_node_31 : decode cX7_node 31 = .ok (.getfield 58, 3) := by decide +kernel
theorem dX7_node_34 : decode cX7_node 34 = .ok (.aload_n 0, 1) := by decide +kernel
theorem dX7_node_35 : decode cX7_node 35 = .ok (.getfield 78, 3) := by decide +kernel
theorem dX7_node_38 : decode cX7_node 38 = .ok (.iload 4, 2) := by decide +kernel
theorem dX7_node_40 : decode cX7_node 40 = .ok (.iastore, 1) := by decide +kernel
theorem dX7_node_41 : decode cX7_node 41 = .ok (.aload_n 0, 1) := by decide +kernel
theorem dX7_node_42 : decode cX7_node 42 = .ok (.dup, 1) := by decide +kernel
theorem dX7_node_43 : decode cX7_node 43 = .ok (.getfield 78, 3) := by decide +kernel
theorem dX7_node_46 : decode cX7_node 46 = .ok (.iconst 1, 1) := by decide +kernel
theorem dX7_node_47 : decode cX7_node 47 = .ok (.iadd, 1) := by decide +kernel
theorem dX7_node_48 : decode cX7_node 48 = .ok (.putfield 78, 3) := by decide +kernel
theorem dX7_node_51 : decode cX7_node 51 = .ok (.aload_n 0, 1) := by decide +kernel
theorem dX7_node_52 : decode cX7_node 52 = .ok (.getfield 78, 3) := by decide +kernel
theorem dX7_node_55 : decode cX7_node 55 = .ok (.iconst 1, 1) := by decide +kernel
theorem dX7_node_56 : decode cX7_node 56 = .ok (.isub, 1) := by decide +kernel
theorem dX7_node_57 : decode cX7_node 57 = .ok (.ireturn, 1) := by decide +kernel
theorem dX7_blanks_0 : decode cX7_blanks 0 = .ok (.aload_n 0, 1) := by decide +kernel
theorem dX7_blanks_1 : decode cX7_blanks 1 = .ok (.getfield 81, 3) := by decide +kernel
theorem dX7_blanks_4 : decode cX7_blanks 4 = .ok (.aload_n 0, 1) := by decide +kernel
theorem dX7_blanks_5 : decode cX7_blanks 5 = .ok (.getfield 84, 3) := by decide +kernel
theorem dX7_blanks_8 : decode cX7_blanks 8 = .ok (.if_icmp .ge 44, 3) := by decide +kernel
theorem dX7_blanks_11 : decode cX7_blanks 11 = .ok (.aload_n 0, 1) := by decide +kernel
theorem dX7_blanks_12 : decode cX7_blanks 12 = .ok (.getfield 7, 3) := by decide +kernel
theorem dX7_blanks_15 : decode cX7_blanks 15 = .ok (.aload_n 0, 1) := by decide +kernel
theorem dX7_blanks_16 : decode cX7_blanks 16 = .ok (.getfield 81, 3) := by decide +kernel
theorem dX7_blanks_19 : decode cX7_blanks 19 = .ok (.baload, 1) := by decide +kernel
theorem dX7_blanks_20 : decode cX7_blanks 20 = .ok (.bipush 32, 2) := by decide +kernel
theorem dX7_blanks_22 : decode cX7_blanks 22 = .ok (.if_icmp .eq 17, 3) := by decide +kernel
theorem dX7_blanks_25 : decode cX7_blanks 25 = .ok (.aload_n 0, 1) := by decide +kernel
theorem dX7_blanks_26 : decode cX7_blanks 26 = .ok (.getfield 7, 3) := by decide +kernel
theorem dX7_blanks_29 : decode cX7_blanks 29 = .ok (.aload_n 0, 1) := by decide +kernel
theorem dX7_blanks_30 : decode cX7_blanks 30 = .ok (.getfield 81, 3) := by decide +kernel
theorem dX7_blanks_33 : decode cX7_blanks 33 = .ok (.baload, 1) := by decide +kernel
theorem dX7_blanks_34 : decode cX7_blanks 34 = .ok (.bipush 10, 2) := by decide +kernel
theorem dX7_blanks_36 : decode cX7_blanks 36 = .ok (.if_icmp .ne 16, 3) := by decide +kernel
theorem dX7_blanks_39 : decode cX7_blanks 39 = .ok (.aload_n 0, 1) := by decide +kernel
theorem dX7_blanks_40 : decode cX7_blanks 40 = .ok (.dup, 1) := by decide +kernel
theorem dX7_blanks_41 : decode cX7_blanks 41 = .ok (.getfield 81, 3) := by decide +kernel
theorem dX7_blanks_44 : decode cX7_blanks 44 = .ok (.iconst 1, 1) := by decide +kernel
theorem dX7_blanks_45 : decode cX7_blanks 45 = .ok (.iadd, 1) := by decide +kernel
theorem dX7_blanks_46 : decode cX7_blanks 46 = .ok (.putfield 81, 3) := by decide +kernel
theorem dX7_blanks_49 : decode cX7_blanks 49 = .ok (.goto (-49), 3) := by decide +kernel
theorem dX7_blanks_52 : decode cX7_blanks 52 = .ok (.return_, 1) := by decide +kernel
set_option maxRecDepth 20000 in
theorem ggX7_is_X7_blanks : GoodIn wsX7_is wsX7_blanks := goodIn_r _ [8, 1, 2, 3, 9, 10, 11, 12, 13, 14, 15, 16, 17, 18, 19, 20, 21, 22, 23, 24, 25, 26, 27, 28, 29, 30, 31, 32, 33, 34, 35, 36] (by decide +kernel) (by decide +kernel)
set_option maxRecDepth 20000 in
theorem gX7_is_X7_blanks : GoodIn wsX7_is (wsV RX7 87 RX7 yX7_blanks wsX7_blanks) := goodIn_app (goodIn_of _ (by decide +kernel)) ggX7_is_X7_blanks
theorem dX7_is_0 : decode cX7_is 0 = .ok (.aload_n 0, 1) := by decide +kernel
theorem dX7_is_1 : decode cX7_is 1 = .ok (.invokevirtual 87, 3) := by decide +kernel
theorem dX7_is_4 : decode cX7_is 4 = .ok (.aload_n 0, 1) := by decide +kernel
theorem dX7_is_5 : decode cX7_is 5 = .ok (.getfield 81, 3) := by decide +kernel
theorem dX7_is_8 : decode cX7_is 8 = .ok (.aload_n 0, 1) := by decide +kernel
theorem dX7_is_9 : decode cX7_is 9 = .ok (.getfield 84, 3) := by decide +kernel
theorem dX7_is_12 : decode cX7_is 12 = .ok (.if_icmp .ge 20, 3) := by decide +kernel
theorem dX7_is_15 : decode cX7_is 15 = .ok (.aload_n 0, 1) := by decide +kernel
theorem dX7_is_16 : decode cX7_is 16 = .ok (.getfield 7, 3) := by decide +kernel
theorem dX7_is_19 : decode cX7_is 19 = .ok (.aload_n 0, 1) := by decide +kernel
theorem dX7_is_20 : decode cX7_is 20 = .ok (.getfield 81, 3) := by decide +kernel
theorem dX7_is_23 : decode cX7_is 23 = .ok (.baload, 1) := by decide +kernel
theorem dX7_is_24 : decode cX7_is 24 = .ok (.iload_n 1, 1) := by decide +kernel
theorem dX7_is_25 : decode cX7_is 25 = .ok (.if_icmp .ne 7, 3) := by decide +kernel
theorem dX7_is_28 : decode cX7_is 28 = .ok (.iconst 1, 1) := by decide +kernel
theorem dX7_is_29 : decode cX7_is 29 = .ok (.goto 4, 3) := by decide +kernel
theorem dX7_is_32 : decode cX7_is 32 = .ok (.iconst 0, 1) := by decide +kernel
theorem dX7_is_33 : decode cX7_is 33 = .ok (.ireturn, 1) := by decide +kernel
set_option maxRecDepth 20000 in
theorem ggX7_row_X7_not : GoodIn wsX7_row wsX7_not := goodIn_r _ [29, 2, 14, 15, 1, 30, 16, 17, 18, 6, 19, 31, 32, 33, 34, 3, 4, 5, 20, 21, 22, 23, 24, 25, 26, 27, 28, 7, 8, 9, 10, 11, 12, 13, 35, 36, 37, 0, 38, 39, 40, 41, 42, 43, 44, 45, 46, 47, 48, 49, 50, 51, 52, 53, 54, 55, 56, 57, 58, 59, 60, 61, 62, 63, 64, 65] (by decide +kernel) (by decide +kernel)
set_option maxRecDepth 20000 in
theorem gX7_row_X7_not : GoodIn wsX7_row (wsV RX7 90 RX7 yX7_not wsX7_not) := goodIn_app (goodIn_of _ (by decide +kernel)) ggX7_row_X7_not
set_option maxRecDepth 20000 in
theorem ggX7_row_X7_row : GoodIn wsX7_row wsX7_row := goodIn_r _ [0, 1, 2, 3, 4, 5, 6, 7, 8, 9, 10, 11, 12, 13, 14, 15, 16, 17, 18, 19, 20, 21, 22, 23, 24, 25, 26, 27, 28, 29, 30, 31, 32, 33, 34, 35, 36, 37, 38, 39, 40, 41, 42, 43, 44, 45, 46, 47, 48, 49, 50, 51, 52, 53, 54, 55, 56, 57, 58, 59, 60, 61, 62, 63, 64, 65] (by decide +kernel) (by decide +kernel)
set_option maxRecDepth 20000 in
theorem gX7_row_X7_row : GoodIn wsX7_row (wsV RX7 94 RX7 yX7_row wsX7_row) := goodIn_app (goodIn_of _ (by decide +kernel)) ggX7_row_X7_row
set_option maxRecDepth 20000 in
theorem ggX7_row_X7_is : GoodIn wsX7_row wsX7_is := goodIn_r _ [13, 2, 14, 15, 16, 17, 18, 6, 19, 38, 39, 40, 41, 42, 43, 44, 45, 46, 47, 48, 49, 50, 51, 52, 53, 54, 55, 56, 57, 58, 59, 60, 61, 62, 63, 64, 65] (by decide +kernel) (by decide +kernel)
set_option maxRecDepth 20000 in
theorem gX7_row_X7_is : GoodIn wsX7_row (wsV RX7 101 RX7 yX7_is wsX7_is) := goodIn_app (goodIn_of _ (by decide +kernel)) ggX7_row_X7_is
set_option maxRecDepth 20000 in
theorem ggX7_row_X7_node : GoodIn wsX7_row wsX7_node := goodIn_r _ [23, 24, 25, 26, 27, 28, 38, 39, 40, 41, 42, 43, 44, 45, 46, 47, 48, 49, 50, 51, 52, 53, 54, 55, 56, 57, 58, 59, 60, 61, 62, 63, 64, 65] (by decide +kernel) (by decide +kernel)
set_option maxRecDepth 20000 in
theorem gX7_row_X7_node : GoodIn wsX7_row (wsV RX7 105 RX7 yX7_node wsX7_node) := goodIn_app (goodIn_of _ (by decide +kernel)) ggX7_row_X7_node
theorem dX7_row_0 : decode cX7_row 0 = .ok (.iload_n 1, 1) := by decide +kernel
theorem dX7_row_1 : decode cX7_row 1 = .ok (.iconst 1, 1) := by decide +kernel
theorem dX7_row_2 : decode cX7_row 2 = .ok (.if_icmp .ne 8, 3) := by decide +kernel
theorem dX7_row_5 : decode cX7_row 5 = .ok (.bipush 124, 2) := by decide +kernel
theorem dX7_row_7 : decode cX7_row 7 = .ok (.goto 15, 3) := by decide +kernel
theorem dX7_row_10 : decode cX7_row 10 = .ok (.iload_n 1, 1) := by decide +kernel
theorem dX7_row_11 : decode cX7_row 11 = .ok (.iconst 2, 1) := by decide +kernel
theorem dX7_row_12 : decode cX7_row 12 = .ok (.if_icmp .ne 8, 3) := by decide +kernel
theorem dX7_row_15 : decode cX7_row 15 = .ok (.bipush 94, 2) := by decide +kernel
theorem dX7_row_17 : decode cX7_row 17 = .ok (.goto 5, 3) := by decide +kernel
theorem dX7_row_20 : decode cX7_row 20 = .ok (.bipush 38, 2) := by decide +kernel
theorem dX7_row_22 : decode cX7_row 22 = .ok (.istore_n 2, 1) := by decide +kernel
theorem dX7_row_23 : decode cX7_row 23 = .ok (.iload_n 1, 1) := by decide +kernel
theorem dX7_row_24 : decode cX7_row 24 = .ok (.iconst 3, 1) := by decide +kernel
theorem dX7_row_25 : decode cX7_row 25 = .ok (.if_icmp .ne 11, 3) := by decide +kernel
theorem dX7_row_28 : decode cX7_row 28 = .ok (.aload_n 0, 1) := by decide +kernel
theorem dX7_row_29 : decode cX7_row 29 = .ok (.iconst 0, 1) := by decide +kernel
theorem dX7_row_30 : decode cX7_row 30 = .ok (.invokevirtual 90, 3) := by decide +kernel
theorem dX7_row_33 : decode cX7_row 33 = .ok (.goto 10, 3) := by decide +kernel
theorem dX7_row_36 : decode cX7_row 36 = .ok (.aload_n 0, 1) := by decide +kernel
theorem dX7_row_37 : decode cX7_row 37 = .ok (.iload_n 1, 1) := by decide +kernel
theorem dX7_row_38 : decode cX7_row 38 = .ok (.iconst 1, 1) := by decide +kernel
theorem dX7_row_39 : decode cX7_row 39 = .ok (.iadd, 1) := by decide +kernel
theorem dX7_row_40 : decode cX7_row 40 = .ok (.invokevirtual 94, 3) := by decide +kernel
theorem dX7_row_43 : decode cX7_row 43 = .ok (.istore_n 3, 1) := by decide +kernel
theorem dX7_row_44 : decode cX7_row 44 = .ok (.aload_n 0, 1) := by decide +kernel
theorem dX7_row_45 : decode cX7_row 45 = .ok (.getfield 97, 3) := by decide +kernel
theorem dX7_row_48 : decode cX7_row 48 = .ok (.ifCond .ne 63, 3) := by decide +kernel
theorem dX7_row_51 : decode cX7_row 51 = .ok (.aload_n 0, 1) := by decide +kernel
theorem dX7_row_52 : decode cX7_row 52 = .ok (.iload_n 2, 1) := by decide +kernel
theorem dX7_row_53 : decode cX7_row 53 = .ok (.invokevirtual 101, 3) := by decide +kernel
theorem dX7_row_56 : decode cX7_row 56 = .ok (.ifCond .eq 55, 3) := by decide +kernel
theorem dX7_row_59 : decode cX7_row 59 = .ok (.aload_n 0, 1) := by decide +kernel
theorem dX7_row_60 : decode cX7_row 60 = .ok (.dup, 1) := by decide +kernel
theorem dX7_row_61 : decode cX7_row 61 = .ok (.getfield 81, 3) := by decide +kernel
theorem dX7_row_64 : decode cX7_row 64 = .ok (.iconst 1, 1) := by decide +kernel
theorem dX7_row_65 : decode cX7_row 65 = .ok (.iadd, 1) := by decide +kernel
theorem dX7_row_66 : decode cX7_row 66 = .ok (.putfield 81, 3) := by decide +kernel
theorem dX7_row_69 : decode cX7_row 69 = .ok (.iload_n 1, 1) := by decide +kernel
theorem dX7_row_70 : decode cX7_row 70 = .ok (.iconst 3, 1) := by decide +kernel
theorem dX7_row_71 : decode cX7_row 71 = .ok (.if_icmp .ne 11, 3) := by decide +kernel
theorem dX7_row_74 : decode cX7_row 74 = .ok (.aload_n 0, 1) := by decide +kernel
theorem dX7_row_75 : decode cX7_row 75 = .ok (.iconst 0, 1) := by decide +kernel
theorem dX7_row_76 : decode cX7_row 76 = .ok (.invokevirtual 90, 3) := by decide +kernel
theorem dX7_row_79 : decode cX7_row 79 = .ok (.goto 10, 3) := by decide +kernel
theorem dX7_row_82 : decode cX7_row 82 = .ok (.aload_n 0, 1) := by decide +kernel
theorem dX7_row_83 : decode cX7_row 83 = .ok (.iload_n 1, 1) := by decide +kernel
theorem dX7_row_84 : decode cX7_row 84 = .ok (.iconst 1, 1) := by decide +kernel
theorem dX7_row_85 : decode cX7_row 85 = .ok (.iadd, 1) := by decide +kernel
theorem dX7_row_86 : decode cX7_row 86 = .ok (.invokevirtual 94, 3) := by decide +kernel
theorem dX7_row_89 : decode cX7_row 89 = .ok (.istore 4, 2) := by decide +kernel
theorem dX7_row_91 : decode cX7_row 91 = .ok (.aload_n 0, 1) := by decide +kernel
theorem dX7_row_92 : decode cX7_row 92 = .ok (.getfield 97, 3) := by decide +kernel
theorem dX7_row_95 : decode cX7_row 95 = .ok (.ifCond .ne 13, 3) := by decide +kernel
theorem dX7_row_98 : decode cX7_row 98 = .ok (.aload_n 0, 1) := by decide +kernel
theorem dX7_row_99 : decode cX7_row 99 = .ok (.iload_n 1, 1) := by decide +kernel
theorem dX7_row_100 : decode cX7_row 100 = .ok (.iload_n 2, 1) := by decide +kernel
theorem dX7_row_101 : decode cX7_row 101 = .ok (.iload_n 3, 1) := by decide +kernel
theorem dX7_row_102 : decode cX7_row 102 = .ok (.iload 4, 2) := by decide +kernel
theorem dX7_row_104 : decode cX7_row 104 = .ok (.invokevirtual 105, 3) := by decide +kernel
theorem dX7_row_107 : decode cX7_row 107 = .ok (.istore_n 3, 1) := by decide +kernel
theorem dX7_row_108 : decode cX7_row 108 = .ok (.goto (-64), 3) := by decide +kernel
theorem dX7_row_111 : decode cX7_row 111 = .ok (.iload_n 3, 1) := by decide +kernel
theorem dX7_row_112 : decode cX7_row 112 = .ok (.ireturn, 1) := by decide +kernel
theorem dX7_wrong_0 : decode cX7_wrong 0 = .ok (.aload_n 0, 1) := by decide +kernel
theorem dX7_wrong_1 : decode cX7_wrong 1 = .ok (.iconst 1, 1) := by decide +kernel
theorem dX7_wrong_2 : decode cX7_wrong 2 = .ok (.putfield 97, 3) := by decide +kernel
theorem dX7_wrong_5 : decode cX7_wrong 5 = .ok (.iconst 0, 1) := by decide +kernel
theorem dX7_wrong_6 : decode cX7_wrong 6 = .ok (.ireturn, 1) := by decide +kernel
set_option maxRecDepth 20000 in
theorem ggX7_not_X7_blanks : GoodIn wsX7_not wsX7_blanks := goodIn_r _ [10, 1, 2, 3, 38, 39, 40, 41, 42, 43, 44, 45, 46, 47, 48, 49, 50, 51, 52, 53, 54, 55, 56, 57, 58, 59, 60, 61, 62, 63, 64, 65] (by decide +kernel) (by decide +kernel)
set_option maxRecDepth 20000 in
theorem gX7_not_X7_blanks : GoodIn wsX7_not (wsV RX7 87 RX7 yX7_blanks wsX7_blanks) := goodIn_app (goodIn_of _ (by decide +kernel)) ggX7_not_X7_blanks
set_option maxRecDepth 20000 in
theorem ggX7_not_X7_wrong : GoodIn wsX7_not wsX7_wrong := goodIn_r _ [14, 4, 38, 39, 40, 41, 42, 43, 44, 45, 46, 47, 48, 49, 50, 51, 52, 53, 54, 55, 56, 57, 58, 59, 60, 61, 62, 63, 64, 65] (by decide +kernel) (by decide +kernel)
set_option maxRecDepth 20000 in
theorem gX7_not_X7_wrong : GoodIn wsX7_not (wsV RX7 109 RX7 yX7_wrong wsX7_wrong) := goodIn_app (goodIn_of _ (by decide +kernel)) ggX7_not_X7_wrong
set_option maxRecDepth 20000 in
theorem ggX7_not_X7_not : GoodIn wsX7_not wsX7_not := goodIn_r _ [0, 1, 2, 3, 4, 5, 6, 7, 8, 9, 10, 11, 12, 13, 14, 15, 16, 17, 18, 19, 20, 21, 22, 23, 24, 25, 26, 27, 28, 29, 30, 31, 32, 33, 34, 35, 36, 37, 38, 39, 40, 41, 42, 43, 44, 45, 46, 47, 48, 49, 50, 51, 52, 53, 54, 55, 56, 57, 58, 59, 60, 61, 62, 63, 64, 65] (by decide +kernel) (by decide +kernel)
set_option maxRecDepth 20000 in
theorem gX7_not_X7_not : GoodIn wsX7_not (wsV RX7 90 RX7 yX7_not wsX7_not) := goodIn_app (goodIn_of _ (by decide +kernel)) ggX7_not_X7_not
set_option maxRecDepth 20000 in
theorem ggX7_not_X7_node : GoodIn wsX7_not wsX7_node := goodIn_r _ [21, 22, 23, 24, 25, 26, 38, 39, 40, 41, 42, 43, 44, 45, 46, 47, 48, 49, 50, 51, 52, 53, 54, 55, 56, 57, 58, 59, 60, 61, 62, 63, 64, 65] (by decide +kernel) (by decide +kernel)
set_option maxRecDepth 20000 in
theorem gX7_not_X7_node : GoodIn wsX7_not (wsV RX7 105 RX7 yX7_node wsX7_node) := goodIn_app (goodIn_of _ (by decide +kernel)) ggX7_not_X7_node
set_option maxRecDepth 20000 in
theorem ggX7_not_X7_row : GoodIn wsX7_not wsX7_row := goodIn_r _ [37, 4, 1, 15, 16, 17, 9, 27, 28, 29, 30, 31, 32, 33, 2, 3, 6, 7, 8, 10, 18, 19, 20, 21, 22, 23, 24, 25, 26, 0, 5, 11, 12, 13, 14, 34, 35, 36, 38, 39, 40, 41, 42, 43, 44, 45, 46, 47, 48, 49, 50, 51, 52, 53, 54, 55, 56, 57, 58, 59, 60, 61, 62, 63, 64, 65] (by decide +kernel) (by decide +kernel)
set_option maxRecDepth 20000 in
theorem gX7_not_X7_row : GoodIn wsX7_not (wsV RX7 94 RX7 yX7_row wsX7_row) := goodIn_app (goodIn_of _ (by decide +kernel)) ggX7_not_X7_row
set_option maxRecDepth 20000 in
theorem ggX7_not_X7_is : GoodIn wsX7_not wsX7_is := goodIn_r _ [33, 1, 2, 3, 6, 7, 8, 9, 10, 38, 39, 40, 41, 42, 43, 44, 45, 46, 47, 48, 49, 50, 51, 52, 53, 54, 55, 56, 57, 58, 59, 60, 61, 62, 63, 64, 65] (by decide +kernel) (by decide +kernel)
set_option maxRecDepth 20000 in
theorem gX7_not_X7_is : GoodIn wsX7_not (wsV RX7 101 RX7 yX7_is wsX7_is) := goodIn_app (goodIn_of _ (by decide +kernel)) ggX7_not_X7_is
set_option maxRecDepth 20000 in
theorem ggX7_not_X7_isIn : GoodIn wsX7_not wsX7_isIn := goodIn_r _ [36] (by decide +kernel) (by decide +kernel)
set_option maxRecDepth 20000 in
theorem gX7_not_X7_isIn : GoodIn wsX7_not (va_wsS RX7 67 yX7_isIn wsX7_isIn) := goodIn_app (goodIn_of _ (by decide +kernel)) ggX7_not_X7_isIn
theorem dX7_not_0 : decode cX7_not 0 = .ok (.aload_n 0, 1) := by decide +kernel
theorem dX7_not_1 : decode cX7_not 1 = .ok (.invokevirtual 87, 3) := by decide +kernel
theorem dX7_not_4 : decode cX7_not 4 = .ok (.aload_n 0, 1) := by decide +kernel
theorem dX7_not_5 : decode cX7_not 5 = .ok (.getfield 81, 3) := by decide +kernel
theorem dX7_not_8 : decode cX7_not 8 = .ok (.aload_n 0, 1) := by decide +kernel
theorem dX7_not_9 : decode cX7_not 9 = .ok (.getfield 84, 3) := by decide +kernel
theorem dX7_not_12 : decode cX7_not 12 = .ok (.if_icmp .ne 8, 3) := by decide +kernel
theorem dX7_not_15 : decode cX7_not 15 = .ok (.aload_n 0, 1) := by decide +kernel
theorem dX7_not_16 : decode cX7_not 16 = .ok (.invokevirtual 109, 3) := by decide +kernel
theorem dX7_not_19 : decode cX7_not 19 = .ok (.ireturn, 1) := by decide +kernel
theorem dX7_not_20 : decode cX7_not 20 = .ok (.aload_n 0, 1) := by decide +kernel
theorem dX7_not_21 : decode cX7_not 21 = .ok (.getfield 7, 3) := by decide +kernel
theorem dX7_not_24 : decode cX7_not 24 = .ok (.aload_n 0, 1) := by decide +kernel
theorem dX7_not_25 : decode cX7_not 25 = .ok (.getfield 81, 3) := by decide +kernel
theorem dX7_not_28 : decode cX7_not 28 = .ok (.baload, 1) := by decide +kernel
theorem dX7_not_29 : decode cX7_not 29 = .ok (.istore_n 2, 1) := by decide +kernel
theorem dX7_not_30 : decode cX7_not 30 = .ok (.iload_n 2, 1) := by decide +kernel
theorem dX7_not_31 : decode cX7_not 31 = .ok (.bipush 33, 2) := by decide +kernel
theorem dX7_not_33 : decode cX7_not 33 = .ok (.if_icmp .ne 52, 3) := by decide +kernel
theorem dX7_not_36 : decode cX7_not 36 = .ok (.iload_n 1, 1) := by decide +kernel
theorem dX7_not_37 : decode cX7_not 37 = .ok (.bipush 8, 2) := by decide +kernel
theorem dX7_not_39 : decode cX7_not 39 = .ok (.if_icmp .ne 8, 3) := by decide +kernel
theorem dX7_not_42 : decode cX7_not 42 = .ok (.aload_n 0, 1) := by decide +kernel
theorem dX7_not_43 : decode cX7_not 43 = .ok (.invokevirtual 109, 3) := by decide +kernel
theorem dX7_not_46 : decode cX7_not 46 = .ok (.ireturn, 1) := by decide +kernel
theorem dX7_not_47 : decode cX7_not 47 = .ok (.aload_n 0, 1) := by decide +kernel
theorem dX7_not_48 : decode cX7_not 48 = .ok (.dup, 1) := by decide +kernel
theorem dX7_not_49 : decode cX7_not 49 = .ok (.getfield 81, 3) := by decide +kernel
theorem dX7_not_52 : decode cX7_not 52 = .ok (.iconst 1, 1) := by decide +kernel
theorem dX7_not_53 : decode cX7_not 53 = .ok (.iadd, 1) := by decide +kernel
theorem dX7_not_54 : decode cX7_not 54 = .ok (.putfield 81, 3) := by decide +kernel
theorem dX7_not_57 : decode cX7_not 57 = .ok (.aload_n 0, 1) := by decide +kernel
theorem dX7_not_58 : decode cX7_not 58 = .ok (.iload_n 1, 1) := by decide +kernel
theorem dX7_not_59 : decode cX7_not 59 = .ok (.iconst 1, 1) := by decide +kernel
theorem dX7_not_60 : decode cX7_not 60 = .ok (.iadd, 1) := by decide +kernel
theorem dX7_not_61 : decode cX7_not 61 = .ok (.invokevirtual 90, 3) := by decide +kernel
theorem dX7_not_64 : decode cX7_not 64 = .ok (.istore_n 3, 1) := by decide +kernel
theorem dX7_not_65 : decode cX7_not 65 = .ok (.aload_n 0, 1) := by decide +kernel
theorem dX7_not_66 : decode cX7_not 66 = .ok (.getfield 97, 3) := by decide +kernel
theorem dX7_not_69 : decode cX7_not 69 = .ok (.ifCond .eq 7, 3) := by decide +kernel
theorem dX7_not_72 : decode cX7_not 72 = .ok (.iload_n 3, 1) := by decide +kernel
theorem dX7_not_73 : decode cX7_not 73 = .ok (.goto 11, 3) := by decide +kernel
theorem dX7_not_76 : decode cX7_not 76 = .ok (.aload_n 0, 1) := by decide +kernel
theorem dX7_not_77 : decode cX7_not 77 = .ok (.iconst 4, 1) := by decide +kernel
theorem dX7_not_78 : decode cX7_not 78 = .ok (.iload_n 2, 1) := by decide +kernel
theorem dX7_not_79 : decode cX7_not 79 = .ok (.iload_n 3, 1) := by decide +kernel
theorem dX7_not_80 : decode cX7_not 80 = .ok (.iload_n 3, 1) := by decide +kernel
theorem dX7_not_81 : decode cX7_not 81 = .ok (.invokevirtual 105, 3) := by decide +kernel
theorem dX7_not_84 : decode cX7_not 84 = .ok (.ireturn, 1) := by decide +kernel
theorem dX7_not_85 : decode cX7_not 85 = .ok (.iload_n 2, 1) := by decide +kernel
theorem dX7_not_86 : decode cX7_not 86 = .ok (.bipush 40, 2) := by decide +kernel
theorem dX7_not_88 : decode cX7_not 88 = .ok (.if_icmp .ne 86, 3) := by decide +kernel
theorem dX7_not_91 : decode cX7_not 91 = .ok (.aload_n 0, 1) := by decide +kernel
theorem dX7_not_92 : decode cX7_not 92 = .ok (.getfield 113, 3) := by decide +kernel
theorem dX7_not_95 : decode cX7_not 95 = .ok (.bipush 8, 2) := by decide +kernel
theorem dX7_not_97 : decode cX7_not 97 = .ok (.if_icmp .ne 8, 3) := by decide +kernel
theorem dX7_not_100 : decode cX7_not 100 = .ok (.aload_n 0, 1) := by decide +kernel
theorem dX7_not_101 : decode cX7_not 101 = .ok (.invokevirtual 109, 3) := by decide +kernel
theorem dX7_not_104 : decode cX7_not 104 = .ok (.ireturn, 1) := by decide +kernel
theorem dX7_not_105 : decode cX7_not 105 = .ok (.aload_n 0, 1) := by decide +kernel
theorem dX7_not_106 : decode cX7_not 106 = .ok (.dup, 1) := by decide +kernel
theorem dX7_not_107 : decode cX7_not 107 = .ok (.getfield 81, 3) := by decide +kernel
theorem dX7_not_110 : decode cX7_not 110 = .ok (.iconst 1, 1) := by decide +kernel
theorem dX7_not_111 : decode cX7_not 111 = .ok (.iadd, 1) := by decide +kernel
theorem dX7_not_112 : decode cX7_not 112 = .ok (.putfield 81, 3) := by decide +kernel
theorem dX7_not_115 : decode cX7_not 115 = .ok (.aload_n 0, 1) := by decide +kernel
theorem dX7_not_116 : decode cX7_not 116 = .ok (.dup, 1) := by decide +kernel
theorem dX7_not_117 : decode cX7_not 117 = .ok (.getfield 113, 3) := by decide +kernel
theorem dX7_not_120 : decode cX7_not 120 = .ok (.iconst 1, 1) := by decide +kernel
theorem dX7_not_121 : decode cX7_not 121 = .ok (.iadd, 1) := by decide +kernel
theorem dX7_not_122 : decode cX7_not 122 = .ok (.putfield 113, 3) := by decide +kernel
theorem dX7_not_125 : decode cX7_not 125 = .ok (.aload_n 0, 1) := by decide +kernel
theorem dX7_not_126 : decode cX7_not 126 = .ok (.iconst 1, 1) := by decide +kernel
theorem dX7_not_127 : decode cX7_not 127 = .ok (.invokevirtual 94, 3) := by decide +kernel
theorem dX7_not_130 : decode cX7_not 130 = .ok (.istore_n 3, 1) := by decide +kernel
theorem dX7_not_131 : decode cX7_not 131 = .ok (.aload_n 0, 1) := by decide +kernel
theorem dX7_not_132 : decode cX7_not 132 = .ok (.getfield 97, 3) := by decide +kernel
theorem dX7_not_135 : decode cX7_not 135 = .ok (.ifCond .ne 12, 3) := by decide +kernel
theorem dX7_not_138 : decode cX7_not 138 = .ok (.aload_n 0, 1) := by decide +kernel
theorem dX7_not_139 : decode cX7_not 139 = .ok (.bipush 41, 2) := by decide +kernel
theorem dX7_not_141 : decode cX7_not 141 = .ok (.invokevirtual 101, 3) := by decide +kernel
theorem dX7_not_144 : decode cX7_not 144 = .ok (.ifCond .ne 8, 3) := by decide +kernel
theorem dX7_not_147 : decode cX7_not 147 = .ok (.aload_n 0, 1) := by decide +kernel
theorem dX7_not_148 : decode cX7_not 148 = .ok (.invokevirtual 109, 3) := by decide +kernel
theorem dX7_not_151 : decode cX7_not 151 = .ok (.ireturn, 1) := by decide +kernel
theorem dX7_not_152 : decode cX7_not 152 = .ok (.aload_n 0, 1) := by decide +kernel
theorem dX7_not_153 : decode cX7_not 153 = .ok (.dup, 1) := by decide +kernel
theorem dX7_not_154 : decode cX7_not 154 = .ok (.getfield 81, 3) := by decide +kernel
theorem dX7_not_157 : decode cX7_not 157 = .ok (.iconst 1, 1) := by decide +kernel
theorem dX7_not_158 : decode cX7_not 158 = .ok (.iadd, 1) := by decide +kernel
theorem dX7_not_159 : decode cX7_not 159 = .ok (.putfield 81, 3) := by decide +kernel
theorem dX7_not_162 : decode cX7_not 162 = .ok (.aload_n 0, 1) := by decide +kernel
theorem dX7_not_163 : decode cX7_not 163 = .ok (.dup, 1) := by decide +kernel
theorem dX7_not_164 : decode cX7_not 164 = .ok (.getfield 113, 3) := by decide +kernel
theorem dX7_not_167 : decode cX7_not 167 = .ok (.iconst 1, 1) := by decide +kernel
theorem dX7_not_168 : decode cX7_not 168 = .ok (.isub, 1) := by decide +kernel
theorem dX7_not_169 : decode cX7_not 169 = .ok (.putfield 113, 3) := by decide +kernel
theorem dX7_not_172 : decode cX7_not 172 = .ok (.iload_n 3, 1) := by decide +kernel
theorem dX7_not_173 : decode cX7_not 173 = .ok (.ireturn, 1) := by decide +kernel
theorem dX7_not_174 : decode cX7_not 174 = .ok (.iload_n 2, 1) := by decide +kernel
theorem dX7_not_175 : decode cX7_not 175 = .ok (.bipush 97, 2) := by decide +kernel
theorem dX7_not_177 : decode cX7_not 177 = .ok (.bipush 101, 2) := by decide +kernel
theorem dX7_not_179 : decode cX7_not 179 = .ok (.invokestatic 67, 3) := by decide +kernel
theorem dX7_not_182 : decode cX7_not 182 = .ok (.ifCond .ne 20, 3) := by decide +kernel
theorem dX7_not_185 : decode cX7_not 185 = .ok (.iload_n 2, 1) := by decide +kernel
theorem dX7_not_186 : decode cX7_not 186 = .ok (.bipush 48, 2) := by decide +kernel
theorem dX7_not_188 : decode cX7_not 188 = .ok (.if_icmp .eq 14, 3) := by decide +kernel
theorem dX7_not_191 : decode cX7_not 191 = .ok (.iload_n 2, 1) := by decide +kernel
theorem dX7_not_192 : decode cX7_not 192 = .ok (.bipush 49, 2) := by decide +kernel
theorem dX7_not_194 : decode cX7_not 194 = .ok (.if_icmp .eq 8, 3) := by decide +kernel
theorem dX7_not_197 : decode cX7_not 197 = .ok (.aload_n 0, 1) := by decide +kernel
theorem dX7_not_198 : decode cX7_not 198 = .ok (.invokevirtual 109, 3) := by decide +kernel
theorem dX7_not_201 : decode cX7_not 201 = .ok (.ireturn, 1) := by decide +kernel
theorem dX7_not_202 : decode cX7_not 202 = .ok (.aload_n 0, 1) := by decide +kernel
theorem dX7_not_203 : decode cX7_not 203 = .ok (.dup, 1) := by decide +kernel
theorem dX7_not_204 : decode cX7_not 204 = .ok (.getfield 81, 3) := by decide +kernel
theorem dX7_not_207 : decode cX7_not 207 = .ok (.iconst 1, 1) := by decide +kernel
theorem dX7_not_208 : decode cX7_not 208 = .ok (.iadd, 1) := by decide +kernel
theorem dX7_not_209 : decode cX7_not 209 = .ok (.putfield 81, 3) := by decide +kernel
theorem dX7_not_212 : decode cX7_not 212 = .ok (.aload_n 0, 1) := by decide +kernel
theorem dX7_not_213 : decode cX7_not 213 = .ok (.iconst 5, 1) := by decide +kernel
theorem dX7_not_214 : decode cX7_not 214 = .ok (.iload_n 2, 1) := by decide +kernel
theorem dX7_not_215 : decode cX7_not 215 = .ok (.iconst 0, 1) := by decide +kernel
theorem dX7_not_216 : decode cX7_not 216 = .ok (.iconst 0, 1) := by decide +kernel
theorem dX7_not_217 : decode cX7_not 217 = .ok (.invokevirtual 105, 3) := by decide +kernel
theorem dX7_not_220 : decode cX7_not 220 = .ok (.ireturn, 1) := by decide +kernel
set_option maxRecDepth 20000 in
theorem ggX7_bits_X7_letter : GoodIn wsX7_bits wsX7_letter := goodIn_r _ [8] (by decide +kernel) (by decide +kernel)
set_option maxRecDepth 20000 in
theorem gX7_bits_X7_letter : GoodIn wsX7_bits (va_wsS RX7 116 yX7_letter wsX7_letter) := goodIn_app (goodIn_of _ (by decide +kernel)) ggX7_bits_X7_letter
set_option maxRecDepth 20000 in
theorem ggX7_bits_X7_bits : GoodIn wsX7_bits wsX7_bits := goodIn_r _ [0, 1, 2, 3, 4, 5, 6, 7, 8, 9, 10, 11, 12, 13, 14, 15, 16, 17, 18, 19, 20, 21, 22, 23, 24, 25, 26, 27, 28, 29, 30, 31, 32, 33, 34, 35, 36, 37, 38, 39] (by decide +kernel) (by decide +kernel)
set_option maxRecDepth 20000 in
theorem gX7_bits_X7_bits : GoodIn wsX7_bits (wsV RX7 119 RX7 yX7_bits wsX7_bits) := goodIn_app (goodIn_of _ (by decide +kernel)) ggX7_bits_X7_bits
theorem dX7_bits_0 : decode cX7_bits 0 = .ok (.aload_n 0, 1) := by decide +kernel
theorem dX7_bits_1 : decode cX7_bits 1 = .ok (.getfield 52, 3) := by decide +kernel
theorem dX7_bits_4 : decode cX7_bits 4 = .ok (.iload_n 1, 1) := by decide +kernel
theorem dX7_bits_5 : decode cX7_bits 5 = .ok (.iaload, 1) := by decide +kernel
theorem dX7_bits_6 : decode cX7_bits 6 = .ok (.iconst 5, 1) := by decide +kernel
theorem dX7_bits_7 : decode cX7_bits 7 = .ok (.if_icmp .ne 13, 3) := by decide +kernel
theorem dX7_bits_10 : decode cX7_bits 10 = .ok (.aload_n 0, 1) := by decide +kernel
theorem dX7_bits_11 : decode cX7_bits 11 = .ok (.getfield 61, 3) := by decide +kernel
theorem dX7_bits_14 : decode cX7_bits 14 = .ok (.iload_n 1, 1) := by decide +kernel
theorem dX7_bits_15 : decode cX7_bits 15 = .ok (.iaload, 1) := by decide +kernel
theorem dX7_bits_16 : decode cX7_bits 16 = .ok (.invokestatic 116, 3) := by decide +kernel
theorem dX7_bits_19 : decode cX7_bits 19 = .ok (.ireturn, 1) := by decide +kernel
theorem dX7_bits_20 : decode cX7_bits 20 = .ok (.aload_n 0, 1) := by decide +kernel
theorem dX7_bits_21 : decode cX7_bits 21 = .ok (.aload_n 0, 1) := by decide +kernel
theorem dX7_bits_22 : decode cX7_bits 22 = .ok (.getfield 55, 3) := by decide +kernel
theorem dX7_bits_25 : decode cX7_bits 25 = .ok (.iload_n 1, 1) := by decide +kernel
theorem dX7_bits_26 : decode cX7_bits 26 = .ok (.iaload, 1) := by decide +kernel
theorem dX7_bits_27 : decode cX7_bits 27 = .ok (.invokevirtual 119, 3) := by decide +kernel
theorem dX7_bits_30 : decode cX7_bits 30 = .ok (.istore_n 2, 1) := by decide +kernel
theorem dX7_bits_31 : decode cX7_bits 31 = .ok (.aload_n 0, 1) := by decide +kernel
theorem dX7_bits_32 : decode cX7_bits 32 = .ok (.getfield 52, 3) := by decide +kernel
theorem dX7_bits_35 : decode cX7_bits 35 = .ok (.iload_n 1, 1) := by decide +kernel
theorem dX7_bits_36 : decode cX7_bits 36 = .ok (.iaload, 1) := by decide +kernel
theorem dX7_bits_37 : decode cX7_bits 37 = .ok (.iconst 4, 1) := by decide +kernel
theorem dX7_bits_38 : decode cX7_bits 38 = .ok (.if_icmp .ne 7, 3) := by decide +kernel
theorem dX7_bits_41 : decode cX7_bits 41 = .ok (.iload_n 2, 1) := by decide +kernel
theorem dX7_bits_42 : decode cX7_bits 42 = .ok (.iconst (-1), 1) := by decide +kernel
theorem dX7_bits_43 : decode cX7_bits 43 = .ok (.ixor, 1) := by decide +kernel
theorem dX7_bits_44 : decode cX7_bits 44 = .ok (.ireturn, 1) := by decide +kernel
theorem dX7_bits_45 : decode cX7_bits 45 = .ok (.aload_n 0, 1) := by decide +kernel
theorem dX7_bits_46 : decode cX7_bits 46 = .ok (.aload_n 0, 1) := by decide +kernel
theorem dX7_bits_47 : decode cX7_bits 47 = .ok (.getfield 58, 3) := by decide +kernel
theorem dX7_bits_50 : decode cX7_bits 50 = .ok (.iload_n 1, 1) := by decide +kernel
theorem dX7_bits_51 : decode cX7_bits 51 = .ok (.iaload, 1) := by decide +kernel
theorem dX7_bits_52 : decode cX7_bits 52 = .ok (.invokevirtual 119, 3) := by decide +kernel
theorem dX7_bits_55 : decode cX7_bits 55 = .ok (.istore_n 3, 1) := by decide +kernel
theorem dX7_bits_56 : decode cX7_bits 56 = .ok (.aload_n 0, 1) := by decide +kernel
theorem dX7_bits_57 : decode cX7_bits 57 = .ok (.getfield 52, 3) := by decide +kernel
theorem dX7_bits_60 : decode cX7_bits 60 = .ok (.iload_n 1, 1) := by decide +kernel
theorem dX7_bits_61 : decode cX7_bits 61 = .ok (.iaload, 1) := by decide +kernel
theorem dX7_bits_62 : decode cX7_bits 62 = .ok (.iconst 1, 1) := by decide +kernel
theorem dX7_bits_63 : decode cX7_bits 63 = .ok (.if_icmp .ne 9, 3) := by decide +kernel
theorem dX7_bits_66 : decode cX7_bits 66 = .ok (.iload_n 2, 1) := by decide +kernel
theorem dX7_bits_67 : decode cX7_bits 67 = .ok (.iload_n 3, 1) := by decide +kernel
theorem dX7_bits_68 : decode cX7_bits 68 = .ok (.ior, 1) := by decide +kernel
theorem dX7_bits_69 : decode cX7_bits 69 = .ok (.goto 22, 3) := by decide +kernel
theorem dX7_bits_72 : decode cX7_bits 72 = .ok (.aload_n 0, 1) := by decide +kernel
theorem dX7_bits_73 : decode cX7_bits 73 = .ok (.getfield 52, 3) := by decide +kernel
theorem dX7_bits_76 : decode cX7_bits 76 = .ok (.iload_n 1, 1) := by decide +kernel
theorem dX7_bits_77 : decode cX7_bits 77 = .ok (.iaload, 1) := by decide +kernel
theorem dX7_bits_78 : decode cX7_bits 78 = .ok (.iconst 2, 1) := by decide +kernel
theorem dX7_bits_79 : decode cX7_bits 79 = .ok (.if_icmp .ne 9, 3) := by decide +kernel
theorem dX7_bits_82 : decode cX7_bits 82 = .ok (.iload_n 2, 1) := by decide +kernel
theorem dX7_bits_83 : decode cX7_bits 83 = .ok (.iload_n 3, 1) := by decide +kernel
theorem dX7_bits_84 : decode cX7_bits 84 = .ok (.ixor, 1) := by decide +kernel
theorem dX7_bits_85 : decode cX7_bits 85 = .ok (.goto 6, 3) := by decide +kernel
theorem dX7_bits_88 : decode cX7_bits 88 = .ok (.iload_n 2, 1) := by decide +kernel
theorem dX7_bits_89 : decode cX7_bits 89 = .ok (.iload_n 3, 1) := by decide +kernel
theorem dX7_bits_90 : decode cX7_bits 90 = .ok (.iand, 1) := by decide +kernel
theorem dX7_bits_91 : decode cX7_bits 91 = .ok (.ireturn, 1) := by decide +kernel
theorem dX7_letter_0 : decode cX7_letter 0 = .ok (.iconst 0, 1) := by decide +kernel
theorem dX7_letter_1 : decode cX7_letter 1 = .ok (.istore_n 1, 1) := by decide +kernel
theorem dX7_letter_2 : decode cX7_letter 2 = .ok (.iconst 0, 1) := by decide +kernel
theorem dX7_letter_3 : decode cX7_letter 3 = .ok (.istore_n 2, 1) := by decide +kernel
theorem dX7_letter_4 : decode cX7_letter 4 = .ok (.iload_n 2, 1) := by decide +kernel
theorem dX7_letter_5 : decode cX7_letter 5 = .ok (.bipush 32, 2) := by decide +kernel
theorem dX7_letter_7 : decode cX7_letter 7 = .ok (.if_icmp .ge 39, 3) := by decide +kernel
theorem dX7_letter_10 : decode cX7_letter 10 = .ok (.iload_n 0, 1) := by decide +kernel
theorem dX7_letter_11 : decode cX7_letter 11 = .ok (.bipush 49, 2) := by decide +kernel
theorem dX7_letter_13 : decode cX7_letter 13 = .ok (.if_icmp .eq 21, 3) := by decide +kernel
theorem dX7_letter_16 : decode cX7_letter 16 = .ok (.iload_n 0, 1) := by decide +kernel
theorem dX7_letter_17 : decode cX7_letter 17 = .ok (.bipush 97, 2) := by decide +kernel
theorem dX7_letter_19 : decode cX7_letter 19 = .ok (.if_icmp .lt 21, 3) := by decide +kernel
theorem dX7_letter_22 : decode cX7_letter 22 = .ok (.iload_n 2, 1) := by decide +kernel
theorem dX7_letter_23 : decode cX7_letter 23 = .ok (.iload_n 0, 1) := by decide +kernel
theorem dX7_letter_24 : decode cX7_letter 24 = .ok (.bipush 97, 2) := by decide +kernel
theorem dX7_letter_26 : decode cX7_letter 26 = .ok (.isub, 1) := by decide +kernel
theorem dX7_letter_27 : decode cX7_letter 27 = .ok (.ishr, 1) := by decide +kernel
theorem dX7_letter_28 : decode cX7_letter 28 = .ok (.iconst 1, 1) := by decide +kernel
theorem dX7_letter_29 : decode cX7_letter 29 = .ok (.iand, 1) := by decide +kernel
theorem dX7_letter_30 : decode cX7_letter 30 = .ok (.iconst 1, 1) := by decide +kernel
theorem dX7_letter_31 : decode cX7_letter 31 = .ok (.if_icmp .ne 9, 3) := by decide +kernel
theorem dX7_letter_34 : decode cX7_letter 34 = .ok (.iload_n 1, 1) := by decide +kernel
theorem dX7_letter_35 : decode cX7_letter 35 = .ok (.iconst 1, 1) := by decide +kernel
theorem dX7_letter_36 : decode cX7_letter 36 = .ok (.iload_n 2, 1) := by decide +kernel
theorem dX7_letter_37 : decode cX7_letter 37 = .ok (.ishl, 1) := by decide +kernel
theorem dX7_letter_38 : decode cX7_letter 38 = .ok (.ior, 1) := by decide +kernel
theorem dX7_letter_39 : decode cX7_letter 39 = .ok (.istore_n 1, 1) := by decide +kernel
theorem dX7_letter_40 : decode cX7_letter 40 = .ok (.iinc 2 1, 3) := by decide +kernel
theorem dX7_letter_43 : decode cX7_letter 43 = .ok (.goto (-39), 3) := by decide +kernel
theorem dX7_letter_46 : decode cX7_letter 46 = .ok (.iload_n 1, 1) := by decide +kernel
theorem dX7_letter_47 : decode cX7_letter 47 = .ok (.ireturn, 1) := by decide +kernel
theorem dX7_writes_0 : decode cX7_writes 0 = .ok (.aload_n 0, 1) := by decide +kernel
theorem dX7_writes_1 : decode cX7_writes 1 = .ok (.getfield 20, 3) := by decide +kernel
theorem dX7_writes_4 : decode cX7_writes 4 = .ok (.sipush 5280, 3) := by decide +kernel
theorem dX7_writes_7 : decode cX7_writes 7 = .ok (.aload_n 0, 1) := by decide +kernel
theorem dX7_writes_8 : decode cX7_writes 8 = .ok (.getfield 17, 3) := by decide +kernel
theorem dX7_writes_11 : decode cX7_writes 11 = .ok (.bipush 88, 2) := by decide +kernel
theorem dX7_writes_13 : decode cX7_writes 13 = .ok (.iaload, 1) := by decide +kernel
theorem dX7_writes_14 : decode cX7_writes 14 = .ok (.iadd, 1) := by decide +kernel
theorem dX7_writes_15 : decode cX7_writes 15 = .ok (.iload_n 1, 1) := by decide +kernel
theorem dX7_writes_16 : decode cX7_writes 16 = .ok (.i2b, 1) := by decide +kernel
theorem dX7_writes_17 : decode cX7_writes 17 = .ok (.bastore, 1) := by decide +kernel
theorem dX7_writes_18 : decode cX7_writes 18 = .ok (.aload_n 0, 1) := by decide +kernel
theorem dX7_writes_19 : decode cX7_writes 19 = .ok (.getfield 17, 3) := by decide +kernel
theorem dX7_writes_22 : decode cX7_writes 22 = .ok (.bipush 88, 2) := by decide +kernel
theorem dX7_writes_24 : decode cX7_writes 24 = .ok (.dup2, 1) := by decide +kernel
theorem dX7_writes_25 : decode cX7_writes 25 = .ok (.iaload, 1) := by decide +kernel
theorem dX7_writes_26 : decode cX7_writes 26 = .ok (.iconst 1, 1) := by decide +kernel
theorem dX7_writes_27 : decode cX7_writes 27 = .ok (.iadd, 1) := by decide +kernel
theorem dX7_writes_28 : decode cX7_writes 28 = .ok (.iastore, 1) := by decide +kernel
theorem dX7_writes_29 : decode cX7_writes 29 = .ok (.return_, 1) := by decide +kernel
set_option maxRecDepth 20000 in
theorem ggX7_write_X7_writes : GoodIn wsX7_write wsX7_writes := goodIn_r _ [9, 10, 11, 15, 16, 17, 18, 19, 20, 21, 22, 23, 24, 25, 26, 27, 28, 29, 30, 31, 32, 33, 34, 35, 36, 37, 38, 39, 40, 41, 42] (by decide +kernel) (by decide +kernel)
set_option maxRecDepth 20000 in
theorem gX7_write_X7_writes : GoodIn wsX7_write (wsV RX7 122 RX7 yX7_writes wsX7_writes) := goodIn_app (goodIn_of _ (by decide +kernel)) ggX7_write_X7_writes
set_option maxRecDepth 20000 in
theorem ggX7_write_X7_write : GoodIn wsX7_write wsX7_write := goodIn_r _ [0, 1, 2, 3, 4, 5, 6, 7, 8, 9, 10, 11, 12, 13, 14, 15, 16, 17, 18, 19, 20, 21, 22, 23, 24, 25, 26, 27, 28, 29, 30, 31, 32, 33, 34, 35, 36, 37, 38, 39, 40, 41, 42] (by decide +kernel) (by decide +kernel)
set_option maxRecDepth 20000 in
theorem gX7_write_X7_write : GoodIn wsX7_write (wsV RX7 125 RX7 yX7_write wsX7_write) := goodIn_app (goodIn_of _ (by decide +kernel)) ggX7_write_X7_write
theorem dX7_write_0 : decode cX7_write 0 = .ok (.aload_n 0, 1) := by decide +kernel
theorem dX7_write_1 : decode cX7_write 1 = .ok (.getfield 52, 3) := by decide +kernel
theorem dX7_write_4 : decode cX7_write 4 = .ok (.iload_n 1, 1) := by decide +kernel
theorem dX7_write_5 : decode cX7_write 5 = .ok (.iaload, 1) := by decide +kernel
theorem dX7_write_6 : decode cX7_write 6 = .ok (.iload_n 2, 1) := by decide +kernel
theorem dX7_write_7 : decode cX7_write 7 = .ok (.if_icmp .ge 7, 3) := by decide +kernel
theorem dX7_write_10 : decode cX7_write 10 = .ok (.iconst 1, 1) := by decide +kernel
theorem dX7_write_11 : decode cX7_write 11 = .ok (.goto 4, 3) := by decide +kernel
theorem dX7_write_14 : decode cX7_write 14 = .ok (.iconst 0, 1) := by decide +kernel
theorem dX7_write_15 : decode cX7_write 15 = .ok (.istore_n 3, 1) := by decide +kernel
theorem dX7_write_16 : decode cX7_write 16 = .ok (.iload_n 3, 1) := by decide +kernel
theorem dX7_write_17 : decode cX7_write 17 = .ok (.ifCond .eq 9, 3) := by decide +kernel
theorem dX7_write_20 : decode cX7_write 20 = .ok (.aload_n 0, 1) := by decide +kernel
theorem dX7_write_21 : decode cX7_write 21 = .ok (.bipush 40, 2) := by decide +kernel
theorem dX7_write_23 : decode cX7_write 23 = .ok (.invokevirtual 122, 3) := by decide +kernel
theorem dX7_write_26 : decode cX7_write 26 = .ok (.aload_n 0, 1) := by decide +kernel
theorem dX7_write_27 : decode cX7_write 27 = .ok (.getfield 52, 3) := by decide +kernel
theorem dX7_write_30 : decode cX7_write 30 = .ok (.iload_n 1, 1) := by decide +kernel
theorem dX7_write_31 : decode cX7_write 31 = .ok (.iaload, 1) := by decide +kernel
theorem dX7_write_32 : decode cX7_write 32 = .ok (.iconst 4, 1) := by decide +kernel
theorem dX7_write_33 : decode cX7_write 33 = .ok (.if_icmp .ne 23, 3) := by decide +kernel
theorem dX7_write_36 : decode cX7_write 36 = .ok (.aload_n 0, 1) := by decide +kernel
theorem dX7_write_37 : decode cX7_write 37 = .ok (.bipush 33, 2) := by decide +kernel
theorem dX7_write_39 : decode cX7_write 39 = .ok (.invokevirtual 122, 3) := by decide +kernel
theorem dX7_write_42 : decode cX7_write 42 = .ok (.aload_n 0, 1) := by decide +kernel
theorem dX7_write_43 : decode cX7_write 43 = .ok (.aload_n 0, 1) := by decide +kernel
theorem dX7_write_44 : decode cX7_write 44 = .ok (.getfield 55, 3) := by decide +kernel
theorem dX7_write_47 : decode cX7_write 47 = .ok (.iload_n 1, 1) := by decide +kernel
theorem dX7_write_48 : decode cX7_write 48 = .ok (.iaload, 1) := by decide +kernel
theorem dX7_write_49 : decode cX7_write 49 = .ok (.iconst 4, 1) := by decide +kernel
theorem dX7_write_50 : decode cX7_write 50 = .ok (.invokevirtual 125, 3) := by decide +kernel
theorem dX7_write_53 : decode cX7_write 53 = .ok (.goto 68, 3) := by decide +kernel
theorem dX7_write_56 : decode cX7_write 56 = .ok (.aload_n 0, 1) := by decide +kernel
theorem dX7_write_57 : decode cX7_write 57 = .ok (.getfield 52, 3) := by decide +kernel
theorem dX7_write_60 : decode cX7_write 60 = .ok (.iload_n 1, 1) := by decide +kernel
theorem dX7_write_61 : decode cX7_write 61 = .ok (.iaload, 1) := by decide +kernel
theorem dX7_write_62 : decode cX7_write 62 = .ok (.iconst 5, 1) := by decide +kernel
theorem dX7_write_63 : decode cX7_write 63 = .ok (.if_icmp .ne 16, 3) := by decide +kernel
theorem dX7_write_66 : decode cX7_write 66 = .ok (.aload_n 0, 1) := by decide +kernel
theorem dX7_write_67 : decode cX7_write 67 = .ok (.aload_n 0, 1) := by decide +kernel
theorem dX7_write_68 : decode cX7_write 68 = .ok (.getfield 61, 3) := by decide +kernel
theorem dX7_write_71 : decode cX7_write 71 = .ok (.iload_n 1, 1) := by decide +kernel
theorem dX7_write_72 : decode cX7_write 72 = .ok (.iaload, 1) := by decide +kernel
theorem dX7_write_73 : decode cX7_write 73 = .ok (.invokevirtual 122, 3) := by decide +kernel
theorem dX7_write_76 : decode cX7_write 76 = .ok (.goto 45, 3) := by decide +kernel
theorem dX7_write_79 : decode cX7_write 79 = .ok (.aload_n 0, 1) := by decide +kernel
theorem dX7_write_80 : decode cX7_write 80 = .ok (.aload_n 0, 1) := by decide +kernel
theorem dX7_write_81 : decode cX7_write 81 = .ok (.getfield 55, 3) := by decide +kernel
theorem dX7_write_84 : decode cX7_write 84 = .ok (.iload_n 1, 1) := by decide +kernel
theorem dX7_write_85 : decode cX7_write 85 = .ok (.iaload, 1) := by decide +kernel
theorem dX7_write_86 : decode cX7_write 86 = .ok (.aload_n 0, 1) := by decide +kernel
theorem dX7_write_87 : decode cX7_write 87 = .ok (.getfield 52, 3) := by decide +kernel
theorem dX7_write_90 : decode cX7_write 90 = .ok (.iload_n 1, 1) := by decide +kernel
theorem dX7_write_91 : decode cX7_write 91 = .ok (.iaload, 1) := by decide +kernel
theorem dX7_write_92 : decode cX7_write 92 = .ok (.invokevirtual 125, 3) := by decide +kernel
theorem dX7_write_95 : decode cX7_write 95 = .ok (.aload_n 0, 1) := by decide +kernel
theorem dX7_write_96 : decode cX7_write 96 = .ok (.aload_n 0, 1) := by decide +kernel
theorem dX7_write_97 : decode cX7_write 97 = .ok (.getfield 61, 3) := by decide +kernel
theorem dX7_write_100 : decode cX7_write 100 = .ok (.iload_n 1, 1) := by decide +kernel
theorem dX7_write_101 : decode cX7_write 101 = .ok (.iaload, 1) := by decide +kernel
theorem dX7_write_102 : decode cX7_write 102 = .ok (.invokevirtual 122, 3) := by decide +kernel
theorem dX7_write_105 : decode cX7_write 105 = .ok (.aload_n 0, 1) := by decide +kernel
theorem dX7_write_106 : decode cX7_write 106 = .ok (.aload_n 0, 1) := by decide +kernel
theorem dX7_write_107 : decode cX7_write 107 = .ok (.getfield 58, 3) := by decide +kernel
theorem dX7_write_110 : decode cX7_write 110 = .ok (.iload_n 1, 1) := by decide +kernel
theorem dX7_write_111 : decode cX7_write 111 = .ok (.iaload, 1) := by decide +kernel
theorem dX7_write_112 : decode cX7_write 112 = .ok (.aload_n 0, 1) := by decide +kernel
theorem dX7_write_113 : decode cX7_write 113 = .ok (.getfield 52, 3) := by decide +kernel
theorem dX7_write_116 : decode cX7_write 116 = .ok (.iload_n 1, 1) := by decide +kernel
theorem dX7_write_117 : decode cX7_write 117 = .ok (.iaload, 1) := by decide +kernel
theorem dX7_write_118 : decode cX7_write 118 = .ok (.invokevirtual 125, 3) := by decide +kernel
theorem dX7_write_121 : decode cX7_write 121 = .ok (.iload_n 3, 1) := by decide +kernel
theorem dX7_write_122 : decode cX7_write 122 = .ok (.ifCond .eq 9, 3) := by decide +kernel
theorem dX7_write_125 : decode cX7_write 125 = .ok (.aload_n 0, 1) := by decide +kernel
theorem dX7_write_126 : decode cX7_write 126 = .ok (.bipush 41, 2) := by decide +kernel
theorem dX7_write_128 : decode cX7_write 128 = .ok (.invokevirtual 122, 3) := by decide +kernel
theorem dX7_write_131 : decode cX7_write 131 = .ok (.return_, 1) := by decide +kernel
set_option maxRecDepth 20000 in
theorem ggX7_reads_X7_row : GoodIn wsX7_reads wsX7_row := goodIn_r _ [14, 5, 2, 15, 16, 17, 13, 10, 11, 12, 18, 19, 20, 21, 3, 22, 23, 24, 25, 26, 27, 28, 29, 30, 31, 1, 32, 33, 34, 35, 4, 36, 37, 38, 39, 40, 41, 42, 59, 60, 61, 62, 63, 64, 65, 66, 67, 68, 69, 70, 71, 72, 73, 74, 75, 76, 77, 78, 79, 80, 81, 82, 83, 84, 85, 86] (by decide +kernel) (by decide +kernel)
set_option maxRecDepth 20000 in
theorem gX7_reads_X7_row : GoodIn wsX7_reads (wsV RX7 94 RX7 yX7_row wsX7_row) := goodIn_app (goodIn_of _ (by decide +kernel)) ggX7_reads_X7_row
set_option maxRecDepth 20000 in
theorem ggX7_reads_X7_blanks : GoodIn wsX7_reads wsX7_blanks := goodIn_r _ [26, 2, 3, 22, 59, 60, 61, 62, 63, 64, 65, 66, 67, 68, 69, 70, 71, 72, 73, 74, 75, 76, 77, 78, 79, 80, 81, 82, 83, 84, 85, 86] (by decide +kernel) (by decide +kernel)
set_option maxRecDepth 20000 in
theorem gX7_reads_X7_blanks : GoodIn wsX7_reads (wsV RX7 87 RX7 yX7_blanks wsX7_blanks) := goodIn_app (goodIn_of _ (by decide +kernel)) ggX7_reads_X7_blanks
set_option maxRecDepth 20000 in
theorem ggX7_reads_X7_bits : GoodIn wsX7_reads wsX7_bits := goodIn_r _ [46, 31, 32, 33, 34, 47, 48, 13, 49, 43, 44, 45, 59, 60, 61, 62, 63, 64, 65, 66, 67, 68, 69, 70, 71, 72, 73, 74, 75, 76, 77, 78, 79, 80, 81, 82, 83, 84, 85, 86] (by decide +kernel) (by decide +kernel)
set_option maxRecDepth 20000 in
theorem gX7_reads_X7_bits : GoodIn wsX7_reads (wsV RX7 119 RX7 yX7_bits wsX7_bits) := goodIn_app (goodIn_of _ (by decide +kernel)) ggX7_reads_X7_bits
set_option maxRecDepth 20000 in
theorem ggX7_reads_X7_write : GoodIn wsX7_reads wsX7_write := goodIn_r _ [53, 31, 33, 32, 34, 54, 55, 56, 13, 57, 58, 9, 50, 51, 52, 59, 60, 61, 62, 63, 64, 65, 66, 67, 68, 69, 70, 71, 72, 73, 74, 75, 76, 77, 78, 79, 80, 81, 82, 83, 84, 85, 86] (by decide +kernel) (by decide +kernel)
set_option maxRecDepth 20000 in
theorem gX7_reads_X7_write : GoodIn wsX7_reads (wsV RX7 125 RX7 yX7_write wsX7_write) := goodIn_app (goodIn_of _ (by decide +kernel)) ggX7_reads_X7_write
theorem dX7_reads_0 : decode cX7_reads 0 = .ok (.aload_n 0, 1) := by decide +kernel
theorem dX7_reads_1 : decode cX7_reads 1 = .ok (.iconst 0, 1) := by decide +kernel
theorem dX7_reads_2 : decode cX7_reads 2 = .ok (.putfield 78, 3) := by decide +kernel
theorem dX7_reads_5 : decode cX7_reads 5 = .ok (.aload_n 0, 1) := by decide +kernel
theorem dX7_reads_6 : decode cX7_reads 6 = .ok (.iconst 0, 1) := by decide +kernel
theorem dX7_reads_7 : decode cX7_reads 7 = .ok (.putfield 81, 3) := by decide +kernel
theorem dX7_reads_10 : decode cX7_reads 10 = .ok (.aload_n 0, 1) := by decide +kernel
theorem dX7_reads_11 : decode cX7_reads 11 = .ok (.iload_n 1, 1) := by decide +kernel
theorem dX7_reads_12 : decode cX7_reads 12 = .ok (.putfield 84, 3) := by decide +kernel
theorem dX7_reads_15 : decode cX7_reads 15 = .ok (.aload_n 0, 1) := by decide +kernel
theorem dX7_reads_16 : decode cX7_reads 16 = .ok (.iconst 0, 1) := by decide +kernel
theorem dX7_reads_17 : decode cX7_reads 17 = .ok (.putfield 113, 3) := by decide +kernel
theorem dX7_reads_20 : decode cX7_reads 20 = .ok (.aload_n 0, 1) := by decide +kernel
theorem dX7_reads_21 : decode cX7_reads 21 = .ok (.iconst 0, 1) := by decide +kernel
theorem dX7_reads_22 : decode cX7_reads 22 = .ok (.putfield 97, 3) := by decide +kernel
theorem dX7_reads_25 : decode cX7_reads 25 = .ok (.aload_n 0, 1) := by decide +kernel
theorem dX7_reads_26 : decode cX7_reads 26 = .ok (.iconst 1, 1) := by decide +kernel
theorem dX7_reads_27 : decode cX7_reads 27 = .ok (.invokevirtual 94, 3) := by decide +kernel
