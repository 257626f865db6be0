theorem dX4_init_23 : decode cX4_init 23 = .ok (.newarray .int, 2) := by decide +kernel
theorem dX4_init_25 : decode cX4_init 25 = .ok (.putfield 18, 3) := by decide +kernel
theorem dX4_init_28 : decode cX4_init 28 = .ok (.aload_n 0, 1) := by decide +kernel
theorem dX4_init_29 : decode cX4_init 29 = .ok (.iconst 0, 1) := by decide +kernel
theorem dX4_init_30 : decode cX4_init 30 = .ok (.putfield 21, 3) := by decide +kernel
theorem dX4_init_33 : decode cX4_init 33 = .ok (.aload_n 0, 1) := by decide +kernel
theorem dX4_init_34 : decode cX4_init 34 = .ok (.iconst 0, 1) := by decide +kernel
theorem dX4_init_35 : decode cX4_init 35 = .ok (.putfield 25, 3) := by decide +kernel
theorem dX4_init_38 : decode cX4_init 38 = .ok (.aload_n 0, 1) := by decide +kernel
theorem dX4_init_39 : decode cX4_init 39 = .ok (.iconst 0, 1) := by decide +kernel
theorem dX4_init_40 : decode cX4_init 40 = .ok (.putfield 28, 3) := by decide +kernel
theorem dX4_init_43 : decode cX4_init 43 = .ok (.aload_n 0, 1) := by decide +kernel
theorem dX4_init_44 : decode cX4_init 44 = .ok (.iconst 0, 1) := by decide +kernel
theorem dX4_init_45 : decode cX4_init 45 = .ok (.putfield 31, 3) := by decide +kernel
theorem dX4_init_48 : decode cX4_init 48 = .ok (.aload_n 0, 1) := by decide +kernel
theorem dX4_init_49 : decode cX4_init 49 = .ok (.iconst 0, 1) := by decide +kernel
theorem dX4_init_50 : decode cX4_init 50 = .ok (.putfield 34, 3) := by decide +kernel
theorem dX4_init_53 : decode cX4_init 53 = .ok (.aload_n 0, 1) := by decide +kernel
theorem dX4_init_54 : decode cX4_init 54 = .ok (.iconst 0, 1) := by decide +kernel
theorem dX4_init_55 : decode cX4_init 55 = .ok (.putfield 37, 3) := by decide +kernel
theorem dX4_init_58 : decode cX4_init 58 = .ok (.return_, 1) := by decide +kernel
set_option maxRecDepth 20000 in
theorem ggX4_clear_J7_fill_53178 : GoodIn wsX4_clear wsJ7_fill_53178 := goodIn_r _ [12] (by decide +kernel) (by decide +kernel)
set_option maxRecDepth 20000 in
theorem gX4_clear_J7_fill_53178 : GoodIn wsX4_clear (va_wsS RX4 40 yJ7_fill_53178 wsJ7_fill_53178) := goodIn_app (goodIn_of _ (by decide +kernel)) ggX4_clear_J7_fill_53178
theorem dX4_clear_0 : decode cX4_clear 0 = .ok (.aload_n 0, 1) := by decide +kernel
theorem dX4_clear_1 : decode cX4_clear 1 = .ok (.getfield 9, 3) := by decide +kernel
theorem dX4_clear_4 : decode cX4_clear 4 = .ok (.iconst 0, 1) := by decide +kernel
theorem dX4_clear_5 : decode cX4_clear 5 = .ok (.invokestatic 40, 3) := by decide +kernel
theorem dX4_clear_8 : decode cX4_clear 8 = .ok (.aload_n 0, 1) := by decide +kernel
theorem dX4_clear_9 : decode cX4_clear 9 = .ok (.getfield 15, 3) := by decide +kernel
theorem dX4_clear_12 : decode cX4_clear 12 = .ok (.iconst 0, 1) := by decide +kernel
theorem dX4_clear_13 : decode cX4_clear 13 = .ok (.invokestatic 40, 3) := by decide +kernel
theorem dX4_clear_16 : decode cX4_clear 16 = .ok (.aload_n 0, 1) := by decide +kernel
theorem dX4_clear_17 : decode cX4_clear 17 = .ok (.iconst 0, 1) := by decide +kernel
theorem dX4_clear_18 : decode cX4_clear 18 = .ok (.putfield 21, 3) := by decide +kernel
theorem dX4_clear_21 : decode cX4_clear 21 = .ok (.aload_n 0, 1) := by decide +kernel
theorem dX4_clear_22 : decode cX4_clear 22 = .ok (.iconst 0, 1) := by decide +kernel
theorem dX4_clear_23 : decode cX4_clear 23 = .ok (.putfield 25, 3) := by decide +kernel
theorem dX4_clear_26 : decode cX4_clear 26 = .ok (.aload_n 0, 1) := by decide +kernel
theorem dX4_clear_27 : decode cX4_clear 27 = .ok (.iconst 0, 1) := by decide +kernel
theorem dX4_clear_28 : decode cX4_clear 28 = .ok (.putfield 28, 3) := by decide +kernel
theorem dX4_clear_31 : decode cX4_clear 31 = .ok (.aload_n 0, 1) := by decide +kernel
theorem dX4_clear_32 : decode cX4_clear 32 = .ok (.iconst 0, 1) := by decide +kernel
theorem dX4_clear_33 : decode cX4_clear 33 = .ok (.putfield 31, 3) := by decide +kernel
theorem dX4_clear_36 : decode cX4_clear 36 = .ok (.aload_n 0, 1) := by decide +kernel
theorem dX4_clear_37 : decode cX4_clear 37 = .ok (.iconst 0, 1) := by decide +kernel
theorem dX4_clear_38 : decode cX4_clear 38 = .ok (.putfield 34, 3) := by decide +kernel
theorem dX4_clear_41 : decode cX4_clear 41 = .ok (.aload_n 0, 1) := by decide +kernel
theorem dX4_clear_42 : decode cX4_clear 42 = .ok (.iconst 0, 1) := by decide +kernel
theorem dX4_clear_43 : decode cX4_clear 43 = .ok (.putfield 37, 3) := by decide +kernel
theorem dX4_clear_46 : decode cX4_clear 46 = .ok (.return_, 1) := by decide +kernel
set_option maxRecDepth 20000 in
theorem ggX4_addAnswer_X6_isCase : GoodIn wsX4_addAnswer wsX6_isCase := goodIn_r _ [10] (by decide +kernel) (by decide +kernel)
set_option maxRecDepth 20000 in
theorem gX4_addAnswer_X6_isCase_n46 : GoodIn wsX4_addAnswer (wsX6_isCase) := ggX4_addAnswer_X6_isCase
set_option maxRecDepth 20000 in
theorem ggX4_addAnswer_X6_bitAt : GoodIn wsX4_addAnswer wsX6_bitAt := goodIn_r _ [12] (by decide +kernel) (by decide +kernel)
set_option maxRecDepth 20000 in
theorem gX4_addAnswer_X6_bitAt_n50 : GoodIn wsX4_addAnswer (wsX6_bitAt) := ggX4_addAnswer_X6_bitAt
theorem dX4_addAnswer_0 : decode cX4_addAnswer 0 = .ok (.iload_n 1, 1) := by decide +kernel
theorem dX4_addAnswer_1 : decode cX4_addAnswer 1 = .ok (.invokestatic 46, 3) := by decide +kernel
theorem dX4_addAnswer_4 : decode cX4_addAnswer 4 = .ok (.ifCond .ne 4, 3) := by decide +kernel
theorem dX4_addAnswer_7 : decode cX4_addAnswer 7 = .ok (.return_, 1) := by decide +kernel
theorem dX4_addAnswer_8 : decode cX4_addAnswer 8 = .ok (.aload_n 0, 1) := by decide +kernel
theorem dX4_addAnswer_9 : decode cX4_addAnswer 9 = .ok (.getfield 25, 3) := by decide +kernel
theorem dX4_addAnswer_12 : decode cX4_addAnswer 12 = .ok (.iload_n 1, 1) := by decide +kernel
theorem dX4_addAnswer_13 : decode cX4_addAnswer 13 = .ok (.invokestatic 50, 3) := by decide +kernel
theorem dX4_addAnswer_16 : decode cX4_addAnswer 16 = .ok (.ifCond .ne 7, 3) := by decide +kernel
theorem dX4_addAnswer_19 : decode cX4_addAnswer 19 = .ok (.iconst 1, 1) := by decide +kernel
theorem dX4_addAnswer_20 : decode cX4_addAnswer 20 = .ok (.goto 4, 3) := by decide +kernel
theorem dX4_addAnswer_23 : decode cX4_addAnswer 23 = .ok (.iconst 0, 1) := by decide +kernel
theorem dX4_addAnswer_24 : decode cX4_addAnswer 24 = .ok (.istore 4, 2) := by decide +kernel
theorem dX4_addAnswer_26 : decode cX4_addAnswer 26 = .ok (.iconst 1, 1) := by decide +kernel
theorem dX4_addAnswer_27 : decode cX4_addAnswer 27 = .ok (.iload_n 1, 1) := by decide +kernel
theorem dX4_addAnswer_28 : decode cX4_addAnswer 28 = .ok (.ishl, 1) := by decide +kernel
theorem dX4_addAnswer_29 : decode cX4_addAnswer 29 = .ok (.istore 5, 2) := by decide +kernel
theorem dX4_addAnswer_31 : decode cX4_addAnswer 31 = .ok (.aload_n 0, 1) := by decide +kernel
theorem dX4_addAnswer_32 : decode cX4_addAnswer 32 = .ok (.dup, 1) := by decide +kernel
theorem dX4_addAnswer_33 : decode cX4_addAnswer 33 = .ok (.getfield 25, 3) := by decide +kernel
theorem dX4_addAnswer_36 : decode cX4_addAnswer 36 = .ok (.iload 5, 2) := by decide +kernel
theorem dX4_addAnswer_38 : decode cX4_addAnswer 38 = .ok (.ior, 1) := by decide +kernel
theorem dX4_addAnswer_39 : decode cX4_addAnswer 39 = .ok (.putfield 25, 3) := by decide +kernel
theorem dX4_addAnswer_42 : decode cX4_addAnswer 42 = .ok (.iload_n 2, 1) := by decide +kernel
theorem dX4_addAnswer_43 : decode cX4_addAnswer 43 = .ok (.iconst 1, 1) := by decide +kernel
theorem dX4_addAnswer_44 : decode cX4_addAnswer 44 = .ok (.if_icmp .ne 27, 3) := by decide +kernel
theorem dX4_addAnswer_47 : decode cX4_addAnswer 47 = .ok (.aload_n 0, 1) := by decide +kernel
theorem dX4_addAnswer_48 : decode cX4_addAnswer 48 = .ok (.getfield 15, 3) := by decide +kernel
theorem dX4_addAnswer_51 : decode cX4_addAnswer 51 = .ok (.iload_n 1, 1) := by decide +kernel
theorem dX4_addAnswer_52 : decode cX4_addAnswer 52 = .ok (.dup2, 1) := by decide +kernel
theorem dX4_addAnswer_53 : decode cX4_addAnswer 53 = .ok (.iaload, 1) := by decide +kernel
theorem dX4_addAnswer_54 : decode cX4_addAnswer 54 = .ok (.iconst 1, 1) := by decide +kernel
theorem dX4_addAnswer_55 : decode cX4_addAnswer 55 = .ok (.iadd, 1) := by decide +kernel
theorem dX4_addAnswer_56 : decode cX4_addAnswer 56 = .ok (.iastore, 1) := by decide +kernel
theorem dX4_addAnswer_57 : decode cX4_addAnswer 57 = .ok (.aload_n 0, 1) := by decide +kernel
theorem dX4_addAnswer_58 : decode cX4_addAnswer 58 = .ok (.dup, 1) := by decide +kernel
theorem dX4_addAnswer_59 : decode cX4_addAnswer 59 = .ok (.getfield 28, 3) := by decide +kernel
theorem dX4_addAnswer_62 : decode cX4_addAnswer 62 = .ok (.iload 5, 2) := by decide +kernel
theorem dX4_addAnswer_64 : decode cX4_addAnswer 64 = .ok (.ior, 1) := by decide +kernel
theorem dX4_addAnswer_65 : decode cX4_addAnswer 65 = .ok (.putfield 28, 3) := by decide +kernel
theorem dX4_addAnswer_68 : decode cX4_addAnswer 68 = .ok (.goto 26, 3) := by decide +kernel
theorem dX4_addAnswer_71 : decode cX4_addAnswer 71 = .ok (.aload_n 0, 1) := by decide +kernel
theorem dX4_addAnswer_72 : decode cX4_addAnswer 72 = .ok (.getfield 9, 3) := by decide +kernel
theorem dX4_addAnswer_75 : decode cX4_addAnswer 75 = .ok (.iload_n 1, 1) := by decide +kernel
theorem dX4_addAnswer_76 : decode cX4_addAnswer 76 = .ok (.dup2, 1) := by decide +kernel
theorem dX4_addAnswer_77 : decode cX4_addAnswer 77 = .ok (.iaload, 1) := by decide +kernel
theorem dX4_addAnswer_78 : decode cX4_addAnswer 78 = .ok (.iconst 1, 1) := by decide +kernel
theorem dX4_addAnswer_79 : decode cX4_addAnswer 79 = .ok (.iadd, 1) := by decide +kernel
theorem dX4_addAnswer_80 : decode cX4_addAnswer 80 = .ok (.iastore, 1) := by decide +kernel
theorem dX4_addAnswer_81 : decode cX4_addAnswer 81 = .ok (.aload_n 0, 1) := by decide +kernel
theorem dX4_addAnswer_82 : decode cX4_addAnswer 82 = .ok (.dup, 1) := by decide +kernel
theorem dX4_addAnswer_83 : decode cX4_addAnswer 83 = .ok (.getfield 28, 3) := by decide +kernel
theorem dX4_addAnswer_86 : decode cX4_addAnswer 86 = .ok (.iload 5, 2) := by decide +kernel
theorem dX4_addAnswer_88 : decode cX4_addAnswer 88 = .ok (.iconst (-1), 1) := by decide +kernel
theorem dX4_addAnswer_89 : decode cX4_addAnswer 89 = .ok (.ixor, 1) := by decide +kernel
theorem dX4_addAnswer_90 : decode cX4_addAnswer 90 = .ok (.iand, 1) := by decide +kernel
theorem dX4_addAnswer_91 : decode cX4_addAnswer 91 = .ok (.putfield 28, 3) := by decide +kernel
theorem dX4_addAnswer_94 : decode cX4_addAnswer 94 = .ok (.aload_n 0, 1) := by decide +kernel
theorem dX4_addAnswer_95 : decode cX4_addAnswer 95 = .ok (.dup, 1) := by decide +kernel
theorem dX4_addAnswer_96 : decode cX4_addAnswer 96 = .ok (.getfield 31, 3) := by decide +kernel
theorem dX4_addAnswer_99 : decode cX4_addAnswer 99 = .ok (.iconst 1, 1) := by decide +kernel
theorem dX4_addAnswer_100 : decode cX4_addAnswer 100 = .ok (.iadd, 1) := by decide +kernel
theorem dX4_addAnswer_101 : decode cX4_addAnswer 101 = .ok (.putfield 31, 3) := by decide +kernel
theorem dX4_addAnswer_104 : decode cX4_addAnswer 104 = .ok (.aload_n 0, 1) := by decide +kernel
theorem dX4_addAnswer_105 : decode cX4_addAnswer 105 = .ok (.dup, 1) := by decide +kernel
theorem dX4_addAnswer_106 : decode cX4_addAnswer 106 = .ok (.getfield 34, 3) := by decide +kernel
theorem dX4_addAnswer_109 : decode cX4_addAnswer 109 = .ok (.iload_n 3, 1) := by decide +kernel
theorem dX4_addAnswer_110 : decode cX4_addAnswer 110 = .ok (.ifCond .eq 7, 3) := by decide +kernel
theorem dX4_addAnswer_113 : decode cX4_addAnswer 113 = .ok (.iconst 1, 1) := by decide +kernel
theorem dX4_addAnswer_114 : decode cX4_addAnswer 114 = .ok (.goto 4, 3) := by decide +kernel
theorem dX4_addAnswer_117 : decode cX4_addAnswer 117 = .ok (.iconst 0, 1) := by decide +kernel
theorem dX4_addAnswer_118 : decode cX4_addAnswer 118 = .ok (.iadd, 1) := by decide +kernel
theorem dX4_addAnswer_119 : decode cX4_addAnswer 119 = .ok (.putfield 34, 3) := by decide +kernel
theorem dX4_addAnswer_122 : decode cX4_addAnswer 122 = .ok (.aload_n 0, 1) := by decide +kernel
theorem dX4_addAnswer_123 : decode cX4_addAnswer 123 = .ok (.iload_n 3, 1) := by decide +kernel
theorem dX4_addAnswer_124 : decode cX4_addAnswer 124 = .ok (.ifCond .eq 17, 3) := by decide +kernel
theorem dX4_addAnswer_127 : decode cX4_addAnswer 127 = .ok (.iload 4, 2) := by decide +kernel
theorem dX4_addAnswer_129 : decode cX4_addAnswer 129 = .ok (.ifCond .eq 12, 3) := by decide +kernel
theorem dX4_addAnswer_132 : decode cX4_addAnswer 132 = .ok (.aload_n 0, 1) := by decide +kernel
theorem dX4_addAnswer_133 : decode cX4_addAnswer 133 = .ok (.getfield 37, 3) := by decide +kernel
theorem dX4_addAnswer_136 : decode cX4_addAnswer 136 = .ok (.iconst 1, 1) := by decide +kernel
theorem dX4_addAnswer_137 : decode cX4_addAnswer 137 = .ok (.iadd, 1) := by decide +kernel
theorem dX4_addAnswer_138 : decode cX4_addAnswer 138 = .ok (.goto 4, 3) := by decide +kernel
theorem dX4_addAnswer_141 : decode cX4_addAnswer 141 = .ok (.iconst 0, 1) := by decide +kernel
theorem dX4_addAnswer_142 : decode cX4_addAnswer 142 = .ok (.putfield 37, 3) := by decide +kernel
theorem dX4_addAnswer_145 : decode cX4_addAnswer 145 = .ok (.return_, 1) := by decide +kernel
theorem dX4_addSaid_0 : decode cX4_addSaid 0 = .ok (.aload_n 0, 1) := by decide +kernel
theorem dX4_addSaid_1 : decode cX4_addSaid 1 = .ok (.getfield 21, 3) := by decide +kernel
theorem dX4_addSaid_4 : decode cX4_addSaid 4 = .ok (.istore_n 2, 1) := by decide +kernel
theorem dX4_addSaid_5 : decode cX4_addSaid 5 = .ok (.iload_n 2, 1) := by decide +kernel
theorem dX4_addSaid_6 : decode cX4_addSaid 6 = .ok (.ifCond .lt 12, 3) := by decide +kernel
theorem dX4_addSaid_9 : decode cX4_addSaid 9 = .ok (.iload_n 2, 1) := by decide +kernel
theorem dX4_addSaid_10 : decode cX4_addSaid 10 = .ok (.aload_n 0, 1) := by decide +kernel
theorem dX4_addSaid_11 : decode cX4_addSaid 11 = .ok (.getfield 18, 3) := by decide +kernel
theorem dX4_addSaid_14 : decode cX4_addSaid 14 = .ok (.arraylength, 1) := by decide +kernel
theorem dX4_addSaid_15 : decode cX4_addSaid 15 = .ok (.if_icmp .lt 5, 3) := by decide +kernel
theorem dX4_addSaid_18 : decode cX4_addSaid 18 = .ok (.iconst (-1), 1) := by decide +kernel
theorem dX4_addSaid_19 : decode cX4_addSaid 19 = .ok (.ireturn, 1) := by decide +kernel
theorem dX4_addSaid_20 : decode cX4_addSaid 20 = .ok (.aload_n 0, 1) := by decide +kernel
theorem dX4_addSaid_21 : decode cX4_addSaid 21 = .ok (.getfield 18, 3) := by decide +kernel
theorem dX4_addSaid_24 : decode cX4_addSaid 24 = .ok (.iload_n 2, 1) := by decide +kernel
theorem dX4_addSaid_25 : decode cX4_addSaid 25 = .ok (.iload_n 1, 1) := by decide +kernel
theorem dX4_addSaid_26 : decode cX4_addSaid 26 = .ok (.iastore, 1) := by decide +kernel
theorem dX4_addSaid_27 : decode cX4_addSaid 27 = .ok (.aload_n 0, 1) := by decide +kernel
theorem dX4_addSaid_28 : decode cX4_addSaid 28 = .ok (.dup, 1) := by decide +kernel
theorem dX4_addSaid_29 : decode cX4_addSaid 29 = .ok (.getfield 21, 3) := by decide +kernel
theorem dX4_addSaid_32 : decode cX4_addSaid 32 = .ok (.iconst 1, 1) := by decide +kernel
theorem dX4_addSaid_33 : decode cX4_addSaid 33 = .ok (.iadd, 1) := by decide +kernel
theorem dX4_addSaid_34 : decode cX4_addSaid 34 = .ok (.putfield 21, 3) := by decide +kernel
theorem dX4_addSaid_37 : decode cX4_addSaid 37 = .ok (.iload_n 2, 1) := by decide +kernel
theorem dX4_addSaid_38 : decode cX4_addSaid 38 = .ok (.ireturn, 1) := by decide +kernel
set_option maxRecDepth 20000 in
theorem ggX4_slipsOf_X4_wrongOf : GoodIn wsX4_slipsOf wsX4_wrongOf := goodIn_r _ [5, 6, 7, 8, 9, 10, 11, 12, 13, 14, 15, 16, 17, 18, 19, 20, 21] (by decide +kernel) (by decide +kernel)
set_option maxRecDepth 20000 in
theorem gX4_slipsOf_X4_wrongOf : GoodIn wsX4_slipsOf (wsV RX4 54 RX4 yX4_wrongOf wsX4_wrongOf) := goodIn_app (goodIn_of _ (by decide +kernel)) ggX4_slipsOf_X4_wrongOf
theorem dX4_slipsOf_0 : decode cX4_slipsOf 0 = .ok (.iconst 0, 1) := by decide +kernel
theorem dX4_slipsOf_1 : decode cX4_slipsOf 1 = .ok (.istore_n 2, 1) := by decide +kernel
theorem dX4_slipsOf_2 : decode cX4_slipsOf 2 = .ok (.iconst 0, 1) := by decide +kernel
theorem dX4_slipsOf_3 : decode cX4_slipsOf 3 = .ok (.istore_n 3, 1) := by decide +kernel
theorem dX4_slipsOf_4 : decode cX4_slipsOf 4 = .ok (.iload_n 3, 1) := by decide +kernel
theorem dX4_slipsOf_5 : decode cX4_slipsOf 5 = .ok (.bipush 32, 2) := by decide +kernel
theorem dX4_slipsOf_7 : decode cX4_slipsOf 7 = .ok (.if_icmp .ge 18, 3) := by decide +kernel
theorem dX4_slipsOf_10 : decode cX4_slipsOf 10 = .ok (.iload_n 2, 1) := by decide +kernel
theorem dX4_slipsOf_11 : decode cX4_slipsOf 11 = .ok (.aload_n 0, 1) := by decide +kernel
theorem dX4_slipsOf_12 : decode cX4_slipsOf 12 = .ok (.iload_n 3, 1) := by decide +kernel
theorem dX4_slipsOf_13 : decode cX4_slipsOf 13 = .ok (.iload_n 1, 1) := by decide +kernel
theorem dX4_slipsOf_14 : decode cX4_slipsOf 14 = .ok (.invokevirtual 54, 3) := by decide +kernel
theorem dX4_slipsOf_17 : decode cX4_slipsOf 17 = .ok (.iadd, 1) := by decide +kernel
theorem dX4_slipsOf_18 : decode cX4_slipsOf 18 = .ok (.istore_n 2, 1) := by decide +kernel
theorem dX4_slipsOf_19 : decode cX4_slipsOf 19 = .ok (.iinc 3 1, 3) := by decide +kernel
theorem dX4_slipsOf_22 : decode cX4_slipsOf 22 = .ok (.goto (-18), 3) := by decide +kernel
theorem dX4_slipsOf_25 : decode cX4_slipsOf 25 = .ok (.iload_n 2, 1) := by decide +kernel
theorem dX4_slipsOf_26 : decode cX4_slipsOf 26 = .ok (.ireturn, 1) := by decide +kernel
set_option maxRecDepth 20000 in
theorem ggX4_wrongOf_X6_isCase : GoodIn wsX4_wrongOf wsX6_isCase := goodIn_r _ [5] (by decide +kernel) (by decide +kernel)
set_option maxRecDepth 20000 in
theorem gX4_wrongOf_X6_isCase_n46 : GoodIn wsX4_wrongOf (wsX6_isCase) := ggX4_wrongOf_X6_isCase
set_option maxRecDepth 20000 in
theorem ggX4_wrongOf_X6_bitAt : GoodIn wsX4_wrongOf wsX6_bitAt := goodIn_r _ [7] (by decide +kernel) (by decide +kernel)
set_option maxRecDepth 20000 in
theorem gX4_wrongOf_X6_bitAt_n50 : GoodIn wsX4_wrongOf (wsX6_bitAt) := ggX4_wrongOf_X6_bitAt
theorem dX4_wrongOf_0 : decode cX4_wrongOf 0 = .ok (.iload_n 1, 1) := by decide +kernel
theorem dX4_wrongOf_1 : decode cX4_wrongOf 1 = .ok (.invokestatic 46, 3) := by decide +kernel
theorem dX4_wrongOf_4 : decode cX4_wrongOf 4 = .ok (.ifCond .ne 5, 3) := by decide +kernel
theorem dX4_wrongOf_7 : decode cX4_wrongOf 7 = .ok (.iconst 0, 1) := by decide +kernel
theorem dX4_wrongOf_8 : decode cX4_wrongOf 8 = .ok (.ireturn, 1) := by decide +kernel
theorem dX4_wrongOf_9 : decode cX4_wrongOf 9 = .ok (.iload_n 2, 1) := by decide +kernel
theorem dX4_wrongOf_10 : decode cX4_wrongOf 10 = .ok (.iload_n 1, 1) := by decide +kernel
theorem dX4_wrongOf_11 : decode cX4_wrongOf 11 = .ok (.invokestatic 50, 3) := by decide +kernel
theorem dX4_wrongOf_14 : decode cX4_wrongOf 14 = .ok (.iconst 1, 1) := by decide +kernel
theorem dX4_wrongOf_15 : decode cX4_wrongOf 15 = .ok (.if_icmp .ne 12, 3) := by decide +kernel
theorem dX4_wrongOf_18 : decode cX4_wrongOf 18 = .ok (.aload_n 0, 1) := by decide +kernel
theorem dX4_wrongOf_19 : decode cX4_wrongOf 19 = .ok (.getfield 9, 3) := by decide +kernel
theorem dX4_wrongOf_22 : decode cX4_wrongOf 22 = .ok (.iload_n 1, 1) := by decide +kernel
theorem dX4_wrongOf_23 : decode cX4_wrongOf 23 = .ok (.iaload, 1) := by decide +kernel
theorem dX4_wrongOf_24 : decode cX4_wrongOf 24 = .ok (.goto 9, 3) := by decide +kernel
theorem dX4_wrongOf_27 : decode cX4_wrongOf 27 = .ok (.aload_n 0, 1) := by decide +kernel
theorem dX4_wrongOf_28 : decode cX4_wrongOf 28 = .ok (.getfield 15, 3) := by decide +kernel
theorem dX4_wrongOf_31 : decode cX4_wrongOf 31 = .ok (.iload_n 1, 1) := by decide +kernel
theorem dX4_wrongOf_32 : decode cX4_wrongOf 32 = .ok (.iaload, 1) := by decide +kernel
theorem dX4_wrongOf_33 : decode cX4_wrongOf 33 = .ok (.ireturn, 1) := by decide +kernel
set_option maxRecDepth 20000 in
theorem ggX4_timesAsked_X6_isCase : GoodIn wsX4_timesAsked wsX6_isCase := goodIn_r _ [5] (by decide +kernel) (by decide +kernel)
set_option maxRecDepth 20000 in
theorem gX4_timesAsked_X6_isCase_n46 : GoodIn wsX4_timesAsked (wsX6_isCase) := ggX4_timesAsked_X6_isCase
theorem dX4_timesAsked_0 : decode cX4_timesAsked 0 = .ok (.iload_n 1, 1) := by decide +kernel
theorem dX4_timesAsked_1 : decode cX4_timesAsked 1 = .ok (.invokestatic 46, 3) := by decide +kernel
theorem dX4_timesAsked_4 : decode cX4_timesAsked 4 = .ok (.ifCond .eq 19, 3) := by decide +kernel
theorem dX4_timesAsked_7 : decode cX4_timesAsked 7 = .ok (.aload_n 0, 1) := by decide +kernel
theorem dX4_timesAsked_8 : decode cX4_timesAsked 8 = .ok (.getfield 9, 3) := by decide +kernel
theorem dX4_timesAsked_11 : decode cX4_timesAsked 11 = .ok (.iload_n 1, 1) := by decide +kernel
theorem dX4_timesAsked_12 : decode cX4_timesAsked 12 = .ok (.iaload, 1) := by decide +kernel
theorem dX4_timesAsked_13 : decode cX4_timesAsked 13 = .ok (.aload_n 0, 1) := by decide +kernel
theorem dX4_timesAsked_14 : decode cX4_timesAsked 14 = .ok (.getfield 15, 3) := by decide +kernel
theorem dX4_timesAsked_17 : decode cX4_timesAsked 17 = .ok (.iload_n 1, 1) := by decide +kernel
theorem dX4_timesAsked_18 : decode cX4_timesAsked 18 = .ok (.iaload, 1) := by decide +kernel
theorem dX4_timesAsked_19 : decode cX4_timesAsked 19 = .ok (.iadd, 1) := by decide +kernel
theorem dX4_timesAsked_20 : decode cX4_timesAsked 20 = .ok (.goto 4, 3) := by decide +kernel
theorem dX4_timesAsked_23 : decode cX4_timesAsked 23 = .ok (.iconst 0, 1) := by decide +kernel
theorem dX4_timesAsked_24 : decode cX4_timesAsked 24 = .ok (.ireturn, 1) := by decide +kernel
set_option maxRecDepth 20000 in
theorem ggX4_latestOf_X6_bitAt : GoodIn wsX4_latestOf wsX6_bitAt := goodIn_r _ [5] (by decide +kernel) (by decide +kernel)
set_option maxRecDepth 20000 in
theorem gX4_latestOf_X6_bitAt_n50 : GoodIn wsX4_latestOf (wsX6_bitAt) := ggX4_latestOf_X6_bitAt
theorem dX4_latestOf_0 : decode cX4_latestOf 0 = .ok (.aload_n 0, 1) := by decide +kernel
theorem dX4_latestOf_1 : decode cX4_latestOf 1 = .ok (.getfield 25, 3) := by decide +kernel
theorem dX4_latestOf_4 : decode cX4_latestOf 4 = .ok (.iload_n 1, 1) := by decide +kernel
theorem dX4_latestOf_5 : decode cX4_latestOf 5 = .ok (.invokestatic 50, 3) := by decide +kernel
theorem dX4_latestOf_8 : decode cX4_latestOf 8 = .ok (.iconst 1, 1) := by decide +kernel
theorem dX4_latestOf_9 : decode cX4_latestOf 9 = .ok (.if_icmp .ne 14, 3) := by decide +kernel
theorem dX4_latestOf_12 : decode cX4_latestOf 12 = .ok (.aload_n 0, 1) := by decide +kernel
theorem dX4_latestOf_13 : decode cX4_latestOf 13 = .ok (.getfield 28, 3) := by decide +kernel
theorem dX4_latestOf_16 : decode cX4_latestOf 16 = .ok (.iload_n 1, 1) := by decide +kernel
theorem dX4_latestOf_17 : decode cX4_latestOf 17 = .ok (.invokestatic 50, 3) := by decide +kernel
theorem dX4_latestOf_20 : decode cX4_latestOf 20 = .ok (.goto 4, 3) := by decide +kernel
theorem dX4_latestOf_23 : decode cX4_latestOf 23 = .ok (.iconst (-1), 1) := by decide +kernel
theorem dX4_latestOf_24 : decode cX4_latestOf 24 = .ok (.ireturn, 1) := by decide +kernel
theorem dX4_saidApart_0 : decode cX4_saidApart 0 = .ok (.iconst 0, 1) := by decide +kernel
theorem dX4_saidApart_1 : decode cX4_saidApart 1 = .ok (.istore_n 1, 1) := by decide +kernel
theorem dX4_saidApart_2 : decode cX4_saidApart 2 = .ok (.iconst 1, 1) := by decide +kernel
theorem dX4_saidApart_3 : decode cX4_saidApart 3 = .ok (.istore_n 2, 1) := by decide +kernel
theorem dX4_saidApart_4 : decode cX4_saidApart 4 = .ok (.iload_n 2, 1) := by decide +kernel
theorem dX4_saidApart_5 : decode cX4_saidApart 5 = .ok (.aload_n 0, 1) := by decide +kernel
theorem dX4_saidApart_6 : decode cX4_saidApart 6 = .ok (.getfield 21, 3) := by decide +kernel
theorem dX4_saidApart_9 : decode cX4_saidApart 9 = .ok (.if_icmp .ge 34, 3) := by decide +kernel
theorem dX4_saidApart_12 : decode cX4_saidApart 12 = .ok (.iload_n 2, 1) := by decide +kernel
theorem dX4_saidApart_13 : decode cX4_saidApart 13 = .ok (.aload_n 0, 1) := by decide +kernel
theorem dX4_saidApart_14 : decode cX4_saidApart 14 = .ok (.getfield 18, 3) := by decide +kernel
theorem dX4_saidApart_17 : decode cX4_saidApart 17 = .ok (.arraylength, 1) := by decide +kernel
theorem dX4_saidApart_18 : decode cX4_saidApart 18 = .ok (.if_icmp .ge 25, 3) := by decide +kernel
theorem dX4_saidApart_21 : decode cX4_saidApart 21 = .ok (.iload_n 1, 1) := by decide +kernel
theorem dX4_saidApart_22 : decode cX4_saidApart 22 = .ok (.aload_n 0, 1) := by decide +kernel
theorem dX4_saidApart_23 : decode cX4_saidApart 23 = .ok (.getfield 18, 3) := by decide +kernel
theorem dX4_saidApart_26 : decode cX4_saidApart 26 = .ok (.iconst 0, 1) := by decide +kernel
theorem dX4_saidApart_27 : decode cX4_saidApart 27 = .ok (.iaload, 1) := by decide +kernel
theorem dX4_saidApart_28 : decode cX4_saidApart 28 = .ok (.aload_n 0, 1) := by decide +kernel
theorem dX4_saidApart_29 : decode cX4_saidApart 29 = .ok (.getfield 18, 3) := by decide +kernel
theorem dX4_saidApart_32 : decode cX4_saidApart 32 = .ok (.iload_n 2, 1) := by decide +kernel
theorem dX4_saidApart_33 : decode cX4_saidApart 33 = .ok (.iaload, 1) := by decide +kernel
theorem dX4_saidApart_34 : decode cX4_saidApart 34 = .ok (.ixor, 1) := by decide +kernel
theorem dX4_saidApart_35 : decode cX4_saidApart 35 = .ok (.ior, 1) := by decide +kernel
theorem dX4_saidApart_36 : decode cX4_saidApart 36 = .ok (.istore_n 1, 1) := by decide +kernel
theorem dX4_saidApart_37 : decode cX4_saidApart 37 = .ok (.iinc 2 1, 3) := by decide +kernel
theorem dX4_saidApart_40 : decode cX4_saidApart 40 = .ok (.goto (-36), 3) := by decide +kernel
theorem dX4_saidApart_43 : decode cX4_saidApart 43 = .ok (.iload_n 1, 1) := by decide +kernel
theorem dX4_saidApart_44 : decode cX4_saidApart 44 = .ok (.ireturn, 1) := by decide +kernel
theorem dX4_saidUnlikeAnswers_0 : decode cX4_saidUnlikeAnswers 0 = .ok (.aload_n 0, 1) := by decide +kernel
theorem dX4_saidUnlikeAnswers_1 : decode cX4_saidUnlikeAnswers 1 = .ok (.getfield 21, 3) := by decide +kernel
theorem dX4_saidUnlikeAnswers_4 : decode cX4_saidUnlikeAnswers 4 = .ok (.ifCond .le 22, 3) := by decide +kernel
theorem dX4_saidUnlikeAnswers_7 : decode cX4_saidUnlikeAnswers 7 = .ok (.aload_n 0, 1) := by decide +kernel
theorem dX4_saidUnlikeAnswers_8 : decode cX4_saidUnlikeAnswers 8 = .ok (.getfield 18, 3) := by decide +kernel
theorem dX4_saidUnlikeAnswers_11 : decode cX4_saidUnlikeAnswers 11 = .ok (.iconst 0, 1) := by decide +kernel
theorem dX4_saidUnlikeAnswers_12 : decode cX4_saidUnlikeAnswers 12 = .ok (.iaload, 1) := by decide +kernel
theorem dX4_saidUnlikeAnswers_13 : decode cX4_saidUnlikeAnswers 13 = .ok (.aload_n 0, 1) := by decide +kernel
theorem dX4_saidUnlikeAnswers_14 : decode cX4_saidUnlikeAnswers 14 = .ok (.getfield 28, 3) := by decide +kernel
theorem dX4_saidUnlikeAnswers_17 : decode cX4_saidUnlikeAnswers 17 = .ok (.ixor, 1) := by decide +kernel
theorem dX4_saidUnlikeAnswers_18 : decode cX4_saidUnlikeAnswers 18 = .ok (.aload_n 0, 1) := by decide +kernel
theorem dX4_saidUnlikeAnswers_19 : decode cX4_saidUnlikeAnswers 19 = .ok (.getfield 25, 3) := by decide +kernel
theorem dX4_saidUnlikeAnswers_22 : decode cX4_saidUnlikeAnswers 22 = .ok (.iand, 1) := by decide +kernel
theorem dX4_saidUnlikeAnswers_23 : decode cX4_saidUnlikeAnswers 23 = .ok (.goto 4, 3) := by decide +kernel
theorem dX4_saidUnlikeAnswers_26 : decode cX4_saidUnlikeAnswers 26 = .ok (.iconst 0, 1) := by decide +kernel
theorem dX4_saidUnlikeAnswers_27 : decode cX4_saidUnlikeAnswers 27 = .ok (.ireturn, 1) := by decide +kernel
set_option maxRecDepth 20000 in
theorem ggX4_firstUnlikeFirst_X6_bitAt : GoodIn wsX4_firstUnlikeFirst wsX6_bitAt := goodIn_r _ [5] (by decide +kernel) (by decide +kernel)
set_option maxRecDepth 20000 in
theorem gX4_firstUnlikeFirst_X6_bitAt_n50 : GoodIn wsX4_firstUnlikeFirst (wsX6_bitAt) := ggX4_firstUnlikeFirst_X6_bitAt
theorem dX4_firstUnlikeFirst_0 : decode cX4_firstUnlikeFirst 0 = .ok (.iconst 1, 1) := by decide +kernel
theorem dX4_firstUnlikeFirst_1 : decode cX4_firstUnlikeFirst 1 = .ok (.istore_n 2, 1) := by decide +kernel
theorem dX4_firstUnlikeFirst_2 : decode cX4_firstUnlikeFirst 2 = .ok (.iload_n 2, 1) := by decide +kernel
theorem dX4_firstUnlikeFirst_3 : decode cX4_firstUnlikeFirst 3 = .ok (.aload_n 0, 1) := by decide +kernel
theorem dX4_firstUnlikeFirst_4 : decode cX4_firstUnlikeFirst 4 = .ok (.getfield 21, 3) := by decide +kernel
theorem dX4_firstUnlikeFirst_7 : decode cX4_firstUnlikeFirst 7 = .ok (.if_icmp .ge 41, 3) := by decide +kernel
theorem dX4_firstUnlikeFirst_10 : decode cX4_firstUnlikeFirst 10 = .ok (.iload_n 2, 1) := by decide +kernel
theorem dX4_firstUnlikeFirst_11 : decode cX4_firstUnlikeFirst 11 = .ok (.aload_n 0, 1) := by decide +kernel
theorem dX4_firstUnlikeFirst_12 : decode cX4_firstUnlikeFirst 12 = .ok (.getfield 18, 3) := by decide +kernel
theorem dX4_firstUnlikeFirst_15 : decode cX4_firstUnlikeFirst 15 = .ok (.arraylength, 1) := by decide +kernel
theorem dX4_firstUnlikeFirst_16 : decode cX4_firstUnlikeFirst 16 = .ok (.if_icmp .ge 32, 3) := by decide +kernel
theorem dX4_firstUnlikeFirst_19 : decode cX4_firstUnlikeFirst 19 = .ok (.aload_n 0, 1) := by decide +kernel
theorem dX4_firstUnlikeFirst_20 : decode cX4_firstUnlikeFirst 20 = .ok (.getfield 18, 3) := by decide +kernel
theorem dX4_firstUnlikeFirst_23 : decode cX4_firstUnlikeFirst 23 = .ok (.iconst 0, 1) := by decide +kernel
theorem dX4_firstUnlikeFirst_24 : decode cX4_firstUnlikeFirst 24 = .ok (.iaload, 1) := by decide +kernel
theorem dX4_firstUnlikeFirst_25 : decode cX4_firstUnlikeFirst 25 = .ok (.aload_n 0, 1) := by decide +kernel
theorem dX4_firstUnlikeFirst_26 : decode cX4_firstUnlikeFirst 26 = .ok (.getfield 18, 3) := by decide +kernel
theorem dX4_firstUnlikeFirst_29 : decode cX4_firstUnlikeFirst 29 = .ok (.iload_n 2, 1) := by decide +kernel
theorem dX4_firstUnlikeFirst_30 : decode cX4_firstUnlikeFirst 30 = .ok (.iaload, 1) := by decide +kernel
theorem dX4_firstUnlikeFirst_31 : decode cX4_firstUnlikeFirst 31 = .ok (.ixor, 1) := by decide +kernel
theorem dX4_firstUnlikeFirst_32 : decode cX4_firstUnlikeFirst 32 = .ok (.iload_n 1, 1) := by decide +kernel
theorem dX4_firstUnlikeFirst_33 : decode cX4_firstUnlikeFirst 33 = .ok (.invokestatic 50, 3) := by decide +kernel
theorem dX4_firstUnlikeFirst_36 : decode cX4_firstUnlikeFirst 36 = .ok (.iconst 1, 1) := by decide +kernel
theorem dX4_firstUnlikeFirst_37 : decode cX4_firstUnlikeFirst 37 = .ok (.if_icmp .ne 5, 3) := by decide +kernel
theorem dX4_firstUnlikeFirst_40 : decode cX4_firstUnlikeFirst 40 = .ok (.iload_n 2, 1) := by decide +kernel
theorem dX4_firstUnlikeFirst_41 : decode cX4_firstUnlikeFirst 41 = .ok (.ireturn, 1) := by decide +kernel
theorem dX4_firstUnlikeFirst_42 : decode cX4_firstUnlikeFirst 42 = .ok (.iinc 2 1, 3) := by decide +kernel
theorem dX4_firstUnlikeFirst_45 : decode cX4_firstUnlikeFirst 45 = .ok (.goto (-43), 3) := by decide +kernel
theorem dX4_firstUnlikeFirst_48 : decode cX4_firstUnlikeFirst 48 = .ok (.iconst (-1), 1) := by decide +kernel
theorem dX4_firstUnlikeFirst_49 : decode cX4_firstUnlikeFirst 49 = .ok (.ireturn, 1) := by decide +kernel
theorem dX5_init_0 : decode cX5_init 0 = .ok (.aload_n 0, 1) := by decide +kernel
theorem dX5_init_1 : decode cX5_init 1 = .ok (.invokespecial 3, 3) := by decide +kernel
theorem dX5_init_4 : decode cX5_init 4 = .ok (.aload_n 0, 1) := by decide +kernel
theorem dX5_init_5 : decode cX5_init 5 = .ok (.bipush 80, 2) := by decide +kernel
theorem dX5_init_7 : decode cX5_init 7 = .ok (.newarray .byte, 2) := by decide +kernel
theorem dX5_init_9 : decode cX5_init 9 = .ok (.putfield 9, 3) := by decide +kernel
theorem dX5_init_12 : decode cX5_init 12 = .ok (.aload_n 0, 1) := by decide +kernel
theorem dX5_init_13 : decode cX5_init 13 = .ok (.iconst 0, 1) := by decide +kernel
theorem dX5_init_14 : decode cX5_init 14 = .ok (.putfield 15, 3) := by decide +kernel
theorem dX5_init_17 : decode cX5_init 17 = .ok (.return_, 1) := by decide +kernel
theorem dX5_append_0 : decode cX5_append 0 = .ok (.bipush 24, 2) := by decide +kernel
theorem dX5_append_2 : decode cX5_append 2 = .ok (.istore_n 2, 1) := by decide +kernel
theorem dX5_append_3 : decode cX5_append 3 = .ok (.iload_n 2, 1) := by decide +kernel
theorem dX5_append_4 : decode cX5_append 4 = .ok (.ifCond .lt 51, 3) := by decide +kernel
theorem dX5_append_7 : decode cX5_append 7 = .ok (.aload_n 0, 1) := by decide +kernel
theorem dX5_append_8 : decode cX5_append 8 = .ok (.getfield 15, 3) := by decide +kernel
theorem dX5_append_11 : decode cX5_append 11 = .ok (.ifCond .lt 38, 3) := by decide +kernel
theorem dX5_append_14 : decode cX5_append 14 = .ok (.aload_n 0, 1) := by decide +kernel
theorem dX5_append_15 : decode cX5_append 15 = .ok (.getfield 15, 3) := by decide +kernel
theorem dX5_append_18 : decode cX5_append 18 = .ok (.aload_n 0, 1) := by decide +kernel
theorem dX5_append_19 : decode cX5_append 19 = .ok (.getfield 9, 3) := by decide +kernel
theorem dX5_append_22 : decode cX5_append 22 = .ok (.arraylength, 1) := by decide +kernel
theorem dX5_append_23 : decode cX5_append 23 = .ok (.if_icmp .ge 26, 3) := by decide +kernel
theorem dX5_append_26 : decode cX5_append 26 = .ok (.aload_n 0, 1) := by decide +kernel
theorem dX5_append_27 : decode cX5_append 27 = .ok (.getfield 9, 3) := by decide +kernel
theorem dX5_append_30 : decode cX5_append 30 = .ok (.aload_n 0, 1) := by decide +kernel
theorem dX5_append_31 : decode cX5_append 31 = .ok (.getfield 15, 3) := by decide +kernel
theorem dX5_append_34 : decode cX5_append 34 = .ok (.iload_n 1, 1) := by decide +kernel
theorem dX5_append_35 : decode cX5_append 35 = .ok (.iload_n 2, 1) := by decide +kernel
theorem dX5_append_36 : decode cX5_append 36 = .ok (.iushr, 1) := by decide +kernel
theorem dX5_append_37 : decode cX5_append 37 = .ok (.i2b, 1) := by decide +kernel
theorem dX5_append_38 : decode cX5_append 38 = .ok (.bastore, 1) := by decide +kernel
theorem dX5_append_39 : decode cX5_append 39 = .ok (.aload_n 0, 1) := by decide +kernel
theorem dX5_append_40 : decode cX5_append 40 = .ok (.dup, 1) := by decide +kernel
theorem dX5_append_41 : decode cX5_append 41 = .ok (.getfield 15, 3) := by decide +kernel
theorem dX5_append_44 : decode cX5_append 44 = .ok (.iconst 1, 1) := by decide +kernel
theorem dX5_append_45 : decode cX5_append 45 = .ok (.iadd, 1) := by decide +kernel
theorem dX5_append_46 : decode cX5_append 46 = .ok (.putfield 15, 3) := by decide +kernel
theorem dX5_append_49 : decode cX5_append 49 = .ok (.iinc 2 (-8), 3) := by decide +kernel
theorem dX5_append_52 : decode cX5_append 52 = .ok (.goto (-49), 3) := by decide +kernel
theorem dX5_append_55 : decode cX5_append 55 = .ok (.return_, 1) := by decide +kernel
theorem dX5_offers_0 : decode cX5_offers 0 = .ok (.iload_n 1, 1) := by decide +kernel
theorem dX5_offers_1 : decode cX5_offers 1 = .ok (.ifCond .lt 21, 3) := by decide +kernel
theorem dX5_offers_4 : decode cX5_offers 4 = .ok (.iload_n 1, 1) := by decide +kernel
theorem dX5_offers_5 : decode cX5_offers 5 = .ok (.bipush 60, 2) := by decide +kernel
theorem dX5_offers_7 : decode cX5_offers 7 = .ok (.if_icmp .gt 15, 3) := by decide +kernel
theorem dX5_offers_10 : decode cX5_offers 10 = .ok (.iload_n 1, 1) := by decide +kernel
theorem dX5_offers_11 : decode cX5_offers 11 = .ok (.aload_n 0, 1) := by decide +kernel
theorem dX5_offers_12 : decode cX5_offers 12 = .ok (.getfield 15, 3) := by decide +kernel
theorem dX5_offers_15 : decode cX5_offers 15 = .ok (.if_icmp .gt 7, 3) := by decide +kernel
theorem dX5_offers_18 : decode cX5_offers 18 = .ok (.iconst 1, 1) := by decide +kernel
theorem dX5_offers_19 : decode cX5_offers 19 = .ok (.goto 4, 3) := by decide +kernel
theorem dX5_offers_22 : decode cX5_offers 22 = .ok (.iconst 0, 1) := by decide +kernel
theorem dX5_offers_23 : decode cX5_offers 23 = .ok (.ireturn, 1) := by decide +kernel
theorem dX5_byteAt_0 : decode cX5_byteAt 0 = .ok (.iload_n 1, 1) := by decide +kernel
theorem dX5_byteAt_1 : decode cX5_byteAt 1 = .ok (.ifCond .lt 33, 3) := by decide +kernel
theorem dX5_byteAt_4 : decode cX5_byteAt 4 = .ok (.iload_n 1, 1) := by decide +kernel
theorem dX5_byteAt_5 : decode cX5_byteAt 5 = .ok (.aload_n 0, 1) := by decide +kernel
theorem dX5_byteAt_6 : decode cX5_byteAt 6 = .ok (.getfield 15, 3) := by decide +kernel
theorem dX5_byteAt_9 : decode cX5_byteAt 9 = .ok (.if_icmp .ge 25, 3) := by decide +kernel
theorem dX5_byteAt_12 : decode cX5_byteAt 12 = .ok (.iload_n 1, 1) := by decide +kernel
theorem dX5_byteAt_13 : decode cX5_byteAt 13 = .ok (.aload_n 0, 1) := by decide +kernel
theorem dX5_byteAt_14 : decode cX5_byteAt 14 = .ok (.getfield 9, 3) := by decide +kernel
theorem dX5_byteAt_17 : decode cX5_byteAt 17 = .ok (.arraylength, 1) := by decide +kernel
theorem dX5_byteAt_18 : decode cX5_byteAt 18 = .ok (.if_icmp .ge 16, 3) := by decide +kernel
theorem dX5_byteAt_21 : decode cX5_byteAt 21 = .ok (.aload_n 0, 1) := by decide +kernel
theorem dX5_byteAt_22 : decode cX5_byteAt 22 = .ok (.getfield 9, 3) := by decide +kernel
theorem dX5_byteAt_25 : decode cX5_byteAt 25 = .ok (.iload_n 1, 1) := by decide +kernel
theorem dX5_byteAt_26 : decode cX5_byteAt 26 = .ok (.baload, 1) := by decide +kernel
theorem dX5_byteAt_27 : decode cX5_byteAt 27 = .ok (.sipush 255, 3) := by decide +kernel
theorem dX5_byteAt_30 : decode cX5_byteAt 30 = .ok (.iand, 1) := by decide +kernel
theorem dX5_byteAt_31 : decode cX5_byteAt 31 = .ok (.goto 4, 3) := by decide +kernel
theorem dX5_byteAt_34 : decode cX5_byteAt 34 = .ok (.iconst (-1), 1) := by decide +kernel
theorem dX5_byteAt_35 : decode cX5_byteAt 35 = .ok (.ireturn, 1) := by decide +kernel
theorem dX5_clear_0 : decode cX5_clear 0 = .ok (.aload_n 0, 1) := by decide +kernel
theorem dX5_clear_1 : decode cX5_clear 1 = .ok (.iconst 0, 1) := by decide +kernel
theorem dX5_clear_2 : decode cX5_clear 2 = .ok (.putfield 15, 3) := by decide +kernel
theorem dX5_clear_5 : decode cX5_clear 5 = .ok (.return_, 1) := by decide +kernel
set_option maxRecDepth 20000 in
theorem ggX6_init_X5_init : GoodIn wsX6_init wsX5_init := goodIn_r _ [26, 27, 2, 3, 28, 29, 30, 74, 75] (by decide +kernel) (by decide +kernel)
set_option maxRecDepth 20000 in
theorem gX6_init_X5_init_n9 : GoodIn wsX6_init (wsX5_init) := ggX6_init_X5_init
set_option maxRecDepth 20000 in
theorem ggX6_init_X3_init : GoodIn wsX6_init wsX3_init := goodIn_r _ [33, 34, 2, 3, 28, 35, 36, 37, 38, 39, 40, 41, 42, 85, 86, 87, 88, 89, 90, 91, 92] (by decide +kernel) (by decide +kernel)
set_option maxRecDepth 20000 in
theorem gX6_init_X3_init : GoodIn wsX6_init (wsX3_init) := ggX6_init_X3_init
set_option maxRecDepth 20000 in
theorem ggX6_init_X0_init : GoodIn wsX6_init wsX0_init := goodIn_r _ [45, 46, 2, 3, 47, 48, 49, 50, 51, 52, 53, 54, 55, 56, 57, 58, 59, 60, 61, 93, 94, 95, 105, 106, 107, 108] (by decide +kernel) (by decide +kernel)
set_option maxRecDepth 20000 in
theorem gX6_init_X0_init : GoodIn wsX6_init (wsX0_init) := ggX6_init_X0_init
set_option maxRecDepth 20000 in
theorem ggX6_init_X4_init : GoodIn wsX6_init wsX4_init := goodIn_r _ [63, 64, 2, 3, 49, 65, 66, 67, 68, 69, 70, 71, 72, 73, 96, 97, 98, 99, 100, 101, 102, 103, 104] (by decide +kernel) (by decide +kernel)
set_option maxRecDepth 20000 in
theorem gX6_init_X4_init_n34 : GoodIn wsX6_init (wsX4_init) := ggX6_init_X4_init
theorem dX6_init_0 : decode cX6_init 0 = .ok (.aload_n 0, 1) := by decide +kernel
theorem dX6_init_1 : decode cX6_init 1 = .ok (.invokespecial 1, 3) := by decide +kernel
theorem dX6_init_4 : decode cX6_init 4 = .ok (.aload_n 0, 1) := by decide +kernel
theorem dX6_init_5 : decode cX6_init 5 = .ok (.new 7, 3) := by decide +kernel
theorem dX6_init_8 : decode cX6_init 8 = .ok (.dup, 1) := by decide +kernel
theorem dX6_init_9 : decode cX6_init 9 = .ok (.invokespecial 9, 3) := by decide +kernel
theorem dX6_init_12 : decode cX6_init 12 = .ok (.putfield 10, 3) := by decide +kernel
theorem dX6_init_15 : decode cX6_init 15 = .ok (.aload_n 0, 1) := by decide +kernel
theorem dX6_init_16 : decode cX6_init 16 = .ok (.new 16, 3) := by decide +kernel
theorem dX6_init_19 : decode cX6_init 19 = .ok (.dup, 1) := by decide +kernel
theorem dX6_init_20 : decode cX6_init 20 = .ok (.aload_n 0, 1) := by decide +kernel
theorem dX6_init_21 : decode cX6_init 21 = .ok (.getfield 10, 3) := by decide +kernel
theorem dX6_init_24 : decode cX6_init 24 = .ok (.invokespecial 18, 3) := by decide +kernel
theorem dX6_init_27 : decode cX6_init 27 = .ok (.putfield 21, 3) := by decide +kernel
theorem dX6_init_30 : decode cX6_init 30 = .ok (.aload_n 0, 1) := by decide +kernel
theorem dX6_init_31 : decode cX6_init 31 = .ok (.new 25, 3) := by decide +kernel
theorem dX6_init_34 : decode cX6_init 34 = .ok (.dup, 1) := by decide +kernel
theorem dX6_init_35 : decode cX6_init 35 = .ok (.invokespecial 27, 3) := by decide +kernel
theorem dX6_init_38 : decode cX6_init 38 = .ok (.putfield 28, 3) := by decide +kernel
theorem dX6_init_41 : decode cX6_init 41 = .ok (.aload_n 0, 1) := by decide +kernel
theorem dX6_init_42 : decode cX6_init 42 = .ok (.new 32, 3) := by decide +kernel
theorem dX6_init_45 : decode cX6_init 45 = .ok (.dup, 1) := by decide +kernel
theorem dX6_init_46 : decode cX6_init 46 = .ok (.invokespecial 34, 3) := by decide +kernel
theorem dX6_init_49 : decode cX6_init 49 = .ok (.putfield 35, 3) := by decide +kernel
theorem dX6_init_52 : decode cX6_init 52 = .ok (.aload_n 0, 1) := by decide +kernel
theorem dX6_init_53 : decode cX6_init 53 = .ok (.iconst (-1), 1) := by decide +kernel
theorem dX6_init_54 : decode cX6_init 54 = .ok (.putfield 39, 3) := by decide +kernel
theorem dX6_init_57 : decode cX6_init 57 = .ok (.aload_n 0, 1) := by decide +kernel
theorem dX6_init_58 : decode cX6_init 58 = .ok (.iconst (-1), 1) := by decide +kernel
theorem dX6_init_59 : decode cX6_init 59 = .ok (.putfield 43, 3) := by decide +kernel
theorem dX6_init_62 : decode cX6_init 62 = .ok (.aload_n 0, 1) := by decide +kernel
theorem dX6_init_63 : decode cX6_init 63 = .ok (.iconst 0, 1) := by decide +kernel
theorem dX6_init_64 : decode cX6_init 64 = .ok (.putfield 46, 3) := by decide +kernel
theorem dX6_init_67 : decode cX6_init 67 = .ok (.aload_n 0, 1) := by decide +kernel
theorem dX6_init_68 : decode cX6_init 68 = .ok (.iconst 3, 1) := by decide +kernel
theorem dX6_init_69 : decode cX6_init 69 = .ok (.putfield 49, 3) := by decide +kernel
theorem dX6_init_72 : decode cX6_init 72 = .ok (.aload_n 0, 1) := by decide +kernel
theorem dX6_init_73 : decode cX6_init 73 = .ok (.iconst 3, 1) := by decide +kernel
theorem dX6_init_74 : decode cX6_init 74 = .ok (.putfield 52, 3) := by decide +kernel
theorem dX6_init_77 : decode cX6_init 77 = .ok (.return_, 1) := by decide +kernel
set_option maxRecDepth 20000 in
theorem ggX6_feed_X5_append : GoodIn wsX6_feed wsX5_append := goodIn_r _ [7, 8, 9, 19, 20] (by decide +kernel) (by decide +kernel)
set_option maxRecDepth 20000 in
theorem gX6_feed_X5_append : GoodIn wsX6_feed (wsV RX6 58 RX5 yX5_append wsX5_append) := goodIn_app (goodIn_of _ (by decide +kernel)) ggX6_feed_X5_append
theorem dX6_feed_0 : decode cX6_feed 0 = .ok (.aload_n 0, 1) := by decide +kernel
theorem dX6_feed_1 : decode cX6_feed 1 = .ok (.getfield 10, 3) := by decide +kernel
theorem dX6_feed_4 : decode cX6_feed 4 = .ok (.getfield 55, 3) := by decide +kernel
theorem dX6_feed_7 : decode cX6_feed 7 = .ok (.bipush 20, 2) := by decide +kernel
theorem dX6_feed_9 : decode cX6_feed 9 = .ok (.iadd, 1) := by decide +kernel
theorem dX6_feed_10 : decode cX6_feed 10 = .ok (.bipush 80, 2) := by decide +kernel
theorem dX6_feed_12 : decode cX6_feed 12 = .ok (.if_icmp .le 5, 3) := by decide +kernel
theorem dX6_feed_15 : decode cX6_feed 15 = .ok (.iconst (-1), 1) := by decide +kernel
theorem dX6_feed_16 : decode cX6_feed 16 = .ok (.ireturn, 1) := by decide +kernel
theorem dX6_feed_17 : decode cX6_feed 17 = .ok (.aload_n 0, 1) := by decide +kernel
theorem dX6_feed_18 : decode cX6_feed 18 = .ok (.getfield 10, 3) := by decide +kernel
theorem dX6_feed_21 : decode cX6_feed 21 = .ok (.iload_n 1, 1) := by decide +kernel
theorem dX6_feed_22 : decode cX6_feed 22 = .ok (.invokevirtual 58, 3) := by decide +kernel
theorem dX6_feed_25 : decode cX6_feed 25 = .ok (.aload_n 0, 1) := by decide +kernel
theorem dX6_feed_26 : decode cX6_feed 26 = .ok (.getfield 10, 3) := by decide +kernel
theorem dX6_feed_29 : decode cX6_feed 29 = .ok (.iload_n 2, 1) := by decide +kernel
theorem dX6_feed_30 : decode cX6_feed 30 = .ok (.invokevirtual 58, 3) := by decide +kernel
theorem dX6_feed_33 : decode cX6_feed 33 = .ok (.aload_n 0, 1) := by decide +kernel
theorem dX6_feed_34 : decode cX6_feed 34 = .ok (.getfield 10, 3) := by decide +kernel
theorem dX6_feed_37 : decode cX6_feed 37 = .ok (.iload_n 3, 1) := by decide +kernel
theorem dX6_feed_38 : decode cX6_feed 38 = .ok (.invokevirtual 58, 3) := by decide +kernel
theorem dX6_feed_41 : decode cX6_feed 41 = .ok (.aload_n 0, 1) := by decide +kernel
theorem dX6_feed_42 : decode cX6_feed 42 = .ok (.getfield 10, 3) := by decide +kernel
theorem dX6_feed_45 : decode cX6_feed 45 = .ok (.iload 4, 2) := by decide +kernel
theorem dX6_feed_47 : decode cX6_feed 47 = .ok (.invokevirtual 58, 3) := by decide +kernel
theorem dX6_feed_50 : decode cX6_feed 50 = .ok (.aload_n 0, 1) := by decide +kernel
theorem dX6_feed_51 : decode cX6_feed 51 = .ok (.getfield 10, 3) := by decide +kernel
theorem dX6_feed_54 : decode cX6_feed 54 = .ok (.iload 5, 2) := by decide +kernel
theorem dX6_feed_56 : decode cX6_feed 56 = .ok (.invokevirtual 58, 3) := by decide +kernel
theorem dX6_feed_59 : decode cX6_feed 59 = .ok (.aload_n 0, 1) := by decide +kernel
theorem dX6_feed_60 : decode cX6_feed 60 = .ok (.getfield 10, 3) := by decide +kernel
theorem dX6_feed_63 : decode cX6_feed 63 = .ok (.getfield 55, 3) := by decide +kernel
theorem dX6_feed_66 : decode cX6_feed 66 = .ok (.ireturn, 1) := by decide +kernel
set_option maxRecDepth 20000 in
theorem ggX6_law_X6_changeable : GoodIn wsX6_law wsX6_changeable := goodIn_r _ [8, 9, 10, 11, 12, 13, 14, 15, 16, 17, 18, 19, 20, 7, 21, 22, 23, 24, 25, 26, 145, 146, 147, 148, 149, 150, 151, 152, 153, 158, 159, 160] (by decide +kernel) (by decide +kernel)
set_option maxRecDepth 20000 in
theorem gX6_law_X6_changeable : GoodIn wsX6_law (wsV RX6 62 RX6 yX6_changeable wsX6_changeable) := goodIn_app (goodIn_of _ (by decide +kernel)) ggX6_law_X6_changeable
set_option maxRecDepth 20000 in
theorem ggX6_law_X5_offers : GoodIn wsX6_law wsX5_offers := goodIn_r _ [31, 32, 161, 162] (by decide +kernel) (by decide +kernel)
set_option maxRecDepth 20000 in
theorem gX6_law_X5_offers : GoodIn wsX6_law (wsV RX6 66 RX5 yX5_offers wsX5_offers) := goodIn_app (goodIn_of _ (by decide +kernel)) ggX6_law_X5_offers
set_option maxRecDepth 20000 in
theorem ggX6_law_X6_readTape : GoodIn wsX6_law wsX6_readTape := goodIn_r _ [36, 2, 37, 1, 38, 39, 40, 41, 42, 43, 44, 45, 46, 47, 48, 49, 50, 51, 52, 53, 54, 55, 56, 57, 58, 59, 60, 61, 62, 63, 30, 64, 32, 65, 66, 67, 68, 69, 70, 71, 72, 73, 74, 75, 76, 77, 78, 79, 80, 81, 82, 83, 84, 85, 86, 87, 88, 89, 90, 91, 92, 93, 94, 95, 96, 97, 98, 99, 100, 101, 102, 103, 104, 105, 106, 107, 108, 109, 110, 145, 146, 147, 148, 149, 150, 151, 152, 153, 163, 164, 165, 166, 167, 168, 169, 170, 161, 162] (by decide +kernel) (by decide +kernel)
set_option maxRecDepth 20000 in
theorem gX6_law_X6_readTape : GoodIn wsX6_law (wsV RX6 70 RX6 yX6_readTape wsX6_readTape) := goodIn_app (goodIn_of _ (by decide +kernel)) ggX6_law_X6_readTape
set_option maxRecDepth 20000 in
theorem ggX6_law_X3_formula : GoodIn wsX6_law wsX3_formula := goodIn_r _ [114, 115, 116, 117, 47, 77, 45, 118, 119, 120, 121, 122, 123, 124, 125, 126, 127, 128, 129, 130, 131, 132, 133, 134, 135, 136, 79, 80, 81, 137, 138, 139, 140, 141, 142, 143, 144, 171, 172, 163, 164, 165, 166, 167, 168, 169, 170] (by decide +kernel) (by decide +kernel)
set_option maxRecDepth 20000 in
theorem gX6_law_X3_formula : GoodIn wsX6_law (wsV RX6 73 RX3 yX3_formula wsX3_formula) := goodIn_app (goodIn_of _ (by decide +kernel)) ggX6_law_X3_formula
theorem dX6_law_0 : decode cX6_law 0 = .ok (.aload_n 0, 1) := by decide +kernel
theorem dX6_law_1 : decode cX6_law 1 = .ok (.iload_n 1, 1) := by decide +kernel
theorem dX6_law_2 : decode cX6_law 2 = .ok (.invokevirtual 62, 3) := by decide +kernel
theorem dX6_law_5 : decode cX6_law 5 = .ok (.astore_n 3, 1) := by decide +kernel
theorem dX6_law_6 : decode cX6_law 6 = .ok (.aload_n 3, 1) := by decide +kernel
theorem dX6_law_7 : decode cX6_law 7 = .ok (.ifnull 22, 3) := by decide +kernel
theorem dX6_law_10 : decode cX6_law 10 = .ok (.aload_n 0, 1) := by decide +kernel
theorem dX6_law_11 : decode cX6_law 11 = .ok (.getfield 10, 3) := by decide +kernel
theorem dX6_law_14 : decode cX6_law 14 = .ok (.iload_n 2, 1) := by decide +kernel
theorem dX6_law_15 : decode cX6_law 15 = .ok (.invokevirtual 66, 3) := by decide +kernel
theorem dX6_law_18 : decode cX6_law 18 = .ok (.ifCond .eq 11, 3) := by decide +kernel
theorem dX6_law_21 : decode cX6_law 21 = .ok (.aload_n 0, 1) := by decide +kernel
theorem dX6_law_22 : decode cX6_law 22 = .ok (.iload_n 2, 1) := by decide +kernel
theorem dX6_law_23 : decode cX6_law 23 = .ok (.invokevirtual 70, 3) := by decide +kernel
theorem dX6_law_26 : decode cX6_law 26 = .ok (.ifCond .ne 5, 3) := by decide +kernel
theorem dX6_law_29 : decode cX6_law 29 = .ok (.iconst 0, 1) := by decide +kernel
theorem dX6_law_30 : decode cX6_law 30 = .ok (.ireturn, 1) := by decide +kernel
theorem dX6_law_31 : decode cX6_law 31 = .ok (.aload_n 3, 1) := by decide +kernel
theorem dX6_law_32 : decode cX6_law 32 = .ok (.aload_n 0, 1) := by decide +kernel
theorem dX6_law_33 : decode cX6_law 33 = .ok (.getfield 21, 3) := by decide +kernel
theorem dX6_law_36 : decode cX6_law 36 = .ok (.invokevirtual 73, 3) := by decide +kernel
theorem dX6_law_39 : decode cX6_law 39 = .ok (.putfield 77, 3) := by decide +kernel
theorem dX6_law_42 : decode cX6_law 42 = .ok (.iconst 1, 1) := by decide +kernel
theorem dX6_law_43 : decode cX6_law 43 = .ok (.ireturn, 1) := by decide +kernel
set_option maxRecDepth 20000 in
theorem ggX6_picture_X6_changeable : GoodIn wsX6_picture wsX6_changeable := goodIn_r _ [8, 9, 10, 11, 12, 13, 14, 15, 16, 17, 18, 19, 20, 7, 21, 22, 23, 24, 25, 26, 158, 159, 160, 161, 162, 163, 164, 165, 166, 167, 168, 169] (by decide +kernel) (by decide +kernel)
set_option maxRecDepth 20000 in
theorem gX6_picture_X6_changeable : GoodIn wsX6_picture (wsV RX6 62 RX6 yX6_changeable wsX6_changeable) := goodIn_app (goodIn_of _ (by decide +kernel)) ggX6_picture_X6_changeable
set_option maxRecDepth 20000 in
theorem ggX6_picture_X5_offers : GoodIn wsX6_picture wsX5_offers := goodIn_r _ [31, 32, 170, 171] (by decide +kernel) (by decide +kernel)
set_option maxRecDepth 20000 in
theorem gX6_picture_X5_offers : GoodIn wsX6_picture (wsV RX6 66 RX5 yX5_offers wsX5_offers) := goodIn_app (goodIn_of _ (by decide +kernel)) ggX6_picture_X5_offers
set_option maxRecDepth 20000 in
theorem ggX6_picture_X6_readTape : GoodIn wsX6_picture wsX6_readTape := goodIn_r _ [36, 3, 37, 2, 38, 39, 40, 41, 42, 43, 44, 45, 46, 47, 48, 49, 50, 51, 52, 53, 54, 55, 56, 57, 58, 59, 60, 61, 62, 63, 30, 64, 32, 65, 66, 67, 68, 69, 70, 71, 72, 73, 74, 75, 76, 77, 78, 79, 80, 81, 82, 83, 84, 85, 86, 87, 88, 89, 90, 91, 92, 93, 94, 95, 96, 97, 98, 99, 100, 101, 102, 103, 104, 105, 106, 107, 108, 109, 110, 158, 159, 160, 161, 162, 163, 164, 165, 166, 172, 173, 174, 175, 176, 177, 178, 179, 170, 171] (by decide +kernel) (by decide +kernel)
set_option maxRecDepth 20000 in
theorem gX6_picture_X6_readTape : GoodIn wsX6_picture (wsV RX6 70 RX6 yX6_readTape wsX6_readTape) := goodIn_app (goodIn_of _ (by decide +kernel)) ggX6_picture_X6_readTape
set_option maxRecDepth 20000 in
theorem ggX6_picture_X3_formula : GoodIn wsX6_picture wsX3_formula := goodIn_r _ [114, 115, 116, 117, 47, 77, 45, 118, 119, 120, 121, 122, 123, 124, 125, 126, 127, 128, 129, 130, 131, 132, 133, 134, 135, 136, 79, 80, 81, 137, 138, 139, 140, 141, 142, 143, 144, 180, 181, 172, 173, 174, 175, 176, 177, 178, 179] (by decide +kernel) (by decide +kernel)
set_option maxRecDepth 20000 in
theorem gX6_picture_X3_formula : GoodIn wsX6_picture (wsV RX6 73 RX3 yX3_formula wsX3_formula) := goodIn_app (goodIn_of _ (by decide +kernel)) ggX6_picture_X3_formula
set_option maxRecDepth 20000 in
theorem ggX6_picture_X2_addPicture : GoodIn wsX6_picture wsX2_addPicture := goodIn_r _ [149, 150, 151, 152, 153, 20, 7, 21, 154, 155, 156, 157, 180, 181] (by decide +kernel) (by decide +kernel)
set_option maxRecDepth 20000 in
theorem gX6_picture_X2_addPicture : GoodIn wsX6_picture (wsV RX6 86 RX2 yX2_addPicture wsX2_addPicture) := goodIn_app (goodIn_of _ (by decide +kernel)) ggX6_picture_X2_addPicture
theorem dX6_picture_0 : decode cX6_picture 0 = .ok (.aload_n 0, 1) := by decide +kernel
theorem dX6_picture_1 : decode cX6_picture 1 = .ok (.iload_n 1, 1) := by decide +kernel
theorem dX6_picture_2 : decode cX6_picture 2 = .ok (.invokevirtual 62, 3) := by decide +kernel
theorem dX6_picture_5 : decode cX6_picture 5 = .ok (.astore_n 3, 1) := by decide +kernel
theorem dX6_picture_6 : decode cX6_picture 6 = .ok (.aload_n 3, 1) := by decide +kernel
theorem dX6_picture_7 : decode cX6_picture 7 = .ok (.ifnull 23, 3) := by decide +kernel
theorem dX6_picture_10 : decode cX6_picture 10 = .ok (.aload_n 3, 1) := by decide +kernel
theorem dX6_picture_11 : decode cX6_picture 11 = .ok (.getfield 83, 3) := by decide +kernel
theorem dX6_picture_14 : decode cX6_picture 14 = .ok (.bipush 12, 2) := by decide +kernel
theorem dX6_picture_16 : decode cX6_picture 16 = .ok (.if_icmp .ge 14, 3) := by decide +kernel
theorem dX6_picture_19 : decode cX6_picture 19 = .ok (.aload_n 0, 1) := by decide +kernel
theorem dX6_picture_20 : decode cX6_picture 20 = .ok (.getfield 10, 3) := by decide +kernel
theorem dX6_picture_23 : decode cX6_picture 23 = .ok (.iload_n 2, 1) := by decide +kernel
theorem dX6_picture_24 : decode cX6_picture 24 = .ok (.invokevirtual 66, 3) := by decide +kernel
theorem dX6_picture_27 : decode cX6_picture 27 = .ok (.ifCond .ne 6, 3) := by decide +kernel
theorem dX6_picture_30 : decode cX6_picture 30 = .ok (.bipush (-2), 2) := by decide +kernel
theorem dX6_picture_32 : decode cX6_picture 32 = .ok (.ireturn, 1) := by decide +kernel
theorem dX6_picture_33 : decode cX6_picture 33 = .ok (.aload_n 0, 1) := by decide +kernel
theorem dX6_picture_34 : decode cX6_picture 34 = .ok (.iload_n 2, 1) := by decide +kernel
theorem dX6_picture_35 : decode cX6_picture 35 = .ok (.invokevirtual 70, 3) := by decide +kernel
theorem dX6_picture_38 : decode cX6_picture 38 = .ok (.ifCond .eq 17, 3) := by decide +kernel
theorem dX6_picture_41 : decode cX6_picture 41 = .ok (.aload_n 3, 1) := by decide +kernel
theorem dX6_picture_42 : decode cX6_picture 42 = .ok (.aload_n 0, 1) := by decide +kernel
theorem dX6_picture_43 : decode cX6_picture 43 = .ok (.getfield 21, 3) := by decide +kernel
theorem dX6_picture_46 : decode cX6_picture 46 = .ok (.invokevirtual 73, 3) := by decide +kernel
theorem dX6_picture_49 : decode cX6_picture 49 = .ok (.invokevirtual 86, 3) := by decide +kernel
theorem dX6_picture_52 : decode cX6_picture 52 = .ok (.goto 4, 3) := by decide +kernel
theorem dX6_picture_55 : decode cX6_picture 55 = .ok (.iconst (-1), 1) := by decide +kernel
theorem dX6_picture_56 : decode cX6_picture 56 = .ok (.ireturn, 1) := by decide +kernel
theorem dX6_fault_0 : decode cX6_fault 0 = .ok (.aload_n 0, 1) := by decide +kernel
theorem dX6_fault_1 : decode cX6_fault 1 = .ok (.getfield 43, 3) := by decide +kernel
theorem dX6_fault_4 : decode cX6_fault 4 = .ok (.ireturn, 1) := by decide +kernel
set_option maxRecDepth 20000 in
theorem ggX6_tells_X6_formulaAt : GoodIn wsX6_tells wsX6_formulaAt := goodIn_r _ [6, 7, 8, 9, 10, 11, 12, 13, 14, 15, 16, 17, 18, 19, 20, 21, 22, 23, 24, 33, 34, 35, 36, 37, 38, 39, 40, 41, 42, 43, 44, 45, 46, 47, 48] (by decide +kernel) (by decide +kernel)
set_option maxRecDepth 20000 in
theorem gX6_tells_X6_formulaAt : GoodIn wsX6_tells (wsV RX6 90 RX6 yX6_formulaAt wsX6_formulaAt) := goodIn_app (goodIn_of _ (by decide +kernel)) ggX6_tells_X6_formulaAt
set_option maxRecDepth 20000 in
theorem ggX6_tells_X6_isCase : GoodIn wsX6_tells wsX6_isCase := goodIn_r _ [27] (by decide +kernel) (by decide +kernel)
set_option maxRecDepth 20000 in
theorem gX6_tells_X6_isCase : GoodIn wsX6_tells (va_wsS RX6 94 yX6_isCase wsX6_isCase) := goodIn_app (goodIn_of _ (by decide +kernel)) ggX6_tells_X6_isCase
set_option maxRecDepth 20000 in
theorem ggX6_tells_X6_bitAt : GoodIn wsX6_tells wsX6_bitAt := goodIn_r _ [30] (by decide +kernel) (by decide +kernel)
set_option maxRecDepth 20000 in
theorem gX6_tells_X6_bitAt : GoodIn wsX6_tells (va_wsS RX6 102 yX6_bitAt wsX6_bitAt) := goodIn_app (goodIn_of _ (by decide +kernel)) ggX6_tells_X6_bitAt
theorem dX6_tells_0 : decode cX6_tells 0 = .ok (.aload_n 0, 1) := by decide +kernel
theorem dX6_tells_1 : decode cX6_tells 1 = .ok (.iload_n 1, 1) := by decide +kernel
theorem dX6_tells_2 : decode cX6_tells 2 = .ok (.iload_n 2, 1) := by decide +kernel
theorem dX6_tells_3 : decode cX6_tells 3 = .ok (.invokevirtual 90, 3) := by decide +kernel
theorem dX6_tells_6 : decode cX6_tells 6 = .ok (.astore 4, 2) := by decide +kernel
theorem dX6_tells_8 : decode cX6_tells 8 = .ok (.aload 4, 2) := by decide +kernel
theorem dX6_tells_10 : decode cX6_tells 10 = .ok (.ifnull 10, 3) := by decide +kernel
theorem dX6_tells_13 : decode cX6_tells 13 = .ok (.iload_n 3, 1) := by decide +kernel
theorem dX6_tells_14 : decode cX6_tells 14 = .ok (.invokestatic 94, 3) := by decide +kernel
theorem dX6_tells_17 : decode cX6_tells 17 = .ok (.ifCond .ne 7, 3) := by decide +kernel
theorem dX6_tells_20 : decode cX6_tells 20 = .ok (.iconst (-1), 1) := by decide +kernel
theorem dX6_tells_21 : decode cX6_tells 21 = .ok (.goto 12, 3) := by decide +kernel
theorem dX6_tells_24 : decode cX6_tells 24 = .ok (.aload 4, 2) := by decide +kernel
theorem dX6_tells_26 : decode cX6_tells 26 = .ok (.getfield 97, 3) := by decide +kernel
theorem dX6_tells_29 : decode cX6_tells 29 = .ok (.iload_n 3, 1) := by decide +kernel
theorem dX6_tells_30 : decode cX6_tells 30 = .ok (.invokestatic 102, 3) := by decide +kernel
theorem dX6_tells_33 : decode cX6_tells 33 = .ok (.ireturn, 1) := by decide +kernel
set_option maxRecDepth 20000 in
theorem ggX6_written_X6_formulaAt : GoodIn wsX6_written wsX6_formulaAt := goodIn_r _ [5, 6, 7, 8, 9, 10, 11, 12, 13, 14, 15, 16, 17, 18, 19, 20, 21, 22, 23, 34, 35, 36, 37, 38, 39, 40, 41, 42, 43, 44, 45, 46, 47, 48, 49] (by decide +kernel) (by decide +kernel)
set_option maxRecDepth 20000 in
theorem gX6_written_X6_formulaAt : GoodIn wsX6_written (wsV RX6 90 RX6 yX6_formulaAt wsX6_formulaAt) := goodIn_app (goodIn_of _ (by decide +kernel)) ggX6_written_X6_formulaAt
set_option maxRecDepth 20000 in
theorem ggX6_written_X1_length : GoodIn wsX6_written wsX1_length := goodIn_r _ [28, 29, 50, 51] (by decide +kernel) (by decide +kernel)
set_option maxRecDepth 20000 in
theorem gX6_written_X1_length : GoodIn wsX6_written (wsV RX6 106 RX1 yX1_length wsX1_length) := goodIn_app (goodIn_of _ (by decide +kernel)) ggX6_written_X1_length
set_option maxRecDepth 20000 in
theorem ggX6_written_X1_byteAt : GoodIn wsX6_written wsX1_byteAt := goodIn_r _ [33, 29, 50, 51] (by decide +kernel) (by decide +kernel)
set_option maxRecDepth 20000 in
theorem gX6_written_X1_byteAt : GoodIn wsX6_written (wsV RX6 109 RX1 yX1_byteAt wsX1_byteAt) := goodIn_app (goodIn_of _ (by decide +kernel)) ggX6_written_X1_byteAt
theorem dX6_written_0 : decode cX6_written 0 = .ok (.aload_n 0, 1) := by decide +kernel
theorem dX6_written_1 : decode cX6_written 1 = .ok (.iload_n 1, 1) := by decide +kernel
theorem dX6_written_2 : decode cX6_written 2 = .ok (.iload_n 2, 1) := by decide +kernel
theorem dX6_written_3 : decode cX6_written 3 = .ok (.invokevirtual 90, 3) := by decide +kernel
theorem dX6_written_6 : decode cX6_written 6 = .ok (.astore 4, 2) := by decide +kernel
theorem dX6_written_8 : decode cX6_written 8 = .ok (.aload 4, 2) := by decide +kernel
theorem dX6_written_10 : decode cX6_written 10 = .ok (.ifnonnull 5, 3) := by decide +kernel
theorem dX6_written_13 : decode cX6_written 13 = .ok (.iconst (-1), 1) := by decide +kernel
theorem dX6_written_14 : decode cX6_written 14 = .ok (.ireturn, 1) := by decide +kernel
theorem dX6_written_15 : decode cX6_written 15 = .ok (.iload_n 3, 1) := by decide +kernel
theorem dX6_written_16 : decode cX6_written 16 = .ok (.iconst (-1), 1) := by decide +kernel
theorem dX6_written_17 : decode cX6_written 17 = .ok (.if_icmp .ne 11, 3) := by decide +kernel
theorem dX6_written_20 : decode cX6_written 20 = .ok (.aload 4, 2) := by decide +kernel
theorem dX6_written_22 : decode cX6_written 22 = .ok (.invokevirtual 106, 3) := by decide +kernel
theorem dX6_written_25 : decode cX6_written 25 = .ok (.goto 9, 3) := by decide +kernel
theorem dX6_written_28 : decode cX6_written 28 = .ok (.aload 4, 2) := by decide +kernel
theorem dX6_written_30 : decode cX6_written 30 = .ok (.iload_n 3, 1) := by decide +kernel
theorem dX6_written_31 : decode cX6_written 31 = .ok (.invokevirtual 109, 3) := by decide +kernel
theorem dX6_written_34 : decode cX6_written 34 = .ok (.ireturn, 1) := by decide +kernel
set_option maxRecDepth 20000 in
theorem ggX6_needs_X0_addNeed : GoodIn wsX6_needs wsX0_addNeed := goodIn_r _ [6, 7, 8, 9, 5, 10, 11, 12, 13, 14, 15, 16, 17, 27, 28, 29] (by decide +kernel) (by decide +kernel)
set_option maxRecDepth 20000 in
theorem gX6_needs_X0_addNeed : GoodIn wsX6_needs (wsV RX6 113 RX0 yX0_addNeed wsX0_addNeed) := goodIn_app (goodIn_of _ (by decide +kernel)) ggX6_needs_X0_addNeed
theorem dX6_needs_0 : decode cX6_needs 0 = .ok (.aload_n 0, 1) := by decide +kernel
theorem dX6_needs_1 : decode cX6_needs 1 = .ok (.getfield 28, 3) := by decide +kernel
theorem dX6_needs_4 : decode cX6_needs 4 = .ok (.iload_n 1, 1) := by decide +kernel
theorem dX6_needs_5 : decode cX6_needs 5 = .ok (.iload_n 2, 1) := by decide +kernel
theorem dX6_needs_6 : decode cX6_needs 6 = .ok (.invokevirtual 113, 3) := by decide +kernel
theorem dX6_needs_9 : decode cX6_needs 9 = .ok (.ireturn, 1) := by decide +kernel
set_option maxRecDepth 20000 in
theorem ggX6_open_X0_mayBegin : GoodIn wsX6_open wsX0_mayBegin := goodIn_r _ [6, 7, 8, 9, 10, 11, 12, 5, 13, 14, 15, 16, 17, 18, 19, 20, 21, 22, 23, 24, 34, 35, 36, 37, 38, 39, 40] (by decide +kernel) (by decide +kernel)
set_option maxRecDepth 20000 in
theorem gX6_open_X0_mayBegin : GoodIn wsX6_open (wsV RX6 117 RX0 yX0_mayBegin wsX0_mayBegin) := goodIn_app (goodIn_of _ (by decide +kernel)) ggX6_open_X0_mayBegin
theorem dX6_open_0 : decode cX6_open 0 = .ok (.iconst 0, 1) := by decide +kernel
theorem dX6_open_1 : decode cX6_open 1 = .ok (.istore_n 1, 1) := by decide +kernel
theorem dX6_open_2 : decode cX6_open 2 = .ok (.iload_n 1, 1) := by decide +kernel
theorem dX6_open_3 : decode cX6_open 3 = .ok (.bipush 6, 2) := by decide +kernel
theorem dX6_open_5 : decode cX6_open 5 = .ok (.if_icmp .ge 22, 3) := by decide +kernel
theorem dX6_open_8 : decode cX6_open 8 = .ok (.aload_n 0, 1) := by decide +kernel
theorem dX6_open_9 : decode cX6_open 9 = .ok (.getfield 28, 3) := by decide +kernel
theorem dX6_open_12 : decode cX6_open 12 = .ok (.iload_n 1, 1) := by decide +kernel
theorem dX6_open_13 : decode cX6_open 13 = .ok (.invokevirtual 117, 3) := by decide +kernel
theorem dX6_open_16 : decode cX6_open 16 = .ok (.ifCond .eq 5, 3) := by decide +kernel
theorem dX6_open_19 : decode cX6_open 19 = .ok (.iload_n 1, 1) := by decide +kernel
theorem dX6_open_20 : decode cX6_open 20 = .ok (.ireturn, 1) := by decide +kernel
theorem dX6_open_21 : decode cX6_open 21 = .ok (.iinc 1 1, 3) := by decide +kernel
theorem dX6_open_24 : decode cX6_open 24 = .ok (.goto (-22), 3) := by decide +kernel
theorem dX6_open_27 : decode cX6_open 27 = .ok (.iconst (-1), 1) := by decide +kernel
theorem dX6_open_28 : decode cX6_open 28 = .ok (.ireturn, 1) := by decide +kernel
set_option maxRecDepth 20000 in
theorem ggX6_begin_X0_mayBegin : GoodIn wsX6_begin wsX0_mayBegin := goodIn_r _ [8, 9, 10, 11, 12, 13, 14, 7, 15, 16, 17, 18, 19, 20, 21, 22, 23, 24, 25, 26, 53, 54, 55, 56, 57, 58, 59] (by decide +kernel) (by decide +kernel)
set_option maxRecDepth 20000 in
theorem gX6_begin_X0_mayBegin : GoodIn wsX6_begin (wsV RX6 117 RX0 yX0_mayBegin wsX0_mayBegin) := goodIn_app (goodIn_of _ (by decide +kernel)) ggX6_begin_X0_mayBegin
set_option maxRecDepth 20000 in
theorem ggX6_begin_X4_clear : GoodIn wsX6_begin wsX4_clear := goodIn_r _ [31, 32, 33, 34, 35, 36, 37, 38, 39, 40, 41, 42, 43, 60, 61, 62, 63, 64, 65, 66, 67, 68] (by decide +kernel) (by decide +kernel)
set_option maxRecDepth 20000 in
theorem gX6_begin_X4_clear : GoodIn wsX6_begin (wsV RX6 120 RX4 yX4_clear wsX4_clear) := goodIn_app (goodIn_of _ (by decide +kernel)) ggX6_begin_X4_clear
theorem dX6_begin_0 : decode cX6_begin 0 = .ok (.aload_n 0, 1) := by decide +kernel
theorem dX6_begin_1 : decode cX6_begin 1 = .ok (.getfield 28, 3) := by decide +kernel
theorem dX6_begin_4 : decode cX6_begin 4 = .ok (.iload_n 1, 1) := by decide +kernel
theorem dX6_begin_5 : decode cX6_begin 5 = .ok (.invokevirtual 117, 3) := by decide +kernel
theorem dX6_begin_8 : decode cX6_begin 8 = .ok (.ifCond .ne 5, 3) := by decide +kernel
theorem dX6_begin_11 : decode cX6_begin 11 = .ok (.iconst 0, 1) := by decide +kernel
theorem dX6_begin_12 : decode cX6_begin 12 = .ok (.ireturn, 1) := by decide +kernel
theorem dX6_begin_13 : decode cX6_begin 13 = .ok (.aload_n 0, 1) := by decide +kernel
theorem dX6_begin_14 : decode cX6_begin 14 = .ok (.iload_n 1, 1) := by decide +kernel
theorem dX6_begin_15 : decode cX6_begin 15 = .ok (.putfield 39, 3) := by decide +kernel
theorem dX6_begin_18 : decode cX6_begin 18 = .ok (.aload_n 0, 1) := by decide +kernel
theorem dX6_begin_19 : decode cX6_begin 19 = .ok (.getfield 35, 3) := by decide +kernel
theorem dX6_begin_22 : decode cX6_begin 22 = .ok (.invokevirtual 120, 3) := by decide +kernel
theorem dX6_begin_25 : decode cX6_begin 25 = .ok (.iconst 1, 1) := by decide +kernel
theorem dX6_begin_26 : decode cX6_begin 26 = .ok (.ireturn, 1) := by decide +kernel
set_option maxRecDepth 20000 in
theorem ggX6_set_X6_endIfDone : GoodIn wsX6_set wsX6_endIfDone := goodIn_r _ [8, 9, 10, 11, 3, 12, 13, 14, 15, 16, 17, 18, 19, 20, 21, 22, 23, 24, 25, 26, 27, 28, 29, 30, 31, 32, 33, 34, 35, 36, 37, 38, 39, 40, 41, 42] (by decide +kernel) (by decide +kernel)
set_option maxRecDepth 20000 in
theorem gX6_set_X6_endIfDone : GoodIn wsX6_set (wsV RX6 123 RX6 yX6_endIfDone wsX6_endIfDone) := goodIn_app (goodIn_of _ (by decide +kernel)) ggX6_set_X6_endIfDone
theorem dX6_set_0 : decode cX6_set 0 = .ok (.iload_n 1, 1) := by decide +kernel
theorem dX6_set_1 : decode cX6_set 1 = .ok (.tableswitch 88 0 2 #[27, 45, 64], 27) := by decide +kernel
theorem dX6_set_28 : decode cX6_set 28 = .ok (.iload_n 2, 1) := by decide +kernel
theorem dX6_set_29 : decode cX6_set 29 = .ok (.ifCond .lt 8, 3) := by decide +kernel
theorem dX6_set_32 : decode cX6_set 32 = .ok (.iload_n 2, 1) := by decide +kernel
theorem dX6_set_33 : decode cX6_set 33 = .ok (.iconst 3, 1) := by decide +kernel
theorem dX6_set_34 : decode cX6_set 34 = .ok (.if_icmp .le 5, 3) := by decide +kernel
theorem dX6_set_37 : decode cX6_set 37 = .ok (.iconst 0, 1) := by decide +kernel
theorem dX6_set_38 : decode cX6_set 38 = .ok (.ireturn, 1) := by decide +kernel
theorem dX6_set_39 : decode cX6_set 39 = .ok (.aload_n 0, 1) := by decide +kernel
theorem dX6_set_40 : decode cX6_set 40 = .ok (.iload_n 2, 1) := by decide +kernel
theorem dX6_set_41 : decode cX6_set 41 = .ok (.putfield 46, 3) := by decide +kernel
theorem dX6_set_44 : decode cX6_set 44 = .ok (.iconst 1, 1) := by decide +kernel
theorem dX6_set_45 : decode cX6_set 45 = .ok (.ireturn, 1) := by decide +kernel
theorem dX6_set_46 : decode cX6_set 46 = .ok (.iload_n 2, 1) := by decide +kernel
theorem dX6_set_47 : decode cX6_set 47 = .ok (.iconst 1, 1) := by decide +kernel
theorem dX6_set_48 : decode cX6_set 48 = .ok (.if_icmp .lt 8, 3) := by decide +kernel
theorem dX6_set_51 : decode cX6_set 51 = .ok (.iload_n 2, 1) := by decide +kernel
theorem dX6_set_52 : decode cX6_set 52 = .ok (.iconst 5, 1) := by decide +kernel
theorem dX6_set_53 : decode cX6_set 53 = .ok (.if_icmp .le 5, 3) := by decide +kernel
theorem dX6_set_56 : decode cX6_set 56 = .ok (.iconst 0, 1) := by decide +kernel
theorem dX6_set_57 : decode cX6_set 57 = .ok (.ireturn, 1) := by decide +kernel
theorem dX6_set_58 : decode cX6_set 58 = .ok (.aload_n 0, 1) := by decide +kernel
theorem dX6_set_59 : decode cX6_set 59 = .ok (.iload_n 2, 1) := by decide +kernel
theorem dX6_set_60 : decode cX6_set 60 = .ok (.putfield 49, 3) := by decide +kernel
theorem dX6_set_63 : decode cX6_set 63 = .ok (.iconst 1, 1) := by decide +kernel
theorem dX6_set_64 : decode cX6_set 64 = .ok (.ireturn, 1) := by decide +kernel
theorem dX6_set_65 : decode cX6_set 65 = .ok (.iload_n 2, 1) := by decide +kernel
theorem dX6_set_66 : decode cX6_set 66 = .ok (.iconst 1, 1) := by decide +kernel
theorem dX6_set_67 : decode cX6_set 67 = .ok (.if_icmp .lt 9, 3) := by decide +kernel
theorem dX6_set_70 : decode cX6_set 70 = .ok (.iload_n 2, 1) := by decide +kernel
theorem dX6_set_71 : decode cX6_set 71 = .ok (.bipush 8, 2) := by decide +kernel
theorem dX6_set_73 : decode cX6_set 73 = .ok (.if_icmp .le 5, 3) := by decide +kernel
theorem dX6_set_76 : decode cX6_set 76 = .ok (.iconst 0, 1) := by decide +kernel
theorem dX6_set_77 : decode cX6_set 77 = .ok (.ireturn, 1) := by decide +kernel
theorem dX6_set_78 : decode cX6_set 78 = .ok (.aload_n 0, 1) := by decide +kernel
theorem dX6_set_79 : decode cX6_set 79 = .ok (.iload_n 2, 1) := by decide +kernel
theorem dX6_set_80 : decode cX6_set 80 = .ok (.putfield 52, 3) := by decide +kernel
theorem dX6_set_83 : decode cX6_set 83 = .ok (.aload_n 0, 1) := by decide +kernel
theorem dX6_set_84 : decode cX6_set 84 = .ok (.invokevirtual 123, 3) := by decide +kernel
theorem dX6_set_87 : decode cX6_set 87 = .ok (.iconst 1, 1) := by decide +kernel
theorem dX6_set_88 : decode cX6_set 88 = .ok (.ireturn, 1) := by decide +kernel
theorem dX6_set_89 : decode cX6_set 89 = .ok (.iconst 0, 1) := by decide +kernel
theorem dX6_set_90 : decode cX6_set 90 = .ok (.ireturn, 1) := by decide +kernel
set_option maxRecDepth 20000 in
theorem ggX6_answer_X6_begunLaw : GoodIn wsX6_answer wsX6_begunLaw := goodIn_r _ [10, 2, 11, 12, 13, 9, 14, 1, 15, 16, 17, 18, 19, 20, 21, 22, 23, 24, 25, 26, 27, 28, 29, 30, 31, 65, 66, 67, 68, 69, 70, 71, 72, 73, 85, 86, 87, 88, 89, 90, 91] (by decide +kernel) (by decide +kernel)
set_option maxRecDepth 20000 in
theorem gX6_answer_X6_begunLaw : GoodIn wsX6_answer (wsV RX6 126 RX6 yX6_begunLaw wsX6_begunLaw) := goodIn_app (goodIn_of _ (by decide +kernel)) ggX6_answer_X6_begunLaw
set_option maxRecDepth 20000 in
theorem ggX6_answer_X0_isDone : GoodIn wsX6_answer wsX0_isDone := goodIn_r _ [35, 36, 22, 23, 19, 24, 37, 9, 38, 89, 90, 91] (by decide +kernel) (by decide +kernel)
set_option maxRecDepth 20000 in
theorem gX6_answer_X0_isDone : GoodIn wsX6_answer (wsV RX6 129 RX0 yX0_isDone wsX0_isDone) := goodIn_app (goodIn_of _ (by decide +kernel)) ggX6_answer_X0_isDone
set_option maxRecDepth 20000 in
theorem ggX6_answer_X6_isCase : GoodIn wsX6_answer wsX6_isCase := goodIn_r _ [41] (by decide +kernel) (by decide +kernel)
set_option maxRecDepth 20000 in
theorem gX6_answer_X6_isCase : GoodIn wsX6_answer (va_wsS RX6 94 yX6_isCase wsX6_isCase) := goodIn_app (goodIn_of _ (by decide +kernel)) ggX6_answer_X6_isCase
set_option maxRecDepth 20000 in
theorem ggX6_answer_X6_bitAt : GoodIn wsX6_answer wsX6_bitAt := goodIn_r _ [38] (by decide +kernel) (by decide +kernel)
set_option maxRecDepth 20000 in
theorem gX6_answer_X6_bitAt : GoodIn wsX6_answer (va_wsS RX6 102 yX6_bitAt wsX6_bitAt) := goodIn_app (goodIn_of _ (by decide +kernel)) ggX6_answer_X6_bitAt
set_option maxRecDepth 20000 in
theorem ggX6_answer_X4_addAnswer : GoodIn wsX6_answer wsX4_addAnswer := goodIn_r _ [47, 48, 49, 50, 51, 52, 53, 54, 40, 9, 41, 37, 38, 74, 75, 76, 77, 78, 79, 80, 81, 82] (by decide +kernel) (by decide +kernel)
set_option maxRecDepth 20000 in
theorem gX6_answer_X4_addAnswer : GoodIn wsX6_answer (wsV RX6 135 RX4 yX4_addAnswer wsX4_addAnswer) := goodIn_app (goodIn_of _ (by decide +kernel)) ggX6_answer_X4_addAnswer
set_option maxRecDepth 20000 in
theorem ggX6_answer_X6_endIfDone : GoodIn wsX6_answer wsX6_endIfDone := goodIn_r _ [58, 2, 3, 59, 60, 1, 61, 62, 63, 19, 64, 36, 22, 23, 24, 65, 66, 67, 68, 69, 70, 71, 72, 73, 74, 75, 76, 77, 78, 79, 80, 81, 82, 89, 90, 91] (by decide +kernel) (by decide +kernel)
set_option maxRecDepth 20000 in
theorem gX6_answer_X6_endIfDone : GoodIn wsX6_answer (wsV RX6 123 RX6 yX6_endIfDone wsX6_endIfDone) := goodIn_app (goodIn_of _ (by decide +kernel)) ggX6_answer_X6_endIfDone
theorem dX6_answer_0 : decode cX6_answer 0 = .ok (.aload_n 0, 1) := by decide +kernel
theorem dX6_answer_1 : decode cX6_answer 1 = .ok (.invokevirtual 126, 3) := by decide +kernel
theorem dX6_answer_4 : decode cX6_answer 4 = .ok (.astore_n 3, 1) := by decide +kernel
theorem dX6_answer_5 : decode cX6_answer 5 = .ok (.aload_n 3, 1) := by decide +kernel
theorem dX6_answer_6 : decode cX6_answer 6 = .ok (.ifnull 24, 3) := by decide +kernel
theorem dX6_answer_9 : decode cX6_answer 9 = .ok (.aload_n 0, 1) := by decide +kernel
theorem dX6_answer_10 : decode cX6_answer 10 = .ok (.getfield 28, 3) := by decide +kernel
theorem dX6_answer_13 : decode cX6_answer 13 = .ok (.aload_n 0, 1) := by decide +kernel
theorem dX6_answer_14 : decode cX6_answer 14 = .ok (.getfield 39, 3) := by decide +kernel
theorem dX6_answer_17 : decode cX6_answer 17 = .ok (.invokevirtual 129, 3) := by decide +kernel
theorem dX6_answer_20 : decode cX6_answer 20 = .ok (.ifCond .ne 10, 3) := by decide +kernel
theorem dX6_answer_23 : decode cX6_answer 23 = .ok (.iload_n 1, 1) := by decide +kernel
theorem dX6_answer_24 : decode cX6_answer 24 = .ok (.invokestatic 94, 3) := by decide +kernel
theorem dX6_answer_27 : decode cX6_answer 27 = .ok (.ifCond .ne 5, 3) := by decide +kernel
theorem dX6_answer_30 : decode cX6_answer 30 = .ok (.iconst (-1), 1) := by decide +kernel
theorem dX6_answer_31 : decode cX6_answer 31 = .ok (.ireturn, 1) := by decide +kernel
theorem dX6_answer_32 : decode cX6_answer 32 = .ok (.iload_n 2, 1) := by decide +kernel
theorem dX6_answer_33 : decode cX6_answer 33 = .ok (.ifCond .lt 20, 3) := by decide +kernel
theorem dX6_answer_36 : decode cX6_answer 36 = .ok (.iload_n 2, 1) := by decide +kernel
theorem dX6_answer_37 : decode cX6_answer 37 = .ok (.iconst 1, 1) := by decide +kernel
theorem dX6_answer_38 : decode cX6_answer 38 = .ok (.if_icmp .gt 15, 3) := by decide +kernel
theorem dX6_answer_41 : decode cX6_answer 41 = .ok (.aload_n 0, 1) := by decide +kernel
theorem dX6_answer_42 : decode cX6_answer 42 = .ok (.getfield 35, 3) := by decide +kernel
theorem dX6_answer_45 : decode cX6_answer 45 = .ok (.getfield 132, 3) := by decide +kernel
theorem dX6_answer_48 : decode cX6_answer 48 = .ok (.bipush 40, 2) := by decide +kernel
theorem dX6_answer_50 : decode cX6_answer 50 = .ok (.if_icmp .lt 5, 3) := by decide +kernel
theorem dX6_answer_53 : decode cX6_answer 53 = .ok (.iconst (-1), 1) := by decide +kernel
theorem dX6_answer_54 : decode cX6_answer 54 = .ok (.ireturn, 1) := by decide +kernel
theorem dX6_answer_55 : decode cX6_answer 55 = .ok (.aload_n 3, 1) := by decide +kernel
theorem dX6_answer_56 : decode cX6_answer 56 = .ok (.getfield 97, 3) := by decide +kernel
theorem dX6_answer_59 : decode cX6_answer 59 = .ok (.iload_n 1, 1) := by decide +kernel
theorem dX6_answer_60 : decode cX6_answer 60 = .ok (.invokestatic 102, 3) := by decide +kernel
theorem dX6_answer_63 : decode cX6_answer 63 = .ok (.iload_n 2, 1) := by decide +kernel
theorem dX6_answer_64 : decode cX6_answer 64 = .ok (.if_icmp .ne 7, 3) := by decide +kernel
theorem dX6_answer_67 : decode cX6_answer 67 = .ok (.iconst 1, 1) := by decide +kernel
theorem dX6_answer_68 : decode cX6_answer 68 = .ok (.goto 4, 3) := by decide +kernel
theorem dX6_answer_71 : decode cX6_answer 71 = .ok (.iconst 0, 1) := by decide +kernel
theorem dX6_answer_72 : decode cX6_answer 72 = .ok (.istore 4, 2) := by decide +kernel
theorem dX6_answer_74 : decode cX6_answer 74 = .ok (.aload_n 0, 1) := by decide +kernel
theorem dX6_answer_75 : decode cX6_answer 75 = .ok (.getfield 35, 3) := by decide +kernel
theorem dX6_answer_78 : decode cX6_answer 78 = .ok (.iload_n 1, 1) := by decide +kernel
theorem dX6_answer_79 : decode cX6_answer 79 = .ok (.iload_n 2, 1) := by decide +kernel
theorem dX6_answer_80 : decode cX6_answer 80 = .ok (.iload 4, 2) := by decide +kernel
theorem dX6_answer_82 : decode cX6_answer 82 = .ok (.invokevirtual 135, 3) := by decide +kernel
theorem dX6_answer_85 : decode cX6_answer 85 = .ok (.aload_n 0, 1) := by decide +kernel
theorem dX6_answer_86 : decode cX6_answer 86 = .ok (.invokevirtual 123, 3) := by decide +kernel
theorem dX6_answer_89 : decode cX6_answer 89 = .ok (.iload 4, 2) := by decide +kernel
theorem dX6_answer_91 : decode cX6_answer 91 = .ok (.ifCond .eq 7, 3) := by decide +kernel
theorem dX6_answer_94 : decode cX6_answer 94 = .ok (.iconst 1, 1) := by decide +kernel
theorem dX6_answer_95 : decode cX6_answer 95 = .ok (.goto 4, 3) := by decide +kernel
theorem dX6_answer_98 : decode cX6_answer 98 = .ok (.iconst 0, 1) := by decide +kernel
theorem dX6_answer_99 : decode cX6_answer 99 = .ok (.ireturn, 1) := by decide +kernel
set_option maxRecDepth 20000 in
theorem ggX6_pictureOf_X0_lessonAt : GoodIn wsX6_pictureOf wsX0_lessonAt := goodIn_r _ [10, 11, 12, 13, 9, 14, 69, 70, 71] (by decide +kernel) (by decide +kernel)
set_option maxRecDepth 20000 in
theorem gX6_pictureOf_X0_lessonAt : GoodIn wsX6_pictureOf (wsV RX6 139 RX0 yX0_lessonAt wsX0_lessonAt) := goodIn_app (goodIn_of _ (by decide +kernel)) ggX6_pictureOf_X0_lessonAt
set_option maxRecDepth 20000 in
theorem ggX6_pictureOf_X2_pictureAt : GoodIn wsX6_pictureOf wsX2_pictureAt := goodIn_r _ [19, 20, 21, 72, 73, 74, 75] (by decide +kernel) (by decide +kernel)
set_option maxRecDepth 20000 in
theorem gX6_pictureOf_X2_pictureAt : GoodIn wsX6_pictureOf (wsV RX6 142 RX2 yX2_pictureAt wsX2_pictureAt) := goodIn_app (goodIn_of _ (by decide +kernel)) ggX6_pictureOf_X2_pictureAt
set_option maxRecDepth 20000 in
theorem ggX6_pictureOf_X4_slipsOf : GoodIn wsX6_pictureOf wsX4_slipsOf := goodIn_r _ [26, 27, 28, 29, 25, 30, 31, 32, 33, 34, 35, 36, 37, 76, 77, 78, 79, 80, 81, 82, 83, 84] (by decide +kernel) (by decide +kernel)
set_option maxRecDepth 20000 in
theorem gX6_pictureOf_X4_slipsOf : GoodIn wsX6_pictureOf (wsV RX6 146 RX4 yX4_slipsOf wsX4_slipsOf) := goodIn_app (goodIn_of _ (by decide +kernel)) ggX6_pictureOf_X4_slipsOf
set_option maxRecDepth 20000 in
theorem ggX6_pictureOf_X2_pathOf : GoodIn wsX6_pictureOf wsX2_pathOf := goodIn_r _ [41, 20, 42, 43, 44, 45, 18, 46, 47, 48, 49, 50, 51, 52, 53, 54, 55, 56, 57, 36, 34, 37, 72, 73, 74, 75] (by decide +kernel) (by decide +kernel)
set_option maxRecDepth 20000 in
theorem gX6_pictureOf_X2_pathOf : GoodIn wsX6_pictureOf (wsV RX6 149 RX2 yX2_pathOf wsX2_pathOf) := goodIn_app (goodIn_of _ (by decide +kernel)) ggX6_pictureOf_X2_pathOf
theorem dX6_pictureOf_0 : decode cX6_pictureOf 0 = .ok (.aload_n 0, 1) := by decide +kernel
theorem dX6_pictureOf_1 : decode cX6_pictureOf 1 = .ok (.getfield 28, 3) := by decide +kernel
theorem dX6_pictureOf_4 : decode cX6_pictureOf 4 = .ok (.aload_n 0, 1) := by decide +kernel
theorem dX6_pictureOf_5 : decode cX6_pictureOf 5 = .ok (.getfield 39, 3) := by decide +kernel
theorem dX6_pictureOf_8 : decode cX6_pictureOf 8 = .ok (.invokevirtual 139, 3) := by decide +kernel
theorem dX6_pictureOf_11 : decode cX6_pictureOf 11 = .ok (.astore_n 3, 1) := by decide +kernel
theorem dX6_pictureOf_12 : decode cX6_pictureOf 12 = .ok (.aload_n 3, 1) := by decide +kernel
theorem dX6_pictureOf_13 : decode cX6_pictureOf 13 = .ok (.ifnonnull 5, 3) := by decide +kernel
theorem dX6_pictureOf_16 : decode cX6_pictureOf 16 = .ok (.iconst (-1), 1) := by decide +kernel
theorem dX6_pictureOf_17 : decode cX6_pictureOf 17 = .ok (.ireturn, 1) := by decide +kernel
theorem dX6_pictureOf_18 : decode cX6_pictureOf 18 = .ok (.aload_n 3, 1) := by decide +kernel
theorem dX6_pictureOf_19 : decode cX6_pictureOf 19 = .ok (.iload_n 1, 1) := by decide +kernel
theorem dX6_pictureOf_20 : decode cX6_pictureOf 20 = .ok (.invokevirtual 142, 3) := by decide +kernel
theorem dX6_pictureOf_23 : decode cX6_pictureOf 23 = .ok (.astore 4, 2) := by decide +kernel
theorem dX6_pictureOf_25 : decode cX6_pictureOf 25 = .ok (.aload 4, 2) := by decide +kernel
theorem dX6_pictureOf_27 : decode cX6_pictureOf 27 = .ok (.ifnonnull 5, 3) := by decide +kernel
theorem dX6_pictureOf_30 : decode cX6_pictureOf 30 = .ok (.iconst (-1), 1) := by decide +kernel
theorem dX6_pictureOf_31 : decode cX6_pictureOf 31 = .ok (.ireturn, 1) := by decide +kernel
theorem dX6_pictureOf_32 : decode cX6_pictureOf 32 = .ok (.iload_n 2, 1) := by decide +kernel
theorem dX6_pictureOf_33 : decode cX6_pictureOf 33 = .ok (.tableswitch 71 0 2 #[27, 40, 65], 27) := by decide +kernel
theorem dX6_pictureOf_60 : decode cX6_pictureOf 60 = .ok (.aload_n 0, 1) := by decide +kernel
theorem dX6_pictureOf_61 : decode cX6_pictureOf 61 = .ok (.getfield 35, 3) := by decide +kernel
theorem dX6_pictureOf_64 : decode cX6_pictureOf 64 = .ok (.aload 4, 2) := by decide +kernel
theorem dX6_pictureOf_66 : decode cX6_pictureOf 66 = .ok (.getfield 97, 3) := by decide +kernel
theorem dX6_pictureOf_69 : decode cX6_pictureOf 69 = .ok (.invokevirtual 146, 3) := by decide +kernel
theorem dX6_pictureOf_72 : decode cX6_pictureOf 72 = .ok (.ireturn, 1) := by decide +kernel
theorem dX6_pictureOf_73 : decode cX6_pictureOf 73 = .ok (.aload_n 0, 1) := by decide +kernel
theorem dX6_pictureOf_74 : decode cX6_pictureOf 74 = .ok (.getfield 35, 3) := by decide +kernel
theorem dX6_pictureOf_77 : decode cX6_pictureOf 77 = .ok (.aload 4, 2) := by decide +kernel
theorem dX6_pictureOf_79 : decode cX6_pictureOf 79 = .ok (.getfield 97, 3) := by decide +kernel
theorem dX6_pictureOf_82 : decode cX6_pictureOf 82 = .ok (.invokevirtual 146, 3) := by decide +kernel
theorem dX6_pictureOf_85 : decode cX6_pictureOf 85 = .ok (.aload_n 0, 1) := by decide +kernel
theorem dX6_pictureOf_86 : decode cX6_pictureOf 86 = .ok (.getfield 46, 3) := by decide +kernel
theorem dX6_pictureOf_89 : decode cX6_pictureOf 89 = .ok (.if_icmp .gt 7, 3) := by decide +kernel
theorem dX6_pictureOf_92 : decode cX6_pictureOf 92 = .ok (.iconst 1, 1) := by decide +kernel
theorem dX6_pictureOf_93 : decode cX6_pictureOf 93 = .ok (.goto 4, 3) := by decide +kernel
theorem dX6_pictureOf_96 : decode cX6_pictureOf 96 = .ok (.iconst 0, 1) := by decide +kernel
theorem dX6_pictureOf_97 : decode cX6_pictureOf 97 = .ok (.ireturn, 1) := by decide +kernel
theorem dX6_pictureOf_98 : decode cX6_pictureOf 98 = .ok (.aload_n 3, 1) := by decide +kernel
theorem dX6_pictureOf_99 : decode cX6_pictureOf 99 = .ok (.iload_n 1, 1) := by decide +kernel
theorem dX6_pictureOf_100 : decode cX6_pictureOf 100 = .ok (.invokevirtual 149, 3) := by decide +kernel
theorem dX6_pictureOf_103 : decode cX6_pictureOf 103 = .ok (.ireturn, 1) := by decide +kernel
theorem dX6_pictureOf_104 : decode cX6_pictureOf 104 = .ok (.iconst (-1), 1) := by decide +kernel
theorem dX6_pictureOf_105 : decode cX6_pictureOf 105 = .ok (.ireturn, 1) := by decide +kernel
set_option maxRecDepth 20000 in
theorem ggX6_next_X0_lessonAt : GoodIn wsX6_next wsX0_lessonAt := goodIn_r _ [9, 10, 11, 12, 8, 13, 78, 79, 80] (by decide +kernel) (by decide +kernel)
set_option maxRecDepth 20000 in
theorem gX6_next_X0_lessonAt : GoodIn wsX6_next (wsV RX6 139 RX0 yX0_lessonAt wsX0_lessonAt) := goodIn_app (goodIn_of _ (by decide +kernel)) ggX6_next_X0_lessonAt
set_option maxRecDepth 20000 in
theorem ggX6_next_X6_leftOf : GoodIn wsX6_next wsX6_leftOf := goodIn_r _ [18, 19, 3, 20, 21, 22, 23, 24, 25, 26, 27, 28, 29, 30, 31, 32, 33, 34, 35, 36, 37, 38, 39, 40, 17, 41, 42, 43, 81, 82, 83, 84, 60, 61, 62, 63, 64, 65, 66, 67, 68, 85, 86, 69, 70, 71, 72, 73, 74, 75, 76, 77] (by decide +kernel) (by decide +kernel)
set_option maxRecDepth 20000 in
theorem gX6_next_X6_leftOf : GoodIn wsX6_next (wsV RX6 152 RX6 yX6_leftOf wsX6_leftOf) := goodIn_app (goodIn_of _ (by decide +kernel)) ggX6_next_X6_leftOf
set_option maxRecDepth 20000 in
theorem ggX6_next_X2_partingCase : GoodIn wsX6_next wsX2_partingCase := goodIn_r _ [47, 48, 49, 50, 51, 52, 53, 54, 55, 56, 57, 58, 59, 42, 17, 43, 81, 82, 83, 84] (by decide +kernel) (by decide +kernel)
set_option maxRecDepth 20000 in
theorem gX6_next_X2_partingCase : GoodIn wsX6_next (wsV RX6 159 RX2 yX2_partingCase wsX2_partingCase) := goodIn_app (goodIn_of _ (by decide +kernel)) ggX6_next_X2_partingCase
theorem dX6_next_0 : decode cX6_next 0 = .ok (.aload_n 0, 1) := by decide +kernel
theorem dX6_next_1 : decode cX6_next 1 = .ok (.getfield 28, 3) := by decide +kernel
theorem dX6_next_4 : decode cX6_next 4 = .ok (.aload_n 0, 1) := by decide +kernel
theorem dX6_next_5 : decode cX6_next 5 = .ok (.getfield 39, 3) := by decide +kernel
theorem dX6_next_8 : decode cX6_next 8 = .ok (.invokevirtual 139, 3) := by decide +kernel
theorem dX6_next_11 : decode cX6_next 11 = .ok (.astore_n 1, 1) := by decide +kernel
theorem dX6_next_12 : decode cX6_next 12 = .ok (.aload_n 1, 1) := by decide +kernel
theorem dX6_next_13 : decode cX6_next 13 = .ok (.ifnonnull 7, 3) := by decide +kernel
theorem dX6_next_16 : decode cX6_next 16 = .ok (.iconst (-1), 1) := by decide +kernel
theorem dX6_next_17 : decode cX6_next 17 = .ok (.goto 19, 3) := by decide +kernel
theorem dX6_next_20 : decode cX6_next 20 = .ok (.aload_n 1, 1) := by decide +kernel
theorem dX6_next_21 : decode cX6_next 21 = .ok (.aload_n 0, 1) := by decide +kernel
theorem dX6_next_22 : decode cX6_next 22 = .ok (.aload_n 1, 1) := by decide +kernel
theorem dX6_next_23 : decode cX6_next 23 = .ok (.invokevirtual 152, 3) := by decide +kernel
theorem dX6_next_26 : decode cX6_next 26 = .ok (.aload_n 0, 1) := by decide +kernel
theorem dX6_next_27 : decode cX6_next 27 = .ok (.getfield 35, 3) := by decide +kernel
theorem dX6_next_30 : decode cX6_next 30 = .ok (.getfield 156, 3) := by decide +kernel
theorem dX6_next_33 : decode cX6_next 33 = .ok (.invokevirtual 159, 3) := by decide +kernel
theorem dX6_next_36 : decode cX6_next 36 = .ok (.ireturn, 1) := by decide +kernel
set_option maxRecDepth 20000 in
theorem ggX6_longest_X0_lessonAt : GoodIn wsX6_longest wsX0_lessonAt := goodIn_r _ [12, 13, 14, 15, 11, 16, 52, 53, 54] (by decide +kernel) (by decide +kernel)
set_option maxRecDepth 20000 in
theorem gX6_longest_X0_lessonAt : GoodIn wsX6_longest (wsV RX6 139 RX0 yX0_lessonAt wsX0_lessonAt) := goodIn_app (goodIn_of _ (by decide +kernel)) ggX6_longest_X0_lessonAt
set_option maxRecDepth 20000 in
theorem ggX6_longest_X2_pathOf : GoodIn wsX6_longest wsX2_pathOf := goodIn_r _ [21, 22, 23, 24, 25, 26, 20, 27, 28, 5, 6, 7, 29, 30, 31, 32, 33, 34, 35, 36, 37, 38, 48, 49, 50, 51] (by decide +kernel) (by decide +kernel)
set_option maxRecDepth 20000 in
theorem gX6_longest_X2_pathOf : GoodIn wsX6_longest (wsV RX6 149 RX2 yX2_pathOf wsX2_pathOf) := goodIn_app (goodIn_of _ (by decide +kernel)) ggX6_longest_X2_pathOf
theorem dX6_longest_0 : decode cX6_longest 0 = .ok (.aload_n 0, 1) := by decide +kernel
theorem dX6_longest_1 : decode cX6_longest 1 = .ok (.getfield 28, 3) := by decide +kernel
theorem dX6_longest_4 : decode cX6_longest 4 = .ok (.aload_n 0, 1) := by decide +kernel
theorem dX6_longest_5 : decode cX6_longest 5 = .ok (.getfield 39, 3) := by decide +kernel
theorem dX6_longest_8 : decode cX6_longest 8 = .ok (.invokevirtual 139, 3) := by decide +kernel
theorem dX6_longest_11 : decode cX6_longest 11 = .ok (.astore_n 1, 1) := by decide +kernel
theorem dX6_longest_12 : decode cX6_longest 12 = .ok (.aload_n 1, 1) := by decide +kernel
theorem dX6_longest_13 : decode cX6_longest 13 = .ok (.ifnonnull 5, 3) := by decide +kernel
theorem dX6_longest_16 : decode cX6_longest 16 = .ok (.iconst (-1), 1) := by decide +kernel
theorem dX6_longest_17 : decode cX6_longest 17 = .ok (.ireturn, 1) := by decide +kernel
theorem dX6_longest_18 : decode cX6_longest 18 = .ok (.iconst (-1), 1) := by decide +kernel
theorem dX6_longest_19 : decode cX6_longest 19 = .ok (.istore_n 2, 1) := by decide +kernel
theorem dX6_longest_20 : decode cX6_longest 20 = .ok (.iconst 0, 1) := by decide +kernel
theorem dX6_longest_21 : decode cX6_longest 21 = .ok (.istore_n 3, 1) := by decide +kernel
theorem dX6_longest_22 : decode cX6_longest 22 = .ok (.iload_n 3, 1) := by decide +kernel
theorem dX6_longest_23 : decode cX6_longest 23 = .ok (.aload_n 1, 1) := by decide +kernel
theorem dX6_longest_24 : decode cX6_longest 24 = .ok (.getfield 83, 3) := by decide +kernel
theorem dX6_longest_27 : decode cX6_longest 27 = .ok (.if_icmp .ge 19, 3) := by decide +kernel
theorem dX6_longest_30 : decode cX6_longest 30 = .ok (.iload_n 2, 1) := by decide +kernel
theorem dX6_longest_31 : decode cX6_longest 31 = .ok (.aload_n 1, 1) := by decide +kernel
theorem dX6_longest_32 : decode cX6_longest 32 = .ok (.iload_n 3, 1) := by decide +kernel
theorem dX6_longest_33 : decode cX6_longest 33 = .ok (.invokevirtual 149, 3) := by decide +kernel
theorem dX6_longest_36 : decode cX6_longest 36 = .ok (.invokestatic 162, 3) := by decide +kernel
theorem dX6_longest_39 : decode cX6_longest 39 = .ok (.istore_n 2, 1) := by decide +kernel
theorem dX6_longest_40 : decode cX6_longest 40 = .ok (.iinc 3 1, 3) := by decide +kernel
theorem dX6_longest_43 : decode cX6_longest 43 = .ok (.goto (-21), 3) := by decide +kernel
theorem dX6_longest_46 : decode cX6_longest 46 = .ok (.iload_n 2, 1) := by decide +kernel
theorem dX6_longest_47 : decode cX6_longest 47 = .ok (.ireturn, 1) := by decide +kernel
set_option maxRecDepth 20000 in
theorem ggX6_say_X6_begunLaw : GoodIn wsX6_say wsX6_begunLaw := goodIn_r _ [10, 11, 12, 13, 14, 9, 15, 16, 17, 18, 19, 20, 21, 22, 23, 24, 25, 26, 27, 28, 29, 30, 31, 32, 33, 125, 126, 127, 128, 129, 130, 131, 132, 133, 151, 152, 153, 154, 155, 156, 157] (by decide +kernel) (by decide +kernel)
set_option maxRecDepth 20000 in
theorem gX6_say_X6_begunLaw : GoodIn wsX6_say (wsV RX6 126 RX6 yX6_begunLaw wsX6_begunLaw) := goodIn_app (goodIn_of _ (by decide +kernel)) ggX6_say_X6_begunLaw
set_option maxRecDepth 20000 in
theorem ggX6_say_X5_offers : GoodIn wsX6_say wsX5_offers := goodIn_r _ [38, 39, 158, 159] (by decide +kernel) (by decide +kernel)
set_option maxRecDepth 20000 in
theorem gX6_say_X5_offers : GoodIn wsX6_say (wsV RX6 66 RX5 yX5_offers wsX5_offers) := goodIn_app (goodIn_of _ (by decide +kernel)) ggX6_say_X5_offers
set_option maxRecDepth 20000 in
theorem ggX6_say_X6_readTape : GoodIn wsX6_say wsX6_readTape := goodIn_r _ [43, 4, 44, 3, 45, 46, 47, 48, 49, 50, 51, 52, 53, 54, 55, 56, 57, 58, 59, 60, 61, 62, 63, 64, 65, 66, 67, 68, 69, 70, 37, 71, 39, 72, 73, 74, 75, 76, 77, 78, 79, 80, 81, 82, 83, 84, 85, 86, 87, 88, 89, 90, 91, 92, 93, 94, 95, 96, 97, 98, 99, 100, 101, 102, 103, 104, 105, 106, 107, 108, 109, 110, 111, 112, 113, 114, 115, 116, 117, 125, 126, 127, 128, 129, 130, 131, 132, 133, 143, 144, 145, 146, 147, 148, 149, 150, 158, 159] (by decide +kernel) (by decide +kernel)
set_option maxRecDepth 20000 in
theorem gX6_say_X6_readTape : GoodIn wsX6_say (wsV RX6 70 RX6 yX6_readTape wsX6_readTape) := goodIn_app (goodIn_of _ (by decide +kernel)) ggX6_say_X6_readTape
set_option maxRecDepth 20000 in
theorem ggX6_say_X4_addSaid : GoodIn wsX6_say wsX4_addSaid := goodIn_r _ [122, 123, 124, 134, 135, 136, 137, 138, 139, 140, 141, 142] (by decide +kernel) (by decide +kernel)
set_option maxRecDepth 20000 in
theorem gX6_say_X4_addSaid : GoodIn wsX6_say (wsV RX6 171 RX4 yX4_addSaid wsX4_addSaid) := goodIn_app (goodIn_of _ (by decide +kernel)) ggX6_say_X4_addSaid
theorem dX6_say_0 : decode cX6_say 0 = .ok (.aload_n 0, 1) := by decide +kernel
theorem dX6_say_1 : decode cX6_say 1 = .ok (.invokevirtual 126, 3) := by decide +kernel
theorem dX6_say_4 : decode cX6_say 4 = .ok (.ifnull 26, 3) := by decide +kernel
theorem dX6_say_7 : decode cX6_say 7 = .ok (.aload_n 0, 1) := by decide +kernel
theorem dX6_say_8 : decode cX6_say 8 = .ok (.getfield 35, 3) := by decide +kernel
theorem dX6_say_11 : decode cX6_say 11 = .ok (.getfield 167, 3) := by decide +kernel
theorem dX6_say_14 : decode cX6_say 14 = .ok (.bipush 10, 2) := by decide +kernel
theorem dX6_say_16 : decode cX6_say 16 = .ok (.if_icmp .ge 14, 3) := by decide +kernel
theorem dX6_say_19 : decode cX6_say 19 = .ok (.aload_n 0, 1) := by decide +kernel
theorem dX6_say_20 : decode cX6_say 20 = .ok (.getfield 10, 3) := by decide +kernel
theorem dX6_say_23 : decode cX6_say 23 = .ok (.iload_n 1, 1) := by decide +kernel
theorem dX6_say_24 : decode cX6_say 24 = .ok (.invokevirtual 66, 3) := by decide +kernel
theorem dX6_say_27 : decode cX6_say 27 = .ok (.ifCond .ne 6, 3) := by decide +kernel
theorem dX6_say_30 : decode cX6_say 30 = .ok (.bipush (-2), 2) := by decide +kernel
theorem dX6_say_32 : decode cX6_say 32 = .ok (.ireturn, 1) := by decide +kernel
theorem dX6_say_33 : decode cX6_say 33 = .ok (.aload_n 0, 1) := by decide +kernel
theorem dX6_say_34 : decode cX6_say 34 = .ok (.iload_n 1, 1) := by decide +kernel
theorem dX6_say_35 : decode cX6_say 35 = .ok (.invokevirtual 70, 3) := by decide +kernel
theorem dX6_say_38 : decode cX6_say 38 = .ok (.ifCond .eq 20, 3) := by decide +kernel
theorem dX6_say_41 : decode cX6_say 41 = .ok (.aload_n 0, 1) := by decide +kernel
theorem dX6_say_42 : decode cX6_say 42 = .ok (.getfield 35, 3) := by decide +kernel
theorem dX6_say_45 : decode cX6_say 45 = .ok (.aload_n 0, 1) := by decide +kernel
theorem dX6_say_46 : decode cX6_say 46 = .ok (.getfield 21, 3) := by decide +kernel
theorem dX6_say_49 : decode cX6_say 49 = .ok (.getfield 170, 3) := by decide +kernel
theorem dX6_say_52 : decode cX6_say 52 = .ok (.invokevirtual 171, 3) := by decide +kernel
theorem dX6_say_55 : decode cX6_say 55 = .ok (.goto 4, 3) := by decide +kernel
theorem dX6_say_58 : decode cX6_say 58 = .ok (.iconst (-1), 1) := by decide +kernel
theorem dX6_say_59 : decode cX6_say 59 = .ok (.ireturn, 1) := by decide +kernel
set_option maxRecDepth 20000 in
theorem ggX6_judge_X6_begunLaw : GoodIn wsX6_judge wsX6_begunLaw := goodIn_r _ [9, 10, 11, 12, 13, 8, 14, 15, 16, 17, 18, 19, 20, 21, 22, 23, 24, 25, 26, 27, 28, 29, 30, 31, 32, 124, 125, 126, 127, 128, 129, 130, 131, 132, 143, 144, 145, 146, 147, 148, 149] (by decide +kernel) (by decide +kernel)
set_option maxRecDepth 20000 in
theorem gX6_judge_X6_begunLaw : GoodIn wsX6_judge (wsV RX6 126 RX6 yX6_begunLaw wsX6_begunLaw) := goodIn_app (goodIn_of _ (by decide +kernel)) ggX6_judge_X6_begunLaw
set_option maxRecDepth 20000 in
theorem ggX6_judge_X5_offers : GoodIn wsX6_judge wsX5_offers := goodIn_r _ [37, 38, 150, 151] (by decide +kernel) (by decide +kernel)
set_option maxRecDepth 20000 in
theorem gX6_judge_X5_offers : GoodIn wsX6_judge (wsV RX6 66 RX5 yX5_offers wsX5_offers) := goodIn_app (goodIn_of _ (by decide +kernel)) ggX6_judge_X5_offers
set_option maxRecDepth 20000 in
theorem ggX6_judge_X6_readTape : GoodIn wsX6_judge wsX6_readTape := goodIn_r _ [42, 2, 43, 1, 44, 45, 46, 47, 48, 49, 50, 51, 52, 53, 54, 55, 56, 57, 58, 59, 60, 61, 62, 63, 64, 65, 66, 67, 68, 69, 36, 70, 38, 71, 72, 73, 74, 75, 76, 77, 78, 79, 80, 81, 82, 83, 84, 85, 86, 87, 88, 89, 90, 91, 92, 93, 94, 95, 96, 97, 98, 99, 100, 101, 102, 103, 104, 105, 106, 107, 108, 109, 110, 111, 112, 113, 114, 115, 116, 124, 125, 126, 127, 128, 129, 130, 131, 132, 133, 134, 135, 136, 137, 138, 139, 140, 150, 151] (by decide +kernel) (by decide +kernel)
set_option maxRecDepth 20000 in
theorem gX6_judge_X6_readTape : GoodIn wsX6_judge (wsV RX6 70 RX6 yX6_readTape wsX6_readTape) := goodIn_app (goodIn_of _ (by decide +kernel)) ggX6_judge_X6_readTape
set_option maxRecDepth 20000 in
theorem ggX6_judge_J6_bitCount_0f7a4 : GoodIn wsX6_judge wsJ6_bitCount_0f7a4 := goodIn_r _ [120, 121, 122, 123] (by decide +kernel) (by decide +kernel)
set_option maxRecDepth 20000 in
theorem gX6_judge_J6_bitCount_0f7a4 : GoodIn wsX6_judge (va_wsS RX6 174 yJ6_bitCount_0f7a4 wsJ6_bitCount_0f7a4) := goodIn_app (goodIn_of _ (by decide +kernel)) ggX6_judge_J6_bitCount_0f7a4
theorem dX6_judge_0 : decode cX6_judge 0 = .ok (.aload_n 0, 1) := by decide +kernel
theorem dX6_judge_1 : decode cX6_judge 1 = .ok (.invokevirtual 126, 3) := by decide +kernel
theorem dX6_judge_4 : decode cX6_judge 4 = .ok (.astore_n 2, 1) := by decide +kernel
theorem dX6_judge_5 : decode cX6_judge 5 = .ok (.aload_n 2, 1) := by decide +kernel
theorem dX6_judge_6 : decode cX6_judge 6 = .ok (.ifnull 14, 3) := by decide +kernel
theorem dX6_judge_9 : decode cX6_judge 9 = .ok (.aload_n 0, 1) := by decide +kernel
theorem dX6_judge_10 : decode cX6_judge 10 = .ok (.getfield 10, 3) := by decide +kernel
theorem dX6_judge_13 : decode cX6_judge 13 = .ok (.iload_n 1, 1) := by decide +kernel
theorem dX6_judge_14 : decode cX6_judge 14 = .ok (.invokevirtual 66, 3) := by decide +kernel
theorem dX6_judge_17 : decode cX6_judge 17 = .ok (.ifCond .ne 6, 3) := by decide +kernel
theorem dX6_judge_20 : decode cX6_judge 20 = .ok (.bipush (-2), 2) := by decide +kernel
theorem dX6_judge_22 : decode cX6_judge 22 = .ok (.ireturn, 1) := by decide +kernel
theorem dX6_judge_23 : decode cX6_judge 23 = .ok (.aload_n 0, 1) := by decide +kernel
theorem dX6_judge_24 : decode cX6_judge 24 = .ok (.iload_n 1, 1) := by decide +kernel
theorem dX6_judge_25 : decode cX6_judge 25 = .ok (.invokevirtual 70, 3) := by decide +kernel
theorem dX6_judge_28 : decode cX6_judge 28 = .ok (.ifCond .eq 21, 3) := by decide +kernel
theorem dX6_judge_31 : decode cX6_judge 31 = .ok (.aload_n 0, 1) := by decide +kernel
theorem dX6_judge_32 : decode cX6_judge 32 = .ok (.getfield 21, 3) := by decide +kernel
theorem dX6_judge_35 : decode cX6_judge 35 = .ok (.getfield 170, 3) := by decide +kernel
theorem dX6_judge_38 : decode cX6_judge 38 = .ok (.aload_n 2, 1) := by decide +kernel
theorem dX6_judge_39 : decode cX6_judge 39 = .ok (.getfield 97, 3) := by decide +kernel
theorem dX6_judge_42 : decode cX6_judge 42 = .ok (.ixor, 1) := by decide +kernel
theorem dX6_judge_43 : decode cX6_judge 43 = .ok (.invokestatic 174, 3) := by decide +kernel
theorem dX6_judge_46 : decode cX6_judge 46 = .ok (.goto 4, 3) := by decide +kernel
theorem dX6_judge_49 : decode cX6_judge 49 = .ok (.iconst (-1), 1) := by decide +kernel
theorem dX6_judge_50 : decode cX6_judge 50 = .ok (.ireturn, 1) := by decide +kernel
set_option maxRecDepth 20000 in
theorem ggX6_clash_X4_saidApart : GoodIn wsX6_clash wsX4_saidApart := goodIn_r _ [6, 7, 8, 35, 36, 37, 38, 39, 40, 41, 42, 43] (by decide +kernel) (by decide +kernel)
set_option maxRecDepth 20000 in
theorem gX6_clash_X4_saidApart : GoodIn wsX6_clash (wsV RX6 179 RX4 yX4_saidApart wsX4_saidApart) := goodIn_app (goodIn_of _ (by decide +kernel)) ggX6_clash_X4_saidApart
set_option maxRecDepth 20000 in
theorem ggX6_clash_X4_saidUnlikeAnswers : GoodIn wsX6_clash wsX4_saidUnlikeAnswers := goodIn_r _ [12, 7, 8, 13, 14, 35, 36, 37, 38, 39, 40, 41, 42, 43] (by decide +kernel) (by decide +kernel)
set_option maxRecDepth 20000 in
theorem gX6_clash_X4_saidUnlikeAnswers : GoodIn wsX6_clash (wsV RX6 182 RX4 yX4_saidUnlikeAnswers wsX4_saidUnlikeAnswers) := goodIn_app (goodIn_of _ (by decide +kernel)) ggX6_clash_X4_saidUnlikeAnswers
set_option maxRecDepth 20000 in
theorem ggX6_clash_X6_leastBit : GoodIn wsX6_clash wsX6_leastBit := goodIn_r _ [18, 19, 20, 17, 21] (by decide +kernel) (by decide +kernel)
set_option maxRecDepth 20000 in
theorem gX6_clash_X6_leastBit : GoodIn wsX6_clash (va_wsS RX6 185 yX6_leastBit wsX6_leastBit) := goodIn_app (goodIn_of _ (by decide +kernel)) ggX6_clash_X6_leastBit
set_option maxRecDepth 20000 in
theorem ggX6_clash_X4_firstUnlikeFirst : GoodIn wsX6_clash wsX4_firstUnlikeFirst := goodIn_r _ [25, 7, 8, 20, 17, 21, 35, 36, 37, 38, 39, 40, 41, 42, 43] (by decide +kernel) (by decide +kernel)
set_option maxRecDepth 20000 in
theorem gX6_clash_X4_firstUnlikeFirst : GoodIn wsX6_clash (wsV RX6 188 RX4 yX4_firstUnlikeFirst wsX4_firstUnlikeFirst) := goodIn_app (goodIn_of _ (by decide +kernel)) ggX6_clash_X4_firstUnlikeFirst
theorem dX6_clash_0 : decode cX6_clash 0 = .ok (.aload_n 0, 1) := by decide +kernel
theorem dX6_clash_1 : decode cX6_clash 1 = .ok (.getfield 35, 3) := by decide +kernel
theorem dX6_clash_4 : decode cX6_clash 4 = .ok (.invokevirtual 179, 3) := by decide +kernel
theorem dX6_clash_7 : decode cX6_clash 7 = .ok (.istore_n 2, 1) := by decide +kernel
theorem dX6_clash_8 : decode cX6_clash 8 = .ok (.iload_n 2, 1) := by decide +kernel
theorem dX6_clash_9 : decode cX6_clash 9 = .ok (.ifCond .eq 7, 3) := by decide +kernel
theorem dX6_clash_12 : decode cX6_clash 12 = .ok (.iconst 1, 1) := by decide +kernel
theorem dX6_clash_13 : decode cX6_clash 13 = .ok (.goto 4, 3) := by decide +kernel
theorem dX6_clash_16 : decode cX6_clash 16 = .ok (.iconst 0, 1) := by decide +kernel
theorem dX6_clash_17 : decode cX6_clash 17 = .ok (.istore_n 3, 1) := by decide +kernel
theorem dX6_clash_18 : decode cX6_clash 18 = .ok (.iload_n 3, 1) := by decide +kernel
theorem dX6_clash_19 : decode cX6_clash 19 = .ok (.ifCond .ne 11, 3) := by decide +kernel
theorem dX6_clash_22 : decode cX6_clash 22 = .ok (.aload_n 0, 1) := by decide +kernel
theorem dX6_clash_23 : decode cX6_clash 23 = .ok (.getfield 35, 3) := by decide +kernel
theorem dX6_clash_26 : decode cX6_clash 26 = .ok (.invokevirtual 182, 3) := by decide +kernel
theorem dX6_clash_29 : decode cX6_clash 29 = .ok (.istore_n 2, 1) := by decide +kernel
theorem dX6_clash_30 : decode cX6_clash 30 = .ok (.iload_n 2, 1) := by decide +kernel
theorem dX6_clash_31 : decode cX6_clash 31 = .ok (.invokestatic 185, 3) := by decide +kernel
theorem dX6_clash_34 : decode cX6_clash 34 = .ok (.istore 4, 2) := by decide +kernel
theorem dX6_clash_36 : decode cX6_clash 36 = .ok (.iload 4, 2) := by decide +kernel
theorem dX6_clash_38 : decode cX6_clash 38 = .ok (.iconst (-1), 1) := by decide +kernel
theorem dX6_clash_39 : decode cX6_clash 39 = .ok (.if_icmp .ne 5, 3) := by decide +kernel
theorem dX6_clash_42 : decode cX6_clash 42 = .ok (.iconst (-1), 1) := by decide +kernel
theorem dX6_clash_43 : decode cX6_clash 43 = .ok (.ireturn, 1) := by decide +kernel
theorem dX6_clash_44 : decode cX6_clash 44 = .ok (.iload_n 1, 1) := by decide +kernel
theorem dX6_clash_45 : decode cX6_clash 45 = .ok (.tableswitch 50 0 2 #[27, 30, 32], 27) := by decide +kernel
theorem dX6_clash_72 : decode cX6_clash 72 = .ok (.iload 4, 2) := by decide +kernel
theorem dX6_clash_74 : decode cX6_clash 74 = .ok (.ireturn, 1) := by decide +kernel
theorem dX6_clash_75 : decode cX6_clash 75 = .ok (.iconst 0, 1) := by decide +kernel
theorem dX6_clash_76 : decode cX6_clash 76 = .ok (.ireturn, 1) := by decide +kernel
theorem dX6_clash_77 : decode cX6_clash 77 = .ok (.iload_n 3, 1) := by decide +kernel
theorem dX6_clash_78 : decode cX6_clash 78 = .ok (.ifCond .eq 15, 3) := by decide +kernel
theorem dX6_clash_81 : decode cX6_clash 81 = .ok (.aload_n 0, 1) := by decide +kernel
theorem dX6_clash_82 : decode cX6_clash 82 = .ok (.getfield 35, 3) := by decide +kernel
theorem dX6_clash_85 : decode cX6_clash 85 = .ok (.iload 4, 2) := by decide +kernel
theorem dX6_clash_87 : decode cX6_clash 87 = .ok (.invokevirtual 188, 3) := by decide +kernel
