set_option maxRecDepth 20000 in
theorem gX3_split_X3_isParish : GoodIn wsX3_split (wsV RX3 56 RX3 yX3_isParish wsX3_isParish) := goodIn_app (goodIn_of _ (by decide +kernel)) ggX3_split_X3_isParish
set_option maxRecDepth 20000 in
theorem ggX3_split_X3_in : GoodIn wsX3_split wsX3_in := goodIn_r _ [10] (by decide +kernel) (by decide +kernel)
set_option maxRecDepth 20000 in
theorem gX3_split_X3_in : GoodIn wsX3_split (va_wsS RX3 44 yX3_in wsX3_in) := goodIn_app (goodIn_of _ (by decide +kernel)) ggX3_split_X3_in
set_option maxRecDepth 20000 in
theorem ggX3_split_X3_isYear : GoodIn wsX3_split wsX3_isYear := goodIn_r _ [13, 8, 9, 6, 10] (by decide +kernel) (by decide +kernel)
set_option maxRecDepth 20000 in
theorem gX3_split_X3_isYear : GoodIn wsX3_split (va_wsS RX3 60 yX3_isYear wsX3_isYear) := goodIn_app (goodIn_of _ (by decide +kernel)) ggX3_split_X3_isYear
set_option maxRecDepth 20000 in
theorem ggX3_split_X3_lastYear : GoodIn wsX3_split wsX3_lastYear := goodIn_r _ [17, 2, 45, 46, 47, 48, 49, 50, 51, 52, 53, 54, 55, 56, 57, 58, 59, 60] (by decide +kernel) (by decide +kernel)
set_option maxRecDepth 20000 in
theorem gX3_split_X3_lastYear : GoodIn wsX3_split (wsV RX3 63 RX3 yX3_lastYear wsX3_lastYear) := goodIn_app (goodIn_of _ (by decide +kernel)) ggX3_split_X3_lastYear
set_option maxRecDepth 20000 in
theorem ggX3_split_X3_isSome : GoodIn wsX3_split wsX3_isSome := goodIn_r _ [21, 22, 23, 24, 6, 25, 2, 26, 27, 28, 29, 30, 31, 32, 33, 34, 35, 45, 46, 47, 48, 49, 50, 51, 52, 53, 54, 55, 56, 57, 58, 59, 60] (by decide +kernel) (by decide +kernel)
set_option maxRecDepth 20000 in
theorem gX3_split_X3_isSome : GoodIn wsX3_split (wsV RX3 81 RX3 yX3_isSome wsX3_isSome) := goodIn_app (goodIn_of _ (by decide +kernel)) ggX3_split_X3_isSome
set_option maxRecDepth 20000 in
theorem ggX3_split_X3_add : GoodIn wsX3_split wsX3_add := goodIn_r _ [39, 2, 45, 46, 47, 48, 49, 50, 51, 52, 53, 54, 55, 56, 57, 58, 59, 60] (by decide +kernel) (by decide +kernel)
set_option maxRecDepth 20000 in
theorem gX3_split_X3_add : GoodIn wsX3_split (wsV RX3 74 RX3 yX3_add wsX3_add) := goodIn_app (goodIn_of _ (by decide +kernel)) ggX3_split_X3_add
set_option maxRecDepth 20000 in
theorem ggX3_split_X3_takeName : GoodIn wsX3_split wsX3_takeName := goodIn_r _ [43, 1, 2, 44, 45, 46, 47, 48, 49, 50, 51, 52, 53, 54, 55, 56, 57, 58, 59, 60] (by decide +kernel) (by decide +kernel)
set_option maxRecDepth 20000 in
theorem gX3_split_X3_takeName : GoodIn wsX3_split (wsV RX3 78 RX3 yX3_takeName wsX3_takeName) := goodIn_app (goodIn_of _ (by decide +kernel)) ggX3_split_X3_takeName
theorem dX3_split_0 : decode cX3_split 0 = .ok (.aload_n 0, 1) := by decide +kernel
theorem dX3_split_1 : decode cX3_split 1 = .ok (.iload_n 1, 1) := by decide +kernel
theorem dX3_split_2 : decode cX3_split 2 = .ok (.invokevirtual 56, 3) := by decide +kernel
theorem dX3_split_5 : decode cX3_split 5 = .ok (.ifCond .ne 5, 3) := by decide +kernel
theorem dX3_split_8 : decode cX3_split 8 = .ok (.iconst (-1), 1) := by decide +kernel
theorem dX3_split_9 : decode cX3_split 9 = .ok (.ireturn, 1) := by decide +kernel
theorem dX3_split_10 : decode cX3_split 10 = .ok (.iload_n 2, 1) := by decide +kernel
theorem dX3_split_11 : decode cX3_split 11 = .ok (.iconst 0, 1) := by decide +kernel
theorem dX3_split_12 : decode cX3_split 12 = .ok (.sipush 4095, 3) := by decide +kernel
theorem dX3_split_15 : decode cX3_split 15 = .ok (.invokestatic 44, 3) := by decide +kernel
theorem dX3_split_18 : decode cX3_split 18 = .ok (.ifCond .eq 10, 3) := by decide +kernel
theorem dX3_split_21 : decode cX3_split 21 = .ok (.iload_n 3, 1) := by decide +kernel
theorem dX3_split_22 : decode cX3_split 22 = .ok (.invokestatic 60, 3) := by decide +kernel
theorem dX3_split_25 : decode cX3_split 25 = .ok (.ifCond .ne 6, 3) := by decide +kernel
theorem dX3_split_28 : decode cX3_split 28 = .ok (.bipush (-2), 2) := by decide +kernel
theorem dX3_split_30 : decode cX3_split 30 = .ok (.ireturn, 1) := by decide +kernel
theorem dX3_split_31 : decode cX3_split 31 = .ok (.aload_n 0, 1) := by decide +kernel
theorem dX3_split_32 : decode cX3_split 32 = .ok (.getfield 48, 3) := by decide +kernel
theorem dX3_split_35 : decode cX3_split 35 = .ok (.ifCond .ne 6, 3) := by decide +kernel
theorem dX3_split_38 : decode cX3_split 38 = .ok (.bipush (-7), 2) := by decide +kernel
theorem dX3_split_40 : decode cX3_split 40 = .ok (.ireturn, 1) := by decide +kernel
theorem dX3_split_41 : decode cX3_split 41 = .ok (.iload_n 3, 1) := by decide +kernel
theorem dX3_split_42 : decode cX3_split 42 = .ok (.aload_n 0, 1) := by decide +kernel
theorem dX3_split_43 : decode cX3_split 43 = .ok (.invokevirtual 63, 3) := by decide +kernel
theorem dX3_split_46 : decode cX3_split 46 = .ok (.if_icmp .ge 6, 3) := by decide +kernel
theorem dX3_split_49 : decode cX3_split 49 = .ok (.bipush (-3), 2) := by decide +kernel
theorem dX3_split_51 : decode cX3_split 51 = .ok (.ireturn, 1) := by decide +kernel
theorem dX3_split_52 : decode cX3_split 52 = .ok (.aload_n 0, 1) := by decide +kernel
theorem dX3_split_53 : decode cX3_split 53 = .ok (.iload_n 1, 1) := by decide +kernel
theorem dX3_split_54 : decode cX3_split 54 = .ok (.iload_n 2, 1) := by decide +kernel
theorem dX3_split_55 : decode cX3_split 55 = .ok (.invokevirtual 81, 3) := by decide +kernel
theorem dX3_split_58 : decode cX3_split 58 = .ok (.ifCond .ne 6, 3) := by decide +kernel
theorem dX3_split_61 : decode cX3_split 61 = .ok (.bipush (-5), 2) := by decide +kernel
theorem dX3_split_63 : decode cX3_split 63 = .ok (.ireturn, 1) := by decide +kernel
theorem dX3_split_64 : decode cX3_split 64 = .ok (.aload_n 0, 1) := by decide +kernel
theorem dX3_split_65 : decode cX3_split 65 = .ok (.getfield 7, 3) := by decide +kernel
theorem dX3_split_68 : decode cX3_split 68 = .ok (.sipush 420, 3) := by decide +kernel
theorem dX3_split_71 : decode cX3_split 71 = .ok (.iaload, 1) := by decide +kernel
theorem dX3_split_72 : decode cX3_split 72 = .ok (.bipush 30, 2) := by decide +kernel
theorem dX3_split_74 : decode cX3_split 74 = .ok (.if_icmp .eq 16, 3) := by decide +kernel
theorem dX3_split_77 : decode cX3_split 77 = .ok (.aload_n 0, 1) := by decide +kernel
theorem dX3_split_78 : decode cX3_split 78 = .ok (.getfield 7, 3) := by decide +kernel
theorem dX3_split_81 : decode cX3_split 81 = .ok (.sipush 421, 3) := by decide +kernel
theorem dX3_split_84 : decode cX3_split 84 = .ok (.iaload, 1) := by decide +kernel
theorem dX3_split_85 : decode cX3_split 85 = .ok (.bipush 16, 2) := by decide +kernel
theorem dX3_split_87 : decode cX3_split 87 = .ok (.if_icmp .ne 6, 3) := by decide +kernel
theorem dX3_split_90 : decode cX3_split 90 = .ok (.bipush (-4), 2) := by decide +kernel
theorem dX3_split_92 : decode cX3_split 92 = .ok (.ireturn, 1) := by decide +kernel
theorem dX3_split_93 : decode cX3_split 93 = .ok (.aload_n 0, 1) := by decide +kernel
theorem dX3_split_94 : decode cX3_split 94 = .ok (.getfield 7, 3) := by decide +kernel
theorem dX3_split_97 : decode cX3_split 97 = .ok (.sipush 420, 3) := by decide +kernel
theorem dX3_split_100 : decode cX3_split 100 = .ok (.iaload, 1) := by decide +kernel
theorem dX3_split_101 : decode cX3_split 101 = .ok (.istore 4, 2) := by decide +kernel
theorem dX3_split_103 : decode cX3_split 103 = .ok (.aload_n 0, 1) := by decide +kernel
theorem dX3_split_104 : decode cX3_split 104 = .ok (.getfield 7, 3) := by decide +kernel
theorem dX3_split_107 : decode cX3_split 107 = .ok (.sipush 421, 3) := by decide +kernel
theorem dX3_split_110 : decode cX3_split 110 = .ok (.iaload, 1) := by decide +kernel
theorem dX3_split_111 : decode cX3_split 111 = .ok (.istore 5, 2) := by decide +kernel
theorem dX3_split_113 : decode cX3_split 113 = .ok (.aload_n 0, 1) := by decide +kernel
theorem dX3_split_114 : decode cX3_split 114 = .ok (.iconst 1, 1) := by decide +kernel
theorem dX3_split_115 : decode cX3_split 115 = .ok (.iload_n 3, 1) := by decide +kernel
theorem dX3_split_116 : decode cX3_split 116 = .ok (.iload_n 1, 1) := by decide +kernel
theorem dX3_split_117 : decode cX3_split 117 = .ok (.iload_n 2, 1) := by decide +kernel
theorem dX3_split_118 : decode cX3_split 118 = .ok (.iload 5, 2) := by decide +kernel
theorem dX3_split_120 : decode cX3_split 120 = .ok (.invokevirtual 74, 3) := by decide +kernel
theorem dX3_split_123 : decode cX3_split 123 = .ok (.aload_n 0, 1) := by decide +kernel
theorem dX3_split_124 : decode cX3_split 124 = .ok (.iload 4, 2) := by decide +kernel
theorem dX3_split_126 : decode cX3_split 126 = .ok (.invokevirtual 78, 3) := by decide +kernel
theorem dX3_split_129 : decode cX3_split 129 = .ok (.aload_n 0, 1) := by decide +kernel
theorem dX3_split_130 : decode cX3_split 130 = .ok (.getfield 7, 3) := by decide +kernel
theorem dX3_split_133 : decode cX3_split 133 = .ok (.sipush 421, 3) := by decide +kernel
theorem dX3_split_136 : decode cX3_split 136 = .ok (.dup2, 1) := by decide +kernel
theorem dX3_split_137 : decode cX3_split 137 = .ok (.iaload, 1) := by decide +kernel
theorem dX3_split_138 : decode cX3_split 138 = .ok (.iconst 1, 1) := by decide +kernel
theorem dX3_split_139 : decode cX3_split 139 = .ok (.iadd, 1) := by decide +kernel
theorem dX3_split_140 : decode cX3_split 140 = .ok (.iastore, 1) := by decide +kernel
theorem dX3_split_141 : decode cX3_split 141 = .ok (.iload 5, 2) := by decide +kernel
theorem dX3_split_143 : decode cX3_split 143 = .ok (.ireturn, 1) := by decide +kernel
set_option maxRecDepth 20000 in
theorem ggX3_merge_X3_isParish : GoodIn wsX3_merge wsX3_isParish := goodIn_r _ [6, 1, 7, 8, 5, 9, 35, 36, 37, 38, 39, 40, 41, 42, 43, 44, 45, 46, 47, 48, 49, 50] (by decide +kernel) (by decide +kernel)
set_option maxRecDepth 20000 in
theorem gX3_merge_X3_isParish : GoodIn wsX3_merge (wsV RX3 56 RX3 yX3_isParish wsX3_isParish) := goodIn_app (goodIn_of _ (by decide +kernel)) ggX3_merge_X3_isParish
set_option maxRecDepth 20000 in
theorem ggX3_merge_X3_isYear : GoodIn wsX3_merge wsX3_isYear := goodIn_r _ [12, 7, 8, 5, 9] (by decide +kernel) (by decide +kernel)
set_option maxRecDepth 20000 in
theorem gX3_merge_X3_isYear : GoodIn wsX3_merge (va_wsS RX3 60 yX3_isYear wsX3_isYear) := goodIn_app (goodIn_of _ (by decide +kernel)) ggX3_merge_X3_isYear
set_option maxRecDepth 20000 in
theorem ggX3_merge_X3_lastYear : GoodIn wsX3_merge wsX3_lastYear := goodIn_r _ [16, 1, 35, 36, 37, 38, 39, 40, 41, 42, 43, 44, 45, 46, 47, 48, 49, 50] (by decide +kernel) (by decide +kernel)
set_option maxRecDepth 20000 in
theorem gX3_merge_X3_lastYear : GoodIn wsX3_merge (wsV RX3 63 RX3 yX3_lastYear wsX3_lastYear) := goodIn_app (goodIn_of _ (by decide +kernel)) ggX3_merge_X3_lastYear
set_option maxRecDepth 20000 in
theorem ggX3_merge_X3_goToEnd : GoodIn wsX3_merge wsX3_goToEnd := goodIn_r _ [20, 1, 21, 22, 23, 5, 24, 25, 26, 35, 36, 37, 38, 39, 40, 41, 42, 43, 44, 45, 46, 47, 48, 49, 50] (by decide +kernel) (by decide +kernel)
set_option maxRecDepth 20000 in
theorem gX3_merge_X3_goToEnd : GoodIn wsX3_merge (wsV RX3 67 RX3 yX3_goToEnd wsX3_goToEnd) := goodIn_app (goodIn_of _ (by decide +kernel)) ggX3_merge_X3_goToEnd
set_option maxRecDepth 20000 in
theorem ggX3_merge_X3_sitesOf : GoodIn wsX3_merge wsX3_sitesOf := goodIn_r _ [30, 25, 35, 36, 37, 38, 39, 40, 41, 42, 43, 44, 45, 46, 47, 48, 49, 50] (by decide +kernel) (by decide +kernel)
set_option maxRecDepth 20000 in
theorem gX3_merge_X3_sitesOf : GoodIn wsX3_merge (wsV RX3 70 RX3 yX3_sitesOf wsX3_sitesOf) := goodIn_app (goodIn_of _ (by decide +kernel)) ggX3_merge_X3_sitesOf
set_option maxRecDepth 20000 in
theorem ggX3_merge_X3_add : GoodIn wsX3_merge wsX3_add := goodIn_r _ [34, 1, 35, 36, 37, 38, 39, 40, 41, 42, 43, 44, 45, 46, 47, 48, 49, 50] (by decide +kernel) (by decide +kernel)
set_option maxRecDepth 20000 in
theorem gX3_merge_X3_add : GoodIn wsX3_merge (wsV RX3 74 RX3 yX3_add wsX3_add) := goodIn_app (goodIn_of _ (by decide +kernel)) ggX3_merge_X3_add
theorem dX3_merge_0 : decode cX3_merge 0 = .ok (.aload_n 0, 1) := by decide +kernel
theorem dX3_merge_1 : decode cX3_merge 1 = .ok (.iload_n 1, 1) := by decide +kernel
theorem dX3_merge_2 : decode cX3_merge 2 = .ok (.invokevirtual 56, 3) := by decide +kernel
theorem dX3_merge_5 : decode cX3_merge 5 = .ok (.ifCond .eq 11, 3) := by decide +kernel
theorem dX3_merge_8 : decode cX3_merge 8 = .ok (.aload_n 0, 1) := by decide +kernel
theorem dX3_merge_9 : decode cX3_merge 9 = .ok (.iload_n 2, 1) := by decide +kernel
theorem dX3_merge_10 : decode cX3_merge 10 = .ok (.invokevirtual 56, 3) := by decide +kernel
theorem dX3_merge_13 : decode cX3_merge 13 = .ok (.ifCond .ne 5, 3) := by decide +kernel
theorem dX3_merge_16 : decode cX3_merge 16 = .ok (.iconst (-1), 1) := by decide +kernel
theorem dX3_merge_17 : decode cX3_merge 17 = .ok (.ireturn, 1) := by decide +kernel
theorem dX3_merge_18 : decode cX3_merge 18 = .ok (.iload_n 1, 1) := by decide +kernel
theorem dX3_merge_19 : decode cX3_merge 19 = .ok (.iload_n 2, 1) := by decide +kernel
theorem dX3_merge_20 : decode cX3_merge 20 = .ok (.if_icmp .eq 10, 3) := by decide +kernel
theorem dX3_merge_23 : decode cX3_merge 23 = .ok (.iload_n 3, 1) := by decide +kernel
theorem dX3_merge_24 : decode cX3_merge 24 = .ok (.invokestatic 60, 3) := by decide +kernel
theorem dX3_merge_27 : decode cX3_merge 27 = .ok (.ifCond .ne 6, 3) := by decide +kernel
theorem dX3_merge_30 : decode cX3_merge 30 = .ok (.bipush (-2), 2) := by decide +kernel
theorem dX3_merge_32 : decode cX3_merge 32 = .ok (.ireturn, 1) := by decide +kernel
theorem dX3_merge_33 : decode cX3_merge 33 = .ok (.iload_n 3, 1) := by decide +kernel
theorem dX3_merge_34 : decode cX3_merge 34 = .ok (.aload_n 0, 1) := by decide +kernel
theorem dX3_merge_35 : decode cX3_merge 35 = .ok (.invokevirtual 63, 3) := by decide +kernel
theorem dX3_merge_38 : decode cX3_merge 38 = .ok (.if_icmp .ge 6, 3) := by decide +kernel
theorem dX3_merge_41 : decode cX3_merge 41 = .ok (.bipush (-3), 2) := by decide +kernel
theorem dX3_merge_43 : decode cX3_merge 43 = .ok (.ireturn, 1) := by decide +kernel
theorem dX3_merge_44 : decode cX3_merge 44 = .ok (.aload_n 0, 1) := by decide +kernel
theorem dX3_merge_45 : decode cX3_merge 45 = .ok (.invokevirtual 67, 3) := by decide +kernel
theorem dX3_merge_48 : decode cX3_merge 48 = .ok (.aload_n 0, 1) := by decide +kernel
theorem dX3_merge_49 : decode cX3_merge 49 = .ok (.iload_n 1, 1) := by decide +kernel
theorem dX3_merge_50 : decode cX3_merge 50 = .ok (.invokevirtual 70, 3) := by decide +kernel
theorem dX3_merge_53 : decode cX3_merge 53 = .ok (.istore 4, 2) := by decide +kernel
theorem dX3_merge_55 : decode cX3_merge 55 = .ok (.iload 4, 2) := by decide +kernel
theorem dX3_merge_57 : decode cX3_merge 57 = .ok (.ifCond .eq 11, 3) := by decide +kernel
theorem dX3_merge_60 : decode cX3_merge 60 = .ok (.aload_n 0, 1) := by decide +kernel
theorem dX3_merge_61 : decode cX3_merge 61 = .ok (.iload_n 2, 1) := by decide +kernel
theorem dX3_merge_62 : decode cX3_merge 62 = .ok (.invokevirtual 70, 3) := by decide +kernel
theorem dX3_merge_65 : decode cX3_merge 65 = .ok (.ifCond .ne 6, 3) := by decide +kernel
theorem dX3_merge_68 : decode cX3_merge 68 = .ok (.bipush (-5), 2) := by decide +kernel
theorem dX3_merge_70 : decode cX3_merge 70 = .ok (.ireturn, 1) := by decide +kernel
theorem dX3_merge_71 : decode cX3_merge 71 = .ok (.aload_n 0, 1) := by decide +kernel
theorem dX3_merge_72 : decode cX3_merge 72 = .ok (.getfield 7, 3) := by decide +kernel
theorem dX3_merge_75 : decode cX3_merge 75 = .ok (.sipush 420, 3) := by decide +kernel
theorem dX3_merge_78 : decode cX3_merge 78 = .ok (.iaload, 1) := by decide +kernel
theorem dX3_merge_79 : decode cX3_merge 79 = .ok (.bipush 30, 2) := by decide +kernel
theorem dX3_merge_81 : decode cX3_merge 81 = .ok (.if_icmp .ne 6, 3) := by decide +kernel
theorem dX3_merge_84 : decode cX3_merge 84 = .ok (.bipush (-4), 2) := by decide +kernel
theorem dX3_merge_86 : decode cX3_merge 86 = .ok (.ireturn, 1) := by decide +kernel
theorem dX3_merge_87 : decode cX3_merge 87 = .ok (.aload_n 0, 1) := by decide +kernel
theorem dX3_merge_88 : decode cX3_merge 88 = .ok (.iconst 2, 1) := by decide +kernel
theorem dX3_merge_89 : decode cX3_merge 89 = .ok (.iload_n 3, 1) := by decide +kernel
theorem dX3_merge_90 : decode cX3_merge 90 = .ok (.iload_n 1, 1) := by decide +kernel
theorem dX3_merge_91 : decode cX3_merge 91 = .ok (.iload 4, 2) := by decide +kernel
theorem dX3_merge_93 : decode cX3_merge 93 = .ok (.iload_n 2, 1) := by decide +kernel
theorem dX3_merge_94 : decode cX3_merge 94 = .ok (.invokevirtual 74, 3) := by decide +kernel
theorem dX3_merge_97 : decode cX3_merge 97 = .ok (.aload_n 0, 1) := by decide +kernel
theorem dX3_merge_98 : decode cX3_merge 98 = .ok (.getfield 7, 3) := by decide +kernel
theorem dX3_merge_101 : decode cX3_merge 101 = .ok (.sipush 420, 3) := by decide +kernel
theorem dX3_merge_104 : decode cX3_merge 104 = .ok (.iaload, 1) := by decide +kernel
theorem dX3_merge_105 : decode cX3_merge 105 = .ok (.iconst 1, 1) := by decide +kernel
theorem dX3_merge_106 : decode cX3_merge 106 = .ok (.isub, 1) := by decide +kernel
theorem dX3_merge_107 : decode cX3_merge 107 = .ok (.ireturn, 1) := by decide +kernel
set_option maxRecDepth 20000 in
theorem ggX3_shift_X3_isParish : GoodIn wsX3_shift wsX3_isParish := goodIn_r _ [6, 1, 7, 8, 5, 9, 39, 40, 41, 42, 43, 44, 45, 46, 47, 48, 49, 50, 51, 52, 53, 54] (by decide +kernel) (by decide +kernel)
set_option maxRecDepth 20000 in
theorem gX3_shift_X3_isParish : GoodIn wsX3_shift (wsV RX3 56 RX3 yX3_isParish wsX3_isParish) := goodIn_app (goodIn_of _ (by decide +kernel)) ggX3_shift_X3_isParish
set_option maxRecDepth 20000 in
theorem ggX3_shift_X3_in : GoodIn wsX3_shift wsX3_in := goodIn_r _ [9] (by decide +kernel) (by decide +kernel)
set_option maxRecDepth 20000 in
theorem gX3_shift_X3_in : GoodIn wsX3_shift (va_wsS RX3 44 yX3_in wsX3_in) := goodIn_app (goodIn_of _ (by decide +kernel)) ggX3_shift_X3_in
set_option maxRecDepth 20000 in
theorem ggX3_shift_X3_isYear : GoodIn wsX3_shift wsX3_isYear := goodIn_r _ [12, 7, 8, 5, 9] (by decide +kernel) (by decide +kernel)
set_option maxRecDepth 20000 in
theorem gX3_shift_X3_isYear : GoodIn wsX3_shift (va_wsS RX3 60 yX3_isYear wsX3_isYear) := goodIn_app (goodIn_of _ (by decide +kernel)) ggX3_shift_X3_isYear
set_option maxRecDepth 20000 in
theorem ggX3_shift_X3_lastYear : GoodIn wsX3_shift wsX3_lastYear := goodIn_r _ [16, 1, 39, 40, 41, 42, 43, 44, 45, 46, 47, 48, 49, 50, 51, 52, 53, 54] (by decide +kernel) (by decide +kernel)
set_option maxRecDepth 20000 in
theorem gX3_shift_X3_lastYear : GoodIn wsX3_shift (wsV RX3 63 RX3 yX3_lastYear wsX3_lastYear) := goodIn_app (goodIn_of _ (by decide +kernel)) ggX3_shift_X3_lastYear
set_option maxRecDepth 20000 in
theorem ggX3_shift_X3_isSome : GoodIn wsX3_shift wsX3_isSome := goodIn_r _ [20, 21, 22, 23, 5, 24, 1, 25, 26, 27, 28, 29, 30, 31, 32, 33, 34, 39, 40, 41, 42, 43, 44, 45, 46, 47, 48, 49, 50, 51, 52, 53, 54] (by decide +kernel) (by decide +kernel)
set_option maxRecDepth 20000 in
theorem gX3_shift_X3_isSome : GoodIn wsX3_shift (wsV RX3 81 RX3 yX3_isSome wsX3_isSome) := goodIn_app (goodIn_of _ (by decide +kernel)) ggX3_shift_X3_isSome
set_option maxRecDepth 20000 in
theorem ggX3_shift_X3_sitesOf : GoodIn wsX3_shift wsX3_sitesOf := goodIn_r _ [34, 29, 39, 40, 41, 42, 43, 44, 45, 46, 47, 48, 49, 50, 51, 52, 53, 54] (by decide +kernel) (by decide +kernel)
set_option maxRecDepth 20000 in
theorem gX3_shift_X3_sitesOf : GoodIn wsX3_shift (wsV RX3 70 RX3 yX3_sitesOf wsX3_sitesOf) := goodIn_app (goodIn_of _ (by decide +kernel)) ggX3_shift_X3_sitesOf
set_option maxRecDepth 20000 in
theorem ggX3_shift_X3_add : GoodIn wsX3_shift wsX3_add := goodIn_r _ [38, 1, 39, 40, 41, 42, 43, 44, 45, 46, 47, 48, 49, 50, 51, 52, 53, 54] (by decide +kernel) (by decide +kernel)
set_option maxRecDepth 20000 in
theorem gX3_shift_X3_add : GoodIn wsX3_shift (wsV RX3 74 RX3 yX3_add wsX3_add) := goodIn_app (goodIn_of _ (by decide +kernel)) ggX3_shift_X3_add
theorem dX3_shift_0 : decode cX3_shift 0 = .ok (.aload_n 0, 1) := by decide +kernel
theorem dX3_shift_1 : decode cX3_shift 1 = .ok (.iload_n 1, 1) := by decide +kernel
theorem dX3_shift_2 : decode cX3_shift 2 = .ok (.invokevirtual 56, 3) := by decide +kernel
theorem dX3_shift_5 : decode cX3_shift 5 = .ok (.ifCond .eq 11, 3) := by decide +kernel
theorem dX3_shift_8 : decode cX3_shift 8 = .ok (.aload_n 0, 1) := by decide +kernel
theorem dX3_shift_9 : decode cX3_shift 9 = .ok (.iload_n 3, 1) := by decide +kernel
theorem dX3_shift_10 : decode cX3_shift 10 = .ok (.invokevirtual 56, 3) := by decide +kernel
theorem dX3_shift_13 : decode cX3_shift 13 = .ok (.ifCond .ne 5, 3) := by decide +kernel
theorem dX3_shift_16 : decode cX3_shift 16 = .ok (.iconst (-1), 1) := by decide +kernel
theorem dX3_shift_17 : decode cX3_shift 17 = .ok (.ireturn, 1) := by decide +kernel
theorem dX3_shift_18 : decode cX3_shift 18 = .ok (.iload_n 1, 1) := by decide +kernel
theorem dX3_shift_19 : decode cX3_shift 19 = .ok (.iload_n 3, 1) := by decide +kernel
theorem dX3_shift_20 : decode cX3_shift 20 = .ok (.if_icmp .eq 22, 3) := by decide +kernel
theorem dX3_shift_23 : decode cX3_shift 23 = .ok (.iload_n 2, 1) := by decide +kernel
theorem dX3_shift_24 : decode cX3_shift 24 = .ok (.iconst 0, 1) := by decide +kernel
theorem dX3_shift_25 : decode cX3_shift 25 = .ok (.sipush 4095, 3) := by decide +kernel
theorem dX3_shift_28 : decode cX3_shift 28 = .ok (.invokestatic 44, 3) := by decide +kernel
theorem dX3_shift_31 : decode cX3_shift 31 = .ok (.ifCond .eq 11, 3) := by decide +kernel
theorem dX3_shift_34 : decode cX3_shift 34 = .ok (.iload 4, 2) := by decide +kernel
theorem dX3_shift_36 : decode cX3_shift 36 = .ok (.invokestatic 60, 3) := by decide +kernel
theorem dX3_shift_39 : decode cX3_shift 39 = .ok (.ifCond .ne 6, 3) := by decide +kernel
theorem dX3_shift_42 : decode cX3_shift 42 = .ok (.bipush (-2), 2) := by decide +kernel
theorem dX3_shift_44 : decode cX3_shift 44 = .ok (.ireturn, 1) := by decide +kernel
theorem dX3_shift_45 : decode cX3_shift 45 = .ok (.iload 4, 2) := by decide +kernel
theorem dX3_shift_47 : decode cX3_shift 47 = .ok (.aload_n 0, 1) := by decide +kernel
theorem dX3_shift_48 : decode cX3_shift 48 = .ok (.invokevirtual 63, 3) := by decide +kernel
theorem dX3_shift_51 : decode cX3_shift 51 = .ok (.if_icmp .ge 6, 3) := by decide +kernel
theorem dX3_shift_54 : decode cX3_shift 54 = .ok (.bipush (-3), 2) := by decide +kernel
theorem dX3_shift_56 : decode cX3_shift 56 = .ok (.ireturn, 1) := by decide +kernel
theorem dX3_shift_57 : decode cX3_shift 57 = .ok (.aload_n 0, 1) := by decide +kernel
theorem dX3_shift_58 : decode cX3_shift 58 = .ok (.iload_n 1, 1) := by decide +kernel
theorem dX3_shift_59 : decode cX3_shift 59 = .ok (.iload_n 2, 1) := by decide +kernel
theorem dX3_shift_60 : decode cX3_shift 60 = .ok (.invokevirtual 81, 3) := by decide +kernel
theorem dX3_shift_63 : decode cX3_shift 63 = .ok (.ifCond .eq 11, 3) := by decide +kernel
theorem dX3_shift_66 : decode cX3_shift 66 = .ok (.aload_n 0, 1) := by decide +kernel
theorem dX3_shift_67 : decode cX3_shift 67 = .ok (.iload_n 3, 1) := by decide +kernel
theorem dX3_shift_68 : decode cX3_shift 68 = .ok (.invokevirtual 70, 3) := by decide +kernel
theorem dX3_shift_71 : decode cX3_shift 71 = .ok (.ifCond .ne 6, 3) := by decide +kernel
theorem dX3_shift_74 : decode cX3_shift 74 = .ok (.bipush (-5), 2) := by decide +kernel
theorem dX3_shift_76 : decode cX3_shift 76 = .ok (.ireturn, 1) := by decide +kernel
theorem dX3_shift_77 : decode cX3_shift 77 = .ok (.aload_n 0, 1) := by decide +kernel
theorem dX3_shift_78 : decode cX3_shift 78 = .ok (.getfield 7, 3) := by decide +kernel
theorem dX3_shift_81 : decode cX3_shift 81 = .ok (.sipush 420, 3) := by decide +kernel
theorem dX3_shift_84 : decode cX3_shift 84 = .ok (.iaload, 1) := by decide +kernel
theorem dX3_shift_85 : decode cX3_shift 85 = .ok (.bipush 30, 2) := by decide +kernel
theorem dX3_shift_87 : decode cX3_shift 87 = .ok (.if_icmp .ne 6, 3) := by decide +kernel
theorem dX3_shift_90 : decode cX3_shift 90 = .ok (.bipush (-4), 2) := by decide +kernel
theorem dX3_shift_92 : decode cX3_shift 92 = .ok (.ireturn, 1) := by decide +kernel
theorem dX3_shift_93 : decode cX3_shift 93 = .ok (.aload_n 0, 1) := by decide +kernel
theorem dX3_shift_94 : decode cX3_shift 94 = .ok (.iconst 3, 1) := by decide +kernel
theorem dX3_shift_95 : decode cX3_shift 95 = .ok (.iload 4, 2) := by decide +kernel
theorem dX3_shift_97 : decode cX3_shift 97 = .ok (.iload_n 1, 1) := by decide +kernel
theorem dX3_shift_98 : decode cX3_shift 98 = .ok (.iload_n 2, 1) := by decide +kernel
theorem dX3_shift_99 : decode cX3_shift 99 = .ok (.iload_n 3, 1) := by decide +kernel
theorem dX3_shift_100 : decode cX3_shift 100 = .ok (.invokevirtual 74, 3) := by decide +kernel
theorem dX3_shift_103 : decode cX3_shift 103 = .ok (.aload_n 0, 1) := by decide +kernel
theorem dX3_shift_104 : decode cX3_shift 104 = .ok (.getfield 7, 3) := by decide +kernel
theorem dX3_shift_107 : decode cX3_shift 107 = .ok (.sipush 420, 3) := by decide +kernel
theorem dX3_shift_110 : decode cX3_shift 110 = .ok (.iaload, 1) := by decide +kernel
theorem dX3_shift_111 : decode cX3_shift 111 = .ok (.iconst 1, 1) := by decide +kernel
theorem dX3_shift_112 : decode cX3_shift 112 = .ok (.isub, 1) := by decide +kernel
theorem dX3_shift_113 : decode cX3_shift 113 = .ok (.ireturn, 1) := by decide +kernel
theorem dX3_undo_0 : decode cX3_undo 0 = .ok (.aload_n 0, 1) := by decide +kernel
theorem dX3_undo_1 : decode cX3_undo 1 = .ok (.getfield 7, 3) := by decide +kernel
theorem dX3_undo_4 : decode cX3_undo 4 = .ok (.sipush 420, 3) := by decide +kernel
theorem dX3_undo_7 : decode cX3_undo 7 = .ok (.iaload, 1) := by decide +kernel
theorem dX3_undo_8 : decode cX3_undo 8 = .ok (.ifCond .ne 6, 3) := by decide +kernel
theorem dX3_undo_11 : decode cX3_undo 11 = .ok (.bipush (-6), 2) := by decide +kernel
theorem dX3_undo_13 : decode cX3_undo 13 = .ok (.ireturn, 1) := by decide +kernel
theorem dX3_undo_14 : decode cX3_undo 14 = .ok (.aload_n 0, 1) := by decide +kernel
theorem dX3_undo_15 : decode cX3_undo 15 = .ok (.getfield 7, 3) := by decide +kernel
theorem dX3_undo_18 : decode cX3_undo 18 = .ok (.sipush 420, 3) := by decide +kernel
theorem dX3_undo_21 : decode cX3_undo 21 = .ok (.dup2, 1) := by decide +kernel
theorem dX3_undo_22 : decode cX3_undo 22 = .ok (.iaload, 1) := by decide +kernel
theorem dX3_undo_23 : decode cX3_undo 23 = .ok (.iconst 1, 1) := by decide +kernel
theorem dX3_undo_24 : decode cX3_undo 24 = .ok (.isub, 1) := by decide +kernel
theorem dX3_undo_25 : decode cX3_undo 25 = .ok (.iastore, 1) := by decide +kernel
theorem dX3_undo_26 : decode cX3_undo 26 = .ok (.aload_n 0, 1) := by decide +kernel
theorem dX3_undo_27 : decode cX3_undo 27 = .ok (.getfield 7, 3) := by decide +kernel
theorem dX3_undo_30 : decode cX3_undo 30 = .ok (.sipush 421, 3) := by decide +kernel
theorem dX3_undo_33 : decode cX3_undo 33 = .ok (.dup2, 1) := by decide +kernel
theorem dX3_undo_34 : decode cX3_undo 34 = .ok (.iaload, 1) := by decide +kernel
theorem dX3_undo_35 : decode cX3_undo 35 = .ok (.aload_n 0, 1) := by decide +kernel
theorem dX3_undo_36 : decode cX3_undo 36 = .ok (.getfield 7, 3) := by decide +kernel
theorem dX3_undo_39 : decode cX3_undo 39 = .ok (.iconst 0, 1) := by decide +kernel
theorem dX3_undo_40 : decode cX3_undo 40 = .ok (.aload_n 0, 1) := by decide +kernel
theorem dX3_undo_41 : decode cX3_undo 41 = .ok (.getfield 7, 3) := by decide +kernel
theorem dX3_undo_44 : decode cX3_undo 44 = .ok (.sipush 420, 3) := by decide +kernel
theorem dX3_undo_47 : decode cX3_undo 47 = .ok (.iaload, 1) := by decide +kernel
theorem dX3_undo_48 : decode cX3_undo 48 = .ok (.iadd, 1) := by decide +kernel
theorem dX3_undo_49 : decode cX3_undo 49 = .ok (.iaload, 1) := by decide +kernel
theorem dX3_undo_50 : decode cX3_undo 50 = .ok (.iconst 1, 1) := by decide +kernel
theorem dX3_undo_51 : decode cX3_undo 51 = .ok (.if_icmp .ne 7, 3) := by decide +kernel
theorem dX3_undo_54 : decode cX3_undo 54 = .ok (.iconst 1, 1) := by decide +kernel
theorem dX3_undo_55 : decode cX3_undo 55 = .ok (.goto 4, 3) := by decide +kernel
theorem dX3_undo_58 : decode cX3_undo 58 = .ok (.iconst 0, 1) := by decide +kernel
theorem dX3_undo_59 : decode cX3_undo 59 = .ok (.isub, 1) := by decide +kernel
theorem dX3_undo_60 : decode cX3_undo 60 = .ok (.iastore, 1) := by decide +kernel
theorem dX3_undo_61 : decode cX3_undo 61 = .ok (.aload_n 0, 1) := by decide +kernel
theorem dX3_undo_62 : decode cX3_undo 62 = .ok (.getfield 7, 3) := by decide +kernel
theorem dX3_undo_65 : decode cX3_undo 65 = .ok (.sipush 420, 3) := by decide +kernel
theorem dX3_undo_68 : decode cX3_undo 68 = .ok (.iaload, 1) := by decide +kernel
theorem dX3_undo_69 : decode cX3_undo 69 = .ok (.ireturn, 1) := by decide +kernel
set_option maxRecDepth 20000 in
theorem ggX3_event_X3_in : GoodIn wsX3_event wsX3_in := goodIn_r _ [5] (by decide +kernel) (by decide +kernel)
set_option maxRecDepth 20000 in
theorem gX3_event_X3_in : GoodIn wsX3_event (va_wsS RX3 44 yX3_in wsX3_in) := goodIn_app (goodIn_of _ (by decide +kernel)) ggX3_event_X3_in
theorem dX3_event_0 : decode cX3_event 0 = .ok (.iload_n 2, 1) := by decide +kernel
theorem dX3_event_1 : decode cX3_event 1 = .ok (.iconst 0, 1) := by decide +kernel
theorem dX3_event_2 : decode cX3_event 2 = .ok (.iconst 4, 1) := by decide +kernel
theorem dX3_event_3 : decode cX3_event 3 = .ok (.invokestatic 44, 3) := by decide +kernel
theorem dX3_event_6 : decode cX3_event 6 = .ok (.ifCond .ne 6, 3) := by decide +kernel
theorem dX3_event_9 : decode cX3_event 9 = .ok (.bipush (-2), 2) := by decide +kernel
theorem dX3_event_11 : decode cX3_event 11 = .ok (.ireturn, 1) := by decide +kernel
theorem dX3_event_12 : decode cX3_event 12 = .ok (.iload_n 1, 1) := by decide +kernel
theorem dX3_event_13 : decode cX3_event 13 = .ok (.iconst 0, 1) := by decide +kernel
theorem dX3_event_14 : decode cX3_event 14 = .ok (.aload_n 0, 1) := by decide +kernel
theorem dX3_event_15 : decode cX3_event 15 = .ok (.getfield 7, 3) := by decide +kernel
theorem dX3_event_18 : decode cX3_event 18 = .ok (.sipush 420, 3) := by decide +kernel
theorem dX3_event_21 : decode cX3_event 21 = .ok (.iaload, 1) := by decide +kernel
theorem dX3_event_22 : decode cX3_event 22 = .ok (.iconst 1, 1) := by decide +kernel
theorem dX3_event_23 : decode cX3_event 23 = .ok (.isub, 1) := by decide +kernel
theorem dX3_event_24 : decode cX3_event 24 = .ok (.invokestatic 44, 3) := by decide +kernel
theorem dX3_event_27 : decode cX3_event 27 = .ok (.ifCond .eq 19, 3) := by decide +kernel
theorem dX3_event_30 : decode cX3_event 30 = .ok (.aload_n 0, 1) := by decide +kernel
theorem dX3_event_31 : decode cX3_event 31 = .ok (.getfield 7, 3) := by decide +kernel
theorem dX3_event_34 : decode cX3_event 34 = .ok (.iconst 0, 1) := by decide +kernel
theorem dX3_event_35 : decode cX3_event 35 = .ok (.bipush 30, 2) := by decide +kernel
theorem dX3_event_37 : decode cX3_event 37 = .ok (.iload_n 2, 1) := by decide +kernel
theorem dX3_event_38 : decode cX3_event 38 = .ok (.imul, 1) := by decide +kernel
theorem dX3_event_39 : decode cX3_event 39 = .ok (.iadd, 1) := by decide +kernel
theorem dX3_event_40 : decode cX3_event 40 = .ok (.iload_n 1, 1) := by decide +kernel
theorem dX3_event_41 : decode cX3_event 41 = .ok (.iadd, 1) := by decide +kernel
theorem dX3_event_42 : decode cX3_event 42 = .ok (.iaload, 1) := by decide +kernel
theorem dX3_event_43 : decode cX3_event 43 = .ok (.goto 5, 3) := by decide +kernel
theorem dX3_event_46 : decode cX3_event 46 = .ok (.bipush (-6), 2) := by decide +kernel
theorem dX3_event_48 : decode cX3_event 48 = .ok (.ireturn, 1) := by decide +kernel
set_option maxRecDepth 20000 in
theorem ggX3_at_X3_isSite : GoodIn wsX3_at wsX3_isSite := goodIn_r _ [5, 6, 7, 4, 8] (by decide +kernel) (by decide +kernel)
set_option maxRecDepth 20000 in
theorem gX3_at_X3_isSite : GoodIn wsX3_at (va_wsS RX3 85 yX3_isSite wsX3_isSite) := goodIn_app (goodIn_of _ (by decide +kernel)) ggX3_at_X3_isSite
set_option maxRecDepth 20000 in
theorem ggX3_at_X3_isYear : GoodIn wsX3_at wsX3_isYear := goodIn_r _ [11, 6, 7, 4, 8] (by decide +kernel) (by decide +kernel)
set_option maxRecDepth 20000 in
theorem gX3_at_X3_isYear : GoodIn wsX3_at (va_wsS RX3 60 yX3_isYear wsX3_isYear) := goodIn_app (goodIn_of _ (by decide +kernel)) ggX3_at_X3_isYear
set_option maxRecDepth 20000 in
theorem ggX3_at_X3_goTo : GoodIn wsX3_at wsX3_goTo := goodIn_r _ [15, 16, 17, 18, 19, 4, 20, 1, 21, 22, 23, 24, 25, 26, 27, 28, 29, 30, 31, 32, 33, 34, 35, 36, 37] (by decide +kernel) (by decide +kernel)
set_option maxRecDepth 20000 in
theorem gX3_at_X3_goTo : GoodIn wsX3_at (wsV RX3 88 RX3 yX3_goTo wsX3_goTo) := goodIn_app (goodIn_of _ (by decide +kernel)) ggX3_at_X3_goTo
theorem dX3_at_0 : decode cX3_at 0 = .ok (.iload_n 1, 1) := by decide +kernel
theorem dX3_at_1 : decode cX3_at 1 = .ok (.invokestatic 85, 3) := by decide +kernel
theorem dX3_at_4 : decode cX3_at 4 = .ok (.ifCond .ne 5, 3) := by decide +kernel
theorem dX3_at_7 : decode cX3_at 7 = .ok (.iconst (-1), 1) := by decide +kernel
theorem dX3_at_8 : decode cX3_at 8 = .ok (.ireturn, 1) := by decide +kernel
theorem dX3_at_9 : decode cX3_at 9 = .ok (.iload_n 2, 1) := by decide +kernel
theorem dX3_at_10 : decode cX3_at 10 = .ok (.invokestatic 60, 3) := by decide +kernel
theorem dX3_at_13 : decode cX3_at 13 = .ok (.ifCond .ne 6, 3) := by decide +kernel
theorem dX3_at_16 : decode cX3_at 16 = .ok (.bipush (-2), 2) := by decide +kernel
theorem dX3_at_18 : decode cX3_at 18 = .ok (.ireturn, 1) := by decide +kernel
theorem dX3_at_19 : decode cX3_at 19 = .ok (.aload_n 0, 1) := by decide +kernel
theorem dX3_at_20 : decode cX3_at 20 = .ok (.iload_n 2, 1) := by decide +kernel
theorem dX3_at_21 : decode cX3_at 21 = .ok (.invokevirtual 88, 3) := by decide +kernel
theorem dX3_at_24 : decode cX3_at 24 = .ok (.aload_n 0, 1) := by decide +kernel
theorem dX3_at_25 : decode cX3_at 25 = .ok (.getfield 23, 3) := by decide +kernel
theorem dX3_at_28 : decode cX3_at 28 = .ok (.iload_n 1, 1) := by decide +kernel
theorem dX3_at_29 : decode cX3_at 29 = .ok (.iaload, 1) := by decide +kernel
theorem dX3_at_30 : decode cX3_at 30 = .ok (.ireturn, 1) := by decide +kernel
set_option maxRecDepth 20000 in
theorem ggX3_sites_X3_isParish : GoodIn wsX3_sites wsX3_isParish := goodIn_r _ [5, 6, 7, 8, 4, 9, 27, 28, 29, 30, 31, 32, 33, 34, 35, 36, 37, 38, 39, 40, 41, 42] (by decide +kernel) (by decide +kernel)
set_option maxRecDepth 20000 in
theorem gX3_sites_X3_isParish : GoodIn wsX3_sites (wsV RX3 56 RX3 yX3_isParish wsX3_isParish) := goodIn_app (goodIn_of _ (by decide +kernel)) ggX3_sites_X3_isParish
set_option maxRecDepth 20000 in
theorem ggX3_sites_X3_isYear : GoodIn wsX3_sites wsX3_isYear := goodIn_r _ [12, 7, 8, 4, 9] (by decide +kernel) (by decide +kernel)
set_option maxRecDepth 20000 in
theorem gX3_sites_X3_isYear : GoodIn wsX3_sites (va_wsS RX3 60 yX3_isYear wsX3_isYear) := goodIn_app (goodIn_of _ (by decide +kernel)) ggX3_sites_X3_isYear
set_option maxRecDepth 20000 in
theorem ggX3_sites_X3_goTo : GoodIn wsX3_sites wsX3_goTo := goodIn_r _ [16, 6, 17, 18, 19, 4, 20, 21, 22, 27, 28, 29, 30, 31, 32, 33, 34, 35, 36, 37, 38, 39, 40, 41, 42] (by decide +kernel) (by decide +kernel)
set_option maxRecDepth 20000 in
theorem gX3_sites_X3_goTo : GoodIn wsX3_sites (wsV RX3 88 RX3 yX3_goTo wsX3_goTo) := goodIn_app (goodIn_of _ (by decide +kernel)) ggX3_sites_X3_goTo
set_option maxRecDepth 20000 in
theorem ggX3_sites_X3_sitesOf : GoodIn wsX3_sites wsX3_sitesOf := goodIn_r _ [26, 21, 27, 28, 29, 30, 31, 32, 33, 34, 35, 36, 37, 38, 39, 40, 41, 42] (by decide +kernel) (by decide +kernel)
set_option maxRecDepth 20000 in
theorem gX3_sites_X3_sitesOf : GoodIn wsX3_sites (wsV RX3 70 RX3 yX3_sitesOf wsX3_sitesOf) := goodIn_app (goodIn_of _ (by decide +kernel)) ggX3_sites_X3_sitesOf
theorem dX3_sites_0 : decode cX3_sites 0 = .ok (.aload_n 0, 1) := by decide +kernel
theorem dX3_sites_1 : decode cX3_sites 1 = .ok (.iload_n 1, 1) := by decide +kernel
theorem dX3_sites_2 : decode cX3_sites 2 = .ok (.invokevirtual 56, 3) := by decide +kernel
theorem dX3_sites_5 : decode cX3_sites 5 = .ok (.ifCond .ne 5, 3) := by decide +kernel
theorem dX3_sites_8 : decode cX3_sites 8 = .ok (.iconst (-1), 1) := by decide +kernel
theorem dX3_sites_9 : decode cX3_sites 9 = .ok (.ireturn, 1) := by decide +kernel
theorem dX3_sites_10 : decode cX3_sites 10 = .ok (.iload_n 2, 1) := by decide +kernel
theorem dX3_sites_11 : decode cX3_sites 11 = .ok (.invokestatic 60, 3) := by decide +kernel
theorem dX3_sites_14 : decode cX3_sites 14 = .ok (.ifCond .ne 6, 3) := by decide +kernel
theorem dX3_sites_17 : decode cX3_sites 17 = .ok (.bipush (-2), 2) := by decide +kernel
theorem dX3_sites_19 : decode cX3_sites 19 = .ok (.ireturn, 1) := by decide +kernel
theorem dX3_sites_20 : decode cX3_sites 20 = .ok (.aload_n 0, 1) := by decide +kernel
theorem dX3_sites_21 : decode cX3_sites 21 = .ok (.iload_n 2, 1) := by decide +kernel
theorem dX3_sites_22 : decode cX3_sites 22 = .ok (.invokevirtual 88, 3) := by decide +kernel
theorem dX3_sites_25 : decode cX3_sites 25 = .ok (.aload_n 0, 1) := by decide +kernel
theorem dX3_sites_26 : decode cX3_sites 26 = .ok (.iload_n 1, 1) := by decide +kernel
theorem dX3_sites_27 : decode cX3_sites 27 = .ok (.invokevirtual 70, 3) := by decide +kernel
theorem dX3_sites_30 : decode cX3_sites 30 = .ok (.ireturn, 1) := by decide +kernel
set_option maxRecDepth 20000 in
theorem ggX3_letter_X3_isParish : GoodIn wsX3_letter wsX3_isParish := goodIn_r _ [5, 6, 7, 8, 4, 9, 35, 36, 37, 38, 39, 40, 41, 42, 43, 44, 45, 46, 47, 48, 49, 50] (by decide +kernel) (by decide +kernel)
set_option maxRecDepth 20000 in
theorem gX3_letter_X3_isParish : GoodIn wsX3_letter (wsV RX3 56 RX3 yX3_isParish wsX3_isParish) := goodIn_app (goodIn_of _ (by decide +kernel)) ggX3_letter_X3_isParish
set_option maxRecDepth 20000 in
theorem ggX3_letter_X3_isYear : GoodIn wsX3_letter wsX3_isYear := goodIn_r _ [12, 7, 8, 4, 9] (by decide +kernel) (by decide +kernel)
set_option maxRecDepth 20000 in
theorem gX3_letter_X3_isYear : GoodIn wsX3_letter (va_wsS RX3 60 yX3_isYear wsX3_isYear) := goodIn_app (goodIn_of _ (by decide +kernel)) ggX3_letter_X3_isYear
set_option maxRecDepth 20000 in
theorem ggX3_letter_X3_goTo : GoodIn wsX3_letter wsX3_goTo := goodIn_r _ [16, 6, 17, 18, 19, 4, 20, 21, 22, 35, 36, 37, 38, 39, 40, 41, 42, 43, 44, 45, 46, 47, 48, 49, 50] (by decide +kernel) (by decide +kernel)
set_option maxRecDepth 20000 in
theorem gX3_letter_X3_goTo : GoodIn wsX3_letter (wsV RX3 88 RX3 yX3_goTo wsX3_goTo) := goodIn_app (goodIn_of _ (by decide +kernel)) ggX3_letter_X3_goTo
set_option maxRecDepth 20000 in
theorem ggX3_letter_X3_sitesOf : GoodIn wsX3_letter wsX3_sitesOf := goodIn_r _ [26, 21, 35, 36, 37, 38, 39, 40, 41, 42, 43, 44, 45, 46, 47, 48, 49, 50] (by decide +kernel) (by decide +kernel)
set_option maxRecDepth 20000 in
theorem gX3_letter_X3_sitesOf : GoodIn wsX3_letter (wsV RX3 70 RX3 yX3_sitesOf wsX3_sitesOf) := goodIn_app (goodIn_of _ (by decide +kernel)) ggX3_letter_X3_sitesOf
set_option maxRecDepth 20000 in
theorem ggX3_letter_X3_lettersOf : GoodIn wsX3_letter wsX3_lettersOf := goodIn_r _ [30, 22, 6, 35, 36, 37, 38, 39, 40, 41, 42, 43, 44, 45, 46, 47, 48, 49, 50] (by decide +kernel) (by decide +kernel)
set_option maxRecDepth 20000 in
theorem gX3_letter_X3_lettersOf : GoodIn wsX3_letter (wsV RX3 91 RX3 yX3_lettersOf wsX3_lettersOf) := goodIn_app (goodIn_of _ (by decide +kernel)) ggX3_letter_X3_lettersOf
set_option maxRecDepth 20000 in
theorem ggX3_letter_X3_letterOf : GoodIn wsX3_letter wsX3_letterOf := goodIn_r _ [34, 22, 6, 35, 36, 37, 38, 39, 40, 41, 42, 43, 44, 45, 46, 47, 48, 49, 50] (by decide +kernel) (by decide +kernel)
set_option maxRecDepth 20000 in
theorem gX3_letter_X3_letterOf : GoodIn wsX3_letter (wsV RX3 94 RX3 yX3_letterOf wsX3_letterOf) := goodIn_app (goodIn_of _ (by decide +kernel)) ggX3_letter_X3_letterOf
theorem dX3_letter_0 : decode cX3_letter 0 = .ok (.aload_n 0, 1) := by decide +kernel
theorem dX3_letter_1 : decode cX3_letter 1 = .ok (.iload_n 1, 1) := by decide +kernel
theorem dX3_letter_2 : decode cX3_letter 2 = .ok (.invokevirtual 56, 3) := by decide +kernel
theorem dX3_letter_5 : decode cX3_letter 5 = .ok (.ifCond .ne 5, 3) := by decide +kernel
theorem dX3_letter_8 : decode cX3_letter 8 = .ok (.iconst (-1), 1) := by decide +kernel
theorem dX3_letter_9 : decode cX3_letter 9 = .ok (.ireturn, 1) := by decide +kernel
theorem dX3_letter_10 : decode cX3_letter 10 = .ok (.iload_n 2, 1) := by decide +kernel
theorem dX3_letter_11 : decode cX3_letter 11 = .ok (.invokestatic 60, 3) := by decide +kernel
theorem dX3_letter_14 : decode cX3_letter 14 = .ok (.ifCond .eq 8, 3) := by decide +kernel
theorem dX3_letter_17 : decode cX3_letter 17 = .ok (.iload_n 3, 1) := by decide +kernel
theorem dX3_letter_18 : decode cX3_letter 18 = .ok (.iconst (-1), 1) := by decide +kernel
theorem dX3_letter_19 : decode cX3_letter 19 = .ok (.if_icmp .ge 6, 3) := by decide +kernel
theorem dX3_letter_22 : decode cX3_letter 22 = .ok (.bipush (-2), 2) := by decide +kernel
theorem dX3_letter_24 : decode cX3_letter 24 = .ok (.ireturn, 1) := by decide +kernel
theorem dX3_letter_25 : decode cX3_letter 25 = .ok (.aload_n 0, 1) := by decide +kernel
theorem dX3_letter_26 : decode cX3_letter 26 = .ok (.iload_n 2, 1) := by decide +kernel
theorem dX3_letter_27 : decode cX3_letter 27 = .ok (.invokevirtual 88, 3) := by decide +kernel
theorem dX3_letter_30 : decode cX3_letter 30 = .ok (.aload_n 0, 1) := by decide +kernel
theorem dX3_letter_31 : decode cX3_letter 31 = .ok (.iload_n 1, 1) := by decide +kernel
theorem dX3_letter_32 : decode cX3_letter 32 = .ok (.invokevirtual 70, 3) := by decide +kernel
theorem dX3_letter_35 : decode cX3_letter 35 = .ok (.ifCond .eq 12, 3) := by decide +kernel
theorem dX3_letter_38 : decode cX3_letter 38 = .ok (.iload_n 3, 1) := by decide +kernel
theorem dX3_letter_39 : decode cX3_letter 39 = .ok (.aload_n 0, 1) := by decide +kernel
theorem dX3_letter_40 : decode cX3_letter 40 = .ok (.iload_n 1, 1) := by decide +kernel
theorem dX3_letter_41 : decode cX3_letter 41 = .ok (.invokevirtual 91, 3) := by decide +kernel
theorem dX3_letter_44 : decode cX3_letter 44 = .ok (.if_icmp .lt 6, 3) := by decide +kernel
theorem dX3_letter_47 : decode cX3_letter 47 = .ok (.bipush (-6), 2) := by decide +kernel
theorem dX3_letter_49 : decode cX3_letter 49 = .ok (.ireturn, 1) := by decide +kernel
theorem dX3_letter_50 : decode cX3_letter 50 = .ok (.iload_n 3, 1) := by decide +kernel
theorem dX3_letter_51 : decode cX3_letter 51 = .ok (.iconst (-1), 1) := by decide +kernel
theorem dX3_letter_52 : decode cX3_letter 52 = .ok (.if_icmp .ne 11, 3) := by decide +kernel
theorem dX3_letter_55 : decode cX3_letter 55 = .ok (.aload_n 0, 1) := by decide +kernel
theorem dX3_letter_56 : decode cX3_letter 56 = .ok (.iload_n 1, 1) := by decide +kernel
theorem dX3_letter_57 : decode cX3_letter 57 = .ok (.invokevirtual 91, 3) := by decide +kernel
theorem dX3_letter_60 : decode cX3_letter 60 = .ok (.goto 9, 3) := by decide +kernel
theorem dX3_letter_63 : decode cX3_letter 63 = .ok (.aload_n 0, 1) := by decide +kernel
theorem dX3_letter_64 : decode cX3_letter 64 = .ok (.iload_n 1, 1) := by decide +kernel
theorem dX3_letter_65 : decode cX3_letter 65 = .ok (.iload_n 3, 1) := by decide +kernel
theorem dX3_letter_66 : decode cX3_letter 66 = .ok (.invokevirtual 94, 3) := by decide +kernel
theorem dX3_letter_69 : decode cX3_letter 69 = .ok (.ireturn, 1) := by decide +kernel
theorem dX3_classOf_0 : decode cX3_classOf 0 = .ok (.iload_n 0, 1) := by decide +kernel
theorem dX3_classOf_1 : decode cX3_classOf 1 = .ok (.tableswitch 128 97 121 #[126, 115, 128, 117, 126, 115, 128, 126, 126, 128, 128, 119, 121, 121, 126, 115, 128, 123, 128, 117, 126, 115, 126, 128, 126], 115) := by decide +kernel
theorem dX3_classOf_116 : decode cX3_classOf 116 = .ok (.iconst 1, 1) := by decide +kernel
theorem dX3_classOf_117 : decode cX3_classOf 117 = .ok (.ireturn, 1) := by decide +kernel
theorem dX3_classOf_118 : decode cX3_classOf 118 = .ok (.iconst 3, 1) := by decide +kernel
theorem dX3_classOf_119 : decode cX3_classOf 119 = .ok (.ireturn, 1) := by decide +kernel
theorem dX3_classOf_120 : decode cX3_classOf 120 = .ok (.iconst 4, 1) := by decide +kernel
theorem dX3_classOf_121 : decode cX3_classOf 121 = .ok (.ireturn, 1) := by decide +kernel
theorem dX3_classOf_122 : decode cX3_classOf 122 = .ok (.iconst 5, 1) := by decide +kernel
theorem dX3_classOf_123 : decode cX3_classOf 123 = .ok (.ireturn, 1) := by decide +kernel
theorem dX3_classOf_124 : decode cX3_classOf 124 = .ok (.bipush 6, 2) := by decide +kernel
theorem dX3_classOf_126 : decode cX3_classOf 126 = .ok (.ireturn, 1) := by decide +kernel
theorem dX3_classOf_127 : decode cX3_classOf 127 = .ok (.iconst 0, 1) := by decide +kernel
theorem dX3_classOf_128 : decode cX3_classOf 128 = .ok (.ireturn, 1) := by decide +kernel
theorem dX3_classOf_129 : decode cX3_classOf 129 = .ok (.iconst 2, 1) := by decide +kernel
theorem dX3_classOf_130 : decode cX3_classOf 130 = .ok (.ireturn, 1) := by decide +kernel
set_option maxRecDepth 20000 in
theorem ggX3_laySound_X3_classOf : GoodIn wsX3_laySound wsX3_classOf := goodIn_r _ [4] (by decide +kernel) (by decide +kernel)
set_option maxRecDepth 20000 in
theorem gX3_laySound_X3_classOf : GoodIn wsX3_laySound (va_wsS RX3 98 yX3_classOf wsX3_classOf) := goodIn_app (goodIn_of _ (by decide +kernel)) ggX3_laySound_X3_classOf
theorem dX3_laySound_0 : decode cX3_laySound 0 = .ok (.iconst 0, 1) := by decide +kernel
theorem dX3_laySound_1 : decode cX3_laySound 1 = .ok (.istore_n 3, 1) := by decide +kernel
theorem dX3_laySound_2 : decode cX3_laySound 2 = .ok (.iconst 0, 1) := by decide +kernel
theorem dX3_laySound_3 : decode cX3_laySound 3 = .ok (.istore 4, 2) := by decide +kernel
theorem dX3_laySound_5 : decode cX3_laySound 5 = .ok (.iload 4, 2) := by decide +kernel
theorem dX3_laySound_7 : decode cX3_laySound 7 = .ok (.iload_n 1, 1) := by decide +kernel
theorem dX3_laySound_8 : decode cX3_laySound 8 = .ok (.if_icmp .ge 55, 3) := by decide +kernel
theorem dX3_laySound_11 : decode cX3_laySound 11 = .ok (.iload_n 3, 1) := by decide +kernel
theorem dX3_laySound_12 : decode cX3_laySound 12 = .ok (.iconst 4, 1) := by decide +kernel
theorem dX3_laySound_13 : decode cX3_laySound 13 = .ok (.if_icmp .ge 50, 3) := by decide +kernel
theorem dX3_laySound_16 : decode cX3_laySound 16 = .ok (.aload_n 0, 1) := by decide +kernel
theorem dX3_laySound_17 : decode cX3_laySound 17 = .ok (.iload 4, 2) := by decide +kernel
theorem dX3_laySound_19 : decode cX3_laySound 19 = .ok (.iaload, 1) := by decide +kernel
theorem dX3_laySound_20 : decode cX3_laySound 20 = .ok (.invokestatic 98, 3) := by decide +kernel
theorem dX3_laySound_23 : decode cX3_laySound 23 = .ok (.istore 5, 2) := by decide +kernel
theorem dX3_laySound_25 : decode cX3_laySound 25 = .ok (.iload 4, 2) := by decide +kernel
theorem dX3_laySound_27 : decode cX3_laySound 27 = .ok (.ifCond .eq 22, 3) := by decide +kernel
theorem dX3_laySound_30 : decode cX3_laySound 30 = .ok (.iload 5, 2) := by decide +kernel
theorem dX3_laySound_32 : decode cX3_laySound 32 = .ok (.ifCond .eq 25, 3) := by decide +kernel
theorem dX3_laySound_35 : decode cX3_laySound 35 = .ok (.iload 5, 2) := by decide +kernel
theorem dX3_laySound_37 : decode cX3_laySound 37 = .ok (.aload_n 0, 1) := by decide +kernel
theorem dX3_laySound_38 : decode cX3_laySound 38 = .ok (.iload 4, 2) := by decide +kernel
theorem dX3_laySound_40 : decode cX3_laySound 40 = .ok (.iconst 1, 1) := by decide +kernel
theorem dX3_laySound_41 : decode cX3_laySound 41 = .ok (.isub, 1) := by decide +kernel
theorem dX3_laySound_42 : decode cX3_laySound 42 = .ok (.iaload, 1) := by decide +kernel
theorem dX3_laySound_43 : decode cX3_laySound 43 = .ok (.invokestatic 98, 3) := by decide +kernel
theorem dX3_laySound_46 : decode cX3_laySound 46 = .ok (.if_icmp .eq 11, 3) := by decide +kernel
theorem dX3_laySound_49 : decode cX3_laySound 49 = .ok (.aload_n 2, 1) := by decide +kernel
theorem dX3_laySound_50 : decode cX3_laySound 50 = .ok (.iload_n 3, 1) := by decide +kernel
theorem dX3_laySound_51 : decode cX3_laySound 51 = .ok (.iload 5, 2) := by decide +kernel
theorem dX3_laySound_53 : decode cX3_laySound 53 = .ok (.iastore, 1) := by decide +kernel
theorem dX3_laySound_54 : decode cX3_laySound 54 = .ok (.iinc 3 1, 3) := by decide +kernel
theorem dX3_laySound_57 : decode cX3_laySound 57 = .ok (.iinc 4 1, 3) := by decide +kernel
theorem dX3_laySound_60 : decode cX3_laySound 60 = .ok (.goto (-55), 3) := by decide +kernel
theorem dX3_laySound_63 : decode cX3_laySound 63 = .ok (.iload_n 3, 1) := by decide +kernel
theorem dX3_laySound_64 : decode cX3_laySound 64 = .ok (.ireturn, 1) := by decide +kernel
set_option maxRecDepth 20000 in
theorem ggX3_layFirst_X3_lettersOf : GoodIn wsX3_layFirst wsX3_lettersOf := goodIn_r _ [9, 10, 11, 22, 23, 24, 25, 26, 27, 28, 29, 30, 31, 32, 33, 34, 35, 36, 37] (by decide +kernel) (by decide +kernel)
set_option maxRecDepth 20000 in
theorem gX3_layFirst_X3_lettersOf : GoodIn wsX3_layFirst (wsV RX3 91 RX3 yX3_lettersOf wsX3_lettersOf) := goodIn_app (goodIn_of _ (by decide +kernel)) ggX3_layFirst_X3_lettersOf
set_option maxRecDepth 20000 in
theorem ggX3_layFirst_X3_letterOf : GoodIn wsX3_layFirst wsX3_letterOf := goodIn_r _ [15, 10, 11, 22, 23, 24, 25, 26, 27, 28, 29, 30, 31, 32, 33, 34, 35, 36, 37] (by decide +kernel) (by decide +kernel)
set_option maxRecDepth 20000 in
theorem gX3_layFirst_X3_letterOf : GoodIn wsX3_layFirst (wsV RX3 94 RX3 yX3_letterOf wsX3_letterOf) := goodIn_app (goodIn_of _ (by decide +kernel)) ggX3_layFirst_X3_letterOf
set_option maxRecDepth 20000 in
theorem ggX3_layFirst_X3_laySound : GoodIn wsX3_layFirst wsX3_laySound := goodIn_r _ [18, 19, 20, 8, 21] (by decide +kernel) (by decide +kernel)
set_option maxRecDepth 20000 in
theorem gX3_layFirst_X3_laySound : GoodIn wsX3_layFirst (va_wsS RX3 104 yX3_laySound wsX3_laySound) := goodIn_app (goodIn_of _ (by decide +kernel)) ggX3_layFirst_X3_laySound
theorem dX3_layFirst_0 : decode cX3_layFirst 0 = .ok (.aload_n 0, 1) := by decide +kernel
theorem dX3_layFirst_1 : decode cX3_layFirst 1 = .ok (.aload_n 0, 1) := by decide +kernel
theorem dX3_layFirst_2 : decode cX3_layFirst 2 = .ok (.iload_n 1, 1) := by decide +kernel
theorem dX3_layFirst_3 : decode cX3_layFirst 3 = .ok (.invokevirtual 91, 3) := by decide +kernel
theorem dX3_layFirst_6 : decode cX3_layFirst 6 = .ok (.putfield 101, 3) := by decide +kernel
theorem dX3_layFirst_9 : decode cX3_layFirst 9 = .ok (.iconst 0, 1) := by decide +kernel
theorem dX3_layFirst_10 : decode cX3_layFirst 10 = .ok (.istore_n 2, 1) := by decide +kernel
theorem dX3_layFirst_11 : decode cX3_layFirst 11 = .ok (.iload_n 2, 1) := by decide +kernel
theorem dX3_layFirst_12 : decode cX3_layFirst 12 = .ok (.aload_n 0, 1) := by decide +kernel
theorem dX3_layFirst_13 : decode cX3_layFirst 13 = .ok (.getfield 101, 3) := by decide +kernel
theorem dX3_layFirst_16 : decode cX3_layFirst 16 = .ok (.if_icmp .ge 21, 3) := by decide +kernel
theorem dX3_layFirst_19 : decode cX3_layFirst 19 = .ok (.aload_n 0, 1) := by decide +kernel
theorem dX3_layFirst_20 : decode cX3_layFirst 20 = .ok (.getfield 29, 3) := by decide +kernel
theorem dX3_layFirst_23 : decode cX3_layFirst 23 = .ok (.iload_n 2, 1) := by decide +kernel
theorem dX3_layFirst_24 : decode cX3_layFirst 24 = .ok (.aload_n 0, 1) := by decide +kernel
theorem dX3_layFirst_25 : decode cX3_layFirst 25 = .ok (.iload_n 1, 1) := by decide +kernel
theorem dX3_layFirst_26 : decode cX3_layFirst 26 = .ok (.iload_n 2, 1) := by decide +kernel
theorem dX3_layFirst_27 : decode cX3_layFirst 27 = .ok (.invokevirtual 94, 3) := by decide +kernel
theorem dX3_layFirst_30 : decode cX3_layFirst 30 = .ok (.iastore, 1) := by decide +kernel
theorem dX3_layFirst_31 : decode cX3_layFirst 31 = .ok (.iinc 2 1, 3) := by decide +kernel
theorem dX3_layFirst_34 : decode cX3_layFirst 34 = .ok (.goto (-23), 3) := by decide +kernel
theorem dX3_layFirst_37 : decode cX3_layFirst 37 = .ok (.aload_n 0, 1) := by decide +kernel
theorem dX3_layFirst_38 : decode cX3_layFirst 38 = .ok (.aload_n 0, 1) := by decide +kernel
theorem dX3_layFirst_39 : decode cX3_layFirst 39 = .ok (.getfield 29, 3) := by decide +kernel
theorem dX3_layFirst_42 : decode cX3_layFirst 42 = .ok (.aload_n 0, 1) := by decide +kernel
theorem dX3_layFirst_43 : decode cX3_layFirst 43 = .ok (.getfield 101, 3) := by decide +kernel
theorem dX3_layFirst_46 : decode cX3_layFirst 46 = .ok (.aload_n 0, 1) := by decide +kernel
theorem dX3_layFirst_47 : decode cX3_layFirst 47 = .ok (.getfield 35, 3) := by decide +kernel
theorem dX3_layFirst_50 : decode cX3_layFirst 50 = .ok (.invokestatic 104, 3) := by decide +kernel
theorem dX3_layFirst_53 : decode cX3_layFirst 53 = .ok (.putfield 108, 3) := by decide +kernel
theorem dX3_layFirst_56 : decode cX3_layFirst 56 = .ok (.return_, 1) := by decide +kernel
set_option maxRecDepth 20000 in
theorem ggX3_layPad_X3_laySound : GoodIn wsX3_layPad wsX3_laySound := goodIn_r _ [10, 11, 12, 9, 13] (by decide +kernel) (by decide +kernel)
set_option maxRecDepth 20000 in
theorem gX3_layPad_X3_laySound : GoodIn wsX3_layPad (va_wsS RX3 104 yX3_laySound wsX3_laySound) := goodIn_app (goodIn_of _ (by decide +kernel)) ggX3_layPad_X3_laySound
theorem dX3_layPad_0 : decode cX3_layPad 0 = .ok (.aload_n 0, 1) := by decide +kernel
theorem dX3_layPad_1 : decode cX3_layPad 1 = .ok (.aload_n 0, 1) := by decide +kernel
theorem dX3_layPad_2 : decode cX3_layPad 2 = .ok (.getfield 48, 3) := by decide +kernel
theorem dX3_layPad_5 : decode cX3_layPad 5 = .ok (.putfield 111, 3) := by decide +kernel
theorem dX3_layPad_8 : decode cX3_layPad 8 = .ok (.iconst 0, 1) := by decide +kernel
theorem dX3_layPad_9 : decode cX3_layPad 9 = .ok (.istore_n 1, 1) := by decide +kernel
theorem dX3_layPad_10 : decode cX3_layPad 10 = .ok (.iload_n 1, 1) := by decide +kernel
theorem dX3_layPad_11 : decode cX3_layPad 11 = .ok (.aload_n 0, 1) := by decide +kernel
theorem dX3_layPad_12 : decode cX3_layPad 12 = .ok (.getfield 48, 3) := by decide +kernel
theorem dX3_layPad_15 : decode cX3_layPad 15 = .ok (.if_icmp .ge 21, 3) := by decide +kernel
theorem dX3_layPad_18 : decode cX3_layPad 18 = .ok (.aload_n 0, 1) := by decide +kernel
theorem dX3_layPad_19 : decode cX3_layPad 19 = .ok (.getfield 32, 3) := by decide +kernel
theorem dX3_layPad_22 : decode cX3_layPad 22 = .ok (.iload_n 1, 1) := by decide +kernel
theorem dX3_layPad_23 : decode cX3_layPad 23 = .ok (.aload_n 0, 1) := by decide +kernel
theorem dX3_layPad_24 : decode cX3_layPad 24 = .ok (.getfield 20, 3) := by decide +kernel
theorem dX3_layPad_27 : decode cX3_layPad 27 = .ok (.iload_n 1, 1) := by decide +kernel
theorem dX3_layPad_28 : decode cX3_layPad 28 = .ok (.iaload, 1) := by decide +kernel
theorem dX3_layPad_29 : decode cX3_layPad 29 = .ok (.iastore, 1) := by decide +kernel
theorem dX3_layPad_30 : decode cX3_layPad 30 = .ok (.iinc 1 1, 3) := by decide +kernel
theorem dX3_layPad_33 : decode cX3_layPad 33 = .ok (.goto (-23), 3) := by decide +kernel
theorem dX3_layPad_36 : decode cX3_layPad 36 = .ok (.aload_n 0, 1) := by decide +kernel
theorem dX3_layPad_37 : decode cX3_layPad 37 = .ok (.aload_n 0, 1) := by decide +kernel
theorem dX3_layPad_38 : decode cX3_layPad 38 = .ok (.getfield 32, 3) := by decide +kernel
theorem dX3_layPad_41 : decode cX3_layPad 41 = .ok (.aload_n 0, 1) := by decide +kernel
theorem dX3_layPad_42 : decode cX3_layPad 42 = .ok (.getfield 111, 3) := by decide +kernel
theorem dX3_layPad_45 : decode cX3_layPad 45 = .ok (.aload_n 0, 1) := by decide +kernel
theorem dX3_layPad_46 : decode cX3_layPad 46 = .ok (.getfield 38, 3) := by decide +kernel
theorem dX3_layPad_49 : decode cX3_layPad 49 = .ok (.invokestatic 104, 3) := by decide +kernel
theorem dX3_layPad_52 : decode cX3_layPad 52 = .ok (.putfield 114, 3) := by decide +kernel
theorem dX3_layPad_55 : decode cX3_layPad 55 = .ok (.return_, 1) := by decide +kernel
theorem dX3_areSame_0 : decode cX3_areSame 0 = .ok (.aload_n 0, 1) := by decide +kernel
theorem dX3_areSame_1 : decode cX3_areSame 1 = .ok (.getfield 101, 3) := by decide +kernel
theorem dX3_areSame_4 : decode cX3_areSame 4 = .ok (.aload_n 0, 1) := by decide +kernel
