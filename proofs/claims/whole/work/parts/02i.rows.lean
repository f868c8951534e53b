theorem dX3_called_66 : decode cX3_called 66 = .ok (.istore 9, 2) := by decide +kernel
theorem dX3_called_68 : decode cX3_called 68 = .ok (.iload 9, 2) := by decide +kernel
theorem dX3_called_70 : decode cX3_called 70 = .ok (.iload_n 3, 1) := by decide +kernel
theorem dX3_called_71 : decode cX3_called 71 = .ok (.if_icmp .gt 51, 3) := by decide +kernel
theorem dX3_called_74 : decode cX3_called 74 = .ok (.aload_n 0, 1) := by decide +kernel
theorem dX3_called_75 : decode cX3_called 75 = .ok (.iload 9, 2) := by decide +kernel
theorem dX3_called_77 : decode cX3_called 77 = .ok (.invokevirtual 88, 3) := by decide +kernel
theorem dX3_called_80 : decode cX3_called 80 = .ok (.aload_n 0, 1) := by decide +kernel
theorem dX3_called_81 : decode cX3_called 81 = .ok (.aload_n 0, 1) := by decide +kernel
theorem dX3_called_82 : decode cX3_called 82 = .ok (.getfield 23, 3) := by decide +kernel
theorem dX3_called_85 : decode cX3_called 85 = .ok (.iload_n 1, 1) := by decide +kernel
theorem dX3_called_86 : decode cX3_called 86 = .ok (.iaload, 1) := by decide +kernel
theorem dX3_called_87 : decode cX3_called 87 = .ok (.iload 4, 2) := by decide +kernel
theorem dX3_called_89 : decode cX3_called 89 = .ok (.invokevirtual 146, 3) := by decide +kernel
theorem dX3_called_92 : decode cX3_called 92 = .ok (.ifCond .eq 24, 3) := by decide +kernel
theorem dX3_called_95 : decode cX3_called 95 = .ok (.iinc 6 1, 3) := by decide +kernel
theorem dX3_called_98 : decode cX3_called 98 = .ok (.iload 7, 2) := by decide +kernel
theorem dX3_called_100 : decode cX3_called 100 = .ok (.ifCond .ge 8, 3) := by decide +kernel
theorem dX3_called_103 : decode cX3_called 103 = .ok (.iload 9, 2) := by decide +kernel
theorem dX3_called_105 : decode cX3_called 105 = .ok (.goto 5, 3) := by decide +kernel
theorem dX3_called_108 : decode cX3_called 108 = .ok (.iload 7, 2) := by decide +kernel
theorem dX3_called_110 : decode cX3_called 110 = .ok (.istore 7, 2) := by decide +kernel
theorem dX3_called_112 : decode cX3_called 112 = .ok (.iload 9, 2) := by decide +kernel
theorem dX3_called_114 : decode cX3_called 114 = .ok (.istore 8, 2) := by decide +kernel
theorem dX3_called_116 : decode cX3_called 116 = .ok (.iinc 9 1, 3) := by decide +kernel
theorem dX3_called_119 : decode cX3_called 119 = .ok (.goto (-51), 3) := by decide +kernel
theorem dX3_called_122 : decode cX3_called 122 = .ok (.iload 5, 2) := by decide +kernel
theorem dX3_called_124 : decode cX3_called 124 = .ok (.ifCond .ne 8, 3) := by decide +kernel
theorem dX3_called_127 : decode cX3_called 127 = .ok (.iload 6, 2) := by decide +kernel
theorem dX3_called_129 : decode cX3_called 129 = .ok (.goto 16, 3) := by decide +kernel
theorem dX3_called_132 : decode cX3_called 132 = .ok (.iload 5, 2) := by decide +kernel
theorem dX3_called_134 : decode cX3_called 134 = .ok (.iconst 1, 1) := by decide +kernel
theorem dX3_called_135 : decode cX3_called 135 = .ok (.if_icmp .ne 8, 3) := by decide +kernel
theorem dX3_called_138 : decode cX3_called 138 = .ok (.iload 7, 2) := by decide +kernel
theorem dX3_called_140 : decode cX3_called 140 = .ok (.goto 5, 3) := by decide +kernel
theorem dX3_called_143 : decode cX3_called 143 = .ok (.iload 8, 2) := by decide +kernel
theorem dX3_called_145 : decode cX3_called 145 = .ok (.ireturn, 1) := by decide +kernel
set_option maxRecDepth 20000 in
theorem ggX3_off_X3_isParish : GoodIn wsX3_off wsX3_isParish := goodIn_r _ [6, 7, 8, 9, 5, 10, 67, 68, 69, 70, 71, 72, 73, 74, 75, 76, 77, 78, 79, 80, 81, 82] (by decide +kernel) (by decide +kernel)
set_option maxRecDepth 20000 in
theorem gX3_off_X3_isParish : GoodIn wsX3_off (wsV RX3 56 RX3 yX3_isParish wsX3_isParish) := goodIn_app (goodIn_of _ (by decide +kernel)) ggX3_off_X3_isParish
set_option maxRecDepth 20000 in
theorem ggX3_off_X3_isYear : GoodIn wsX3_off wsX3_isYear := goodIn_r _ [13, 8, 9, 5, 10] (by decide +kernel) (by decide +kernel)
set_option maxRecDepth 20000 in
theorem gX3_off_X3_isYear : GoodIn wsX3_off (va_wsS RX3 60 yX3_isYear wsX3_isYear) := goodIn_app (goodIn_of _ (by decide +kernel)) ggX3_off_X3_isYear
set_option maxRecDepth 20000 in
theorem ggX3_off_X3_goTo : GoodIn wsX3_off wsX3_goTo := goodIn_r _ [17, 7, 18, 19, 20, 5, 21, 22, 23, 67, 68, 69, 70, 71, 72, 73, 74, 75, 76, 77, 78, 79, 80, 81, 82] (by decide +kernel) (by decide +kernel)
set_option maxRecDepth 20000 in
theorem gX3_off_X3_goTo : GoodIn wsX3_off (wsV RX3 88 RX3 yX3_goTo wsX3_goTo) := goodIn_app (goodIn_of _ (by decide +kernel)) ggX3_off_X3_goTo
set_option maxRecDepth 20000 in
theorem ggX3_off_X3_sitesOf : GoodIn wsX3_off wsX3_sitesOf := goodIn_r _ [27, 22, 67, 68, 69, 70, 71, 72, 73, 74, 75, 76, 77, 78, 79, 80, 81, 82] (by decide +kernel) (by decide +kernel)
set_option maxRecDepth 20000 in
theorem gX3_off_X3_sitesOf : GoodIn wsX3_off (wsV RX3 70 RX3 yX3_sitesOf wsX3_sitesOf) := goodIn_app (goodIn_of _ (by decide +kernel)) ggX3_off_X3_sitesOf
set_option maxRecDepth 20000 in
theorem ggX3_off_X3_layPad : GoodIn wsX3_off wsX3_layPad := goodIn_r _ [31, 1, 32, 33, 34, 35, 36, 37, 38, 5, 39, 40, 41, 42, 67, 68, 69, 70, 71, 72, 73, 74, 75, 76, 77, 78, 79, 80, 81, 82] (by decide +kernel) (by decide +kernel)
set_option maxRecDepth 20000 in
theorem gX3_off_X3_layPad : GoodIn wsX3_off (wsV RX3 143 RX3 yX3_layPad wsX3_layPad) := goodIn_app (goodIn_of _ (by decide +kernel)) ggX3_off_X3_layPad
set_option maxRecDepth 20000 in
theorem ggX3_off_X3_layFirst : GoodIn wsX3_off wsX3_layFirst := goodIn_r _ [46, 47, 48, 49, 50, 51, 52, 53, 5, 54, 23, 7, 55, 56, 57, 58, 37, 38, 39, 40, 41, 42, 67, 68, 69, 70, 71, 72, 73, 74, 75, 76, 77, 78, 79, 80, 81, 82] (by decide +kernel) (by decide +kernel)
set_option maxRecDepth 20000 in
theorem gX3_off_X3_layFirst : GoodIn wsX3_off (wsV RX3 121 RX3 yX3_layFirst wsX3_layFirst) := goodIn_app (goodIn_of _ (by decide +kernel)) ggX3_off_X3_layFirst
set_option maxRecDepth 20000 in
theorem ggX3_off_X3_offNow : GoodIn wsX3_off wsX3_offNow := goodIn_r _ [62, 47, 32, 63, 48, 33, 64, 65, 5, 66, 67, 68, 69, 70, 71, 72, 73, 74, 75, 76, 77, 78, 79, 80, 81, 82] (by decide +kernel) (by decide +kernel)
set_option maxRecDepth 20000 in
theorem gX3_off_X3_offNow : GoodIn wsX3_off (wsV RX3 131 RX3 yX3_offNow wsX3_offNow) := goodIn_app (goodIn_of _ (by decide +kernel)) ggX3_off_X3_offNow
theorem dX3_off_0 : decode cX3_off 0 = .ok (.aload_n 0, 1) := by decide +kernel
theorem dX3_off_1 : decode cX3_off 1 = .ok (.iload_n 1, 1) := by decide +kernel
theorem dX3_off_2 : decode cX3_off 2 = .ok (.invokevirtual 56, 3) := by decide +kernel
theorem dX3_off_5 : decode cX3_off 5 = .ok (.ifCond .ne 5, 3) := by decide +kernel
theorem dX3_off_8 : decode cX3_off 8 = .ok (.iconst (-1), 1) := by decide +kernel
theorem dX3_off_9 : decode cX3_off 9 = .ok (.ireturn, 1) := by decide +kernel
theorem dX3_off_10 : decode cX3_off 10 = .ok (.iload_n 2, 1) := by decide +kernel
theorem dX3_off_11 : decode cX3_off 11 = .ok (.invokestatic 60, 3) := by decide +kernel
theorem dX3_off_14 : decode cX3_off 14 = .ok (.ifCond .ne 6, 3) := by decide +kernel
theorem dX3_off_17 : decode cX3_off 17 = .ok (.bipush (-2), 2) := by decide +kernel
theorem dX3_off_19 : decode cX3_off 19 = .ok (.ireturn, 1) := by decide +kernel
theorem dX3_off_20 : decode cX3_off 20 = .ok (.aload_n 0, 1) := by decide +kernel
theorem dX3_off_21 : decode cX3_off 21 = .ok (.getfield 48, 3) := by decide +kernel
theorem dX3_off_24 : decode cX3_off 24 = .ok (.ifCond .ne 6, 3) := by decide +kernel
theorem dX3_off_27 : decode cX3_off 27 = .ok (.bipush (-7), 2) := by decide +kernel
theorem dX3_off_29 : decode cX3_off 29 = .ok (.ireturn, 1) := by decide +kernel
theorem dX3_off_30 : decode cX3_off 30 = .ok (.aload_n 0, 1) := by decide +kernel
theorem dX3_off_31 : decode cX3_off 31 = .ok (.iload_n 2, 1) := by decide +kernel
theorem dX3_off_32 : decode cX3_off 32 = .ok (.invokevirtual 88, 3) := by decide +kernel
theorem dX3_off_35 : decode cX3_off 35 = .ok (.aload_n 0, 1) := by decide +kernel
theorem dX3_off_36 : decode cX3_off 36 = .ok (.iload_n 1, 1) := by decide +kernel
theorem dX3_off_37 : decode cX3_off 37 = .ok (.invokevirtual 70, 3) := by decide +kernel
theorem dX3_off_40 : decode cX3_off 40 = .ok (.ifCond .ne 6, 3) := by decide +kernel
theorem dX3_off_43 : decode cX3_off 43 = .ok (.bipush (-6), 2) := by decide +kernel
theorem dX3_off_45 : decode cX3_off 45 = .ok (.ireturn, 1) := by decide +kernel
theorem dX3_off_46 : decode cX3_off 46 = .ok (.aload_n 0, 1) := by decide +kernel
theorem dX3_off_47 : decode cX3_off 47 = .ok (.invokevirtual 143, 3) := by decide +kernel
theorem dX3_off_50 : decode cX3_off 50 = .ok (.aload_n 0, 1) := by decide +kernel
theorem dX3_off_51 : decode cX3_off 51 = .ok (.iload_n 1, 1) := by decide +kernel
theorem dX3_off_52 : decode cX3_off 52 = .ok (.invokevirtual 121, 3) := by decide +kernel
theorem dX3_off_55 : decode cX3_off 55 = .ok (.aload_n 0, 1) := by decide +kernel
theorem dX3_off_56 : decode cX3_off 56 = .ok (.invokevirtual 131, 3) := by decide +kernel
theorem dX3_off_59 : decode cX3_off 59 = .ok (.ireturn, 1) := by decide +kernel
theorem dX3_keepFirst_0 : decode cX3_keepFirst 0 = .ok (.aload_n 0, 1) := by decide +kernel
theorem dX3_keepFirst_1 : decode cX3_keepFirst 1 = .ok (.aload_n 0, 1) := by decide +kernel
theorem dX3_keepFirst_2 : decode cX3_keepFirst 2 = .ok (.getfield 101, 3) := by decide +kernel
theorem dX3_keepFirst_5 : decode cX3_keepFirst 5 = .ok (.putfield 111, 3) := by decide +kernel
theorem dX3_keepFirst_8 : decode cX3_keepFirst 8 = .ok (.iconst 0, 1) := by decide +kernel
theorem dX3_keepFirst_9 : decode cX3_keepFirst 9 = .ok (.istore_n 1, 1) := by decide +kernel
theorem dX3_keepFirst_10 : decode cX3_keepFirst 10 = .ok (.iload_n 1, 1) := by decide +kernel
theorem dX3_keepFirst_11 : decode cX3_keepFirst 11 = .ok (.aload_n 0, 1) := by decide +kernel
theorem dX3_keepFirst_12 : decode cX3_keepFirst 12 = .ok (.getfield 101, 3) := by decide +kernel
theorem dX3_keepFirst_15 : decode cX3_keepFirst 15 = .ok (.if_icmp .ge 21, 3) := by decide +kernel
theorem dX3_keepFirst_18 : decode cX3_keepFirst 18 = .ok (.aload_n 0, 1) := by decide +kernel
theorem dX3_keepFirst_19 : decode cX3_keepFirst 19 = .ok (.getfield 32, 3) := by decide +kernel
theorem dX3_keepFirst_22 : decode cX3_keepFirst 22 = .ok (.iload_n 1, 1) := by decide +kernel
theorem dX3_keepFirst_23 : decode cX3_keepFirst 23 = .ok (.aload_n 0, 1) := by decide +kernel
theorem dX3_keepFirst_24 : decode cX3_keepFirst 24 = .ok (.getfield 29, 3) := by decide +kernel
theorem dX3_keepFirst_27 : decode cX3_keepFirst 27 = .ok (.iload_n 1, 1) := by decide +kernel
theorem dX3_keepFirst_28 : decode cX3_keepFirst 28 = .ok (.iaload, 1) := by decide +kernel
theorem dX3_keepFirst_29 : decode cX3_keepFirst 29 = .ok (.iastore, 1) := by decide +kernel
theorem dX3_keepFirst_30 : decode cX3_keepFirst 30 = .ok (.iinc 1 1, 3) := by decide +kernel
theorem dX3_keepFirst_33 : decode cX3_keepFirst 33 = .ok (.goto (-23), 3) := by decide +kernel
theorem dX3_keepFirst_36 : decode cX3_keepFirst 36 = .ok (.return_, 1) := by decide +kernel
set_option maxRecDepth 20000 in
theorem ggX3_span_X3_isSite : GoodIn wsX3_span wsX3_isSite := goodIn_r _ [5, 6, 7, 4, 8] (by decide +kernel) (by decide +kernel)
set_option maxRecDepth 20000 in
theorem gX3_span_X3_isSite : GoodIn wsX3_span (va_wsS RX3 85 yX3_isSite wsX3_isSite) := goodIn_app (goodIn_of _ (by decide +kernel)) ggX3_span_X3_isSite
set_option maxRecDepth 20000 in
theorem ggX3_span_X3_in : GoodIn wsX3_span wsX3_in := goodIn_r _ [8] (by decide +kernel) (by decide +kernel)
set_option maxRecDepth 20000 in
theorem gX3_span_X3_in : GoodIn wsX3_span (va_wsS RX3 44 yX3_in wsX3_in) := goodIn_app (goodIn_of _ (by decide +kernel)) ggX3_span_X3_in
set_option maxRecDepth 20000 in
theorem ggX3_span_X3_goTo : GoodIn wsX3_span wsX3_goTo := goodIn_r _ [12, 13, 14, 15, 16, 4, 17, 1, 18, 51, 52, 53, 54, 55, 56, 57, 58, 59, 60, 61, 62, 63, 64, 65, 66] (by decide +kernel) (by decide +kernel)
set_option maxRecDepth 20000 in
theorem gX3_span_X3_goTo : GoodIn wsX3_span (wsV RX3 88 RX3 yX3_goTo wsX3_goTo) := goodIn_app (goodIn_of _ (by decide +kernel)) ggX3_span_X3_goTo
set_option maxRecDepth 20000 in
theorem ggX3_span_X3_layFirst : GoodIn wsX3_span wsX3_layFirst := goodIn_r _ [22, 23, 24, 25, 26, 27, 28, 29, 4, 30, 18, 13, 31, 32, 33, 34, 35, 36, 37, 38, 39, 40, 51, 52, 53, 54, 55, 56, 57, 58, 59, 60, 61, 62, 63, 64, 65, 66] (by decide +kernel) (by decide +kernel)
set_option maxRecDepth 20000 in
theorem gX3_span_X3_layFirst : GoodIn wsX3_span (wsV RX3 121 RX3 yX3_layFirst wsX3_layFirst) := goodIn_app (goodIn_of _ (by decide +kernel)) ggX3_span_X3_layFirst
set_option maxRecDepth 20000 in
theorem ggX3_span_X3_areSame : GoodIn wsX3_span wsX3_areSame := goodIn_r _ [44, 23, 45, 24, 46, 51, 52, 53, 54, 55, 56, 57, 58, 59, 60, 61, 62, 63, 64, 65, 66] (by decide +kernel) (by decide +kernel)
set_option maxRecDepth 20000 in
theorem gX3_span_X3_areSame : GoodIn wsX3_span (wsV RX3 124 RX3 yX3_areSame wsX3_areSame) := goodIn_app (goodIn_of _ (by decide +kernel)) ggX3_span_X3_areSame
set_option maxRecDepth 20000 in
theorem ggX3_span_X3_keepFirst : GoodIn wsX3_span wsX3_keepFirst := goodIn_r _ [50, 23, 45, 46, 24, 51, 52, 53, 54, 55, 56, 57, 58, 59, 60, 61, 62, 63, 64, 65, 66] (by decide +kernel) (by decide +kernel)
set_option maxRecDepth 20000 in
theorem gX3_span_X3_keepFirst : GoodIn wsX3_span (wsV RX3 149 RX3 yX3_keepFirst wsX3_keepFirst) := goodIn_app (goodIn_of _ (by decide +kernel)) ggX3_span_X3_keepFirst
theorem dX3_span_0 : decode cX3_span 0 = .ok (.iload_n 1, 1) := by decide +kernel
theorem dX3_span_1 : decode cX3_span 1 = .ok (.invokestatic 85, 3) := by decide +kernel
theorem dX3_span_4 : decode cX3_span 4 = .ok (.ifCond .ne 5, 3) := by decide +kernel
theorem dX3_span_7 : decode cX3_span 7 = .ok (.iconst (-1), 1) := by decide +kernel
theorem dX3_span_8 : decode cX3_span 8 = .ok (.ireturn, 1) := by decide +kernel
theorem dX3_span_9 : decode cX3_span 9 = .ok (.iload_n 2, 1) := by decide +kernel
theorem dX3_span_10 : decode cX3_span 10 = .ok (.iconst (-1), 1) := by decide +kernel
theorem dX3_span_11 : decode cX3_span 11 = .ok (.if_icmp .lt 12, 3) := by decide +kernel
theorem dX3_span_14 : decode cX3_span 14 = .ok (.iload_n 3, 1) := by decide +kernel
theorem dX3_span_15 : decode cX3_span 15 = .ok (.iconst 0, 1) := by decide +kernel
theorem dX3_span_16 : decode cX3_span 16 = .ok (.iconst 2, 1) := by decide +kernel
theorem dX3_span_17 : decode cX3_span 17 = .ok (.invokestatic 44, 3) := by decide +kernel
theorem dX3_span_20 : decode cX3_span 20 = .ok (.ifCond .ne 6, 3) := by decide +kernel
theorem dX3_span_23 : decode cX3_span 23 = .ok (.bipush (-2), 2) := by decide +kernel
theorem dX3_span_25 : decode cX3_span 25 = .ok (.ireturn, 1) := by decide +kernel
theorem dX3_span_26 : decode cX3_span 26 = .ok (.iconst 0, 1) := by decide +kernel
theorem dX3_span_27 : decode cX3_span 27 = .ok (.istore 4, 2) := by decide +kernel
theorem dX3_span_29 : decode cX3_span 29 = .ok (.iconst 0, 1) := by decide +kernel
theorem dX3_span_30 : decode cX3_span 30 = .ok (.istore 5, 2) := by decide +kernel
theorem dX3_span_32 : decode cX3_span 32 = .ok (.bipush (-6), 2) := by decide +kernel
theorem dX3_span_34 : decode cX3_span 34 = .ok (.istore 6, 2) := by decide +kernel
theorem dX3_span_36 : decode cX3_span 36 = .ok (.iconst 0, 1) := by decide +kernel
theorem dX3_span_37 : decode cX3_span 37 = .ok (.istore 7, 2) := by decide +kernel
theorem dX3_span_39 : decode cX3_span 39 = .ok (.iload 7, 2) := by decide +kernel
theorem dX3_span_41 : decode cX3_span 41 = .ok (.sipush 1000, 3) := by decide +kernel
theorem dX3_span_44 : decode cX3_span 44 = .ok (.if_icmp .ge 99, 3) := by decide +kernel
theorem dX3_span_47 : decode cX3_span 47 = .ok (.aload_n 0, 1) := by decide +kernel
theorem dX3_span_48 : decode cX3_span 48 = .ok (.iload 7, 2) := by decide +kernel
theorem dX3_span_50 : decode cX3_span 50 = .ok (.invokevirtual 88, 3) := by decide +kernel
theorem dX3_span_53 : decode cX3_span 53 = .ok (.aload_n 0, 1) := by decide +kernel
theorem dX3_span_54 : decode cX3_span 54 = .ok (.aload_n 0, 1) := by decide +kernel
theorem dX3_span_55 : decode cX3_span 55 = .ok (.getfield 23, 3) := by decide +kernel
theorem dX3_span_58 : decode cX3_span 58 = .ok (.iload_n 1, 1) := by decide +kernel
theorem dX3_span_59 : decode cX3_span 59 = .ok (.iaload, 1) := by decide +kernel
theorem dX3_span_60 : decode cX3_span 60 = .ok (.invokevirtual 121, 3) := by decide +kernel
theorem dX3_span_63 : decode cX3_span 63 = .ok (.aload_n 0, 1) := by decide +kernel
theorem dX3_span_64 : decode cX3_span 64 = .ok (.getfield 23, 3) := by decide +kernel
theorem dX3_span_67 : decode cX3_span 67 = .ok (.iload_n 1, 1) := by decide +kernel
theorem dX3_span_68 : decode cX3_span 68 = .ok (.iaload, 1) := by decide +kernel
theorem dX3_span_69 : decode cX3_span 69 = .ok (.iload 6, 2) := by decide +kernel
theorem dX3_span_71 : decode cX3_span 71 = .ok (.if_icmp .ne 10, 3) := by decide +kernel
theorem dX3_span_74 : decode cX3_span 74 = .ok (.aload_n 0, 1) := by decide +kernel
theorem dX3_span_75 : decode cX3_span 75 = .ok (.invokevirtual 124, 3) := by decide +kernel
theorem dX3_span_78 : decode cX3_span 78 = .ok (.ifCond .ne 59, 3) := by decide +kernel
theorem dX3_span_81 : decode cX3_span 81 = .ok (.iload 4, 2) := by decide +kernel
theorem dX3_span_83 : decode cX3_span 83 = .ok (.ifCond .le 35, 3) := by decide +kernel
theorem dX3_span_86 : decode cX3_span 86 = .ok (.iload 4, 2) := by decide +kernel
theorem dX3_span_88 : decode cX3_span 88 = .ok (.iconst 1, 1) := by decide +kernel
theorem dX3_span_89 : decode cX3_span 89 = .ok (.isub, 1) := by decide +kernel
theorem dX3_span_90 : decode cX3_span 90 = .ok (.iload_n 2, 1) := by decide +kernel
theorem dX3_span_91 : decode cX3_span 91 = .ok (.if_icmp .ne 27, 3) := by decide +kernel
theorem dX3_span_94 : decode cX3_span 94 = .ok (.iload_n 3, 1) := by decide +kernel
theorem dX3_span_95 : decode cX3_span 95 = .ok (.ifCond .ne 8, 3) := by decide +kernel
theorem dX3_span_98 : decode cX3_span 98 = .ok (.iload 5, 2) := by decide +kernel
theorem dX3_span_100 : decode cX3_span 100 = .ok (.goto 17, 3) := by decide +kernel
theorem dX3_span_103 : decode cX3_span 103 = .ok (.iload_n 3, 1) := by decide +kernel
theorem dX3_span_104 : decode cX3_span 104 = .ok (.iconst 1, 1) := by decide +kernel
theorem dX3_span_105 : decode cX3_span 105 = .ok (.if_icmp .ne 10, 3) := by decide +kernel
theorem dX3_span_108 : decode cX3_span 108 = .ok (.iload 7, 2) := by decide +kernel
theorem dX3_span_110 : decode cX3_span 110 = .ok (.iconst 1, 1) := by decide +kernel
theorem dX3_span_111 : decode cX3_span 111 = .ok (.isub, 1) := by decide +kernel
theorem dX3_span_112 : decode cX3_span 112 = .ok (.goto 5, 3) := by decide +kernel
theorem dX3_span_115 : decode cX3_span 115 = .ok (.iload 6, 2) := by decide +kernel
theorem dX3_span_117 : decode cX3_span 117 = .ok (.ireturn, 1) := by decide +kernel
theorem dX3_span_118 : decode cX3_span 118 = .ok (.iinc 4 1, 3) := by decide +kernel
theorem dX3_span_121 : decode cX3_span 121 = .ok (.iload 7, 2) := by decide +kernel
theorem dX3_span_123 : decode cX3_span 123 = .ok (.istore 5, 2) := by decide +kernel
theorem dX3_span_125 : decode cX3_span 125 = .ok (.aload_n 0, 1) := by decide +kernel
theorem dX3_span_126 : decode cX3_span 126 = .ok (.getfield 23, 3) := by decide +kernel
theorem dX3_span_129 : decode cX3_span 129 = .ok (.iload_n 1, 1) := by decide +kernel
theorem dX3_span_130 : decode cX3_span 130 = .ok (.iaload, 1) := by decide +kernel
theorem dX3_span_131 : decode cX3_span 131 = .ok (.istore 6, 2) := by decide +kernel
theorem dX3_span_133 : decode cX3_span 133 = .ok (.aload_n 0, 1) := by decide +kernel
theorem dX3_span_134 : decode cX3_span 134 = .ok (.invokevirtual 149, 3) := by decide +kernel
theorem dX3_span_137 : decode cX3_span 137 = .ok (.iinc 7 1, 3) := by decide +kernel
theorem dX3_span_140 : decode cX3_span 140 = .ok (.goto (-101), 3) := by decide +kernel
theorem dX3_span_143 : decode cX3_span 143 = .ok (.iload 4, 2) := by decide +kernel
theorem dX3_span_145 : decode cX3_span 145 = .ok (.iconst 1, 1) := by decide +kernel
theorem dX3_span_146 : decode cX3_span 146 = .ok (.isub, 1) := by decide +kernel
theorem dX3_span_147 : decode cX3_span 147 = .ok (.iload_n 2, 1) := by decide +kernel
theorem dX3_span_148 : decode cX3_span 148 = .ok (.if_icmp .ne 26, 3) := by decide +kernel
theorem dX3_span_151 : decode cX3_span 151 = .ok (.iload_n 3, 1) := by decide +kernel
theorem dX3_span_152 : decode cX3_span 152 = .ok (.ifCond .ne 8, 3) := by decide +kernel
theorem dX3_span_155 : decode cX3_span 155 = .ok (.iload 5, 2) := by decide +kernel
theorem dX3_span_157 : decode cX3_span 157 = .ok (.goto 16, 3) := by decide +kernel
theorem dX3_span_160 : decode cX3_span 160 = .ok (.iload_n 3, 1) := by decide +kernel
theorem dX3_span_161 : decode cX3_span 161 = .ok (.iconst 1, 1) := by decide +kernel
theorem dX3_span_162 : decode cX3_span 162 = .ok (.if_icmp .ne 9, 3) := by decide +kernel
theorem dX3_span_165 : decode cX3_span 165 = .ok (.sipush 999, 3) := by decide +kernel
theorem dX3_span_168 : decode cX3_span 168 = .ok (.goto 5, 3) := by decide +kernel
theorem dX3_span_171 : decode cX3_span 171 = .ok (.iload 6, 2) := by decide +kernel
theorem dX3_span_173 : decode cX3_span 173 = .ok (.ireturn, 1) := by decide +kernel
theorem dX3_span_174 : decode cX3_span 174 = .ok (.iload_n 2, 1) := by decide +kernel
theorem dX3_span_175 : decode cX3_span 175 = .ok (.iconst (-1), 1) := by decide +kernel
theorem dX3_span_176 : decode cX3_span 176 = .ok (.if_icmp .ne 8, 3) := by decide +kernel
theorem dX3_span_179 : decode cX3_span 179 = .ok (.iload 4, 2) := by decide +kernel
theorem dX3_span_181 : decode cX3_span 181 = .ok (.goto 5, 3) := by decide +kernel
theorem dX3_span_184 : decode cX3_span 184 = .ok (.bipush (-6), 2) := by decide +kernel
theorem dX3_span_186 : decode cX3_span 186 = .ok (.ireturn, 1) := by decide +kernel
set_option maxRecDepth 20000 in
theorem ggX3_heirs_X3_isParish : GoodIn wsX3_heirs wsX3_isParish := goodIn_r _ [6, 7, 8, 9, 5, 10, 27, 28, 29, 30, 31, 32, 33, 34, 35, 36, 37, 38, 39, 40, 41, 42] (by decide +kernel) (by decide +kernel)
set_option maxRecDepth 20000 in
theorem gX3_heirs_X3_isParish : GoodIn wsX3_heirs (wsV RX3 56 RX3 yX3_isParish wsX3_isParish) := goodIn_app (goodIn_of _ (by decide +kernel)) ggX3_heirs_X3_isParish
set_option maxRecDepth 20000 in
theorem ggX3_heirs_X3_isYear : GoodIn wsX3_heirs wsX3_isYear := goodIn_r _ [13, 8, 9, 5, 10] (by decide +kernel) (by decide +kernel)
set_option maxRecDepth 20000 in
theorem gX3_heirs_X3_isYear : GoodIn wsX3_heirs (va_wsS RX3 60 yX3_isYear wsX3_isYear) := goodIn_app (goodIn_of _ (by decide +kernel)) ggX3_heirs_X3_isYear
set_option maxRecDepth 20000 in
theorem ggX3_heirs_X3_goTo : GoodIn wsX3_heirs wsX3_goTo := goodIn_r _ [17, 7, 18, 19, 20, 5, 21, 1, 22, 27, 28, 29, 30, 31, 32, 33, 34, 35, 36, 37, 38, 39, 40, 41, 42] (by decide +kernel) (by decide +kernel)
set_option maxRecDepth 20000 in
theorem gX3_heirs_X3_goTo : GoodIn wsX3_heirs (wsV RX3 88 RX3 yX3_goTo wsX3_goTo) := goodIn_app (goodIn_of _ (by decide +kernel)) ggX3_heirs_X3_goTo
set_option maxRecDepth 20000 in
theorem ggX3_heirs_X3_sitesOf : GoodIn wsX3_heirs wsX3_sitesOf := goodIn_r _ [26, 1, 27, 28, 29, 30, 31, 32, 33, 34, 35, 36, 37, 38, 39, 40, 41, 42] (by decide +kernel) (by decide +kernel)
set_option maxRecDepth 20000 in
theorem gX3_heirs_X3_sitesOf : GoodIn wsX3_heirs (wsV RX3 70 RX3 yX3_sitesOf wsX3_sitesOf) := goodIn_app (goodIn_of _ (by decide +kernel)) ggX3_heirs_X3_sitesOf
theorem dX3_heirs_0 : decode cX3_heirs 0 = .ok (.aload_n 0, 1) := by decide +kernel
theorem dX3_heirs_1 : decode cX3_heirs 1 = .ok (.iload_n 1, 1) := by decide +kernel
theorem dX3_heirs_2 : decode cX3_heirs 2 = .ok (.invokevirtual 56, 3) := by decide +kernel
theorem dX3_heirs_5 : decode cX3_heirs 5 = .ok (.ifCond .ne 5, 3) := by decide +kernel
theorem dX3_heirs_8 : decode cX3_heirs 8 = .ok (.iconst (-1), 1) := by decide +kernel
theorem dX3_heirs_9 : decode cX3_heirs 9 = .ok (.ireturn, 1) := by decide +kernel
theorem dX3_heirs_10 : decode cX3_heirs 10 = .ok (.iload_n 2, 1) := by decide +kernel
theorem dX3_heirs_11 : decode cX3_heirs 11 = .ok (.invokestatic 60, 3) := by decide +kernel
theorem dX3_heirs_14 : decode cX3_heirs 14 = .ok (.ifCond .eq 10, 3) := by decide +kernel
theorem dX3_heirs_17 : decode cX3_heirs 17 = .ok (.iload_n 3, 1) := by decide +kernel
theorem dX3_heirs_18 : decode cX3_heirs 18 = .ok (.invokestatic 60, 3) := by decide +kernel
theorem dX3_heirs_21 : decode cX3_heirs 21 = .ok (.ifCond .ne 6, 3) := by decide +kernel
theorem dX3_heirs_24 : decode cX3_heirs 24 = .ok (.bipush (-2), 2) := by decide +kernel
theorem dX3_heirs_26 : decode cX3_heirs 26 = .ok (.ireturn, 1) := by decide +kernel
theorem dX3_heirs_27 : decode cX3_heirs 27 = .ok (.aload_n 0, 1) := by decide +kernel
theorem dX3_heirs_28 : decode cX3_heirs 28 = .ok (.iload_n 2, 1) := by decide +kernel
theorem dX3_heirs_29 : decode cX3_heirs 29 = .ok (.invokevirtual 88, 3) := by decide +kernel
theorem dX3_heirs_32 : decode cX3_heirs 32 = .ok (.aload_n 0, 1) := by decide +kernel
theorem dX3_heirs_33 : decode cX3_heirs 33 = .ok (.iload_n 1, 1) := by decide +kernel
theorem dX3_heirs_34 : decode cX3_heirs 34 = .ok (.invokevirtual 70, 3) := by decide +kernel
theorem dX3_heirs_37 : decode cX3_heirs 37 = .ok (.istore 4, 2) := by decide +kernel
theorem dX3_heirs_39 : decode cX3_heirs 39 = .ok (.aload_n 0, 1) := by decide +kernel
theorem dX3_heirs_40 : decode cX3_heirs 40 = .ok (.iload_n 3, 1) := by decide +kernel
theorem dX3_heirs_41 : decode cX3_heirs 41 = .ok (.invokevirtual 88, 3) := by decide +kernel
theorem dX3_heirs_44 : decode cX3_heirs 44 = .ok (.iconst 0, 1) := by decide +kernel
theorem dX3_heirs_45 : decode cX3_heirs 45 = .ok (.istore 5, 2) := by decide +kernel
theorem dX3_heirs_47 : decode cX3_heirs 47 = .ok (.iconst 0, 1) := by decide +kernel
theorem dX3_heirs_48 : decode cX3_heirs 48 = .ok (.istore 6, 2) := by decide +kernel
theorem dX3_heirs_50 : decode cX3_heirs 50 = .ok (.iload 6, 2) := by decide +kernel
theorem dX3_heirs_52 : decode cX3_heirs 52 = .ok (.bipush 12, 2) := by decide +kernel
theorem dX3_heirs_54 : decode cX3_heirs 54 = .ok (.if_icmp .ge 38, 3) := by decide +kernel
theorem dX3_heirs_57 : decode cX3_heirs 57 = .ok (.iload 5, 2) := by decide +kernel
theorem dX3_heirs_59 : decode cX3_heirs 59 = .ok (.iload 4, 2) := by decide +kernel
theorem dX3_heirs_61 : decode cX3_heirs 61 = .ok (.iload 6, 2) := by decide +kernel
theorem dX3_heirs_63 : decode cX3_heirs 63 = .ok (.ishr, 1) := by decide +kernel
theorem dX3_heirs_64 : decode cX3_heirs 64 = .ok (.iconst 1, 1) := by decide +kernel
theorem dX3_heirs_65 : decode cX3_heirs 65 = .ok (.iand, 1) := by decide +kernel
theorem dX3_heirs_66 : decode cX3_heirs 66 = .ok (.iconst 1, 1) := by decide +kernel
theorem dX3_heirs_67 : decode cX3_heirs 67 = .ok (.if_icmp .ne 15, 3) := by decide +kernel
theorem dX3_heirs_70 : decode cX3_heirs 70 = .ok (.iconst 1, 1) := by decide +kernel
theorem dX3_heirs_71 : decode cX3_heirs 71 = .ok (.aload_n 0, 1) := by decide +kernel
theorem dX3_heirs_72 : decode cX3_heirs 72 = .ok (.getfield 23, 3) := by decide +kernel
theorem dX3_heirs_75 : decode cX3_heirs 75 = .ok (.iload 6, 2) := by decide +kernel
theorem dX3_heirs_77 : decode cX3_heirs 77 = .ok (.iaload, 1) := by decide +kernel
theorem dX3_heirs_78 : decode cX3_heirs 78 = .ok (.ishl, 1) := by decide +kernel
theorem dX3_heirs_79 : decode cX3_heirs 79 = .ok (.goto 4, 3) := by decide +kernel
theorem dX3_heirs_82 : decode cX3_heirs 82 = .ok (.iconst 0, 1) := by decide +kernel
theorem dX3_heirs_83 : decode cX3_heirs 83 = .ok (.ior, 1) := by decide +kernel
theorem dX3_heirs_84 : decode cX3_heirs 84 = .ok (.istore 5, 2) := by decide +kernel
theorem dX3_heirs_86 : decode cX3_heirs 86 = .ok (.iinc 6 1, 3) := by decide +kernel
theorem dX3_heirs_89 : decode cX3_heirs 89 = .ok (.goto (-39), 3) := by decide +kernel
theorem dX3_heirs_92 : decode cX3_heirs 92 = .ok (.iload 5, 2) := by decide +kernel
theorem dX3_heirs_94 : decode cX3_heirs 94 = .ok (.ireturn, 1) := by decide +kernel
set_option maxRecDepth 20000 in
theorem ggX3_image_X3_in : GoodIn wsX3_image wsX3_in := goodIn_r _ [7] (by decide +kernel) (by decide +kernel)
set_option maxRecDepth 20000 in
theorem gX3_image_X3_in : GoodIn wsX3_image (va_wsS RX3 44 yX3_in wsX3_in) := goodIn_app (goodIn_of _ (by decide +kernel)) ggX3_image_X3_in
theorem dX3_image_0 : decode cX3_image 0 = .ok (.iload_n 1, 1) := by decide +kernel
theorem dX3_image_1 : decode cX3_image 1 = .ok (.iconst 0, 1) := by decide +kernel
theorem dX3_image_2 : decode cX3_image 2 = .ok (.iconst 1, 1) := by decide +kernel
theorem dX3_image_3 : decode cX3_image 3 = .ok (.invokestatic 44, 3) := by decide +kernel
theorem dX3_image_6 : decode cX3_image 6 = .ok (.ifCond .ne 6, 3) := by decide +kernel
theorem dX3_image_9 : decode cX3_image 9 = .ok (.bipush (-2), 2) := by decide +kernel
theorem dX3_image_11 : decode cX3_image 11 = .ok (.ireturn, 1) := by decide +kernel
theorem dX3_image_12 : decode cX3_image 12 = .ok (.iconst 0, 1) := by decide +kernel
theorem dX3_image_13 : decode cX3_image 13 = .ok (.istore_n 2, 1) := by decide +kernel
theorem dX3_image_14 : decode cX3_image 14 = .ok (.iload_n 2, 1) := by decide +kernel
theorem dX3_image_15 : decode cX3_image 15 = .ok (.sipush 422, 3) := by decide +kernel
theorem dX3_image_18 : decode cX3_image 18 = .ok (.if_icmp .ge 27, 3) := by decide +kernel
theorem dX3_image_21 : decode cX3_image 21 = .ok (.aload_n 0, 1) := by decide +kernel
theorem dX3_image_22 : decode cX3_image 22 = .ok (.getfield 13, 3) := by decide +kernel
theorem dX3_image_25 : decode cX3_image 25 = .ok (.sipush 422, 3) := by decide +kernel
theorem dX3_image_28 : decode cX3_image 28 = .ok (.iload_n 1, 1) := by decide +kernel
theorem dX3_image_29 : decode cX3_image 29 = .ok (.imul, 1) := by decide +kernel
theorem dX3_image_30 : decode cX3_image 30 = .ok (.iload_n 2, 1) := by decide +kernel
theorem dX3_image_31 : decode cX3_image 31 = .ok (.iadd, 1) := by decide +kernel
theorem dX3_image_32 : decode cX3_image 32 = .ok (.aload_n 0, 1) := by decide +kernel
theorem dX3_image_33 : decode cX3_image 33 = .ok (.getfield 7, 3) := by decide +kernel
theorem dX3_image_36 : decode cX3_image 36 = .ok (.iload_n 2, 1) := by decide +kernel
theorem dX3_image_37 : decode cX3_image 37 = .ok (.iaload, 1) := by decide +kernel
theorem dX3_image_38 : decode cX3_image 38 = .ok (.iastore, 1) := by decide +kernel
theorem dX3_image_39 : decode cX3_image 39 = .ok (.iinc 2 1, 3) := by decide +kernel
theorem dX3_image_42 : decode cX3_image 42 = .ok (.goto (-28), 3) := by decide +kernel
theorem dX3_image_45 : decode cX3_image 45 = .ok (.aload_n 0, 1) := by decide +kernel
theorem dX3_image_46 : decode cX3_image 46 = .ok (.getfield 16, 3) := by decide +kernel
theorem dX3_image_49 : decode cX3_image 49 = .ok (.iload_n 1, 1) := by decide +kernel
theorem dX3_image_50 : decode cX3_image 50 = .ok (.iconst 1, 1) := by decide +kernel
theorem dX3_image_51 : decode cX3_image 51 = .ok (.bastore, 1) := by decide +kernel
theorem dX3_image_52 : decode cX3_image 52 = .ok (.iconst 1, 1) := by decide +kernel
theorem dX3_image_53 : decode cX3_image 53 = .ok (.ireturn, 1) := by decide +kernel
set_option maxRecDepth 20000 in
theorem ggX3_restore_X3_in : GoodIn wsX3_restore wsX3_in := goodIn_r _ [7] (by decide +kernel) (by decide +kernel)
set_option maxRecDepth 20000 in
theorem gX3_restore_X3_in : GoodIn wsX3_restore (va_wsS RX3 44 yX3_in wsX3_in) := goodIn_app (goodIn_of _ (by decide +kernel)) ggX3_restore_X3_in
theorem dX3_restore_0 : decode cX3_restore 0 = .ok (.iload_n 1, 1) := by decide +kernel
theorem dX3_restore_1 : decode cX3_restore 1 = .ok (.iconst 0, 1) := by decide +kernel
theorem dX3_restore_2 : decode cX3_restore 2 = .ok (.iconst 1, 1) := by decide +kernel
theorem dX3_restore_3 : decode cX3_restore 3 = .ok (.invokestatic 44, 3) := by decide +kernel
theorem dX3_restore_6 : decode cX3_restore 6 = .ok (.ifCond .ne 6, 3) := by decide +kernel
theorem dX3_restore_9 : decode cX3_restore 9 = .ok (.bipush (-2), 2) := by decide +kernel
theorem dX3_restore_11 : decode cX3_restore 11 = .ok (.ireturn, 1) := by decide +kernel
theorem dX3_restore_12 : decode cX3_restore 12 = .ok (.aload_n 0, 1) := by decide +kernel
theorem dX3_restore_13 : decode cX3_restore 13 = .ok (.getfield 16, 3) := by decide +kernel
theorem dX3_restore_16 : decode cX3_restore 16 = .ok (.iload_n 1, 1) := by decide +kernel
theorem dX3_restore_17 : decode cX3_restore 17 = .ok (.baload, 1) := by decide +kernel
theorem dX3_restore_18 : decode cX3_restore 18 = .ok (.ifCond .ne 6, 3) := by decide +kernel
theorem dX3_restore_21 : decode cX3_restore 21 = .ok (.bipush (-3), 2) := by decide +kernel
theorem dX3_restore_23 : decode cX3_restore 23 = .ok (.ireturn, 1) := by decide +kernel
theorem dX3_restore_24 : decode cX3_restore 24 = .ok (.iconst 0, 1) := by decide +kernel
theorem dX3_restore_25 : decode cX3_restore 25 = .ok (.istore_n 2, 1) := by decide +kernel
theorem dX3_restore_26 : decode cX3_restore 26 = .ok (.iload_n 2, 1) := by decide +kernel
theorem dX3_restore_27 : decode cX3_restore 27 = .ok (.sipush 422, 3) := by decide +kernel
theorem dX3_restore_30 : decode cX3_restore 30 = .ok (.if_icmp .ge 27, 3) := by decide +kernel
theorem dX3_restore_33 : decode cX3_restore 33 = .ok (.aload_n 0, 1) := by decide +kernel
theorem dX3_restore_34 : decode cX3_restore 34 = .ok (.getfield 7, 3) := by decide +kernel
theorem dX3_restore_37 : decode cX3_restore 37 = .ok (.iload_n 2, 1) := by decide +kernel
theorem dX3_restore_38 : decode cX3_restore 38 = .ok (.aload_n 0, 1) := by decide +kernel
theorem dX3_restore_39 : decode cX3_restore 39 = .ok (.getfield 13, 3) := by decide +kernel
theorem dX3_restore_42 : decode cX3_restore 42 = .ok (.sipush 422, 3) := by decide +kernel
theorem dX3_restore_45 : decode cX3_restore 45 = .ok (.iload_n 1, 1) := by decide +kernel
theorem dX3_restore_46 : decode cX3_restore 46 = .ok (.imul, 1) := by decide +kernel
theorem dX3_restore_47 : decode cX3_restore 47 = .ok (.iload_n 2, 1) := by decide +kernel
theorem dX3_restore_48 : decode cX3_restore 48 = .ok (.iadd, 1) := by decide +kernel
theorem dX3_restore_49 : decode cX3_restore 49 = .ok (.iaload, 1) := by decide +kernel
theorem dX3_restore_50 : decode cX3_restore 50 = .ok (.iastore, 1) := by decide +kernel
theorem dX3_restore_51 : decode cX3_restore 51 = .ok (.iinc 2 1, 3) := by decide +kernel
theorem dX3_restore_54 : decode cX3_restore 54 = .ok (.goto (-28), 3) := by decide +kernel
theorem dX3_restore_57 : decode cX3_restore 57 = .ok (.iconst 1, 1) := by decide +kernel
theorem dX3_restore_58 : decode cX3_restore 58 = .ok (.ireturn, 1) := by decide +kernel
set_option maxRecDepth 20000 in
theorem ggX3_thereNow_X3_goToEnd : GoodIn wsX3_thereNow wsX3_goToEnd := goodIn_r _ [6, 1, 7, 8, 9, 5, 10, 11, 12, 17, 18, 19, 20, 21, 22, 23, 24, 25, 26, 27, 28, 29, 30, 31, 32] (by decide +kernel) (by decide +kernel)
set_option maxRecDepth 20000 in
theorem gX3_thereNow_X3_goToEnd : GoodIn wsX3_thereNow (wsV RX3 67 RX3 yX3_goToEnd wsX3_goToEnd) := goodIn_app (goodIn_of _ (by decide +kernel)) ggX3_thereNow_X3_goToEnd
set_option maxRecDepth 20000 in
theorem ggX3_thereNow_X3_sitesOf : GoodIn wsX3_thereNow wsX3_sitesOf := goodIn_r _ [16, 11, 17, 18, 19, 20, 21, 22, 23, 24, 25, 26, 27, 28, 29, 30, 31, 32] (by decide +kernel) (by decide +kernel)
set_option maxRecDepth 20000 in
theorem gX3_thereNow_X3_sitesOf : GoodIn wsX3_thereNow (wsV RX3 70 RX3 yX3_sitesOf wsX3_sitesOf) := goodIn_app (goodIn_of _ (by decide +kernel)) ggX3_thereNow_X3_sitesOf
theorem dX3_thereNow_0 : decode cX3_thereNow 0 = .ok (.aload_n 0, 1) := by decide +kernel
theorem dX3_thereNow_1 : decode cX3_thereNow 1 = .ok (.invokevirtual 67, 3) := by decide +kernel
theorem dX3_thereNow_4 : decode cX3_thereNow 4 = .ok (.iconst 0, 1) := by decide +kernel
theorem dX3_thereNow_5 : decode cX3_thereNow 5 = .ok (.istore_n 1, 1) := by decide +kernel
theorem dX3_thereNow_6 : decode cX3_thereNow 6 = .ok (.iconst 0, 1) := by decide +kernel
theorem dX3_thereNow_7 : decode cX3_thereNow 7 = .ok (.istore_n 2, 1) := by decide +kernel
theorem dX3_thereNow_8 : decode cX3_thereNow 8 = .ok (.iload_n 2, 1) := by decide +kernel
theorem dX3_thereNow_9 : decode cX3_thereNow 9 = .ok (.aload_n 0, 1) := by decide +kernel
theorem dX3_thereNow_10 : decode cX3_thereNow 10 = .ok (.getfield 7, 3) := by decide +kernel
theorem dX3_thereNow_13 : decode cX3_thereNow 13 = .ok (.sipush 421, 3) := by decide +kernel
theorem dX3_thereNow_16 : decode cX3_thereNow 16 = .ok (.iaload, 1) := by decide +kernel
theorem dX3_thereNow_17 : decode cX3_thereNow 17 = .ok (.if_icmp .ge 25, 3) := by decide +kernel
theorem dX3_thereNow_20 : decode cX3_thereNow 20 = .ok (.iload_n 1, 1) := by decide +kernel
theorem dX3_thereNow_21 : decode cX3_thereNow 21 = .ok (.aload_n 0, 1) := by decide +kernel
theorem dX3_thereNow_22 : decode cX3_thereNow 22 = .ok (.iload_n 2, 1) := by decide +kernel
theorem dX3_thereNow_23 : decode cX3_thereNow 23 = .ok (.invokevirtual 70, 3) := by decide +kernel
theorem dX3_thereNow_26 : decode cX3_thereNow 26 = .ok (.ifCond .eq 7, 3) := by decide +kernel
theorem dX3_thereNow_29 : decode cX3_thereNow 29 = .ok (.iconst 1, 1) := by decide +kernel
theorem dX3_thereNow_30 : decode cX3_thereNow 30 = .ok (.goto 4, 3) := by decide +kernel
theorem dX3_thereNow_33 : decode cX3_thereNow 33 = .ok (.iconst 0, 1) := by decide +kernel
theorem dX3_thereNow_34 : decode cX3_thereNow 34 = .ok (.iadd, 1) := by decide +kernel
theorem dX3_thereNow_35 : decode cX3_thereNow 35 = .ok (.istore_n 1, 1) := by decide +kernel
theorem dX3_thereNow_36 : decode cX3_thereNow 36 = .ok (.iinc 2 1, 3) := by decide +kernel
theorem dX3_thereNow_39 : decode cX3_thereNow 39 = .ok (.goto (-31), 3) := by decide +kernel
theorem dX3_thereNow_42 : decode cX3_thereNow 42 = .ok (.iload_n 1, 1) := by decide +kernel
theorem dX3_thereNow_43 : decode cX3_thereNow 43 = .ok (.ireturn, 1) := by decide +kernel
set_option maxRecDepth 20000 in
theorem ggX3_namesNow_X3_goToEnd : GoodIn wsX3_namesNow wsX3_goToEnd := goodIn_r _ [6, 1, 7, 8, 9, 5, 10, 11, 12, 49, 50, 51, 52, 53, 54, 55, 56, 57, 58, 59, 60, 61, 62, 63, 64] (by decide +kernel) (by decide +kernel)
set_option maxRecDepth 20000 in
theorem gX3_namesNow_X3_goToEnd : GoodIn wsX3_namesNow (wsV RX3 67 RX3 yX3_goToEnd wsX3_goToEnd) := goodIn_app (goodIn_of _ (by decide +kernel)) ggX3_namesNow_X3_goToEnd
set_option maxRecDepth 20000 in
theorem ggX3_namesNow_X3_sitesOf : GoodIn wsX3_namesNow wsX3_sitesOf := goodIn_r _ [16, 11, 49, 50, 51, 52, 53, 54, 55, 56, 57, 58, 59, 60, 61, 62, 63, 64] (by decide +kernel) (by decide +kernel)
set_option maxRecDepth 20000 in
theorem gX3_namesNow_X3_sitesOf : GoodIn wsX3_namesNow (wsV RX3 70 RX3 yX3_sitesOf wsX3_sitesOf) := goodIn_app (goodIn_of _ (by decide +kernel)) ggX3_namesNow_X3_sitesOf
set_option maxRecDepth 20000 in
theorem ggX3_namesNow_X3_layFirst : GoodIn wsX3_namesNow wsX3_layFirst := goodIn_r _ [20, 21, 22, 23, 24, 25, 26, 27, 5, 28, 12, 1, 29, 30, 31, 32, 33, 34, 35, 36, 37, 38, 49, 50, 51, 52, 53, 54, 55, 56, 57, 58, 59, 60, 61, 62, 63, 64] (by decide +kernel) (by decide +kernel)
set_option maxRecDepth 20000 in
theorem gX3_namesNow_X3_layFirst : GoodIn wsX3_namesNow (wsV RX3 121 RX3 yX3_layFirst wsX3_layFirst) := goodIn_app (goodIn_of _ (by decide +kernel)) ggX3_namesNow_X3_layFirst
set_option maxRecDepth 20000 in
theorem ggX3_namesNow_X3_keepFirst : GoodIn wsX3_namesNow wsX3_keepFirst := goodIn_r _ [42, 21, 43, 44, 22, 49, 50, 51, 52, 53, 54, 55, 56, 57, 58, 59, 60, 61, 62, 63, 64] (by decide +kernel) (by decide +kernel)
set_option maxRecDepth 20000 in
theorem gX3_namesNow_X3_keepFirst : GoodIn wsX3_namesNow (wsV RX3 149 RX3 yX3_keepFirst wsX3_keepFirst) := goodIn_app (goodIn_of _ (by decide +kernel)) ggX3_namesNow_X3_keepFirst
set_option maxRecDepth 20000 in
theorem ggX3_namesNow_X3_areSame : GoodIn wsX3_namesNow wsX3_areSame := goodIn_r _ [48, 21, 43, 22, 44, 49, 50, 51, 52, 53, 54, 55, 56, 57, 58, 59, 60, 61, 62, 63, 64] (by decide +kernel) (by decide +kernel)
set_option maxRecDepth 20000 in
theorem gX3_namesNow_X3_areSame : GoodIn wsX3_namesNow (wsV RX3 124 RX3 yX3_areSame wsX3_areSame) := goodIn_app (goodIn_of _ (by decide +kernel)) ggX3_namesNow_X3_areSame
theorem dX3_namesNow_0 : decode cX3_namesNow 0 = .ok (.aload_n 0, 1) := by decide +kernel
theorem dX3_namesNow_1 : decode cX3_namesNow 1 = .ok (.invokevirtual 67, 3) := by decide +kernel
theorem dX3_namesNow_4 : decode cX3_namesNow 4 = .ok (.iconst 0, 1) := by decide +kernel
theorem dX3_namesNow_5 : decode cX3_namesNow 5 = .ok (.istore_n 1, 1) := by decide +kernel
theorem dX3_namesNow_6 : decode cX3_namesNow 6 = .ok (.iconst 0, 1) := by decide +kernel
theorem dX3_namesNow_7 : decode cX3_namesNow 7 = .ok (.istore_n 2, 1) := by decide +kernel
theorem dX3_namesNow_8 : decode cX3_namesNow 8 = .ok (.iload_n 2, 1) := by decide +kernel
theorem dX3_namesNow_9 : decode cX3_namesNow 9 = .ok (.aload_n 0, 1) := by decide +kernel
theorem dX3_namesNow_10 : decode cX3_namesNow 10 = .ok (.getfield 7, 3) := by decide +kernel
theorem dX3_namesNow_13 : decode cX3_namesNow 13 = .ok (.sipush 421, 3) := by decide +kernel
theorem dX3_namesNow_16 : decode cX3_namesNow 16 = .ok (.iaload, 1) := by decide +kernel
theorem dX3_namesNow_17 : decode cX3_namesNow 17 = .ok (.if_icmp .ge 91, 3) := by decide +kernel
theorem dX3_namesNow_20 : decode cX3_namesNow 20 = .ok (.aload_n 0, 1) := by decide +kernel
theorem dX3_namesNow_21 : decode cX3_namesNow 21 = .ok (.iload_n 2, 1) := by decide +kernel
theorem dX3_namesNow_22 : decode cX3_namesNow 22 = .ok (.invokevirtual 70, 3) := by decide +kernel
theorem dX3_namesNow_25 : decode cX3_namesNow 25 = .ok (.ifCond .eq 7, 3) := by decide +kernel
theorem dX3_namesNow_28 : decode cX3_namesNow 28 = .ok (.iconst 1, 1) := by decide +kernel
theorem dX3_namesNow_29 : decode cX3_namesNow 29 = .ok (.goto 4, 3) := by decide +kernel
theorem dX3_namesNow_32 : decode cX3_namesNow 32 = .ok (.iconst 0, 1) := by decide +kernel
theorem dX3_namesNow_33 : decode cX3_namesNow 33 = .ok (.istore_n 3, 1) := by decide +kernel
theorem dX3_namesNow_34 : decode cX3_namesNow 34 = .ok (.iconst 0, 1) := by decide +kernel
theorem dX3_namesNow_35 : decode cX3_namesNow 35 = .ok (.istore 4, 2) := by decide +kernel
theorem dX3_namesNow_37 : decode cX3_namesNow 37 = .ok (.iload 4, 2) := by decide +kernel
theorem dX3_namesNow_39 : decode cX3_namesNow 39 = .ok (.iload_n 2, 1) := by decide +kernel
theorem dX3_namesNow_40 : decode cX3_namesNow 40 = .ok (.if_icmp .ge 50, 3) := by decide +kernel
theorem dX3_namesNow_43 : decode cX3_namesNow 43 = .ok (.iload_n 3, 1) := by decide +kernel
theorem dX3_namesNow_44 : decode cX3_namesNow 44 = .ok (.ifCond .eq 46, 3) := by decide +kernel
theorem dX3_namesNow_47 : decode cX3_namesNow 47 = .ok (.aload_n 0, 1) := by decide +kernel
theorem dX3_namesNow_48 : decode cX3_namesNow 48 = .ok (.iload 4, 2) := by decide +kernel
theorem dX3_namesNow_50 : decode cX3_namesNow 50 = .ok (.invokevirtual 121, 3) := by decide +kernel
theorem dX3_namesNow_53 : decode cX3_namesNow 53 = .ok (.aload_n 0, 1) := by decide +kernel
theorem dX3_namesNow_54 : decode cX3_namesNow 54 = .ok (.invokevirtual 149, 3) := by decide +kernel
theorem dX3_namesNow_57 : decode cX3_namesNow 57 = .ok (.aload_n 0, 1) := by decide +kernel
theorem dX3_namesNow_58 : decode cX3_namesNow 58 = .ok (.iload_n 2, 1) := by decide +kernel
theorem dX3_namesNow_59 : decode cX3_namesNow 59 = .ok (.invokevirtual 121, 3) := by decide +kernel
theorem dX3_namesNow_62 : decode cX3_namesNow 62 = .ok (.aload_n 0, 1) := by decide +kernel
theorem dX3_namesNow_63 : decode cX3_namesNow 63 = .ok (.iload 4, 2) := by decide +kernel
theorem dX3_namesNow_65 : decode cX3_namesNow 65 = .ok (.invokevirtual 70, 3) := by decide +kernel
theorem dX3_namesNow_68 : decode cX3_namesNow 68 = .ok (.ifCond .eq 10, 3) := by decide +kernel
theorem dX3_namesNow_71 : decode cX3_namesNow 71 = .ok (.aload_n 0, 1) := by decide +kernel
theorem dX3_namesNow_72 : decode cX3_namesNow 72 = .ok (.invokevirtual 124, 3) := by decide +kernel
theorem dX3_namesNow_75 : decode cX3_namesNow 75 = .ok (.ifCond .ne 7, 3) := by decide +kernel
theorem dX3_namesNow_78 : decode cX3_namesNow 78 = .ok (.iconst 1, 1) := by decide +kernel
theorem dX3_namesNow_79 : decode cX3_namesNow 79 = .ok (.goto 4, 3) := by decide +kernel
theorem dX3_namesNow_82 : decode cX3_namesNow 82 = .ok (.iconst 0, 1) := by decide +kernel
theorem dX3_namesNow_83 : decode cX3_namesNow 83 = .ok (.istore_n 3, 1) := by decide +kernel
theorem dX3_namesNow_84 : decode cX3_namesNow 84 = .ok (.iinc 4 1, 3) := by decide +kernel
theorem dX3_namesNow_87 : decode cX3_namesNow 87 = .ok (.goto (-50), 3) := by decide +kernel
theorem dX3_namesNow_90 : decode cX3_namesNow 90 = .ok (.iload_n 1, 1) := by decide +kernel
theorem dX3_namesNow_91 : decode cX3_namesNow 91 = .ok (.iload_n 3, 1) := by decide +kernel
theorem dX3_namesNow_92 : decode cX3_namesNow 92 = .ok (.ifCond .eq 7, 3) := by decide +kernel
theorem dX3_namesNow_95 : decode cX3_namesNow 95 = .ok (.iconst 1, 1) := by decide +kernel
theorem dX3_namesNow_96 : decode cX3_namesNow 96 = .ok (.goto 4, 3) := by decide +kernel
theorem dX3_namesNow_99 : decode cX3_namesNow 99 = .ok (.iconst 0, 1) := by decide +kernel
theorem dX3_namesNow_100 : decode cX3_namesNow 100 = .ok (.iadd, 1) := by decide +kernel
theorem dX3_namesNow_101 : decode cX3_namesNow 101 = .ok (.istore_n 1, 1) := by decide +kernel
theorem dX3_namesNow_102 : decode cX3_namesNow 102 = .ok (.iinc 2 1, 3) := by decide +kernel
theorem dX3_namesNow_105 : decode cX3_namesNow 105 = .ok (.goto (-97), 3) := by decide +kernel
theorem dX3_namesNow_108 : decode cX3_namesNow 108 = .ok (.iload_n 1, 1) := by decide +kernel
theorem dX3_namesNow_109 : decode cX3_namesNow 109 = .ok (.ireturn, 1) := by decide +kernel
theorem dX3_ofKind_0 : decode cX3_ofKind 0 = .ok (.iconst 0, 1) := by decide +kernel
theorem dX3_ofKind_1 : decode cX3_ofKind 1 = .ok (.istore_n 2, 1) := by decide +kernel
theorem dX3_ofKind_2 : decode cX3_ofKind 2 = .ok (.iconst 0, 1) := by decide +kernel
theorem dX3_ofKind_3 : decode cX3_ofKind 3 = .ok (.istore_n 3, 1) := by decide +kernel
theorem dX3_ofKind_4 : decode cX3_ofKind 4 = .ok (.iload_n 3, 1) := by decide +kernel
theorem dX3_ofKind_5 : decode cX3_ofKind 5 = .ok (.aload_n 0, 1) := by decide +kernel
theorem dX3_ofKind_6 : decode cX3_ofKind 6 = .ok (.getfield 7, 3) := by decide +kernel
theorem dX3_ofKind_9 : decode cX3_ofKind 9 = .ok (.sipush 420, 3) := by decide +kernel
theorem dX3_ofKind_12 : decode cX3_ofKind 12 = .ok (.iaload, 1) := by decide +kernel
theorem dX3_ofKind_13 : decode cX3_ofKind 13 = .ok (.if_icmp .ge 29, 3) := by decide +kernel
theorem dX3_ofKind_16 : decode cX3_ofKind 16 = .ok (.iload_n 2, 1) := by decide +kernel
theorem dX3_ofKind_17 : decode cX3_ofKind 17 = .ok (.aload_n 0, 1) := by decide +kernel
theorem dX3_ofKind_18 : decode cX3_ofKind 18 = .ok (.getfield 7, 3) := by decide +kernel
theorem dX3_ofKind_21 : decode cX3_ofKind 21 = .ok (.iconst 0, 1) := by decide +kernel
theorem dX3_ofKind_22 : decode cX3_ofKind 22 = .ok (.iload_n 3, 1) := by decide +kernel
theorem dX3_ofKind_23 : decode cX3_ofKind 23 = .ok (.iadd, 1) := by decide +kernel
theorem dX3_ofKind_24 : decode cX3_ofKind 24 = .ok (.iaload, 1) := by decide +kernel
theorem dX3_ofKind_25 : decode cX3_ofKind 25 = .ok (.iload_n 1, 1) := by decide +kernel
theorem dX3_ofKind_26 : decode cX3_ofKind 26 = .ok (.if_icmp .ne 7, 3) := by decide +kernel
theorem dX3_ofKind_29 : decode cX3_ofKind 29 = .ok (.iconst 1, 1) := by decide +kernel
theorem dX3_ofKind_30 : decode cX3_ofKind 30 = .ok (.goto 4, 3) := by decide +kernel
theorem dX3_ofKind_33 : decode cX3_ofKind 33 = .ok (.iconst 0, 1) := by decide +kernel
theorem dX3_ofKind_34 : decode cX3_ofKind 34 = .ok (.iadd, 1) := by decide +kernel
theorem dX3_ofKind_35 : decode cX3_ofKind 35 = .ok (.istore_n 2, 1) := by decide +kernel
theorem dX3_ofKind_36 : decode cX3_ofKind 36 = .ok (.iinc 3 1, 3) := by decide +kernel
theorem dX3_ofKind_39 : decode cX3_ofKind 39 = .ok (.goto (-35), 3) := by decide +kernel
theorem dX3_ofKind_42 : decode cX3_ofKind 42 = .ok (.iload_n 2, 1) := by decide +kernel
theorem dX3_ofKind_43 : decode cX3_ofKind 43 = .ok (.ireturn, 1) := by decide +kernel
set_option maxRecDepth 20000 in
theorem ggX3_count_X3_in : GoodIn wsX3_count wsX3_in := goodIn_r _ [7] (by decide +kernel) (by decide +kernel)
set_option maxRecDepth 20000 in
theorem gX3_count_X3_in : GoodIn wsX3_count (va_wsS RX3 44 yX3_in wsX3_in) := goodIn_app (goodIn_of _ (by decide +kernel)) ggX3_count_X3_in
set_option maxRecDepth 20000 in
theorem ggX3_count_X3_ofKind : GoodIn wsX3_count wsX3_ofKind := goodIn_r _ [11, 1, 70, 71, 72, 73, 74, 75, 76, 77, 78, 79, 80, 81, 82, 83, 84, 85] (by decide +kernel) (by decide +kernel)
set_option maxRecDepth 20000 in
theorem gX3_count_X3_ofKind : GoodIn wsX3_count (wsV RX3 152 RX3 yX3_ofKind wsX3_ofKind) := goodIn_app (goodIn_of _ (by decide +kernel)) ggX3_count_X3_ofKind
set_option maxRecDepth 20000 in
theorem ggX3_count_X3_lastYear : GoodIn wsX3_count wsX3_lastYear := goodIn_r _ [15, 1, 70, 71, 72, 73, 74, 75, 76, 77, 78, 79, 80, 81, 82, 83, 84, 85] (by decide +kernel) (by decide +kernel)
set_option maxRecDepth 20000 in
theorem gX3_count_X3_lastYear : GoodIn wsX3_count (wsV RX3 63 RX3 yX3_lastYear wsX3_lastYear) := goodIn_app (goodIn_of _ (by decide +kernel)) ggX3_count_X3_lastYear
set_option maxRecDepth 20000 in
theorem ggX3_count_X3_thereNow : GoodIn wsX3_count wsX3_thereNow := goodIn_r _ [19, 1, 20, 21, 22, 6, 23, 24, 25, 26, 27, 28, 29, 30, 31, 32, 33, 70, 71, 72, 73, 74, 75, 76, 77, 78, 79, 80, 81, 82, 83, 84, 85] (by decide +kernel) (by decide +kernel)
set_option maxRecDepth 20000 in
theorem gX3_count_X3_thereNow : GoodIn wsX3_count (wsV RX3 155 RX3 yX3_thereNow wsX3_thereNow) := goodIn_app (goodIn_of _ (by decide +kernel)) ggX3_count_X3_thereNow
set_option maxRecDepth 20000 in
theorem ggX3_count_X3_namesNow : GoodIn wsX3_count wsX3_namesNow := goodIn_r _ [37, 1, 20, 21, 22, 6, 23, 24, 25, 26, 27, 28, 29, 30, 31, 32, 33, 38, 39, 40, 41, 42, 43, 44, 45, 46, 47, 48, 49, 50, 51, 52, 53, 54, 55, 56, 57, 58, 59, 60, 61, 62, 63, 64, 65, 66, 67, 68, 69, 70, 71, 72, 73, 74, 75, 76, 77, 78, 79, 80, 81, 82, 83, 84, 85] (by decide +kernel) (by decide +kernel)
set_option maxRecDepth 20000 in
theorem gX3_count_X3_namesNow : GoodIn wsX3_count (wsV RX3 158 RX3 yX3_namesNow wsX3_namesNow) := goodIn_app (goodIn_of _ (by decide +kernel)) ggX3_count_X3_namesNow
theorem dX3_count_0 : decode cX3_count 0 = .ok (.iload_n 1, 1) := by decide +kernel
theorem dX3_count_1 : decode cX3_count 1 = .ok (.bipush 10, 2) := by decide +kernel
theorem dX3_count_3 : decode cX3_count 3 = .ok (.bipush 13, 2) := by decide +kernel
theorem dX3_count_5 : decode cX3_count 5 = .ok (.invokestatic 44, 3) := by decide +kernel
theorem dX3_count_8 : decode cX3_count 8 = .ok (.ifCond .eq 12, 3) := by decide +kernel
theorem dX3_count_11 : decode cX3_count 11 = .ok (.aload_n 0, 1) := by decide +kernel
theorem dX3_count_12 : decode cX3_count 12 = .ok (.iload_n 1, 1) := by decide +kernel
theorem dX3_count_13 : decode cX3_count 13 = .ok (.bipush 10, 2) := by decide +kernel
theorem dX3_count_15 : decode cX3_count 15 = .ok (.isub, 1) := by decide +kernel
theorem dX3_count_16 : decode cX3_count 16 = .ok (.invokevirtual 152, 3) := by decide +kernel
theorem dX3_count_19 : decode cX3_count 19 = .ok (.ireturn, 1) := by decide +kernel
theorem dX3_count_20 : decode cX3_count 20 = .ok (.iload_n 1, 1) := by decide +kernel
theorem dX3_count_21 : decode cX3_count 21 = .ok (.tableswitch 111 0 6 #[43, 52, 61, 66, 71, 76, 81], 43) := by decide +kernel
theorem dX3_count_64 : decode cX3_count 64 = .ok (.aload_n 0, 1) := by decide +kernel
theorem dX3_count_65 : decode cX3_count 65 = .ok (.getfield 7, 3) := by decide +kernel
theorem dX3_count_68 : decode cX3_count 68 = .ok (.sipush 420, 3) := by decide +kernel
theorem dX3_count_71 : decode cX3_count 71 = .ok (.iaload, 1) := by decide +kernel
theorem dX3_count_72 : decode cX3_count 72 = .ok (.ireturn, 1) := by decide +kernel
theorem dX3_count_73 : decode cX3_count 73 = .ok (.aload_n 0, 1) := by decide +kernel
theorem dX3_count_74 : decode cX3_count 74 = .ok (.getfield 7, 3) := by decide +kernel
theorem dX3_count_77 : decode cX3_count 77 = .ok (.sipush 421, 3) := by decide +kernel
theorem dX3_count_80 : decode cX3_count 80 = .ok (.iaload, 1) := by decide +kernel
theorem dX3_count_81 : decode cX3_count 81 = .ok (.ireturn, 1) := by decide +kernel
theorem dX3_count_82 : decode cX3_count 82 = .ok (.aload_n 0, 1) := by decide +kernel
theorem dX3_count_83 : decode cX3_count 83 = .ok (.getfield 48, 3) := by decide +kernel
theorem dX3_count_86 : decode cX3_count 86 = .ok (.ireturn, 1) := by decide +kernel
theorem dX3_count_87 : decode cX3_count 87 = .ok (.aload_n 0, 1) := by decide +kernel
theorem dX3_count_88 : decode cX3_count 88 = .ok (.invokevirtual 63, 3) := by decide +kernel
theorem dX3_count_91 : decode cX3_count 91 = .ok (.ireturn, 1) := by decide +kernel
theorem dX3_count_92 : decode cX3_count 92 = .ok (.aload_n 0, 1) := by decide +kernel
theorem dX3_count_93 : decode cX3_count 93 = .ok (.invokevirtual 155, 3) := by decide +kernel
theorem dX3_count_96 : decode cX3_count 96 = .ok (.ireturn, 1) := by decide +kernel
theorem dX3_count_97 : decode cX3_count 97 = .ok (.aload_n 0, 1) := by decide +kernel
theorem dX3_count_98 : decode cX3_count 98 = .ok (.invokevirtual 158, 3) := by decide +kernel
theorem dX3_count_101 : decode cX3_count 101 = .ok (.ireturn, 1) := by decide +kernel
theorem dX3_count_102 : decode cX3_count 102 = .ok (.aload_n 0, 1) := by decide +kernel
theorem dX3_count_103 : decode cX3_count 103 = .ok (.getfield 16, 3) := by decide +kernel
theorem dX3_count_106 : decode cX3_count 106 = .ok (.iconst 0, 1) := by decide +kernel
theorem dX3_count_107 : decode cX3_count 107 = .ok (.baload, 1) := by decide +kernel
theorem dX3_count_108 : decode cX3_count 108 = .ok (.ifCond .eq 7, 3) := by decide +kernel
theorem dX3_count_111 : decode cX3_count 111 = .ok (.iconst 1, 1) := by decide +kernel
theorem dX3_count_112 : decode cX3_count 112 = .ok (.goto 4, 3) := by decide +kernel
theorem dX3_count_115 : decode cX3_count 115 = .ok (.iconst 0, 1) := by decide +kernel
theorem dX3_count_116 : decode cX3_count 116 = .ok (.aload_n 0, 1) := by decide +kernel
theorem dX3_count_117 : decode cX3_count 117 = .ok (.getfield 16, 3) := by decide +kernel
theorem dX3_count_120 : decode cX3_count 120 = .ok (.iconst 1, 1) := by decide +kernel
theorem dX3_count_121 : decode cX3_count 121 = .ok (.baload, 1) := by decide +kernel
theorem dX3_count_122 : decode cX3_count 122 = .ok (.ifCond .eq 7, 3) := by decide +kernel
theorem dX3_count_125 : decode cX3_count 125 = .ok (.iconst 2, 1) := by decide +kernel
theorem dX3_count_126 : decode cX3_count 126 = .ok (.goto 4, 3) := by decide +kernel
theorem dX3_count_129 : decode cX3_count 129 = .ok (.iconst 0, 1) := by decide +kernel
theorem dX3_count_130 : decode cX3_count 130 = .ok (.iadd, 1) := by decide +kernel
theorem dX3_count_131 : decode cX3_count 131 = .ok (.ireturn, 1) := by decide +kernel
theorem dX3_count_132 : decode cX3_count 132 = .ok (.bipush (-2), 2) := by decide +kernel
theorem dX3_count_134 : decode cX3_count 134 = .ok (.ireturn, 1) := by decide +kernel
