theorem dX3_areSame_5 : decode cX3_areSame 5 = .ok (.getfield 111, 3) := by decide +kernel
theorem dX3_areSame_8 : decode cX3_areSame 8 = .ok (.if_icmp .ne 7, 3) := by decide +kernel
theorem dX3_areSame_11 : decode cX3_areSame 11 = .ok (.iconst 1, 1) := by decide +kernel
theorem dX3_areSame_12 : decode cX3_areSame 12 = .ok (.goto 4, 3) := by decide +kernel
theorem dX3_areSame_15 : decode cX3_areSame 15 = .ok (.iconst 0, 1) := by decide +kernel
theorem dX3_areSame_16 : decode cX3_areSame 16 = .ok (.istore_n 1, 1) := by decide +kernel
theorem dX3_areSame_17 : decode cX3_areSame 17 = .ok (.iconst 0, 1) := by decide +kernel
theorem dX3_areSame_18 : decode cX3_areSame 18 = .ok (.istore_n 2, 1) := by decide +kernel
theorem dX3_areSame_19 : decode cX3_areSame 19 = .ok (.iload_n 2, 1) := by decide +kernel
theorem dX3_areSame_20 : decode cX3_areSame 20 = .ok (.aload_n 0, 1) := by decide +kernel
theorem dX3_areSame_21 : decode cX3_areSame 21 = .ok (.getfield 101, 3) := by decide +kernel
theorem dX3_areSame_24 : decode cX3_areSame 24 = .ok (.if_icmp .ge 34, 3) := by decide +kernel
theorem dX3_areSame_27 : decode cX3_areSame 27 = .ok (.iload_n 1, 1) := by decide +kernel
theorem dX3_areSame_28 : decode cX3_areSame 28 = .ok (.ifCond .eq 30, 3) := by decide +kernel
theorem dX3_areSame_31 : decode cX3_areSame 31 = .ok (.aload_n 0, 1) := by decide +kernel
theorem dX3_areSame_32 : decode cX3_areSame 32 = .ok (.getfield 29, 3) := by decide +kernel
theorem dX3_areSame_35 : decode cX3_areSame 35 = .ok (.iload_n 2, 1) := by decide +kernel
theorem dX3_areSame_36 : decode cX3_areSame 36 = .ok (.iaload, 1) := by decide +kernel
theorem dX3_areSame_37 : decode cX3_areSame 37 = .ok (.aload_n 0, 1) := by decide +kernel
theorem dX3_areSame_38 : decode cX3_areSame 38 = .ok (.getfield 32, 3) := by decide +kernel
theorem dX3_areSame_41 : decode cX3_areSame 41 = .ok (.iload_n 2, 1) := by decide +kernel
theorem dX3_areSame_42 : decode cX3_areSame 42 = .ok (.iaload, 1) := by decide +kernel
theorem dX3_areSame_43 : decode cX3_areSame 43 = .ok (.if_icmp .ne 7, 3) := by decide +kernel
theorem dX3_areSame_46 : decode cX3_areSame 46 = .ok (.iconst 1, 1) := by decide +kernel
theorem dX3_areSame_47 : decode cX3_areSame 47 = .ok (.goto 4, 3) := by decide +kernel
theorem dX3_areSame_50 : decode cX3_areSame 50 = .ok (.iconst 0, 1) := by decide +kernel
theorem dX3_areSame_51 : decode cX3_areSame 51 = .ok (.istore_n 1, 1) := by decide +kernel
theorem dX3_areSame_52 : decode cX3_areSame 52 = .ok (.iinc 2 1, 3) := by decide +kernel
theorem dX3_areSame_55 : decode cX3_areSame 55 = .ok (.goto (-36), 3) := by decide +kernel
theorem dX3_areSame_58 : decode cX3_areSame 58 = .ok (.iload_n 1, 1) := by decide +kernel
theorem dX3_areSame_59 : decode cX3_areSame 59 = .ok (.ireturn, 1) := by decide +kernel
theorem dX3_soundSame_0 : decode cX3_soundSame 0 = .ok (.aload_n 0, 1) := by decide +kernel
theorem dX3_soundSame_1 : decode cX3_soundSame 1 = .ok (.getfield 108, 3) := by decide +kernel
theorem dX3_soundSame_4 : decode cX3_soundSame 4 = .ok (.aload_n 0, 1) := by decide +kernel
theorem dX3_soundSame_5 : decode cX3_soundSame 5 = .ok (.getfield 114, 3) := by decide +kernel
theorem dX3_soundSame_8 : decode cX3_soundSame 8 = .ok (.if_icmp .ne 7, 3) := by decide +kernel
theorem dX3_soundSame_11 : decode cX3_soundSame 11 = .ok (.iconst 1, 1) := by decide +kernel
theorem dX3_soundSame_12 : decode cX3_soundSame 12 = .ok (.goto 4, 3) := by decide +kernel
theorem dX3_soundSame_15 : decode cX3_soundSame 15 = .ok (.iconst 0, 1) := by decide +kernel
theorem dX3_soundSame_16 : decode cX3_soundSame 16 = .ok (.istore_n 1, 1) := by decide +kernel
theorem dX3_soundSame_17 : decode cX3_soundSame 17 = .ok (.iconst 0, 1) := by decide +kernel
theorem dX3_soundSame_18 : decode cX3_soundSame 18 = .ok (.istore_n 2, 1) := by decide +kernel
theorem dX3_soundSame_19 : decode cX3_soundSame 19 = .ok (.iload_n 2, 1) := by decide +kernel
theorem dX3_soundSame_20 : decode cX3_soundSame 20 = .ok (.aload_n 0, 1) := by decide +kernel
theorem dX3_soundSame_21 : decode cX3_soundSame 21 = .ok (.getfield 108, 3) := by decide +kernel
theorem dX3_soundSame_24 : decode cX3_soundSame 24 = .ok (.if_icmp .ge 34, 3) := by decide +kernel
theorem dX3_soundSame_27 : decode cX3_soundSame 27 = .ok (.iload_n 1, 1) := by decide +kernel
theorem dX3_soundSame_28 : decode cX3_soundSame 28 = .ok (.ifCond .eq 30, 3) := by decide +kernel
theorem dX3_soundSame_31 : decode cX3_soundSame 31 = .ok (.aload_n 0, 1) := by decide +kernel
theorem dX3_soundSame_32 : decode cX3_soundSame 32 = .ok (.getfield 35, 3) := by decide +kernel
theorem dX3_soundSame_35 : decode cX3_soundSame 35 = .ok (.iload_n 2, 1) := by decide +kernel
theorem dX3_soundSame_36 : decode cX3_soundSame 36 = .ok (.iaload, 1) := by decide +kernel
theorem dX3_soundSame_37 : decode cX3_soundSame 37 = .ok (.aload_n 0, 1) := by decide +kernel
theorem dX3_soundSame_38 : decode cX3_soundSame 38 = .ok (.getfield 38, 3) := by decide +kernel
theorem dX3_soundSame_41 : decode cX3_soundSame 41 = .ok (.iload_n 2, 1) := by decide +kernel
theorem dX3_soundSame_42 : decode cX3_soundSame 42 = .ok (.iaload, 1) := by decide +kernel
theorem dX3_soundSame_43 : decode cX3_soundSame 43 = .ok (.if_icmp .ne 7, 3) := by decide +kernel
theorem dX3_soundSame_46 : decode cX3_soundSame 46 = .ok (.iconst 1, 1) := by decide +kernel
theorem dX3_soundSame_47 : decode cX3_soundSame 47 = .ok (.goto 4, 3) := by decide +kernel
theorem dX3_soundSame_50 : decode cX3_soundSame 50 = .ok (.iconst 0, 1) := by decide +kernel
theorem dX3_soundSame_51 : decode cX3_soundSame 51 = .ok (.istore_n 1, 1) := by decide +kernel
theorem dX3_soundSame_52 : decode cX3_soundSame 52 = .ok (.iinc 2 1, 3) := by decide +kernel
theorem dX3_soundSame_55 : decode cX3_soundSame 55 = .ok (.goto (-36), 3) := by decide +kernel
theorem dX3_soundSame_58 : decode cX3_soundSame 58 = .ok (.iload_n 1, 1) := by decide +kernel
theorem dX3_soundSame_59 : decode cX3_soundSame 59 = .ok (.ireturn, 1) := by decide +kernel
theorem dX3_least_0 : decode cX3_least 0 = .ok (.iload_n 0, 1) := by decide +kernel
theorem dX3_least_1 : decode cX3_least 1 = .ok (.iload_n 1, 1) := by decide +kernel
theorem dX3_least_2 : decode cX3_least 2 = .ok (.if_icmp .ge 7, 3) := by decide +kernel
theorem dX3_least_5 : decode cX3_least 5 = .ok (.iload_n 0, 1) := by decide +kernel
theorem dX3_least_6 : decode cX3_least 6 = .ok (.goto 4, 3) := by decide +kernel
theorem dX3_least_9 : decode cX3_least 9 = .ok (.iload_n 1, 1) := by decide +kernel
theorem dX3_least_10 : decode cX3_least 10 = .ok (.istore_n 3, 1) := by decide +kernel
theorem dX3_least_11 : decode cX3_least 11 = .ok (.iload_n 3, 1) := by decide +kernel
theorem dX3_least_12 : decode cX3_least 12 = .ok (.iload_n 2, 1) := by decide +kernel
theorem dX3_least_13 : decode cX3_least 13 = .ok (.if_icmp .ge 7, 3) := by decide +kernel
theorem dX3_least_16 : decode cX3_least 16 = .ok (.iload_n 3, 1) := by decide +kernel
theorem dX3_least_17 : decode cX3_least 17 = .ok (.goto 4, 3) := by decide +kernel
theorem dX3_least_20 : decode cX3_least 20 = .ok (.iload_n 2, 1) := by decide +kernel
theorem dX3_least_21 : decode cX3_least 21 = .ok (.ireturn, 1) := by decide +kernel
set_option maxRecDepth 20000 in
theorem ggX3_offNow_X3_least : GoodIn wsX3_offNow wsX3_least := goodIn_r _ [9] (by decide +kernel) (by decide +kernel)
set_option maxRecDepth 20000 in
theorem gX3_offNow_X3_least : GoodIn wsX3_offNow (va_wsS RX3 117 yX3_least wsX3_least) := goodIn_app (goodIn_of _ (by decide +kernel)) ggX3_offNow_X3_least
theorem dX3_offNow_0 : decode cX3_offNow 0 = .ok (.iconst 0, 1) := by decide +kernel
theorem dX3_offNow_1 : decode cX3_offNow 1 = .ok (.istore_n 1, 1) := by decide +kernel
theorem dX3_offNow_2 : decode cX3_offNow 2 = .ok (.iload_n 1, 1) := by decide +kernel
theorem dX3_offNow_3 : decode cX3_offNow 3 = .ok (.aload_n 0, 1) := by decide +kernel
theorem dX3_offNow_4 : decode cX3_offNow 4 = .ok (.getfield 101, 3) := by decide +kernel
theorem dX3_offNow_7 : decode cX3_offNow 7 = .ok (.if_icmp .gt 120, 3) := by decide +kernel
theorem dX3_offNow_10 : decode cX3_offNow 10 = .ok (.iconst 0, 1) := by decide +kernel
theorem dX3_offNow_11 : decode cX3_offNow 11 = .ok (.istore_n 2, 1) := by decide +kernel
theorem dX3_offNow_12 : decode cX3_offNow 12 = .ok (.iload_n 2, 1) := by decide +kernel
theorem dX3_offNow_13 : decode cX3_offNow 13 = .ok (.aload_n 0, 1) := by decide +kernel
theorem dX3_offNow_14 : decode cX3_offNow 14 = .ok (.getfield 111, 3) := by decide +kernel
theorem dX3_offNow_17 : decode cX3_offNow 17 = .ok (.if_icmp .gt 104, 3) := by decide +kernel
theorem dX3_offNow_20 : decode cX3_offNow 20 = .ok (.bipush 9, 2) := by decide +kernel
theorem dX3_offNow_22 : decode cX3_offNow 22 = .ok (.iload_n 1, 1) := by decide +kernel
theorem dX3_offNow_23 : decode cX3_offNow 23 = .ok (.imul, 1) := by decide +kernel
theorem dX3_offNow_24 : decode cX3_offNow 24 = .ok (.iload_n 2, 1) := by decide +kernel
theorem dX3_offNow_25 : decode cX3_offNow 25 = .ok (.iadd, 1) := by decide +kernel
theorem dX3_offNow_26 : decode cX3_offNow 26 = .ok (.istore_n 3, 1) := by decide +kernel
theorem dX3_offNow_27 : decode cX3_offNow 27 = .ok (.iload_n 1, 1) := by decide +kernel
theorem dX3_offNow_28 : decode cX3_offNow 28 = .ok (.ifCond .eq 7, 3) := by decide +kernel
theorem dX3_offNow_31 : decode cX3_offNow 31 = .ok (.iload_n 2, 1) := by decide +kernel
theorem dX3_offNow_32 : decode cX3_offNow 32 = .ok (.ifCond .ne 15, 3) := by decide +kernel
theorem dX3_offNow_35 : decode cX3_offNow 35 = .ok (.aload_n 0, 1) := by decide +kernel
theorem dX3_offNow_36 : decode cX3_offNow 36 = .ok (.getfield 41, 3) := by decide +kernel
theorem dX3_offNow_39 : decode cX3_offNow 39 = .ok (.iload_n 3, 1) := by decide +kernel
theorem dX3_offNow_40 : decode cX3_offNow 40 = .ok (.iload_n 1, 1) := by decide +kernel
theorem dX3_offNow_41 : decode cX3_offNow 41 = .ok (.iload_n 2, 1) := by decide +kernel
theorem dX3_offNow_42 : decode cX3_offNow 42 = .ok (.iadd, 1) := by decide +kernel
theorem dX3_offNow_43 : decode cX3_offNow 43 = .ok (.iastore, 1) := by decide +kernel
theorem dX3_offNow_44 : decode cX3_offNow 44 = .ok (.goto 71, 3) := by decide +kernel
theorem dX3_offNow_47 : decode cX3_offNow 47 = .ok (.aload_n 0, 1) := by decide +kernel
theorem dX3_offNow_48 : decode cX3_offNow 48 = .ok (.getfield 29, 3) := by decide +kernel
theorem dX3_offNow_51 : decode cX3_offNow 51 = .ok (.iload_n 1, 1) := by decide +kernel
theorem dX3_offNow_52 : decode cX3_offNow 52 = .ok (.iconst 1, 1) := by decide +kernel
theorem dX3_offNow_53 : decode cX3_offNow 53 = .ok (.isub, 1) := by decide +kernel
theorem dX3_offNow_54 : decode cX3_offNow 54 = .ok (.iaload, 1) := by decide +kernel
theorem dX3_offNow_55 : decode cX3_offNow 55 = .ok (.aload_n 0, 1) := by decide +kernel
theorem dX3_offNow_56 : decode cX3_offNow 56 = .ok (.getfield 32, 3) := by decide +kernel
theorem dX3_offNow_59 : decode cX3_offNow 59 = .ok (.iload_n 2, 1) := by decide +kernel
theorem dX3_offNow_60 : decode cX3_offNow 60 = .ok (.iconst 1, 1) := by decide +kernel
theorem dX3_offNow_61 : decode cX3_offNow 61 = .ok (.isub, 1) := by decide +kernel
theorem dX3_offNow_62 : decode cX3_offNow 62 = .ok (.iaload, 1) := by decide +kernel
theorem dX3_offNow_63 : decode cX3_offNow 63 = .ok (.if_icmp .ne 7, 3) := by decide +kernel
theorem dX3_offNow_66 : decode cX3_offNow 66 = .ok (.iconst 0, 1) := by decide +kernel
theorem dX3_offNow_67 : decode cX3_offNow 67 = .ok (.goto 4, 3) := by decide +kernel
theorem dX3_offNow_70 : decode cX3_offNow 70 = .ok (.iconst 1, 1) := by decide +kernel
theorem dX3_offNow_71 : decode cX3_offNow 71 = .ok (.istore 4, 2) := by decide +kernel
theorem dX3_offNow_73 : decode cX3_offNow 73 = .ok (.aload_n 0, 1) := by decide +kernel
theorem dX3_offNow_74 : decode cX3_offNow 74 = .ok (.getfield 41, 3) := by decide +kernel
theorem dX3_offNow_77 : decode cX3_offNow 77 = .ok (.iload_n 3, 1) := by decide +kernel
theorem dX3_offNow_78 : decode cX3_offNow 78 = .ok (.aload_n 0, 1) := by decide +kernel
theorem dX3_offNow_79 : decode cX3_offNow 79 = .ok (.getfield 41, 3) := by decide +kernel
theorem dX3_offNow_82 : decode cX3_offNow 82 = .ok (.iload_n 3, 1) := by decide +kernel
theorem dX3_offNow_83 : decode cX3_offNow 83 = .ok (.bipush 9, 2) := by decide +kernel
theorem dX3_offNow_85 : decode cX3_offNow 85 = .ok (.isub, 1) := by decide +kernel
theorem dX3_offNow_86 : decode cX3_offNow 86 = .ok (.iaload, 1) := by decide +kernel
theorem dX3_offNow_87 : decode cX3_offNow 87 = .ok (.iconst 1, 1) := by decide +kernel
theorem dX3_offNow_88 : decode cX3_offNow 88 = .ok (.iadd, 1) := by decide +kernel
theorem dX3_offNow_89 : decode cX3_offNow 89 = .ok (.aload_n 0, 1) := by decide +kernel
theorem dX3_offNow_90 : decode cX3_offNow 90 = .ok (.getfield 41, 3) := by decide +kernel
theorem dX3_offNow_93 : decode cX3_offNow 93 = .ok (.iload_n 3, 1) := by decide +kernel
theorem dX3_offNow_94 : decode cX3_offNow 94 = .ok (.iconst 1, 1) := by decide +kernel
theorem dX3_offNow_95 : decode cX3_offNow 95 = .ok (.isub, 1) := by decide +kernel
theorem dX3_offNow_96 : decode cX3_offNow 96 = .ok (.iaload, 1) := by decide +kernel
theorem dX3_offNow_97 : decode cX3_offNow 97 = .ok (.iconst 1, 1) := by decide +kernel
theorem dX3_offNow_98 : decode cX3_offNow 98 = .ok (.iadd, 1) := by decide +kernel
theorem dX3_offNow_99 : decode cX3_offNow 99 = .ok (.aload_n 0, 1) := by decide +kernel
theorem dX3_offNow_100 : decode cX3_offNow 100 = .ok (.getfield 41, 3) := by decide +kernel
theorem dX3_offNow_103 : decode cX3_offNow 103 = .ok (.iload_n 3, 1) := by decide +kernel
theorem dX3_offNow_104 : decode cX3_offNow 104 = .ok (.bipush 10, 2) := by decide +kernel
theorem dX3_offNow_106 : decode cX3_offNow 106 = .ok (.isub, 1) := by decide +kernel
theorem dX3_offNow_107 : decode cX3_offNow 107 = .ok (.iaload, 1) := by decide +kernel
theorem dX3_offNow_108 : decode cX3_offNow 108 = .ok (.iload 4, 2) := by decide +kernel
theorem dX3_offNow_110 : decode cX3_offNow 110 = .ok (.iadd, 1) := by decide +kernel
theorem dX3_offNow_111 : decode cX3_offNow 111 = .ok (.invokestatic 117, 3) := by decide +kernel
theorem dX3_offNow_114 : decode cX3_offNow 114 = .ok (.iastore, 1) := by decide +kernel
theorem dX3_offNow_115 : decode cX3_offNow 115 = .ok (.iinc 2 1, 3) := by decide +kernel
theorem dX3_offNow_118 : decode cX3_offNow 118 = .ok (.goto (-106), 3) := by decide +kernel
theorem dX3_offNow_121 : decode cX3_offNow 121 = .ok (.iinc 1 1, 3) := by decide +kernel
theorem dX3_offNow_124 : decode cX3_offNow 124 = .ok (.goto (-122), 3) := by decide +kernel
theorem dX3_offNow_127 : decode cX3_offNow 127 = .ok (.aload_n 0, 1) := by decide +kernel
theorem dX3_offNow_128 : decode cX3_offNow 128 = .ok (.getfield 41, 3) := by decide +kernel
theorem dX3_offNow_131 : decode cX3_offNow 131 = .ok (.bipush 9, 2) := by decide +kernel
theorem dX3_offNow_133 : decode cX3_offNow 133 = .ok (.aload_n 0, 1) := by decide +kernel
theorem dX3_offNow_134 : decode cX3_offNow 134 = .ok (.getfield 101, 3) := by decide +kernel
theorem dX3_offNow_137 : decode cX3_offNow 137 = .ok (.imul, 1) := by decide +kernel
theorem dX3_offNow_138 : decode cX3_offNow 138 = .ok (.aload_n 0, 1) := by decide +kernel
theorem dX3_offNow_139 : decode cX3_offNow 139 = .ok (.getfield 111, 3) := by decide +kernel
theorem dX3_offNow_142 : decode cX3_offNow 142 = .ok (.iadd, 1) := by decide +kernel
theorem dX3_offNow_143 : decode cX3_offNow 143 = .ok (.iaload, 1) := by decide +kernel
theorem dX3_offNow_144 : decode cX3_offNow 144 = .ok (.ireturn, 1) := by decide +kernel
set_option maxRecDepth 20000 in
theorem ggX3_isLike_X3_layFirst : GoodIn wsX3_isLike wsX3_layFirst := goodIn_r _ [5, 6, 7, 8, 9, 10, 11, 12, 4, 13, 14, 15, 16, 17, 18, 19, 20, 21, 22, 23, 24, 25, 46, 47, 48, 49, 50, 51, 52, 53, 54, 55, 56, 57, 58, 59, 60, 61] (by decide +kernel) (by decide +kernel)
set_option maxRecDepth 20000 in
theorem gX3_isLike_X3_layFirst : GoodIn wsX3_isLike (wsV RX3 121 RX3 yX3_layFirst wsX3_layFirst) := goodIn_app (goodIn_of _ (by decide +kernel)) ggX3_isLike_X3_layFirst
set_option maxRecDepth 20000 in
theorem ggX3_isLike_X3_areSame : GoodIn wsX3_isLike wsX3_areSame := goodIn_r _ [29, 6, 30, 7, 31, 46, 47, 48, 49, 50, 51, 52, 53, 54, 55, 56, 57, 58, 59, 60, 61] (by decide +kernel) (by decide +kernel)
set_option maxRecDepth 20000 in
theorem gX3_isLike_X3_areSame : GoodIn wsX3_isLike (wsV RX3 124 RX3 yX3_areSame wsX3_areSame) := goodIn_app (goodIn_of _ (by decide +kernel)) ggX3_isLike_X3_areSame
set_option maxRecDepth 20000 in
theorem ggX3_isLike_X3_soundSame : GoodIn wsX3_isLike wsX3_soundSame := goodIn_r _ [35, 9, 36, 8, 37, 46, 47, 48, 49, 50, 51, 52, 53, 54, 55, 56, 57, 58, 59, 60, 61] (by decide +kernel) (by decide +kernel)
set_option maxRecDepth 20000 in
theorem gX3_isLike_X3_soundSame : GoodIn wsX3_isLike (wsV RX3 128 RX3 yX3_soundSame wsX3_soundSame) := goodIn_app (goodIn_of _ (by decide +kernel)) ggX3_isLike_X3_soundSame
set_option maxRecDepth 20000 in
theorem ggX3_isLike_X3_offNow : GoodIn wsX3_isLike wsX3_offNow := goodIn_r _ [41, 6, 30, 42, 7, 31, 43, 44, 4, 45, 46, 47, 48, 49, 50, 51, 52, 53, 54, 55, 56, 57, 58, 59, 60, 61] (by decide +kernel) (by decide +kernel)
set_option maxRecDepth 20000 in
theorem gX3_isLike_X3_offNow : GoodIn wsX3_isLike (wsV RX3 131 RX3 yX3_offNow wsX3_offNow) := goodIn_app (goodIn_of _ (by decide +kernel)) ggX3_isLike_X3_offNow
theorem dX3_isLike_0 : decode cX3_isLike 0 = .ok (.aload_n 0, 1) := by decide +kernel
theorem dX3_isLike_1 : decode cX3_isLike 1 = .ok (.iload_n 1, 1) := by decide +kernel
theorem dX3_isLike_2 : decode cX3_isLike 2 = .ok (.invokevirtual 121, 3) := by decide +kernel
theorem dX3_isLike_5 : decode cX3_isLike 5 = .ok (.iload_n 2, 1) := by decide +kernel
theorem dX3_isLike_6 : decode cX3_isLike 6 = .ok (.ifCond .ne 10, 3) := by decide +kernel
theorem dX3_isLike_9 : decode cX3_isLike 9 = .ok (.aload_n 0, 1) := by decide +kernel
theorem dX3_isLike_10 : decode cX3_isLike 10 = .ok (.invokevirtual 124, 3) := by decide +kernel
theorem dX3_isLike_13 : decode cX3_isLike 13 = .ok (.goto 28, 3) := by decide +kernel
theorem dX3_isLike_16 : decode cX3_isLike 16 = .ok (.iload_n 2, 1) := by decide +kernel
theorem dX3_isLike_17 : decode cX3_isLike 17 = .ok (.iconst 1, 1) := by decide +kernel
theorem dX3_isLike_18 : decode cX3_isLike 18 = .ok (.if_icmp .ne 10, 3) := by decide +kernel
theorem dX3_isLike_21 : decode cX3_isLike 21 = .ok (.aload_n 0, 1) := by decide +kernel
theorem dX3_isLike_22 : decode cX3_isLike 22 = .ok (.invokevirtual 128, 3) := by decide +kernel
theorem dX3_isLike_25 : decode cX3_isLike 25 = .ok (.goto 16, 3) := by decide +kernel
theorem dX3_isLike_28 : decode cX3_isLike 28 = .ok (.aload_n 0, 1) := by decide +kernel
theorem dX3_isLike_29 : decode cX3_isLike 29 = .ok (.invokevirtual 131, 3) := by decide +kernel
theorem dX3_isLike_32 : decode cX3_isLike 32 = .ok (.iconst 1, 1) := by decide +kernel
theorem dX3_isLike_33 : decode cX3_isLike 33 = .ok (.if_icmp .gt 7, 3) := by decide +kernel
theorem dX3_isLike_36 : decode cX3_isLike 36 = .ok (.iconst 1, 1) := by decide +kernel
theorem dX3_isLike_37 : decode cX3_isLike 37 = .ok (.goto 4, 3) := by decide +kernel
theorem dX3_isLike_40 : decode cX3_isLike 40 = .ok (.iconst 0, 1) := by decide +kernel
theorem dX3_isLike_41 : decode cX3_isLike 41 = .ok (.ireturn, 1) := by decide +kernel
set_option maxRecDepth 20000 in
theorem ggX3_sound_X3_isParish : GoodIn wsX3_sound wsX3_isParish := goodIn_r _ [7, 8, 9, 10, 6, 11, 49, 50, 51, 52, 53, 54, 55, 56, 57, 58, 59, 60, 61, 62, 63, 64] (by decide +kernel) (by decide +kernel)
set_option maxRecDepth 20000 in
theorem gX3_sound_X3_isParish : GoodIn wsX3_sound (wsV RX3 56 RX3 yX3_isParish wsX3_isParish) := goodIn_app (goodIn_of _ (by decide +kernel)) ggX3_sound_X3_isParish
set_option maxRecDepth 20000 in
theorem ggX3_sound_X3_isYear : GoodIn wsX3_sound wsX3_isYear := goodIn_r _ [14, 9, 10, 6, 11] (by decide +kernel) (by decide +kernel)
set_option maxRecDepth 20000 in
theorem gX3_sound_X3_isYear : GoodIn wsX3_sound (va_wsS RX3 60 yX3_isYear wsX3_isYear) := goodIn_app (goodIn_of _ (by decide +kernel)) ggX3_sound_X3_isYear
set_option maxRecDepth 20000 in
theorem ggX3_sound_X3_goTo : GoodIn wsX3_sound wsX3_goTo := goodIn_r _ [18, 8, 19, 20, 21, 6, 22, 23, 24, 49, 50, 51, 52, 53, 54, 55, 56, 57, 58, 59, 60, 61, 62, 63, 64] (by decide +kernel) (by decide +kernel)
set_option maxRecDepth 20000 in
theorem gX3_sound_X3_goTo : GoodIn wsX3_sound (wsV RX3 88 RX3 yX3_goTo wsX3_goTo) := goodIn_app (goodIn_of _ (by decide +kernel)) ggX3_sound_X3_goTo
set_option maxRecDepth 20000 in
theorem ggX3_sound_X3_sitesOf : GoodIn wsX3_sound wsX3_sitesOf := goodIn_r _ [28, 23, 49, 50, 51, 52, 53, 54, 55, 56, 57, 58, 59, 60, 61, 62, 63, 64] (by decide +kernel) (by decide +kernel)
set_option maxRecDepth 20000 in
theorem gX3_sound_X3_sitesOf : GoodIn wsX3_sound (wsV RX3 70 RX3 yX3_sitesOf wsX3_sitesOf) := goodIn_app (goodIn_of _ (by decide +kernel)) ggX3_sound_X3_sitesOf
set_option maxRecDepth 20000 in
theorem ggX3_sound_X3_layFirst : GoodIn wsX3_sound wsX3_layFirst := goodIn_r _ [32, 33, 34, 2, 1, 35, 36, 37, 6, 38, 24, 8, 39, 40, 41, 42, 43, 44, 45, 46, 47, 48, 49, 50, 51, 52, 53, 54, 55, 56, 57, 58, 59, 60, 61, 62, 63, 64] (by decide +kernel) (by decide +kernel)
set_option maxRecDepth 20000 in
theorem gX3_sound_X3_layFirst : GoodIn wsX3_sound (wsV RX3 121 RX3 yX3_layFirst wsX3_layFirst) := goodIn_app (goodIn_of _ (by decide +kernel)) ggX3_sound_X3_layFirst
theorem dX3_sound_0 : decode cX3_sound 0 = .ok (.aload_n 0, 1) := by decide +kernel
theorem dX3_sound_1 : decode cX3_sound 1 = .ok (.iload_n 1, 1) := by decide +kernel
theorem dX3_sound_2 : decode cX3_sound 2 = .ok (.invokevirtual 56, 3) := by decide +kernel
theorem dX3_sound_5 : decode cX3_sound 5 = .ok (.ifCond .ne 5, 3) := by decide +kernel
theorem dX3_sound_8 : decode cX3_sound 8 = .ok (.iconst (-1), 1) := by decide +kernel
theorem dX3_sound_9 : decode cX3_sound 9 = .ok (.ireturn, 1) := by decide +kernel
theorem dX3_sound_10 : decode cX3_sound 10 = .ok (.iload_n 2, 1) := by decide +kernel
theorem dX3_sound_11 : decode cX3_sound 11 = .ok (.invokestatic 60, 3) := by decide +kernel
theorem dX3_sound_14 : decode cX3_sound 14 = .ok (.ifCond .eq 8, 3) := by decide +kernel
theorem dX3_sound_17 : decode cX3_sound 17 = .ok (.iload_n 3, 1) := by decide +kernel
theorem dX3_sound_18 : decode cX3_sound 18 = .ok (.iconst (-1), 1) := by decide +kernel
theorem dX3_sound_19 : decode cX3_sound 19 = .ok (.if_icmp .ge 6, 3) := by decide +kernel
theorem dX3_sound_22 : decode cX3_sound 22 = .ok (.bipush (-2), 2) := by decide +kernel
theorem dX3_sound_24 : decode cX3_sound 24 = .ok (.ireturn, 1) := by decide +kernel
theorem dX3_sound_25 : decode cX3_sound 25 = .ok (.aload_n 0, 1) := by decide +kernel
theorem dX3_sound_26 : decode cX3_sound 26 = .ok (.iload_n 2, 1) := by decide +kernel
theorem dX3_sound_27 : decode cX3_sound 27 = .ok (.invokevirtual 88, 3) := by decide +kernel
theorem dX3_sound_30 : decode cX3_sound 30 = .ok (.aload_n 0, 1) := by decide +kernel
theorem dX3_sound_31 : decode cX3_sound 31 = .ok (.iload_n 1, 1) := by decide +kernel
theorem dX3_sound_32 : decode cX3_sound 32 = .ok (.invokevirtual 70, 3) := by decide +kernel
theorem dX3_sound_35 : decode cX3_sound 35 = .ok (.ifCond .ne 6, 3) := by decide +kernel
theorem dX3_sound_38 : decode cX3_sound 38 = .ok (.bipush (-6), 2) := by decide +kernel
theorem dX3_sound_40 : decode cX3_sound 40 = .ok (.ireturn, 1) := by decide +kernel
theorem dX3_sound_41 : decode cX3_sound 41 = .ok (.aload_n 0, 1) := by decide +kernel
theorem dX3_sound_42 : decode cX3_sound 42 = .ok (.iload_n 1, 1) := by decide +kernel
theorem dX3_sound_43 : decode cX3_sound 43 = .ok (.invokevirtual 121, 3) := by decide +kernel
theorem dX3_sound_46 : decode cX3_sound 46 = .ok (.iload_n 3, 1) := by decide +kernel
theorem dX3_sound_47 : decode cX3_sound 47 = .ok (.iconst (-1), 1) := by decide +kernel
theorem dX3_sound_48 : decode cX3_sound 48 = .ok (.if_icmp .ne 10, 3) := by decide +kernel
theorem dX3_sound_51 : decode cX3_sound 51 = .ok (.aload_n 0, 1) := by decide +kernel
theorem dX3_sound_52 : decode cX3_sound 52 = .ok (.getfield 108, 3) := by decide +kernel
theorem dX3_sound_55 : decode cX3_sound 55 = .ok (.goto 22, 3) := by decide +kernel
theorem dX3_sound_58 : decode cX3_sound 58 = .ok (.iload_n 3, 1) := by decide +kernel
theorem dX3_sound_59 : decode cX3_sound 59 = .ok (.aload_n 0, 1) := by decide +kernel
theorem dX3_sound_60 : decode cX3_sound 60 = .ok (.getfield 108, 3) := by decide +kernel
theorem dX3_sound_63 : decode cX3_sound 63 = .ok (.if_icmp .ge 12, 3) := by decide +kernel
theorem dX3_sound_66 : decode cX3_sound 66 = .ok (.aload_n 0, 1) := by decide +kernel
theorem dX3_sound_67 : decode cX3_sound 67 = .ok (.getfield 35, 3) := by decide +kernel
theorem dX3_sound_70 : decode cX3_sound 70 = .ok (.iload_n 3, 1) := by decide +kernel
theorem dX3_sound_71 : decode cX3_sound 71 = .ok (.iaload, 1) := by decide +kernel
theorem dX3_sound_72 : decode cX3_sound 72 = .ok (.goto 5, 3) := by decide +kernel
theorem dX3_sound_75 : decode cX3_sound 75 = .ok (.bipush (-6), 2) := by decide +kernel
theorem dX3_sound_77 : decode cX3_sound 77 = .ok (.ireturn, 1) := by decide +kernel
theorem dX3_toldOf_0 : decode cX3_toldOf 0 = .ok (.iconst 0, 1) := by decide +kernel
theorem dX3_toldOf_1 : decode cX3_toldOf 1 = .ok (.istore_n 2, 1) := by decide +kernel
theorem dX3_toldOf_2 : decode cX3_toldOf 2 = .ok (.iconst 0, 1) := by decide +kernel
theorem dX3_toldOf_3 : decode cX3_toldOf 3 = .ok (.istore_n 3, 1) := by decide +kernel
theorem dX3_toldOf_4 : decode cX3_toldOf 4 = .ok (.iload_n 3, 1) := by decide +kernel
theorem dX3_toldOf_5 : decode cX3_toldOf 5 = .ok (.aload_n 0, 1) := by decide +kernel
theorem dX3_toldOf_6 : decode cX3_toldOf 6 = .ok (.getfield 7, 3) := by decide +kernel
theorem dX3_toldOf_9 : decode cX3_toldOf 9 = .ok (.sipush 420, 3) := by decide +kernel
theorem dX3_toldOf_12 : decode cX3_toldOf 12 = .ok (.iaload, 1) := by decide +kernel
theorem dX3_toldOf_13 : decode cX3_toldOf 13 = .ok (.if_icmp .ge 43, 3) := by decide +kernel
theorem dX3_toldOf_16 : decode cX3_toldOf 16 = .ok (.iload_n 2, 1) := by decide +kernel
theorem dX3_toldOf_17 : decode cX3_toldOf 17 = .ok (.aload_n 0, 1) := by decide +kernel
theorem dX3_toldOf_18 : decode cX3_toldOf 18 = .ok (.getfield 7, 3) := by decide +kernel
theorem dX3_toldOf_21 : decode cX3_toldOf 21 = .ok (.bipush 60, 2) := by decide +kernel
theorem dX3_toldOf_23 : decode cX3_toldOf 23 = .ok (.iload_n 3, 1) := by decide +kernel
theorem dX3_toldOf_24 : decode cX3_toldOf 24 = .ok (.iadd, 1) := by decide +kernel
theorem dX3_toldOf_25 : decode cX3_toldOf 25 = .ok (.iaload, 1) := by decide +kernel
theorem dX3_toldOf_26 : decode cX3_toldOf 26 = .ok (.iload_n 1, 1) := by decide +kernel
theorem dX3_toldOf_27 : decode cX3_toldOf 27 = .ok (.if_icmp .eq 16, 3) := by decide +kernel
theorem dX3_toldOf_30 : decode cX3_toldOf 30 = .ok (.aload_n 0, 1) := by decide +kernel
theorem dX3_toldOf_31 : decode cX3_toldOf 31 = .ok (.getfield 7, 3) := by decide +kernel
theorem dX3_toldOf_34 : decode cX3_toldOf 34 = .ok (.bipush 120, 2) := by decide +kernel
theorem dX3_toldOf_36 : decode cX3_toldOf 36 = .ok (.iload_n 3, 1) := by decide +kernel
theorem dX3_toldOf_37 : decode cX3_toldOf 37 = .ok (.iadd, 1) := by decide +kernel
theorem dX3_toldOf_38 : decode cX3_toldOf 38 = .ok (.iaload, 1) := by decide +kernel
theorem dX3_toldOf_39 : decode cX3_toldOf 39 = .ok (.iload_n 1, 1) := by decide +kernel
theorem dX3_toldOf_40 : decode cX3_toldOf 40 = .ok (.if_icmp .ne 7, 3) := by decide +kernel
theorem dX3_toldOf_43 : decode cX3_toldOf 43 = .ok (.iconst 1, 1) := by decide +kernel
theorem dX3_toldOf_44 : decode cX3_toldOf 44 = .ok (.goto 4, 3) := by decide +kernel
theorem dX3_toldOf_47 : decode cX3_toldOf 47 = .ok (.iconst 0, 1) := by decide +kernel
theorem dX3_toldOf_48 : decode cX3_toldOf 48 = .ok (.iadd, 1) := by decide +kernel
theorem dX3_toldOf_49 : decode cX3_toldOf 49 = .ok (.istore_n 2, 1) := by decide +kernel
theorem dX3_toldOf_50 : decode cX3_toldOf 50 = .ok (.iinc 3 1, 3) := by decide +kernel
theorem dX3_toldOf_53 : decode cX3_toldOf 53 = .ok (.goto (-49), 3) := by decide +kernel
theorem dX3_toldOf_56 : decode cX3_toldOf 56 = .ok (.iload_n 2, 1) := by decide +kernel
theorem dX3_toldOf_57 : decode cX3_toldOf 57 = .ok (.ireturn, 1) := by decide +kernel
set_option maxRecDepth 20000 in
theorem ggX3_parish_X3_isParish : GoodIn wsX3_parish wsX3_isParish := goodIn_r _ [5, 6, 7, 8, 4, 9, 31, 32, 33, 34, 35, 36, 37, 38, 39, 40, 41, 42, 43, 44, 45, 46] (by decide +kernel) (by decide +kernel)
set_option maxRecDepth 20000 in
theorem gX3_parish_X3_isParish : GoodIn wsX3_parish (wsV RX3 56 RX3 yX3_isParish wsX3_isParish) := goodIn_app (goodIn_of _ (by decide +kernel)) ggX3_parish_X3_isParish
set_option maxRecDepth 20000 in
theorem ggX3_parish_X3_in : GoodIn wsX3_parish wsX3_in := goodIn_r _ [9] (by decide +kernel) (by decide +kernel)
set_option maxRecDepth 20000 in
theorem gX3_parish_X3_in : GoodIn wsX3_parish (va_wsS RX3 44 yX3_in wsX3_in) := goodIn_app (goodIn_of _ (by decide +kernel)) ggX3_parish_X3_in
set_option maxRecDepth 20000 in
theorem ggX3_parish_X3_goTo : GoodIn wsX3_parish wsX3_goTo := goodIn_r _ [13, 6, 14, 15, 16, 4, 17, 18, 19, 31, 32, 33, 34, 35, 36, 37, 38, 39, 40, 41, 42, 43, 44, 45, 46] (by decide +kernel) (by decide +kernel)
set_option maxRecDepth 20000 in
theorem gX3_parish_X3_goTo : GoodIn wsX3_parish (wsV RX3 88 RX3 yX3_goTo wsX3_goTo) := goodIn_app (goodIn_of _ (by decide +kernel)) ggX3_parish_X3_goTo
set_option maxRecDepth 20000 in
theorem ggX3_parish_X3_sitesOf : GoodIn wsX3_parish wsX3_sitesOf := goodIn_r _ [23, 18, 31, 32, 33, 34, 35, 36, 37, 38, 39, 40, 41, 42, 43, 44, 45, 46] (by decide +kernel) (by decide +kernel)
set_option maxRecDepth 20000 in
theorem gX3_parish_X3_sitesOf : GoodIn wsX3_parish (wsV RX3 70 RX3 yX3_sitesOf wsX3_sitesOf) := goodIn_app (goodIn_of _ (by decide +kernel)) ggX3_parish_X3_sitesOf
set_option maxRecDepth 20000 in
theorem ggX3_parish_X3_toldOf : GoodIn wsX3_parish wsX3_toldOf := goodIn_r _ [27, 6, 31, 32, 33, 34, 35, 36, 37, 38, 39, 40, 41, 42, 43, 44, 45, 46] (by decide +kernel) (by decide +kernel)
set_option maxRecDepth 20000 in
theorem gX3_parish_X3_toldOf : GoodIn wsX3_parish (wsV RX3 134 RX3 yX3_toldOf wsX3_toldOf) := goodIn_app (goodIn_of _ (by decide +kernel)) ggX3_parish_X3_toldOf
set_option maxRecDepth 20000 in
theorem ggX3_parish_X3_bits : GoodIn wsX3_parish wsX3_bits := goodIn_r _ [30] (by decide +kernel) (by decide +kernel)
set_option maxRecDepth 20000 in
theorem gX3_parish_X3_bits : GoodIn wsX3_parish (va_wsS RX3 137 yX3_bits wsX3_bits) := goodIn_app (goodIn_of _ (by decide +kernel)) ggX3_parish_X3_bits
theorem dX3_parish_0 : decode cX3_parish 0 = .ok (.aload_n 0, 1) := by decide +kernel
theorem dX3_parish_1 : decode cX3_parish 1 = .ok (.iload_n 1, 1) := by decide +kernel
theorem dX3_parish_2 : decode cX3_parish 2 = .ok (.invokevirtual 56, 3) := by decide +kernel
theorem dX3_parish_5 : decode cX3_parish 5 = .ok (.ifCond .ne 5, 3) := by decide +kernel
theorem dX3_parish_8 : decode cX3_parish 8 = .ok (.iconst (-1), 1) := by decide +kernel
theorem dX3_parish_9 : decode cX3_parish 9 = .ok (.ireturn, 1) := by decide +kernel
theorem dX3_parish_10 : decode cX3_parish 10 = .ok (.iload_n 2, 1) := by decide +kernel
theorem dX3_parish_11 : decode cX3_parish 11 = .ok (.iconst 0, 1) := by decide +kernel
theorem dX3_parish_12 : decode cX3_parish 12 = .ok (.iconst 4, 1) := by decide +kernel
theorem dX3_parish_13 : decode cX3_parish 13 = .ok (.invokestatic 44, 3) := by decide +kernel
theorem dX3_parish_16 : decode cX3_parish 16 = .ok (.ifCond .ne 6, 3) := by decide +kernel
theorem dX3_parish_19 : decode cX3_parish 19 = .ok (.bipush (-2), 2) := by decide +kernel
theorem dX3_parish_21 : decode cX3_parish 21 = .ok (.ireturn, 1) := by decide +kernel
theorem dX3_parish_22 : decode cX3_parish 22 = .ok (.bipush (-6), 2) := by decide +kernel
theorem dX3_parish_24 : decode cX3_parish 24 = .ok (.istore_n 3, 1) := by decide +kernel
theorem dX3_parish_25 : decode cX3_parish 25 = .ok (.bipush (-6), 2) := by decide +kernel
theorem dX3_parish_27 : decode cX3_parish 27 = .ok (.istore 4, 2) := by decide +kernel
theorem dX3_parish_29 : decode cX3_parish 29 = .ok (.iconst 0, 1) := by decide +kernel
theorem dX3_parish_30 : decode cX3_parish 30 = .ok (.istore 5, 2) := by decide +kernel
theorem dX3_parish_32 : decode cX3_parish 32 = .ok (.iconst 0, 1) := by decide +kernel
theorem dX3_parish_33 : decode cX3_parish 33 = .ok (.istore 6, 2) := by decide +kernel
theorem dX3_parish_35 : decode cX3_parish 35 = .ok (.iconst 0, 1) := by decide +kernel
theorem dX3_parish_36 : decode cX3_parish 36 = .ok (.istore 7, 2) := by decide +kernel
theorem dX3_parish_38 : decode cX3_parish 38 = .ok (.iload 7, 2) := by decide +kernel
theorem dX3_parish_40 : decode cX3_parish 40 = .ok (.sipush 1000, 3) := by decide +kernel
theorem dX3_parish_43 : decode cX3_parish 43 = .ok (.if_icmp .ge 52, 3) := by decide +kernel
theorem dX3_parish_46 : decode cX3_parish 46 = .ok (.aload_n 0, 1) := by decide +kernel
theorem dX3_parish_47 : decode cX3_parish 47 = .ok (.iload 7, 2) := by decide +kernel
theorem dX3_parish_49 : decode cX3_parish 49 = .ok (.invokevirtual 88, 3) := by decide +kernel
theorem dX3_parish_52 : decode cX3_parish 52 = .ok (.aload_n 0, 1) := by decide +kernel
theorem dX3_parish_53 : decode cX3_parish 53 = .ok (.iload_n 1, 1) := by decide +kernel
theorem dX3_parish_54 : decode cX3_parish 54 = .ok (.invokevirtual 70, 3) := by decide +kernel
theorem dX3_parish_57 : decode cX3_parish 57 = .ok (.istore 8, 2) := by decide +kernel
theorem dX3_parish_59 : decode cX3_parish 59 = .ok (.iload 6, 2) := by decide +kernel
theorem dX3_parish_61 : decode cX3_parish 61 = .ok (.iload 8, 2) := by decide +kernel
theorem dX3_parish_63 : decode cX3_parish 63 = .ok (.ior, 1) := by decide +kernel
theorem dX3_parish_64 : decode cX3_parish 64 = .ok (.istore 6, 2) := by decide +kernel
theorem dX3_parish_66 : decode cX3_parish 66 = .ok (.iload 8, 2) := by decide +kernel
theorem dX3_parish_68 : decode cX3_parish 68 = .ok (.ifCond .eq 21, 3) := by decide +kernel
theorem dX3_parish_71 : decode cX3_parish 71 = .ok (.iload_n 3, 1) := by decide +kernel
theorem dX3_parish_72 : decode cX3_parish 72 = .ok (.ifCond .ge 8, 3) := by decide +kernel
theorem dX3_parish_75 : decode cX3_parish 75 = .ok (.iload 7, 2) := by decide +kernel
theorem dX3_parish_77 : decode cX3_parish 77 = .ok (.goto 4, 3) := by decide +kernel
theorem dX3_parish_80 : decode cX3_parish 80 = .ok (.iload_n 3, 1) := by decide +kernel
theorem dX3_parish_81 : decode cX3_parish 81 = .ok (.istore_n 3, 1) := by decide +kernel
theorem dX3_parish_82 : decode cX3_parish 82 = .ok (.iload 7, 2) := by decide +kernel
theorem dX3_parish_84 : decode cX3_parish 84 = .ok (.istore 4, 2) := by decide +kernel
theorem dX3_parish_86 : decode cX3_parish 86 = .ok (.iinc 5 1, 3) := by decide +kernel
theorem dX3_parish_89 : decode cX3_parish 89 = .ok (.iinc 7 1, 3) := by decide +kernel
theorem dX3_parish_92 : decode cX3_parish 92 = .ok (.goto (-54), 3) := by decide +kernel
theorem dX3_parish_95 : decode cX3_parish 95 = .ok (.iload_n 2, 1) := by decide +kernel
theorem dX3_parish_96 : decode cX3_parish 96 = .ok (.ifCond .ne 7, 3) := by decide +kernel
theorem dX3_parish_99 : decode cX3_parish 99 = .ok (.iload_n 3, 1) := by decide +kernel
theorem dX3_parish_100 : decode cX3_parish 100 = .ok (.goto 41, 3) := by decide +kernel
theorem dX3_parish_103 : decode cX3_parish 103 = .ok (.iload_n 2, 1) := by decide +kernel
theorem dX3_parish_104 : decode cX3_parish 104 = .ok (.iconst 1, 1) := by decide +kernel
theorem dX3_parish_105 : decode cX3_parish 105 = .ok (.if_icmp .ne 8, 3) := by decide +kernel
theorem dX3_parish_108 : decode cX3_parish 108 = .ok (.iload 4, 2) := by decide +kernel
theorem dX3_parish_110 : decode cX3_parish 110 = .ok (.goto 31, 3) := by decide +kernel
theorem dX3_parish_113 : decode cX3_parish 113 = .ok (.iload_n 2, 1) := by decide +kernel
theorem dX3_parish_114 : decode cX3_parish 114 = .ok (.iconst 2, 1) := by decide +kernel
theorem dX3_parish_115 : decode cX3_parish 115 = .ok (.if_icmp .ne 8, 3) := by decide +kernel
theorem dX3_parish_118 : decode cX3_parish 118 = .ok (.iload 5, 2) := by decide +kernel
theorem dX3_parish_120 : decode cX3_parish 120 = .ok (.goto 21, 3) := by decide +kernel
theorem dX3_parish_123 : decode cX3_parish 123 = .ok (.iload_n 2, 1) := by decide +kernel
theorem dX3_parish_124 : decode cX3_parish 124 = .ok (.iconst 3, 1) := by decide +kernel
theorem dX3_parish_125 : decode cX3_parish 125 = .ok (.if_icmp .ne 11, 3) := by decide +kernel
theorem dX3_parish_128 : decode cX3_parish 128 = .ok (.aload_n 0, 1) := by decide +kernel
theorem dX3_parish_129 : decode cX3_parish 129 = .ok (.iload_n 1, 1) := by decide +kernel
theorem dX3_parish_130 : decode cX3_parish 130 = .ok (.invokevirtual 134, 3) := by decide +kernel
theorem dX3_parish_133 : decode cX3_parish 133 = .ok (.goto 8, 3) := by decide +kernel
theorem dX3_parish_136 : decode cX3_parish 136 = .ok (.iload 6, 2) := by decide +kernel
theorem dX3_parish_138 : decode cX3_parish 138 = .ok (.invokestatic 137, 3) := by decide +kernel
theorem dX3_parish_141 : decode cX3_parish 141 = .ok (.ireturn, 1) := by decide +kernel
set_option maxRecDepth 20000 in
theorem ggX3_areYears_X3_isYear : GoodIn wsX3_areYears wsX3_isYear := goodIn_r _ [4, 5, 6, 3, 7] (by decide +kernel) (by decide +kernel)
set_option maxRecDepth 20000 in
theorem gX3_areYears_X3_isYear : GoodIn wsX3_areYears (va_wsS RX3 60 yX3_isYear wsX3_isYear) := goodIn_app (goodIn_of _ (by decide +kernel)) ggX3_areYears_X3_isYear
theorem dX3_areYears_0 : decode cX3_areYears 0 = .ok (.iload_n 0, 1) := by decide +kernel
theorem dX3_areYears_1 : decode cX3_areYears 1 = .ok (.invokestatic 60, 3) := by decide +kernel
theorem dX3_areYears_4 : decode cX3_areYears 4 = .ok (.ifCond .eq 19, 3) := by decide +kernel
theorem dX3_areYears_7 : decode cX3_areYears 7 = .ok (.iload_n 1, 1) := by decide +kernel
theorem dX3_areYears_8 : decode cX3_areYears 8 = .ok (.invokestatic 60, 3) := by decide +kernel
theorem dX3_areYears_11 : decode cX3_areYears 11 = .ok (.ifCond .eq 12, 3) := by decide +kernel
theorem dX3_areYears_14 : decode cX3_areYears 14 = .ok (.iload_n 0, 1) := by decide +kernel
theorem dX3_areYears_15 : decode cX3_areYears 15 = .ok (.iload_n 1, 1) := by decide +kernel
theorem dX3_areYears_16 : decode cX3_areYears 16 = .ok (.if_icmp .gt 7, 3) := by decide +kernel
theorem dX3_areYears_19 : decode cX3_areYears 19 = .ok (.iconst 1, 1) := by decide +kernel
theorem dX3_areYears_20 : decode cX3_areYears 20 = .ok (.goto 4, 3) := by decide +kernel
theorem dX3_areYears_23 : decode cX3_areYears 23 = .ok (.iconst 0, 1) := by decide +kernel
theorem dX3_areYears_24 : decode cX3_areYears 24 = .ok (.ireturn, 1) := by decide +kernel
set_option maxRecDepth 20000 in
theorem ggX3_find_X3_areYears : GoodIn wsX3_find wsX3_areYears := goodIn_r _ [6, 7, 8, 5, 9, 10, 11, 12] (by decide +kernel) (by decide +kernel)
set_option maxRecDepth 20000 in
theorem gX3_find_X3_areYears : GoodIn wsX3_find (va_wsS RX3 140 yX3_areYears wsX3_areYears) := goodIn_app (goodIn_of _ (by decide +kernel)) ggX3_find_X3_areYears
set_option maxRecDepth 20000 in
theorem ggX3_find_X3_in : GoodIn wsX3_find wsX3_in := goodIn_r _ [12] (by decide +kernel) (by decide +kernel)
set_option maxRecDepth 20000 in
theorem gX3_find_X3_in : GoodIn wsX3_find (va_wsS RX3 44 yX3_in wsX3_in) := goodIn_app (goodIn_of _ (by decide +kernel)) ggX3_find_X3_in
set_option maxRecDepth 20000 in
theorem ggX3_find_X3_layPad : GoodIn wsX3_find wsX3_layPad := goodIn_r _ [16, 1, 17, 18, 19, 20, 21, 22, 23, 5, 24, 25, 26, 27, 78, 79, 80, 81, 82, 83, 84, 85, 86, 87, 88, 89, 90, 91, 92, 93] (by decide +kernel) (by decide +kernel)
set_option maxRecDepth 20000 in
theorem gX3_find_X3_layPad : GoodIn wsX3_find (wsV RX3 143 RX3 yX3_layPad wsX3_layPad) := goodIn_app (goodIn_of _ (by decide +kernel)) ggX3_find_X3_layPad
set_option maxRecDepth 20000 in
theorem ggX3_find_X3_goTo : GoodIn wsX3_find wsX3_goTo := goodIn_r _ [31, 2, 32, 33, 34, 5, 35, 36, 37, 78, 79, 80, 81, 82, 83, 84, 85, 86, 87, 88, 89, 90, 91, 92, 93] (by decide +kernel) (by decide +kernel)
set_option maxRecDepth 20000 in
theorem gX3_find_X3_goTo : GoodIn wsX3_find (wsV RX3 88 RX3 yX3_goTo wsX3_goTo) := goodIn_app (goodIn_of _ (by decide +kernel)) ggX3_find_X3_goTo
set_option maxRecDepth 20000 in
theorem ggX3_find_X3_sitesOf : GoodIn wsX3_find wsX3_sitesOf := goodIn_r _ [41, 36, 78, 79, 80, 81, 82, 83, 84, 85, 86, 87, 88, 89, 90, 91, 92, 93] (by decide +kernel) (by decide +kernel)
set_option maxRecDepth 20000 in
theorem gX3_find_X3_sitesOf : GoodIn wsX3_find (wsV RX3 70 RX3 yX3_sitesOf wsX3_sitesOf) := goodIn_app (goodIn_of _ (by decide +kernel)) ggX3_find_X3_sitesOf
set_option maxRecDepth 20000 in
theorem ggX3_find_X3_isLike : GoodIn wsX3_find wsX3_isLike := goodIn_r _ [45, 46, 47, 48, 5, 49, 50, 51, 52, 53, 54, 55, 56, 57, 37, 2, 58, 59, 60, 61, 22, 23, 24, 25, 26, 27, 62, 63, 64, 65, 17, 18, 66, 67, 68, 69, 21, 20, 70, 71, 72, 73, 74, 75, 76, 77, 78, 79, 80, 81, 82, 83, 84, 85, 86, 87, 88, 89, 90, 91, 92, 93] (by decide +kernel) (by decide +kernel)
set_option maxRecDepth 20000 in
theorem gX3_find_X3_isLike : GoodIn wsX3_find (wsV RX3 146 RX3 yX3_isLike wsX3_isLike) := goodIn_app (goodIn_of _ (by decide +kernel)) ggX3_find_X3_isLike
theorem dX3_find_0 : decode cX3_find 0 = .ok (.iload_n 1, 1) := by decide +kernel
theorem dX3_find_1 : decode cX3_find 1 = .ok (.iload_n 2, 1) := by decide +kernel
theorem dX3_find_2 : decode cX3_find 2 = .ok (.invokestatic 140, 3) := by decide +kernel
theorem dX3_find_5 : decode cX3_find 5 = .ok (.ifCond .eq 18, 3) := by decide +kernel
theorem dX3_find_8 : decode cX3_find 8 = .ok (.iload_n 3, 1) := by decide +kernel
theorem dX3_find_9 : decode cX3_find 9 = .ok (.iconst 0, 1) := by decide +kernel
theorem dX3_find_10 : decode cX3_find 10 = .ok (.iconst 2, 1) := by decide +kernel
theorem dX3_find_11 : decode cX3_find 11 = .ok (.invokestatic 44, 3) := by decide +kernel
theorem dX3_find_14 : decode cX3_find 14 = .ok (.ifCond .eq 9, 3) := by decide +kernel
theorem dX3_find_17 : decode cX3_find 17 = .ok (.iload 4, 2) := by decide +kernel
theorem dX3_find_19 : decode cX3_find 19 = .ok (.iconst (-1), 1) := by decide +kernel
theorem dX3_find_20 : decode cX3_find 20 = .ok (.if_icmp .ge 6, 3) := by decide +kernel
theorem dX3_find_23 : decode cX3_find 23 = .ok (.bipush (-2), 2) := by decide +kernel
theorem dX3_find_25 : decode cX3_find 25 = .ok (.ireturn, 1) := by decide +kernel
theorem dX3_find_26 : decode cX3_find 26 = .ok (.aload_n 0, 1) := by decide +kernel
theorem dX3_find_27 : decode cX3_find 27 = .ok (.getfield 48, 3) := by decide +kernel
theorem dX3_find_30 : decode cX3_find 30 = .ok (.ifCond .ne 6, 3) := by decide +kernel
theorem dX3_find_33 : decode cX3_find 33 = .ok (.bipush (-7), 2) := by decide +kernel
theorem dX3_find_35 : decode cX3_find 35 = .ok (.ireturn, 1) := by decide +kernel
theorem dX3_find_36 : decode cX3_find 36 = .ok (.aload_n 0, 1) := by decide +kernel
theorem dX3_find_37 : decode cX3_find 37 = .ok (.invokevirtual 143, 3) := by decide +kernel
theorem dX3_find_40 : decode cX3_find 40 = .ok (.iconst 0, 1) := by decide +kernel
theorem dX3_find_41 : decode cX3_find 41 = .ok (.istore 5, 2) := by decide +kernel
theorem dX3_find_43 : decode cX3_find 43 = .ok (.iload_n 1, 1) := by decide +kernel
theorem dX3_find_44 : decode cX3_find 44 = .ok (.istore 6, 2) := by decide +kernel
theorem dX3_find_46 : decode cX3_find 46 = .ok (.iload 6, 2) := by decide +kernel
theorem dX3_find_48 : decode cX3_find 48 = .ok (.iload_n 2, 1) := by decide +kernel
theorem dX3_find_49 : decode cX3_find 49 = .ok (.if_icmp .gt 69, 3) := by decide +kernel
theorem dX3_find_52 : decode cX3_find 52 = .ok (.aload_n 0, 1) := by decide +kernel
theorem dX3_find_53 : decode cX3_find 53 = .ok (.iload 6, 2) := by decide +kernel
theorem dX3_find_55 : decode cX3_find 55 = .ok (.invokevirtual 88, 3) := by decide +kernel
theorem dX3_find_58 : decode cX3_find 58 = .ok (.iconst 0, 1) := by decide +kernel
theorem dX3_find_59 : decode cX3_find 59 = .ok (.istore 7, 2) := by decide +kernel
theorem dX3_find_61 : decode cX3_find 61 = .ok (.iload 7, 2) := by decide +kernel
theorem dX3_find_63 : decode cX3_find 63 = .ok (.aload_n 0, 1) := by decide +kernel
theorem dX3_find_64 : decode cX3_find 64 = .ok (.getfield 7, 3) := by decide +kernel
theorem dX3_find_67 : decode cX3_find 67 = .ok (.sipush 421, 3) := by decide +kernel
theorem dX3_find_70 : decode cX3_find 70 = .ok (.iaload, 1) := by decide +kernel
theorem dX3_find_71 : decode cX3_find 71 = .ok (.if_icmp .ge 41, 3) := by decide +kernel
theorem dX3_find_74 : decode cX3_find 74 = .ok (.iload 5, 2) := by decide +kernel
theorem dX3_find_76 : decode cX3_find 76 = .ok (.aload_n 0, 1) := by decide +kernel
theorem dX3_find_77 : decode cX3_find 77 = .ok (.iload 7, 2) := by decide +kernel
theorem dX3_find_79 : decode cX3_find 79 = .ok (.invokevirtual 70, 3) := by decide +kernel
theorem dX3_find_82 : decode cX3_find 82 = .ok (.ifCond .eq 20, 3) := by decide +kernel
theorem dX3_find_85 : decode cX3_find 85 = .ok (.aload_n 0, 1) := by decide +kernel
theorem dX3_find_86 : decode cX3_find 86 = .ok (.iload 7, 2) := by decide +kernel
theorem dX3_find_88 : decode cX3_find 88 = .ok (.iload_n 3, 1) := by decide +kernel
theorem dX3_find_89 : decode cX3_find 89 = .ok (.invokevirtual 146, 3) := by decide +kernel
theorem dX3_find_92 : decode cX3_find 92 = .ok (.ifCond .eq 10, 3) := by decide +kernel
theorem dX3_find_95 : decode cX3_find 95 = .ok (.iconst 1, 1) := by decide +kernel
theorem dX3_find_96 : decode cX3_find 96 = .ok (.iload 7, 2) := by decide +kernel
theorem dX3_find_98 : decode cX3_find 98 = .ok (.ishl, 1) := by decide +kernel
theorem dX3_find_99 : decode cX3_find 99 = .ok (.goto 4, 3) := by decide +kernel
theorem dX3_find_102 : decode cX3_find 102 = .ok (.iconst 0, 1) := by decide +kernel
theorem dX3_find_103 : decode cX3_find 103 = .ok (.ior, 1) := by decide +kernel
theorem dX3_find_104 : decode cX3_find 104 = .ok (.istore 5, 2) := by decide +kernel
theorem dX3_find_106 : decode cX3_find 106 = .ok (.iinc 7 1, 3) := by decide +kernel
theorem dX3_find_109 : decode cX3_find 109 = .ok (.goto (-48), 3) := by decide +kernel
theorem dX3_find_112 : decode cX3_find 112 = .ok (.iinc 6 1, 3) := by decide +kernel
theorem dX3_find_115 : decode cX3_find 115 = .ok (.goto (-69), 3) := by decide +kernel
theorem dX3_find_118 : decode cX3_find 118 = .ok (.iconst 0, 1) := by decide +kernel
theorem dX3_find_119 : decode cX3_find 119 = .ok (.istore 6, 2) := by decide +kernel
theorem dX3_find_121 : decode cX3_find 121 = .ok (.iconst 0, 1) := by decide +kernel
theorem dX3_find_122 : decode cX3_find 122 = .ok (.istore 7, 2) := by decide +kernel
theorem dX3_find_124 : decode cX3_find 124 = .ok (.iload 7, 2) := by decide +kernel
theorem dX3_find_126 : decode cX3_find 126 = .ok (.bipush 16, 2) := by decide +kernel
theorem dX3_find_128 : decode cX3_find 128 = .ok (.if_icmp .ge 33, 3) := by decide +kernel
theorem dX3_find_131 : decode cX3_find 131 = .ok (.iload 5, 2) := by decide +kernel
theorem dX3_find_133 : decode cX3_find 133 = .ok (.iload 7, 2) := by decide +kernel
theorem dX3_find_135 : decode cX3_find 135 = .ok (.ishr, 1) := by decide +kernel
theorem dX3_find_136 : decode cX3_find 136 = .ok (.iconst 1, 1) := by decide +kernel
theorem dX3_find_137 : decode cX3_find 137 = .ok (.iand, 1) := by decide +kernel
theorem dX3_find_138 : decode cX3_find 138 = .ok (.iconst 1, 1) := by decide +kernel
theorem dX3_find_139 : decode cX3_find 139 = .ok (.if_icmp .ne 16, 3) := by decide +kernel
theorem dX3_find_142 : decode cX3_find 142 = .ok (.iload 6, 2) := by decide +kernel
theorem dX3_find_144 : decode cX3_find 144 = .ok (.iload 4, 2) := by decide +kernel
theorem dX3_find_146 : decode cX3_find 146 = .ok (.if_icmp .ne 6, 3) := by decide +kernel
theorem dX3_find_149 : decode cX3_find 149 = .ok (.iload 7, 2) := by decide +kernel
theorem dX3_find_151 : decode cX3_find 151 = .ok (.ireturn, 1) := by decide +kernel
theorem dX3_find_152 : decode cX3_find 152 = .ok (.iinc 6 1, 3) := by decide +kernel
theorem dX3_find_155 : decode cX3_find 155 = .ok (.iinc 7 1, 3) := by decide +kernel
theorem dX3_find_158 : decode cX3_find 158 = .ok (.goto (-34), 3) := by decide +kernel
theorem dX3_find_161 : decode cX3_find 161 = .ok (.iload 4, 2) := by decide +kernel
theorem dX3_find_163 : decode cX3_find 163 = .ok (.iconst (-1), 1) := by decide +kernel
theorem dX3_find_164 : decode cX3_find 164 = .ok (.if_icmp .ne 8, 3) := by decide +kernel
theorem dX3_find_167 : decode cX3_find 167 = .ok (.iload 6, 2) := by decide +kernel
theorem dX3_find_169 : decode cX3_find 169 = .ok (.goto 5, 3) := by decide +kernel
theorem dX3_find_172 : decode cX3_find 172 = .ok (.bipush (-6), 2) := by decide +kernel
theorem dX3_find_174 : decode cX3_find 174 = .ok (.ireturn, 1) := by decide +kernel
set_option maxRecDepth 20000 in
theorem ggX3_called_X3_isSite : GoodIn wsX3_called wsX3_isSite := goodIn_r _ [6, 7, 8, 5, 9] (by decide +kernel) (by decide +kernel)
set_option maxRecDepth 20000 in
theorem gX3_called_X3_isSite : GoodIn wsX3_called (va_wsS RX3 85 yX3_isSite wsX3_isSite) := goodIn_app (goodIn_of _ (by decide +kernel)) ggX3_called_X3_isSite
set_option maxRecDepth 20000 in
theorem ggX3_called_X3_areYears : GoodIn wsX3_called wsX3_areYears := goodIn_r _ [12, 13, 14, 5, 15, 7, 8, 9] (by decide +kernel) (by decide +kernel)
set_option maxRecDepth 20000 in
theorem gX3_called_X3_areYears : GoodIn wsX3_called (va_wsS RX3 140 yX3_areYears wsX3_areYears) := goodIn_app (goodIn_of _ (by decide +kernel)) ggX3_called_X3_areYears
set_option maxRecDepth 20000 in
theorem ggX3_called_X3_in : GoodIn wsX3_called wsX3_in := goodIn_r _ [9] (by decide +kernel) (by decide +kernel)
set_option maxRecDepth 20000 in
theorem gX3_called_X3_in : GoodIn wsX3_called (va_wsS RX3 44 yX3_in wsX3_in) := goodIn_app (goodIn_of _ (by decide +kernel)) ggX3_called_X3_in
set_option maxRecDepth 20000 in
theorem ggX3_called_X3_layPad : GoodIn wsX3_called wsX3_layPad := goodIn_r _ [19, 1, 20, 21, 22, 23, 24, 25, 26, 5, 27, 28, 29, 30, 77, 78, 79, 80, 81, 82, 83, 84, 85, 86, 87, 88, 89, 90, 91, 92] (by decide +kernel) (by decide +kernel)
set_option maxRecDepth 20000 in
theorem gX3_called_X3_layPad : GoodIn wsX3_called (wsV RX3 143 RX3 yX3_layPad wsX3_layPad) := goodIn_app (goodIn_of _ (by decide +kernel)) ggX3_called_X3_layPad
set_option maxRecDepth 20000 in
theorem ggX3_called_X3_goTo : GoodIn wsX3_called wsX3_goTo := goodIn_r _ [34, 35, 36, 37, 38, 5, 39, 2, 40, 77, 78, 79, 80, 81, 82, 83, 84, 85, 86, 87, 88, 89, 90, 91, 92] (by decide +kernel) (by decide +kernel)
set_option maxRecDepth 20000 in
theorem gX3_called_X3_goTo : GoodIn wsX3_called (wsV RX3 88 RX3 yX3_goTo wsX3_goTo) := goodIn_app (goodIn_of _ (by decide +kernel)) ggX3_called_X3_goTo
set_option maxRecDepth 20000 in
theorem ggX3_called_X3_isLike : GoodIn wsX3_called wsX3_isLike := goodIn_r _ [44, 45, 46, 47, 5, 48, 49, 50, 51, 52, 53, 54, 55, 56, 40, 35, 57, 58, 59, 60, 25, 26, 27, 28, 29, 30, 61, 62, 63, 64, 20, 21, 65, 66, 67, 68, 24, 23, 69, 70, 71, 72, 73, 74, 75, 76, 77, 78, 79, 80, 81, 82, 83, 84, 85, 86, 87, 88, 89, 90, 91, 92] (by decide +kernel) (by decide +kernel)
set_option maxRecDepth 20000 in
theorem gX3_called_X3_isLike : GoodIn wsX3_called (wsV RX3 146 RX3 yX3_isLike wsX3_isLike) := goodIn_app (goodIn_of _ (by decide +kernel)) ggX3_called_X3_isLike
theorem dX3_called_0 : decode cX3_called 0 = .ok (.iload_n 1, 1) := by decide +kernel
theorem dX3_called_1 : decode cX3_called 1 = .ok (.invokestatic 85, 3) := by decide +kernel
theorem dX3_called_4 : decode cX3_called 4 = .ok (.ifCond .ne 5, 3) := by decide +kernel
theorem dX3_called_7 : decode cX3_called 7 = .ok (.iconst (-1), 1) := by decide +kernel
theorem dX3_called_8 : decode cX3_called 8 = .ok (.ireturn, 1) := by decide +kernel
theorem dX3_called_9 : decode cX3_called 9 = .ok (.iload_n 2, 1) := by decide +kernel
theorem dX3_called_10 : decode cX3_called 10 = .ok (.iload_n 3, 1) := by decide +kernel
theorem dX3_called_11 : decode cX3_called 11 = .ok (.invokestatic 140, 3) := by decide +kernel
theorem dX3_called_14 : decode cX3_called 14 = .ok (.ifCond .eq 23, 3) := by decide +kernel
theorem dX3_called_17 : decode cX3_called 17 = .ok (.iload 4, 2) := by decide +kernel
theorem dX3_called_19 : decode cX3_called 19 = .ok (.iconst 0, 1) := by decide +kernel
theorem dX3_called_20 : decode cX3_called 20 = .ok (.iconst 2, 1) := by decide +kernel
theorem dX3_called_21 : decode cX3_called 21 = .ok (.invokestatic 44, 3) := by decide +kernel
theorem dX3_called_24 : decode cX3_called 24 = .ok (.ifCond .eq 13, 3) := by decide +kernel
theorem dX3_called_27 : decode cX3_called 27 = .ok (.iload 5, 2) := by decide +kernel
theorem dX3_called_29 : decode cX3_called 29 = .ok (.iconst 0, 1) := by decide +kernel
theorem dX3_called_30 : decode cX3_called 30 = .ok (.iconst 2, 1) := by decide +kernel
theorem dX3_called_31 : decode cX3_called 31 = .ok (.invokestatic 44, 3) := by decide +kernel
theorem dX3_called_34 : decode cX3_called 34 = .ok (.ifCond .ne 6, 3) := by decide +kernel
theorem dX3_called_37 : decode cX3_called 37 = .ok (.bipush (-2), 2) := by decide +kernel
theorem dX3_called_39 : decode cX3_called 39 = .ok (.ireturn, 1) := by decide +kernel
theorem dX3_called_40 : decode cX3_called 40 = .ok (.aload_n 0, 1) := by decide +kernel
theorem dX3_called_41 : decode cX3_called 41 = .ok (.getfield 48, 3) := by decide +kernel
theorem dX3_called_44 : decode cX3_called 44 = .ok (.ifCond .ne 6, 3) := by decide +kernel
theorem dX3_called_47 : decode cX3_called 47 = .ok (.bipush (-7), 2) := by decide +kernel
theorem dX3_called_49 : decode cX3_called 49 = .ok (.ireturn, 1) := by decide +kernel
theorem dX3_called_50 : decode cX3_called 50 = .ok (.aload_n 0, 1) := by decide +kernel
theorem dX3_called_51 : decode cX3_called 51 = .ok (.invokevirtual 143, 3) := by decide +kernel
theorem dX3_called_54 : decode cX3_called 54 = .ok (.iconst 0, 1) := by decide +kernel
theorem dX3_called_55 : decode cX3_called 55 = .ok (.istore 6, 2) := by decide +kernel
theorem dX3_called_57 : decode cX3_called 57 = .ok (.bipush (-6), 2) := by decide +kernel
theorem dX3_called_59 : decode cX3_called 59 = .ok (.istore 7, 2) := by decide +kernel
theorem dX3_called_61 : decode cX3_called 61 = .ok (.bipush (-6), 2) := by decide +kernel
theorem dX3_called_63 : decode cX3_called 63 = .ok (.istore 8, 2) := by decide +kernel
theorem dX3_called_65 : decode cX3_called 65 = .ok (.iload_n 2, 1) := by decide +kernel
