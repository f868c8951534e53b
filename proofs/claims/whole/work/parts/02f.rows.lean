theorem dX3_init_0 : decode cX3_init 0 = .ok (.aload_n 0, 1) := by decide +kernel
theorem dX3_init_1 : decode cX3_init 1 = .ok (.invokespecial 1, 3) := by decide +kernel
theorem dX3_init_4 : decode cX3_init 4 = .ok (.aload_n 0, 1) := by decide +kernel
theorem dX3_init_5 : decode cX3_init 5 = .ok (.sipush 422, 3) := by decide +kernel
theorem dX3_init_8 : decode cX3_init 8 = .ok (.newarray .int, 2) := by decide +kernel
theorem dX3_init_10 : decode cX3_init 10 = .ok (.putfield 7, 3) := by decide +kernel
theorem dX3_init_13 : decode cX3_init 13 = .ok (.aload_n 0, 1) := by decide +kernel
theorem dX3_init_14 : decode cX3_init 14 = .ok (.sipush 844, 3) := by decide +kernel
theorem dX3_init_17 : decode cX3_init 17 = .ok (.newarray .int, 2) := by decide +kernel
theorem dX3_init_19 : decode cX3_init 19 = .ok (.putfield 13, 3) := by decide +kernel
theorem dX3_init_22 : decode cX3_init 22 = .ok (.aload_n 0, 1) := by decide +kernel
theorem dX3_init_23 : decode cX3_init 23 = .ok (.iconst 2, 1) := by decide +kernel
theorem dX3_init_24 : decode cX3_init 24 = .ok (.newarray .boolean, 2) := by decide +kernel
theorem dX3_init_26 : decode cX3_init 26 = .ok (.putfield 16, 3) := by decide +kernel
theorem dX3_init_29 : decode cX3_init 29 = .ok (.aload_n 0, 1) := by decide +kernel
theorem dX3_init_30 : decode cX3_init 30 = .ok (.bipush 8, 2) := by decide +kernel
theorem dX3_init_32 : decode cX3_init 32 = .ok (.newarray .int, 2) := by decide +kernel
theorem dX3_init_34 : decode cX3_init 34 = .ok (.putfield 20, 3) := by decide +kernel
theorem dX3_init_37 : decode cX3_init 37 = .ok (.aload_n 0, 1) := by decide +kernel
theorem dX3_init_38 : decode cX3_init 38 = .ok (.bipush 12, 2) := by decide +kernel
theorem dX3_init_40 : decode cX3_init 40 = .ok (.newarray .int, 2) := by decide +kernel
theorem dX3_init_42 : decode cX3_init 42 = .ok (.putfield 23, 3) := by decide +kernel
theorem dX3_init_45 : decode cX3_init 45 = .ok (.aload_n 0, 1) := by decide +kernel
theorem dX3_init_46 : decode cX3_init 46 = .ok (.bipush 16, 2) := by decide +kernel
theorem dX3_init_48 : decode cX3_init 48 = .ok (.newarray .int, 2) := by decide +kernel
theorem dX3_init_50 : decode cX3_init 50 = .ok (.putfield 26, 3) := by decide +kernel
theorem dX3_init_53 : decode cX3_init 53 = .ok (.aload_n 0, 1) := by decide +kernel
theorem dX3_init_54 : decode cX3_init 54 = .ok (.bipush 8, 2) := by decide +kernel
theorem dX3_init_56 : decode cX3_init 56 = .ok (.newarray .int, 2) := by decide +kernel
theorem dX3_init_58 : decode cX3_init 58 = .ok (.putfield 29, 3) := by decide +kernel
theorem dX3_init_61 : decode cX3_init 61 = .ok (.aload_n 0, 1) := by decide +kernel
theorem dX3_init_62 : decode cX3_init 62 = .ok (.bipush 8, 2) := by decide +kernel
theorem dX3_init_64 : decode cX3_init 64 = .ok (.newarray .int, 2) := by decide +kernel
theorem dX3_init_66 : decode cX3_init 66 = .ok (.putfield 32, 3) := by decide +kernel
theorem dX3_init_69 : decode cX3_init 69 = .ok (.aload_n 0, 1) := by decide +kernel
theorem dX3_init_70 : decode cX3_init 70 = .ok (.iconst 4, 1) := by decide +kernel
theorem dX3_init_71 : decode cX3_init 71 = .ok (.newarray .int, 2) := by decide +kernel
theorem dX3_init_73 : decode cX3_init 73 = .ok (.putfield 35, 3) := by decide +kernel
theorem dX3_init_76 : decode cX3_init 76 = .ok (.aload_n 0, 1) := by decide +kernel
theorem dX3_init_77 : decode cX3_init 77 = .ok (.iconst 4, 1) := by decide +kernel
theorem dX3_init_78 : decode cX3_init 78 = .ok (.newarray .int, 2) := by decide +kernel
theorem dX3_init_80 : decode cX3_init 80 = .ok (.putfield 38, 3) := by decide +kernel
theorem dX3_init_83 : decode cX3_init 83 = .ok (.aload_n 0, 1) := by decide +kernel
theorem dX3_init_84 : decode cX3_init 84 = .ok (.bipush 81, 2) := by decide +kernel
theorem dX3_init_86 : decode cX3_init 86 = .ok (.newarray .int, 2) := by decide +kernel
theorem dX3_init_88 : decode cX3_init 88 = .ok (.putfield 41, 3) := by decide +kernel
theorem dX3_init_91 : decode cX3_init 91 = .ok (.aload_n 0, 1) := by decide +kernel
theorem dX3_init_92 : decode cX3_init 92 = .ok (.getfield 7, 3) := by decide +kernel
theorem dX3_init_95 : decode cX3_init 95 = .ok (.sipush 421, 3) := by decide +kernel
theorem dX3_init_98 : decode cX3_init 98 = .ok (.iconst 1, 1) := by decide +kernel
theorem dX3_init_99 : decode cX3_init 99 = .ok (.iastore, 1) := by decide +kernel
theorem dX3_init_100 : decode cX3_init 100 = .ok (.return_, 1) := by decide +kernel
theorem dX3_in_0 : decode cX3_in 0 = .ok (.iload_n 0, 1) := by decide +kernel
theorem dX3_in_1 : decode cX3_in 1 = .ok (.iload_n 1, 1) := by decide +kernel
theorem dX3_in_2 : decode cX3_in 2 = .ok (.if_icmp .lt 12, 3) := by decide +kernel
theorem dX3_in_5 : decode cX3_in 5 = .ok (.iload_n 0, 1) := by decide +kernel
theorem dX3_in_6 : decode cX3_in 6 = .ok (.iload_n 2, 1) := by decide +kernel
theorem dX3_in_7 : decode cX3_in 7 = .ok (.if_icmp .gt 7, 3) := by decide +kernel
theorem dX3_in_10 : decode cX3_in 10 = .ok (.iconst 1, 1) := by decide +kernel
theorem dX3_in_11 : decode cX3_in 11 = .ok (.goto 4, 3) := by decide +kernel
theorem dX3_in_14 : decode cX3_in 14 = .ok (.iconst 0, 1) := by decide +kernel
theorem dX3_in_15 : decode cX3_in 15 = .ok (.ireturn, 1) := by decide +kernel
set_option maxRecDepth 20000 in
theorem ggX3_isParish_X3_in : GoodIn wsX3_isParish wsX3_in := goodIn_r _ [5] (by decide +kernel) (by decide +kernel)
set_option maxRecDepth 20000 in
theorem gX3_isParish_X3_in : GoodIn wsX3_isParish (va_wsS RX3 44 yX3_in wsX3_in) := goodIn_app (goodIn_of _ (by decide +kernel)) ggX3_isParish_X3_in
theorem dX3_isParish_0 : decode cX3_isParish 0 = .ok (.iload_n 1, 1) := by decide +kernel
theorem dX3_isParish_1 : decode cX3_isParish 1 = .ok (.iconst 0, 1) := by decide +kernel
theorem dX3_isParish_2 : decode cX3_isParish 2 = .ok (.aload_n 0, 1) := by decide +kernel
theorem dX3_isParish_3 : decode cX3_isParish 3 = .ok (.getfield 7, 3) := by decide +kernel
theorem dX3_isParish_6 : decode cX3_isParish 6 = .ok (.sipush 421, 3) := by decide +kernel
theorem dX3_isParish_9 : decode cX3_isParish 9 = .ok (.iaload, 1) := by decide +kernel
theorem dX3_isParish_10 : decode cX3_isParish 10 = .ok (.iconst 1, 1) := by decide +kernel
theorem dX3_isParish_11 : decode cX3_isParish 11 = .ok (.isub, 1) := by decide +kernel
theorem dX3_isParish_12 : decode cX3_isParish 12 = .ok (.invokestatic 44, 3) := by decide +kernel
theorem dX3_isParish_15 : decode cX3_isParish 15 = .ok (.ireturn, 1) := by decide +kernel
set_option maxRecDepth 20000 in
theorem ggX3_isSite_X3_in : GoodIn wsX3_isSite wsX3_in := goodIn_r _ [4] (by decide +kernel) (by decide +kernel)
set_option maxRecDepth 20000 in
theorem gX3_isSite_X3_in : GoodIn wsX3_isSite (va_wsS RX3 44 yX3_in wsX3_in) := goodIn_app (goodIn_of _ (by decide +kernel)) ggX3_isSite_X3_in
theorem dX3_isSite_0 : decode cX3_isSite 0 = .ok (.iload_n 0, 1) := by decide +kernel
theorem dX3_isSite_1 : decode cX3_isSite 1 = .ok (.iconst 0, 1) := by decide +kernel
theorem dX3_isSite_2 : decode cX3_isSite 2 = .ok (.bipush 11, 2) := by decide +kernel
theorem dX3_isSite_4 : decode cX3_isSite 4 = .ok (.invokestatic 44, 3) := by decide +kernel
theorem dX3_isSite_7 : decode cX3_isSite 7 = .ok (.ireturn, 1) := by decide +kernel
set_option maxRecDepth 20000 in
theorem ggX3_isYear_X3_in : GoodIn wsX3_isYear wsX3_in := goodIn_r _ [4] (by decide +kernel) (by decide +kernel)
set_option maxRecDepth 20000 in
theorem gX3_isYear_X3_in : GoodIn wsX3_isYear (va_wsS RX3 44 yX3_in wsX3_in) := goodIn_app (goodIn_of _ (by decide +kernel)) ggX3_isYear_X3_in
theorem dX3_isYear_0 : decode cX3_isYear 0 = .ok (.iload_n 0, 1) := by decide +kernel
theorem dX3_isYear_1 : decode cX3_isYear 1 = .ok (.iconst 0, 1) := by decide +kernel
theorem dX3_isYear_2 : decode cX3_isYear 2 = .ok (.sipush 999, 3) := by decide +kernel
theorem dX3_isYear_5 : decode cX3_isYear 5 = .ok (.invokestatic 44, 3) := by decide +kernel
theorem dX3_isYear_8 : decode cX3_isYear 8 = .ok (.ireturn, 1) := by decide +kernel
theorem dX3_bits_0 : decode cX3_bits 0 = .ok (.iconst 0, 1) := by decide +kernel
theorem dX3_bits_1 : decode cX3_bits 1 = .ok (.istore_n 1, 1) := by decide +kernel
theorem dX3_bits_2 : decode cX3_bits 2 = .ok (.iconst 0, 1) := by decide +kernel
theorem dX3_bits_3 : decode cX3_bits 3 = .ok (.istore_n 2, 1) := by decide +kernel
theorem dX3_bits_4 : decode cX3_bits 4 = .ok (.iload_n 2, 1) := by decide +kernel
theorem dX3_bits_5 : decode cX3_bits 5 = .ok (.bipush 16, 2) := by decide +kernel
theorem dX3_bits_7 : decode cX3_bits 7 = .ok (.if_icmp .ge 17, 3) := by decide +kernel
theorem dX3_bits_10 : decode cX3_bits 10 = .ok (.iload_n 1, 1) := by decide +kernel
theorem dX3_bits_11 : decode cX3_bits 11 = .ok (.iload_n 0, 1) := by decide +kernel
theorem dX3_bits_12 : decode cX3_bits 12 = .ok (.iload_n 2, 1) := by decide +kernel
theorem dX3_bits_13 : decode cX3_bits 13 = .ok (.ishr, 1) := by decide +kernel
theorem dX3_bits_14 : decode cX3_bits 14 = .ok (.iconst 1, 1) := by decide +kernel
theorem dX3_bits_15 : decode cX3_bits 15 = .ok (.iand, 1) := by decide +kernel
theorem dX3_bits_16 : decode cX3_bits 16 = .ok (.iadd, 1) := by decide +kernel
theorem dX3_bits_17 : decode cX3_bits 17 = .ok (.istore_n 1, 1) := by decide +kernel
theorem dX3_bits_18 : decode cX3_bits 18 = .ok (.iinc 2 1, 3) := by decide +kernel
theorem dX3_bits_21 : decode cX3_bits 21 = .ok (.goto (-17), 3) := by decide +kernel
theorem dX3_bits_24 : decode cX3_bits 24 = .ok (.iload_n 1, 1) := by decide +kernel
theorem dX3_bits_25 : decode cX3_bits 25 = .ok (.ireturn, 1) := by decide +kernel
set_option maxRecDepth 20000 in
theorem ggX3_say_X3_in : GoodIn wsX3_say wsX3_in := goodIn_r _ [6] (by decide +kernel) (by decide +kernel)
set_option maxRecDepth 20000 in
theorem gX3_say_X3_in : GoodIn wsX3_say (va_wsS RX3 44 yX3_in wsX3_in) := goodIn_app (goodIn_of _ (by decide +kernel)) ggX3_say_X3_in
theorem dX3_say_0 : decode cX3_say 0 = .ok (.iload_n 1, 1) := by decide +kernel
theorem dX3_say_1 : decode cX3_say 1 = .ok (.bipush 97, 2) := by decide +kernel
theorem dX3_say_3 : decode cX3_say 3 = .ok (.bipush 122, 2) := by decide +kernel
theorem dX3_say_5 : decode cX3_say 5 = .ok (.invokestatic 44, 3) := by decide +kernel
theorem dX3_say_8 : decode cX3_say 8 = .ok (.ifCond .ne 6, 3) := by decide +kernel
theorem dX3_say_11 : decode cX3_say 11 = .ok (.bipush (-2), 2) := by decide +kernel
theorem dX3_say_13 : decode cX3_say 13 = .ok (.ireturn, 1) := by decide +kernel
theorem dX3_say_14 : decode cX3_say 14 = .ok (.aload_n 0, 1) := by decide +kernel
theorem dX3_say_15 : decode cX3_say 15 = .ok (.getfield 48, 3) := by decide +kernel
theorem dX3_say_18 : decode cX3_say 18 = .ok (.bipush 8, 2) := by decide +kernel
theorem dX3_say_20 : decode cX3_say 20 = .ok (.if_icmp .ne 6, 3) := by decide +kernel
theorem dX3_say_23 : decode cX3_say 23 = .ok (.bipush (-4), 2) := by decide +kernel
theorem dX3_say_25 : decode cX3_say 25 = .ok (.ireturn, 1) := by decide +kernel
theorem dX3_say_26 : decode cX3_say 26 = .ok (.aload_n 0, 1) := by decide +kernel
theorem dX3_say_27 : decode cX3_say 27 = .ok (.getfield 20, 3) := by decide +kernel
theorem dX3_say_30 : decode cX3_say 30 = .ok (.aload_n 0, 1) := by decide +kernel
theorem dX3_say_31 : decode cX3_say 31 = .ok (.getfield 48, 3) := by decide +kernel
theorem dX3_say_34 : decode cX3_say 34 = .ok (.iload_n 1, 1) := by decide +kernel
theorem dX3_say_35 : decode cX3_say 35 = .ok (.iastore, 1) := by decide +kernel
theorem dX3_say_36 : decode cX3_say 36 = .ok (.aload_n 0, 1) := by decide +kernel
theorem dX3_say_37 : decode cX3_say 37 = .ok (.dup, 1) := by decide +kernel
theorem dX3_say_38 : decode cX3_say 38 = .ok (.getfield 48, 3) := by decide +kernel
theorem dX3_say_41 : decode cX3_say 41 = .ok (.iconst 1, 1) := by decide +kernel
theorem dX3_say_42 : decode cX3_say 42 = .ok (.iadd, 1) := by decide +kernel
theorem dX3_say_43 : decode cX3_say 43 = .ok (.putfield 48, 3) := by decide +kernel
theorem dX3_say_46 : decode cX3_say 46 = .ok (.aload_n 0, 1) := by decide +kernel
theorem dX3_say_47 : decode cX3_say 47 = .ok (.getfield 48, 3) := by decide +kernel
theorem dX3_say_50 : decode cX3_say 50 = .ok (.ireturn, 1) := by decide +kernel
theorem dX3_wipe_0 : decode cX3_wipe 0 = .ok (.aload_n 0, 1) := by decide +kernel
theorem dX3_wipe_1 : decode cX3_wipe 1 = .ok (.getfield 48, 3) := by decide +kernel
theorem dX3_wipe_4 : decode cX3_wipe 4 = .ok (.istore_n 1, 1) := by decide +kernel
theorem dX3_wipe_5 : decode cX3_wipe 5 = .ok (.aload_n 0, 1) := by decide +kernel
theorem dX3_wipe_6 : decode cX3_wipe 6 = .ok (.iconst 0, 1) := by decide +kernel
theorem dX3_wipe_7 : decode cX3_wipe 7 = .ok (.putfield 48, 3) := by decide +kernel
theorem dX3_wipe_10 : decode cX3_wipe 10 = .ok (.iload_n 1, 1) := by decide +kernel
theorem dX3_wipe_11 : decode cX3_wipe 11 = .ok (.ireturn, 1) := by decide +kernel
theorem dX3_goThrough_0 : decode cX3_goThrough 0 = .ok (.iconst 0, 1) := by decide +kernel
theorem dX3_goThrough_1 : decode cX3_goThrough 1 = .ok (.istore_n 2, 1) := by decide +kernel
theorem dX3_goThrough_2 : decode cX3_goThrough 2 = .ok (.iload_n 2, 1) := by decide +kernel
theorem dX3_goThrough_3 : decode cX3_goThrough 3 = .ok (.bipush 12, 2) := by decide +kernel
theorem dX3_goThrough_5 : decode cX3_goThrough 5 = .ok (.if_icmp .ge 16, 3) := by decide +kernel
theorem dX3_goThrough_8 : decode cX3_goThrough 8 = .ok (.aload_n 0, 1) := by decide +kernel
theorem dX3_goThrough_9 : decode cX3_goThrough 9 = .ok (.getfield 23, 3) := by decide +kernel
theorem dX3_goThrough_12 : decode cX3_goThrough 12 = .ok (.iload_n 2, 1) := by decide +kernel
theorem dX3_goThrough_13 : decode cX3_goThrough 13 = .ok (.iconst 0, 1) := by decide +kernel
theorem dX3_goThrough_14 : decode cX3_goThrough 14 = .ok (.iastore, 1) := by decide +kernel
theorem dX3_goThrough_15 : decode cX3_goThrough 15 = .ok (.iinc 2 1, 3) := by decide +kernel
theorem dX3_goThrough_18 : decode cX3_goThrough 18 = .ok (.goto (-16), 3) := by decide +kernel
theorem dX3_goThrough_21 : decode cX3_goThrough 21 = .ok (.iconst 0, 1) := by decide +kernel
theorem dX3_goThrough_22 : decode cX3_goThrough 22 = .ok (.istore_n 2, 1) := by decide +kernel
theorem dX3_goThrough_23 : decode cX3_goThrough 23 = .ok (.iload_n 2, 1) := by decide +kernel
theorem dX3_goThrough_24 : decode cX3_goThrough 24 = .ok (.bipush 16, 2) := by decide +kernel
theorem dX3_goThrough_26 : decode cX3_goThrough 26 = .ok (.if_icmp .ge 17, 3) := by decide +kernel
theorem dX3_goThrough_29 : decode cX3_goThrough 29 = .ok (.aload_n 0, 1) := by decide +kernel
theorem dX3_goThrough_30 : decode cX3_goThrough 30 = .ok (.getfield 26, 3) := by decide +kernel
theorem dX3_goThrough_33 : decode cX3_goThrough 33 = .ok (.iload_n 2, 1) := by decide +kernel
theorem dX3_goThrough_34 : decode cX3_goThrough 34 = .ok (.bipush (-6), 2) := by decide +kernel
theorem dX3_goThrough_36 : decode cX3_goThrough 36 = .ok (.iastore, 1) := by decide +kernel
theorem dX3_goThrough_37 : decode cX3_goThrough 37 = .ok (.iinc 2 1, 3) := by decide +kernel
theorem dX3_goThrough_40 : decode cX3_goThrough 40 = .ok (.goto (-17), 3) := by decide +kernel
theorem dX3_goThrough_43 : decode cX3_goThrough 43 = .ok (.iconst 0, 1) := by decide +kernel
theorem dX3_goThrough_44 : decode cX3_goThrough 44 = .ok (.istore_n 2, 1) := by decide +kernel
theorem dX3_goThrough_45 : decode cX3_goThrough 45 = .ok (.iload_n 2, 1) := by decide +kernel
theorem dX3_goThrough_46 : decode cX3_goThrough 46 = .ok (.iload_n 1, 1) := by decide +kernel
theorem dX3_goThrough_47 : decode cX3_goThrough 47 = .ok (.if_icmp .ge 120, 3) := by decide +kernel
theorem dX3_goThrough_50 : decode cX3_goThrough 50 = .ok (.aload_n 0, 1) := by decide +kernel
theorem dX3_goThrough_51 : decode cX3_goThrough 51 = .ok (.getfield 7, 3) := by decide +kernel
theorem dX3_goThrough_54 : decode cX3_goThrough 54 = .ok (.iconst 0, 1) := by decide +kernel
theorem dX3_goThrough_55 : decode cX3_goThrough 55 = .ok (.iload_n 2, 1) := by decide +kernel
theorem dX3_goThrough_56 : decode cX3_goThrough 56 = .ok (.iadd, 1) := by decide +kernel
theorem dX3_goThrough_57 : decode cX3_goThrough 57 = .ok (.iaload, 1) := by decide +kernel
theorem dX3_goThrough_58 : decode cX3_goThrough 58 = .ok (.ifCond .ne 21, 3) := by decide +kernel
theorem dX3_goThrough_61 : decode cX3_goThrough 61 = .ok (.aload_n 0, 1) := by decide +kernel
theorem dX3_goThrough_62 : decode cX3_goThrough 62 = .ok (.getfield 26, 3) := by decide +kernel
theorem dX3_goThrough_65 : decode cX3_goThrough 65 = .ok (.aload_n 0, 1) := by decide +kernel
theorem dX3_goThrough_66 : decode cX3_goThrough 66 = .ok (.getfield 7, 3) := by decide +kernel
theorem dX3_goThrough_69 : decode cX3_goThrough 69 = .ok (.bipush 60, 2) := by decide +kernel
theorem dX3_goThrough_71 : decode cX3_goThrough 71 = .ok (.iload_n 2, 1) := by decide +kernel
theorem dX3_goThrough_72 : decode cX3_goThrough 72 = .ok (.iadd, 1) := by decide +kernel
theorem dX3_goThrough_73 : decode cX3_goThrough 73 = .ok (.iaload, 1) := by decide +kernel
theorem dX3_goThrough_74 : decode cX3_goThrough 74 = .ok (.iload_n 2, 1) := by decide +kernel
theorem dX3_goThrough_75 : decode cX3_goThrough 75 = .ok (.iastore, 1) := by decide +kernel
theorem dX3_goThrough_76 : decode cX3_goThrough 76 = .ok (.goto 85, 3) := by decide +kernel
theorem dX3_goThrough_79 : decode cX3_goThrough 79 = .ok (.iconst 0, 1) := by decide +kernel
theorem dX3_goThrough_80 : decode cX3_goThrough 80 = .ok (.istore_n 3, 1) := by decide +kernel
theorem dX3_goThrough_81 : decode cX3_goThrough 81 = .ok (.iload_n 3, 1) := by decide +kernel
theorem dX3_goThrough_82 : decode cX3_goThrough 82 = .ok (.bipush 12, 2) := by decide +kernel
theorem dX3_goThrough_84 : decode cX3_goThrough 84 = .ok (.if_icmp .ge 50, 3) := by decide +kernel
theorem dX3_goThrough_87 : decode cX3_goThrough 87 = .ok (.aload_n 0, 1) := by decide +kernel
theorem dX3_goThrough_88 : decode cX3_goThrough 88 = .ok (.getfield 23, 3) := by decide +kernel
theorem dX3_goThrough_91 : decode cX3_goThrough 91 = .ok (.iload_n 3, 1) := by decide +kernel
theorem dX3_goThrough_92 : decode cX3_goThrough 92 = .ok (.aload_n 0, 1) := by decide +kernel
theorem dX3_goThrough_93 : decode cX3_goThrough 93 = .ok (.getfield 7, 3) := by decide +kernel
theorem dX3_goThrough_96 : decode cX3_goThrough 96 = .ok (.bipush 90, 2) := by decide +kernel
theorem dX3_goThrough_98 : decode cX3_goThrough 98 = .ok (.iload_n 2, 1) := by decide +kernel
theorem dX3_goThrough_99 : decode cX3_goThrough 99 = .ok (.iadd, 1) := by decide +kernel
theorem dX3_goThrough_100 : decode cX3_goThrough 100 = .ok (.iaload, 1) := by decide +kernel
theorem dX3_goThrough_101 : decode cX3_goThrough 101 = .ok (.iload_n 3, 1) := by decide +kernel
theorem dX3_goThrough_102 : decode cX3_goThrough 102 = .ok (.ishr, 1) := by decide +kernel
theorem dX3_goThrough_103 : decode cX3_goThrough 103 = .ok (.iconst 1, 1) := by decide +kernel
theorem dX3_goThrough_104 : decode cX3_goThrough 104 = .ok (.iand, 1) := by decide +kernel
theorem dX3_goThrough_105 : decode cX3_goThrough 105 = .ok (.iconst 1, 1) := by decide +kernel
theorem dX3_goThrough_106 : decode cX3_goThrough 106 = .ok (.if_icmp .ne 15, 3) := by decide +kernel
theorem dX3_goThrough_109 : decode cX3_goThrough 109 = .ok (.aload_n 0, 1) := by decide +kernel
theorem dX3_goThrough_110 : decode cX3_goThrough 110 = .ok (.getfield 7, 3) := by decide +kernel
theorem dX3_goThrough_113 : decode cX3_goThrough 113 = .ok (.bipush 120, 2) := by decide +kernel
theorem dX3_goThrough_115 : decode cX3_goThrough 115 = .ok (.iload_n 2, 1) := by decide +kernel
theorem dX3_goThrough_116 : decode cX3_goThrough 116 = .ok (.iadd, 1) := by decide +kernel
theorem dX3_goThrough_117 : decode cX3_goThrough 117 = .ok (.iaload, 1) := by decide +kernel
theorem dX3_goThrough_118 : decode cX3_goThrough 118 = .ok (.goto 9, 3) := by decide +kernel
theorem dX3_goThrough_121 : decode cX3_goThrough 121 = .ok (.aload_n 0, 1) := by decide +kernel
theorem dX3_goThrough_122 : decode cX3_goThrough 122 = .ok (.getfield 23, 3) := by decide +kernel
theorem dX3_goThrough_125 : decode cX3_goThrough 125 = .ok (.iload_n 3, 1) := by decide +kernel
theorem dX3_goThrough_126 : decode cX3_goThrough 126 = .ok (.iaload, 1) := by decide +kernel
theorem dX3_goThrough_127 : decode cX3_goThrough 127 = .ok (.iastore, 1) := by decide +kernel
theorem dX3_goThrough_128 : decode cX3_goThrough 128 = .ok (.iinc 3 1, 3) := by decide +kernel
theorem dX3_goThrough_131 : decode cX3_goThrough 131 = .ok (.goto (-50), 3) := by decide +kernel
theorem dX3_goThrough_134 : decode cX3_goThrough 134 = .ok (.aload_n 0, 1) := by decide +kernel
theorem dX3_goThrough_135 : decode cX3_goThrough 135 = .ok (.getfield 7, 3) := by decide +kernel
theorem dX3_goThrough_138 : decode cX3_goThrough 138 = .ok (.iconst 0, 1) := by decide +kernel
theorem dX3_goThrough_139 : decode cX3_goThrough 139 = .ok (.iload_n 2, 1) := by decide +kernel
theorem dX3_goThrough_140 : decode cX3_goThrough 140 = .ok (.iadd, 1) := by decide +kernel
theorem dX3_goThrough_141 : decode cX3_goThrough 141 = .ok (.iaload, 1) := by decide +kernel
theorem dX3_goThrough_142 : decode cX3_goThrough 142 = .ok (.iconst 1, 1) := by decide +kernel
theorem dX3_goThrough_143 : decode cX3_goThrough 143 = .ok (.if_icmp .ne 18, 3) := by decide +kernel
theorem dX3_goThrough_146 : decode cX3_goThrough 146 = .ok (.aload_n 0, 1) := by decide +kernel
theorem dX3_goThrough_147 : decode cX3_goThrough 147 = .ok (.getfield 26, 3) := by decide +kernel
theorem dX3_goThrough_150 : decode cX3_goThrough 150 = .ok (.aload_n 0, 1) := by decide +kernel
theorem dX3_goThrough_151 : decode cX3_goThrough 151 = .ok (.getfield 7, 3) := by decide +kernel
theorem dX3_goThrough_154 : decode cX3_goThrough 154 = .ok (.bipush 120, 2) := by decide +kernel
theorem dX3_goThrough_156 : decode cX3_goThrough 156 = .ok (.iload_n 2, 1) := by decide +kernel
theorem dX3_goThrough_157 : decode cX3_goThrough 157 = .ok (.iadd, 1) := by decide +kernel
theorem dX3_goThrough_158 : decode cX3_goThrough 158 = .ok (.iaload, 1) := by decide +kernel
theorem dX3_goThrough_159 : decode cX3_goThrough 159 = .ok (.iload_n 2, 1) := by decide +kernel
theorem dX3_goThrough_160 : decode cX3_goThrough 160 = .ok (.iastore, 1) := by decide +kernel
theorem dX3_goThrough_161 : decode cX3_goThrough 161 = .ok (.iinc 2 1, 3) := by decide +kernel
theorem dX3_goThrough_164 : decode cX3_goThrough 164 = .ok (.goto (-119), 3) := by decide +kernel
theorem dX3_goThrough_167 : decode cX3_goThrough 167 = .ok (.return_, 1) := by decide +kernel
set_option maxRecDepth 20000 in
theorem ggX3_goTo_X3_goThrough : GoodIn wsX3_goTo wsX3_goThrough := goodIn_r _ [6, 7, 8, 1, 9, 10, 11, 12, 13, 14, 15, 16, 17, 18, 19, 20, 21, 22, 23, 24] (by decide +kernel) (by decide +kernel)
set_option maxRecDepth 20000 in
theorem gX3_goTo_X3_goThrough : GoodIn wsX3_goTo (wsV RX3 52 RX3 yX3_goThrough wsX3_goThrough) := goodIn_app (goodIn_of _ (by decide +kernel)) ggX3_goTo_X3_goThrough
theorem dX3_goTo_0 : decode cX3_goTo 0 = .ok (.iconst 0, 1) := by decide +kernel
theorem dX3_goTo_1 : decode cX3_goTo 1 = .ok (.istore_n 2, 1) := by decide +kernel
theorem dX3_goTo_2 : decode cX3_goTo 2 = .ok (.iload_n 2, 1) := by decide +kernel
theorem dX3_goTo_3 : decode cX3_goTo 3 = .ok (.aload_n 0, 1) := by decide +kernel
theorem dX3_goTo_4 : decode cX3_goTo 4 = .ok (.getfield 7, 3) := by decide +kernel
theorem dX3_goTo_7 : decode cX3_goTo 7 = .ok (.sipush 420, 3) := by decide +kernel
theorem dX3_goTo_10 : decode cX3_goTo 10 = .ok (.iaload, 1) := by decide +kernel
theorem dX3_goTo_11 : decode cX3_goTo 11 = .ok (.if_icmp .ge 22, 3) := by decide +kernel
theorem dX3_goTo_14 : decode cX3_goTo 14 = .ok (.aload_n 0, 1) := by decide +kernel
theorem dX3_goTo_15 : decode cX3_goTo 15 = .ok (.getfield 7, 3) := by decide +kernel
theorem dX3_goTo_18 : decode cX3_goTo 18 = .ok (.bipush 30, 2) := by decide +kernel
theorem dX3_goTo_20 : decode cX3_goTo 20 = .ok (.iload_n 2, 1) := by decide +kernel
theorem dX3_goTo_21 : decode cX3_goTo 21 = .ok (.iadd, 1) := by decide +kernel
theorem dX3_goTo_22 : decode cX3_goTo 22 = .ok (.iaload, 1) := by decide +kernel
theorem dX3_goTo_23 : decode cX3_goTo 23 = .ok (.iload_n 1, 1) := by decide +kernel
theorem dX3_goTo_24 : decode cX3_goTo 24 = .ok (.if_icmp .gt 9, 3) := by decide +kernel
theorem dX3_goTo_27 : decode cX3_goTo 27 = .ok (.iinc 2 1, 3) := by decide +kernel
theorem dX3_goTo_30 : decode cX3_goTo 30 = .ok (.goto (-28), 3) := by decide +kernel
theorem dX3_goTo_33 : decode cX3_goTo 33 = .ok (.aload_n 0, 1) := by decide +kernel
theorem dX3_goTo_34 : decode cX3_goTo 34 = .ok (.iload_n 2, 1) := by decide +kernel
theorem dX3_goTo_35 : decode cX3_goTo 35 = .ok (.invokevirtual 52, 3) := by decide +kernel
theorem dX3_goTo_38 : decode cX3_goTo 38 = .ok (.return_, 1) := by decide +kernel
set_option maxRecDepth 20000 in
theorem ggX3_goToEnd_X3_goThrough : GoodIn wsX3_goToEnd wsX3_goThrough := goodIn_r _ [6, 7, 8, 1, 9, 10, 11, 12, 13, 14, 15, 16, 17, 18, 19, 20, 21, 22, 23, 24] (by decide +kernel) (by decide +kernel)
set_option maxRecDepth 20000 in
theorem gX3_goToEnd_X3_goThrough : GoodIn wsX3_goToEnd (wsV RX3 52 RX3 yX3_goThrough wsX3_goThrough) := goodIn_app (goodIn_of _ (by decide +kernel)) ggX3_goToEnd_X3_goThrough
theorem dX3_goToEnd_0 : decode cX3_goToEnd 0 = .ok (.aload_n 0, 1) := by decide +kernel
theorem dX3_goToEnd_1 : decode cX3_goToEnd 1 = .ok (.aload_n 0, 1) := by decide +kernel
theorem dX3_goToEnd_2 : decode cX3_goToEnd 2 = .ok (.getfield 7, 3) := by decide +kernel
theorem dX3_goToEnd_5 : decode cX3_goToEnd 5 = .ok (.sipush 420, 3) := by decide +kernel
theorem dX3_goToEnd_8 : decode cX3_goToEnd 8 = .ok (.iaload, 1) := by decide +kernel
theorem dX3_goToEnd_9 : decode cX3_goToEnd 9 = .ok (.invokevirtual 52, 3) := by decide +kernel
theorem dX3_goToEnd_12 : decode cX3_goToEnd 12 = .ok (.return_, 1) := by decide +kernel
theorem dX3_sitesOf_0 : decode cX3_sitesOf 0 = .ok (.iconst 0, 1) := by decide +kernel
theorem dX3_sitesOf_1 : decode cX3_sitesOf 1 = .ok (.istore_n 2, 1) := by decide +kernel
theorem dX3_sitesOf_2 : decode cX3_sitesOf 2 = .ok (.iconst 0, 1) := by decide +kernel
theorem dX3_sitesOf_3 : decode cX3_sitesOf 3 = .ok (.istore_n 3, 1) := by decide +kernel
theorem dX3_sitesOf_4 : decode cX3_sitesOf 4 = .ok (.iload_n 3, 1) := by decide +kernel
theorem dX3_sitesOf_5 : decode cX3_sitesOf 5 = .ok (.bipush 12, 2) := by decide +kernel
theorem dX3_sitesOf_7 : decode cX3_sitesOf 7 = .ok (.if_icmp .ge 29, 3) := by decide +kernel
theorem dX3_sitesOf_10 : decode cX3_sitesOf 10 = .ok (.iload_n 2, 1) := by decide +kernel
theorem dX3_sitesOf_11 : decode cX3_sitesOf 11 = .ok (.aload_n 0, 1) := by decide +kernel
theorem dX3_sitesOf_12 : decode cX3_sitesOf 12 = .ok (.getfield 23, 3) := by decide +kernel
theorem dX3_sitesOf_15 : decode cX3_sitesOf 15 = .ok (.iload_n 3, 1) := by decide +kernel
theorem dX3_sitesOf_16 : decode cX3_sitesOf 16 = .ok (.iaload, 1) := by decide +kernel
theorem dX3_sitesOf_17 : decode cX3_sitesOf 17 = .ok (.iload_n 1, 1) := by decide +kernel
theorem dX3_sitesOf_18 : decode cX3_sitesOf 18 = .ok (.if_icmp .ne 9, 3) := by decide +kernel
theorem dX3_sitesOf_21 : decode cX3_sitesOf 21 = .ok (.iconst 1, 1) := by decide +kernel
theorem dX3_sitesOf_22 : decode cX3_sitesOf 22 = .ok (.iload_n 3, 1) := by decide +kernel
theorem dX3_sitesOf_23 : decode cX3_sitesOf 23 = .ok (.ishl, 1) := by decide +kernel
theorem dX3_sitesOf_24 : decode cX3_sitesOf 24 = .ok (.goto 4, 3) := by decide +kernel
theorem dX3_sitesOf_27 : decode cX3_sitesOf 27 = .ok (.iconst 0, 1) := by decide +kernel
theorem dX3_sitesOf_28 : decode cX3_sitesOf 28 = .ok (.ior, 1) := by decide +kernel
theorem dX3_sitesOf_29 : decode cX3_sitesOf 29 = .ok (.istore_n 2, 1) := by decide +kernel
theorem dX3_sitesOf_30 : decode cX3_sitesOf 30 = .ok (.iinc 3 1, 3) := by decide +kernel
theorem dX3_sitesOf_33 : decode cX3_sitesOf 33 = .ok (.goto (-29), 3) := by decide +kernel
theorem dX3_sitesOf_36 : decode cX3_sitesOf 36 = .ok (.iload_n 2, 1) := by decide +kernel
theorem dX3_sitesOf_37 : decode cX3_sitesOf 37 = .ok (.ireturn, 1) := by decide +kernel
theorem dX3_lettersOf_0 : decode cX3_lettersOf 0 = .ok (.aload_n 0, 1) := by decide +kernel
theorem dX3_lettersOf_1 : decode cX3_lettersOf 1 = .ok (.getfield 26, 3) := by decide +kernel
theorem dX3_lettersOf_4 : decode cX3_lettersOf 4 = .ok (.iload_n 1, 1) := by decide +kernel
theorem dX3_lettersOf_5 : decode cX3_lettersOf 5 = .ok (.iaload, 1) := by decide +kernel
theorem dX3_lettersOf_6 : decode cX3_lettersOf 6 = .ok (.ifCond .ge 7, 3) := by decide +kernel
theorem dX3_lettersOf_9 : decode cX3_lettersOf 9 = .ok (.iconst 1, 1) := by decide +kernel
theorem dX3_lettersOf_10 : decode cX3_lettersOf 10 = .ok (.goto 18, 3) := by decide +kernel
theorem dX3_lettersOf_13 : decode cX3_lettersOf 13 = .ok (.aload_n 0, 1) := by decide +kernel
theorem dX3_lettersOf_14 : decode cX3_lettersOf 14 = .ok (.getfield 7, 3) := by decide +kernel
theorem dX3_lettersOf_17 : decode cX3_lettersOf 17 = .ok (.sipush 390, 3) := by decide +kernel
theorem dX3_lettersOf_20 : decode cX3_lettersOf 20 = .ok (.aload_n 0, 1) := by decide +kernel
theorem dX3_lettersOf_21 : decode cX3_lettersOf 21 = .ok (.getfield 26, 3) := by decide +kernel
theorem dX3_lettersOf_24 : decode cX3_lettersOf 24 = .ok (.iload_n 1, 1) := by decide +kernel
theorem dX3_lettersOf_25 : decode cX3_lettersOf 25 = .ok (.iaload, 1) := by decide +kernel
theorem dX3_lettersOf_26 : decode cX3_lettersOf 26 = .ok (.iadd, 1) := by decide +kernel
theorem dX3_lettersOf_27 : decode cX3_lettersOf 27 = .ok (.iaload, 1) := by decide +kernel
theorem dX3_lettersOf_28 : decode cX3_lettersOf 28 = .ok (.ireturn, 1) := by decide +kernel
theorem dX3_letterOf_0 : decode cX3_letterOf 0 = .ok (.aload_n 0, 1) := by decide +kernel
theorem dX3_letterOf_1 : decode cX3_letterOf 1 = .ok (.getfield 26, 3) := by decide +kernel
theorem dX3_letterOf_4 : decode cX3_letterOf 4 = .ok (.iload_n 1, 1) := by decide +kernel
theorem dX3_letterOf_5 : decode cX3_letterOf 5 = .ok (.iaload, 1) := by decide +kernel
theorem dX3_letterOf_6 : decode cX3_letterOf 6 = .ok (.ifCond .ge 8, 3) := by decide +kernel
theorem dX3_letterOf_9 : decode cX3_letterOf 9 = .ok (.bipush 97, 2) := by decide +kernel
theorem dX3_letterOf_11 : decode cX3_letterOf 11 = .ok (.goto 23, 3) := by decide +kernel
theorem dX3_letterOf_14 : decode cX3_letterOf 14 = .ok (.aload_n 0, 1) := by decide +kernel
theorem dX3_letterOf_15 : decode cX3_letterOf 15 = .ok (.getfield 7, 3) := by decide +kernel
theorem dX3_letterOf_18 : decode cX3_letterOf 18 = .ok (.sipush 150, 3) := by decide +kernel
theorem dX3_letterOf_21 : decode cX3_letterOf 21 = .ok (.bipush 8, 2) := by decide +kernel
theorem dX3_letterOf_23 : decode cX3_letterOf 23 = .ok (.aload_n 0, 1) := by decide +kernel
theorem dX3_letterOf_24 : decode cX3_letterOf 24 = .ok (.getfield 26, 3) := by decide +kernel
theorem dX3_letterOf_27 : decode cX3_letterOf 27 = .ok (.iload_n 1, 1) := by decide +kernel
theorem dX3_letterOf_28 : decode cX3_letterOf 28 = .ok (.iaload, 1) := by decide +kernel
theorem dX3_letterOf_29 : decode cX3_letterOf 29 = .ok (.imul, 1) := by decide +kernel
theorem dX3_letterOf_30 : decode cX3_letterOf 30 = .ok (.iadd, 1) := by decide +kernel
theorem dX3_letterOf_31 : decode cX3_letterOf 31 = .ok (.iload_n 2, 1) := by decide +kernel
theorem dX3_letterOf_32 : decode cX3_letterOf 32 = .ok (.iadd, 1) := by decide +kernel
theorem dX3_letterOf_33 : decode cX3_letterOf 33 = .ok (.iaload, 1) := by decide +kernel
theorem dX3_letterOf_34 : decode cX3_letterOf 34 = .ok (.ireturn, 1) := by decide +kernel
theorem dX3_lastYear_0 : decode cX3_lastYear 0 = .ok (.aload_n 0, 1) := by decide +kernel
theorem dX3_lastYear_1 : decode cX3_lastYear 1 = .ok (.getfield 7, 3) := by decide +kernel
theorem dX3_lastYear_4 : decode cX3_lastYear 4 = .ok (.sipush 420, 3) := by decide +kernel
theorem dX3_lastYear_7 : decode cX3_lastYear 7 = .ok (.iaload, 1) := by decide +kernel
theorem dX3_lastYear_8 : decode cX3_lastYear 8 = .ok (.ifCond .ne 7, 3) := by decide +kernel
theorem dX3_lastYear_11 : decode cX3_lastYear 11 = .ok (.iconst 0, 1) := by decide +kernel
theorem dX3_lastYear_12 : decode cX3_lastYear 12 = .ok (.goto 21, 3) := by decide +kernel
theorem dX3_lastYear_15 : decode cX3_lastYear 15 = .ok (.aload_n 0, 1) := by decide +kernel
theorem dX3_lastYear_16 : decode cX3_lastYear 16 = .ok (.getfield 7, 3) := by decide +kernel
theorem dX3_lastYear_19 : decode cX3_lastYear 19 = .ok (.bipush 30, 2) := by decide +kernel
theorem dX3_lastYear_21 : decode cX3_lastYear 21 = .ok (.aload_n 0, 1) := by decide +kernel
theorem dX3_lastYear_22 : decode cX3_lastYear 22 = .ok (.getfield 7, 3) := by decide +kernel
theorem dX3_lastYear_25 : decode cX3_lastYear 25 = .ok (.sipush 420, 3) := by decide +kernel
theorem dX3_lastYear_28 : decode cX3_lastYear 28 = .ok (.iaload, 1) := by decide +kernel
theorem dX3_lastYear_29 : decode cX3_lastYear 29 = .ok (.iadd, 1) := by decide +kernel
theorem dX3_lastYear_30 : decode cX3_lastYear 30 = .ok (.iconst 1, 1) := by decide +kernel
theorem dX3_lastYear_31 : decode cX3_lastYear 31 = .ok (.isub, 1) := by decide +kernel
theorem dX3_lastYear_32 : decode cX3_lastYear 32 = .ok (.iaload, 1) := by decide +kernel
theorem dX3_lastYear_33 : decode cX3_lastYear 33 = .ok (.ireturn, 1) := by decide +kernel
theorem dX3_add_0 : decode cX3_add 0 = .ok (.aload_n 0, 1) := by decide +kernel
theorem dX3_add_1 : decode cX3_add 1 = .ok (.getfield 7, 3) := by decide +kernel
theorem dX3_add_4 : decode cX3_add 4 = .ok (.sipush 420, 3) := by decide +kernel
theorem dX3_add_7 : decode cX3_add 7 = .ok (.iaload, 1) := by decide +kernel
theorem dX3_add_8 : decode cX3_add 8 = .ok (.istore 6, 2) := by decide +kernel
theorem dX3_add_10 : decode cX3_add 10 = .ok (.aload_n 0, 1) := by decide +kernel
theorem dX3_add_11 : decode cX3_add 11 = .ok (.getfield 7, 3) := by decide +kernel
theorem dX3_add_14 : decode cX3_add 14 = .ok (.iconst 0, 1) := by decide +kernel
theorem dX3_add_15 : decode cX3_add 15 = .ok (.iload 6, 2) := by decide +kernel
theorem dX3_add_17 : decode cX3_add 17 = .ok (.iadd, 1) := by decide +kernel
theorem dX3_add_18 : decode cX3_add 18 = .ok (.iload_n 1, 1) := by decide +kernel
theorem dX3_add_19 : decode cX3_add 19 = .ok (.iastore, 1) := by decide +kernel
theorem dX3_add_20 : decode cX3_add 20 = .ok (.aload_n 0, 1) := by decide +kernel
theorem dX3_add_21 : decode cX3_add 21 = .ok (.getfield 7, 3) := by decide +kernel
theorem dX3_add_24 : decode cX3_add 24 = .ok (.bipush 30, 2) := by decide +kernel
theorem dX3_add_26 : decode cX3_add 26 = .ok (.iload 6, 2) := by decide +kernel
theorem dX3_add_28 : decode cX3_add 28 = .ok (.iadd, 1) := by decide +kernel
theorem dX3_add_29 : decode cX3_add 29 = .ok (.iload_n 2, 1) := by decide +kernel
theorem dX3_add_30 : decode cX3_add 30 = .ok (.iastore, 1) := by decide +kernel
theorem dX3_add_31 : decode cX3_add 31 = .ok (.aload_n 0, 1) := by decide +kernel
theorem dX3_add_32 : decode cX3_add 32 = .ok (.getfield 7, 3) := by decide +kernel
theorem dX3_add_35 : decode cX3_add 35 = .ok (.bipush 60, 2) := by decide +kernel
theorem dX3_add_37 : decode cX3_add 37 = .ok (.iload 6, 2) := by decide +kernel
theorem dX3_add_39 : decode cX3_add 39 = .ok (.iadd, 1) := by decide +kernel
theorem dX3_add_40 : decode cX3_add 40 = .ok (.iload_n 3, 1) := by decide +kernel
theorem dX3_add_41 : decode cX3_add 41 = .ok (.iastore, 1) := by decide +kernel
theorem dX3_add_42 : decode cX3_add 42 = .ok (.aload_n 0, 1) := by decide +kernel
theorem dX3_add_43 : decode cX3_add 43 = .ok (.getfield 7, 3) := by decide +kernel
theorem dX3_add_46 : decode cX3_add 46 = .ok (.bipush 90, 2) := by decide +kernel
theorem dX3_add_48 : decode cX3_add 48 = .ok (.iload 6, 2) := by decide +kernel
theorem dX3_add_50 : decode cX3_add 50 = .ok (.iadd, 1) := by decide +kernel
theorem dX3_add_51 : decode cX3_add 51 = .ok (.iload 4, 2) := by decide +kernel
theorem dX3_add_53 : decode cX3_add 53 = .ok (.iastore, 1) := by decide +kernel
theorem dX3_add_54 : decode cX3_add 54 = .ok (.aload_n 0, 1) := by decide +kernel
theorem dX3_add_55 : decode cX3_add 55 = .ok (.getfield 7, 3) := by decide +kernel
theorem dX3_add_58 : decode cX3_add 58 = .ok (.bipush 120, 2) := by decide +kernel
theorem dX3_add_60 : decode cX3_add 60 = .ok (.iload 6, 2) := by decide +kernel
theorem dX3_add_62 : decode cX3_add 62 = .ok (.iadd, 1) := by decide +kernel
theorem dX3_add_63 : decode cX3_add 63 = .ok (.iload 5, 2) := by decide +kernel
theorem dX3_add_65 : decode cX3_add 65 = .ok (.iastore, 1) := by decide +kernel
theorem dX3_add_66 : decode cX3_add 66 = .ok (.aload_n 0, 1) := by decide +kernel
theorem dX3_add_67 : decode cX3_add 67 = .ok (.getfield 7, 3) := by decide +kernel
theorem dX3_add_70 : decode cX3_add 70 = .ok (.sipush 420, 3) := by decide +kernel
theorem dX3_add_73 : decode cX3_add 73 = .ok (.dup2, 1) := by decide +kernel
theorem dX3_add_74 : decode cX3_add 74 = .ok (.iaload, 1) := by decide +kernel
theorem dX3_add_75 : decode cX3_add 75 = .ok (.iconst 1, 1) := by decide +kernel
theorem dX3_add_76 : decode cX3_add 76 = .ok (.iadd, 1) := by decide +kernel
theorem dX3_add_77 : decode cX3_add 77 = .ok (.iastore, 1) := by decide +kernel
theorem dX3_add_78 : decode cX3_add 78 = .ok (.return_, 1) := by decide +kernel
theorem dX3_takeName_0 : decode cX3_takeName 0 = .ok (.iconst 0, 1) := by decide +kernel
theorem dX3_takeName_1 : decode cX3_takeName 1 = .ok (.istore_n 2, 1) := by decide +kernel
theorem dX3_takeName_2 : decode cX3_takeName 2 = .ok (.iload_n 2, 1) := by decide +kernel
theorem dX3_takeName_3 : decode cX3_takeName 3 = .ok (.aload_n 0, 1) := by decide +kernel
theorem dX3_takeName_4 : decode cX3_takeName 4 = .ok (.getfield 48, 3) := by decide +kernel
theorem dX3_takeName_7 : decode cX3_takeName 7 = .ok (.if_icmp .ge 30, 3) := by decide +kernel
theorem dX3_takeName_10 : decode cX3_takeName 10 = .ok (.aload_n 0, 1) := by decide +kernel
theorem dX3_takeName_11 : decode cX3_takeName 11 = .ok (.getfield 7, 3) := by decide +kernel
theorem dX3_takeName_14 : decode cX3_takeName 14 = .ok (.sipush 150, 3) := by decide +kernel
theorem dX3_takeName_17 : decode cX3_takeName 17 = .ok (.bipush 8, 2) := by decide +kernel
theorem dX3_takeName_19 : decode cX3_takeName 19 = .ok (.iload_n 1, 1) := by decide +kernel
theorem dX3_takeName_20 : decode cX3_takeName 20 = .ok (.imul, 1) := by decide +kernel
theorem dX3_takeName_21 : decode cX3_takeName 21 = .ok (.iadd, 1) := by decide +kernel
theorem dX3_takeName_22 : decode cX3_takeName 22 = .ok (.iload_n 2, 1) := by decide +kernel
theorem dX3_takeName_23 : decode cX3_takeName 23 = .ok (.iadd, 1) := by decide +kernel
theorem dX3_takeName_24 : decode cX3_takeName 24 = .ok (.aload_n 0, 1) := by decide +kernel
theorem dX3_takeName_25 : decode cX3_takeName 25 = .ok (.getfield 20, 3) := by decide +kernel
theorem dX3_takeName_28 : decode cX3_takeName 28 = .ok (.iload_n 2, 1) := by decide +kernel
theorem dX3_takeName_29 : decode cX3_takeName 29 = .ok (.iaload, 1) := by decide +kernel
theorem dX3_takeName_30 : decode cX3_takeName 30 = .ok (.iastore, 1) := by decide +kernel
theorem dX3_takeName_31 : decode cX3_takeName 31 = .ok (.iinc 2 1, 3) := by decide +kernel
theorem dX3_takeName_34 : decode cX3_takeName 34 = .ok (.goto (-32), 3) := by decide +kernel
theorem dX3_takeName_37 : decode cX3_takeName 37 = .ok (.aload_n 0, 1) := by decide +kernel
theorem dX3_takeName_38 : decode cX3_takeName 38 = .ok (.getfield 7, 3) := by decide +kernel
theorem dX3_takeName_41 : decode cX3_takeName 41 = .ok (.sipush 390, 3) := by decide +kernel
theorem dX3_takeName_44 : decode cX3_takeName 44 = .ok (.iload_n 1, 1) := by decide +kernel
theorem dX3_takeName_45 : decode cX3_takeName 45 = .ok (.iadd, 1) := by decide +kernel
theorem dX3_takeName_46 : decode cX3_takeName 46 = .ok (.aload_n 0, 1) := by decide +kernel
theorem dX3_takeName_47 : decode cX3_takeName 47 = .ok (.getfield 48, 3) := by decide +kernel
theorem dX3_takeName_50 : decode cX3_takeName 50 = .ok (.iastore, 1) := by decide +kernel
theorem dX3_takeName_51 : decode cX3_takeName 51 = .ok (.aload_n 0, 1) := by decide +kernel
theorem dX3_takeName_52 : decode cX3_takeName 52 = .ok (.iconst 0, 1) := by decide +kernel
theorem dX3_takeName_53 : decode cX3_takeName 53 = .ok (.putfield 48, 3) := by decide +kernel
theorem dX3_takeName_56 : decode cX3_takeName 56 = .ok (.return_, 1) := by decide +kernel
set_option maxRecDepth 20000 in
theorem ggX3_name_X3_isParish : GoodIn wsX3_name wsX3_isParish := goodIn_r _ [7, 2, 8, 9, 6, 10, 41, 42, 43, 44, 45, 46, 47, 48, 49, 50, 51, 52, 53, 54, 55, 56] (by decide +kernel) (by decide +kernel)
set_option maxRecDepth 20000 in
theorem gX3_name_X3_isParish : GoodIn wsX3_name (wsV RX3 56 RX3 yX3_isParish wsX3_isParish) := goodIn_app (goodIn_of _ (by decide +kernel)) ggX3_name_X3_isParish
set_option maxRecDepth 20000 in
theorem ggX3_name_X3_isYear : GoodIn wsX3_name wsX3_isYear := goodIn_r _ [13, 8, 9, 6, 10] (by decide +kernel) (by decide +kernel)
set_option maxRecDepth 20000 in
theorem gX3_name_X3_isYear : GoodIn wsX3_name (va_wsS RX3 60 yX3_isYear wsX3_isYear) := goodIn_app (goodIn_of _ (by decide +kernel)) ggX3_name_X3_isYear
set_option maxRecDepth 20000 in
theorem ggX3_name_X3_lastYear : GoodIn wsX3_name wsX3_lastYear := goodIn_r _ [17, 2, 41, 42, 43, 44, 45, 46, 47, 48, 49, 50, 51, 52, 53, 54, 55, 56] (by decide +kernel) (by decide +kernel)
set_option maxRecDepth 20000 in
theorem gX3_name_X3_lastYear : GoodIn wsX3_name (wsV RX3 63 RX3 yX3_lastYear wsX3_lastYear) := goodIn_app (goodIn_of _ (by decide +kernel)) ggX3_name_X3_lastYear
set_option maxRecDepth 20000 in
theorem ggX3_name_X3_goToEnd : GoodIn wsX3_name wsX3_goToEnd := goodIn_r _ [21, 2, 22, 23, 24, 6, 25, 26, 27, 41, 42, 43, 44, 45, 46, 47, 48, 49, 50, 51, 52, 53, 54, 55, 56] (by decide +kernel) (by decide +kernel)
set_option maxRecDepth 20000 in
theorem gX3_name_X3_goToEnd : GoodIn wsX3_name (wsV RX3 67 RX3 yX3_goToEnd wsX3_goToEnd) := goodIn_app (goodIn_of _ (by decide +kernel)) ggX3_name_X3_goToEnd
set_option maxRecDepth 20000 in
theorem ggX3_name_X3_sitesOf : GoodIn wsX3_name wsX3_sitesOf := goodIn_r _ [31, 26, 41, 42, 43, 44, 45, 46, 47, 48, 49, 50, 51, 52, 53, 54, 55, 56] (by decide +kernel) (by decide +kernel)
set_option maxRecDepth 20000 in
theorem gX3_name_X3_sitesOf : GoodIn wsX3_name (wsV RX3 70 RX3 yX3_sitesOf wsX3_sitesOf) := goodIn_app (goodIn_of _ (by decide +kernel)) ggX3_name_X3_sitesOf
set_option maxRecDepth 20000 in
theorem ggX3_name_X3_add : GoodIn wsX3_name wsX3_add := goodIn_r _ [35, 2, 41, 42, 43, 44, 45, 46, 47, 48, 49, 50, 51, 52, 53, 54, 55, 56] (by decide +kernel) (by decide +kernel)
set_option maxRecDepth 20000 in
theorem gX3_name_X3_add : GoodIn wsX3_name (wsV RX3 74 RX3 yX3_add wsX3_add) := goodIn_app (goodIn_of _ (by decide +kernel)) ggX3_name_X3_add
set_option maxRecDepth 20000 in
theorem ggX3_name_X3_takeName : GoodIn wsX3_name wsX3_takeName := goodIn_r _ [39, 1, 2, 40, 41, 42, 43, 44, 45, 46, 47, 48, 49, 50, 51, 52, 53, 54, 55, 56] (by decide +kernel) (by decide +kernel)
set_option maxRecDepth 20000 in
theorem gX3_name_X3_takeName : GoodIn wsX3_name (wsV RX3 78 RX3 yX3_takeName wsX3_takeName) := goodIn_app (goodIn_of _ (by decide +kernel)) ggX3_name_X3_takeName
theorem dX3_name_0 : decode cX3_name 0 = .ok (.aload_n 0, 1) := by decide +kernel
theorem dX3_name_1 : decode cX3_name 1 = .ok (.iload_n 1, 1) := by decide +kernel
theorem dX3_name_2 : decode cX3_name 2 = .ok (.invokevirtual 56, 3) := by decide +kernel
theorem dX3_name_5 : decode cX3_name 5 = .ok (.ifCond .ne 5, 3) := by decide +kernel
theorem dX3_name_8 : decode cX3_name 8 = .ok (.iconst (-1), 1) := by decide +kernel
theorem dX3_name_9 : decode cX3_name 9 = .ok (.ireturn, 1) := by decide +kernel
theorem dX3_name_10 : decode cX3_name 10 = .ok (.iload_n 2, 1) := by decide +kernel
theorem dX3_name_11 : decode cX3_name 11 = .ok (.invokestatic 60, 3) := by decide +kernel
theorem dX3_name_14 : decode cX3_name 14 = .ok (.ifCond .ne 6, 3) := by decide +kernel
theorem dX3_name_17 : decode cX3_name 17 = .ok (.bipush (-2), 2) := by decide +kernel
theorem dX3_name_19 : decode cX3_name 19 = .ok (.ireturn, 1) := by decide +kernel
theorem dX3_name_20 : decode cX3_name 20 = .ok (.aload_n 0, 1) := by decide +kernel
theorem dX3_name_21 : decode cX3_name 21 = .ok (.getfield 48, 3) := by decide +kernel
theorem dX3_name_24 : decode cX3_name 24 = .ok (.ifCond .ne 6, 3) := by decide +kernel
theorem dX3_name_27 : decode cX3_name 27 = .ok (.bipush (-7), 2) := by decide +kernel
theorem dX3_name_29 : decode cX3_name 29 = .ok (.ireturn, 1) := by decide +kernel
theorem dX3_name_30 : decode cX3_name 30 = .ok (.iload_n 2, 1) := by decide +kernel
theorem dX3_name_31 : decode cX3_name 31 = .ok (.aload_n 0, 1) := by decide +kernel
theorem dX3_name_32 : decode cX3_name 32 = .ok (.invokevirtual 63, 3) := by decide +kernel
theorem dX3_name_35 : decode cX3_name 35 = .ok (.if_icmp .ge 6, 3) := by decide +kernel
theorem dX3_name_38 : decode cX3_name 38 = .ok (.bipush (-3), 2) := by decide +kernel
theorem dX3_name_40 : decode cX3_name 40 = .ok (.ireturn, 1) := by decide +kernel
theorem dX3_name_41 : decode cX3_name 41 = .ok (.aload_n 0, 1) := by decide +kernel
theorem dX3_name_42 : decode cX3_name 42 = .ok (.invokevirtual 67, 3) := by decide +kernel
theorem dX3_name_45 : decode cX3_name 45 = .ok (.aload_n 0, 1) := by decide +kernel
theorem dX3_name_46 : decode cX3_name 46 = .ok (.iload_n 1, 1) := by decide +kernel
theorem dX3_name_47 : decode cX3_name 47 = .ok (.invokevirtual 70, 3) := by decide +kernel
theorem dX3_name_50 : decode cX3_name 50 = .ok (.ifCond .ne 6, 3) := by decide +kernel
theorem dX3_name_53 : decode cX3_name 53 = .ok (.bipush (-5), 2) := by decide +kernel
theorem dX3_name_55 : decode cX3_name 55 = .ok (.ireturn, 1) := by decide +kernel
theorem dX3_name_56 : decode cX3_name 56 = .ok (.aload_n 0, 1) := by decide +kernel
theorem dX3_name_57 : decode cX3_name 57 = .ok (.getfield 7, 3) := by decide +kernel
theorem dX3_name_60 : decode cX3_name 60 = .ok (.sipush 420, 3) := by decide +kernel
theorem dX3_name_63 : decode cX3_name 63 = .ok (.iaload, 1) := by decide +kernel
theorem dX3_name_64 : decode cX3_name 64 = .ok (.bipush 30, 2) := by decide +kernel
theorem dX3_name_66 : decode cX3_name 66 = .ok (.if_icmp .ne 6, 3) := by decide +kernel
theorem dX3_name_69 : decode cX3_name 69 = .ok (.bipush (-4), 2) := by decide +kernel
theorem dX3_name_71 : decode cX3_name 71 = .ok (.ireturn, 1) := by decide +kernel
theorem dX3_name_72 : decode cX3_name 72 = .ok (.aload_n 0, 1) := by decide +kernel
theorem dX3_name_73 : decode cX3_name 73 = .ok (.getfield 7, 3) := by decide +kernel
theorem dX3_name_76 : decode cX3_name 76 = .ok (.sipush 420, 3) := by decide +kernel
theorem dX3_name_79 : decode cX3_name 79 = .ok (.iaload, 1) := by decide +kernel
theorem dX3_name_80 : decode cX3_name 80 = .ok (.istore_n 3, 1) := by decide +kernel
theorem dX3_name_81 : decode cX3_name 81 = .ok (.aload_n 0, 1) := by decide +kernel
theorem dX3_name_82 : decode cX3_name 82 = .ok (.iconst 0, 1) := by decide +kernel
theorem dX3_name_83 : decode cX3_name 83 = .ok (.iload_n 2, 1) := by decide +kernel
theorem dX3_name_84 : decode cX3_name 84 = .ok (.iload_n 1, 1) := by decide +kernel
theorem dX3_name_85 : decode cX3_name 85 = .ok (.bipush (-6), 2) := by decide +kernel
theorem dX3_name_87 : decode cX3_name 87 = .ok (.bipush (-6), 2) := by decide +kernel
theorem dX3_name_89 : decode cX3_name 89 = .ok (.invokevirtual 74, 3) := by decide +kernel
theorem dX3_name_92 : decode cX3_name 92 = .ok (.aload_n 0, 1) := by decide +kernel
theorem dX3_name_93 : decode cX3_name 93 = .ok (.iload_n 3, 1) := by decide +kernel
theorem dX3_name_94 : decode cX3_name 94 = .ok (.invokevirtual 78, 3) := by decide +kernel
theorem dX3_name_97 : decode cX3_name 97 = .ok (.iload_n 3, 1) := by decide +kernel
theorem dX3_name_98 : decode cX3_name 98 = .ok (.ireturn, 1) := by decide +kernel
set_option maxRecDepth 20000 in
theorem ggX3_isSome_X3_goToEnd : GoodIn wsX3_isSome wsX3_goToEnd := goodIn_r _ [5, 6, 7, 8, 9, 4, 10, 11, 12, 17, 18, 19, 20, 21, 22, 23, 24, 25, 26, 27, 28, 29, 30, 31, 32] (by decide +kernel) (by decide +kernel)
set_option maxRecDepth 20000 in
theorem gX3_isSome_X3_goToEnd : GoodIn wsX3_isSome (wsV RX3 67 RX3 yX3_goToEnd wsX3_goToEnd) := goodIn_app (goodIn_of _ (by decide +kernel)) ggX3_isSome_X3_goToEnd
set_option maxRecDepth 20000 in
theorem ggX3_isSome_X3_sitesOf : GoodIn wsX3_isSome wsX3_sitesOf := goodIn_r _ [16, 11, 17, 18, 19, 20, 21, 22, 23, 24, 25, 26, 27, 28, 29, 30, 31, 32] (by decide +kernel) (by decide +kernel)
set_option maxRecDepth 20000 in
theorem gX3_isSome_X3_sitesOf : GoodIn wsX3_isSome (wsV RX3 70 RX3 yX3_sitesOf wsX3_sitesOf) := goodIn_app (goodIn_of _ (by decide +kernel)) ggX3_isSome_X3_sitesOf
theorem dX3_isSome_0 : decode cX3_isSome 0 = .ok (.aload_n 0, 1) := by decide +kernel
theorem dX3_isSome_1 : decode cX3_isSome 1 = .ok (.invokevirtual 67, 3) := by decide +kernel
theorem dX3_isSome_4 : decode cX3_isSome 4 = .ok (.aload_n 0, 1) := by decide +kernel
theorem dX3_isSome_5 : decode cX3_isSome 5 = .ok (.iload_n 1, 1) := by decide +kernel
theorem dX3_isSome_6 : decode cX3_isSome 6 = .ok (.invokevirtual 70, 3) := by decide +kernel
theorem dX3_isSome_9 : decode cX3_isSome 9 = .ok (.istore_n 3, 1) := by decide +kernel
theorem dX3_isSome_10 : decode cX3_isSome 10 = .ok (.iload_n 2, 1) := by decide +kernel
theorem dX3_isSome_11 : decode cX3_isSome 11 = .ok (.ifCond .eq 20, 3) := by decide +kernel
theorem dX3_isSome_14 : decode cX3_isSome 14 = .ok (.iload_n 2, 1) := by decide +kernel
theorem dX3_isSome_15 : decode cX3_isSome 15 = .ok (.iload_n 3, 1) := by decide +kernel
theorem dX3_isSome_16 : decode cX3_isSome 16 = .ok (.iconst (-1), 1) := by decide +kernel
theorem dX3_isSome_17 : decode cX3_isSome 17 = .ok (.ixor, 1) := by decide +kernel
theorem dX3_isSome_18 : decode cX3_isSome 18 = .ok (.iand, 1) := by decide +kernel
theorem dX3_isSome_19 : decode cX3_isSome 19 = .ok (.ifCond .ne 12, 3) := by decide +kernel
theorem dX3_isSome_22 : decode cX3_isSome 22 = .ok (.iload_n 2, 1) := by decide +kernel
theorem dX3_isSome_23 : decode cX3_isSome 23 = .ok (.iload_n 3, 1) := by decide +kernel
theorem dX3_isSome_24 : decode cX3_isSome 24 = .ok (.if_icmp .eq 7, 3) := by decide +kernel
theorem dX3_isSome_27 : decode cX3_isSome 27 = .ok (.iconst 1, 1) := by decide +kernel
theorem dX3_isSome_28 : decode cX3_isSome 28 = .ok (.goto 4, 3) := by decide +kernel
theorem dX3_isSome_31 : decode cX3_isSome 31 = .ok (.iconst 0, 1) := by decide +kernel
theorem dX3_isSome_32 : decode cX3_isSome 32 = .ok (.ireturn, 1) := by decide +kernel
set_option maxRecDepth 20000 in
theorem ggX3_split_X3_isParish : GoodIn wsX3_split wsX3_isParish := goodIn_r _ [7, 2, 8, 9, 6, 10, 45, 46, 47, 48, 49, 50, 51, 52, 53, 54, 55, 56, 57, 58, 59, 60] (by decide +kernel) (by decide +kernel)
