theorem dX0_init_0 : decode cX0_init 0 = .ok (.aload_n 0, 1) := by decide +kernel
theorem dX0_init_1 : decode cX0_init 1 = .ok (.invokespecial 3, 3) := by decide +kernel
theorem dX0_init_4 : decode cX0_init 4 = .ok (.aload_n 0, 1) := by decide +kernel
theorem dX0_init_5 : decode cX0_init 5 = .ok (.bipush 30, 2) := by decide +kernel
theorem dX0_init_7 : decode cX0_init 7 = .ok (.newarray .int, 2) := by decide +kernel
theorem dX0_init_9 : decode cX0_init 9 = .ok (.putfield 9, 3) := by decide +kernel
theorem dX0_init_12 : decode cX0_init 12 = .ok (.aload_n 0, 1) := by decide +kernel
theorem dX0_init_13 : decode cX0_init 13 = .ok (.bipush 30, 2) := by decide +kernel
theorem dX0_init_15 : decode cX0_init 15 = .ok (.newarray .int, 2) := by decide +kernel
theorem dX0_init_17 : decode cX0_init 17 = .ok (.putfield 15, 3) := by decide +kernel
theorem dX0_init_20 : decode cX0_init 20 = .ok (.aload_n 0, 1) := by decide +kernel
theorem dX0_init_21 : decode cX0_init 21 = .ok (.bipush 30, 2) := by decide +kernel
theorem dX0_init_23 : decode cX0_init 23 = .ok (.newarray .int, 2) := by decide +kernel
theorem dX0_init_25 : decode cX0_init 25 = .ok (.putfield 18, 3) := by decide +kernel
theorem dX0_init_28 : decode cX0_init 28 = .ok (.aload_n 0, 1) := by decide +kernel
theorem dX0_init_29 : decode cX0_init 29 = .ok (.bipush 30, 2) := by decide +kernel
theorem dX0_init_31 : decode cX0_init 31 = .ok (.newarray .int, 2) := by decide +kernel
theorem dX0_init_33 : decode cX0_init 33 = .ok (.putfield 21, 3) := by decide +kernel
theorem dX0_init_36 : decode cX0_init 36 = .ok (.aload_n 0, 1) := by decide +kernel
theorem dX0_init_37 : decode cX0_init 37 = .ok (.bipush 30, 2) := by decide +kernel
theorem dX0_init_39 : decode cX0_init 39 = .ok (.newarray .int, 2) := by decide +kernel
theorem dX0_init_41 : decode cX0_init 41 = .ok (.putfield 24, 3) := by decide +kernel
theorem dX0_init_44 : decode cX0_init 44 = .ok (.aload_n 0, 1) := by decide +kernel
theorem dX0_init_45 : decode cX0_init 45 = .ok (.bipush 30, 2) := by decide +kernel
theorem dX0_init_47 : decode cX0_init 47 = .ok (.newarray .long, 2) := by decide +kernel
theorem dX0_init_49 : decode cX0_init 49 = .ok (.putfield 27, 3) := by decide +kernel
theorem dX0_init_52 : decode cX0_init 52 = .ok (.aload_n 0, 1) := by decide +kernel
theorem dX0_init_53 : decode cX0_init 53 = .ok (.iconst 0, 1) := by decide +kernel
theorem dX0_init_54 : decode cX0_init 54 = .ok (.putfield 31, 3) := by decide +kernel
theorem dX0_init_57 : decode cX0_init 57 = .ok (.aload_n 0, 1) := by decide +kernel
theorem dX0_init_58 : decode cX0_init 58 = .ok (.iconst 1, 1) := by decide +kernel
theorem dX0_init_59 : decode cX0_init 59 = .ok (.putfield 35, 3) := by decide +kernel
theorem dX0_init_62 : decode cX0_init 62 = .ok (.return_, 1) := by decide +kernel
theorem dX0_eventCount_0 : decode cX0_eventCount 0 = .ok (.aload_n 0, 1) := by decide +kernel
theorem dX0_eventCount_1 : decode cX0_eventCount 1 = .ok (.getfield 31, 3) := by decide +kernel
theorem dX0_eventCount_4 : decode cX0_eventCount 4 = .ok (.ireturn, 1) := by decide +kernel
theorem dX0_lastEvent_0 : decode cX0_lastEvent 0 = .ok (.aload_n 0, 1) := by decide +kernel
theorem dX0_lastEvent_1 : decode cX0_lastEvent 1 = .ok (.getfield 31, 3) := by decide +kernel
theorem dX0_lastEvent_4 : decode cX0_lastEvent 4 = .ok (.iconst 1, 1) := by decide +kernel
theorem dX0_lastEvent_5 : decode cX0_lastEvent 5 = .ok (.isub, 1) := by decide +kernel
theorem dX0_lastEvent_6 : decode cX0_lastEvent 6 = .ok (.ireturn, 1) := by decide +kernel
theorem dX0_parishCount_0 : decode cX0_parishCount 0 = .ok (.aload_n 0, 1) := by decide +kernel
theorem dX0_parishCount_1 : decode cX0_parishCount 1 = .ok (.getfield 35, 3) := by decide +kernel
theorem dX0_parishCount_4 : decode cX0_parishCount 4 = .ok (.ireturn, 1) := by decide +kernel
theorem dX0_isFull_0 : decode cX0_isFull 0 = .ok (.aload_n 0, 1) := by decide +kernel
theorem dX0_isFull_1 : decode cX0_isFull 1 = .ok (.getfield 31, 3) := by decide +kernel
theorem dX0_isFull_4 : decode cX0_isFull 4 = .ok (.bipush 30, 2) := by decide +kernel
theorem dX0_isFull_6 : decode cX0_isFull 6 = .ok (.if_icmp .lt 7, 3) := by decide +kernel
theorem dX0_isFull_9 : decode cX0_isFull 9 = .ok (.iconst 1, 1) := by decide +kernel
theorem dX0_isFull_10 : decode cX0_isFull 10 = .ok (.goto 4, 3) := by decide +kernel
theorem dX0_isFull_13 : decode cX0_isFull 13 = .ok (.iconst 0, 1) := by decide +kernel
theorem dX0_isFull_14 : decode cX0_isFull 14 = .ok (.ireturn, 1) := by decide +kernel
theorem dX0_knows_0 : decode cX0_knows 0 = .ok (.iload_n 1, 1) := by decide +kernel
theorem dX0_knows_1 : decode cX0_knows 1 = .ok (.ifCond .lt 15, 3) := by decide +kernel
theorem dX0_knows_4 : decode cX0_knows 4 = .ok (.iload_n 1, 1) := by decide +kernel
theorem dX0_knows_5 : decode cX0_knows 5 = .ok (.aload_n 0, 1) := by decide +kernel
theorem dX0_knows_6 : decode cX0_knows 6 = .ok (.getfield 35, 3) := by decide +kernel
theorem dX0_knows_9 : decode cX0_knows 9 = .ok (.if_icmp .ge 7, 3) := by decide +kernel
theorem dX0_knows_12 : decode cX0_knows 12 = .ok (.iconst 1, 1) := by decide +kernel
theorem dX0_knows_13 : decode cX0_knows 13 = .ok (.goto 4, 3) := by decide +kernel
theorem dX0_knows_16 : decode cX0_knows 16 = .ok (.iconst 0, 1) := by decide +kernel
theorem dX0_knows_17 : decode cX0_knows 17 = .ok (.ireturn, 1) := by decide +kernel
theorem dX0_yearOfLast_0 : decode cX0_yearOfLast 0 = .ok (.aload_n 0, 1) := by decide +kernel
theorem dX0_yearOfLast_1 : decode cX0_yearOfLast 1 = .ok (.getfield 31, 3) := by decide +kernel
theorem dX0_yearOfLast_4 : decode cX0_yearOfLast 4 = .ok (.ifCond .ne 7, 3) := by decide +kernel
theorem dX0_yearOfLast_7 : decode cX0_yearOfLast 7 = .ok (.iconst 0, 1) := by decide +kernel
theorem dX0_yearOfLast_8 : decode cX0_yearOfLast 8 = .ok (.goto 14, 3) := by decide +kernel
theorem dX0_yearOfLast_11 : decode cX0_yearOfLast 11 = .ok (.aload_n 0, 1) := by decide +kernel
theorem dX0_yearOfLast_12 : decode cX0_yearOfLast 12 = .ok (.getfield 15, 3) := by decide +kernel
theorem dX0_yearOfLast_15 : decode cX0_yearOfLast 15 = .ok (.aload_n 0, 1) := by decide +kernel
theorem dX0_yearOfLast_16 : decode cX0_yearOfLast 16 = .ok (.getfield 31, 3) := by decide +kernel
theorem dX0_yearOfLast_19 : decode cX0_yearOfLast 19 = .ok (.iconst 1, 1) := by decide +kernel
theorem dX0_yearOfLast_20 : decode cX0_yearOfLast 20 = .ok (.isub, 1) := by decide +kernel
theorem dX0_yearOfLast_21 : decode cX0_yearOfLast 21 = .ok (.iaload, 1) := by decide +kernel
theorem dX0_yearOfLast_22 : decode cX0_yearOfLast 22 = .ok (.ireturn, 1) := by decide +kernel
set_option maxRecDepth 20000 in
theorem ggX0_tell_X0_isFull : GoodIn wsX0_tell wsX0_isFull := goodIn_r _ [13, 2, 14, 15, 16, 17, 18, 19, 20, 21] (by decide +kernel) (by decide +kernel)
set_option maxRecDepth 20000 in
theorem gX0_tell_X0_isFull : GoodIn wsX0_tell (wsV RX0 38 RX0 yX0_isFull wsX0_isFull) := goodIn_app (goodIn_of _ (by decide +kernel)) ggX0_tell_X0_isFull
theorem dX0_tell_0 : decode cX0_tell 0 = .ok (.aload_n 0, 1) := by decide +kernel
theorem dX0_tell_1 : decode cX0_tell 1 = .ok (.invokevirtual 38, 3) := by decide +kernel
theorem dX0_tell_4 : decode cX0_tell 4 = .ok (.ifCond .eq 4, 3) := by decide +kernel
theorem dX0_tell_7 : decode cX0_tell 7 = .ok (.return_, 1) := by decide +kernel
theorem dX0_tell_8 : decode cX0_tell 8 = .ok (.aload_n 0, 1) := by decide +kernel
theorem dX0_tell_9 : decode cX0_tell 9 = .ok (.getfield 9, 3) := by decide +kernel
theorem dX0_tell_12 : decode cX0_tell 12 = .ok (.aload_n 0, 1) := by decide +kernel
theorem dX0_tell_13 : decode cX0_tell 13 = .ok (.getfield 31, 3) := by decide +kernel
theorem dX0_tell_16 : decode cX0_tell 16 = .ok (.iload_n 1, 1) := by decide +kernel
theorem dX0_tell_17 : decode cX0_tell 17 = .ok (.iastore, 1) := by decide +kernel
theorem dX0_tell_18 : decode cX0_tell 18 = .ok (.aload_n 0, 1) := by decide +kernel
theorem dX0_tell_19 : decode cX0_tell 19 = .ok (.getfield 15, 3) := by decide +kernel
theorem dX0_tell_22 : decode cX0_tell 22 = .ok (.aload_n 0, 1) := by decide +kernel
theorem dX0_tell_23 : decode cX0_tell 23 = .ok (.getfield 31, 3) := by decide +kernel
theorem dX0_tell_26 : decode cX0_tell 26 = .ok (.iload_n 2, 1) := by decide +kernel
theorem dX0_tell_27 : decode cX0_tell 27 = .ok (.iastore, 1) := by decide +kernel
theorem dX0_tell_28 : decode cX0_tell 28 = .ok (.aload_n 0, 1) := by decide +kernel
theorem dX0_tell_29 : decode cX0_tell 29 = .ok (.getfield 18, 3) := by decide +kernel
theorem dX0_tell_32 : decode cX0_tell 32 = .ok (.aload_n 0, 1) := by decide +kernel
theorem dX0_tell_33 : decode cX0_tell 33 = .ok (.getfield 31, 3) := by decide +kernel
theorem dX0_tell_36 : decode cX0_tell 36 = .ok (.iload_n 3, 1) := by decide +kernel
theorem dX0_tell_37 : decode cX0_tell 37 = .ok (.iastore, 1) := by decide +kernel
theorem dX0_tell_38 : decode cX0_tell 38 = .ok (.aload_n 0, 1) := by decide +kernel
theorem dX0_tell_39 : decode cX0_tell 39 = .ok (.getfield 21, 3) := by decide +kernel
theorem dX0_tell_42 : decode cX0_tell 42 = .ok (.aload_n 0, 1) := by decide +kernel
theorem dX0_tell_43 : decode cX0_tell 43 = .ok (.getfield 31, 3) := by decide +kernel
theorem dX0_tell_46 : decode cX0_tell 46 = .ok (.iload 4, 2) := by decide +kernel
theorem dX0_tell_48 : decode cX0_tell 48 = .ok (.iastore, 1) := by decide +kernel
theorem dX0_tell_49 : decode cX0_tell 49 = .ok (.aload_n 0, 1) := by decide +kernel
theorem dX0_tell_50 : decode cX0_tell 50 = .ok (.getfield 24, 3) := by decide +kernel
theorem dX0_tell_53 : decode cX0_tell 53 = .ok (.aload_n 0, 1) := by decide +kernel
theorem dX0_tell_54 : decode cX0_tell 54 = .ok (.getfield 31, 3) := by decide +kernel
theorem dX0_tell_57 : decode cX0_tell 57 = .ok (.iload 5, 2) := by decide +kernel
theorem dX0_tell_59 : decode cX0_tell 59 = .ok (.iastore, 1) := by decide +kernel
theorem dX0_tell_60 : decode cX0_tell 60 = .ok (.aload_n 0, 1) := by decide +kernel
theorem dX0_tell_61 : decode cX0_tell 61 = .ok (.getfield 27, 3) := by decide +kernel
theorem dX0_tell_64 : decode cX0_tell 64 = .ok (.aload_n 0, 1) := by decide +kernel
theorem dX0_tell_65 : decode cX0_tell 65 = .ok (.getfield 31, 3) := by decide +kernel
theorem dX0_tell_68 : decode cX0_tell 68 = .ok (.lload 6, 2) := by decide +kernel
theorem dX0_tell_70 : decode cX0_tell 70 = .ok (.lastore, 1) := by decide +kernel
theorem dX0_tell_71 : decode cX0_tell 71 = .ok (.aload_n 0, 1) := by decide +kernel
theorem dX0_tell_72 : decode cX0_tell 72 = .ok (.dup, 1) := by decide +kernel
theorem dX0_tell_73 : decode cX0_tell 73 = .ok (.getfield 31, 3) := by decide +kernel
theorem dX0_tell_76 : decode cX0_tell 76 = .ok (.iconst 1, 1) := by decide +kernel
theorem dX0_tell_77 : decode cX0_tell 77 = .ok (.iadd, 1) := by decide +kernel
theorem dX0_tell_78 : decode cX0_tell 78 = .ok (.putfield 31, 3) := by decide +kernel
theorem dX0_tell_81 : decode cX0_tell 81 = .ok (.iload_n 1, 1) := by decide +kernel
theorem dX0_tell_82 : decode cX0_tell 82 = .ok (.iconst 1, 1) := by decide +kernel
theorem dX0_tell_83 : decode cX0_tell 83 = .ok (.if_icmp .ne 13, 3) := by decide +kernel
theorem dX0_tell_86 : decode cX0_tell 86 = .ok (.aload_n 0, 1) := by decide +kernel
theorem dX0_tell_87 : decode cX0_tell 87 = .ok (.dup, 1) := by decide +kernel
theorem dX0_tell_88 : decode cX0_tell 88 = .ok (.getfield 35, 3) := by decide +kernel
theorem dX0_tell_91 : decode cX0_tell 91 = .ok (.iconst 1, 1) := by decide +kernel
theorem dX0_tell_92 : decode cX0_tell 92 = .ok (.iadd, 1) := by decide +kernel
theorem dX0_tell_93 : decode cX0_tell 93 = .ok (.putfield 35, 3) := by decide +kernel
theorem dX0_tell_96 : decode cX0_tell 96 = .ok (.return_, 1) := by decide +kernel
theorem dX0_forgetLast_0 : decode cX0_forgetLast 0 = .ok (.aload_n 0, 1) := by decide +kernel
theorem dX0_forgetLast_1 : decode cX0_forgetLast 1 = .ok (.getfield 31, 3) := by decide +kernel
theorem dX0_forgetLast_4 : decode cX0_forgetLast 4 = .ok (.ifCond .ne 4, 3) := by decide +kernel
theorem dX0_forgetLast_7 : decode cX0_forgetLast 7 = .ok (.return_, 1) := by decide +kernel
theorem dX0_forgetLast_8 : decode cX0_forgetLast 8 = .ok (.aload_n 0, 1) := by decide +kernel
theorem dX0_forgetLast_9 : decode cX0_forgetLast 9 = .ok (.dup, 1) := by decide +kernel
theorem dX0_forgetLast_10 : decode cX0_forgetLast 10 = .ok (.getfield 31, 3) := by decide +kernel
theorem dX0_forgetLast_13 : decode cX0_forgetLast 13 = .ok (.iconst 1, 1) := by decide +kernel
theorem dX0_forgetLast_14 : decode cX0_forgetLast 14 = .ok (.isub, 1) := by decide +kernel
theorem dX0_forgetLast_15 : decode cX0_forgetLast 15 = .ok (.putfield 31, 3) := by decide +kernel
theorem dX0_forgetLast_18 : decode cX0_forgetLast 18 = .ok (.aload_n 0, 1) := by decide +kernel
theorem dX0_forgetLast_19 : decode cX0_forgetLast 19 = .ok (.getfield 9, 3) := by decide +kernel
theorem dX0_forgetLast_22 : decode cX0_forgetLast 22 = .ok (.aload_n 0, 1) := by decide +kernel
theorem dX0_forgetLast_23 : decode cX0_forgetLast 23 = .ok (.getfield 31, 3) := by decide +kernel
theorem dX0_forgetLast_26 : decode cX0_forgetLast 26 = .ok (.iaload, 1) := by decide +kernel
theorem dX0_forgetLast_27 : decode cX0_forgetLast 27 = .ok (.iconst 1, 1) := by decide +kernel
theorem dX0_forgetLast_28 : decode cX0_forgetLast 28 = .ok (.if_icmp .ne 13, 3) := by decide +kernel
theorem dX0_forgetLast_31 : decode cX0_forgetLast 31 = .ok (.aload_n 0, 1) := by decide +kernel
theorem dX0_forgetLast_32 : decode cX0_forgetLast 32 = .ok (.dup, 1) := by decide +kernel
theorem dX0_forgetLast_33 : decode cX0_forgetLast 33 = .ok (.getfield 35, 3) := by decide +kernel
theorem dX0_forgetLast_36 : decode cX0_forgetLast 36 = .ok (.iconst 1, 1) := by decide +kernel
theorem dX0_forgetLast_37 : decode cX0_forgetLast 37 = .ok (.isub, 1) := by decide +kernel
theorem dX0_forgetLast_38 : decode cX0_forgetLast 38 = .ok (.putfield 35, 3) := by decide +kernel
theorem dX0_forgetLast_41 : decode cX0_forgetLast 41 = .ok (.return_, 1) := by decide +kernel
theorem dX0_becomeLike_0 : decode cX0_becomeLike 0 = .ok (.aload_n 1, 1) := by decide +kernel
theorem dX0_becomeLike_1 : decode cX0_becomeLike 1 = .ok (.getfield 9, 3) := by decide +kernel
theorem dX0_becomeLike_4 : decode cX0_becomeLike 4 = .ok (.iconst 0, 1) := by decide +kernel
theorem dX0_becomeLike_5 : decode cX0_becomeLike 5 = .ok (.aload_n 0, 1) := by decide +kernel
theorem dX0_becomeLike_6 : decode cX0_becomeLike 6 = .ok (.getfield 9, 3) := by decide +kernel
theorem dX0_becomeLike_9 : decode cX0_becomeLike 9 = .ok (.iconst 0, 1) := by decide +kernel
theorem dX0_becomeLike_10 : decode cX0_becomeLike 10 = .ok (.bipush 30, 2) := by decide +kernel
theorem dX0_becomeLike_12 : decode cX0_becomeLike 12 = .ok (.invokestatic 42, 3) := by decide +kernel
theorem dX0_becomeLike_15 : decode cX0_becomeLike 15 = .ok (.aload_n 1, 1) := by decide +kernel
theorem dX0_becomeLike_16 : decode cX0_becomeLike 16 = .ok (.getfield 15, 3) := by decide +kernel
theorem dX0_becomeLike_19 : decode cX0_becomeLike 19 = .ok (.iconst 0, 1) := by decide +kernel
theorem dX0_becomeLike_20 : decode cX0_becomeLike 20 = .ok (.aload_n 0, 1) := by decide +kernel
theorem dX0_becomeLike_21 : decode cX0_becomeLike 21 = .ok (.getfield 15, 3) := by decide +kernel
theorem dX0_becomeLike_24 : decode cX0_becomeLike 24 = .ok (.iconst 0, 1) := by decide +kernel
theorem dX0_becomeLike_25 : decode cX0_becomeLike 25 = .ok (.bipush 30, 2) := by decide +kernel
theorem dX0_becomeLike_27 : decode cX0_becomeLike 27 = .ok (.invokestatic 42, 3) := by decide +kernel
theorem dX0_becomeLike_30 : decode cX0_becomeLike 30 = .ok (.aload_n 1, 1) := by decide +kernel
theorem dX0_becomeLike_31 : decode cX0_becomeLike 31 = .ok (.getfield 18, 3) := by decide +kernel
theorem dX0_becomeLike_34 : decode cX0_becomeLike 34 = .ok (.iconst 0, 1) := by decide +kernel
theorem dX0_becomeLike_35 : decode cX0_becomeLike 35 = .ok (.aload_n 0, 1) := by decide +kernel
theorem dX0_becomeLike_36 : decode cX0_becomeLike 36 = .ok (.getfield 18, 3) := by decide +kernel
theorem dX0_becomeLike_39 : decode cX0_becomeLike 39 = .ok (.iconst 0, 1) := by decide +kernel
theorem dX0_becomeLike_40 : decode cX0_becomeLike 40 = .ok (.bipush 30, 2) := by decide +kernel
theorem dX0_becomeLike_42 : decode cX0_becomeLike 42 = .ok (.invokestatic 42, 3) := by decide +kernel
theorem dX0_becomeLike_45 : decode cX0_becomeLike 45 = .ok (.aload_n 1, 1) := by decide +kernel
theorem dX0_becomeLike_46 : decode cX0_becomeLike 46 = .ok (.getfield 21, 3) := by decide +kernel
theorem dX0_becomeLike_49 : decode cX0_becomeLike 49 = .ok (.iconst 0, 1) := by decide +kernel
theorem dX0_becomeLike_50 : decode cX0_becomeLike 50 = .ok (.aload_n 0, 1) := by decide +kernel
theorem dX0_becomeLike_51 : decode cX0_becomeLike 51 = .ok (.getfield 21, 3) := by decide +kernel
theorem dX0_becomeLike_54 : decode cX0_becomeLike 54 = .ok (.iconst 0, 1) := by decide +kernel
theorem dX0_becomeLike_55 : decode cX0_becomeLike 55 = .ok (.bipush 30, 2) := by decide +kernel
theorem dX0_becomeLike_57 : decode cX0_becomeLike 57 = .ok (.invokestatic 42, 3) := by decide +kernel
theorem dX0_becomeLike_60 : decode cX0_becomeLike 60 = .ok (.aload_n 1, 1) := by decide +kernel
theorem dX0_becomeLike_61 : decode cX0_becomeLike 61 = .ok (.getfield 24, 3) := by decide +kernel
theorem dX0_becomeLike_64 : decode cX0_becomeLike 64 = .ok (.iconst 0, 1) := by decide +kernel
theorem dX0_becomeLike_65 : decode cX0_becomeLike 65 = .ok (.aload_n 0, 1) := by decide +kernel
theorem dX0_becomeLike_66 : decode cX0_becomeLike 66 = .ok (.getfield 24, 3) := by decide +kernel
theorem dX0_becomeLike_69 : decode cX0_becomeLike 69 = .ok (.iconst 0, 1) := by decide +kernel
theorem dX0_becomeLike_70 : decode cX0_becomeLike 70 = .ok (.bipush 30, 2) := by decide +kernel
theorem dX0_becomeLike_72 : decode cX0_becomeLike 72 = .ok (.invokestatic 42, 3) := by decide +kernel
theorem dX0_becomeLike_75 : decode cX0_becomeLike 75 = .ok (.aload_n 1, 1) := by decide +kernel
theorem dX0_becomeLike_76 : decode cX0_becomeLike 76 = .ok (.getfield 27, 3) := by decide +kernel
theorem dX0_becomeLike_79 : decode cX0_becomeLike 79 = .ok (.iconst 0, 1) := by decide +kernel
theorem dX0_becomeLike_80 : decode cX0_becomeLike 80 = .ok (.aload_n 0, 1) := by decide +kernel
theorem dX0_becomeLike_81 : decode cX0_becomeLike 81 = .ok (.getfield 27, 3) := by decide +kernel
theorem dX0_becomeLike_84 : decode cX0_becomeLike 84 = .ok (.iconst 0, 1) := by decide +kernel
theorem dX0_becomeLike_85 : decode cX0_becomeLike 85 = .ok (.bipush 30, 2) := by decide +kernel
theorem dX0_becomeLike_87 : decode cX0_becomeLike 87 = .ok (.invokestatic 42, 3) := by decide +kernel
theorem dX0_becomeLike_90 : decode cX0_becomeLike 90 = .ok (.aload_n 0, 1) := by decide +kernel
theorem dX0_becomeLike_91 : decode cX0_becomeLike 91 = .ok (.aload_n 1, 1) := by decide +kernel
theorem dX0_becomeLike_92 : decode cX0_becomeLike 92 = .ok (.getfield 31, 3) := by decide +kernel
theorem dX0_becomeLike_95 : decode cX0_becomeLike 95 = .ok (.putfield 31, 3) := by decide +kernel
theorem dX0_becomeLike_98 : decode cX0_becomeLike 98 = .ok (.aload_n 0, 1) := by decide +kernel
theorem dX0_becomeLike_99 : decode cX0_becomeLike 99 = .ok (.aload_n 1, 1) := by decide +kernel
theorem dX0_becomeLike_100 : decode cX0_becomeLike 100 = .ok (.getfield 35, 3) := by decide +kernel
theorem dX0_becomeLike_103 : decode cX0_becomeLike 103 = .ok (.putfield 35, 3) := by decide +kernel
theorem dX0_becomeLike_106 : decode cX0_becomeLike 106 = .ok (.return_, 1) := by decide +kernel
theorem dX0_factOf_0 : decode cX0_factOf 0 = .ok (.iload_n 1, 1) := by decide +kernel
theorem dX0_factOf_1 : decode cX0_factOf 1 = .ok (.ifCond .lt 11, 3) := by decide +kernel
theorem dX0_factOf_4 : decode cX0_factOf 4 = .ok (.iload_n 1, 1) := by decide +kernel
theorem dX0_factOf_5 : decode cX0_factOf 5 = .ok (.aload_n 0, 1) := by decide +kernel
theorem dX0_factOf_6 : decode cX0_factOf 6 = .ok (.getfield 31, 3) := by decide +kernel
theorem dX0_factOf_9 : decode cX0_factOf 9 = .ok (.if_icmp .lt 6, 3) := by decide +kernel
theorem dX0_factOf_12 : decode cX0_factOf 12 = .ok (.bipush (-6), 2) := by decide +kernel
theorem dX0_factOf_14 : decode cX0_factOf 14 = .ok (.ireturn, 1) := by decide +kernel
theorem dX0_factOf_15 : decode cX0_factOf 15 = .ok (.iload_n 2, 1) := by decide +kernel
theorem dX0_factOf_16 : decode cX0_factOf 16 = .ok (.tableswitch 74 0 3 #[32, 39, 46, 53], 32) := by decide +kernel
theorem dX0_factOf_48 : decode cX0_factOf 48 = .ok (.aload_n 0, 1) := by decide +kernel
theorem dX0_factOf_49 : decode cX0_factOf 49 = .ok (.getfield 9, 3) := by decide +kernel
theorem dX0_factOf_52 : decode cX0_factOf 52 = .ok (.iload_n 1, 1) := by decide +kernel
theorem dX0_factOf_53 : decode cX0_factOf 53 = .ok (.iaload, 1) := by decide +kernel
theorem dX0_factOf_54 : decode cX0_factOf 54 = .ok (.ireturn, 1) := by decide +kernel
theorem dX0_factOf_55 : decode cX0_factOf 55 = .ok (.aload_n 0, 1) := by decide +kernel
theorem dX0_factOf_56 : decode cX0_factOf 56 = .ok (.getfield 15, 3) := by decide +kernel
theorem dX0_factOf_59 : decode cX0_factOf 59 = .ok (.iload_n 1, 1) := by decide +kernel
theorem dX0_factOf_60 : decode cX0_factOf 60 = .ok (.iaload, 1) := by decide +kernel
theorem dX0_factOf_61 : decode cX0_factOf 61 = .ok (.ireturn, 1) := by decide +kernel
theorem dX0_factOf_62 : decode cX0_factOf 62 = .ok (.aload_n 0, 1) := by decide +kernel
theorem dX0_factOf_63 : decode cX0_factOf 63 = .ok (.getfield 18, 3) := by decide +kernel
theorem dX0_factOf_66 : decode cX0_factOf 66 = .ok (.iload_n 1, 1) := by decide +kernel
theorem dX0_factOf_67 : decode cX0_factOf 67 = .ok (.iaload, 1) := by decide +kernel
theorem dX0_factOf_68 : decode cX0_factOf 68 = .ok (.ireturn, 1) := by decide +kernel
theorem dX0_factOf_69 : decode cX0_factOf 69 = .ok (.aload_n 0, 1) := by decide +kernel
theorem dX0_factOf_70 : decode cX0_factOf 70 = .ok (.getfield 9, 3) := by decide +kernel
theorem dX0_factOf_73 : decode cX0_factOf 73 = .ok (.iload_n 1, 1) := by decide +kernel
theorem dX0_factOf_74 : decode cX0_factOf 74 = .ok (.iaload, 1) := by decide +kernel
theorem dX0_factOf_75 : decode cX0_factOf 75 = .ok (.ifCond .ne 8, 3) := by decide +kernel
theorem dX0_factOf_78 : decode cX0_factOf 78 = .ok (.bipush (-6), 2) := by decide +kernel
theorem dX0_factOf_80 : decode cX0_factOf 80 = .ok (.goto 9, 3) := by decide +kernel
theorem dX0_factOf_83 : decode cX0_factOf 83 = .ok (.aload_n 0, 1) := by decide +kernel
theorem dX0_factOf_84 : decode cX0_factOf 84 = .ok (.getfield 21, 3) := by decide +kernel
theorem dX0_factOf_87 : decode cX0_factOf 87 = .ok (.iload_n 1, 1) := by decide +kernel
theorem dX0_factOf_88 : decode cX0_factOf 88 = .ok (.iaload, 1) := by decide +kernel
theorem dX0_factOf_89 : decode cX0_factOf 89 = .ok (.ireturn, 1) := by decide +kernel
theorem dX0_factOf_90 : decode cX0_factOf 90 = .ok (.aload_n 0, 1) := by decide +kernel
theorem dX0_factOf_91 : decode cX0_factOf 91 = .ok (.getfield 9, 3) := by decide +kernel
theorem dX0_factOf_94 : decode cX0_factOf 94 = .ok (.iload_n 1, 1) := by decide +kernel
theorem dX0_factOf_95 : decode cX0_factOf 95 = .ok (.iaload, 1) := by decide +kernel
theorem dX0_factOf_96 : decode cX0_factOf 96 = .ok (.ifCond .ne 8, 3) := by decide +kernel
theorem dX0_factOf_99 : decode cX0_factOf 99 = .ok (.bipush (-6), 2) := by decide +kernel
theorem dX0_factOf_101 : decode cX0_factOf 101 = .ok (.goto 9, 3) := by decide +kernel
theorem dX0_factOf_104 : decode cX0_factOf 104 = .ok (.aload_n 0, 1) := by decide +kernel
theorem dX0_factOf_105 : decode cX0_factOf 105 = .ok (.getfield 24, 3) := by decide +kernel
theorem dX0_factOf_108 : decode cX0_factOf 108 = .ok (.iload_n 1, 1) := by decide +kernel
theorem dX0_factOf_109 : decode cX0_factOf 109 = .ok (.iaload, 1) := by decide +kernel
theorem dX0_factOf_110 : decode cX0_factOf 110 = .ok (.ireturn, 1) := by decide +kernel
theorem dX0_firstYear_0 : decode cX0_firstYear 0 = .ok (.iload_n 1, 1) := by decide +kernel
theorem dX0_firstYear_1 : decode cX0_firstYear 1 = .ok (.ifCond .le 11, 3) := by decide +kernel
theorem dX0_firstYear_4 : decode cX0_firstYear 4 = .ok (.iload_n 1, 1) := by decide +kernel
theorem dX0_firstYear_5 : decode cX0_firstYear 5 = .ok (.aload_n 0, 1) := by decide +kernel
theorem dX0_firstYear_6 : decode cX0_firstYear 6 = .ok (.getfield 31, 3) := by decide +kernel
theorem dX0_firstYear_9 : decode cX0_firstYear 9 = .ok (.if_icmp .le 7, 3) := by decide +kernel
theorem dX0_firstYear_12 : decode cX0_firstYear 12 = .ok (.iconst 0, 1) := by decide +kernel
theorem dX0_firstYear_13 : decode cX0_firstYear 13 = .ok (.goto 11, 3) := by decide +kernel
theorem dX0_firstYear_16 : decode cX0_firstYear 16 = .ok (.aload_n 0, 1) := by decide +kernel
theorem dX0_firstYear_17 : decode cX0_firstYear 17 = .ok (.getfield 15, 3) := by decide +kernel
theorem dX0_firstYear_20 : decode cX0_firstYear 20 = .ok (.iload_n 1, 1) := by decide +kernel
theorem dX0_firstYear_21 : decode cX0_firstYear 21 = .ok (.iconst 1, 1) := by decide +kernel
theorem dX0_firstYear_22 : decode cX0_firstYear 22 = .ok (.isub, 1) := by decide +kernel
theorem dX0_firstYear_23 : decode cX0_firstYear 23 = .ok (.iaload, 1) := by decide +kernel
theorem dX0_firstYear_24 : decode cX0_firstYear 24 = .ok (.ireturn, 1) := by decide +kernel
theorem dX0_lastYear_0 : decode cX0_lastYear 0 = .ok (.iload_n 1, 1) := by decide +kernel
theorem dX0_lastYear_1 : decode cX0_lastYear 1 = .ok (.ifCond .lt 11, 3) := by decide +kernel
theorem dX0_lastYear_4 : decode cX0_lastYear 4 = .ok (.iload_n 1, 1) := by decide +kernel
theorem dX0_lastYear_5 : decode cX0_lastYear 5 = .ok (.aload_n 0, 1) := by decide +kernel
theorem dX0_lastYear_6 : decode cX0_lastYear 6 = .ok (.getfield 31, 3) := by decide +kernel
theorem dX0_lastYear_9 : decode cX0_lastYear 9 = .ok (.if_icmp .lt 9, 3) := by decide +kernel
theorem dX0_lastYear_12 : decode cX0_lastYear 12 = .ok (.sipush 999, 3) := by decide +kernel
theorem dX0_lastYear_15 : decode cX0_lastYear 15 = .ok (.goto 11, 3) := by decide +kernel
theorem dX0_lastYear_18 : decode cX0_lastYear 18 = .ok (.aload_n 0, 1) := by decide +kernel
theorem dX0_lastYear_19 : decode cX0_lastYear 19 = .ok (.getfield 15, 3) := by decide +kernel
theorem dX0_lastYear_22 : decode cX0_lastYear 22 = .ok (.iload_n 1, 1) := by decide +kernel
theorem dX0_lastYear_23 : decode cX0_lastYear 23 = .ok (.iaload, 1) := by decide +kernel
theorem dX0_lastYear_24 : decode cX0_lastYear 24 = .ok (.iconst 1, 1) := by decide +kernel
theorem dX0_lastYear_25 : decode cX0_lastYear 25 = .ok (.isub, 1) := by decide +kernel
theorem dX0_lastYear_26 : decode cX0_lastYear 26 = .ok (.ireturn, 1) := by decide +kernel
set_option maxRecDepth 20000 in
theorem ggX0_holdsInAYear_X0_firstYear : GoodIn wsX0_holdsInAYear wsX0_firstYear := goodIn_r _ [5, 6, 7, 12, 13, 14, 15, 16, 17, 18, 19] (by decide +kernel) (by decide +kernel)
set_option maxRecDepth 20000 in
theorem gX0_holdsInAYear_X0_firstYear : GoodIn wsX0_holdsInAYear (wsV RX0 48 RX0 yX0_firstYear wsX0_firstYear) := goodIn_app (goodIn_of _ (by decide +kernel)) ggX0_holdsInAYear_X0_firstYear
set_option maxRecDepth 20000 in
theorem ggX0_holdsInAYear_X0_lastYear : GoodIn wsX0_holdsInAYear wsX0_lastYear := goodIn_r _ [11, 6, 7, 12, 13, 14, 15, 16, 17, 18, 19] (by decide +kernel) (by decide +kernel)
set_option maxRecDepth 20000 in
theorem gX0_holdsInAYear_X0_lastYear : GoodIn wsX0_holdsInAYear (wsV RX0 52 RX0 yX0_lastYear wsX0_lastYear) := goodIn_app (goodIn_of _ (by decide +kernel)) ggX0_holdsInAYear_X0_lastYear
theorem dX0_holdsInAYear_0 : decode cX0_holdsInAYear 0 = .ok (.aload_n 0, 1) := by decide +kernel
theorem dX0_holdsInAYear_1 : decode cX0_holdsInAYear 1 = .ok (.iload_n 1, 1) := by decide +kernel
theorem dX0_holdsInAYear_2 : decode cX0_holdsInAYear 2 = .ok (.invokevirtual 48, 3) := by decide +kernel
theorem dX0_holdsInAYear_5 : decode cX0_holdsInAYear 5 = .ok (.aload_n 0, 1) := by decide +kernel
theorem dX0_holdsInAYear_6 : decode cX0_holdsInAYear 6 = .ok (.iload_n 1, 1) := by decide +kernel
theorem dX0_holdsInAYear_7 : decode cX0_holdsInAYear 7 = .ok (.invokevirtual 52, 3) := by decide +kernel
theorem dX0_holdsInAYear_10 : decode cX0_holdsInAYear 10 = .ok (.if_icmp .gt 7, 3) := by decide +kernel
theorem dX0_holdsInAYear_13 : decode cX0_holdsInAYear 13 = .ok (.iconst 1, 1) := by decide +kernel
theorem dX0_holdsInAYear_14 : decode cX0_holdsInAYear 14 = .ok (.goto 4, 3) := by decide +kernel
theorem dX0_holdsInAYear_17 : decode cX0_holdsInAYear 17 = .ok (.iconst 0, 1) := by decide +kernel
theorem dX0_holdsInAYear_18 : decode cX0_holdsInAYear 18 = .ok (.ireturn, 1) := by decide +kernel
theorem dX0_stageIn_0 : decode cX0_stageIn 0 = .ok (.iconst 0, 1) := by decide +kernel
theorem dX0_stageIn_1 : decode cX0_stageIn 1 = .ok (.istore_n 2, 1) := by decide +kernel
theorem dX0_stageIn_2 : decode cX0_stageIn 2 = .ok (.iload_n 2, 1) := by decide +kernel
theorem dX0_stageIn_3 : decode cX0_stageIn 3 = .ok (.aload_n 0, 1) := by decide +kernel
theorem dX0_stageIn_4 : decode cX0_stageIn 4 = .ok (.getfield 31, 3) := by decide +kernel
theorem dX0_stageIn_7 : decode cX0_stageIn 7 = .ok (.if_icmp .ge 19, 3) := by decide +kernel
theorem dX0_stageIn_10 : decode cX0_stageIn 10 = .ok (.aload_n 0, 1) := by decide +kernel
theorem dX0_stageIn_11 : decode cX0_stageIn 11 = .ok (.getfield 15, 3) := by decide +kernel
theorem dX0_stageIn_14 : decode cX0_stageIn 14 = .ok (.iload_n 2, 1) := by decide +kernel
theorem dX0_stageIn_15 : decode cX0_stageIn 15 = .ok (.iaload, 1) := by decide +kernel
theorem dX0_stageIn_16 : decode cX0_stageIn 16 = .ok (.iload_n 1, 1) := by decide +kernel
theorem dX0_stageIn_17 : decode cX0_stageIn 17 = .ok (.if_icmp .gt 9, 3) := by decide +kernel
theorem dX0_stageIn_20 : decode cX0_stageIn 20 = .ok (.iinc 2 1, 3) := by decide +kernel
theorem dX0_stageIn_23 : decode cX0_stageIn 23 = .ok (.goto (-21), 3) := by decide +kernel
theorem dX0_stageIn_26 : decode cX0_stageIn 26 = .ok (.iload_n 2, 1) := by decide +kernel
theorem dX0_stageIn_27 : decode cX0_stageIn 27 = .ok (.ireturn, 1) := by decide +kernel
theorem dX0_sitesAtFirst_0 : decode cX0_sitesAtFirst 0 = .ok (.iload_n 0, 1) := by decide +kernel
theorem dX0_sitesAtFirst_1 : decode cX0_sitesAtFirst 1 = .ok (.ifCond .ne 9, 3) := by decide +kernel
theorem dX0_sitesAtFirst_4 : decode cX0_sitesAtFirst 4 = .ok (.sipush 4095, 3) := by decide +kernel
theorem dX0_sitesAtFirst_7 : decode cX0_sitesAtFirst 7 = .ok (.goto 4, 3) := by decide +kernel
theorem dX0_sitesAtFirst_10 : decode cX0_sitesAtFirst 10 = .ok (.iconst 0, 1) := by decide +kernel
theorem dX0_sitesAtFirst_11 : decode cX0_sitesAtFirst 11 = .ok (.ireturn, 1) := by decide +kernel
set_option maxRecDepth 20000 in
theorem ggX0_nameAtFirst_X1_withLetter : GoodIn wsX0_nameAtFirst wsX1_withLetter := goodIn_r _ [4] (by decide +kernel) (by decide +kernel)
set_option maxRecDepth 20000 in
theorem gX0_nameAtFirst_X1_withLetter : GoodIn wsX0_nameAtFirst (va_wsS RX0 55 yX1_withLetter wsX1_withLetter) := goodIn_app (goodIn_of _ (by decide +kernel)) ggX0_nameAtFirst_X1_withLetter
theorem dX0_nameAtFirst_0 : decode cX0_nameAtFirst 0 = .ok (.iload_n 0, 1) := by decide +kernel
theorem dX0_nameAtFirst_1 : decode cX0_nameAtFirst 1 = .ok (.ifCond .ne 13, 3) := by decide +kernel
theorem dX0_nameAtFirst_4 : decode cX0_nameAtFirst 4 = .ok (.lconst 0, 1) := by decide +kernel
theorem dX0_nameAtFirst_5 : decode cX0_nameAtFirst 5 = .ok (.iconst 0, 1) := by decide +kernel
theorem dX0_nameAtFirst_6 : decode cX0_nameAtFirst 6 = .ok (.bipush 97, 2) := by decide +kernel
theorem dX0_nameAtFirst_8 : decode cX0_nameAtFirst 8 = .ok (.invokestatic 55, 3) := by decide +kernel
theorem dX0_nameAtFirst_11 : decode cX0_nameAtFirst 11 = .ok (.goto 4, 3) := by decide +kernel
theorem dX0_nameAtFirst_14 : decode cX0_nameAtFirst 14 = .ok (.lconst 0, 1) := by decide +kernel
theorem dX0_nameAtFirst_15 : decode cX0_nameAtFirst 15 = .ok (.lreturn, 1) := by decide +kernel
theorem dX0_sitesThrough_0 : decode cX0_sitesThrough 0 = .ok (.iload_n 1, 1) := by decide +kernel
theorem dX0_sitesThrough_1 : decode cX0_sitesThrough 1 = .ok (.ifCond .lt 11, 3) := by decide +kernel
theorem dX0_sitesThrough_4 : decode cX0_sitesThrough 4 = .ok (.iload_n 1, 1) := by decide +kernel
theorem dX0_sitesThrough_5 : decode cX0_sitesThrough 5 = .ok (.aload_n 0, 1) := by decide +kernel
theorem dX0_sitesThrough_6 : decode cX0_sitesThrough 6 = .ok (.getfield 31, 3) := by decide +kernel
theorem dX0_sitesThrough_9 : decode cX0_sitesThrough 9 = .ok (.if_icmp .lt 5, 3) := by decide +kernel
theorem dX0_sitesThrough_12 : decode cX0_sitesThrough 12 = .ok (.iload_n 3, 1) := by decide +kernel
theorem dX0_sitesThrough_13 : decode cX0_sitesThrough 13 = .ok (.ireturn, 1) := by decide +kernel
theorem dX0_sitesThrough_14 : decode cX0_sitesThrough 14 = .ok (.aload_n 0, 1) := by decide +kernel
theorem dX0_sitesThrough_15 : decode cX0_sitesThrough 15 = .ok (.getfield 18, 3) := by decide +kernel
theorem dX0_sitesThrough_18 : decode cX0_sitesThrough 18 = .ok (.iload_n 1, 1) := by decide +kernel
theorem dX0_sitesThrough_19 : decode cX0_sitesThrough 19 = .ok (.iaload, 1) := by decide +kernel
theorem dX0_sitesThrough_20 : decode cX0_sitesThrough 20 = .ok (.iload_n 2, 1) := by decide +kernel
theorem dX0_sitesThrough_21 : decode cX0_sitesThrough 21 = .ok (.if_icmp .ne 14, 3) := by decide +kernel
theorem dX0_sitesThrough_24 : decode cX0_sitesThrough 24 = .ok (.iload_n 3, 1) := by decide +kernel
theorem dX0_sitesThrough_25 : decode cX0_sitesThrough 25 = .ok (.aload_n 0, 1) := by decide +kernel
theorem dX0_sitesThrough_26 : decode cX0_sitesThrough 26 = .ok (.getfield 21, 3) := by decide +kernel
theorem dX0_sitesThrough_29 : decode cX0_sitesThrough 29 = .ok (.iload_n 1, 1) := by decide +kernel
theorem dX0_sitesThrough_30 : decode cX0_sitesThrough 30 = .ok (.iaload, 1) := by decide +kernel
theorem dX0_sitesThrough_31 : decode cX0_sitesThrough 31 = .ok (.iconst (-1), 1) := by decide +kernel
theorem dX0_sitesThrough_32 : decode cX0_sitesThrough 32 = .ok (.ixor, 1) := by decide +kernel
theorem dX0_sitesThrough_33 : decode cX0_sitesThrough 33 = .ok (.iand, 1) := by decide +kernel
theorem dX0_sitesThrough_34 : decode cX0_sitesThrough 34 = .ok (.ireturn, 1) := by decide +kernel
theorem dX0_sitesThrough_35 : decode cX0_sitesThrough 35 = .ok (.aload_n 0, 1) := by decide +kernel
theorem dX0_sitesThrough_36 : decode cX0_sitesThrough 36 = .ok (.getfield 24, 3) := by decide +kernel
theorem dX0_sitesThrough_39 : decode cX0_sitesThrough 39 = .ok (.iload_n 1, 1) := by decide +kernel
theorem dX0_sitesThrough_40 : decode cX0_sitesThrough 40 = .ok (.iaload, 1) := by decide +kernel
theorem dX0_sitesThrough_41 : decode cX0_sitesThrough 41 = .ok (.iload_n 2, 1) := by decide +kernel
theorem dX0_sitesThrough_42 : decode cX0_sitesThrough 42 = .ok (.if_icmp .ne 14, 3) := by decide +kernel
theorem dX0_sitesThrough_45 : decode cX0_sitesThrough 45 = .ok (.iload_n 3, 1) := by decide +kernel
theorem dX0_sitesThrough_46 : decode cX0_sitesThrough 46 = .ok (.aload_n 0, 1) := by decide +kernel
theorem dX0_sitesThrough_47 : decode cX0_sitesThrough 47 = .ok (.getfield 21, 3) := by decide +kernel
theorem dX0_sitesThrough_50 : decode cX0_sitesThrough 50 = .ok (.iload_n 1, 1) := by decide +kernel
theorem dX0_sitesThrough_51 : decode cX0_sitesThrough 51 = .ok (.iaload, 1) := by decide +kernel
theorem dX0_sitesThrough_52 : decode cX0_sitesThrough 52 = .ok (.ior, 1) := by decide +kernel
theorem dX0_sitesThrough_53 : decode cX0_sitesThrough 53 = .ok (.goto 4, 3) := by decide +kernel
theorem dX0_sitesThrough_56 : decode cX0_sitesThrough 56 = .ok (.iload_n 3, 1) := by decide +kernel
theorem dX0_sitesThrough_57 : decode cX0_sitesThrough 57 = .ok (.ireturn, 1) := by decide +kernel
theorem dX0_nameThrough_0 : decode cX0_nameThrough 0 = .ok (.iload_n 1, 1) := by decide +kernel
theorem dX0_nameThrough_1 : decode cX0_nameThrough 1 = .ok (.ifCond .lt 11, 3) := by decide +kernel
theorem dX0_nameThrough_4 : decode cX0_nameThrough 4 = .ok (.iload_n 1, 1) := by decide +kernel
theorem dX0_nameThrough_5 : decode cX0_nameThrough 5 = .ok (.aload_n 0, 1) := by decide +kernel
theorem dX0_nameThrough_6 : decode cX0_nameThrough 6 = .ok (.getfield 31, 3) := by decide +kernel
theorem dX0_nameThrough_9 : decode cX0_nameThrough 9 = .ok (.if_icmp .lt 5, 3) := by decide +kernel
theorem dX0_nameThrough_12 : decode cX0_nameThrough 12 = .ok (.lload_n 3, 1) := by decide +kernel
theorem dX0_nameThrough_13 : decode cX0_nameThrough 13 = .ok (.lreturn, 1) := by decide +kernel
theorem dX0_nameThrough_14 : decode cX0_nameThrough 14 = .ok (.aload_n 0, 1) := by decide +kernel
theorem dX0_nameThrough_15 : decode cX0_nameThrough 15 = .ok (.getfield 9, 3) := by decide +kernel
theorem dX0_nameThrough_18 : decode cX0_nameThrough 18 = .ok (.iload_n 1, 1) := by decide +kernel
theorem dX0_nameThrough_19 : decode cX0_nameThrough 19 = .ok (.iaload, 1) := by decide +kernel
theorem dX0_nameThrough_20 : decode cX0_nameThrough 20 = .ok (.ifCond .ne 20, 3) := by decide +kernel
theorem dX0_nameThrough_23 : decode cX0_nameThrough 23 = .ok (.aload_n 0, 1) := by decide +kernel
theorem dX0_nameThrough_24 : decode cX0_nameThrough 24 = .ok (.getfield 18, 3) := by decide +kernel
theorem dX0_nameThrough_27 : decode cX0_nameThrough 27 = .ok (.iload_n 1, 1) := by decide +kernel
theorem dX0_nameThrough_28 : decode cX0_nameThrough 28 = .ok (.iaload, 1) := by decide +kernel
theorem dX0_nameThrough_29 : decode cX0_nameThrough 29 = .ok (.iload_n 2, 1) := by decide +kernel
theorem dX0_nameThrough_30 : decode cX0_nameThrough 30 = .ok (.if_icmp .ne 10, 3) := by decide +kernel
theorem dX0_nameThrough_33 : decode cX0_nameThrough 33 = .ok (.aload_n 0, 1) := by decide +kernel
theorem dX0_nameThrough_34 : decode cX0_nameThrough 34 = .ok (.getfield 27, 3) := by decide +kernel
theorem dX0_nameThrough_37 : decode cX0_nameThrough 37 = .ok (.iload_n 1, 1) := by decide +kernel
theorem dX0_nameThrough_38 : decode cX0_nameThrough 38 = .ok (.laload, 1) := by decide +kernel
theorem dX0_nameThrough_39 : decode cX0_nameThrough 39 = .ok (.lreturn, 1) := by decide +kernel
theorem dX0_nameThrough_40 : decode cX0_nameThrough 40 = .ok (.aload_n 0, 1) := by decide +kernel
theorem dX0_nameThrough_41 : decode cX0_nameThrough 41 = .ok (.getfield 9, 3) := by decide +kernel
theorem dX0_nameThrough_44 : decode cX0_nameThrough 44 = .ok (.iload_n 1, 1) := by decide +kernel
theorem dX0_nameThrough_45 : decode cX0_nameThrough 45 = .ok (.iaload, 1) := by decide +kernel
theorem dX0_nameThrough_46 : decode cX0_nameThrough 46 = .ok (.iconst 1, 1) := by decide +kernel
theorem dX0_nameThrough_47 : decode cX0_nameThrough 47 = .ok (.if_icmp .ne 22, 3) := by decide +kernel
theorem dX0_nameThrough_50 : decode cX0_nameThrough 50 = .ok (.aload_n 0, 1) := by decide +kernel
theorem dX0_nameThrough_51 : decode cX0_nameThrough 51 = .ok (.getfield 24, 3) := by decide +kernel
theorem dX0_nameThrough_54 : decode cX0_nameThrough 54 = .ok (.iload_n 1, 1) := by decide +kernel
theorem dX0_nameThrough_55 : decode cX0_nameThrough 55 = .ok (.iaload, 1) := by decide +kernel
theorem dX0_nameThrough_56 : decode cX0_nameThrough 56 = .ok (.iload_n 2, 1) := by decide +kernel
theorem dX0_nameThrough_57 : decode cX0_nameThrough 57 = .ok (.if_icmp .ne 12, 3) := by decide +kernel
theorem dX0_nameThrough_60 : decode cX0_nameThrough 60 = .ok (.aload_n 0, 1) := by decide +kernel
theorem dX0_nameThrough_61 : decode cX0_nameThrough 61 = .ok (.getfield 27, 3) := by decide +kernel
theorem dX0_nameThrough_64 : decode cX0_nameThrough 64 = .ok (.iload_n 1, 1) := by decide +kernel
theorem dX0_nameThrough_65 : decode cX0_nameThrough 65 = .ok (.laload, 1) := by decide +kernel
theorem dX0_nameThrough_66 : decode cX0_nameThrough 66 = .ok (.goto 4, 3) := by decide +kernel
theorem dX0_nameThrough_69 : decode cX0_nameThrough 69 = .ok (.lload_n 3, 1) := by decide +kernel
theorem dX0_nameThrough_70 : decode cX0_nameThrough 70 = .ok (.lreturn, 1) := by decide +kernel
set_option maxRecDepth 20000 in
theorem ggX0_sitesBehind_X0_sitesAtFirst : GoodIn wsX0_sitesBehind wsX0_sitesAtFirst := goodIn_r _ [5] (by decide +kernel) (by decide +kernel)
set_option maxRecDepth 20000 in
theorem gX0_sitesBehind_X0_sitesAtFirst : GoodIn wsX0_sitesBehind (va_wsS RX0 61 yX0_sitesAtFirst wsX0_sitesAtFirst) := goodIn_app (goodIn_of _ (by decide +kernel)) ggX0_sitesBehind_X0_sitesAtFirst
set_option maxRecDepth 20000 in
theorem ggX0_sitesBehind_X0_sitesThrough : GoodIn wsX0_sitesBehind wsX0_sitesThrough := goodIn_r _ [9, 1, 10, 11, 12, 13, 14, 15, 16, 17, 18, 19, 20] (by decide +kernel) (by decide +kernel)
set_option maxRecDepth 20000 in
theorem gX0_sitesBehind_X0_sitesThrough : GoodIn wsX0_sitesBehind (wsV RX0 64 RX0 yX0_sitesThrough wsX0_sitesThrough) := goodIn_app (goodIn_of _ (by decide +kernel)) ggX0_sitesBehind_X0_sitesThrough
theorem dX0_sitesBehind_0 : decode cX0_sitesBehind 0 = .ok (.iload_n 1, 1) := by decide +kernel
theorem dX0_sitesBehind_1 : decode cX0_sitesBehind 1 = .ok (.invokestatic 61, 3) := by decide +kernel
theorem dX0_sitesBehind_4 : decode cX0_sitesBehind 4 = .ok (.istore_n 3, 1) := by decide +kernel
theorem dX0_sitesBehind_5 : decode cX0_sitesBehind 5 = .ok (.iconst 0, 1) := by decide +kernel
theorem dX0_sitesBehind_6 : decode cX0_sitesBehind 6 = .ok (.istore 4, 2) := by decide +kernel
theorem dX0_sitesBehind_8 : decode cX0_sitesBehind 8 = .ok (.iload 4, 2) := by decide +kernel
theorem dX0_sitesBehind_10 : decode cX0_sitesBehind 10 = .ok (.iload_n 2, 1) := by decide +kernel
theorem dX0_sitesBehind_11 : decode cX0_sitesBehind 11 = .ok (.if_icmp .ge 27, 3) := by decide +kernel
theorem dX0_sitesBehind_14 : decode cX0_sitesBehind 14 = .ok (.iload 4, 2) := by decide +kernel
theorem dX0_sitesBehind_16 : decode cX0_sitesBehind 16 = .ok (.aload_n 0, 1) := by decide +kernel
theorem dX0_sitesBehind_17 : decode cX0_sitesBehind 17 = .ok (.getfield 31, 3) := by decide +kernel
theorem dX0_sitesBehind_20 : decode cX0_sitesBehind 20 = .ok (.if_icmp .ge 18, 3) := by decide +kernel
theorem dX0_sitesBehind_23 : decode cX0_sitesBehind 23 = .ok (.aload_n 0, 1) := by decide +kernel
theorem dX0_sitesBehind_24 : decode cX0_sitesBehind 24 = .ok (.iload 4, 2) := by decide +kernel
theorem dX0_sitesBehind_26 : decode cX0_sitesBehind 26 = .ok (.iload_n 1, 1) := by decide +kernel
theorem dX0_sitesBehind_27 : decode cX0_sitesBehind 27 = .ok (.iload_n 3, 1) := by decide +kernel
theorem dX0_sitesBehind_28 : decode cX0_sitesBehind 28 = .ok (.invokevirtual 64, 3) := by decide +kernel
theorem dX0_sitesBehind_31 : decode cX0_sitesBehind 31 = .ok (.istore_n 3, 1) := by decide +kernel
theorem dX0_sitesBehind_32 : decode cX0_sitesBehind 32 = .ok (.iinc 4 1, 3) := by decide +kernel
theorem dX0_sitesBehind_35 : decode cX0_sitesBehind 35 = .ok (.goto (-27), 3) := by decide +kernel
theorem dX0_sitesBehind_38 : decode cX0_sitesBehind 38 = .ok (.iload_n 3, 1) := by decide +kernel
theorem dX0_sitesBehind_39 : decode cX0_sitesBehind 39 = .ok (.ireturn, 1) := by decide +kernel
set_option maxRecDepth 20000 in
theorem ggX0_nameBehind_X0_nameAtFirst : GoodIn wsX0_nameBehind wsX0_nameAtFirst := goodIn_r _ [5, 6, 7, 8, 9] (by decide +kernel) (by decide +kernel)
set_option maxRecDepth 20000 in
theorem gX0_nameBehind_X0_nameAtFirst : GoodIn wsX0_nameBehind (va_wsS RX0 68 yX0_nameAtFirst wsX0_nameAtFirst) := goodIn_app (goodIn_of _ (by decide +kernel)) ggX0_nameBehind_X0_nameAtFirst
set_option maxRecDepth 20000 in
theorem ggX0_nameBehind_X0_nameThrough : GoodIn wsX0_nameBehind wsX0_nameThrough := goodIn_r _ [13, 1, 14, 15, 16, 17, 18, 19, 20, 21, 22, 23, 24, 25] (by decide +kernel) (by decide +kernel)
set_option maxRecDepth 20000 in
theorem gX0_nameBehind_X0_nameThrough : GoodIn wsX0_nameBehind (wsV RX0 72 RX0 yX0_nameThrough wsX0_nameThrough) := goodIn_app (goodIn_of _ (by decide +kernel)) ggX0_nameBehind_X0_nameThrough
theorem dX0_nameBehind_0 : decode cX0_nameBehind 0 = .ok (.iload_n 1, 1) := by decide +kernel
theorem dX0_nameBehind_1 : decode cX0_nameBehind 1 = .ok (.invokestatic 68, 3) := by decide +kernel
theorem dX0_nameBehind_4 : decode cX0_nameBehind 4 = .ok (.lstore_n 3, 1) := by decide +kernel
theorem dX0_nameBehind_5 : decode cX0_nameBehind 5 = .ok (.iconst 0, 1) := by decide +kernel
theorem dX0_nameBehind_6 : decode cX0_nameBehind 6 = .ok (.istore 5, 2) := by decide +kernel
theorem dX0_nameBehind_8 : decode cX0_nameBehind 8 = .ok (.iload 5, 2) := by decide +kernel
theorem dX0_nameBehind_10 : decode cX0_nameBehind 10 = .ok (.iload_n 2, 1) := by decide +kernel
theorem dX0_nameBehind_11 : decode cX0_nameBehind 11 = .ok (.if_icmp .ge 27, 3) := by decide +kernel
theorem dX0_nameBehind_14 : decode cX0_nameBehind 14 = .ok (.iload 5, 2) := by decide +kernel
theorem dX0_nameBehind_16 : decode cX0_nameBehind 16 = .ok (.aload_n 0, 1) := by decide +kernel
theorem dX0_nameBehind_17 : decode cX0_nameBehind 17 = .ok (.getfield 31, 3) := by decide +kernel
theorem dX0_nameBehind_20 : decode cX0_nameBehind 20 = .ok (.if_icmp .ge 18, 3) := by decide +kernel
theorem dX0_nameBehind_23 : decode cX0_nameBehind 23 = .ok (.aload_n 0, 1) := by decide +kernel
theorem dX0_nameBehind_24 : decode cX0_nameBehind 24 = .ok (.iload 5, 2) := by decide +kernel
theorem dX0_nameBehind_26 : decode cX0_nameBehind 26 = .ok (.iload_n 1, 1) := by decide +kernel
theorem dX0_nameBehind_27 : decode cX0_nameBehind 27 = .ok (.lload_n 3, 1) := by decide +kernel
theorem dX0_nameBehind_28 : decode cX0_nameBehind 28 = .ok (.invokevirtual 72, 3) := by decide +kernel
theorem dX0_nameBehind_31 : decode cX0_nameBehind 31 = .ok (.lstore_n 3, 1) := by decide +kernel
theorem dX0_nameBehind_32 : decode cX0_nameBehind 32 = .ok (.iinc 5 1, 3) := by decide +kernel
theorem dX0_nameBehind_35 : decode cX0_nameBehind 35 = .ok (.goto (-27), 3) := by decide +kernel
theorem dX0_nameBehind_38 : decode cX0_nameBehind 38 = .ok (.lload_n 3, 1) := by decide +kernel
theorem dX0_nameBehind_39 : decode cX0_nameBehind 39 = .ok (.lreturn, 1) := by decide +kernel
set_option maxRecDepth 20000 in
theorem ggX0_ownerBehind_X2_has : GoodIn wsX0_ownerBehind wsX2_has := goodIn_r _ [6] (by decide +kernel) (by decide +kernel)
set_option maxRecDepth 20000 in
theorem gX0_ownerBehind_X2_has_n76 : GoodIn wsX0_ownerBehind (wsX2_has) := ggX0_ownerBehind_X2_has
theorem dX0_ownerBehind_0 : decode cX0_ownerBehind 0 = .ok (.iconst 0, 1) := by decide +kernel
theorem dX0_ownerBehind_1 : decode cX0_ownerBehind 1 = .ok (.istore_n 3, 1) := by decide +kernel
theorem dX0_ownerBehind_2 : decode cX0_ownerBehind 2 = .ok (.iconst 0, 1) := by decide +kernel
theorem dX0_ownerBehind_3 : decode cX0_ownerBehind 3 = .ok (.istore 4, 2) := by decide +kernel
theorem dX0_ownerBehind_5 : decode cX0_ownerBehind 5 = .ok (.iload 4, 2) := by decide +kernel
theorem dX0_ownerBehind_7 : decode cX0_ownerBehind 7 = .ok (.iload_n 2, 1) := by decide +kernel
theorem dX0_ownerBehind_8 : decode cX0_ownerBehind 8 = .ok (.if_icmp .ge 40, 3) := by decide +kernel
theorem dX0_ownerBehind_11 : decode cX0_ownerBehind 11 = .ok (.iload 4, 2) := by decide +kernel
theorem dX0_ownerBehind_13 : decode cX0_ownerBehind 13 = .ok (.aload_n 0, 1) := by decide +kernel
theorem dX0_ownerBehind_14 : decode cX0_ownerBehind 14 = .ok (.getfield 31, 3) := by decide +kernel
theorem dX0_ownerBehind_17 : decode cX0_ownerBehind 17 = .ok (.if_icmp .ge 31, 3) := by decide +kernel
theorem dX0_ownerBehind_20 : decode cX0_ownerBehind 20 = .ok (.aload_n 0, 1) := by decide +kernel
theorem dX0_ownerBehind_21 : decode cX0_ownerBehind 21 = .ok (.getfield 21, 3) := by decide +kernel
theorem dX0_ownerBehind_24 : decode cX0_ownerBehind 24 = .ok (.iload 4, 2) := by decide +kernel
theorem dX0_ownerBehind_26 : decode cX0_ownerBehind 26 = .ok (.iaload, 1) := by decide +kernel
theorem dX0_ownerBehind_27 : decode cX0_ownerBehind 27 = .ok (.iload_n 1, 1) := by decide +kernel
theorem dX0_ownerBehind_28 : decode cX0_ownerBehind 28 = .ok (.invokestatic 76, 3) := by decide +kernel
theorem dX0_ownerBehind_31 : decode cX0_ownerBehind 31 = .ok (.ifCond .eq 11, 3) := by decide +kernel
theorem dX0_ownerBehind_34 : decode cX0_ownerBehind 34 = .ok (.aload_n 0, 1) := by decide +kernel
theorem dX0_ownerBehind_35 : decode cX0_ownerBehind 35 = .ok (.getfield 24, 3) := by decide +kernel
theorem dX0_ownerBehind_38 : decode cX0_ownerBehind 38 = .ok (.iload 4, 2) := by decide +kernel
theorem dX0_ownerBehind_40 : decode cX0_ownerBehind 40 = .ok (.iaload, 1) := by decide +kernel
theorem dX0_ownerBehind_41 : decode cX0_ownerBehind 41 = .ok (.istore_n 3, 1) := by decide +kernel
theorem dX0_ownerBehind_42 : decode cX0_ownerBehind 42 = .ok (.iinc 4 1, 3) := by decide +kernel
theorem dX0_ownerBehind_45 : decode cX0_ownerBehind 45 = .ok (.goto (-40), 3) := by decide +kernel
theorem dX0_ownerBehind_48 : decode cX0_ownerBehind 48 = .ok (.iload_n 3, 1) := by decide +kernel
theorem dX0_ownerBehind_49 : decode cX0_ownerBehind 49 = .ok (.ireturn, 1) := by decide +kernel
set_option maxRecDepth 20000 in
theorem ggX0_sitesNow_X0_sitesBehind : GoodIn wsX0_sitesNow wsX0_sitesBehind := goodIn_r _ [6, 1, 7, 8, 5, 9, 10, 11, 12, 13, 14, 15, 16, 17, 18, 19, 20, 21, 22, 23, 24] (by decide +kernel) (by decide +kernel)
set_option maxRecDepth 20000 in
theorem gX0_sitesNow_X0_sitesBehind : GoodIn wsX0_sitesNow (wsV RX0 80 RX0 yX0_sitesBehind wsX0_sitesBehind) := goodIn_app (goodIn_of _ (by decide +kernel)) ggX0_sitesNow_X0_sitesBehind
theorem dX0_sitesNow_0 : decode cX0_sitesNow 0 = .ok (.aload_n 0, 1) := by decide +kernel
theorem dX0_sitesNow_1 : decode cX0_sitesNow 1 = .ok (.iload_n 1, 1) := by decide +kernel
theorem dX0_sitesNow_2 : decode cX0_sitesNow 2 = .ok (.aload_n 0, 1) := by decide +kernel
theorem dX0_sitesNow_3 : decode cX0_sitesNow 3 = .ok (.getfield 31, 3) := by decide +kernel
theorem dX0_sitesNow_6 : decode cX0_sitesNow 6 = .ok (.invokevirtual 80, 3) := by decide +kernel
theorem dX0_sitesNow_9 : decode cX0_sitesNow 9 = .ok (.ireturn, 1) := by decide +kernel
set_option maxRecDepth 20000 in
theorem ggX0_nameIn_X0_stageIn : GoodIn wsX0_nameIn wsX0_stageIn := goodIn_r _ [5, 6, 7, 39, 40, 41, 42, 43, 44, 45, 46] (by decide +kernel) (by decide +kernel)
set_option maxRecDepth 20000 in
theorem gX0_nameIn_X0_stageIn : GoodIn wsX0_nameIn (wsV RX0 84 RX0 yX0_stageIn wsX0_stageIn) := goodIn_app (goodIn_of _ (by decide +kernel)) ggX0_nameIn_X0_stageIn
set_option maxRecDepth 20000 in
theorem ggX0_nameIn_X0_sitesBehind : GoodIn wsX0_nameIn wsX0_sitesBehind := goodIn_r _ [11, 6, 12, 13, 4, 14, 15, 16, 17, 18, 19, 20, 21, 39, 40, 41, 42, 43, 44, 45, 46] (by decide +kernel) (by decide +kernel)
set_option maxRecDepth 20000 in
theorem gX0_nameIn_X0_sitesBehind : GoodIn wsX0_nameIn (wsV RX0 80 RX0 yX0_sitesBehind wsX0_sitesBehind) := goodIn_app (goodIn_of _ (by decide +kernel)) ggX0_nameIn_X0_sitesBehind
set_option maxRecDepth 20000 in
theorem ggX0_nameIn_X0_nameBehind : GoodIn wsX0_nameIn wsX0_nameBehind := goodIn_r _ [25, 6, 26, 27, 4, 28, 29, 30, 31, 32, 33, 34, 35, 36, 37, 19, 38, 21, 39, 40, 41, 42, 43, 44, 45, 46] (by decide +kernel) (by decide +kernel)
set_option maxRecDepth 20000 in
theorem gX0_nameIn_X0_nameBehind : GoodIn wsX0_nameIn (wsV RX0 87 RX0 yX0_nameBehind wsX0_nameBehind) := goodIn_app (goodIn_of _ (by decide +kernel)) ggX0_nameIn_X0_nameBehind
theorem dX0_nameIn_0 : decode cX0_nameIn 0 = .ok (.aload_n 0, 1) := by decide +kernel
theorem dX0_nameIn_1 : decode cX0_nameIn 1 = .ok (.iload_n 2, 1) := by decide +kernel
theorem dX0_nameIn_2 : decode cX0_nameIn 2 = .ok (.invokevirtual 84, 3) := by decide +kernel
theorem dX0_nameIn_5 : decode cX0_nameIn 5 = .ok (.istore_n 3, 1) := by decide +kernel
theorem dX0_nameIn_6 : decode cX0_nameIn 6 = .ok (.aload_n 0, 1) := by decide +kernel
theorem dX0_nameIn_7 : decode cX0_nameIn 7 = .ok (.iload_n 1, 1) := by decide +kernel
theorem dX0_nameIn_8 : decode cX0_nameIn 8 = .ok (.iload_n 3, 1) := by decide +kernel
theorem dX0_nameIn_9 : decode cX0_nameIn 9 = .ok (.invokevirtual 80, 3) := by decide +kernel
theorem dX0_nameIn_12 : decode cX0_nameIn 12 = .ok (.ifCond .ne 7, 3) := by decide +kernel
theorem dX0_nameIn_15 : decode cX0_nameIn 15 = .ok (.lconst 0, 1) := by decide +kernel
theorem dX0_nameIn_16 : decode cX0_nameIn 16 = .ok (.goto 9, 3) := by decide +kernel
theorem dX0_nameIn_19 : decode cX0_nameIn 19 = .ok (.aload_n 0, 1) := by decide +kernel
theorem dX0_nameIn_20 : decode cX0_nameIn 20 = .ok (.iload_n 1, 1) := by decide +kernel
theorem dX0_nameIn_21 : decode cX0_nameIn 21 = .ok (.iload_n 3, 1) := by decide +kernel
theorem dX0_nameIn_22 : decode cX0_nameIn 22 = .ok (.invokevirtual 87, 3) := by decide +kernel
theorem dX0_nameIn_25 : decode cX0_nameIn 25 = .ok (.lreturn, 1) := by decide +kernel
set_option maxRecDepth 20000 in
theorem ggX0_nameAt_X0_ownerBehind : GoodIn wsX0_nameAt wsX0_ownerBehind := goodIn_r _ [5, 6, 7, 8, 9, 10, 11, 30, 31, 32, 33, 34, 35, 36, 37] (by decide +kernel) (by decide +kernel)
set_option maxRecDepth 20000 in
theorem gX0_nameAt_X0_ownerBehind : GoodIn wsX0_nameAt (wsV RX0 91 RX0 yX0_ownerBehind wsX0_ownerBehind) := goodIn_app (goodIn_of _ (by decide +kernel)) ggX0_nameAt_X0_ownerBehind
set_option maxRecDepth 20000 in
theorem ggX0_nameAt_X0_nameBehind : GoodIn wsX0_nameAt wsX0_nameBehind := goodIn_r _ [15, 6, 16, 17, 4, 18, 19, 20, 21, 22, 23, 24, 25, 26, 27, 28, 29, 8, 30, 31, 32, 33, 34, 35, 36, 37] (by decide +kernel) (by decide +kernel)
set_option maxRecDepth 20000 in
theorem gX0_nameAt_X0_nameBehind : GoodIn wsX0_nameAt (wsV RX0 87 RX0 yX0_nameBehind wsX0_nameBehind) := goodIn_app (goodIn_of _ (by decide +kernel)) ggX0_nameAt_X0_nameBehind
theorem dX0_nameAt_0 : decode cX0_nameAt 0 = .ok (.aload_n 0, 1) := by decide +kernel
theorem dX0_nameAt_1 : decode cX0_nameAt 1 = .ok (.aload_n 0, 1) := by decide +kernel
theorem dX0_nameAt_2 : decode cX0_nameAt 2 = .ok (.iload_n 1, 1) := by decide +kernel
theorem dX0_nameAt_3 : decode cX0_nameAt 3 = .ok (.iload_n 2, 1) := by decide +kernel
theorem dX0_nameAt_4 : decode cX0_nameAt 4 = .ok (.invokevirtual 91, 3) := by decide +kernel
theorem dX0_nameAt_7 : decode cX0_nameAt 7 = .ok (.iload_n 2, 1) := by decide +kernel
theorem dX0_nameAt_8 : decode cX0_nameAt 8 = .ok (.invokevirtual 87, 3) := by decide +kernel
theorem dX0_nameAt_11 : decode cX0_nameAt 11 = .ok (.lreturn, 1) := by decide +kernel
theorem dX0_eventsOf_0 : decode cX0_eventsOf 0 = .ok (.iconst 0, 1) := by decide +kernel
theorem dX0_eventsOf_1 : decode cX0_eventsOf 1 = .ok (.istore_n 2, 1) := by decide +kernel
theorem dX0_eventsOf_2 : decode cX0_eventsOf 2 = .ok (.iconst 0, 1) := by decide +kernel
theorem dX0_eventsOf_3 : decode cX0_eventsOf 3 = .ok (.istore_n 3, 1) := by decide +kernel
theorem dX0_eventsOf_4 : decode cX0_eventsOf 4 = .ok (.iload_n 3, 1) := by decide +kernel
theorem dX0_eventsOf_5 : decode cX0_eventsOf 5 = .ok (.aload_n 0, 1) := by decide +kernel
theorem dX0_eventsOf_6 : decode cX0_eventsOf 6 = .ok (.getfield 31, 3) := by decide +kernel
theorem dX0_eventsOf_9 : decode cX0_eventsOf 9 = .ok (.if_icmp .ge 32, 3) := by decide +kernel
theorem dX0_eventsOf_12 : decode cX0_eventsOf 12 = .ok (.aload_n 0, 1) := by decide +kernel
theorem dX0_eventsOf_13 : decode cX0_eventsOf 13 = .ok (.getfield 18, 3) := by decide +kernel
theorem dX0_eventsOf_16 : decode cX0_eventsOf 16 = .ok (.iload_n 3, 1) := by decide +kernel
theorem dX0_eventsOf_17 : decode cX0_eventsOf 17 = .ok (.iaload, 1) := by decide +kernel
theorem dX0_eventsOf_18 : decode cX0_eventsOf 18 = .ok (.iload_n 1, 1) := by decide +kernel
theorem dX0_eventsOf_19 : decode cX0_eventsOf 19 = .ok (.if_icmp .eq 13, 3) := by decide +kernel
