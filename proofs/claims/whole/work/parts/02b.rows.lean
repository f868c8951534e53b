theorem dX0_eventsOf_22 : decode cX0_eventsOf 22 = .ok (.aload_n 0, 1) := by decide +kernel
theorem dX0_eventsOf_23 : decode cX0_eventsOf 23 = .ok (.getfield 24, 3) := by decide +kernel
theorem dX0_eventsOf_26 : decode cX0_eventsOf 26 = .ok (.iload_n 3, 1) := by decide +kernel
theorem dX0_eventsOf_27 : decode cX0_eventsOf 27 = .ok (.iaload, 1) := by decide +kernel
theorem dX0_eventsOf_28 : decode cX0_eventsOf 28 = .ok (.iload_n 1, 1) := by decide +kernel
theorem dX0_eventsOf_29 : decode cX0_eventsOf 29 = .ok (.if_icmp .ne 6, 3) := by decide +kernel
theorem dX0_eventsOf_32 : decode cX0_eventsOf 32 = .ok (.iinc 2 1, 3) := by decide +kernel
theorem dX0_eventsOf_35 : decode cX0_eventsOf 35 = .ok (.iinc 3 1, 3) := by decide +kernel
theorem dX0_eventsOf_38 : decode cX0_eventsOf 38 = .ok (.goto (-34), 3) := by decide +kernel
theorem dX0_eventsOf_41 : decode cX0_eventsOf 41 = .ok (.iload_n 2, 1) := by decide +kernel
theorem dX0_eventsOf_42 : decode cX0_eventsOf 42 = .ok (.ireturn, 1) := by decide +kernel
theorem dX0_eventsOfKind_0 : decode cX0_eventsOfKind 0 = .ok (.iconst 0, 1) := by decide +kernel
theorem dX0_eventsOfKind_1 : decode cX0_eventsOfKind 1 = .ok (.istore_n 2, 1) := by decide +kernel
theorem dX0_eventsOfKind_2 : decode cX0_eventsOfKind 2 = .ok (.iconst 0, 1) := by decide +kernel
theorem dX0_eventsOfKind_3 : decode cX0_eventsOfKind 3 = .ok (.istore_n 3, 1) := by decide +kernel
theorem dX0_eventsOfKind_4 : decode cX0_eventsOfKind 4 = .ok (.iload_n 3, 1) := by decide +kernel
theorem dX0_eventsOfKind_5 : decode cX0_eventsOfKind 5 = .ok (.aload_n 0, 1) := by decide +kernel
theorem dX0_eventsOfKind_6 : decode cX0_eventsOfKind 6 = .ok (.getfield 31, 3) := by decide +kernel
theorem dX0_eventsOfKind_9 : decode cX0_eventsOfKind 9 = .ok (.if_icmp .ge 22, 3) := by decide +kernel
theorem dX0_eventsOfKind_12 : decode cX0_eventsOfKind 12 = .ok (.aload_n 0, 1) := by decide +kernel
theorem dX0_eventsOfKind_13 : decode cX0_eventsOfKind 13 = .ok (.getfield 9, 3) := by decide +kernel
theorem dX0_eventsOfKind_16 : decode cX0_eventsOfKind 16 = .ok (.iload_n 3, 1) := by decide +kernel
theorem dX0_eventsOfKind_17 : decode cX0_eventsOfKind 17 = .ok (.iaload, 1) := by decide +kernel
theorem dX0_eventsOfKind_18 : decode cX0_eventsOfKind 18 = .ok (.iload_n 1, 1) := by decide +kernel
theorem dX0_eventsOfKind_19 : decode cX0_eventsOfKind 19 = .ok (.if_icmp .ne 6, 3) := by decide +kernel
theorem dX0_eventsOfKind_22 : decode cX0_eventsOfKind 22 = .ok (.iinc 2 1, 3) := by decide +kernel
theorem dX0_eventsOfKind_25 : decode cX0_eventsOfKind 25 = .ok (.iinc 3 1, 3) := by decide +kernel
theorem dX0_eventsOfKind_28 : decode cX0_eventsOfKind 28 = .ok (.goto (-24), 3) := by decide +kernel
theorem dX0_eventsOfKind_31 : decode cX0_eventsOfKind 31 = .ok (.iload_n 2, 1) := by decide +kernel
theorem dX0_eventsOfKind_32 : decode cX0_eventsOfKind 32 = .ok (.ireturn, 1) := by decide +kernel
set_option maxRecDepth 20000 in
theorem ggX0_lifeOf_X0_sitesAtFirst : GoodIn wsX0_lifeOf wsX0_sitesAtFirst := goodIn_r _ [5] (by decide +kernel) (by decide +kernel)
set_option maxRecDepth 20000 in
theorem gX0_lifeOf_X0_sitesAtFirst : GoodIn wsX0_lifeOf (va_wsS RX0 61 yX0_sitesAtFirst wsX0_sitesAtFirst) := goodIn_app (goodIn_of _ (by decide +kernel)) ggX0_lifeOf_X0_sitesAtFirst
set_option maxRecDepth 20000 in
theorem ggX0_lifeOf_X0_sitesThrough : GoodIn wsX0_lifeOf wsX0_sitesThrough := goodIn_r _ [9, 1, 10, 11, 12, 33, 34, 35, 36, 37, 38, 39, 40] (by decide +kernel) (by decide +kernel)
set_option maxRecDepth 20000 in
theorem gX0_lifeOf_X0_sitesThrough : GoodIn wsX0_lifeOf (wsV RX0 64 RX0 yX0_sitesThrough wsX0_sitesThrough) := goodIn_app (goodIn_of _ (by decide +kernel)) ggX0_lifeOf_X0_sitesThrough
set_option maxRecDepth 20000 in
theorem ggX0_lifeOf_X0_holdsInAYear : GoodIn wsX0_lifeOf wsX0_holdsInAYear := goodIn_r _ [16, 17, 18, 19, 4, 20, 1, 21, 22, 23, 24, 25, 33, 34, 35, 36, 37, 38, 39, 40] (by decide +kernel) (by decide +kernel)
set_option maxRecDepth 20000 in
theorem gX0_lifeOf_X0_holdsInAYear : GoodIn wsX0_lifeOf (wsV RX0 94 RX0 yX0_holdsInAYear wsX0_holdsInAYear) := goodIn_app (goodIn_of _ (by decide +kernel)) ggX0_lifeOf_X0_holdsInAYear
set_option maxRecDepth 20000 in
theorem ggX0_lifeOf_X0_firstYear : GoodIn wsX0_lifeOf wsX0_firstYear := goodIn_r _ [20, 1, 21, 33, 34, 35, 36, 37, 38, 39, 40] (by decide +kernel) (by decide +kernel)
set_option maxRecDepth 20000 in
theorem gX0_lifeOf_X0_firstYear : GoodIn wsX0_lifeOf (wsV RX0 48 RX0 yX0_firstYear wsX0_firstYear) := goodIn_app (goodIn_of _ (by decide +kernel)) ggX0_lifeOf_X0_firstYear
set_option maxRecDepth 20000 in
theorem ggX0_lifeOf_X0_lastYear : GoodIn wsX0_lifeOf wsX0_lastYear := goodIn_r _ [25, 1, 21, 33, 34, 35, 36, 37, 38, 39, 40] (by decide +kernel) (by decide +kernel)
set_option maxRecDepth 20000 in
theorem gX0_lifeOf_X0_lastYear : GoodIn wsX0_lifeOf (wsV RX0 52 RX0 yX0_lastYear wsX0_lastYear) := goodIn_app (goodIn_of _ (by decide +kernel)) ggX0_lifeOf_X0_lastYear
set_option maxRecDepth 20000 in
theorem ggX0_lifeOf_J6_bitCount_0f7a4 : GoodIn wsX0_lifeOf wsJ6_bitCount_0f7a4 := goodIn_r _ [29, 30, 31, 32] (by decide +kernel) (by decide +kernel)
set_option maxRecDepth 20000 in
theorem gX0_lifeOf_J6_bitCount_0f7a4 : GoodIn wsX0_lifeOf (va_wsS RX0 98 yJ6_bitCount_0f7a4 wsJ6_bitCount_0f7a4) := goodIn_app (goodIn_of _ (by decide +kernel)) ggX0_lifeOf_J6_bitCount_0f7a4
theorem dX0_lifeOf_0 : decode cX0_lifeOf 0 = .ok (.bipush (-6), 2) := by decide +kernel
theorem dX0_lifeOf_2 : decode cX0_lifeOf 2 = .ok (.istore_n 3, 1) := by decide +kernel
theorem dX0_lifeOf_3 : decode cX0_lifeOf 3 = .ok (.bipush (-6), 2) := by decide +kernel
theorem dX0_lifeOf_5 : decode cX0_lifeOf 5 = .ok (.istore 4, 2) := by decide +kernel
theorem dX0_lifeOf_7 : decode cX0_lifeOf 7 = .ok (.iconst 0, 1) := by decide +kernel
theorem dX0_lifeOf_8 : decode cX0_lifeOf 8 = .ok (.istore 5, 2) := by decide +kernel
theorem dX0_lifeOf_10 : decode cX0_lifeOf 10 = .ok (.iconst 0, 1) := by decide +kernel
theorem dX0_lifeOf_11 : decode cX0_lifeOf 11 = .ok (.istore 6, 2) := by decide +kernel
theorem dX0_lifeOf_13 : decode cX0_lifeOf 13 = .ok (.iload_n 1, 1) := by decide +kernel
theorem dX0_lifeOf_14 : decode cX0_lifeOf 14 = .ok (.invokestatic 61, 3) := by decide +kernel
theorem dX0_lifeOf_17 : decode cX0_lifeOf 17 = .ok (.istore 7, 2) := by decide +kernel
theorem dX0_lifeOf_19 : decode cX0_lifeOf 19 = .ok (.iconst 0, 1) := by decide +kernel
theorem dX0_lifeOf_20 : decode cX0_lifeOf 20 = .ok (.istore 8, 2) := by decide +kernel
theorem dX0_lifeOf_22 : decode cX0_lifeOf 22 = .ok (.iload 8, 2) := by decide +kernel
theorem dX0_lifeOf_24 : decode cX0_lifeOf 24 = .ok (.aload_n 0, 1) := by decide +kernel
theorem dX0_lifeOf_25 : decode cX0_lifeOf 25 = .ok (.getfield 31, 3) := by decide +kernel
theorem dX0_lifeOf_28 : decode cX0_lifeOf 28 = .ok (.if_icmp .gt 87, 3) := by decide +kernel
theorem dX0_lifeOf_31 : decode cX0_lifeOf 31 = .ok (.iload 8, 2) := by decide +kernel
theorem dX0_lifeOf_33 : decode cX0_lifeOf 33 = .ok (.ifCond .le 16, 3) := by decide +kernel
theorem dX0_lifeOf_36 : decode cX0_lifeOf 36 = .ok (.aload_n 0, 1) := by decide +kernel
theorem dX0_lifeOf_37 : decode cX0_lifeOf 37 = .ok (.iload 8, 2) := by decide +kernel
theorem dX0_lifeOf_39 : decode cX0_lifeOf 39 = .ok (.iconst 1, 1) := by decide +kernel
theorem dX0_lifeOf_40 : decode cX0_lifeOf 40 = .ok (.isub, 1) := by decide +kernel
theorem dX0_lifeOf_41 : decode cX0_lifeOf 41 = .ok (.iload_n 1, 1) := by decide +kernel
theorem dX0_lifeOf_42 : decode cX0_lifeOf 42 = .ok (.iload 7, 2) := by decide +kernel
theorem dX0_lifeOf_44 : decode cX0_lifeOf 44 = .ok (.invokevirtual 64, 3) := by decide +kernel
theorem dX0_lifeOf_47 : decode cX0_lifeOf 47 = .ok (.istore 7, 2) := by decide +kernel
theorem dX0_lifeOf_49 : decode cX0_lifeOf 49 = .ok (.iload 7, 2) := by decide +kernel
theorem dX0_lifeOf_51 : decode cX0_lifeOf 51 = .ok (.ifCond .eq 58, 3) := by decide +kernel
theorem dX0_lifeOf_54 : decode cX0_lifeOf 54 = .ok (.aload_n 0, 1) := by decide +kernel
theorem dX0_lifeOf_55 : decode cX0_lifeOf 55 = .ok (.iload 8, 2) := by decide +kernel
theorem dX0_lifeOf_57 : decode cX0_lifeOf 57 = .ok (.invokevirtual 94, 3) := by decide +kernel
theorem dX0_lifeOf_60 : decode cX0_lifeOf 60 = .ok (.ifCond .ne 6, 3) := by decide +kernel
theorem dX0_lifeOf_63 : decode cX0_lifeOf 63 = .ok (.goto 46, 3) := by decide +kernel
theorem dX0_lifeOf_66 : decode cX0_lifeOf 66 = .ok (.iload 5, 2) := by decide +kernel
theorem dX0_lifeOf_68 : decode cX0_lifeOf 68 = .ok (.ifCond .ne 10, 3) := by decide +kernel
theorem dX0_lifeOf_71 : decode cX0_lifeOf 71 = .ok (.aload_n 0, 1) := by decide +kernel
theorem dX0_lifeOf_72 : decode cX0_lifeOf 72 = .ok (.iload 8, 2) := by decide +kernel
theorem dX0_lifeOf_74 : decode cX0_lifeOf 74 = .ok (.invokevirtual 48, 3) := by decide +kernel
theorem dX0_lifeOf_77 : decode cX0_lifeOf 77 = .ok (.istore_n 3, 1) := by decide +kernel
theorem dX0_lifeOf_78 : decode cX0_lifeOf 78 = .ok (.aload_n 0, 1) := by decide +kernel
theorem dX0_lifeOf_79 : decode cX0_lifeOf 79 = .ok (.iload 8, 2) := by decide +kernel
theorem dX0_lifeOf_81 : decode cX0_lifeOf 81 = .ok (.invokevirtual 52, 3) := by decide +kernel
theorem dX0_lifeOf_84 : decode cX0_lifeOf 84 = .ok (.istore 4, 2) := by decide +kernel
theorem dX0_lifeOf_86 : decode cX0_lifeOf 86 = .ok (.iload 5, 2) := by decide +kernel
theorem dX0_lifeOf_88 : decode cX0_lifeOf 88 = .ok (.iload 4, 2) := by decide +kernel
theorem dX0_lifeOf_90 : decode cX0_lifeOf 90 = .ok (.aload_n 0, 1) := by decide +kernel
theorem dX0_lifeOf_91 : decode cX0_lifeOf 91 = .ok (.iload 8, 2) := by decide +kernel
theorem dX0_lifeOf_93 : decode cX0_lifeOf 93 = .ok (.invokevirtual 48, 3) := by decide +kernel
theorem dX0_lifeOf_96 : decode cX0_lifeOf 96 = .ok (.isub, 1) := by decide +kernel
theorem dX0_lifeOf_97 : decode cX0_lifeOf 97 = .ok (.iconst 1, 1) := by decide +kernel
theorem dX0_lifeOf_98 : decode cX0_lifeOf 98 = .ok (.iadd, 1) := by decide +kernel
theorem dX0_lifeOf_99 : decode cX0_lifeOf 99 = .ok (.iadd, 1) := by decide +kernel
theorem dX0_lifeOf_100 : decode cX0_lifeOf 100 = .ok (.istore 5, 2) := by decide +kernel
theorem dX0_lifeOf_102 : decode cX0_lifeOf 102 = .ok (.iload 6, 2) := by decide +kernel
theorem dX0_lifeOf_104 : decode cX0_lifeOf 104 = .ok (.iload 7, 2) := by decide +kernel
theorem dX0_lifeOf_106 : decode cX0_lifeOf 106 = .ok (.ior, 1) := by decide +kernel
theorem dX0_lifeOf_107 : decode cX0_lifeOf 107 = .ok (.istore 6, 2) := by decide +kernel
theorem dX0_lifeOf_109 : decode cX0_lifeOf 109 = .ok (.iinc 8 1, 3) := by decide +kernel
theorem dX0_lifeOf_112 : decode cX0_lifeOf 112 = .ok (.goto (-90), 3) := by decide +kernel
theorem dX0_lifeOf_115 : decode cX0_lifeOf 115 = .ok (.iload_n 2, 1) := by decide +kernel
theorem dX0_lifeOf_116 : decode cX0_lifeOf 116 = .ok (.tableswitch 36 0 2 #[28, 30, 33], 28) := by decide +kernel
theorem dX0_lifeOf_144 : decode cX0_lifeOf 144 = .ok (.iload_n 3, 1) := by decide +kernel
theorem dX0_lifeOf_145 : decode cX0_lifeOf 145 = .ok (.ireturn, 1) := by decide +kernel
theorem dX0_lifeOf_146 : decode cX0_lifeOf 146 = .ok (.iload 4, 2) := by decide +kernel
theorem dX0_lifeOf_148 : decode cX0_lifeOf 148 = .ok (.ireturn, 1) := by decide +kernel
theorem dX0_lifeOf_149 : decode cX0_lifeOf 149 = .ok (.iload 5, 2) := by decide +kernel
theorem dX0_lifeOf_151 : decode cX0_lifeOf 151 = .ok (.ireturn, 1) := by decide +kernel
theorem dX0_lifeOf_152 : decode cX0_lifeOf 152 = .ok (.iload 6, 2) := by decide +kernel
theorem dX0_lifeOf_154 : decode cX0_lifeOf 154 = .ok (.invokestatic 98, 3) := by decide +kernel
theorem dX0_lifeOf_157 : decode cX0_lifeOf 157 = .ok (.ireturn, 1) := by decide +kernel
set_option maxRecDepth 20000 in
theorem ggX0_nextSpan_X0_ownerBehind : GoodIn wsX0_nextSpan wsX0_ownerBehind := goodIn_r _ [6, 1, 7, 8, 9, 10, 11, 43, 44, 45, 46, 47, 48, 49, 50] (by decide +kernel) (by decide +kernel)
set_option maxRecDepth 20000 in
theorem gX0_nextSpan_X0_ownerBehind : GoodIn wsX0_nextSpan (wsV RX0 91 RX0 yX0_ownerBehind wsX0_ownerBehind) := goodIn_app (goodIn_of _ (by decide +kernel)) ggX0_nextSpan_X0_ownerBehind
set_option maxRecDepth 20000 in
theorem ggX0_nextSpan_X0_nameBehind : GoodIn wsX0_nextSpan wsX0_nameBehind := goodIn_r _ [15, 1, 16, 17, 5, 18, 19, 20, 21, 22, 23, 24, 25, 26, 27, 28, 29, 8, 43, 44, 45, 46, 47, 48, 49, 50] (by decide +kernel) (by decide +kernel)
set_option maxRecDepth 20000 in
theorem gX0_nextSpan_X0_nameBehind : GoodIn wsX0_nextSpan (wsV RX0 87 RX0 yX0_nameBehind wsX0_nameBehind) := goodIn_app (goodIn_of _ (by decide +kernel)) ggX0_nextSpan_X0_nameBehind
set_option maxRecDepth 20000 in
theorem ggX0_nextSpan_X0_holdsInAYear : GoodIn wsX0_nextSpan wsX0_holdsInAYear := goodIn_r _ [33, 34, 35, 36, 5, 37, 1, 38, 39, 40, 41, 42, 43, 44, 45, 46, 47, 48, 49, 50] (by decide +kernel) (by decide +kernel)
set_option maxRecDepth 20000 in
theorem gX0_nextSpan_X0_holdsInAYear : GoodIn wsX0_nextSpan (wsV RX0 94 RX0 yX0_holdsInAYear wsX0_holdsInAYear) := goodIn_app (goodIn_of _ (by decide +kernel)) ggX0_nextSpan_X0_holdsInAYear
theorem dX0_nextSpan_0 : decode cX0_nextSpan 0 = .ok (.aload_n 0, 1) := by decide +kernel
theorem dX0_nextSpan_1 : decode cX0_nextSpan 1 = .ok (.iload_n 1, 1) := by decide +kernel
theorem dX0_nextSpan_2 : decode cX0_nextSpan 2 = .ok (.iload_n 2, 1) := by decide +kernel
theorem dX0_nextSpan_3 : decode cX0_nextSpan 3 = .ok (.invokevirtual 91, 3) := by decide +kernel
theorem dX0_nextSpan_6 : decode cX0_nextSpan 6 = .ok (.istore_n 3, 1) := by decide +kernel
theorem dX0_nextSpan_7 : decode cX0_nextSpan 7 = .ok (.aload_n 0, 1) := by decide +kernel
theorem dX0_nextSpan_8 : decode cX0_nextSpan 8 = .ok (.iload_n 3, 1) := by decide +kernel
theorem dX0_nextSpan_9 : decode cX0_nextSpan 9 = .ok (.iload_n 2, 1) := by decide +kernel
theorem dX0_nextSpan_10 : decode cX0_nextSpan 10 = .ok (.invokevirtual 87, 3) := by decide +kernel
theorem dX0_nextSpan_13 : decode cX0_nextSpan 13 = .ok (.lstore 4, 2) := by decide +kernel
theorem dX0_nextSpan_15 : decode cX0_nextSpan 15 = .ok (.iload_n 2, 1) := by decide +kernel
theorem dX0_nextSpan_16 : decode cX0_nextSpan 16 = .ok (.iconst 1, 1) := by decide +kernel
theorem dX0_nextSpan_17 : decode cX0_nextSpan 17 = .ok (.iadd, 1) := by decide +kernel
theorem dX0_nextSpan_18 : decode cX0_nextSpan 18 = .ok (.istore 6, 2) := by decide +kernel
theorem dX0_nextSpan_20 : decode cX0_nextSpan 20 = .ok (.iload 6, 2) := by decide +kernel
theorem dX0_nextSpan_22 : decode cX0_nextSpan 22 = .ok (.aload_n 0, 1) := by decide +kernel
theorem dX0_nextSpan_23 : decode cX0_nextSpan 23 = .ok (.getfield 31, 3) := by decide +kernel
theorem dX0_nextSpan_26 : decode cX0_nextSpan 26 = .ok (.if_icmp .gt 53, 3) := by decide +kernel
theorem dX0_nextSpan_29 : decode cX0_nextSpan 29 = .ok (.aload_n 0, 1) := by decide +kernel
theorem dX0_nextSpan_30 : decode cX0_nextSpan 30 = .ok (.iload 6, 2) := by decide +kernel
theorem dX0_nextSpan_32 : decode cX0_nextSpan 32 = .ok (.invokevirtual 94, 3) := by decide +kernel
theorem dX0_nextSpan_35 : decode cX0_nextSpan 35 = .ok (.ifCond .ne 6, 3) := by decide +kernel
theorem dX0_nextSpan_38 : decode cX0_nextSpan 38 = .ok (.goto 35, 3) := by decide +kernel
theorem dX0_nextSpan_41 : decode cX0_nextSpan 41 = .ok (.aload_n 0, 1) := by decide +kernel
theorem dX0_nextSpan_42 : decode cX0_nextSpan 42 = .ok (.iload_n 1, 1) := by decide +kernel
theorem dX0_nextSpan_43 : decode cX0_nextSpan 43 = .ok (.iload 6, 2) := by decide +kernel
theorem dX0_nextSpan_45 : decode cX0_nextSpan 45 = .ok (.invokevirtual 91, 3) := by decide +kernel
theorem dX0_nextSpan_48 : decode cX0_nextSpan 48 = .ok (.istore 7, 2) := by decide +kernel
theorem dX0_nextSpan_50 : decode cX0_nextSpan 50 = .ok (.iload 7, 2) := by decide +kernel
theorem dX0_nextSpan_52 : decode cX0_nextSpan 52 = .ok (.iload_n 3, 1) := by decide +kernel
theorem dX0_nextSpan_53 : decode cX0_nextSpan 53 = .ok (.if_icmp .ne 17, 3) := by decide +kernel
theorem dX0_nextSpan_56 : decode cX0_nextSpan 56 = .ok (.aload_n 0, 1) := by decide +kernel
theorem dX0_nextSpan_57 : decode cX0_nextSpan 57 = .ok (.iload 7, 2) := by decide +kernel
theorem dX0_nextSpan_59 : decode cX0_nextSpan 59 = .ok (.iload 6, 2) := by decide +kernel
theorem dX0_nextSpan_61 : decode cX0_nextSpan 61 = .ok (.invokevirtual 87, 3) := by decide +kernel
theorem dX0_nextSpan_64 : decode cX0_nextSpan 64 = .ok (.lload 4, 2) := by decide +kernel
theorem dX0_nextSpan_66 : decode cX0_nextSpan 66 = .ok (.lcmp, 1) := by decide +kernel
theorem dX0_nextSpan_67 : decode cX0_nextSpan 67 = .ok (.ifCond .eq 6, 3) := by decide +kernel
theorem dX0_nextSpan_70 : decode cX0_nextSpan 70 = .ok (.iload 6, 2) := by decide +kernel
theorem dX0_nextSpan_72 : decode cX0_nextSpan 72 = .ok (.ireturn, 1) := by decide +kernel
theorem dX0_nextSpan_73 : decode cX0_nextSpan 73 = .ok (.iinc 6 1, 3) := by decide +kernel
theorem dX0_nextSpan_76 : decode cX0_nextSpan 76 = .ok (.goto (-56), 3) := by decide +kernel
theorem dX0_nextSpan_79 : decode cX0_nextSpan 79 = .ok (.aload_n 0, 1) := by decide +kernel
theorem dX0_nextSpan_80 : decode cX0_nextSpan 80 = .ok (.getfield 31, 3) := by decide +kernel
theorem dX0_nextSpan_83 : decode cX0_nextSpan 83 = .ok (.iconst 1, 1) := by decide +kernel
theorem dX0_nextSpan_84 : decode cX0_nextSpan 84 = .ok (.iadd, 1) := by decide +kernel
theorem dX0_nextSpan_85 : decode cX0_nextSpan 85 = .ok (.ireturn, 1) := by decide +kernel
set_option maxRecDepth 20000 in
theorem ggX0_parishesNow_X0_sitesNow : GoodIn wsX0_parishesNow wsX0_sitesNow := goodIn_r _ [6, 7, 8, 9, 10, 5, 11, 12, 13, 14, 15, 16, 17, 18, 19, 20, 21, 22, 23, 24, 25, 26, 27, 28, 29] (by decide +kernel) (by decide +kernel)
set_option maxRecDepth 20000 in
theorem gX0_parishesNow_X0_sitesNow : GoodIn wsX0_parishesNow (wsV RX0 103 RX0 yX0_sitesNow wsX0_sitesNow) := goodIn_app (goodIn_of _ (by decide +kernel)) ggX0_parishesNow_X0_sitesNow
theorem dX0_parishesNow_0 : decode cX0_parishesNow 0 = .ok (.iconst 0, 1) := by decide +kernel
theorem dX0_parishesNow_1 : decode cX0_parishesNow 1 = .ok (.istore_n 1, 1) := by decide +kernel
theorem dX0_parishesNow_2 : decode cX0_parishesNow 2 = .ok (.iconst 0, 1) := by decide +kernel
theorem dX0_parishesNow_3 : decode cX0_parishesNow 3 = .ok (.istore_n 2, 1) := by decide +kernel
theorem dX0_parishesNow_4 : decode cX0_parishesNow 4 = .ok (.iload_n 2, 1) := by decide +kernel
theorem dX0_parishesNow_5 : decode cX0_parishesNow 5 = .ok (.aload_n 0, 1) := by decide +kernel
theorem dX0_parishesNow_6 : decode cX0_parishesNow 6 = .ok (.getfield 35, 3) := by decide +kernel
theorem dX0_parishesNow_9 : decode cX0_parishesNow 9 = .ok (.if_icmp .ge 20, 3) := by decide +kernel
theorem dX0_parishesNow_12 : decode cX0_parishesNow 12 = .ok (.aload_n 0, 1) := by decide +kernel
theorem dX0_parishesNow_13 : decode cX0_parishesNow 13 = .ok (.iload_n 2, 1) := by decide +kernel
theorem dX0_parishesNow_14 : decode cX0_parishesNow 14 = .ok (.invokevirtual 103, 3) := by decide +kernel
theorem dX0_parishesNow_17 : decode cX0_parishesNow 17 = .ok (.ifCond .eq 6, 3) := by decide +kernel
theorem dX0_parishesNow_20 : decode cX0_parishesNow 20 = .ok (.iinc 1 1, 3) := by decide +kernel
theorem dX0_parishesNow_23 : decode cX0_parishesNow 23 = .ok (.iinc 2 1, 3) := by decide +kernel
theorem dX0_parishesNow_26 : decode cX0_parishesNow 26 = .ok (.goto (-22), 3) := by decide +kernel
theorem dX0_parishesNow_29 : decode cX0_parishesNow 29 = .ok (.iload_n 1, 1) := by decide +kernel
theorem dX0_parishesNow_30 : decode cX0_parishesNow 30 = .ok (.ireturn, 1) := by decide +kernel
set_option maxRecDepth 20000 in
theorem ggX0_unlikeNamesNow_X0_sitesNow : GoodIn wsX0_unlikeNamesNow wsX0_sitesNow := goodIn_r _ [6, 7, 8, 9, 10, 5, 11, 12, 13, 14, 15, 16, 17, 18, 19, 20, 21, 43, 44, 45, 46, 47, 48, 49, 50] (by decide +kernel) (by decide +kernel)
set_option maxRecDepth 20000 in
theorem gX0_unlikeNamesNow_X0_sitesNow : GoodIn wsX0_unlikeNamesNow (wsV RX0 103 RX0 yX0_sitesNow wsX0_sitesNow) := goodIn_app (goodIn_of _ (by decide +kernel)) ggX0_unlikeNamesNow_X0_sitesNow
set_option maxRecDepth 20000 in
theorem ggX0_unlikeNamesNow_X0_isNameOfLesser : GoodIn wsX0_unlikeNamesNow wsX0_isNameOfLesser := goodIn_r _ [25, 7, 26, 27, 28, 5, 29, 30, 31, 32, 33, 34, 35, 36, 37, 38, 39, 40, 41, 19, 42, 21, 2, 3, 4, 6, 8, 9, 10, 11, 12, 13, 14, 15, 16, 17, 18, 20, 43, 44, 45, 46, 47, 48, 49, 50] (by decide +kernel) (by decide +kernel)
set_option maxRecDepth 20000 in
theorem gX0_unlikeNamesNow_X0_isNameOfLesser : GoodIn wsX0_unlikeNamesNow (wsV RX0 106 RX0 yX0_isNameOfLesser wsX0_isNameOfLesser) := goodIn_app (goodIn_of _ (by decide +kernel)) ggX0_unlikeNamesNow_X0_isNameOfLesser
theorem dX0_unlikeNamesNow_0 : decode cX0_unlikeNamesNow 0 = .ok (.iconst 0, 1) := by decide +kernel
theorem dX0_unlikeNamesNow_1 : decode cX0_unlikeNamesNow 1 = .ok (.istore_n 1, 1) := by decide +kernel
theorem dX0_unlikeNamesNow_2 : decode cX0_unlikeNamesNow 2 = .ok (.iconst 0, 1) := by decide +kernel
theorem dX0_unlikeNamesNow_3 : decode cX0_unlikeNamesNow 3 = .ok (.istore_n 2, 1) := by decide +kernel
theorem dX0_unlikeNamesNow_4 : decode cX0_unlikeNamesNow 4 = .ok (.iload_n 2, 1) := by decide +kernel
theorem dX0_unlikeNamesNow_5 : decode cX0_unlikeNamesNow 5 = .ok (.aload_n 0, 1) := by decide +kernel
theorem dX0_unlikeNamesNow_6 : decode cX0_unlikeNamesNow 6 = .ok (.getfield 35, 3) := by decide +kernel
theorem dX0_unlikeNamesNow_9 : decode cX0_unlikeNamesNow 9 = .ok (.if_icmp .ge 28, 3) := by decide +kernel
theorem dX0_unlikeNamesNow_12 : decode cX0_unlikeNamesNow 12 = .ok (.aload_n 0, 1) := by decide +kernel
theorem dX0_unlikeNamesNow_13 : decode cX0_unlikeNamesNow 13 = .ok (.iload_n 2, 1) := by decide +kernel
theorem dX0_unlikeNamesNow_14 : decode cX0_unlikeNamesNow 14 = .ok (.invokevirtual 103, 3) := by decide +kernel
theorem dX0_unlikeNamesNow_17 : decode cX0_unlikeNamesNow 17 = .ok (.ifCond .eq 14, 3) := by decide +kernel
theorem dX0_unlikeNamesNow_20 : decode cX0_unlikeNamesNow 20 = .ok (.aload_n 0, 1) := by decide +kernel
theorem dX0_unlikeNamesNow_21 : decode cX0_unlikeNamesNow 21 = .ok (.iload_n 2, 1) := by decide +kernel
theorem dX0_unlikeNamesNow_22 : decode cX0_unlikeNamesNow 22 = .ok (.invokevirtual 106, 3) := by decide +kernel
theorem dX0_unlikeNamesNow_25 : decode cX0_unlikeNamesNow 25 = .ok (.ifCond .ne 6, 3) := by decide +kernel
theorem dX0_unlikeNamesNow_28 : decode cX0_unlikeNamesNow 28 = .ok (.iinc 1 1, 3) := by decide +kernel
theorem dX0_unlikeNamesNow_31 : decode cX0_unlikeNamesNow 31 = .ok (.iinc 2 1, 3) := by decide +kernel
theorem dX0_unlikeNamesNow_34 : decode cX0_unlikeNamesNow 34 = .ok (.goto (-30), 3) := by decide +kernel
theorem dX0_unlikeNamesNow_37 : decode cX0_unlikeNamesNow 37 = .ok (.iload_n 1, 1) := by decide +kernel
theorem dX0_unlikeNamesNow_38 : decode cX0_unlikeNamesNow 38 = .ok (.ireturn, 1) := by decide +kernel
set_option maxRecDepth 20000 in
theorem ggX0_isNameOfLesser_X0_nameBehind : GoodIn wsX0_isNameOfLesser wsX0_nameBehind := goodIn_r _ [6, 1, 7, 8, 5, 9, 10, 11, 12, 13, 14, 15, 16, 17, 18, 19, 20, 21, 38, 39, 40, 41, 42, 43, 44, 45] (by decide +kernel) (by decide +kernel)
set_option maxRecDepth 20000 in
theorem gX0_isNameOfLesser_X0_nameBehind : GoodIn wsX0_isNameOfLesser (wsV RX0 87 RX0 yX0_nameBehind wsX0_nameBehind) := goodIn_app (goodIn_of _ (by decide +kernel)) ggX0_isNameOfLesser_X0_nameBehind
set_option maxRecDepth 20000 in
theorem ggX0_isNameOfLesser_X0_sitesNow : GoodIn wsX0_isNameOfLesser wsX0_sitesNow := goodIn_r _ [25, 1, 26, 27, 28, 5, 29, 30, 31, 32, 33, 34, 35, 36, 19, 37, 21, 38, 39, 40, 41, 42, 43, 44, 45] (by decide +kernel) (by decide +kernel)
set_option maxRecDepth 20000 in
theorem gX0_isNameOfLesser_X0_sitesNow : GoodIn wsX0_isNameOfLesser (wsV RX0 103 RX0 yX0_sitesNow wsX0_sitesNow) := goodIn_app (goodIn_of _ (by decide +kernel)) ggX0_isNameOfLesser_X0_sitesNow
theorem dX0_isNameOfLesser_0 : decode cX0_isNameOfLesser 0 = .ok (.aload_n 0, 1) := by decide +kernel
theorem dX0_isNameOfLesser_1 : decode cX0_isNameOfLesser 1 = .ok (.iload_n 1, 1) := by decide +kernel
theorem dX0_isNameOfLesser_2 : decode cX0_isNameOfLesser 2 = .ok (.aload_n 0, 1) := by decide +kernel
theorem dX0_isNameOfLesser_3 : decode cX0_isNameOfLesser 3 = .ok (.getfield 31, 3) := by decide +kernel
theorem dX0_isNameOfLesser_6 : decode cX0_isNameOfLesser 6 = .ok (.invokevirtual 87, 3) := by decide +kernel
theorem dX0_isNameOfLesser_9 : decode cX0_isNameOfLesser 9 = .ok (.lstore_n 2, 1) := by decide +kernel
theorem dX0_isNameOfLesser_10 : decode cX0_isNameOfLesser 10 = .ok (.iconst 0, 1) := by decide +kernel
theorem dX0_isNameOfLesser_11 : decode cX0_isNameOfLesser 11 = .ok (.istore 4, 2) := by decide +kernel
theorem dX0_isNameOfLesser_13 : decode cX0_isNameOfLesser 13 = .ok (.iload 4, 2) := by decide +kernel
theorem dX0_isNameOfLesser_15 : decode cX0_isNameOfLesser 15 = .ok (.iload_n 1, 1) := by decide +kernel
theorem dX0_isNameOfLesser_16 : decode cX0_isNameOfLesser 16 = .ok (.if_icmp .ge 35, 3) := by decide +kernel
theorem dX0_isNameOfLesser_19 : decode cX0_isNameOfLesser 19 = .ok (.aload_n 0, 1) := by decide +kernel
theorem dX0_isNameOfLesser_20 : decode cX0_isNameOfLesser 20 = .ok (.iload 4, 2) := by decide +kernel
theorem dX0_isNameOfLesser_22 : decode cX0_isNameOfLesser 22 = .ok (.invokevirtual 103, 3) := by decide +kernel
theorem dX0_isNameOfLesser_25 : decode cX0_isNameOfLesser 25 = .ok (.ifCond .eq 20, 3) := by decide +kernel
theorem dX0_isNameOfLesser_28 : decode cX0_isNameOfLesser 28 = .ok (.aload_n 0, 1) := by decide +kernel
theorem dX0_isNameOfLesser_29 : decode cX0_isNameOfLesser 29 = .ok (.iload 4, 2) := by decide +kernel
theorem dX0_isNameOfLesser_31 : decode cX0_isNameOfLesser 31 = .ok (.aload_n 0, 1) := by decide +kernel
theorem dX0_isNameOfLesser_32 : decode cX0_isNameOfLesser 32 = .ok (.getfield 31, 3) := by decide +kernel
theorem dX0_isNameOfLesser_35 : decode cX0_isNameOfLesser 35 = .ok (.invokevirtual 87, 3) := by decide +kernel
theorem dX0_isNameOfLesser_38 : decode cX0_isNameOfLesser 38 = .ok (.lload_n 2, 1) := by decide +kernel
theorem dX0_isNameOfLesser_39 : decode cX0_isNameOfLesser 39 = .ok (.lcmp, 1) := by decide +kernel
theorem dX0_isNameOfLesser_40 : decode cX0_isNameOfLesser 40 = .ok (.ifCond .ne 5, 3) := by decide +kernel
theorem dX0_isNameOfLesser_43 : decode cX0_isNameOfLesser 43 = .ok (.iconst 1, 1) := by decide +kernel
theorem dX0_isNameOfLesser_44 : decode cX0_isNameOfLesser 44 = .ok (.ireturn, 1) := by decide +kernel
theorem dX0_isNameOfLesser_45 : decode cX0_isNameOfLesser 45 = .ok (.iinc 4 1, 3) := by decide +kernel
theorem dX0_isNameOfLesser_48 : decode cX0_isNameOfLesser 48 = .ok (.goto (-35), 3) := by decide +kernel
theorem dX0_isNameOfLesser_51 : decode cX0_isNameOfLesser 51 = .ok (.iconst 0, 1) := by decide +kernel
theorem dX0_isNameOfLesser_52 : decode cX0_isNameOfLesser 52 = .ok (.ireturn, 1) := by decide +kernel
theorem dX1_init_0 : decode cX1_init 0 = .ok (.aload_n 0, 1) := by decide +kernel
theorem dX1_init_1 : decode cX1_init 1 = .ok (.invokespecial 3, 3) := by decide +kernel
theorem dX1_init_4 : decode cX1_init 4 = .ok (.aload_n 0, 1) := by decide +kernel
theorem dX1_init_5 : decode cX1_init 5 = .ok (.bipush 9, 2) := by decide +kernel
theorem dX1_init_7 : decode cX1_init 7 = .ok (.newarray .int, 2) := by decide +kernel
theorem dX1_init_9 : decode cX1_init 9 = .ok (.putfield 9, 3) := by decide +kernel
theorem dX1_init_12 : decode cX1_init 12 = .ok (.return_, 1) := by decide +kernel
theorem dX1_letterOf_0 : decode cX1_letterOf 0 = .ok (.lload_n 0, 1) := by decide +kernel
theorem dX1_letterOf_1 : decode cX1_letterOf 1 = .ok (.bipush 8, 2) := by decide +kernel
theorem dX1_letterOf_3 : decode cX1_letterOf 3 = .ok (.iload_n 2, 1) := by decide +kernel
theorem dX1_letterOf_4 : decode cX1_letterOf 4 = .ok (.imul, 1) := by decide +kernel
theorem dX1_letterOf_5 : decode cX1_letterOf 5 = .ok (.lushr, 1) := by decide +kernel
theorem dX1_letterOf_6 : decode cX1_letterOf 6 = .ok (.l2i, 1) := by decide +kernel
theorem dX1_letterOf_7 : decode cX1_letterOf 7 = .ok (.sipush 255, 3) := by decide +kernel
theorem dX1_letterOf_10 : decode cX1_letterOf 10 = .ok (.iand, 1) := by decide +kernel
theorem dX1_letterOf_11 : decode cX1_letterOf 11 = .ok (.ireturn, 1) := by decide +kernel
theorem dX1_withLetter_0 : decode cX1_withLetter 0 = .ok (.lload_n 0, 1) := by decide +kernel
theorem dX1_withLetter_1 : decode cX1_withLetter 1 = .ok (.iload_n 3, 1) := by decide +kernel
theorem dX1_withLetter_2 : decode cX1_withLetter 2 = .ok (.i2l, 1) := by decide +kernel
theorem dX1_withLetter_3 : decode cX1_withLetter 3 = .ok (.bipush 8, 2) := by decide +kernel
theorem dX1_withLetter_5 : decode cX1_withLetter 5 = .ok (.iload_n 2, 1) := by decide +kernel
theorem dX1_withLetter_6 : decode cX1_withLetter 6 = .ok (.imul, 1) := by decide +kernel
theorem dX1_withLetter_7 : decode cX1_withLetter 7 = .ok (.lshl, 1) := by decide +kernel
theorem dX1_withLetter_8 : decode cX1_withLetter 8 = .ok (.lor, 1) := by decide +kernel
theorem dX1_withLetter_9 : decode cX1_withLetter 9 = .ok (.lreturn, 1) := by decide +kernel
set_option maxRecDepth 20000 in
theorem ggX1_lengthOf_X1_letterOf : GoodIn wsX1_lengthOf wsX1_letterOf := goodIn_r _ [4] (by decide +kernel) (by decide +kernel)
set_option maxRecDepth 20000 in
theorem gX1_lengthOf_X1_letterOf : GoodIn wsX1_lengthOf (va_wsS RX1 15 yX1_letterOf wsX1_letterOf) := goodIn_app (goodIn_of _ (by decide +kernel)) ggX1_lengthOf_X1_letterOf
theorem dX1_lengthOf_0 : decode cX1_lengthOf 0 = .ok (.iconst 0, 1) := by decide +kernel
theorem dX1_lengthOf_1 : decode cX1_lengthOf 1 = .ok (.istore_n 2, 1) := by decide +kernel
theorem dX1_lengthOf_2 : decode cX1_lengthOf 2 = .ok (.iload_n 2, 1) := by decide +kernel
theorem dX1_lengthOf_3 : decode cX1_lengthOf 3 = .ok (.bipush 8, 2) := by decide +kernel
theorem dX1_lengthOf_5 : decode cX1_lengthOf 5 = .ok (.if_icmp .ge 17, 3) := by decide +kernel
theorem dX1_lengthOf_8 : decode cX1_lengthOf 8 = .ok (.lload_n 0, 1) := by decide +kernel
theorem dX1_lengthOf_9 : decode cX1_lengthOf 9 = .ok (.iload_n 2, 1) := by decide +kernel
theorem dX1_lengthOf_10 : decode cX1_lengthOf 10 = .ok (.invokestatic 15, 3) := by decide +kernel
theorem dX1_lengthOf_13 : decode cX1_lengthOf 13 = .ok (.ifCond .eq 9, 3) := by decide +kernel
theorem dX1_lengthOf_16 : decode cX1_lengthOf 16 = .ok (.iinc 2 1, 3) := by decide +kernel
theorem dX1_lengthOf_19 : decode cX1_lengthOf 19 = .ok (.goto (-17), 3) := by decide +kernel
theorem dX1_lengthOf_22 : decode cX1_lengthOf 22 = .ok (.iload_n 2, 1) := by decide +kernel
theorem dX1_lengthOf_23 : decode cX1_lengthOf 23 = .ok (.ireturn, 1) := by decide +kernel
theorem dX1_classOf_0 : decode cX1_classOf 0 = .ok (.iload_n 0, 1) := by decide +kernel
theorem dX1_classOf_1 : decode cX1_classOf 1 = .ok (.tableswitch 128 98 122 #[115, 117, 119, 128, 115, 117, 128, 128, 117, 117, 121, 123, 123, 128, 115, 117, 125, 117, 119, 128, 115, 128, 117, 128, 117], 115) := by decide +kernel
theorem dX1_classOf_116 : decode cX1_classOf 116 = .ok (.iconst 1, 1) := by decide +kernel
theorem dX1_classOf_117 : decode cX1_classOf 117 = .ok (.ireturn, 1) := by decide +kernel
theorem dX1_classOf_118 : decode cX1_classOf 118 = .ok (.iconst 2, 1) := by decide +kernel
theorem dX1_classOf_119 : decode cX1_classOf 119 = .ok (.ireturn, 1) := by decide +kernel
theorem dX1_classOf_120 : decode cX1_classOf 120 = .ok (.iconst 3, 1) := by decide +kernel
theorem dX1_classOf_121 : decode cX1_classOf 121 = .ok (.ireturn, 1) := by decide +kernel
theorem dX1_classOf_122 : decode cX1_classOf 122 = .ok (.iconst 4, 1) := by decide +kernel
theorem dX1_classOf_123 : decode cX1_classOf 123 = .ok (.ireturn, 1) := by decide +kernel
theorem dX1_classOf_124 : decode cX1_classOf 124 = .ok (.iconst 5, 1) := by decide +kernel
theorem dX1_classOf_125 : decode cX1_classOf 125 = .ok (.ireturn, 1) := by decide +kernel
theorem dX1_classOf_126 : decode cX1_classOf 126 = .ok (.bipush 6, 2) := by decide +kernel
theorem dX1_classOf_128 : decode cX1_classOf 128 = .ok (.ireturn, 1) := by decide +kernel
theorem dX1_classOf_129 : decode cX1_classOf 129 = .ok (.iconst 0, 1) := by decide +kernel
theorem dX1_classOf_130 : decode cX1_classOf 130 = .ok (.ireturn, 1) := by decide +kernel
set_option maxRecDepth 20000 in
theorem ggX1_soundOf_X1_letterOf : GoodIn wsX1_soundOf wsX1_letterOf := goodIn_r _ [4] (by decide +kernel) (by decide +kernel)
set_option maxRecDepth 20000 in
theorem gX1_soundOf_X1_letterOf : GoodIn wsX1_soundOf (va_wsS RX1 15 yX1_letterOf wsX1_letterOf) := goodIn_app (goodIn_of _ (by decide +kernel)) ggX1_soundOf_X1_letterOf
set_option maxRecDepth 20000 in
theorem ggX1_soundOf_X1_classOf : GoodIn wsX1_soundOf wsX1_classOf := goodIn_r _ [7] (by decide +kernel) (by decide +kernel)
set_option maxRecDepth 20000 in
theorem gX1_soundOf_X1_classOf : GoodIn wsX1_soundOf (va_wsS RX1 19 yX1_classOf wsX1_classOf) := goodIn_app (goodIn_of _ (by decide +kernel)) ggX1_soundOf_X1_classOf
set_option maxRecDepth 20000 in
theorem ggX1_soundOf_X1_lengthOf : GoodIn wsX1_soundOf wsX1_lengthOf := goodIn_r _ [10, 1, 2, 3, 4] (by decide +kernel) (by decide +kernel)
set_option maxRecDepth 20000 in
theorem gX1_soundOf_X1_lengthOf : GoodIn wsX1_soundOf (va_wsS RX1 23 yX1_lengthOf wsX1_lengthOf) := goodIn_app (goodIn_of _ (by decide +kernel)) ggX1_soundOf_X1_lengthOf
theorem dX1_soundOf_0 : decode cX1_soundOf 0 = .ok (.lload_n 0, 1) := by decide +kernel
theorem dX1_soundOf_1 : decode cX1_soundOf 1 = .ok (.iconst 0, 1) := by decide +kernel
theorem dX1_soundOf_2 : decode cX1_soundOf 2 = .ok (.invokestatic 15, 3) := by decide +kernel
theorem dX1_soundOf_5 : decode cX1_soundOf 5 = .ok (.invokestatic 19, 3) := by decide +kernel
theorem dX1_soundOf_8 : decode cX1_soundOf 8 = .ok (.istore_n 2, 1) := by decide +kernel
theorem dX1_soundOf_9 : decode cX1_soundOf 9 = .ok (.iload_n 2, 1) := by decide +kernel
theorem dX1_soundOf_10 : decode cX1_soundOf 10 = .ok (.iconst 1, 1) := by decide +kernel
theorem dX1_soundOf_11 : decode cX1_soundOf 11 = .ok (.iadd, 1) := by decide +kernel
theorem dX1_soundOf_12 : decode cX1_soundOf 12 = .ok (.istore_n 3, 1) := by decide +kernel
theorem dX1_soundOf_13 : decode cX1_soundOf 13 = .ok (.iconst 1, 1) := by decide +kernel
theorem dX1_soundOf_14 : decode cX1_soundOf 14 = .ok (.istore 4, 2) := by decide +kernel
theorem dX1_soundOf_16 : decode cX1_soundOf 16 = .ok (.lload_n 0, 1) := by decide +kernel
theorem dX1_soundOf_17 : decode cX1_soundOf 17 = .ok (.invokestatic 23, 3) := by decide +kernel
theorem dX1_soundOf_20 : decode cX1_soundOf 20 = .ok (.istore 5, 2) := by decide +kernel
theorem dX1_soundOf_22 : decode cX1_soundOf 22 = .ok (.iconst 1, 1) := by decide +kernel
theorem dX1_soundOf_23 : decode cX1_soundOf 23 = .ok (.istore 6, 2) := by decide +kernel
theorem dX1_soundOf_25 : decode cX1_soundOf 25 = .ok (.iload 6, 2) := by decide +kernel
theorem dX1_soundOf_27 : decode cX1_soundOf 27 = .ok (.iload 5, 2) := by decide +kernel
theorem dX1_soundOf_29 : decode cX1_soundOf 29 = .ok (.if_icmp .ge 55, 3) := by decide +kernel
theorem dX1_soundOf_32 : decode cX1_soundOf 32 = .ok (.iload 4, 2) := by decide +kernel
theorem dX1_soundOf_34 : decode cX1_soundOf 34 = .ok (.iconst 4, 1) := by decide +kernel
theorem dX1_soundOf_35 : decode cX1_soundOf 35 = .ok (.if_icmp .ge 49, 3) := by decide +kernel
theorem dX1_soundOf_38 : decode cX1_soundOf 38 = .ok (.lload_n 0, 1) := by decide +kernel
theorem dX1_soundOf_39 : decode cX1_soundOf 39 = .ok (.iload 6, 2) := by decide +kernel
theorem dX1_soundOf_41 : decode cX1_soundOf 41 = .ok (.invokestatic 15, 3) := by decide +kernel
theorem dX1_soundOf_44 : decode cX1_soundOf 44 = .ok (.invokestatic 19, 3) := by decide +kernel
theorem dX1_soundOf_47 : decode cX1_soundOf 47 = .ok (.istore 7, 2) := by decide +kernel
theorem dX1_soundOf_49 : decode cX1_soundOf 49 = .ok (.iload 7, 2) := by decide +kernel
theorem dX1_soundOf_51 : decode cX1_soundOf 51 = .ok (.ifCond .eq 24, 3) := by decide +kernel
theorem dX1_soundOf_54 : decode cX1_soundOf 54 = .ok (.iload 7, 2) := by decide +kernel
theorem dX1_soundOf_56 : decode cX1_soundOf 56 = .ok (.iload_n 2, 1) := by decide +kernel
theorem dX1_soundOf_57 : decode cX1_soundOf 57 = .ok (.if_icmp .eq 18, 3) := by decide +kernel
theorem dX1_soundOf_60 : decode cX1_soundOf 60 = .ok (.iload_n 3, 1) := by decide +kernel
theorem dX1_soundOf_61 : decode cX1_soundOf 61 = .ok (.iload 7, 2) := by decide +kernel
theorem dX1_soundOf_63 : decode cX1_soundOf 63 = .ok (.iconst 1, 1) := by decide +kernel
theorem dX1_soundOf_64 : decode cX1_soundOf 64 = .ok (.iadd, 1) := by decide +kernel
theorem dX1_soundOf_65 : decode cX1_soundOf 65 = .ok (.iconst 4, 1) := by decide +kernel
theorem dX1_soundOf_66 : decode cX1_soundOf 66 = .ok (.iload 4, 2) := by decide +kernel
theorem dX1_soundOf_68 : decode cX1_soundOf 68 = .ok (.imul, 1) := by decide +kernel
theorem dX1_soundOf_69 : decode cX1_soundOf 69 = .ok (.ishl, 1) := by decide +kernel
theorem dX1_soundOf_70 : decode cX1_soundOf 70 = .ok (.ior, 1) := by decide +kernel
theorem dX1_soundOf_71 : decode cX1_soundOf 71 = .ok (.istore_n 3, 1) := by decide +kernel
theorem dX1_soundOf_72 : decode cX1_soundOf 72 = .ok (.iinc 4 1, 3) := by decide +kernel
theorem dX1_soundOf_75 : decode cX1_soundOf 75 = .ok (.iload 7, 2) := by decide +kernel
theorem dX1_soundOf_77 : decode cX1_soundOf 77 = .ok (.istore_n 2, 1) := by decide +kernel
theorem dX1_soundOf_78 : decode cX1_soundOf 78 = .ok (.iinc 6 1, 3) := by decide +kernel
theorem dX1_soundOf_81 : decode cX1_soundOf 81 = .ok (.goto (-56), 3) := by decide +kernel
theorem dX1_soundOf_84 : decode cX1_soundOf 84 = .ok (.iload_n 3, 1) := by decide +kernel
theorem dX1_soundOf_85 : decode cX1_soundOf 85 = .ok (.ireturn, 1) := by decide +kernel
set_option maxRecDepth 20000 in
theorem ggX1_lengthOfSound_X1_classOfSound : GoodIn wsX1_lengthOfSound wsX1_classOfSound := goodIn_r _ [4] (by decide +kernel) (by decide +kernel)
set_option maxRecDepth 20000 in
theorem gX1_lengthOfSound_X1_classOfSound : GoodIn wsX1_lengthOfSound (va_wsS RX1 27 yX1_classOfSound wsX1_classOfSound) := goodIn_app (goodIn_of _ (by decide +kernel)) ggX1_lengthOfSound_X1_classOfSound
theorem dX1_lengthOfSound_0 : decode cX1_lengthOfSound 0 = .ok (.iconst 0, 1) := by decide +kernel
theorem dX1_lengthOfSound_1 : decode cX1_lengthOfSound 1 = .ok (.istore_n 1, 1) := by decide +kernel
theorem dX1_lengthOfSound_2 : decode cX1_lengthOfSound 2 = .ok (.iload_n 1, 1) := by decide +kernel
theorem dX1_lengthOfSound_3 : decode cX1_lengthOfSound 3 = .ok (.iconst 4, 1) := by decide +kernel
theorem dX1_lengthOfSound_4 : decode cX1_lengthOfSound 4 = .ok (.if_icmp .ge 17, 3) := by decide +kernel
theorem dX1_lengthOfSound_7 : decode cX1_lengthOfSound 7 = .ok (.iload_n 0, 1) := by decide +kernel
theorem dX1_lengthOfSound_8 : decode cX1_lengthOfSound 8 = .ok (.iload_n 1, 1) := by decide +kernel
theorem dX1_lengthOfSound_9 : decode cX1_lengthOfSound 9 = .ok (.invokestatic 27, 3) := by decide +kernel
theorem dX1_lengthOfSound_12 : decode cX1_lengthOfSound 12 = .ok (.ifCond .lt 9, 3) := by decide +kernel
theorem dX1_lengthOfSound_15 : decode cX1_lengthOfSound 15 = .ok (.iinc 1 1, 3) := by decide +kernel
theorem dX1_lengthOfSound_18 : decode cX1_lengthOfSound 18 = .ok (.goto (-16), 3) := by decide +kernel
theorem dX1_lengthOfSound_21 : decode cX1_lengthOfSound 21 = .ok (.iload_n 1, 1) := by decide +kernel
theorem dX1_lengthOfSound_22 : decode cX1_lengthOfSound 22 = .ok (.ireturn, 1) := by decide +kernel
theorem dX1_classOfSound_0 : decode cX1_classOfSound 0 = .ok (.iload_n 0, 1) := by decide +kernel
theorem dX1_classOfSound_1 : decode cX1_classOfSound 1 = .ok (.iconst 4, 1) := by decide +kernel
theorem dX1_classOfSound_2 : decode cX1_classOfSound 2 = .ok (.iload_n 1, 1) := by decide +kernel
theorem dX1_classOfSound_3 : decode cX1_classOfSound 3 = .ok (.imul, 1) := by decide +kernel
theorem dX1_classOfSound_4 : decode cX1_classOfSound 4 = .ok (.iushr, 1) := by decide +kernel
theorem dX1_classOfSound_5 : decode cX1_classOfSound 5 = .ok (.bipush 15, 2) := by decide +kernel
theorem dX1_classOfSound_7 : decode cX1_classOfSound 7 = .ok (.iand, 1) := by decide +kernel
theorem dX1_classOfSound_8 : decode cX1_classOfSound 8 = .ok (.iconst 1, 1) := by decide +kernel
theorem dX1_classOfSound_9 : decode cX1_classOfSound 9 = .ok (.isub, 1) := by decide +kernel
theorem dX1_classOfSound_10 : decode cX1_classOfSound 10 = .ok (.ireturn, 1) := by decide +kernel
set_option maxRecDepth 20000 in
theorem ggX1_areAlike_X1_soundOf : GoodIn wsX1_areAlike wsX1_soundOf := goodIn_r _ [4, 5, 6, 3, 7, 8, 9, 10, 11, 12, 13] (by decide +kernel) (by decide +kernel)
set_option maxRecDepth 20000 in
theorem gX1_areAlike_X1_soundOf : GoodIn wsX1_areAlike (va_wsS RX1 31 yX1_soundOf wsX1_soundOf) := goodIn_app (goodIn_of _ (by decide +kernel)) ggX1_areAlike_X1_soundOf
set_option maxRecDepth 20000 in
theorem ggX1_areAlike_X1_distance : GoodIn wsX1_areAlike wsX1_distance := goodIn_r _ [17, 18, 19, 20, 21, 22, 11, 12, 3, 13, 5, 6, 7, 23] (by decide +kernel) (by decide +kernel)
set_option maxRecDepth 20000 in
theorem gX1_areAlike_X1_distance : GoodIn wsX1_areAlike (wsV RX1 34 RX1 yX1_distance wsX1_distance) := goodIn_app (goodIn_of _ (by decide +kernel)) ggX1_areAlike_X1_distance
theorem dX1_areAlike_0 : decode cX1_areAlike 0 = .ok (.iload 5, 2) := by decide +kernel
theorem dX1_areAlike_2 : decode cX1_areAlike 2 = .ok (.ifCond .ne 15, 3) := by decide +kernel
theorem dX1_areAlike_5 : decode cX1_areAlike 5 = .ok (.lload_n 1, 1) := by decide +kernel
theorem dX1_areAlike_6 : decode cX1_areAlike 6 = .ok (.lload_n 3, 1) := by decide +kernel
theorem dX1_areAlike_7 : decode cX1_areAlike 7 = .ok (.lcmp, 1) := by decide +kernel
theorem dX1_areAlike_8 : decode cX1_areAlike 8 = .ok (.ifCond .ne 7, 3) := by decide +kernel
theorem dX1_areAlike_11 : decode cX1_areAlike 11 = .ok (.iconst 1, 1) := by decide +kernel
theorem dX1_areAlike_12 : decode cX1_areAlike 12 = .ok (.goto 4, 3) := by decide +kernel
theorem dX1_areAlike_15 : decode cX1_areAlike 15 = .ok (.iconst 0, 1) := by decide +kernel
theorem dX1_areAlike_16 : decode cX1_areAlike 16 = .ok (.ireturn, 1) := by decide +kernel
theorem dX1_areAlike_17 : decode cX1_areAlike 17 = .ok (.iload 5, 2) := by decide +kernel
theorem dX1_areAlike_19 : decode cX1_areAlike 19 = .ok (.iconst 1, 1) := by decide +kernel
theorem dX1_areAlike_20 : decode cX1_areAlike 20 = .ok (.if_icmp .ne 20, 3) := by decide +kernel
theorem dX1_areAlike_23 : decode cX1_areAlike 23 = .ok (.lload_n 1, 1) := by decide +kernel
theorem dX1_areAlike_24 : decode cX1_areAlike 24 = .ok (.invokestatic 31, 3) := by decide +kernel
theorem dX1_areAlike_27 : decode cX1_areAlike 27 = .ok (.lload_n 3, 1) := by decide +kernel
theorem dX1_areAlike_28 : decode cX1_areAlike 28 = .ok (.invokestatic 31, 3) := by decide +kernel
theorem dX1_areAlike_31 : decode cX1_areAlike 31 = .ok (.if_icmp .ne 7, 3) := by decide +kernel
theorem dX1_areAlike_34 : decode cX1_areAlike 34 = .ok (.iconst 1, 1) := by decide +kernel
theorem dX1_areAlike_35 : decode cX1_areAlike 35 = .ok (.goto 4, 3) := by decide +kernel
theorem dX1_areAlike_38 : decode cX1_areAlike 38 = .ok (.iconst 0, 1) := by decide +kernel
theorem dX1_areAlike_39 : decode cX1_areAlike 39 = .ok (.ireturn, 1) := by decide +kernel
theorem dX1_areAlike_40 : decode cX1_areAlike 40 = .ok (.aload_n 0, 1) := by decide +kernel
theorem dX1_areAlike_41 : decode cX1_areAlike 41 = .ok (.lload_n 1, 1) := by decide +kernel
theorem dX1_areAlike_42 : decode cX1_areAlike 42 = .ok (.lload_n 3, 1) := by decide +kernel
theorem dX1_areAlike_43 : decode cX1_areAlike 43 = .ok (.invokevirtual 34, 3) := by decide +kernel
theorem dX1_areAlike_46 : decode cX1_areAlike 46 = .ok (.iconst 1, 1) := by decide +kernel
theorem dX1_areAlike_47 : decode cX1_areAlike 47 = .ok (.if_icmp .gt 7, 3) := by decide +kernel
theorem dX1_areAlike_50 : decode cX1_areAlike 50 = .ok (.iconst 1, 1) := by decide +kernel
theorem dX1_areAlike_51 : decode cX1_areAlike 51 = .ok (.goto 4, 3) := by decide +kernel
theorem dX1_areAlike_54 : decode cX1_areAlike 54 = .ok (.iconst 0, 1) := by decide +kernel
theorem dX1_areAlike_55 : decode cX1_areAlike 55 = .ok (.ireturn, 1) := by decide +kernel
set_option maxRecDepth 20000 in
theorem ggX1_distance_X1_lengthOf : GoodIn wsX1_distance wsX1_lengthOf := goodIn_r _ [9, 10, 11, 8, 12] (by decide +kernel) (by decide +kernel)
set_option maxRecDepth 20000 in
theorem gX1_distance_X1_lengthOf : GoodIn wsX1_distance (va_wsS RX1 23 yX1_lengthOf wsX1_lengthOf) := goodIn_app (goodIn_of _ (by decide +kernel)) ggX1_distance_X1_lengthOf
set_option maxRecDepth 20000 in
theorem ggX1_distance_X1_letterOf : GoodIn wsX1_distance wsX1_letterOf := goodIn_r _ [12] (by decide +kernel) (by decide +kernel)
set_option maxRecDepth 20000 in
theorem gX1_distance_X1_letterOf : GoodIn wsX1_distance (va_wsS RX1 15 yX1_letterOf wsX1_letterOf) := goodIn_app (goodIn_of _ (by decide +kernel)) ggX1_distance_X1_letterOf
theorem dX1_distance_0 : decode cX1_distance 0 = .ok (.lload_n 1, 1) := by decide +kernel
theorem dX1_distance_1 : decode cX1_distance 1 = .ok (.invokestatic 23, 3) := by decide +kernel
theorem dX1_distance_4 : decode cX1_distance 4 = .ok (.istore 5, 2) := by decide +kernel
theorem dX1_distance_6 : decode cX1_distance 6 = .ok (.lload_n 3, 1) := by decide +kernel
theorem dX1_distance_7 : decode cX1_distance 7 = .ok (.invokestatic 23, 3) := by decide +kernel
theorem dX1_distance_10 : decode cX1_distance 10 = .ok (.istore 6, 2) := by decide +kernel
theorem dX1_distance_12 : decode cX1_distance 12 = .ok (.iconst 0, 1) := by decide +kernel
theorem dX1_distance_13 : decode cX1_distance 13 = .ok (.istore 7, 2) := by decide +kernel
theorem dX1_distance_15 : decode cX1_distance 15 = .ok (.iload 7, 2) := by decide +kernel
theorem dX1_distance_17 : decode cX1_distance 17 = .ok (.iload 6, 2) := by decide +kernel
theorem dX1_distance_19 : decode cX1_distance 19 = .ok (.if_icmp .gt 18, 3) := by decide +kernel
theorem dX1_distance_22 : decode cX1_distance 22 = .ok (.aload_n 0, 1) := by decide +kernel
theorem dX1_distance_23 : decode cX1_distance 23 = .ok (.getfield 9, 3) := by decide +kernel
theorem dX1_distance_26 : decode cX1_distance 26 = .ok (.iload 7, 2) := by decide +kernel
theorem dX1_distance_28 : decode cX1_distance 28 = .ok (.iload 7, 2) := by decide +kernel
theorem dX1_distance_30 : decode cX1_distance 30 = .ok (.iastore, 1) := by decide +kernel
theorem dX1_distance_31 : decode cX1_distance 31 = .ok (.iinc 7 1, 3) := by decide +kernel
theorem dX1_distance_34 : decode cX1_distance 34 = .ok (.goto (-19), 3) := by decide +kernel
theorem dX1_distance_37 : decode cX1_distance 37 = .ok (.iconst 1, 1) := by decide +kernel
theorem dX1_distance_38 : decode cX1_distance 38 = .ok (.istore 7, 2) := by decide +kernel
theorem dX1_distance_40 : decode cX1_distance 40 = .ok (.iload 7, 2) := by decide +kernel
theorem dX1_distance_42 : decode cX1_distance 42 = .ok (.iload 5, 2) := by decide +kernel
theorem dX1_distance_44 : decode cX1_distance 44 = .ok (.if_icmp .gt 108, 3) := by decide +kernel
theorem dX1_distance_47 : decode cX1_distance 47 = .ok (.aload_n 0, 1) := by decide +kernel
theorem dX1_distance_48 : decode cX1_distance 48 = .ok (.getfield 9, 3) := by decide +kernel
theorem dX1_distance_51 : decode cX1_distance 51 = .ok (.iconst 0, 1) := by decide +kernel
theorem dX1_distance_52 : decode cX1_distance 52 = .ok (.iaload, 1) := by decide +kernel
theorem dX1_distance_53 : decode cX1_distance 53 = .ok (.istore 8, 2) := by decide +kernel
theorem dX1_distance_55 : decode cX1_distance 55 = .ok (.aload_n 0, 1) := by decide +kernel
theorem dX1_distance_56 : decode cX1_distance 56 = .ok (.getfield 9, 3) := by decide +kernel
theorem dX1_distance_59 : decode cX1_distance 59 = .ok (.iconst 0, 1) := by decide +kernel
theorem dX1_distance_60 : decode cX1_distance 60 = .ok (.iload 7, 2) := by decide +kernel
theorem dX1_distance_62 : decode cX1_distance 62 = .ok (.iastore, 1) := by decide +kernel
theorem dX1_distance_63 : decode cX1_distance 63 = .ok (.iconst 1, 1) := by decide +kernel
theorem dX1_distance_64 : decode cX1_distance 64 = .ok (.istore 9, 2) := by decide +kernel
theorem dX1_distance_66 : decode cX1_distance 66 = .ok (.iload 9, 2) := by decide +kernel
theorem dX1_distance_68 : decode cX1_distance 68 = .ok (.iload 6, 2) := by decide +kernel
theorem dX1_distance_70 : decode cX1_distance 70 = .ok (.if_icmp .gt 76, 3) := by decide +kernel
theorem dX1_distance_73 : decode cX1_distance 73 = .ok (.lload_n 1, 1) := by decide +kernel
theorem dX1_distance_74 : decode cX1_distance 74 = .ok (.iload 7, 2) := by decide +kernel
theorem dX1_distance_76 : decode cX1_distance 76 = .ok (.iconst 1, 1) := by decide +kernel
theorem dX1_distance_77 : decode cX1_distance 77 = .ok (.isub, 1) := by decide +kernel
theorem dX1_distance_78 : decode cX1_distance 78 = .ok (.invokestatic 15, 3) := by decide +kernel
theorem dX1_distance_81 : decode cX1_distance 81 = .ok (.lload_n 3, 1) := by decide +kernel
theorem dX1_distance_82 : decode cX1_distance 82 = .ok (.iload 9, 2) := by decide +kernel
theorem dX1_distance_84 : decode cX1_distance 84 = .ok (.iconst 1, 1) := by decide +kernel
theorem dX1_distance_85 : decode cX1_distance 85 = .ok (.isub, 1) := by decide +kernel
theorem dX1_distance_86 : decode cX1_distance 86 = .ok (.invokestatic 15, 3) := by decide +kernel
theorem dX1_distance_89 : decode cX1_distance 89 = .ok (.if_icmp .ne 8, 3) := by decide +kernel
theorem dX1_distance_92 : decode cX1_distance 92 = .ok (.iload 8, 2) := by decide +kernel
theorem dX1_distance_94 : decode cX1_distance 94 = .ok (.goto 7, 3) := by decide +kernel
theorem dX1_distance_97 : decode cX1_distance 97 = .ok (.iload 8, 2) := by decide +kernel
theorem dX1_distance_99 : decode cX1_distance 99 = .ok (.iconst 1, 1) := by decide +kernel
theorem dX1_distance_100 : decode cX1_distance 100 = .ok (.iadd, 1) := by decide +kernel
theorem dX1_distance_101 : decode cX1_distance 101 = .ok (.istore 10, 2) := by decide +kernel
theorem dX1_distance_103 : decode cX1_distance 103 = .ok (.aload_n 0, 1) := by decide +kernel
theorem dX1_distance_104 : decode cX1_distance 104 = .ok (.getfield 9, 3) := by decide +kernel
theorem dX1_distance_107 : decode cX1_distance 107 = .ok (.iload 9, 2) := by decide +kernel
theorem dX1_distance_109 : decode cX1_distance 109 = .ok (.iaload, 1) := by decide +kernel
theorem dX1_distance_110 : decode cX1_distance 110 = .ok (.istore 8, 2) := by decide +kernel
theorem dX1_distance_112 : decode cX1_distance 112 = .ok (.aload_n 0, 1) := by decide +kernel
theorem dX1_distance_113 : decode cX1_distance 113 = .ok (.getfield 9, 3) := by decide +kernel
theorem dX1_distance_116 : decode cX1_distance 116 = .ok (.iload 9, 2) := by decide +kernel
theorem dX1_distance_118 : decode cX1_distance 118 = .ok (.iload 10, 2) := by decide +kernel
theorem dX1_distance_120 : decode cX1_distance 120 = .ok (.iload 8, 2) := by decide +kernel
theorem dX1_distance_122 : decode cX1_distance 122 = .ok (.aload_n 0, 1) := by decide +kernel
theorem dX1_distance_123 : decode cX1_distance 123 = .ok (.getfield 9, 3) := by decide +kernel
theorem dX1_distance_126 : decode cX1_distance 126 = .ok (.iload 9, 2) := by decide +kernel
theorem dX1_distance_128 : decode cX1_distance 128 = .ok (.iconst 1, 1) := by decide +kernel
theorem dX1_distance_129 : decode cX1_distance 129 = .ok (.isub, 1) := by decide +kernel
theorem dX1_distance_130 : decode cX1_distance 130 = .ok (.iaload, 1) := by decide +kernel
theorem dX1_distance_131 : decode cX1_distance 131 = .ok (.invokestatic 38, 3) := by decide +kernel
theorem dX1_distance_134 : decode cX1_distance 134 = .ok (.iconst 1, 1) := by decide +kernel
theorem dX1_distance_135 : decode cX1_distance 135 = .ok (.iadd, 1) := by decide +kernel
theorem dX1_distance_136 : decode cX1_distance 136 = .ok (.invokestatic 38, 3) := by decide +kernel
theorem dX1_distance_139 : decode cX1_distance 139 = .ok (.iastore, 1) := by decide +kernel
theorem dX1_distance_140 : decode cX1_distance 140 = .ok (.iinc 9 1, 3) := by decide +kernel
theorem dX1_distance_143 : decode cX1_distance 143 = .ok (.goto (-77), 3) := by decide +kernel
theorem dX1_distance_146 : decode cX1_distance 146 = .ok (.iinc 7 1, 3) := by decide +kernel
theorem dX1_distance_149 : decode cX1_distance 149 = .ok (.goto (-109), 3) := by decide +kernel
theorem dX1_distance_152 : decode cX1_distance 152 = .ok (.aload_n 0, 1) := by decide +kernel
theorem dX1_distance_153 : decode cX1_distance 153 = .ok (.getfield 9, 3) := by decide +kernel
theorem dX1_distance_156 : decode cX1_distance 156 = .ok (.iload 6, 2) := by decide +kernel
theorem dX1_distance_158 : decode cX1_distance 158 = .ok (.iaload, 1) := by decide +kernel
theorem dX1_distance_159 : decode cX1_distance 159 = .ok (.ireturn, 1) := by decide +kernel
theorem dJ6_bitCount_0f7a4_0 : decode cJ6_bitCount_0f7a4 0 = .ok (.iload_n 0, 1) := by decide +kernel
theorem dJ6_bitCount_0f7a4_1 : decode cJ6_bitCount_0f7a4 1 = .ok (.iload_n 0, 1) := by decide +kernel
theorem dJ6_bitCount_0f7a4_2 : decode cJ6_bitCount_0f7a4 2 = .ok (.iconst 1, 1) := by decide +kernel
theorem dJ6_bitCount_0f7a4_3 : decode cJ6_bitCount_0f7a4 3 = .ok (.iushr, 1) := by decide +kernel
theorem dJ6_bitCount_0f7a4_4 : decode cJ6_bitCount_0f7a4 4 = .ok (.ldc_w 265, 3) := by decide +kernel
theorem dJ6_bitCount_0f7a4_7 : decode cJ6_bitCount_0f7a4 7 = .ok (.iand, 1) := by decide +kernel
theorem dJ6_bitCount_0f7a4_8 : decode cJ6_bitCount_0f7a4 8 = .ok (.isub, 1) := by decide +kernel
theorem dJ6_bitCount_0f7a4_9 : decode cJ6_bitCount_0f7a4 9 = .ok (.istore_n 0, 1) := by decide +kernel
theorem dJ6_bitCount_0f7a4_10 : decode cJ6_bitCount_0f7a4 10 = .ok (.iload_n 0, 1) := by decide +kernel
theorem dJ6_bitCount_0f7a4_11 : decode cJ6_bitCount_0f7a4 11 = .ok (.ldc_w 266, 3) := by decide +kernel
theorem dJ6_bitCount_0f7a4_14 : decode cJ6_bitCount_0f7a4 14 = .ok (.iand, 1) := by decide +kernel
theorem dJ6_bitCount_0f7a4_15 : decode cJ6_bitCount_0f7a4 15 = .ok (.iload_n 0, 1) := by decide +kernel
theorem dJ6_bitCount_0f7a4_16 : decode cJ6_bitCount_0f7a4 16 = .ok (.iconst 2, 1) := by decide +kernel
theorem dJ6_bitCount_0f7a4_17 : decode cJ6_bitCount_0f7a4 17 = .ok (.iushr, 1) := by decide +kernel
theorem dJ6_bitCount_0f7a4_18 : decode cJ6_bitCount_0f7a4 18 = .ok (.ldc_w 266, 3) := by decide +kernel
theorem dJ6_bitCount_0f7a4_21 : decode cJ6_bitCount_0f7a4 21 = .ok (.iand, 1) := by decide +kernel
theorem dJ6_bitCount_0f7a4_22 : decode cJ6_bitCount_0f7a4 22 = .ok (.iadd, 1) := by decide +kernel
theorem dJ6_bitCount_0f7a4_23 : decode cJ6_bitCount_0f7a4 23 = .ok (.istore_n 0, 1) := by decide +kernel
theorem dJ6_bitCount_0f7a4_24 : decode cJ6_bitCount_0f7a4 24 = .ok (.iload_n 0, 1) := by decide +kernel
theorem dJ6_bitCount_0f7a4_25 : decode cJ6_bitCount_0f7a4 25 = .ok (.iload_n 0, 1) := by decide +kernel
theorem dJ6_bitCount_0f7a4_26 : decode cJ6_bitCount_0f7a4 26 = .ok (.iconst 4, 1) := by decide +kernel
theorem dJ6_bitCount_0f7a4_27 : decode cJ6_bitCount_0f7a4 27 = .ok (.iushr, 1) := by decide +kernel
theorem dJ6_bitCount_0f7a4_28 : decode cJ6_bitCount_0f7a4 28 = .ok (.iadd, 1) := by decide +kernel
theorem dJ6_bitCount_0f7a4_29 : decode cJ6_bitCount_0f7a4 29 = .ok (.ldc_w 267, 3) := by decide +kernel
theorem dJ6_bitCount_0f7a4_32 : decode cJ6_bitCount_0f7a4 32 = .ok (.iand, 1) := by decide +kernel
theorem dJ6_bitCount_0f7a4_33 : decode cJ6_bitCount_0f7a4 33 = .ok (.istore_n 0, 1) := by decide +kernel
theorem dJ6_bitCount_0f7a4_34 : decode cJ6_bitCount_0f7a4 34 = .ok (.iload_n 0, 1) := by decide +kernel
theorem dJ6_bitCount_0f7a4_35 : decode cJ6_bitCount_0f7a4 35 = .ok (.iload_n 0, 1) := by decide +kernel
theorem dJ6_bitCount_0f7a4_36 : decode cJ6_bitCount_0f7a4 36 = .ok (.bipush 8, 2) := by decide +kernel
theorem dJ6_bitCount_0f7a4_38 : decode cJ6_bitCount_0f7a4 38 = .ok (.iushr, 1) := by decide +kernel
theorem dJ6_bitCount_0f7a4_39 : decode cJ6_bitCount_0f7a4 39 = .ok (.iadd, 1) := by decide +kernel
theorem dJ6_bitCount_0f7a4_40 : decode cJ6_bitCount_0f7a4 40 = .ok (.istore_n 0, 1) := by decide +kernel
theorem dJ6_bitCount_0f7a4_41 : decode cJ6_bitCount_0f7a4 41 = .ok (.iload_n 0, 1) := by decide +kernel
theorem dJ6_bitCount_0f7a4_42 : decode cJ6_bitCount_0f7a4 42 = .ok (.iload_n 0, 1) := by decide +kernel
theorem dJ6_bitCount_0f7a4_43 : decode cJ6_bitCount_0f7a4 43 = .ok (.bipush 16, 2) := by decide +kernel
theorem dJ6_bitCount_0f7a4_45 : decode cJ6_bitCount_0f7a4 45 = .ok (.iushr, 1) := by decide +kernel
theorem dJ6_bitCount_0f7a4_46 : decode cJ6_bitCount_0f7a4 46 = .ok (.iadd, 1) := by decide +kernel
theorem dJ6_bitCount_0f7a4_47 : decode cJ6_bitCount_0f7a4 47 = .ok (.istore_n 0, 1) := by decide +kernel
theorem dJ6_bitCount_0f7a4_48 : decode cJ6_bitCount_0f7a4 48 = .ok (.iload_n 0, 1) := by decide +kernel
theorem dJ6_bitCount_0f7a4_49 : decode cJ6_bitCount_0f7a4 49 = .ok (.bipush 63, 2) := by decide +kernel
theorem dJ6_bitCount_0f7a4_51 : decode cJ6_bitCount_0f7a4 51 = .ok (.iand, 1) := by decide +kernel
theorem dJ6_bitCount_0f7a4_52 : decode cJ6_bitCount_0f7a4 52 = .ok (.ireturn, 1) := by decide +kernel
theorem dJ9_max_7cf53_0 : decode cJ9_max_7cf53 0 = .ok (.iload_n 0, 1) := by decide +kernel
theorem dJ9_max_7cf53_1 : decode cJ9_max_7cf53 1 = .ok (.iload_n 1, 1) := by decide +kernel
theorem dJ9_max_7cf53_2 : decode cJ9_max_7cf53 2 = .ok (.if_icmp .lt 7, 3) := by decide +kernel
theorem dJ9_max_7cf53_5 : decode cJ9_max_7cf53 5 = .ok (.iload_n 0, 1) := by decide +kernel
theorem dJ9_max_7cf53_6 : decode cJ9_max_7cf53 6 = .ok (.goto 4, 3) := by decide +kernel
theorem dJ9_max_7cf53_9 : decode cJ9_max_7cf53 9 = .ok (.iload_n 1, 1) := by decide +kernel
theorem dJ9_max_7cf53_10 : decode cJ9_max_7cf53 10 = .ok (.ireturn, 1) := by decide +kernel
theorem dJ9_min_7cf53_0 : decode cJ9_min_7cf53 0 = .ok (.iload_n 0, 1) := by decide +kernel
theorem dJ9_min_7cf53_1 : decode cJ9_min_7cf53 1 = .ok (.iload_n 1, 1) := by decide +kernel
theorem dJ9_min_7cf53_2 : decode cJ9_min_7cf53 2 = .ok (.if_icmp .gt 7, 3) := by decide +kernel
theorem dJ9_min_7cf53_5 : decode cJ9_min_7cf53 5 = .ok (.iload_n 0, 1) := by decide +kernel
theorem dJ9_min_7cf53_6 : decode cJ9_min_7cf53 6 = .ok (.goto 4, 3) := by decide +kernel
theorem dJ9_min_7cf53_9 : decode cJ9_min_7cf53 9 = .ok (.iload_n 1, 1) := by decide +kernel
theorem dJ9_min_7cf53_10 : decode cJ9_min_7cf53 10 = .ok (.ireturn, 1) := by decide +kernel
