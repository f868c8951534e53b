theorem dX2_span_29 : decode cX2_span 29 = .ok (.aload_n 0, 1) := by decide +kernel
theorem dX2_span_30 : decode cX2_span 30 = .ok (.getfield 10, 3) := by decide +kernel
theorem dX2_span_33 : decode cX2_span 33 = .ok (.iconst 0, 1) := by decide +kernel
theorem dX2_span_34 : decode cX2_span 34 = .ok (.invokevirtual 99, 3) := by decide +kernel
theorem dX2_span_37 : decode cX2_span 37 = .ok (.istore 5, 2) := by decide +kernel
theorem dX2_span_39 : decode cX2_span 39 = .ok (.iconst 0, 1) := by decide +kernel
theorem dX2_span_40 : decode cX2_span 40 = .ok (.istore 6, 2) := by decide +kernel
theorem dX2_span_42 : decode cX2_span 42 = .ok (.iload 6, 2) := by decide +kernel
theorem dX2_span_44 : decode cX2_span 44 = .ok (.bipush 30, 2) := by decide +kernel
theorem dX2_span_46 : decode cX2_span 46 = .ok (.if_icmp .gt 57, 3) := by decide +kernel
theorem dX2_span_49 : decode cX2_span 49 = .ok (.iload 5, 2) := by decide +kernel
theorem dX2_span_51 : decode cX2_span 51 = .ok (.aload_n 0, 1) := by decide +kernel
theorem dX2_span_52 : decode cX2_span 52 = .ok (.getfield 10, 3) := by decide +kernel
theorem dX2_span_55 : decode cX2_span 55 = .ok (.invokevirtual 86, 3) := by decide +kernel
theorem dX2_span_58 : decode cX2_span 58 = .ok (.if_icmp .gt 45, 3) := by decide +kernel
theorem dX2_span_61 : decode cX2_span 61 = .ok (.aload_n 0, 1) := by decide +kernel
theorem dX2_span_62 : decode cX2_span 62 = .ok (.getfield 10, 3) := by decide +kernel
theorem dX2_span_65 : decode cX2_span 65 = .ok (.iload_n 1, 1) := by decide +kernel
theorem dX2_span_66 : decode cX2_span 66 = .ok (.iload 5, 2) := by decide +kernel
theorem dX2_span_68 : decode cX2_span 68 = .ok (.invokevirtual 166, 3) := by decide +kernel
theorem dX2_span_71 : decode cX2_span 71 = .ok (.istore 7, 2) := by decide +kernel
theorem dX2_span_73 : decode cX2_span 73 = .ok (.iload 4, 2) := by decide +kernel
theorem dX2_span_75 : decode cX2_span 75 = .ok (.iload_n 2, 1) := by decide +kernel
theorem dX2_span_76 : decode cX2_span 76 = .ok (.if_icmp .ne 14, 3) := by decide +kernel
theorem dX2_span_79 : decode cX2_span 79 = .ok (.aload_n 0, 1) := by decide +kernel
theorem dX2_span_80 : decode cX2_span 80 = .ok (.iload_n 1, 1) := by decide +kernel
theorem dX2_span_81 : decode cX2_span 81 = .ok (.iload 5, 2) := by decide +kernel
theorem dX2_span_83 : decode cX2_span 83 = .ok (.iload 7, 2) := by decide +kernel
theorem dX2_span_85 : decode cX2_span 85 = .ok (.iload_n 3, 1) := by decide +kernel
theorem dX2_span_86 : decode cX2_span 86 = .ok (.invokevirtual 169, 3) := by decide +kernel
theorem dX2_span_89 : decode cX2_span 89 = .ok (.ireturn, 1) := by decide +kernel
theorem dX2_span_90 : decode cX2_span 90 = .ok (.iinc 4 1, 3) := by decide +kernel
theorem dX2_span_93 : decode cX2_span 93 = .ok (.iload 7, 2) := by decide +kernel
theorem dX2_span_95 : decode cX2_span 95 = .ok (.istore 5, 2) := by decide +kernel
theorem dX2_span_97 : decode cX2_span 97 = .ok (.iinc 6 1, 3) := by decide +kernel
theorem dX2_span_100 : decode cX2_span 100 = .ok (.goto (-58), 3) := by decide +kernel
theorem dX2_span_103 : decode cX2_span 103 = .ok (.iload_n 2, 1) := by decide +kernel
theorem dX2_span_104 : decode cX2_span 104 = .ok (.iconst (-1), 1) := by decide +kernel
theorem dX2_span_105 : decode cX2_span 105 = .ok (.if_icmp .ne 8, 3) := by decide +kernel
theorem dX2_span_108 : decode cX2_span 108 = .ok (.iload 4, 2) := by decide +kernel
theorem dX2_span_110 : decode cX2_span 110 = .ok (.goto 5, 3) := by decide +kernel
theorem dX2_span_113 : decode cX2_span 113 = .ok (.bipush (-6), 2) := by decide +kernel
theorem dX2_span_115 : decode cX2_span 115 = .ok (.ireturn, 1) := by decide +kernel
set_option maxRecDepth 20000 in
theorem ggX2_heirs_X0_knows : GoodIn wsX2_heirs wsX0_knows := goodIn_r _ [6, 7, 44, 45, 46, 47, 48, 49, 50, 51] (by decide +kernel) (by decide +kernel)
set_option maxRecDepth 20000 in
theorem gX2_heirs_X0_knows : GoodIn wsX2_heirs (wsV RX2 43 RX0 yX0_knows wsX0_knows) := goodIn_app (goodIn_of _ (by decide +kernel)) ggX2_heirs_X0_knows
set_option maxRecDepth 20000 in
theorem ggX2_heirs_X2_isYear : GoodIn wsX2_heirs wsX2_isYear := goodIn_r _ [11] (by decide +kernel) (by decide +kernel)
set_option maxRecDepth 20000 in
theorem gX2_heirs_X2_isYear : GoodIn wsX2_heirs (va_wsS RX2 47 yX2_isYear wsX2_isYear) := goodIn_app (goodIn_of _ (by decide +kernel)) ggX2_heirs_X2_isYear
set_option maxRecDepth 20000 in
theorem ggX2_heirs_X0_stageIn : GoodIn wsX2_heirs wsX0_stageIn := goodIn_r _ [15, 16, 17, 44, 45, 46, 47, 48, 49, 50, 51] (by decide +kernel) (by decide +kernel)
set_option maxRecDepth 20000 in
theorem gX2_heirs_X0_stageIn : GoodIn wsX2_heirs (wsV RX2 99 RX0 yX0_stageIn wsX0_stageIn) := goodIn_app (goodIn_of _ (by decide +kernel)) ggX2_heirs_X0_stageIn
set_option maxRecDepth 20000 in
theorem ggX2_heirs_X0_sitesBehind : GoodIn wsX2_heirs wsX0_sitesBehind := goodIn_r _ [21, 16, 22, 23, 5, 24, 25, 26, 27, 28, 29, 30, 31, 44, 45, 46, 47, 48, 49, 50, 51] (by decide +kernel) (by decide +kernel)
set_option maxRecDepth 20000 in
theorem gX2_heirs_X0_sitesBehind : GoodIn wsX2_heirs (wsV RX2 105 RX0 yX0_sitesBehind wsX0_sitesBehind) := goodIn_app (goodIn_of _ (by decide +kernel)) ggX2_heirs_X0_sitesBehind
set_option maxRecDepth 20000 in
theorem ggX2_heirs_X2_has : GoodIn wsX2_heirs wsX2_has := goodIn_r _ [34] (by decide +kernel) (by decide +kernel)
set_option maxRecDepth 20000 in
theorem gX2_heirs_X2_has : GoodIn wsX2_heirs (va_wsS RX2 173 yX2_has wsX2_has) := goodIn_app (goodIn_of _ (by decide +kernel)) ggX2_heirs_X2_has
set_option maxRecDepth 20000 in
theorem ggX2_heirs_X0_ownerBehind : GoodIn wsX2_heirs wsX0_ownerBehind := goodIn_r _ [38, 16, 30, 31, 33, 10, 34, 44, 45, 46, 47, 48, 49, 50, 51] (by decide +kernel) (by decide +kernel)
set_option maxRecDepth 20000 in
theorem gX2_heirs_X0_ownerBehind : GoodIn wsX2_heirs (wsV RX2 102 RX0 yX0_ownerBehind wsX0_ownerBehind) := goodIn_app (goodIn_of _ (by decide +kernel)) ggX2_heirs_X0_ownerBehind
theorem dX2_heirs_0 : decode cX2_heirs 0 = .ok (.aload_n 0, 1) := by decide +kernel
theorem dX2_heirs_1 : decode cX2_heirs 1 = .ok (.getfield 10, 3) := by decide +kernel
theorem dX2_heirs_4 : decode cX2_heirs 4 = .ok (.iload_n 1, 1) := by decide +kernel
theorem dX2_heirs_5 : decode cX2_heirs 5 = .ok (.invokevirtual 43, 3) := by decide +kernel
theorem dX2_heirs_8 : decode cX2_heirs 8 = .ok (.ifCond .ne 5, 3) := by decide +kernel
theorem dX2_heirs_11 : decode cX2_heirs 11 = .ok (.iconst (-1), 1) := by decide +kernel
theorem dX2_heirs_12 : decode cX2_heirs 12 = .ok (.ireturn, 1) := by decide +kernel
theorem dX2_heirs_13 : decode cX2_heirs 13 = .ok (.iload_n 2, 1) := by decide +kernel
theorem dX2_heirs_14 : decode cX2_heirs 14 = .ok (.invokestatic 47, 3) := by decide +kernel
theorem dX2_heirs_17 : decode cX2_heirs 17 = .ok (.ifCond .eq 10, 3) := by decide +kernel
theorem dX2_heirs_20 : decode cX2_heirs 20 = .ok (.iload_n 3, 1) := by decide +kernel
theorem dX2_heirs_21 : decode cX2_heirs 21 = .ok (.invokestatic 47, 3) := by decide +kernel
theorem dX2_heirs_24 : decode cX2_heirs 24 = .ok (.ifCond .ne 6, 3) := by decide +kernel
theorem dX2_heirs_27 : decode cX2_heirs 27 = .ok (.bipush (-2), 2) := by decide +kernel
theorem dX2_heirs_29 : decode cX2_heirs 29 = .ok (.ireturn, 1) := by decide +kernel
theorem dX2_heirs_30 : decode cX2_heirs 30 = .ok (.aload_n 0, 1) := by decide +kernel
theorem dX2_heirs_31 : decode cX2_heirs 31 = .ok (.getfield 10, 3) := by decide +kernel
theorem dX2_heirs_34 : decode cX2_heirs 34 = .ok (.iload_n 1, 1) := by decide +kernel
theorem dX2_heirs_35 : decode cX2_heirs 35 = .ok (.aload_n 0, 1) := by decide +kernel
theorem dX2_heirs_36 : decode cX2_heirs 36 = .ok (.getfield 10, 3) := by decide +kernel
theorem dX2_heirs_39 : decode cX2_heirs 39 = .ok (.iload_n 2, 1) := by decide +kernel
theorem dX2_heirs_40 : decode cX2_heirs 40 = .ok (.invokevirtual 99, 3) := by decide +kernel
theorem dX2_heirs_43 : decode cX2_heirs 43 = .ok (.invokevirtual 105, 3) := by decide +kernel
theorem dX2_heirs_46 : decode cX2_heirs 46 = .ok (.istore 4, 2) := by decide +kernel
theorem dX2_heirs_48 : decode cX2_heirs 48 = .ok (.aload_n 0, 1) := by decide +kernel
theorem dX2_heirs_49 : decode cX2_heirs 49 = .ok (.getfield 10, 3) := by decide +kernel
theorem dX2_heirs_52 : decode cX2_heirs 52 = .ok (.iload_n 3, 1) := by decide +kernel
theorem dX2_heirs_53 : decode cX2_heirs 53 = .ok (.invokevirtual 99, 3) := by decide +kernel
theorem dX2_heirs_56 : decode cX2_heirs 56 = .ok (.istore 5, 2) := by decide +kernel
theorem dX2_heirs_58 : decode cX2_heirs 58 = .ok (.iconst 0, 1) := by decide +kernel
theorem dX2_heirs_59 : decode cX2_heirs 59 = .ok (.istore 6, 2) := by decide +kernel
theorem dX2_heirs_61 : decode cX2_heirs 61 = .ok (.iconst 0, 1) := by decide +kernel
theorem dX2_heirs_62 : decode cX2_heirs 62 = .ok (.istore 7, 2) := by decide +kernel
theorem dX2_heirs_64 : decode cX2_heirs 64 = .ok (.iload 7, 2) := by decide +kernel
theorem dX2_heirs_66 : decode cX2_heirs 66 = .ok (.bipush 12, 2) := by decide +kernel
theorem dX2_heirs_68 : decode cX2_heirs 68 = .ok (.if_icmp .ge 37, 3) := by decide +kernel
theorem dX2_heirs_71 : decode cX2_heirs 71 = .ok (.iload 4, 2) := by decide +kernel
theorem dX2_heirs_73 : decode cX2_heirs 73 = .ok (.iload 7, 2) := by decide +kernel
theorem dX2_heirs_75 : decode cX2_heirs 75 = .ok (.invokestatic 173, 3) := by decide +kernel
theorem dX2_heirs_78 : decode cX2_heirs 78 = .ok (.ifCond .eq 21, 3) := by decide +kernel
theorem dX2_heirs_81 : decode cX2_heirs 81 = .ok (.iload 6, 2) := by decide +kernel
theorem dX2_heirs_83 : decode cX2_heirs 83 = .ok (.iconst 1, 1) := by decide +kernel
theorem dX2_heirs_84 : decode cX2_heirs 84 = .ok (.aload_n 0, 1) := by decide +kernel
theorem dX2_heirs_85 : decode cX2_heirs 85 = .ok (.getfield 10, 3) := by decide +kernel
theorem dX2_heirs_88 : decode cX2_heirs 88 = .ok (.iload 7, 2) := by decide +kernel
theorem dX2_heirs_90 : decode cX2_heirs 90 = .ok (.iload 5, 2) := by decide +kernel
theorem dX2_heirs_92 : decode cX2_heirs 92 = .ok (.invokevirtual 102, 3) := by decide +kernel
theorem dX2_heirs_95 : decode cX2_heirs 95 = .ok (.ishl, 1) := by decide +kernel
theorem dX2_heirs_96 : decode cX2_heirs 96 = .ok (.ior, 1) := by decide +kernel
theorem dX2_heirs_97 : decode cX2_heirs 97 = .ok (.istore 6, 2) := by decide +kernel
theorem dX2_heirs_99 : decode cX2_heirs 99 = .ok (.iinc 7 1, 3) := by decide +kernel
theorem dX2_heirs_102 : decode cX2_heirs 102 = .ok (.goto (-38), 3) := by decide +kernel
theorem dX2_heirs_105 : decode cX2_heirs 105 = .ok (.iload 6, 2) := by decide +kernel
theorem dX2_heirs_107 : decode cX2_heirs 107 = .ok (.ireturn, 1) := by decide +kernel
set_option maxRecDepth 20000 in
theorem ggX2_image_X0_becomeLike : GoodIn wsX2_image wsX0_becomeLike := goodIn_r _ [8, 9, 10, 11, 12, 13, 14, 15, 16, 17, 18, 19, 20, 26, 27, 28, 29, 30, 31, 32, 33] (by decide +kernel) (by decide +kernel)
set_option maxRecDepth 20000 in
theorem gX2_image_X0_becomeLike : GoodIn wsX2_image (wsV RX2 176 RX0 yX0_becomeLike wsX0_becomeLike) := goodIn_app (goodIn_of _ (by decide +kernel)) ggX2_image_X0_becomeLike
theorem dX2_image_0 : decode cX2_image 0 = .ok (.iload_n 1, 1) := by decide +kernel
theorem dX2_image_1 : decode cX2_image 1 = .ok (.ifCond .lt 8, 3) := by decide +kernel
theorem dX2_image_4 : decode cX2_image 4 = .ok (.iload_n 1, 1) := by decide +kernel
theorem dX2_image_5 : decode cX2_image 5 = .ok (.iconst 2, 1) := by decide +kernel
theorem dX2_image_6 : decode cX2_image 6 = .ok (.if_icmp .lt 6, 3) := by decide +kernel
theorem dX2_image_9 : decode cX2_image 9 = .ok (.bipush (-2), 2) := by decide +kernel
theorem dX2_image_11 : decode cX2_image 11 = .ok (.ireturn, 1) := by decide +kernel
theorem dX2_image_12 : decode cX2_image 12 = .ok (.aload_n 0, 1) := by decide +kernel
theorem dX2_image_13 : decode cX2_image 13 = .ok (.getfield 16, 3) := by decide +kernel
theorem dX2_image_16 : decode cX2_image 16 = .ok (.iload_n 1, 1) := by decide +kernel
theorem dX2_image_17 : decode cX2_image 17 = .ok (.aaload, 1) := by decide +kernel
theorem dX2_image_18 : decode cX2_image 18 = .ok (.aload_n 0, 1) := by decide +kernel
theorem dX2_image_19 : decode cX2_image 19 = .ok (.getfield 10, 3) := by decide +kernel
theorem dX2_image_22 : decode cX2_image 22 = .ok (.invokevirtual 176, 3) := by decide +kernel
theorem dX2_image_25 : decode cX2_image 25 = .ok (.aload_n 0, 1) := by decide +kernel
theorem dX2_image_26 : decode cX2_image 26 = .ok (.dup, 1) := by decide +kernel
theorem dX2_image_27 : decode cX2_image 27 = .ok (.getfield 27, 3) := by decide +kernel
theorem dX2_image_30 : decode cX2_image 30 = .ok (.iconst 1, 1) := by decide +kernel
theorem dX2_image_31 : decode cX2_image 31 = .ok (.iload_n 1, 1) := by decide +kernel
theorem dX2_image_32 : decode cX2_image 32 = .ok (.ishl, 1) := by decide +kernel
theorem dX2_image_33 : decode cX2_image 33 = .ok (.ior, 1) := by decide +kernel
theorem dX2_image_34 : decode cX2_image 34 = .ok (.putfield 27, 3) := by decide +kernel
theorem dX2_image_37 : decode cX2_image 37 = .ok (.iconst 1, 1) := by decide +kernel
theorem dX2_image_38 : decode cX2_image 38 = .ok (.ireturn, 1) := by decide +kernel
set_option maxRecDepth 20000 in
theorem ggX2_restore_X2_has : GoodIn wsX2_restore wsX2_has := goodIn_r _ [7] (by decide +kernel) (by decide +kernel)
set_option maxRecDepth 20000 in
theorem gX2_restore_X2_has : GoodIn wsX2_restore (va_wsS RX2 173 yX2_has wsX2_has) := goodIn_app (goodIn_of _ (by decide +kernel)) ggX2_restore_X2_has
set_option maxRecDepth 20000 in
theorem ggX2_restore_X0_becomeLike : GoodIn wsX2_restore wsX0_becomeLike := goodIn_r _ [12, 13, 14, 15, 16, 17, 18, 19, 20, 21, 22, 23, 24, 30, 31, 32, 33, 34, 35, 36, 37] (by decide +kernel) (by decide +kernel)
set_option maxRecDepth 20000 in
theorem gX2_restore_X0_becomeLike : GoodIn wsX2_restore (wsV RX2 176 RX0 yX0_becomeLike wsX0_becomeLike) := goodIn_app (goodIn_of _ (by decide +kernel)) ggX2_restore_X0_becomeLike
theorem dX2_restore_0 : decode cX2_restore 0 = .ok (.iload_n 1, 1) := by decide +kernel
theorem dX2_restore_1 : decode cX2_restore 1 = .ok (.ifCond .lt 8, 3) := by decide +kernel
theorem dX2_restore_4 : decode cX2_restore 4 = .ok (.iload_n 1, 1) := by decide +kernel
theorem dX2_restore_5 : decode cX2_restore 5 = .ok (.iconst 2, 1) := by decide +kernel
theorem dX2_restore_6 : decode cX2_restore 6 = .ok (.if_icmp .lt 6, 3) := by decide +kernel
theorem dX2_restore_9 : decode cX2_restore 9 = .ok (.bipush (-2), 2) := by decide +kernel
theorem dX2_restore_11 : decode cX2_restore 11 = .ok (.ireturn, 1) := by decide +kernel
theorem dX2_restore_12 : decode cX2_restore 12 = .ok (.aload_n 0, 1) := by decide +kernel
theorem dX2_restore_13 : decode cX2_restore 13 = .ok (.getfield 27, 3) := by decide +kernel
theorem dX2_restore_16 : decode cX2_restore 16 = .ok (.iload_n 1, 1) := by decide +kernel
theorem dX2_restore_17 : decode cX2_restore 17 = .ok (.invokestatic 173, 3) := by decide +kernel
theorem dX2_restore_20 : decode cX2_restore 20 = .ok (.ifCond .ne 6, 3) := by decide +kernel
theorem dX2_restore_23 : decode cX2_restore 23 = .ok (.bipush (-3), 2) := by decide +kernel
theorem dX2_restore_25 : decode cX2_restore 25 = .ok (.ireturn, 1) := by decide +kernel
theorem dX2_restore_26 : decode cX2_restore 26 = .ok (.aload_n 0, 1) := by decide +kernel
theorem dX2_restore_27 : decode cX2_restore 27 = .ok (.getfield 10, 3) := by decide +kernel
theorem dX2_restore_30 : decode cX2_restore 30 = .ok (.aload_n 0, 1) := by decide +kernel
theorem dX2_restore_31 : decode cX2_restore 31 = .ok (.getfield 16, 3) := by decide +kernel
theorem dX2_restore_34 : decode cX2_restore 34 = .ok (.iload_n 1, 1) := by decide +kernel
theorem dX2_restore_35 : decode cX2_restore 35 = .ok (.aaload, 1) := by decide +kernel
theorem dX2_restore_36 : decode cX2_restore 36 = .ok (.invokevirtual 176, 3) := by decide +kernel
theorem dX2_restore_39 : decode cX2_restore 39 = .ok (.iconst 1, 1) := by decide +kernel
theorem dX2_restore_40 : decode cX2_restore 40 = .ok (.ireturn, 1) := by decide +kernel
set_option maxRecDepth 20000 in
theorem ggX2_count_X0_eventCount : GoodIn wsX2_count wsX0_eventCount := goodIn_r _ [8, 9, 82, 83, 84, 85, 86, 87, 88, 89] (by decide +kernel) (by decide +kernel)
set_option maxRecDepth 20000 in
theorem gX2_count_X0_eventCount : GoodIn wsX2_count (wsV RX2 86 RX0 yX0_eventCount wsX0_eventCount) := goodIn_app (goodIn_of _ (by decide +kernel)) ggX2_count_X0_eventCount
set_option maxRecDepth 20000 in
theorem ggX2_count_X0_parishCount : GoodIn wsX2_count wsX0_parishCount := goodIn_r _ [13, 14, 82, 83, 84, 85, 86, 87, 88, 89] (by decide +kernel) (by decide +kernel)
set_option maxRecDepth 20000 in
theorem gX2_count_X0_parishCount : GoodIn wsX2_count (wsV RX2 83 RX0 yX0_parishCount wsX0_parishCount) := goodIn_app (goodIn_of _ (by decide +kernel)) ggX2_count_X0_parishCount
set_option maxRecDepth 20000 in
theorem ggX2_count_X1_lengthOf : GoodIn wsX2_count wsX1_lengthOf := goodIn_r _ [18, 19, 20, 17, 21] (by decide +kernel) (by decide +kernel)
set_option maxRecDepth 20000 in
theorem gX2_count_X1_lengthOf : GoodIn wsX2_count (va_wsS RX2 35 yX1_lengthOf wsX1_lengthOf) := goodIn_app (goodIn_of _ (by decide +kernel)) ggX2_count_X1_lengthOf
set_option maxRecDepth 20000 in
theorem ggX2_count_X0_yearOfLast : GoodIn wsX2_count wsX0_yearOfLast := goodIn_r _ [25, 9, 26, 82, 83, 84, 85, 86, 87, 88, 89] (by decide +kernel) (by decide +kernel)
set_option maxRecDepth 20000 in
theorem gX2_count_X0_yearOfLast : GoodIn wsX2_count (wsV RX2 54 RX0 yX0_yearOfLast wsX0_yearOfLast) := goodIn_app (goodIn_of _ (by decide +kernel)) ggX2_count_X0_yearOfLast
set_option maxRecDepth 20000 in
theorem ggX2_count_X0_parishesNow : GoodIn wsX2_count wsX0_parishesNow := goodIn_r _ [30, 14, 31, 32, 33, 7, 34, 9, 35, 36, 37, 38, 39, 40, 41, 42, 43, 44, 45, 46, 47, 48, 82, 83, 84, 85, 86, 87, 88, 89] (by decide +kernel) (by decide +kernel)
set_option maxRecDepth 20000 in
theorem gX2_count_X0_parishesNow : GoodIn wsX2_count (wsV RX2 180 RX0 yX0_parishesNow wsX0_parishesNow) := goodIn_app (goodIn_of _ (by decide +kernel)) ggX2_count_X0_parishesNow
set_option maxRecDepth 20000 in
theorem ggX2_count_X0_unlikeNamesNow : GoodIn wsX2_count wsX0_unlikeNamesNow := goodIn_r _ [52, 14, 31, 32, 33, 7, 34, 9, 35, 36, 37, 38, 39, 40, 41, 42, 43, 44, 45, 46, 47, 48, 53, 54, 55, 56, 57, 58, 59, 60, 61, 62, 63, 64, 65, 17, 66, 67, 68, 69, 70, 71, 72, 82, 83, 84, 85, 86, 87, 88, 89] (by decide +kernel) (by decide +kernel)
set_option maxRecDepth 20000 in
theorem gX2_count_X0_unlikeNamesNow : GoodIn wsX2_count (wsV RX2 183 RX0 yX0_unlikeNamesNow wsX0_unlikeNamesNow) := goodIn_app (goodIn_of _ (by decide +kernel)) ggX2_count_X0_unlikeNamesNow
set_option maxRecDepth 20000 in
theorem ggX2_count_X0_eventsOfKind : GoodIn wsX2_count wsX0_eventsOfKind := goodIn_r _ [76, 9, 71, 82, 83, 84, 85, 86, 87, 88, 89] (by decide +kernel) (by decide +kernel)
set_option maxRecDepth 20000 in
theorem gX2_count_X0_eventsOfKind : GoodIn wsX2_count (wsV RX2 186 RX0 yX0_eventsOfKind wsX0_eventsOfKind) := goodIn_app (goodIn_of _ (by decide +kernel)) ggX2_count_X0_eventsOfKind
theorem dX2_count_0 : decode cX2_count 0 = .ok (.iload_n 1, 1) := by decide +kernel
theorem dX2_count_1 : decode cX2_count 1 = .ok (.tableswitch 136 0 13 #[71, 79, 87, 95, 103, 111, 119, 136, 136, 136, 124, 124, 124, 124], 71) := by decide +kernel
theorem dX2_count_72 : decode cX2_count 72 = .ok (.aload_n 0, 1) := by decide +kernel
theorem dX2_count_73 : decode cX2_count 73 = .ok (.getfield 10, 3) := by decide +kernel
theorem dX2_count_76 : decode cX2_count 76 = .ok (.invokevirtual 86, 3) := by decide +kernel
theorem dX2_count_79 : decode cX2_count 79 = .ok (.ireturn, 1) := by decide +kernel
theorem dX2_count_80 : decode cX2_count 80 = .ok (.aload_n 0, 1) := by decide +kernel
theorem dX2_count_81 : decode cX2_count 81 = .ok (.getfield 10, 3) := by decide +kernel
theorem dX2_count_84 : decode cX2_count 84 = .ok (.invokevirtual 83, 3) := by decide +kernel
theorem dX2_count_87 : decode cX2_count 87 = .ok (.ireturn, 1) := by decide +kernel
theorem dX2_count_88 : decode cX2_count 88 = .ok (.aload_n 0, 1) := by decide +kernel
theorem dX2_count_89 : decode cX2_count 89 = .ok (.getfield 31, 3) := by decide +kernel
theorem dX2_count_92 : decode cX2_count 92 = .ok (.invokestatic 35, 3) := by decide +kernel
theorem dX2_count_95 : decode cX2_count 95 = .ok (.ireturn, 1) := by decide +kernel
theorem dX2_count_96 : decode cX2_count 96 = .ok (.aload_n 0, 1) := by decide +kernel
theorem dX2_count_97 : decode cX2_count 97 = .ok (.getfield 10, 3) := by decide +kernel
theorem dX2_count_100 : decode cX2_count 100 = .ok (.invokevirtual 54, 3) := by decide +kernel
theorem dX2_count_103 : decode cX2_count 103 = .ok (.ireturn, 1) := by decide +kernel
theorem dX2_count_104 : decode cX2_count 104 = .ok (.aload_n 0, 1) := by decide +kernel
theorem dX2_count_105 : decode cX2_count 105 = .ok (.getfield 10, 3) := by decide +kernel
theorem dX2_count_108 : decode cX2_count 108 = .ok (.invokevirtual 180, 3) := by decide +kernel
theorem dX2_count_111 : decode cX2_count 111 = .ok (.ireturn, 1) := by decide +kernel
theorem dX2_count_112 : decode cX2_count 112 = .ok (.aload_n 0, 1) := by decide +kernel
theorem dX2_count_113 : decode cX2_count 113 = .ok (.getfield 10, 3) := by decide +kernel
theorem dX2_count_116 : decode cX2_count 116 = .ok (.invokevirtual 183, 3) := by decide +kernel
theorem dX2_count_119 : decode cX2_count 119 = .ok (.ireturn, 1) := by decide +kernel
theorem dX2_count_120 : decode cX2_count 120 = .ok (.aload_n 0, 1) := by decide +kernel
theorem dX2_count_121 : decode cX2_count 121 = .ok (.getfield 27, 3) := by decide +kernel
theorem dX2_count_124 : decode cX2_count 124 = .ok (.ireturn, 1) := by decide +kernel
theorem dX2_count_125 : decode cX2_count 125 = .ok (.aload_n 0, 1) := by decide +kernel
theorem dX2_count_126 : decode cX2_count 126 = .ok (.getfield 10, 3) := by decide +kernel
theorem dX2_count_129 : decode cX2_count 129 = .ok (.iload_n 1, 1) := by decide +kernel
theorem dX2_count_130 : decode cX2_count 130 = .ok (.bipush 10, 2) := by decide +kernel
theorem dX2_count_132 : decode cX2_count 132 = .ok (.isub, 1) := by decide +kernel
theorem dX2_count_133 : decode cX2_count 133 = .ok (.invokevirtual 186, 3) := by decide +kernel
theorem dX2_count_136 : decode cX2_count 136 = .ok (.ireturn, 1) := by decide +kernel
theorem dX2_count_137 : decode cX2_count 137 = .ok (.bipush (-2), 2) := by decide +kernel
theorem dX2_count_139 : decode cX2_count 139 = .ok (.ireturn, 1) := by decide +kernel
theorem dX2_isYear_0 : decode cX2_isYear 0 = .ok (.iload_n 0, 1) := by decide +kernel
theorem dX2_isYear_1 : decode cX2_isYear 1 = .ok (.ifCond .lt 14, 3) := by decide +kernel
theorem dX2_isYear_4 : decode cX2_isYear 4 = .ok (.iload_n 0, 1) := by decide +kernel
theorem dX2_isYear_5 : decode cX2_isYear 5 = .ok (.sipush 999, 3) := by decide +kernel
theorem dX2_isYear_8 : decode cX2_isYear 8 = .ok (.if_icmp .gt 7, 3) := by decide +kernel
theorem dX2_isYear_11 : decode cX2_isYear 11 = .ok (.iconst 1, 1) := by decide +kernel
theorem dX2_isYear_12 : decode cX2_isYear 12 = .ok (.goto 4, 3) := by decide +kernel
theorem dX2_isYear_15 : decode cX2_isYear 15 = .ok (.iconst 0, 1) := by decide +kernel
theorem dX2_isYear_16 : decode cX2_isYear 16 = .ok (.ireturn, 1) := by decide +kernel
set_option maxRecDepth 20000 in
theorem ggX2_areYears_X2_isYear : GoodIn wsX2_areYears wsX2_isYear := goodIn_r _ [4] (by decide +kernel) (by decide +kernel)
set_option maxRecDepth 20000 in
theorem gX2_areYears_X2_isYear : GoodIn wsX2_areYears (va_wsS RX2 47 yX2_isYear wsX2_isYear) := goodIn_app (goodIn_of _ (by decide +kernel)) ggX2_areYears_X2_isYear
theorem dX2_areYears_0 : decode cX2_areYears 0 = .ok (.iload_n 0, 1) := by decide +kernel
theorem dX2_areYears_1 : decode cX2_areYears 1 = .ok (.invokestatic 47, 3) := by decide +kernel
theorem dX2_areYears_4 : decode cX2_areYears 4 = .ok (.ifCond .eq 19, 3) := by decide +kernel
theorem dX2_areYears_7 : decode cX2_areYears 7 = .ok (.iload_n 1, 1) := by decide +kernel
theorem dX2_areYears_8 : decode cX2_areYears 8 = .ok (.invokestatic 47, 3) := by decide +kernel
theorem dX2_areYears_11 : decode cX2_areYears 11 = .ok (.ifCond .eq 12, 3) := by decide +kernel
theorem dX2_areYears_14 : decode cX2_areYears 14 = .ok (.iload_n 0, 1) := by decide +kernel
theorem dX2_areYears_15 : decode cX2_areYears 15 = .ok (.iload_n 1, 1) := by decide +kernel
theorem dX2_areYears_16 : decode cX2_areYears 16 = .ok (.if_icmp .gt 7, 3) := by decide +kernel
theorem dX2_areYears_19 : decode cX2_areYears 19 = .ok (.iconst 1, 1) := by decide +kernel
theorem dX2_areYears_20 : decode cX2_areYears 20 = .ok (.goto 4, 3) := by decide +kernel
theorem dX2_areYears_23 : decode cX2_areYears 23 = .ok (.iconst 0, 1) := by decide +kernel
theorem dX2_areYears_24 : decode cX2_areYears 24 = .ok (.ireturn, 1) := by decide +kernel
theorem dX2_isSite_0 : decode cX2_isSite 0 = .ok (.iload_n 0, 1) := by decide +kernel
theorem dX2_isSite_1 : decode cX2_isSite 1 = .ok (.ifCond .lt 13, 3) := by decide +kernel
theorem dX2_isSite_4 : decode cX2_isSite 4 = .ok (.iload_n 0, 1) := by decide +kernel
theorem dX2_isSite_5 : decode cX2_isSite 5 = .ok (.bipush 12, 2) := by decide +kernel
theorem dX2_isSite_7 : decode cX2_isSite 7 = .ok (.if_icmp .ge 7, 3) := by decide +kernel
theorem dX2_isSite_10 : decode cX2_isSite 10 = .ok (.iconst 1, 1) := by decide +kernel
theorem dX2_isSite_11 : decode cX2_isSite 11 = .ok (.goto 4, 3) := by decide +kernel
theorem dX2_isSite_14 : decode cX2_isSite 14 = .ok (.iconst 0, 1) := by decide +kernel
theorem dX2_isSite_15 : decode cX2_isSite 15 = .ok (.ireturn, 1) := by decide +kernel
theorem dX2_isSetOfSites_0 : decode cX2_isSetOfSites 0 = .ok (.iload_n 0, 1) := by decide +kernel
theorem dX2_isSetOfSites_1 : decode cX2_isSetOfSites 1 = .ok (.ifCond .lt 14, 3) := by decide +kernel
theorem dX2_isSetOfSites_4 : decode cX2_isSetOfSites 4 = .ok (.iload_n 0, 1) := by decide +kernel
theorem dX2_isSetOfSites_5 : decode cX2_isSetOfSites 5 = .ok (.sipush 4095, 3) := by decide +kernel
theorem dX2_isSetOfSites_8 : decode cX2_isSetOfSites 8 = .ok (.if_icmp .gt 7, 3) := by decide +kernel
theorem dX2_isSetOfSites_11 : decode cX2_isSetOfSites 11 = .ok (.iconst 1, 1) := by decide +kernel
theorem dX2_isSetOfSites_12 : decode cX2_isSetOfSites 12 = .ok (.goto 4, 3) := by decide +kernel
theorem dX2_isSetOfSites_15 : decode cX2_isSetOfSites 15 = .ok (.iconst 0, 1) := by decide +kernel
theorem dX2_isSetOfSites_16 : decode cX2_isSetOfSites 16 = .ok (.ireturn, 1) := by decide +kernel
theorem dX2_isHow_0 : decode cX2_isHow 0 = .ok (.iload_n 0, 1) := by decide +kernel
theorem dX2_isHow_1 : decode cX2_isHow 1 = .ok (.ifCond .lt 12, 3) := by decide +kernel
theorem dX2_isHow_4 : decode cX2_isHow 4 = .ok (.iload_n 0, 1) := by decide +kernel
theorem dX2_isHow_5 : decode cX2_isHow 5 = .ok (.iconst 2, 1) := by decide +kernel
theorem dX2_isHow_6 : decode cX2_isHow 6 = .ok (.if_icmp .gt 7, 3) := by decide +kernel
theorem dX2_isHow_9 : decode cX2_isHow 9 = .ok (.iconst 1, 1) := by decide +kernel
theorem dX2_isHow_10 : decode cX2_isHow 10 = .ok (.goto 4, 3) := by decide +kernel
theorem dX2_isHow_13 : decode cX2_isHow 13 = .ok (.iconst 0, 1) := by decide +kernel
theorem dX2_isHow_14 : decode cX2_isHow 14 = .ok (.ireturn, 1) := by decide +kernel
theorem dX2_has_0 : decode cX2_has 0 = .ok (.iload_n 0, 1) := by decide +kernel
theorem dX2_has_1 : decode cX2_has 1 = .ok (.iload_n 1, 1) := by decide +kernel
theorem dX2_has_2 : decode cX2_has 2 = .ok (.iushr, 1) := by decide +kernel
theorem dX2_has_3 : decode cX2_has 3 = .ok (.iconst 1, 1) := by decide +kernel
theorem dX2_has_4 : decode cX2_has 4 = .ok (.iand, 1) := by decide +kernel
theorem dX2_has_5 : decode cX2_has 5 = .ok (.ifCond .eq 7, 3) := by decide +kernel
theorem dX2_has_8 : decode cX2_has 8 = .ok (.iconst 1, 1) := by decide +kernel
theorem dX2_has_9 : decode cX2_has 9 = .ok (.goto 4, 3) := by decide +kernel
theorem dX2_has_12 : decode cX2_has 12 = .ok (.iconst 0, 1) := by decide +kernel
theorem dX2_has_13 : decode cX2_has 13 = .ok (.ireturn, 1) := by decide +kernel
theorem dX2_isProperPart_0 : decode cX2_isProperPart 0 = .ok (.iload_n 0, 1) := by decide +kernel
theorem dX2_isProperPart_1 : decode cX2_isProperPart 1 = .ok (.ifCond .eq 20, 3) := by decide +kernel
theorem dX2_isProperPart_4 : decode cX2_isProperPart 4 = .ok (.iload_n 0, 1) := by decide +kernel
theorem dX2_isProperPart_5 : decode cX2_isProperPart 5 = .ok (.iload_n 1, 1) := by decide +kernel
theorem dX2_isProperPart_6 : decode cX2_isProperPart 6 = .ok (.iconst (-1), 1) := by decide +kernel
theorem dX2_isProperPart_7 : decode cX2_isProperPart 7 = .ok (.ixor, 1) := by decide +kernel
theorem dX2_isProperPart_8 : decode cX2_isProperPart 8 = .ok (.iand, 1) := by decide +kernel
theorem dX2_isProperPart_9 : decode cX2_isProperPart 9 = .ok (.ifCond .ne 12, 3) := by decide +kernel
theorem dX2_isProperPart_12 : decode cX2_isProperPart 12 = .ok (.iload_n 0, 1) := by decide +kernel
theorem dX2_isProperPart_13 : decode cX2_isProperPart 13 = .ok (.iload_n 1, 1) := by decide +kernel
theorem dX2_isProperPart_14 : decode cX2_isProperPart 14 = .ok (.if_icmp .eq 7, 3) := by decide +kernel
theorem dX2_isProperPart_17 : decode cX2_isProperPart 17 = .ok (.iconst 1, 1) := by decide +kernel
theorem dX2_isProperPart_18 : decode cX2_isProperPart 18 = .ok (.goto 4, 3) := by decide +kernel
theorem dX2_isProperPart_21 : decode cX2_isProperPart 21 = .ok (.iconst 0, 1) := by decide +kernel
theorem dX2_isProperPart_22 : decode cX2_isProperPart 22 = .ok (.ireturn, 1) := by decide +kernel
theorem dX2_padIsNoName_0 : decode cX2_padIsNoName 0 = .ok (.aload_n 0, 1) := by decide +kernel
theorem dX2_padIsNoName_1 : decode cX2_padIsNoName 1 = .ok (.getfield 31, 3) := by decide +kernel
theorem dX2_padIsNoName_4 : decode cX2_padIsNoName 4 = .ok (.lconst 0, 1) := by decide +kernel
theorem dX2_padIsNoName_5 : decode cX2_padIsNoName 5 = .ok (.lcmp, 1) := by decide +kernel
theorem dX2_padIsNoName_6 : decode cX2_padIsNoName 6 = .ok (.ifCond .ne 7, 3) := by decide +kernel
theorem dX2_padIsNoName_9 : decode cX2_padIsNoName 9 = .ok (.iconst 1, 1) := by decide +kernel
theorem dX2_padIsNoName_10 : decode cX2_padIsNoName 10 = .ok (.goto 4, 3) := by decide +kernel
theorem dX2_padIsNoName_13 : decode cX2_padIsNoName 13 = .ok (.iconst 0, 1) := by decide +kernel
theorem dX2_padIsNoName_14 : decode cX2_padIsNoName 14 = .ok (.ireturn, 1) := by decide +kernel
theorem dX2_takePad_0 : decode cX2_takePad 0 = .ok (.aload_n 0, 1) := by decide +kernel
theorem dX2_takePad_1 : decode cX2_takePad 1 = .ok (.getfield 31, 3) := by decide +kernel
theorem dX2_takePad_4 : decode cX2_takePad 4 = .ok (.lstore_n 1, 1) := by decide +kernel
theorem dX2_takePad_5 : decode cX2_takePad 5 = .ok (.aload_n 0, 1) := by decide +kernel
theorem dX2_takePad_6 : decode cX2_takePad 6 = .ok (.lconst 0, 1) := by decide +kernel
theorem dX2_takePad_7 : decode cX2_takePad 7 = .ok (.putfield 31, 3) := by decide +kernel
theorem dX2_takePad_10 : decode cX2_takePad 10 = .ok (.lload_n 1, 1) := by decide +kernel
theorem dX2_takePad_11 : decode cX2_takePad 11 = .ok (.lreturn, 1) := by decide +kernel
set_option maxRecDepth 20000 in
theorem ggX2_wasCalled_X0_sitesAtFirst : GoodIn wsX2_wasCalled wsX0_sitesAtFirst := goodIn_r _ [14] (by decide +kernel) (by decide +kernel)
set_option maxRecDepth 20000 in
theorem gX2_wasCalled_X0_sitesAtFirst : GoodIn wsX2_wasCalled (va_wsS RX2 189 yX0_sitesAtFirst wsX0_sitesAtFirst) := goodIn_app (goodIn_of _ (by decide +kernel)) ggX2_wasCalled_X0_sitesAtFirst
set_option maxRecDepth 20000 in
theorem ggX2_wasCalled_X0_nameAtFirst : GoodIn wsX2_wasCalled wsX0_nameAtFirst := goodIn_r _ [17, 18, 19, 20, 21] (by decide +kernel) (by decide +kernel)
set_option maxRecDepth 20000 in
theorem gX2_wasCalled_X0_nameAtFirst : GoodIn wsX2_wasCalled (va_wsS RX2 192 yX0_nameAtFirst wsX0_nameAtFirst) := goodIn_app (goodIn_of _ (by decide +kernel)) ggX2_wasCalled_X0_nameAtFirst
set_option maxRecDepth 20000 in
theorem ggX2_wasCalled_X0_eventCount : GoodIn wsX2_wasCalled wsX0_eventCount := goodIn_r _ [25, 26, 76, 77, 78, 79, 80, 81, 82, 83] (by decide +kernel) (by decide +kernel)
set_option maxRecDepth 20000 in
theorem gX2_wasCalled_X0_eventCount : GoodIn wsX2_wasCalled (wsV RX2 86 RX0 yX0_eventCount wsX0_eventCount) := goodIn_app (goodIn_of _ (by decide +kernel)) ggX2_wasCalled_X0_eventCount
set_option maxRecDepth 20000 in
theorem ggX2_wasCalled_X0_sitesThrough : GoodIn wsX2_wasCalled wsX0_sitesThrough := goodIn_r _ [30, 26, 31, 32, 33, 76, 77, 78, 79, 80, 81, 82, 83] (by decide +kernel) (by decide +kernel)
set_option maxRecDepth 20000 in
theorem gX2_wasCalled_X0_sitesThrough : GoodIn wsX2_wasCalled (wsV RX2 196 RX0 yX0_sitesThrough wsX0_sitesThrough) := goodIn_app (goodIn_of _ (by decide +kernel)) ggX2_wasCalled_X0_sitesThrough
set_option maxRecDepth 20000 in
theorem ggX2_wasCalled_X0_nameThrough : GoodIn wsX2_wasCalled wsX0_nameThrough := goodIn_r _ [37, 26, 38, 31, 39, 33, 76, 77, 78, 79, 80, 81, 82, 83] (by decide +kernel) (by decide +kernel)
set_option maxRecDepth 20000 in
theorem gX2_wasCalled_X0_nameThrough : GoodIn wsX2_wasCalled (wsV RX2 200 RX0 yX0_nameThrough wsX0_nameThrough) := goodIn_app (goodIn_of _ (by decide +kernel)) ggX2_wasCalled_X0_nameThrough
set_option maxRecDepth 20000 in
theorem ggX2_wasCalled_X0_firstYear : GoodIn wsX2_wasCalled wsX0_firstYear := goodIn_r _ [43, 26, 44, 76, 77, 78, 79, 80, 81, 82, 83] (by decide +kernel) (by decide +kernel)
set_option maxRecDepth 20000 in
theorem gX2_wasCalled_X0_firstYear : GoodIn wsX2_wasCalled (wsV RX2 141 RX0 yX0_firstYear wsX0_firstYear) := goodIn_app (goodIn_of _ (by decide +kernel)) ggX2_wasCalled_X0_firstYear
set_option maxRecDepth 20000 in
theorem ggX2_wasCalled_X0_lastYear : GoodIn wsX2_wasCalled wsX0_lastYear := goodIn_r _ [48, 26, 44, 76, 77, 78, 79, 80, 81, 82, 83] (by decide +kernel) (by decide +kernel)
set_option maxRecDepth 20000 in
theorem gX2_wasCalled_X0_lastYear : GoodIn wsX2_wasCalled (wsV RX2 149 RX0 yX0_lastYear wsX0_lastYear) := goodIn_app (goodIn_of _ (by decide +kernel)) ggX2_wasCalled_X0_lastYear
set_option maxRecDepth 20000 in
theorem ggX2_wasCalled_X1_areAlike : GoodIn wsX2_wasCalled wsX1_areAlike := goodIn_r _ [52, 53, 54, 20, 55, 56, 57, 58, 59, 60, 61, 62, 63, 64, 65, 66, 67, 68, 69, 70, 7, 4, 8, 84] (by decide +kernel) (by decide +kernel)
set_option maxRecDepth 20000 in
theorem gX2_wasCalled_X1_areAlike : GoodIn wsX2_wasCalled (wsV RX2 158 RX1 yX1_areAlike wsX1_areAlike) := goodIn_app (goodIn_of _ (by decide +kernel)) ggX2_wasCalled_X1_areAlike
theorem dX2_wasCalled_0 : decode cX2_wasCalled 0 = .ok (.iload_n 1, 1) := by decide +kernel
theorem dX2_wasCalled_1 : decode cX2_wasCalled 1 = .ok (.invokestatic 189, 3) := by decide +kernel
theorem dX2_wasCalled_4 : decode cX2_wasCalled 4 = .ok (.istore 5, 2) := by decide +kernel
theorem dX2_wasCalled_6 : decode cX2_wasCalled 6 = .ok (.iload_n 1, 1) := by decide +kernel
theorem dX2_wasCalled_7 : decode cX2_wasCalled 7 = .ok (.invokestatic 192, 3) := by decide +kernel
theorem dX2_wasCalled_10 : decode cX2_wasCalled 10 = .ok (.lstore 6, 2) := by decide +kernel
theorem dX2_wasCalled_12 : decode cX2_wasCalled 12 = .ok (.lconst 0, 1) := by decide +kernel
theorem dX2_wasCalled_13 : decode cX2_wasCalled 13 = .ok (.lstore 8, 2) := by decide +kernel
theorem dX2_wasCalled_15 : decode cX2_wasCalled 15 = .ok (.iconst 0, 1) := by decide +kernel
theorem dX2_wasCalled_16 : decode cX2_wasCalled 16 = .ok (.istore 10, 2) := by decide +kernel
theorem dX2_wasCalled_18 : decode cX2_wasCalled 18 = .ok (.iload 10, 2) := by decide +kernel
theorem dX2_wasCalled_20 : decode cX2_wasCalled 20 = .ok (.aload_n 0, 1) := by decide +kernel
theorem dX2_wasCalled_21 : decode cX2_wasCalled 21 = .ok (.getfield 10, 3) := by decide +kernel
theorem dX2_wasCalled_24 : decode cX2_wasCalled 24 = .ok (.invokevirtual 86, 3) := by decide +kernel
theorem dX2_wasCalled_27 : decode cX2_wasCalled 27 = .ok (.if_icmp .gt 127, 3) := by decide +kernel
theorem dX2_wasCalled_30 : decode cX2_wasCalled 30 = .ok (.iload 10, 2) := by decide +kernel
theorem dX2_wasCalled_32 : decode cX2_wasCalled 32 = .ok (.ifCond .le 35, 3) := by decide +kernel
theorem dX2_wasCalled_35 : decode cX2_wasCalled 35 = .ok (.aload_n 0, 1) := by decide +kernel
theorem dX2_wasCalled_36 : decode cX2_wasCalled 36 = .ok (.getfield 10, 3) := by decide +kernel
theorem dX2_wasCalled_39 : decode cX2_wasCalled 39 = .ok (.iload 10, 2) := by decide +kernel
theorem dX2_wasCalled_41 : decode cX2_wasCalled 41 = .ok (.iconst 1, 1) := by decide +kernel
theorem dX2_wasCalled_42 : decode cX2_wasCalled 42 = .ok (.isub, 1) := by decide +kernel
theorem dX2_wasCalled_43 : decode cX2_wasCalled 43 = .ok (.iload_n 1, 1) := by decide +kernel
theorem dX2_wasCalled_44 : decode cX2_wasCalled 44 = .ok (.iload 5, 2) := by decide +kernel
theorem dX2_wasCalled_46 : decode cX2_wasCalled 46 = .ok (.invokevirtual 196, 3) := by decide +kernel
theorem dX2_wasCalled_49 : decode cX2_wasCalled 49 = .ok (.istore 5, 2) := by decide +kernel
theorem dX2_wasCalled_51 : decode cX2_wasCalled 51 = .ok (.aload_n 0, 1) := by decide +kernel
theorem dX2_wasCalled_52 : decode cX2_wasCalled 52 = .ok (.getfield 10, 3) := by decide +kernel
theorem dX2_wasCalled_55 : decode cX2_wasCalled 55 = .ok (.iload 10, 2) := by decide +kernel
theorem dX2_wasCalled_57 : decode cX2_wasCalled 57 = .ok (.iconst 1, 1) := by decide +kernel
theorem dX2_wasCalled_58 : decode cX2_wasCalled 58 = .ok (.isub, 1) := by decide +kernel
theorem dX2_wasCalled_59 : decode cX2_wasCalled 59 = .ok (.iload_n 1, 1) := by decide +kernel
theorem dX2_wasCalled_60 : decode cX2_wasCalled 60 = .ok (.lload 6, 2) := by decide +kernel
theorem dX2_wasCalled_62 : decode cX2_wasCalled 62 = .ok (.invokevirtual 200, 3) := by decide +kernel
theorem dX2_wasCalled_65 : decode cX2_wasCalled 65 = .ok (.lstore 6, 2) := by decide +kernel
theorem dX2_wasCalled_67 : decode cX2_wasCalled 67 = .ok (.iload_n 2, 1) := by decide +kernel
theorem dX2_wasCalled_68 : decode cX2_wasCalled 68 = .ok (.aload_n 0, 1) := by decide +kernel
theorem dX2_wasCalled_69 : decode cX2_wasCalled 69 = .ok (.getfield 10, 3) := by decide +kernel
theorem dX2_wasCalled_72 : decode cX2_wasCalled 72 = .ok (.iload 10, 2) := by decide +kernel
theorem dX2_wasCalled_74 : decode cX2_wasCalled 74 = .ok (.invokevirtual 141, 3) := by decide +kernel
theorem dX2_wasCalled_77 : decode cX2_wasCalled 77 = .ok (.invokestatic 144, 3) := by decide +kernel
theorem dX2_wasCalled_80 : decode cX2_wasCalled 80 = .ok (.iload_n 3, 1) := by decide +kernel
theorem dX2_wasCalled_81 : decode cX2_wasCalled 81 = .ok (.aload_n 0, 1) := by decide +kernel
theorem dX2_wasCalled_82 : decode cX2_wasCalled 82 = .ok (.getfield 10, 3) := by decide +kernel
theorem dX2_wasCalled_85 : decode cX2_wasCalled 85 = .ok (.iload 10, 2) := by decide +kernel
theorem dX2_wasCalled_87 : decode cX2_wasCalled 87 = .ok (.invokevirtual 149, 3) := by decide +kernel
theorem dX2_wasCalled_90 : decode cX2_wasCalled 90 = .ok (.invokestatic 152, 3) := by decide +kernel
theorem dX2_wasCalled_93 : decode cX2_wasCalled 93 = .ok (.if_icmp .gt 7, 3) := by decide +kernel
theorem dX2_wasCalled_96 : decode cX2_wasCalled 96 = .ok (.iconst 1, 1) := by decide +kernel
theorem dX2_wasCalled_97 : decode cX2_wasCalled 97 = .ok (.goto 4, 3) := by decide +kernel
theorem dX2_wasCalled_100 : decode cX2_wasCalled 100 = .ok (.iconst 0, 1) := by decide +kernel
theorem dX2_wasCalled_101 : decode cX2_wasCalled 101 = .ok (.istore 11, 2) := by decide +kernel
theorem dX2_wasCalled_103 : decode cX2_wasCalled 103 = .ok (.iload 11, 2) := by decide +kernel
theorem dX2_wasCalled_105 : decode cX2_wasCalled 105 = .ok (.ifCond .eq 43, 3) := by decide +kernel
theorem dX2_wasCalled_108 : decode cX2_wasCalled 108 = .ok (.iload 5, 2) := by decide +kernel
theorem dX2_wasCalled_110 : decode cX2_wasCalled 110 = .ok (.ifCond .eq 38, 3) := by decide +kernel
theorem dX2_wasCalled_113 : decode cX2_wasCalled 113 = .ok (.lload 6, 2) := by decide +kernel
theorem dX2_wasCalled_115 : decode cX2_wasCalled 115 = .ok (.lload 8, 2) := by decide +kernel
theorem dX2_wasCalled_117 : decode cX2_wasCalled 117 = .ok (.lcmp, 1) := by decide +kernel
theorem dX2_wasCalled_118 : decode cX2_wasCalled 118 = .ok (.ifCond .ne 6, 3) := by decide +kernel
theorem dX2_wasCalled_121 : decode cX2_wasCalled 121 = .ok (.goto 27, 3) := by decide +kernel
theorem dX2_wasCalled_124 : decode cX2_wasCalled 124 = .ok (.aload_n 0, 1) := by decide +kernel
theorem dX2_wasCalled_125 : decode cX2_wasCalled 125 = .ok (.getfield 23, 3) := by decide +kernel
theorem dX2_wasCalled_128 : decode cX2_wasCalled 128 = .ok (.lload 6, 2) := by decide +kernel
theorem dX2_wasCalled_130 : decode cX2_wasCalled 130 = .ok (.aload_n 0, 1) := by decide +kernel
theorem dX2_wasCalled_131 : decode cX2_wasCalled 131 = .ok (.getfield 31, 3) := by decide +kernel
theorem dX2_wasCalled_134 : decode cX2_wasCalled 134 = .ok (.iload 4, 2) := by decide +kernel
theorem dX2_wasCalled_136 : decode cX2_wasCalled 136 = .ok (.invokevirtual 158, 3) := by decide +kernel
theorem dX2_wasCalled_139 : decode cX2_wasCalled 139 = .ok (.ifCond .eq 5, 3) := by decide +kernel
theorem dX2_wasCalled_142 : decode cX2_wasCalled 142 = .ok (.iconst 1, 1) := by decide +kernel
theorem dX2_wasCalled_143 : decode cX2_wasCalled 143 = .ok (.ireturn, 1) := by decide +kernel
theorem dX2_wasCalled_144 : decode cX2_wasCalled 144 = .ok (.lload 6, 2) := by decide +kernel
theorem dX2_wasCalled_146 : decode cX2_wasCalled 146 = .ok (.lstore 8, 2) := by decide +kernel
theorem dX2_wasCalled_148 : decode cX2_wasCalled 148 = .ok (.iinc 10 1, 3) := by decide +kernel
theorem dX2_wasCalled_151 : decode cX2_wasCalled 151 = .ok (.goto (-133), 3) := by decide +kernel
theorem dX2_wasCalled_154 : decode cX2_wasCalled 154 = .ok (.iconst 0, 1) := by decide +kernel
theorem dX2_wasCalled_155 : decode cX2_wasCalled 155 = .ok (.ireturn, 1) := by decide +kernel
set_option maxRecDepth 20000 in
theorem ggX2_spanFact_X0_firstYear : GoodIn wsX2_spanFact wsX0_firstYear := goodIn_r _ [6, 7, 8, 27, 28, 29, 30, 31, 32, 33, 34] (by decide +kernel) (by decide +kernel)
set_option maxRecDepth 20000 in
theorem gX2_spanFact_X0_firstYear : GoodIn wsX2_spanFact (wsV RX2 141 RX0 yX0_firstYear wsX0_firstYear) := goodIn_app (goodIn_of _ (by decide +kernel)) ggX2_spanFact_X0_firstYear
set_option maxRecDepth 20000 in
theorem ggX2_spanFact_X0_ownerBehind : GoodIn wsX2_spanFact wsX0_ownerBehind := goodIn_r _ [12, 7, 13, 14, 15, 16, 17, 27, 28, 29, 30, 31, 32, 33, 34] (by decide +kernel) (by decide +kernel)
set_option maxRecDepth 20000 in
theorem gX2_spanFact_X0_ownerBehind : GoodIn wsX2_spanFact (wsV RX2 102 RX0 yX0_ownerBehind wsX0_ownerBehind) := goodIn_app (goodIn_of _ (by decide +kernel)) ggX2_spanFact_X0_ownerBehind
set_option maxRecDepth 20000 in
theorem ggX2_spanFact_X0_eventCount : GoodIn wsX2_spanFact wsX0_eventCount := goodIn_r _ [21, 7, 27, 28, 29, 30, 31, 32, 33, 34] (by decide +kernel) (by decide +kernel)
set_option maxRecDepth 20000 in
theorem gX2_spanFact_X0_eventCount : GoodIn wsX2_spanFact (wsV RX2 86 RX0 yX0_eventCount wsX0_eventCount) := goodIn_app (goodIn_of _ (by decide +kernel)) ggX2_spanFact_X0_eventCount
theorem dX2_spanFact_0 : decode cX2_spanFact 0 = .ok (.iload 4, 2) := by decide +kernel
theorem dX2_spanFact_2 : decode cX2_spanFact 2 = .ok (.ifCond .ne 12, 3) := by decide +kernel
theorem dX2_spanFact_5 : decode cX2_spanFact 5 = .ok (.aload_n 0, 1) := by decide +kernel
theorem dX2_spanFact_6 : decode cX2_spanFact 6 = .ok (.getfield 10, 3) := by decide +kernel
theorem dX2_spanFact_9 : decode cX2_spanFact 9 = .ok (.iload_n 2, 1) := by decide +kernel
theorem dX2_spanFact_10 : decode cX2_spanFact 10 = .ok (.invokevirtual 141, 3) := by decide +kernel
theorem dX2_spanFact_13 : decode cX2_spanFact 13 = .ok (.ireturn, 1) := by decide +kernel
theorem dX2_spanFact_14 : decode cX2_spanFact 14 = .ok (.iload 4, 2) := by decide +kernel
theorem dX2_spanFact_16 : decode cX2_spanFact 16 = .ok (.iconst 2, 1) := by decide +kernel
theorem dX2_spanFact_17 : decode cX2_spanFact 17 = .ok (.if_icmp .ne 13, 3) := by decide +kernel
theorem dX2_spanFact_20 : decode cX2_spanFact 20 = .ok (.aload_n 0, 1) := by decide +kernel
theorem dX2_spanFact_21 : decode cX2_spanFact 21 = .ok (.getfield 10, 3) := by decide +kernel
theorem dX2_spanFact_24 : decode cX2_spanFact 24 = .ok (.iload_n 1, 1) := by decide +kernel
theorem dX2_spanFact_25 : decode cX2_spanFact 25 = .ok (.iload_n 2, 1) := by decide +kernel
theorem dX2_spanFact_26 : decode cX2_spanFact 26 = .ok (.invokevirtual 102, 3) := by decide +kernel
theorem dX2_spanFact_29 : decode cX2_spanFact 29 = .ok (.ireturn, 1) := by decide +kernel
theorem dX2_spanFact_30 : decode cX2_spanFact 30 = .ok (.iload_n 3, 1) := by decide +kernel
theorem dX2_spanFact_31 : decode cX2_spanFact 31 = .ok (.aload_n 0, 1) := by decide +kernel
theorem dX2_spanFact_32 : decode cX2_spanFact 32 = .ok (.getfield 10, 3) := by decide +kernel
theorem dX2_spanFact_35 : decode cX2_spanFact 35 = .ok (.invokevirtual 86, 3) := by decide +kernel
theorem dX2_spanFact_38 : decode cX2_spanFact 38 = .ok (.if_icmp .le 9, 3) := by decide +kernel
theorem dX2_spanFact_41 : decode cX2_spanFact 41 = .ok (.sipush 999, 3) := by decide +kernel
theorem dX2_spanFact_44 : decode cX2_spanFact 44 = .ok (.goto 13, 3) := by decide +kernel
theorem dX2_spanFact_47 : decode cX2_spanFact 47 = .ok (.aload_n 0, 1) := by decide +kernel
theorem dX2_spanFact_48 : decode cX2_spanFact 48 = .ok (.getfield 10, 3) := by decide +kernel
theorem dX2_spanFact_51 : decode cX2_spanFact 51 = .ok (.iload_n 3, 1) := by decide +kernel
theorem dX2_spanFact_52 : decode cX2_spanFact 52 = .ok (.invokevirtual 141, 3) := by decide +kernel
theorem dX2_spanFact_55 : decode cX2_spanFact 55 = .ok (.iconst 1, 1) := by decide +kernel
theorem dX2_spanFact_56 : decode cX2_spanFact 56 = .ok (.isub, 1) := by decide +kernel
theorem dX2_spanFact_57 : decode cX2_spanFact 57 = .ok (.ireturn, 1) := by decide +kernel
