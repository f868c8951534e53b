theorem dX2_at_8 : decode cX2_at 8 = .ok (.ireturn, 1) := by decide +kernel
theorem dX2_at_9 : decode cX2_at 9 = .ok (.iload_n 2, 1) := by decide +kernel
theorem dX2_at_10 : decode cX2_at 10 = .ok (.invokestatic 47, 3) := by decide +kernel
theorem dX2_at_13 : decode cX2_at 13 = .ok (.ifCond .ne 6, 3) := by decide +kernel
theorem dX2_at_16 : decode cX2_at 16 = .ok (.bipush (-2), 2) := by decide +kernel
theorem dX2_at_18 : decode cX2_at 18 = .ok (.ireturn, 1) := by decide +kernel
theorem dX2_at_19 : decode cX2_at 19 = .ok (.aload_n 0, 1) := by decide +kernel
theorem dX2_at_20 : decode cX2_at 20 = .ok (.getfield 10, 3) := by decide +kernel
theorem dX2_at_23 : decode cX2_at 23 = .ok (.iload_n 1, 1) := by decide +kernel
theorem dX2_at_24 : decode cX2_at 24 = .ok (.aload_n 0, 1) := by decide +kernel
theorem dX2_at_25 : decode cX2_at 25 = .ok (.getfield 10, 3) := by decide +kernel
theorem dX2_at_28 : decode cX2_at 28 = .ok (.iload_n 2, 1) := by decide +kernel
theorem dX2_at_29 : decode cX2_at 29 = .ok (.invokevirtual 99, 3) := by decide +kernel
theorem dX2_at_32 : decode cX2_at 32 = .ok (.invokevirtual 102, 3) := by decide +kernel
theorem dX2_at_35 : decode cX2_at 35 = .ok (.ireturn, 1) := by decide +kernel
set_option maxRecDepth 20000 in
theorem ggX2_sites_X0_knows : GoodIn wsX2_sites wsX0_knows := goodIn_r _ [6, 7, 37, 38, 39, 40, 41, 42, 43, 44] (by decide +kernel) (by decide +kernel)
set_option maxRecDepth 20000 in
theorem gX2_sites_X0_knows : GoodIn wsX2_sites (wsV RX2 43 RX0 yX0_knows wsX0_knows) := goodIn_app (goodIn_of _ (by decide +kernel)) ggX2_sites_X0_knows
set_option maxRecDepth 20000 in
theorem ggX2_sites_X2_isYear : GoodIn wsX2_sites wsX2_isYear := goodIn_r _ [11] (by decide +kernel) (by decide +kernel)
set_option maxRecDepth 20000 in
theorem gX2_sites_X2_isYear : GoodIn wsX2_sites (va_wsS RX2 47 yX2_isYear wsX2_isYear) := goodIn_app (goodIn_of _ (by decide +kernel)) ggX2_sites_X2_isYear
set_option maxRecDepth 20000 in
theorem ggX2_sites_X0_stageIn : GoodIn wsX2_sites wsX0_stageIn := goodIn_r _ [15, 16, 17, 37, 38, 39, 40, 41, 42, 43, 44] (by decide +kernel) (by decide +kernel)
set_option maxRecDepth 20000 in
theorem gX2_sites_X0_stageIn : GoodIn wsX2_sites (wsV RX2 99 RX0 yX0_stageIn wsX0_stageIn) := goodIn_app (goodIn_of _ (by decide +kernel)) ggX2_sites_X0_stageIn
set_option maxRecDepth 20000 in
theorem ggX2_sites_X0_sitesBehind : GoodIn wsX2_sites wsX0_sitesBehind := goodIn_r _ [21, 16, 22, 23, 5, 24, 25, 26, 27, 28, 29, 30, 31, 37, 38, 39, 40, 41, 42, 43, 44] (by decide +kernel) (by decide +kernel)
set_option maxRecDepth 20000 in
theorem gX2_sites_X0_sitesBehind : GoodIn wsX2_sites (wsV RX2 105 RX0 yX0_sitesBehind wsX0_sitesBehind) := goodIn_app (goodIn_of _ (by decide +kernel)) ggX2_sites_X0_sitesBehind
theorem dX2_sites_0 : decode cX2_sites 0 = .ok (.aload_n 0, 1) := by decide +kernel
theorem dX2_sites_1 : decode cX2_sites 1 = .ok (.getfield 10, 3) := by decide +kernel
theorem dX2_sites_4 : decode cX2_sites 4 = .ok (.iload_n 1, 1) := by decide +kernel
theorem dX2_sites_5 : decode cX2_sites 5 = .ok (.invokevirtual 43, 3) := by decide +kernel
theorem dX2_sites_8 : decode cX2_sites 8 = .ok (.ifCond .ne 5, 3) := by decide +kernel
theorem dX2_sites_11 : decode cX2_sites 11 = .ok (.iconst (-1), 1) := by decide +kernel
theorem dX2_sites_12 : decode cX2_sites 12 = .ok (.ireturn, 1) := by decide +kernel
theorem dX2_sites_13 : decode cX2_sites 13 = .ok (.iload_n 2, 1) := by decide +kernel
theorem dX2_sites_14 : decode cX2_sites 14 = .ok (.invokestatic 47, 3) := by decide +kernel
theorem dX2_sites_17 : decode cX2_sites 17 = .ok (.ifCond .ne 6, 3) := by decide +kernel
theorem dX2_sites_20 : decode cX2_sites 20 = .ok (.bipush (-2), 2) := by decide +kernel
theorem dX2_sites_22 : decode cX2_sites 22 = .ok (.ireturn, 1) := by decide +kernel
theorem dX2_sites_23 : decode cX2_sites 23 = .ok (.aload_n 0, 1) := by decide +kernel
theorem dX2_sites_24 : decode cX2_sites 24 = .ok (.getfield 10, 3) := by decide +kernel
theorem dX2_sites_27 : decode cX2_sites 27 = .ok (.iload_n 1, 1) := by decide +kernel
theorem dX2_sites_28 : decode cX2_sites 28 = .ok (.aload_n 0, 1) := by decide +kernel
theorem dX2_sites_29 : decode cX2_sites 29 = .ok (.getfield 10, 3) := by decide +kernel
theorem dX2_sites_32 : decode cX2_sites 32 = .ok (.iload_n 2, 1) := by decide +kernel
theorem dX2_sites_33 : decode cX2_sites 33 = .ok (.invokevirtual 99, 3) := by decide +kernel
theorem dX2_sites_36 : decode cX2_sites 36 = .ok (.invokevirtual 105, 3) := by decide +kernel
theorem dX2_sites_39 : decode cX2_sites 39 = .ok (.ireturn, 1) := by decide +kernel
set_option maxRecDepth 20000 in
theorem ggX2_letter_X0_knows : GoodIn wsX2_letter wsX0_knows := goodIn_r _ [6, 7, 65, 66, 67, 68, 69, 70, 71, 72] (by decide +kernel) (by decide +kernel)
set_option maxRecDepth 20000 in
theorem gX2_letter_X0_knows : GoodIn wsX2_letter (wsV RX2 43 RX0 yX0_knows wsX0_knows) := goodIn_app (goodIn_of _ (by decide +kernel)) ggX2_letter_X0_knows
set_option maxRecDepth 20000 in
theorem ggX2_letter_X2_isYear : GoodIn wsX2_letter wsX2_isYear := goodIn_r _ [11] (by decide +kernel) (by decide +kernel)
set_option maxRecDepth 20000 in
theorem gX2_letter_X2_isYear : GoodIn wsX2_letter (va_wsS RX2 47 yX2_isYear wsX2_isYear) := goodIn_app (goodIn_of _ (by decide +kernel)) ggX2_letter_X2_isYear
set_option maxRecDepth 20000 in
theorem ggX2_letter_X0_nameIn : GoodIn wsX2_letter wsX0_nameIn := goodIn_r _ [15, 16, 17, 18, 5, 19, 20, 21, 22, 23, 24, 25, 26, 27, 28, 29, 30, 31, 32, 33, 34, 35, 36, 37, 38, 39, 40, 41, 42, 43, 44, 45, 46, 47, 48, 49, 50, 51, 52, 65, 66, 67, 68, 69, 70, 71, 72] (by decide +kernel) (by decide +kernel)
set_option maxRecDepth 20000 in
theorem gX2_letter_X0_nameIn : GoodIn wsX2_letter (wsV RX2 108 RX0 yX0_nameIn wsX0_nameIn) := goodIn_app (goodIn_of _ (by decide +kernel)) ggX2_letter_X0_nameIn
set_option maxRecDepth 20000 in
theorem ggX2_letter_X1_lengthOf : GoodIn wsX2_letter wsX1_lengthOf := goodIn_r _ [55, 56, 57, 45, 58] (by decide +kernel) (by decide +kernel)
set_option maxRecDepth 20000 in
theorem gX2_letter_X1_lengthOf : GoodIn wsX2_letter (va_wsS RX2 35 yX1_lengthOf wsX1_lengthOf) := goodIn_app (goodIn_of _ (by decide +kernel)) ggX2_letter_X1_lengthOf
set_option maxRecDepth 20000 in
theorem ggX2_letter_X1_letterOf : GoodIn wsX2_letter wsX1_letterOf := goodIn_r _ [58] (by decide +kernel) (by decide +kernel)
set_option maxRecDepth 20000 in
theorem gX2_letter_X1_letterOf : GoodIn wsX2_letter (va_wsS RX2 112 yX1_letterOf wsX1_letterOf) := goodIn_app (goodIn_of _ (by decide +kernel)) ggX2_letter_X1_letterOf
theorem dX2_letter_0 : decode cX2_letter 0 = .ok (.aload_n 0, 1) := by decide +kernel
theorem dX2_letter_1 : decode cX2_letter 1 = .ok (.getfield 10, 3) := by decide +kernel
theorem dX2_letter_4 : decode cX2_letter 4 = .ok (.iload_n 1, 1) := by decide +kernel
theorem dX2_letter_5 : decode cX2_letter 5 = .ok (.invokevirtual 43, 3) := by decide +kernel
theorem dX2_letter_8 : decode cX2_letter 8 = .ok (.ifCond .ne 5, 3) := by decide +kernel
theorem dX2_letter_11 : decode cX2_letter 11 = .ok (.iconst (-1), 1) := by decide +kernel
theorem dX2_letter_12 : decode cX2_letter 12 = .ok (.ireturn, 1) := by decide +kernel
theorem dX2_letter_13 : decode cX2_letter 13 = .ok (.iload_n 2, 1) := by decide +kernel
theorem dX2_letter_14 : decode cX2_letter 14 = .ok (.invokestatic 47, 3) := by decide +kernel
theorem dX2_letter_17 : decode cX2_letter 17 = .ok (.ifCond .eq 8, 3) := by decide +kernel
theorem dX2_letter_20 : decode cX2_letter 20 = .ok (.iload_n 3, 1) := by decide +kernel
theorem dX2_letter_21 : decode cX2_letter 21 = .ok (.iconst (-1), 1) := by decide +kernel
theorem dX2_letter_22 : decode cX2_letter 22 = .ok (.if_icmp .ge 6, 3) := by decide +kernel
theorem dX2_letter_25 : decode cX2_letter 25 = .ok (.bipush (-2), 2) := by decide +kernel
theorem dX2_letter_27 : decode cX2_letter 27 = .ok (.ireturn, 1) := by decide +kernel
theorem dX2_letter_28 : decode cX2_letter 28 = .ok (.aload_n 0, 1) := by decide +kernel
theorem dX2_letter_29 : decode cX2_letter 29 = .ok (.getfield 10, 3) := by decide +kernel
theorem dX2_letter_32 : decode cX2_letter 32 = .ok (.iload_n 1, 1) := by decide +kernel
theorem dX2_letter_33 : decode cX2_letter 33 = .ok (.iload_n 2, 1) := by decide +kernel
theorem dX2_letter_34 : decode cX2_letter 34 = .ok (.invokevirtual 108, 3) := by decide +kernel
theorem dX2_letter_37 : decode cX2_letter 37 = .ok (.lstore 4, 2) := by decide +kernel
theorem dX2_letter_39 : decode cX2_letter 39 = .ok (.lload 4, 2) := by decide +kernel
theorem dX2_letter_41 : decode cX2_letter 41 = .ok (.lconst 0, 1) := by decide +kernel
theorem dX2_letter_42 : decode cX2_letter 42 = .ok (.lcmp, 1) := by decide +kernel
theorem dX2_letter_43 : decode cX2_letter 43 = .ok (.ifCond .ne 6, 3) := by decide +kernel
theorem dX2_letter_46 : decode cX2_letter 46 = .ok (.bipush (-6), 2) := by decide +kernel
theorem dX2_letter_48 : decode cX2_letter 48 = .ok (.ireturn, 1) := by decide +kernel
theorem dX2_letter_49 : decode cX2_letter 49 = .ok (.lload 4, 2) := by decide +kernel
theorem dX2_letter_51 : decode cX2_letter 51 = .ok (.invokestatic 35, 3) := by decide +kernel
theorem dX2_letter_54 : decode cX2_letter 54 = .ok (.istore 6, 2) := by decide +kernel
theorem dX2_letter_56 : decode cX2_letter 56 = .ok (.iload_n 3, 1) := by decide +kernel
theorem dX2_letter_57 : decode cX2_letter 57 = .ok (.iconst (-1), 1) := by decide +kernel
theorem dX2_letter_58 : decode cX2_letter 58 = .ok (.if_icmp .ne 6, 3) := by decide +kernel
theorem dX2_letter_61 : decode cX2_letter 61 = .ok (.iload 6, 2) := by decide +kernel
theorem dX2_letter_63 : decode cX2_letter 63 = .ok (.ireturn, 1) := by decide +kernel
theorem dX2_letter_64 : decode cX2_letter 64 = .ok (.iload_n 3, 1) := by decide +kernel
theorem dX2_letter_65 : decode cX2_letter 65 = .ok (.iload 6, 2) := by decide +kernel
theorem dX2_letter_67 : decode cX2_letter 67 = .ok (.if_icmp .ge 12, 3) := by decide +kernel
theorem dX2_letter_70 : decode cX2_letter 70 = .ok (.lload 4, 2) := by decide +kernel
theorem dX2_letter_72 : decode cX2_letter 72 = .ok (.iload_n 3, 1) := by decide +kernel
theorem dX2_letter_73 : decode cX2_letter 73 = .ok (.invokestatic 112, 3) := by decide +kernel
theorem dX2_letter_76 : decode cX2_letter 76 = .ok (.goto 5, 3) := by decide +kernel
theorem dX2_letter_79 : decode cX2_letter 79 = .ok (.bipush (-6), 2) := by decide +kernel
theorem dX2_letter_81 : decode cX2_letter 81 = .ok (.ireturn, 1) := by decide +kernel
set_option maxRecDepth 20000 in
theorem ggX2_sound_X0_knows : GoodIn wsX2_sound wsX0_knows := goodIn_r _ [6, 7, 77, 78, 79, 80, 81, 82, 83, 84] (by decide +kernel) (by decide +kernel)
set_option maxRecDepth 20000 in
theorem gX2_sound_X0_knows : GoodIn wsX2_sound (wsV RX2 43 RX0 yX0_knows wsX0_knows) := goodIn_app (goodIn_of _ (by decide +kernel)) ggX2_sound_X0_knows
set_option maxRecDepth 20000 in
theorem ggX2_sound_X2_isYear : GoodIn wsX2_sound wsX2_isYear := goodIn_r _ [11] (by decide +kernel) (by decide +kernel)
set_option maxRecDepth 20000 in
theorem gX2_sound_X2_isYear : GoodIn wsX2_sound (va_wsS RX2 47 yX2_isYear wsX2_isYear) := goodIn_app (goodIn_of _ (by decide +kernel)) ggX2_sound_X2_isYear
set_option maxRecDepth 20000 in
theorem ggX2_sound_X0_nameIn : GoodIn wsX2_sound wsX0_nameIn := goodIn_r _ [15, 16, 17, 18, 5, 19, 20, 21, 22, 23, 24, 25, 26, 27, 28, 29, 30, 31, 32, 33, 34, 35, 36, 37, 38, 39, 40, 41, 42, 43, 44, 45, 46, 47, 48, 49, 50, 51, 52, 77, 78, 79, 80, 81, 82, 83, 84] (by decide +kernel) (by decide +kernel)
set_option maxRecDepth 20000 in
theorem gX2_sound_X0_nameIn : GoodIn wsX2_sound (wsV RX2 108 RX0 yX0_nameIn wsX0_nameIn) := goodIn_app (goodIn_of _ (by decide +kernel)) ggX2_sound_X0_nameIn
set_option maxRecDepth 20000 in
theorem ggX2_sound_X1_soundOf : GoodIn wsX2_sound wsX1_soundOf := goodIn_r _ [55, 56, 57, 45, 58, 59, 60, 61, 62, 63, 64] (by decide +kernel) (by decide +kernel)
set_option maxRecDepth 20000 in
theorem gX2_sound_X1_soundOf : GoodIn wsX2_sound (va_wsS RX2 116 yX1_soundOf wsX1_soundOf) := goodIn_app (goodIn_of _ (by decide +kernel)) ggX2_sound_X1_soundOf
set_option maxRecDepth 20000 in
theorem ggX2_sound_X1_lengthOfSound : GoodIn wsX2_sound wsX1_lengthOfSound := goodIn_r _ [67, 68, 69, 45, 70] (by decide +kernel) (by decide +kernel)
set_option maxRecDepth 20000 in
theorem gX2_sound_X1_lengthOfSound : GoodIn wsX2_sound (va_wsS RX2 119 yX1_lengthOfSound wsX1_lengthOfSound) := goodIn_app (goodIn_of _ (by decide +kernel)) ggX2_sound_X1_lengthOfSound
set_option maxRecDepth 20000 in
theorem ggX2_sound_X1_classOfSound : GoodIn wsX2_sound wsX1_classOfSound := goodIn_r _ [70] (by decide +kernel) (by decide +kernel)
set_option maxRecDepth 20000 in
theorem gX2_sound_X1_classOfSound : GoodIn wsX2_sound (va_wsS RX2 122 yX1_classOfSound wsX1_classOfSound) := goodIn_app (goodIn_of _ (by decide +kernel)) ggX2_sound_X1_classOfSound
theorem dX2_sound_0 : decode cX2_sound 0 = .ok (.aload_n 0, 1) := by decide +kernel
theorem dX2_sound_1 : decode cX2_sound 1 = .ok (.getfield 10, 3) := by decide +kernel
theorem dX2_sound_4 : decode cX2_sound 4 = .ok (.iload_n 1, 1) := by decide +kernel
theorem dX2_sound_5 : decode cX2_sound 5 = .ok (.invokevirtual 43, 3) := by decide +kernel
theorem dX2_sound_8 : decode cX2_sound 8 = .ok (.ifCond .ne 5, 3) := by decide +kernel
theorem dX2_sound_11 : decode cX2_sound 11 = .ok (.iconst (-1), 1) := by decide +kernel
theorem dX2_sound_12 : decode cX2_sound 12 = .ok (.ireturn, 1) := by decide +kernel
theorem dX2_sound_13 : decode cX2_sound 13 = .ok (.iload_n 2, 1) := by decide +kernel
theorem dX2_sound_14 : decode cX2_sound 14 = .ok (.invokestatic 47, 3) := by decide +kernel
theorem dX2_sound_17 : decode cX2_sound 17 = .ok (.ifCond .eq 8, 3) := by decide +kernel
theorem dX2_sound_20 : decode cX2_sound 20 = .ok (.iload_n 3, 1) := by decide +kernel
theorem dX2_sound_21 : decode cX2_sound 21 = .ok (.iconst (-1), 1) := by decide +kernel
theorem dX2_sound_22 : decode cX2_sound 22 = .ok (.if_icmp .ge 6, 3) := by decide +kernel
theorem dX2_sound_25 : decode cX2_sound 25 = .ok (.bipush (-2), 2) := by decide +kernel
theorem dX2_sound_27 : decode cX2_sound 27 = .ok (.ireturn, 1) := by decide +kernel
theorem dX2_sound_28 : decode cX2_sound 28 = .ok (.aload_n 0, 1) := by decide +kernel
theorem dX2_sound_29 : decode cX2_sound 29 = .ok (.getfield 10, 3) := by decide +kernel
theorem dX2_sound_32 : decode cX2_sound 32 = .ok (.iload_n 1, 1) := by decide +kernel
theorem dX2_sound_33 : decode cX2_sound 33 = .ok (.iload_n 2, 1) := by decide +kernel
theorem dX2_sound_34 : decode cX2_sound 34 = .ok (.invokevirtual 108, 3) := by decide +kernel
theorem dX2_sound_37 : decode cX2_sound 37 = .ok (.lstore 4, 2) := by decide +kernel
theorem dX2_sound_39 : decode cX2_sound 39 = .ok (.lload 4, 2) := by decide +kernel
theorem dX2_sound_41 : decode cX2_sound 41 = .ok (.lconst 0, 1) := by decide +kernel
theorem dX2_sound_42 : decode cX2_sound 42 = .ok (.lcmp, 1) := by decide +kernel
theorem dX2_sound_43 : decode cX2_sound 43 = .ok (.ifCond .ne 6, 3) := by decide +kernel
theorem dX2_sound_46 : decode cX2_sound 46 = .ok (.bipush (-6), 2) := by decide +kernel
theorem dX2_sound_48 : decode cX2_sound 48 = .ok (.ireturn, 1) := by decide +kernel
theorem dX2_sound_49 : decode cX2_sound 49 = .ok (.lload 4, 2) := by decide +kernel
theorem dX2_sound_51 : decode cX2_sound 51 = .ok (.invokestatic 116, 3) := by decide +kernel
theorem dX2_sound_54 : decode cX2_sound 54 = .ok (.istore 6, 2) := by decide +kernel
theorem dX2_sound_56 : decode cX2_sound 56 = .ok (.iload 6, 2) := by decide +kernel
theorem dX2_sound_58 : decode cX2_sound 58 = .ok (.invokestatic 119, 3) := by decide +kernel
theorem dX2_sound_61 : decode cX2_sound 61 = .ok (.istore 7, 2) := by decide +kernel
theorem dX2_sound_63 : decode cX2_sound 63 = .ok (.iload_n 3, 1) := by decide +kernel
theorem dX2_sound_64 : decode cX2_sound 64 = .ok (.iconst (-1), 1) := by decide +kernel
theorem dX2_sound_65 : decode cX2_sound 65 = .ok (.if_icmp .ne 6, 3) := by decide +kernel
theorem dX2_sound_68 : decode cX2_sound 68 = .ok (.iload 7, 2) := by decide +kernel
theorem dX2_sound_70 : decode cX2_sound 70 = .ok (.ireturn, 1) := by decide +kernel
theorem dX2_sound_71 : decode cX2_sound 71 = .ok (.iload_n 3, 1) := by decide +kernel
theorem dX2_sound_72 : decode cX2_sound 72 = .ok (.iload 7, 2) := by decide +kernel
theorem dX2_sound_74 : decode cX2_sound 74 = .ok (.if_icmp .ge 12, 3) := by decide +kernel
theorem dX2_sound_77 : decode cX2_sound 77 = .ok (.iload 6, 2) := by decide +kernel
theorem dX2_sound_79 : decode cX2_sound 79 = .ok (.iload_n 3, 1) := by decide +kernel
theorem dX2_sound_80 : decode cX2_sound 80 = .ok (.invokestatic 122, 3) := by decide +kernel
theorem dX2_sound_83 : decode cX2_sound 83 = .ok (.goto 5, 3) := by decide +kernel
theorem dX2_sound_86 : decode cX2_sound 86 = .ok (.bipush (-6), 2) := by decide +kernel
theorem dX2_sound_88 : decode cX2_sound 88 = .ok (.ireturn, 1) := by decide +kernel
set_option maxRecDepth 20000 in
theorem ggX2_parish_X0_knows : GoodIn wsX2_parish wsX0_knows := goodIn_r _ [6, 7, 52, 53, 54, 55, 56, 57, 58, 59] (by decide +kernel) (by decide +kernel)
set_option maxRecDepth 20000 in
theorem gX2_parish_X0_knows : GoodIn wsX2_parish (wsV RX2 43 RX0 yX0_knows wsX0_knows) := goodIn_app (goodIn_of _ (by decide +kernel)) ggX2_parish_X0_knows
set_option maxRecDepth 20000 in
theorem ggX2_parish_X0_eventsOf : GoodIn wsX2_parish wsX0_eventsOf := goodIn_r _ [11, 12, 13, 14, 52, 53, 54, 55, 56, 57, 58, 59] (by decide +kernel) (by decide +kernel)
set_option maxRecDepth 20000 in
theorem gX2_parish_X0_eventsOf : GoodIn wsX2_parish (wsV RX2 125 RX0 yX0_eventsOf wsX0_eventsOf) := goodIn_app (goodIn_of _ (by decide +kernel)) ggX2_parish_X0_eventsOf
set_option maxRecDepth 20000 in
theorem ggX2_parish_X0_lifeOf : GoodIn wsX2_parish wsX0_lifeOf := goodIn_r _ [18, 12, 19, 20, 5, 21, 22, 23, 24, 25, 13, 26, 14, 27, 28, 29, 30, 31, 32, 33, 34, 35, 36, 37, 38, 39, 40, 41, 42, 43, 44, 45, 46, 52, 53, 54, 55, 56, 57, 58, 59] (by decide +kernel) (by decide +kernel)
set_option maxRecDepth 20000 in
theorem gX2_parish_X0_lifeOf : GoodIn wsX2_parish (wsV RX2 128 RX0 yX0_lifeOf wsX0_lifeOf) := goodIn_app (goodIn_of _ (by decide +kernel)) ggX2_parish_X0_lifeOf
theorem dX2_parish_0 : decode cX2_parish 0 = .ok (.aload_n 0, 1) := by decide +kernel
theorem dX2_parish_1 : decode cX2_parish 1 = .ok (.getfield 10, 3) := by decide +kernel
theorem dX2_parish_4 : decode cX2_parish 4 = .ok (.iload_n 1, 1) := by decide +kernel
theorem dX2_parish_5 : decode cX2_parish 5 = .ok (.invokevirtual 43, 3) := by decide +kernel
theorem dX2_parish_8 : decode cX2_parish 8 = .ok (.ifCond .ne 5, 3) := by decide +kernel
theorem dX2_parish_11 : decode cX2_parish 11 = .ok (.iconst (-1), 1) := by decide +kernel
theorem dX2_parish_12 : decode cX2_parish 12 = .ok (.ireturn, 1) := by decide +kernel
theorem dX2_parish_13 : decode cX2_parish 13 = .ok (.iload_n 2, 1) := by decide +kernel
theorem dX2_parish_14 : decode cX2_parish 14 = .ok (.ifCond .lt 8, 3) := by decide +kernel
theorem dX2_parish_17 : decode cX2_parish 17 = .ok (.iload_n 2, 1) := by decide +kernel
theorem dX2_parish_18 : decode cX2_parish 18 = .ok (.iconst 4, 1) := by decide +kernel
theorem dX2_parish_19 : decode cX2_parish 19 = .ok (.if_icmp .le 6, 3) := by decide +kernel
theorem dX2_parish_22 : decode cX2_parish 22 = .ok (.bipush (-2), 2) := by decide +kernel
theorem dX2_parish_24 : decode cX2_parish 24 = .ok (.ireturn, 1) := by decide +kernel
theorem dX2_parish_25 : decode cX2_parish 25 = .ok (.iload_n 2, 1) := by decide +kernel
theorem dX2_parish_26 : decode cX2_parish 26 = .ok (.iconst 3, 1) := by decide +kernel
theorem dX2_parish_27 : decode cX2_parish 27 = .ok (.if_icmp .ne 14, 3) := by decide +kernel
theorem dX2_parish_30 : decode cX2_parish 30 = .ok (.aload_n 0, 1) := by decide +kernel
theorem dX2_parish_31 : decode cX2_parish 31 = .ok (.getfield 10, 3) := by decide +kernel
theorem dX2_parish_34 : decode cX2_parish 34 = .ok (.iload_n 1, 1) := by decide +kernel
theorem dX2_parish_35 : decode cX2_parish 35 = .ok (.invokevirtual 125, 3) := by decide +kernel
theorem dX2_parish_38 : decode cX2_parish 38 = .ok (.goto 12, 3) := by decide +kernel
theorem dX2_parish_41 : decode cX2_parish 41 = .ok (.aload_n 0, 1) := by decide +kernel
theorem dX2_parish_42 : decode cX2_parish 42 = .ok (.getfield 10, 3) := by decide +kernel
theorem dX2_parish_45 : decode cX2_parish 45 = .ok (.iload_n 1, 1) := by decide +kernel
theorem dX2_parish_46 : decode cX2_parish 46 = .ok (.iload_n 2, 1) := by decide +kernel
theorem dX2_parish_47 : decode cX2_parish 47 = .ok (.invokevirtual 128, 3) := by decide +kernel
theorem dX2_parish_50 : decode cX2_parish 50 = .ok (.ireturn, 1) := by decide +kernel
set_option maxRecDepth 20000 in
theorem ggX2_find_X2_areYears : GoodIn wsX2_find wsX2_areYears := goodIn_r _ [5, 6, 7, 4, 8] (by decide +kernel) (by decide +kernel)
set_option maxRecDepth 20000 in
theorem gX2_find_X2_areYears : GoodIn wsX2_find (va_wsS RX2 131 yX2_areYears wsX2_areYears) := goodIn_app (goodIn_of _ (by decide +kernel)) ggX2_find_X2_areYears
set_option maxRecDepth 20000 in
theorem ggX2_find_X2_isHow : GoodIn wsX2_find wsX2_isHow := goodIn_r _ [11] (by decide +kernel) (by decide +kernel)
set_option maxRecDepth 20000 in
theorem gX2_find_X2_isHow : GoodIn wsX2_find (va_wsS RX2 134 yX2_isHow wsX2_isHow) := goodIn_app (goodIn_of _ (by decide +kernel)) ggX2_find_X2_isHow
set_option maxRecDepth 20000 in
theorem ggX2_find_X2_padIsNoName : GoodIn wsX2_find wsX2_padIsNoName := goodIn_r _ [15, 16, 94, 95, 96, 97, 98] (by decide +kernel) (by decide +kernel)
set_option maxRecDepth 20000 in
theorem gX2_find_X2_padIsNoName : GoodIn wsX2_find (wsV RX2 50 RX2 yX2_padIsNoName wsX2_padIsNoName) := goodIn_app (goodIn_of _ (by decide +kernel)) ggX2_find_X2_padIsNoName
set_option maxRecDepth 20000 in
theorem ggX2_find_X0_parishCount : GoodIn wsX2_find wsX0_parishCount := goodIn_r _ [21, 22, 99, 100, 101, 102, 103, 104, 105, 106] (by decide +kernel) (by decide +kernel)
set_option maxRecDepth 20000 in
theorem gX2_find_X0_parishCount : GoodIn wsX2_find (wsV RX2 83 RX0 yX0_parishCount wsX0_parishCount) := goodIn_app (goodIn_of _ (by decide +kernel)) ggX2_find_X0_parishCount
set_option maxRecDepth 20000 in
theorem ggX2_find_X2_wasCalled : GoodIn wsX2_find wsX2_wasCalled := goodIn_r _ [26, 1, 27, 28, 29, 30, 31, 32, 33, 34, 16, 35, 36, 20, 37, 38, 39, 40, 41, 42, 43, 44, 45, 46, 47, 48, 49, 50, 51, 52, 53, 54, 55, 56, 57, 58, 59, 60, 61, 62, 63, 64, 65, 66, 67, 68, 69, 70, 71, 72, 73, 74, 75, 76, 77, 78, 79, 80, 81, 82, 83, 84, 85, 86, 87, 88, 89, 90, 91, 92, 93, 94, 95, 96, 97, 98, 99, 100, 101, 102, 103, 104, 105, 106, 107] (by decide +kernel) (by decide +kernel)
set_option maxRecDepth 20000 in
theorem gX2_find_X2_wasCalled : GoodIn wsX2_find (wsV RX2 137 RX2 yX2_wasCalled wsX2_wasCalled) := goodIn_app (goodIn_of _ (by decide +kernel)) ggX2_find_X2_wasCalled
theorem dX2_find_0 : decode cX2_find 0 = .ok (.iload_n 1, 1) := by decide +kernel
theorem dX2_find_1 : decode cX2_find 1 = .ok (.iload_n 2, 1) := by decide +kernel
theorem dX2_find_2 : decode cX2_find 2 = .ok (.invokestatic 131, 3) := by decide +kernel
theorem dX2_find_5 : decode cX2_find 5 = .ok (.ifCond .eq 16, 3) := by decide +kernel
theorem dX2_find_8 : decode cX2_find 8 = .ok (.iload_n 3, 1) := by decide +kernel
theorem dX2_find_9 : decode cX2_find 9 = .ok (.invokestatic 134, 3) := by decide +kernel
theorem dX2_find_12 : decode cX2_find 12 = .ok (.ifCond .eq 9, 3) := by decide +kernel
theorem dX2_find_15 : decode cX2_find 15 = .ok (.iload 4, 2) := by decide +kernel
theorem dX2_find_17 : decode cX2_find 17 = .ok (.iconst (-1), 1) := by decide +kernel
theorem dX2_find_18 : decode cX2_find 18 = .ok (.if_icmp .ge 6, 3) := by decide +kernel
theorem dX2_find_21 : decode cX2_find 21 = .ok (.bipush (-2), 2) := by decide +kernel
theorem dX2_find_23 : decode cX2_find 23 = .ok (.ireturn, 1) := by decide +kernel
theorem dX2_find_24 : decode cX2_find 24 = .ok (.aload_n 0, 1) := by decide +kernel
theorem dX2_find_25 : decode cX2_find 25 = .ok (.invokevirtual 50, 3) := by decide +kernel
theorem dX2_find_28 : decode cX2_find 28 = .ok (.ifCond .eq 6, 3) := by decide +kernel
theorem dX2_find_31 : decode cX2_find 31 = .ok (.bipush (-7), 2) := by decide +kernel
theorem dX2_find_33 : decode cX2_find 33 = .ok (.ireturn, 1) := by decide +kernel
theorem dX2_find_34 : decode cX2_find 34 = .ok (.iconst 0, 1) := by decide +kernel
theorem dX2_find_35 : decode cX2_find 35 = .ok (.istore 5, 2) := by decide +kernel
theorem dX2_find_37 : decode cX2_find 37 = .ok (.iconst 0, 1) := by decide +kernel
theorem dX2_find_38 : decode cX2_find 38 = .ok (.istore 6, 2) := by decide +kernel
theorem dX2_find_40 : decode cX2_find 40 = .ok (.iload 6, 2) := by decide +kernel
theorem dX2_find_42 : decode cX2_find 42 = .ok (.aload_n 0, 1) := by decide +kernel
theorem dX2_find_43 : decode cX2_find 43 = .ok (.getfield 10, 3) := by decide +kernel
theorem dX2_find_46 : decode cX2_find 46 = .ok (.invokevirtual 83, 3) := by decide +kernel
theorem dX2_find_49 : decode cX2_find 49 = .ok (.if_icmp .ge 37, 3) := by decide +kernel
theorem dX2_find_52 : decode cX2_find 52 = .ok (.aload_n 0, 1) := by decide +kernel
theorem dX2_find_53 : decode cX2_find 53 = .ok (.iload 6, 2) := by decide +kernel
theorem dX2_find_55 : decode cX2_find 55 = .ok (.iload_n 1, 1) := by decide +kernel
theorem dX2_find_56 : decode cX2_find 56 = .ok (.iload_n 2, 1) := by decide +kernel
theorem dX2_find_57 : decode cX2_find 57 = .ok (.iload_n 3, 1) := by decide +kernel
theorem dX2_find_58 : decode cX2_find 58 = .ok (.invokevirtual 137, 3) := by decide +kernel
theorem dX2_find_61 : decode cX2_find 61 = .ok (.ifCond .ne 6, 3) := by decide +kernel
theorem dX2_find_64 : decode cX2_find 64 = .ok (.goto 16, 3) := by decide +kernel
theorem dX2_find_67 : decode cX2_find 67 = .ok (.iload 5, 2) := by decide +kernel
theorem dX2_find_69 : decode cX2_find 69 = .ok (.iload 4, 2) := by decide +kernel
theorem dX2_find_71 : decode cX2_find 71 = .ok (.if_icmp .ne 6, 3) := by decide +kernel
theorem dX2_find_74 : decode cX2_find 74 = .ok (.iload 6, 2) := by decide +kernel
theorem dX2_find_76 : decode cX2_find 76 = .ok (.ireturn, 1) := by decide +kernel
theorem dX2_find_77 : decode cX2_find 77 = .ok (.iinc 5 1, 3) := by decide +kernel
theorem dX2_find_80 : decode cX2_find 80 = .ok (.iinc 6 1, 3) := by decide +kernel
theorem dX2_find_83 : decode cX2_find 83 = .ok (.goto (-43), 3) := by decide +kernel
theorem dX2_find_86 : decode cX2_find 86 = .ok (.iload 4, 2) := by decide +kernel
theorem dX2_find_88 : decode cX2_find 88 = .ok (.iconst (-1), 1) := by decide +kernel
theorem dX2_find_89 : decode cX2_find 89 = .ok (.if_icmp .ne 8, 3) := by decide +kernel
theorem dX2_find_92 : decode cX2_find 92 = .ok (.iload 5, 2) := by decide +kernel
theorem dX2_find_94 : decode cX2_find 94 = .ok (.goto 5, 3) := by decide +kernel
theorem dX2_find_97 : decode cX2_find 97 = .ok (.bipush (-6), 2) := by decide +kernel
theorem dX2_find_99 : decode cX2_find 99 = .ok (.ireturn, 1) := by decide +kernel
set_option maxRecDepth 20000 in
theorem ggX2_called_X2_isSite : GoodIn wsX2_called wsX2_isSite := goodIn_r _ [14] (by decide +kernel) (by decide +kernel)
set_option maxRecDepth 20000 in
theorem gX2_called_X2_isSite : GoodIn wsX2_called (va_wsS RX2 96 yX2_isSite wsX2_isSite) := goodIn_app (goodIn_of _ (by decide +kernel)) ggX2_called_X2_isSite
set_option maxRecDepth 20000 in
theorem ggX2_called_X2_areYears : GoodIn wsX2_called wsX2_areYears := goodIn_r _ [17, 18, 19, 13, 20] (by decide +kernel) (by decide +kernel)
set_option maxRecDepth 20000 in
theorem gX2_called_X2_areYears : GoodIn wsX2_called (va_wsS RX2 131 yX2_areYears wsX2_areYears) := goodIn_app (goodIn_of _ (by decide +kernel)) ggX2_called_X2_areYears
set_option maxRecDepth 20000 in
theorem ggX2_called_X2_isHow : GoodIn wsX2_called wsX2_isHow := goodIn_r _ [23] (by decide +kernel) (by decide +kernel)
set_option maxRecDepth 20000 in
theorem gX2_called_X2_isHow : GoodIn wsX2_called (va_wsS RX2 134 yX2_isHow wsX2_isHow) := goodIn_app (goodIn_of _ (by decide +kernel)) ggX2_called_X2_isHow
set_option maxRecDepth 20000 in
theorem ggX2_called_X2_padIsNoName : GoodIn wsX2_called wsX2_padIsNoName := goodIn_r _ [27, 10, 95, 96, 97, 98, 99] (by decide +kernel) (by decide +kernel)
set_option maxRecDepth 20000 in
theorem gX2_called_X2_padIsNoName : GoodIn wsX2_called (wsV RX2 50 RX2 yX2_padIsNoName wsX2_padIsNoName) := goodIn_app (goodIn_of _ (by decide +kernel)) ggX2_called_X2_padIsNoName
set_option maxRecDepth 20000 in
theorem ggX2_called_X0_eventCount : GoodIn wsX2_called wsX0_eventCount := goodIn_r _ [32, 33, 100, 101, 102, 103, 104, 105, 106, 107] (by decide +kernel) (by decide +kernel)
set_option maxRecDepth 20000 in
theorem gX2_called_X0_eventCount : GoodIn wsX2_called (wsV RX2 86 RX0 yX0_eventCount wsX0_eventCount) := goodIn_app (goodIn_of _ (by decide +kernel)) ggX2_called_X0_eventCount
set_option maxRecDepth 20000 in
theorem ggX2_called_X0_firstYear : GoodIn wsX2_called wsX0_firstYear := goodIn_r _ [37, 33, 38, 100, 101, 102, 103, 104, 105, 106, 107] (by decide +kernel) (by decide +kernel)
set_option maxRecDepth 20000 in
theorem gX2_called_X0_firstYear : GoodIn wsX2_called (wsV RX2 141 RX0 yX0_firstYear wsX0_firstYear) := goodIn_app (goodIn_of _ (by decide +kernel)) ggX2_called_X0_firstYear
set_option maxRecDepth 20000 in
theorem ggX2_called_X0_lastYear : GoodIn wsX2_called wsX0_lastYear := goodIn_r _ [42, 33, 38, 100, 101, 102, 103, 104, 105, 106, 107] (by decide +kernel) (by decide +kernel)
set_option maxRecDepth 20000 in
theorem gX2_called_X0_lastYear : GoodIn wsX2_called (wsV RX2 149 RX0 yX0_lastYear wsX0_lastYear) := goodIn_app (goodIn_of _ (by decide +kernel)) ggX2_called_X0_lastYear
set_option maxRecDepth 20000 in
theorem ggX2_called_X0_nameAt : GoodIn wsX2_called wsX0_nameAt := goodIn_r _ [46, 47, 48, 49, 31, 50, 33, 51, 52, 53, 13, 54, 55, 56, 57, 58, 59, 60, 61, 62, 63, 64, 65, 66, 67, 68, 69, 70, 71, 72, 100, 101, 102, 103, 104, 105, 106, 107] (by decide +kernel) (by decide +kernel)
set_option maxRecDepth 20000 in
theorem gX2_called_X0_nameAt : GoodIn wsX2_called (wsV RX2 155 RX0 yX0_nameAt wsX0_nameAt) := goodIn_app (goodIn_of _ (by decide +kernel)) ggX2_called_X0_nameAt
set_option maxRecDepth 20000 in
theorem ggX2_called_X1_areAlike : GoodIn wsX2_called wsX1_areAlike := goodIn_r _ [76, 77, 78, 64, 79, 80, 81, 82, 83, 84, 85, 86, 87, 88, 89, 90, 91, 92, 93, 94, 7, 4, 8, 108] (by decide +kernel) (by decide +kernel)
set_option maxRecDepth 20000 in
theorem gX2_called_X1_areAlike : GoodIn wsX2_called (wsV RX2 158 RX1 yX1_areAlike wsX1_areAlike) := goodIn_app (goodIn_of _ (by decide +kernel)) ggX2_called_X1_areAlike
theorem dX2_called_0 : decode cX2_called 0 = .ok (.iload_n 1, 1) := by decide +kernel
theorem dX2_called_1 : decode cX2_called 1 = .ok (.invokestatic 96, 3) := by decide +kernel
theorem dX2_called_4 : decode cX2_called 4 = .ok (.ifCond .ne 5, 3) := by decide +kernel
theorem dX2_called_7 : decode cX2_called 7 = .ok (.iconst (-1), 1) := by decide +kernel
theorem dX2_called_8 : decode cX2_called 8 = .ok (.ireturn, 1) := by decide +kernel
theorem dX2_called_9 : decode cX2_called 9 = .ok (.iload_n 2, 1) := by decide +kernel
theorem dX2_called_10 : decode cX2_called 10 = .ok (.iload_n 3, 1) := by decide +kernel
theorem dX2_called_11 : decode cX2_called 11 = .ok (.invokestatic 131, 3) := by decide +kernel
theorem dX2_called_14 : decode cX2_called 14 = .ok (.ifCond .eq 22, 3) := by decide +kernel
theorem dX2_called_17 : decode cX2_called 17 = .ok (.iload 4, 2) := by decide +kernel
theorem dX2_called_19 : decode cX2_called 19 = .ok (.invokestatic 134, 3) := by decide +kernel
theorem dX2_called_22 : decode cX2_called 22 = .ok (.ifCond .eq 14, 3) := by decide +kernel
theorem dX2_called_25 : decode cX2_called 25 = .ok (.iload 5, 2) := by decide +kernel
theorem dX2_called_27 : decode cX2_called 27 = .ok (.ifCond .lt 9, 3) := by decide +kernel
theorem dX2_called_30 : decode cX2_called 30 = .ok (.iload 5, 2) := by decide +kernel
theorem dX2_called_32 : decode cX2_called 32 = .ok (.iconst 2, 1) := by decide +kernel
theorem dX2_called_33 : decode cX2_called 33 = .ok (.if_icmp .le 6, 3) := by decide +kernel
theorem dX2_called_36 : decode cX2_called 36 = .ok (.bipush (-2), 2) := by decide +kernel
theorem dX2_called_38 : decode cX2_called 38 = .ok (.ireturn, 1) := by decide +kernel
theorem dX2_called_39 : decode cX2_called 39 = .ok (.aload_n 0, 1) := by decide +kernel
theorem dX2_called_40 : decode cX2_called 40 = .ok (.invokevirtual 50, 3) := by decide +kernel
theorem dX2_called_43 : decode cX2_called 43 = .ok (.ifCond .eq 6, 3) := by decide +kernel
theorem dX2_called_46 : decode cX2_called 46 = .ok (.bipush (-7), 2) := by decide +kernel
theorem dX2_called_48 : decode cX2_called 48 = .ok (.ireturn, 1) := by decide +kernel
theorem dX2_called_49 : decode cX2_called 49 = .ok (.iconst 0, 1) := by decide +kernel
theorem dX2_called_50 : decode cX2_called 50 = .ok (.istore 6, 2) := by decide +kernel
theorem dX2_called_52 : decode cX2_called 52 = .ok (.bipush (-6), 2) := by decide +kernel
theorem dX2_called_54 : decode cX2_called 54 = .ok (.istore 7, 2) := by decide +kernel
theorem dX2_called_56 : decode cX2_called 56 = .ok (.bipush (-6), 2) := by decide +kernel
theorem dX2_called_58 : decode cX2_called 58 = .ok (.istore 8, 2) := by decide +kernel
theorem dX2_called_60 : decode cX2_called 60 = .ok (.iconst 0, 1) := by decide +kernel
theorem dX2_called_61 : decode cX2_called 61 = .ok (.istore 9, 2) := by decide +kernel
theorem dX2_called_63 : decode cX2_called 63 = .ok (.iload 9, 2) := by decide +kernel
theorem dX2_called_65 : decode cX2_called 65 = .ok (.aload_n 0, 1) := by decide +kernel
theorem dX2_called_66 : decode cX2_called 66 = .ok (.getfield 10, 3) := by decide +kernel
theorem dX2_called_69 : decode cX2_called 69 = .ok (.invokevirtual 86, 3) := by decide +kernel
theorem dX2_called_72 : decode cX2_called 72 = .ok (.if_icmp .gt 100, 3) := by decide +kernel
theorem dX2_called_75 : decode cX2_called 75 = .ok (.iload_n 2, 1) := by decide +kernel
theorem dX2_called_76 : decode cX2_called 76 = .ok (.aload_n 0, 1) := by decide +kernel
theorem dX2_called_77 : decode cX2_called 77 = .ok (.getfield 10, 3) := by decide +kernel
theorem dX2_called_80 : decode cX2_called 80 = .ok (.iload 9, 2) := by decide +kernel
theorem dX2_called_82 : decode cX2_called 82 = .ok (.invokevirtual 141, 3) := by decide +kernel
theorem dX2_called_85 : decode cX2_called 85 = .ok (.invokestatic 144, 3) := by decide +kernel
theorem dX2_called_88 : decode cX2_called 88 = .ok (.istore 10, 2) := by decide +kernel
theorem dX2_called_90 : decode cX2_called 90 = .ok (.iload_n 3, 1) := by decide +kernel
theorem dX2_called_91 : decode cX2_called 91 = .ok (.aload_n 0, 1) := by decide +kernel
theorem dX2_called_92 : decode cX2_called 92 = .ok (.getfield 10, 3) := by decide +kernel
theorem dX2_called_95 : decode cX2_called 95 = .ok (.iload 9, 2) := by decide +kernel
theorem dX2_called_97 : decode cX2_called 97 = .ok (.invokevirtual 149, 3) := by decide +kernel
theorem dX2_called_100 : decode cX2_called 100 = .ok (.invokestatic 152, 3) := by decide +kernel
theorem dX2_called_103 : decode cX2_called 103 = .ok (.istore 11, 2) := by decide +kernel
theorem dX2_called_105 : decode cX2_called 105 = .ok (.iload 10, 2) := by decide +kernel
theorem dX2_called_107 : decode cX2_called 107 = .ok (.iload 11, 2) := by decide +kernel
theorem dX2_called_109 : decode cX2_called 109 = .ok (.if_icmp .gt 57, 3) := by decide +kernel
theorem dX2_called_112 : decode cX2_called 112 = .ok (.aload_n 0, 1) := by decide +kernel
theorem dX2_called_113 : decode cX2_called 113 = .ok (.getfield 23, 3) := by decide +kernel
theorem dX2_called_116 : decode cX2_called 116 = .ok (.aload_n 0, 1) := by decide +kernel
theorem dX2_called_117 : decode cX2_called 117 = .ok (.getfield 10, 3) := by decide +kernel
theorem dX2_called_120 : decode cX2_called 120 = .ok (.iload_n 1, 1) := by decide +kernel
theorem dX2_called_121 : decode cX2_called 121 = .ok (.iload 9, 2) := by decide +kernel
theorem dX2_called_123 : decode cX2_called 123 = .ok (.invokevirtual 155, 3) := by decide +kernel
theorem dX2_called_126 : decode cX2_called 126 = .ok (.aload_n 0, 1) := by decide +kernel
theorem dX2_called_127 : decode cX2_called 127 = .ok (.getfield 31, 3) := by decide +kernel
theorem dX2_called_130 : decode cX2_called 130 = .ok (.iload 4, 2) := by decide +kernel
theorem dX2_called_132 : decode cX2_called 132 = .ok (.invokevirtual 158, 3) := by decide +kernel
theorem dX2_called_135 : decode cX2_called 135 = .ok (.ifCond .ne 6, 3) := by decide +kernel
theorem dX2_called_138 : decode cX2_called 138 = .ok (.goto 28, 3) := by decide +kernel
theorem dX2_called_141 : decode cX2_called 141 = .ok (.iload 6, 2) := by decide +kernel
theorem dX2_called_143 : decode cX2_called 143 = .ok (.ifCond .ne 7, 3) := by decide +kernel
theorem dX2_called_146 : decode cX2_called 146 = .ok (.iload 10, 2) := by decide +kernel
theorem dX2_called_148 : decode cX2_called 148 = .ok (.istore 7, 2) := by decide +kernel
theorem dX2_called_150 : decode cX2_called 150 = .ok (.iload 11, 2) := by decide +kernel
theorem dX2_called_152 : decode cX2_called 152 = .ok (.istore 8, 2) := by decide +kernel
theorem dX2_called_154 : decode cX2_called 154 = .ok (.iload 6, 2) := by decide +kernel
theorem dX2_called_156 : decode cX2_called 156 = .ok (.iload 11, 2) := by decide +kernel
theorem dX2_called_158 : decode cX2_called 158 = .ok (.iload 10, 2) := by decide +kernel
theorem dX2_called_160 : decode cX2_called 160 = .ok (.isub, 1) := by decide +kernel
theorem dX2_called_161 : decode cX2_called 161 = .ok (.iconst 1, 1) := by decide +kernel
theorem dX2_called_162 : decode cX2_called 162 = .ok (.iadd, 1) := by decide +kernel
theorem dX2_called_163 : decode cX2_called 163 = .ok (.iadd, 1) := by decide +kernel
theorem dX2_called_164 : decode cX2_called 164 = .ok (.istore 6, 2) := by decide +kernel
theorem dX2_called_166 : decode cX2_called 166 = .ok (.iinc 9 1, 3) := by decide +kernel
theorem dX2_called_169 : decode cX2_called 169 = .ok (.goto (-106), 3) := by decide +kernel
theorem dX2_called_172 : decode cX2_called 172 = .ok (.iload 5, 2) := by decide +kernel
theorem dX2_called_174 : decode cX2_called 174 = .ok (.ifCond .ne 6, 3) := by decide +kernel
theorem dX2_called_177 : decode cX2_called 177 = .ok (.iload 6, 2) := by decide +kernel
theorem dX2_called_179 : decode cX2_called 179 = .ok (.ireturn, 1) := by decide +kernel
theorem dX2_called_180 : decode cX2_called 180 = .ok (.iload 5, 2) := by decide +kernel
theorem dX2_called_182 : decode cX2_called 182 = .ok (.iconst 1, 1) := by decide +kernel
theorem dX2_called_183 : decode cX2_called 183 = .ok (.if_icmp .ne 8, 3) := by decide +kernel
theorem dX2_called_186 : decode cX2_called 186 = .ok (.iload 7, 2) := by decide +kernel
theorem dX2_called_188 : decode cX2_called 188 = .ok (.goto 5, 3) := by decide +kernel
theorem dX2_called_191 : decode cX2_called 191 = .ok (.iload 8, 2) := by decide +kernel
theorem dX2_called_193 : decode cX2_called 193 = .ok (.ireturn, 1) := by decide +kernel
set_option maxRecDepth 20000 in
theorem ggX2_off_X0_knows : GoodIn wsX2_off wsX0_knows := goodIn_r _ [8, 9, 79, 80, 81, 82, 83, 84, 85, 86] (by decide +kernel) (by decide +kernel)
set_option maxRecDepth 20000 in
theorem gX2_off_X0_knows : GoodIn wsX2_off (wsV RX2 43 RX0 yX0_knows wsX0_knows) := goodIn_app (goodIn_of _ (by decide +kernel)) ggX2_off_X0_knows
set_option maxRecDepth 20000 in
theorem ggX2_off_X2_isYear : GoodIn wsX2_off wsX2_isYear := goodIn_r _ [13] (by decide +kernel) (by decide +kernel)
set_option maxRecDepth 20000 in
theorem gX2_off_X2_isYear : GoodIn wsX2_off (va_wsS RX2 47 yX2_isYear wsX2_isYear) := goodIn_app (goodIn_of _ (by decide +kernel)) ggX2_off_X2_isYear
set_option maxRecDepth 20000 in
theorem ggX2_off_X2_padIsNoName : GoodIn wsX2_off wsX2_padIsNoName := goodIn_r _ [17, 3, 74, 75, 76, 77, 78] (by decide +kernel) (by decide +kernel)
set_option maxRecDepth 20000 in
theorem gX2_off_X2_padIsNoName : GoodIn wsX2_off (wsV RX2 50 RX2 yX2_padIsNoName wsX2_padIsNoName) := goodIn_app (goodIn_of _ (by decide +kernel)) ggX2_off_X2_padIsNoName
set_option maxRecDepth 20000 in
theorem ggX2_off_X0_nameIn : GoodIn wsX2_off wsX0_nameIn := goodIn_r _ [21, 22, 23, 24, 7, 25, 26, 27, 28, 29, 30, 31, 32, 33, 34, 35, 36, 37, 38, 39, 40, 41, 42, 43, 44, 45, 46, 47, 48, 49, 50, 51, 52, 53, 54, 55, 56, 57, 58, 79, 80, 81, 82, 83, 84, 85, 86] (by decide +kernel) (by decide +kernel)
set_option maxRecDepth 20000 in
theorem gX2_off_X0_nameIn : GoodIn wsX2_off (wsV RX2 108 RX0 yX0_nameIn wsX0_nameIn) := goodIn_app (goodIn_of _ (by decide +kernel)) ggX2_off_X0_nameIn
set_option maxRecDepth 20000 in
theorem ggX2_off_X1_distance : GoodIn wsX2_off wsX1_distance := goodIn_r _ [62, 63, 64, 65, 66, 67, 68, 69, 51, 70, 71, 72, 73, 87] (by decide +kernel) (by decide +kernel)
set_option maxRecDepth 20000 in
theorem gX2_off_X1_distance : GoodIn wsX2_off (wsV RX2 162 RX1 yX1_distance wsX1_distance) := goodIn_app (goodIn_of _ (by decide +kernel)) ggX2_off_X1_distance
theorem dX2_off_0 : decode cX2_off 0 = .ok (.aload_n 0, 1) := by decide +kernel
theorem dX2_off_1 : decode cX2_off 1 = .ok (.getfield 10, 3) := by decide +kernel
theorem dX2_off_4 : decode cX2_off 4 = .ok (.iload_n 1, 1) := by decide +kernel
theorem dX2_off_5 : decode cX2_off 5 = .ok (.invokevirtual 43, 3) := by decide +kernel
theorem dX2_off_8 : decode cX2_off 8 = .ok (.ifCond .ne 5, 3) := by decide +kernel
theorem dX2_off_11 : decode cX2_off 11 = .ok (.iconst (-1), 1) := by decide +kernel
theorem dX2_off_12 : decode cX2_off 12 = .ok (.ireturn, 1) := by decide +kernel
theorem dX2_off_13 : decode cX2_off 13 = .ok (.iload_n 2, 1) := by decide +kernel
theorem dX2_off_14 : decode cX2_off 14 = .ok (.invokestatic 47, 3) := by decide +kernel
theorem dX2_off_17 : decode cX2_off 17 = .ok (.ifCond .ne 6, 3) := by decide +kernel
theorem dX2_off_20 : decode cX2_off 20 = .ok (.bipush (-2), 2) := by decide +kernel
theorem dX2_off_22 : decode cX2_off 22 = .ok (.ireturn, 1) := by decide +kernel
theorem dX2_off_23 : decode cX2_off 23 = .ok (.aload_n 0, 1) := by decide +kernel
theorem dX2_off_24 : decode cX2_off 24 = .ok (.invokevirtual 50, 3) := by decide +kernel
theorem dX2_off_27 : decode cX2_off 27 = .ok (.ifCond .eq 6, 3) := by decide +kernel
theorem dX2_off_30 : decode cX2_off 30 = .ok (.bipush (-7), 2) := by decide +kernel
theorem dX2_off_32 : decode cX2_off 32 = .ok (.ireturn, 1) := by decide +kernel
theorem dX2_off_33 : decode cX2_off 33 = .ok (.aload_n 0, 1) := by decide +kernel
theorem dX2_off_34 : decode cX2_off 34 = .ok (.getfield 10, 3) := by decide +kernel
theorem dX2_off_37 : decode cX2_off 37 = .ok (.iload_n 1, 1) := by decide +kernel
theorem dX2_off_38 : decode cX2_off 38 = .ok (.iload_n 2, 1) := by decide +kernel
theorem dX2_off_39 : decode cX2_off 39 = .ok (.invokevirtual 108, 3) := by decide +kernel
theorem dX2_off_42 : decode cX2_off 42 = .ok (.lstore_n 3, 1) := by decide +kernel
theorem dX2_off_43 : decode cX2_off 43 = .ok (.lload_n 3, 1) := by decide +kernel
theorem dX2_off_44 : decode cX2_off 44 = .ok (.lconst 0, 1) := by decide +kernel
theorem dX2_off_45 : decode cX2_off 45 = .ok (.lcmp, 1) := by decide +kernel
theorem dX2_off_46 : decode cX2_off 46 = .ok (.ifCond .ne 8, 3) := by decide +kernel
theorem dX2_off_49 : decode cX2_off 49 = .ok (.bipush (-6), 2) := by decide +kernel
theorem dX2_off_51 : decode cX2_off 51 = .ok (.goto 15, 3) := by decide +kernel
theorem dX2_off_54 : decode cX2_off 54 = .ok (.aload_n 0, 1) := by decide +kernel
theorem dX2_off_55 : decode cX2_off 55 = .ok (.getfield 23, 3) := by decide +kernel
theorem dX2_off_58 : decode cX2_off 58 = .ok (.aload_n 0, 1) := by decide +kernel
theorem dX2_off_59 : decode cX2_off 59 = .ok (.getfield 31, 3) := by decide +kernel
theorem dX2_off_62 : decode cX2_off 62 = .ok (.lload_n 3, 1) := by decide +kernel
theorem dX2_off_63 : decode cX2_off 63 = .ok (.invokevirtual 162, 3) := by decide +kernel
theorem dX2_off_66 : decode cX2_off 66 = .ok (.ireturn, 1) := by decide +kernel
set_option maxRecDepth 20000 in
theorem ggX2_span_X2_isSite : GoodIn wsX2_span wsX2_isSite := goodIn_r _ [5] (by decide +kernel) (by decide +kernel)
set_option maxRecDepth 20000 in
theorem gX2_span_X2_isSite : GoodIn wsX2_span (va_wsS RX2 96 yX2_isSite wsX2_isSite) := goodIn_app (goodIn_of _ (by decide +kernel)) ggX2_span_X2_isSite
set_option maxRecDepth 20000 in
theorem ggX2_span_X0_stageIn : GoodIn wsX2_span wsX0_stageIn := goodIn_r _ [10, 11, 12, 70, 71, 72, 73, 74, 75, 76, 77] (by decide +kernel) (by decide +kernel)
set_option maxRecDepth 20000 in
theorem gX2_span_X0_stageIn : GoodIn wsX2_span (wsV RX2 99 RX0 yX0_stageIn wsX0_stageIn) := goodIn_app (goodIn_of _ (by decide +kernel)) ggX2_span_X0_stageIn
set_option maxRecDepth 20000 in
theorem ggX2_span_X0_eventCount : GoodIn wsX2_span wsX0_eventCount := goodIn_r _ [16, 11, 70, 71, 72, 73, 74, 75, 76, 77] (by decide +kernel) (by decide +kernel)
set_option maxRecDepth 20000 in
theorem gX2_span_X0_eventCount : GoodIn wsX2_span (wsV RX2 86 RX0 yX0_eventCount wsX0_eventCount) := goodIn_app (goodIn_of _ (by decide +kernel)) ggX2_span_X0_eventCount
set_option maxRecDepth 20000 in
theorem ggX2_span_X0_nextSpan : GoodIn wsX2_span wsX0_nextSpan := goodIn_r _ [20, 11, 21, 22, 23, 9, 24, 25, 26, 27, 4, 28, 29, 30, 31, 32, 33, 34, 35, 36, 37, 38, 39, 40, 41, 42, 43, 44, 45, 46, 47, 48, 49, 50, 51, 52, 53, 54, 12, 55, 56, 57, 58, 70, 71, 72, 73, 74, 75, 76, 77] (by decide +kernel) (by decide +kernel)
set_option maxRecDepth 20000 in
theorem gX2_span_X0_nextSpan : GoodIn wsX2_span (wsV RX2 166 RX0 yX0_nextSpan wsX0_nextSpan) := goodIn_app (goodIn_of _ (by decide +kernel)) ggX2_span_X0_nextSpan
set_option maxRecDepth 20000 in
theorem ggX2_span_X2_spanFact : GoodIn wsX2_span wsX2_spanFact := goodIn_r _ [62, 1, 63, 52, 53, 9, 54, 11, 12, 64, 22, 23, 24, 25, 26, 27, 4, 28, 13, 14, 15, 16, 65, 66, 67, 68, 69, 70, 71, 72, 73, 74, 75, 76, 77] (by decide +kernel) (by decide +kernel)
set_option maxRecDepth 20000 in
theorem gX2_span_X2_spanFact : GoodIn wsX2_span (wsV RX2 169 RX2 yX2_spanFact wsX2_spanFact) := goodIn_app (goodIn_of _ (by decide +kernel)) ggX2_span_X2_spanFact
theorem dX2_span_0 : decode cX2_span 0 = .ok (.iload_n 1, 1) := by decide +kernel
theorem dX2_span_1 : decode cX2_span 1 = .ok (.invokestatic 96, 3) := by decide +kernel
theorem dX2_span_4 : decode cX2_span 4 = .ok (.ifCond .ne 5, 3) := by decide +kernel
theorem dX2_span_7 : decode cX2_span 7 = .ok (.iconst (-1), 1) := by decide +kernel
theorem dX2_span_8 : decode cX2_span 8 = .ok (.ireturn, 1) := by decide +kernel
theorem dX2_span_9 : decode cX2_span 9 = .ok (.iload_n 2, 1) := by decide +kernel
theorem dX2_span_10 : decode cX2_span 10 = .ok (.iconst (-1), 1) := by decide +kernel
theorem dX2_span_11 : decode cX2_span 11 = .ok (.if_icmp .lt 12, 3) := by decide +kernel
theorem dX2_span_14 : decode cX2_span 14 = .ok (.iload_n 3, 1) := by decide +kernel
theorem dX2_span_15 : decode cX2_span 15 = .ok (.ifCond .lt 8, 3) := by decide +kernel
theorem dX2_span_18 : decode cX2_span 18 = .ok (.iload_n 3, 1) := by decide +kernel
theorem dX2_span_19 : decode cX2_span 19 = .ok (.iconst 2, 1) := by decide +kernel
theorem dX2_span_20 : decode cX2_span 20 = .ok (.if_icmp .le 6, 3) := by decide +kernel
theorem dX2_span_23 : decode cX2_span 23 = .ok (.bipush (-2), 2) := by decide +kernel
theorem dX2_span_25 : decode cX2_span 25 = .ok (.ireturn, 1) := by decide +kernel
theorem dX2_span_26 : decode cX2_span 26 = .ok (.iconst 0, 1) := by decide +kernel
theorem dX2_span_27 : decode cX2_span 27 = .ok (.istore 4, 2) := by decide +kernel
