set_option maxRecDepth 20000 in
theorem ggX2_init_X0_init : GoodIn wsX2_init wsX0_init := goodIn_r _ [16, 17, 2, 3, 18, 19, 20, 21, 22, 23, 24, 25, 26, 27, 32, 33, 34, 35, 36, 37, 38, 39] (by decide +kernel) (by decide +kernel)
set_option maxRecDepth 20000 in
theorem gX2_init_X0_init_n9 : GoodIn wsX2_init (wsX0_init) := ggX2_init_X0_init
set_option maxRecDepth 20000 in
theorem ggX2_init_X1_init : GoodIn wsX2_init wsX1_init := goodIn_r _ [29, 30, 2, 3, 18, 31, 45] (by decide +kernel) (by decide +kernel)
set_option maxRecDepth 20000 in
theorem gX2_init_X1_init_n22 : GoodIn wsX2_init (wsX1_init) := ggX2_init_X1_init
theorem dX2_init_0 : decode cX2_init 0 = .ok (.aload_n 0, 1) := by decide +kernel
theorem dX2_init_1 : decode cX2_init 1 = .ok (.invokespecial 1, 3) := by decide +kernel
theorem dX2_init_4 : decode cX2_init 4 = .ok (.aload_n 0, 1) := by decide +kernel
theorem dX2_init_5 : decode cX2_init 5 = .ok (.new 7, 3) := by decide +kernel
theorem dX2_init_8 : decode cX2_init 8 = .ok (.dup, 1) := by decide +kernel
theorem dX2_init_9 : decode cX2_init 9 = .ok (.invokespecial 9, 3) := by decide +kernel
theorem dX2_init_12 : decode cX2_init 12 = .ok (.putfield 10, 3) := by decide +kernel
theorem dX2_init_15 : decode cX2_init 15 = .ok (.aload_n 0, 1) := by decide +kernel
theorem dX2_init_16 : decode cX2_init 16 = .ok (.iconst 2, 1) := by decide +kernel
theorem dX2_init_17 : decode cX2_init 17 = .ok (.anewarray 7, 3) := by decide +kernel
theorem dX2_init_20 : decode cX2_init 20 = .ok (.dup, 1) := by decide +kernel
theorem dX2_init_21 : decode cX2_init 21 = .ok (.iconst 0, 1) := by decide +kernel
theorem dX2_init_22 : decode cX2_init 22 = .ok (.new 7, 3) := by decide +kernel
theorem dX2_init_25 : decode cX2_init 25 = .ok (.dup, 1) := by decide +kernel
theorem dX2_init_26 : decode cX2_init 26 = .ok (.invokespecial 9, 3) := by decide +kernel
theorem dX2_init_29 : decode cX2_init 29 = .ok (.aastore, 1) := by decide +kernel
theorem dX2_init_30 : decode cX2_init 30 = .ok (.dup, 1) := by decide +kernel
theorem dX2_init_31 : decode cX2_init 31 = .ok (.iconst 1, 1) := by decide +kernel
theorem dX2_init_32 : decode cX2_init 32 = .ok (.new 7, 3) := by decide +kernel
theorem dX2_init_35 : decode cX2_init 35 = .ok (.dup, 1) := by decide +kernel
theorem dX2_init_36 : decode cX2_init 36 = .ok (.invokespecial 9, 3) := by decide +kernel
theorem dX2_init_39 : decode cX2_init 39 = .ok (.aastore, 1) := by decide +kernel
theorem dX2_init_40 : decode cX2_init 40 = .ok (.putfield 16, 3) := by decide +kernel
theorem dX2_init_43 : decode cX2_init 43 = .ok (.aload_n 0, 1) := by decide +kernel
theorem dX2_init_44 : decode cX2_init 44 = .ok (.new 20, 3) := by decide +kernel
theorem dX2_init_47 : decode cX2_init 47 = .ok (.dup, 1) := by decide +kernel
theorem dX2_init_48 : decode cX2_init 48 = .ok (.invokespecial 22, 3) := by decide +kernel
theorem dX2_init_51 : decode cX2_init 51 = .ok (.putfield 23, 3) := by decide +kernel
theorem dX2_init_54 : decode cX2_init 54 = .ok (.aload_n 0, 1) := by decide +kernel
theorem dX2_init_55 : decode cX2_init 55 = .ok (.iconst 0, 1) := by decide +kernel
theorem dX2_init_56 : decode cX2_init 56 = .ok (.putfield 27, 3) := by decide +kernel
theorem dX2_init_59 : decode cX2_init 59 = .ok (.aload_n 0, 1) := by decide +kernel
theorem dX2_init_60 : decode cX2_init 60 = .ok (.lconst 0, 1) := by decide +kernel
theorem dX2_init_61 : decode cX2_init 61 = .ok (.putfield 31, 3) := by decide +kernel
theorem dX2_init_64 : decode cX2_init 64 = .ok (.return_, 1) := by decide +kernel
set_option maxRecDepth 20000 in
theorem ggX2_say_X1_lengthOf : GoodIn wsX2_say wsX1_lengthOf := goodIn_r _ [5, 6, 7, 4, 8] (by decide +kernel) (by decide +kernel)
set_option maxRecDepth 20000 in
theorem gX2_say_X1_lengthOf : GoodIn wsX2_say (va_wsS RX2 35 yX1_lengthOf wsX1_lengthOf) := goodIn_app (goodIn_of _ (by decide +kernel)) ggX2_say_X1_lengthOf
set_option maxRecDepth 20000 in
theorem ggX2_say_X1_withLetter : GoodIn wsX2_say wsX1_withLetter := goodIn_r _ [11] (by decide +kernel) (by decide +kernel)
set_option maxRecDepth 20000 in
theorem gX2_say_X1_withLetter : GoodIn wsX2_say (va_wsS RX2 39 yX1_withLetter wsX1_withLetter) := goodIn_app (goodIn_of _ (by decide +kernel)) ggX2_say_X1_withLetter
theorem dX2_say_0 : decode cX2_say 0 = .ok (.iload_n 1, 1) := by decide +kernel
theorem dX2_say_1 : decode cX2_say 1 = .ok (.bipush 97, 2) := by decide +kernel
theorem dX2_say_3 : decode cX2_say 3 = .ok (.if_icmp .lt 9, 3) := by decide +kernel
theorem dX2_say_6 : decode cX2_say 6 = .ok (.iload_n 1, 1) := by decide +kernel
theorem dX2_say_7 : decode cX2_say 7 = .ok (.bipush 122, 2) := by decide +kernel
theorem dX2_say_9 : decode cX2_say 9 = .ok (.if_icmp .le 6, 3) := by decide +kernel
theorem dX2_say_12 : decode cX2_say 12 = .ok (.bipush (-2), 2) := by decide +kernel
theorem dX2_say_14 : decode cX2_say 14 = .ok (.ireturn, 1) := by decide +kernel
theorem dX2_say_15 : decode cX2_say 15 = .ok (.aload_n 0, 1) := by decide +kernel
theorem dX2_say_16 : decode cX2_say 16 = .ok (.getfield 31, 3) := by decide +kernel
theorem dX2_say_19 : decode cX2_say 19 = .ok (.invokestatic 35, 3) := by decide +kernel
theorem dX2_say_22 : decode cX2_say 22 = .ok (.istore_n 2, 1) := by decide +kernel
theorem dX2_say_23 : decode cX2_say 23 = .ok (.iload_n 2, 1) := by decide +kernel
theorem dX2_say_24 : decode cX2_say 24 = .ok (.bipush 8, 2) := by decide +kernel
theorem dX2_say_26 : decode cX2_say 26 = .ok (.if_icmp .lt 6, 3) := by decide +kernel
theorem dX2_say_29 : decode cX2_say 29 = .ok (.bipush (-4), 2) := by decide +kernel
theorem dX2_say_31 : decode cX2_say 31 = .ok (.ireturn, 1) := by decide +kernel
theorem dX2_say_32 : decode cX2_say 32 = .ok (.aload_n 0, 1) := by decide +kernel
theorem dX2_say_33 : decode cX2_say 33 = .ok (.aload_n 0, 1) := by decide +kernel
theorem dX2_say_34 : decode cX2_say 34 = .ok (.getfield 31, 3) := by decide +kernel
theorem dX2_say_37 : decode cX2_say 37 = .ok (.iload_n 2, 1) := by decide +kernel
theorem dX2_say_38 : decode cX2_say 38 = .ok (.iload_n 1, 1) := by decide +kernel
theorem dX2_say_39 : decode cX2_say 39 = .ok (.invokestatic 39, 3) := by decide +kernel
theorem dX2_say_42 : decode cX2_say 42 = .ok (.putfield 31, 3) := by decide +kernel
theorem dX2_say_45 : decode cX2_say 45 = .ok (.iload_n 2, 1) := by decide +kernel
theorem dX2_say_46 : decode cX2_say 46 = .ok (.iconst 1, 1) := by decide +kernel
theorem dX2_say_47 : decode cX2_say 47 = .ok (.iadd, 1) := by decide +kernel
theorem dX2_say_48 : decode cX2_say 48 = .ok (.ireturn, 1) := by decide +kernel
set_option maxRecDepth 20000 in
theorem ggX2_wipe_X1_lengthOf : GoodIn wsX2_wipe wsX1_lengthOf := goodIn_r _ [5, 6, 7, 4, 8] (by decide +kernel) (by decide +kernel)
set_option maxRecDepth 20000 in
theorem gX2_wipe_X1_lengthOf : GoodIn wsX2_wipe (va_wsS RX2 35 yX1_lengthOf wsX1_lengthOf) := goodIn_app (goodIn_of _ (by decide +kernel)) ggX2_wipe_X1_lengthOf
theorem dX2_wipe_0 : decode cX2_wipe 0 = .ok (.aload_n 0, 1) := by decide +kernel
theorem dX2_wipe_1 : decode cX2_wipe 1 = .ok (.getfield 31, 3) := by decide +kernel
theorem dX2_wipe_4 : decode cX2_wipe 4 = .ok (.invokestatic 35, 3) := by decide +kernel
theorem dX2_wipe_7 : decode cX2_wipe 7 = .ok (.istore_n 1, 1) := by decide +kernel
theorem dX2_wipe_8 : decode cX2_wipe 8 = .ok (.aload_n 0, 1) := by decide +kernel
theorem dX2_wipe_9 : decode cX2_wipe 9 = .ok (.lconst 0, 1) := by decide +kernel
theorem dX2_wipe_10 : decode cX2_wipe 10 = .ok (.putfield 31, 3) := by decide +kernel
theorem dX2_wipe_13 : decode cX2_wipe 13 = .ok (.iload_n 1, 1) := by decide +kernel
theorem dX2_wipe_14 : decode cX2_wipe 14 = .ok (.ireturn, 1) := by decide +kernel
set_option maxRecDepth 20000 in
theorem ggX2_name_X0_knows : GoodIn wsX2_name wsX0_knows := goodIn_r _ [6, 7, 65, 66, 67, 68, 69, 70, 71, 72] (by decide +kernel) (by decide +kernel)
set_option maxRecDepth 20000 in
theorem gX2_name_X0_knows : GoodIn wsX2_name (wsV RX2 43 RX0 yX0_knows wsX0_knows) := goodIn_app (goodIn_of _ (by decide +kernel)) ggX2_name_X0_knows
set_option maxRecDepth 20000 in
theorem ggX2_name_X2_isYear : GoodIn wsX2_name wsX2_isYear := goodIn_r _ [11] (by decide +kernel) (by decide +kernel)
set_option maxRecDepth 20000 in
theorem gX2_name_X2_isYear : GoodIn wsX2_name (va_wsS RX2 47 yX2_isYear wsX2_isYear) := goodIn_app (goodIn_of _ (by decide +kernel)) ggX2_name_X2_isYear
set_option maxRecDepth 20000 in
theorem ggX2_name_X2_padIsNoName : GoodIn wsX2_name wsX2_padIsNoName := goodIn_r _ [15, 16, 60, 61, 62, 63, 64] (by decide +kernel) (by decide +kernel)
set_option maxRecDepth 20000 in
theorem gX2_name_X2_padIsNoName : GoodIn wsX2_name (wsV RX2 50 RX2 yX2_padIsNoName wsX2_padIsNoName) := goodIn_app (goodIn_of _ (by decide +kernel)) ggX2_name_X2_padIsNoName
set_option maxRecDepth 20000 in
theorem ggX2_name_X0_yearOfLast : GoodIn wsX2_name wsX0_yearOfLast := goodIn_r _ [20, 21, 22, 65, 66, 67, 68, 69, 70, 71, 72] (by decide +kernel) (by decide +kernel)
set_option maxRecDepth 20000 in
theorem gX2_name_X0_yearOfLast : GoodIn wsX2_name (wsV RX2 54 RX0 yX0_yearOfLast wsX0_yearOfLast) := goodIn_app (goodIn_of _ (by decide +kernel)) ggX2_name_X0_yearOfLast
set_option maxRecDepth 20000 in
theorem ggX2_name_X0_sitesNow : GoodIn wsX2_name wsX0_sitesNow := goodIn_r _ [26, 21, 27, 28, 29, 5, 30, 31, 32, 33, 34, 35, 36, 37, 38, 39, 40, 65, 66, 67, 68, 69, 70, 71, 72] (by decide +kernel) (by decide +kernel)
set_option maxRecDepth 20000 in
theorem gX2_name_X0_sitesNow : GoodIn wsX2_name (wsV RX2 58 RX0 yX0_sitesNow wsX0_sitesNow) := goodIn_app (goodIn_of _ (by decide +kernel)) ggX2_name_X0_sitesNow
set_option maxRecDepth 20000 in
theorem ggX2_name_X0_isFull : GoodIn wsX2_name wsX0_isFull := goodIn_r _ [44, 21, 65, 66, 67, 68, 69, 70, 71, 72] (by decide +kernel) (by decide +kernel)
set_option maxRecDepth 20000 in
theorem gX2_name_X0_isFull : GoodIn wsX2_name (wsV RX2 62 RX0 yX0_isFull wsX0_isFull) := goodIn_app (goodIn_of _ (by decide +kernel)) ggX2_name_X0_isFull
set_option maxRecDepth 20000 in
theorem ggX2_name_X2_takePad : GoodIn wsX2_name wsX2_takePad := goodIn_r _ [48, 16, 60, 61, 62, 63, 64] (by decide +kernel) (by decide +kernel)
set_option maxRecDepth 20000 in
theorem gX2_name_X2_takePad : GoodIn wsX2_name (wsV RX2 65 RX2 yX2_takePad wsX2_takePad) := goodIn_app (goodIn_of _ (by decide +kernel)) ggX2_name_X2_takePad
set_option maxRecDepth 20000 in
theorem ggX2_name_X0_tell : GoodIn wsX2_name wsX0_tell := goodIn_r _ [52, 53, 21, 22, 38, 39, 40, 54, 7, 55, 42, 43, 5, 44, 65, 66, 67, 68, 69, 70, 71, 72] (by decide +kernel) (by decide +kernel)
set_option maxRecDepth 20000 in
theorem gX2_name_X0_tell : GoodIn wsX2_name (wsV RX2 69 RX0 yX0_tell wsX0_tell) := goodIn_app (goodIn_of _ (by decide +kernel)) ggX2_name_X0_tell
set_option maxRecDepth 20000 in
theorem ggX2_name_X0_lastEvent : GoodIn wsX2_name wsX0_lastEvent := goodIn_r _ [59, 21, 65, 66, 67, 68, 69, 70, 71, 72] (by decide +kernel) (by decide +kernel)
set_option maxRecDepth 20000 in
theorem gX2_name_X0_lastEvent : GoodIn wsX2_name (wsV RX2 73 RX0 yX0_lastEvent wsX0_lastEvent) := goodIn_app (goodIn_of _ (by decide +kernel)) ggX2_name_X0_lastEvent
theorem dX2_name_0 : decode cX2_name 0 = .ok (.aload_n 0, 1) := by decide +kernel
theorem dX2_name_1 : decode cX2_name 1 = .ok (.getfield 10, 3) := by decide +kernel
theorem dX2_name_4 : decode cX2_name 4 = .ok (.iload_n 1, 1) := by decide +kernel
theorem dX2_name_5 : decode cX2_name 5 = .ok (.invokevirtual 43, 3) := by decide +kernel
theorem dX2_name_8 : decode cX2_name 8 = .ok (.ifCond .ne 5, 3) := by decide +kernel
theorem dX2_name_11 : decode cX2_name 11 = .ok (.iconst (-1), 1) := by decide +kernel
theorem dX2_name_12 : decode cX2_name 12 = .ok (.ireturn, 1) := by decide +kernel
theorem dX2_name_13 : decode cX2_name 13 = .ok (.iload_n 2, 1) := by decide +kernel
theorem dX2_name_14 : decode cX2_name 14 = .ok (.invokestatic 47, 3) := by decide +kernel
theorem dX2_name_17 : decode cX2_name 17 = .ok (.ifCond .ne 6, 3) := by decide +kernel
theorem dX2_name_20 : decode cX2_name 20 = .ok (.bipush (-2), 2) := by decide +kernel
theorem dX2_name_22 : decode cX2_name 22 = .ok (.ireturn, 1) := by decide +kernel
theorem dX2_name_23 : decode cX2_name 23 = .ok (.aload_n 0, 1) := by decide +kernel
theorem dX2_name_24 : decode cX2_name 24 = .ok (.invokevirtual 50, 3) := by decide +kernel
theorem dX2_name_27 : decode cX2_name 27 = .ok (.ifCond .eq 6, 3) := by decide +kernel
theorem dX2_name_30 : decode cX2_name 30 = .ok (.bipush (-7), 2) := by decide +kernel
theorem dX2_name_32 : decode cX2_name 32 = .ok (.ireturn, 1) := by decide +kernel
theorem dX2_name_33 : decode cX2_name 33 = .ok (.iload_n 2, 1) := by decide +kernel
theorem dX2_name_34 : decode cX2_name 34 = .ok (.aload_n 0, 1) := by decide +kernel
theorem dX2_name_35 : decode cX2_name 35 = .ok (.getfield 10, 3) := by decide +kernel
theorem dX2_name_38 : decode cX2_name 38 = .ok (.invokevirtual 54, 3) := by decide +kernel
theorem dX2_name_41 : decode cX2_name 41 = .ok (.if_icmp .ge 6, 3) := by decide +kernel
theorem dX2_name_44 : decode cX2_name 44 = .ok (.bipush (-3), 2) := by decide +kernel
theorem dX2_name_46 : decode cX2_name 46 = .ok (.ireturn, 1) := by decide +kernel
theorem dX2_name_47 : decode cX2_name 47 = .ok (.aload_n 0, 1) := by decide +kernel
theorem dX2_name_48 : decode cX2_name 48 = .ok (.getfield 10, 3) := by decide +kernel
theorem dX2_name_51 : decode cX2_name 51 = .ok (.iload_n 1, 1) := by decide +kernel
theorem dX2_name_52 : decode cX2_name 52 = .ok (.invokevirtual 58, 3) := by decide +kernel
theorem dX2_name_55 : decode cX2_name 55 = .ok (.ifCond .ne 6, 3) := by decide +kernel
theorem dX2_name_58 : decode cX2_name 58 = .ok (.bipush (-5), 2) := by decide +kernel
theorem dX2_name_60 : decode cX2_name 60 = .ok (.ireturn, 1) := by decide +kernel
theorem dX2_name_61 : decode cX2_name 61 = .ok (.aload_n 0, 1) := by decide +kernel
theorem dX2_name_62 : decode cX2_name 62 = .ok (.getfield 10, 3) := by decide +kernel
theorem dX2_name_65 : decode cX2_name 65 = .ok (.invokevirtual 62, 3) := by decide +kernel
theorem dX2_name_68 : decode cX2_name 68 = .ok (.ifCond .eq 6, 3) := by decide +kernel
theorem dX2_name_71 : decode cX2_name 71 = .ok (.bipush (-4), 2) := by decide +kernel
theorem dX2_name_73 : decode cX2_name 73 = .ok (.ireturn, 1) := by decide +kernel
theorem dX2_name_74 : decode cX2_name 74 = .ok (.aload_n 0, 1) := by decide +kernel
theorem dX2_name_75 : decode cX2_name 75 = .ok (.getfield 10, 3) := by decide +kernel
theorem dX2_name_78 : decode cX2_name 78 = .ok (.iconst 0, 1) := by decide +kernel
theorem dX2_name_79 : decode cX2_name 79 = .ok (.iload_n 2, 1) := by decide +kernel
theorem dX2_name_80 : decode cX2_name 80 = .ok (.iload_n 1, 1) := by decide +kernel
theorem dX2_name_81 : decode cX2_name 81 = .ok (.iconst 0, 1) := by decide +kernel
theorem dX2_name_82 : decode cX2_name 82 = .ok (.bipush (-6), 2) := by decide +kernel
theorem dX2_name_84 : decode cX2_name 84 = .ok (.aload_n 0, 1) := by decide +kernel
theorem dX2_name_85 : decode cX2_name 85 = .ok (.invokevirtual 65, 3) := by decide +kernel
theorem dX2_name_88 : decode cX2_name 88 = .ok (.invokevirtual 69, 3) := by decide +kernel
theorem dX2_name_91 : decode cX2_name 91 = .ok (.aload_n 0, 1) := by decide +kernel
theorem dX2_name_92 : decode cX2_name 92 = .ok (.getfield 10, 3) := by decide +kernel
theorem dX2_name_95 : decode cX2_name 95 = .ok (.invokevirtual 73, 3) := by decide +kernel
theorem dX2_name_98 : decode cX2_name 98 = .ok (.ireturn, 1) := by decide +kernel
set_option maxRecDepth 20000 in
theorem ggX2_split_X0_knows : GoodIn wsX2_split wsX0_knows := goodIn_r _ [6, 7, 71, 72, 73, 74, 75, 76, 77, 78] (by decide +kernel) (by decide +kernel)
set_option maxRecDepth 20000 in
theorem gX2_split_X0_knows : GoodIn wsX2_split (wsV RX2 43 RX0 yX0_knows wsX0_knows) := goodIn_app (goodIn_of _ (by decide +kernel)) ggX2_split_X0_knows
set_option maxRecDepth 20000 in
theorem ggX2_split_X2_isSetOfSites : GoodIn wsX2_split wsX2_isSetOfSites := goodIn_r _ [11] (by decide +kernel) (by decide +kernel)
set_option maxRecDepth 20000 in
theorem gX2_split_X2_isSetOfSites : GoodIn wsX2_split (va_wsS RX2 76 yX2_isSetOfSites wsX2_isSetOfSites) := goodIn_app (goodIn_of _ (by decide +kernel)) ggX2_split_X2_isSetOfSites
set_option maxRecDepth 20000 in
theorem ggX2_split_X2_isYear : GoodIn wsX2_split wsX2_isYear := goodIn_r _ [14] (by decide +kernel) (by decide +kernel)
set_option maxRecDepth 20000 in
theorem gX2_split_X2_isYear : GoodIn wsX2_split (va_wsS RX2 47 yX2_isYear wsX2_isYear) := goodIn_app (goodIn_of _ (by decide +kernel)) ggX2_split_X2_isYear
set_option maxRecDepth 20000 in
theorem ggX2_split_X2_padIsNoName : GoodIn wsX2_split wsX2_padIsNoName := goodIn_r _ [18, 19, 66, 67, 68, 69, 70] (by decide +kernel) (by decide +kernel)
set_option maxRecDepth 20000 in
theorem gX2_split_X2_padIsNoName : GoodIn wsX2_split (wsV RX2 50 RX2 yX2_padIsNoName wsX2_padIsNoName) := goodIn_app (goodIn_of _ (by decide +kernel)) ggX2_split_X2_padIsNoName
set_option maxRecDepth 20000 in
theorem ggX2_split_X0_yearOfLast : GoodIn wsX2_split wsX0_yearOfLast := goodIn_r _ [23, 24, 25, 71, 72, 73, 74, 75, 76, 77, 78] (by decide +kernel) (by decide +kernel)
set_option maxRecDepth 20000 in
theorem gX2_split_X0_yearOfLast : GoodIn wsX2_split (wsV RX2 54 RX0 yX0_yearOfLast wsX0_yearOfLast) := goodIn_app (goodIn_of _ (by decide +kernel)) ggX2_split_X0_yearOfLast
set_option maxRecDepth 20000 in
theorem ggX2_split_X0_sitesNow : GoodIn wsX2_split wsX0_sitesNow := goodIn_r _ [29, 24, 30, 31, 32, 5, 33, 34, 35, 36, 37, 38, 39, 40, 41, 42, 43, 71, 72, 73, 74, 75, 76, 77, 78] (by decide +kernel) (by decide +kernel)
set_option maxRecDepth 20000 in
theorem gX2_split_X0_sitesNow : GoodIn wsX2_split (wsV RX2 58 RX0 yX0_sitesNow wsX0_sitesNow) := goodIn_app (goodIn_of _ (by decide +kernel)) ggX2_split_X0_sitesNow
set_option maxRecDepth 20000 in
theorem ggX2_split_X2_isProperPart : GoodIn wsX2_split wsX2_isProperPart := goodIn_r _ [46] (by decide +kernel) (by decide +kernel)
set_option maxRecDepth 20000 in
theorem gX2_split_X2_isProperPart : GoodIn wsX2_split (va_wsS RX2 79 yX2_isProperPart wsX2_isProperPart) := goodIn_app (goodIn_of _ (by decide +kernel)) ggX2_split_X2_isProperPart
set_option maxRecDepth 20000 in
theorem ggX2_split_X0_isFull : GoodIn wsX2_split wsX0_isFull := goodIn_r _ [50, 24, 71, 72, 73, 74, 75, 76, 77, 78] (by decide +kernel) (by decide +kernel)
set_option maxRecDepth 20000 in
theorem gX2_split_X0_isFull : GoodIn wsX2_split (wsV RX2 62 RX0 yX0_isFull wsX0_isFull) := goodIn_app (goodIn_of _ (by decide +kernel)) ggX2_split_X0_isFull
set_option maxRecDepth 20000 in
theorem ggX2_split_X0_parishCount : GoodIn wsX2_split wsX0_parishCount := goodIn_r _ [54, 7, 71, 72, 73, 74, 75, 76, 77, 78] (by decide +kernel) (by decide +kernel)
set_option maxRecDepth 20000 in
theorem gX2_split_X0_parishCount : GoodIn wsX2_split (wsV RX2 83 RX0 yX0_parishCount wsX0_parishCount) := goodIn_app (goodIn_of _ (by decide +kernel)) ggX2_split_X0_parishCount
set_option maxRecDepth 20000 in
theorem ggX2_split_X2_takePad : GoodIn wsX2_split wsX2_takePad := goodIn_r _ [58, 19, 66, 67, 68, 69, 70] (by decide +kernel) (by decide +kernel)
set_option maxRecDepth 20000 in
theorem gX2_split_X2_takePad : GoodIn wsX2_split (wsV RX2 65 RX2 yX2_takePad wsX2_takePad) := goodIn_app (goodIn_of _ (by decide +kernel)) ggX2_split_X2_takePad
set_option maxRecDepth 20000 in
theorem ggX2_split_X0_tell : GoodIn wsX2_split wsX0_tell := goodIn_r _ [62, 63, 24, 25, 41, 42, 43, 64, 7, 65, 48, 49, 5, 50, 71, 72, 73, 74, 75, 76, 77, 78] (by decide +kernel) (by decide +kernel)
set_option maxRecDepth 20000 in
theorem gX2_split_X0_tell : GoodIn wsX2_split (wsV RX2 69 RX0 yX0_tell wsX0_tell) := goodIn_app (goodIn_of _ (by decide +kernel)) ggX2_split_X0_tell
theorem dX2_split_0 : decode cX2_split 0 = .ok (.aload_n 0, 1) := by decide +kernel
theorem dX2_split_1 : decode cX2_split 1 = .ok (.getfield 10, 3) := by decide +kernel
theorem dX2_split_4 : decode cX2_split 4 = .ok (.iload_n 1, 1) := by decide +kernel
theorem dX2_split_5 : decode cX2_split 5 = .ok (.invokevirtual 43, 3) := by decide +kernel
theorem dX2_split_8 : decode cX2_split 8 = .ok (.ifCond .ne 5, 3) := by decide +kernel
theorem dX2_split_11 : decode cX2_split 11 = .ok (.iconst (-1), 1) := by decide +kernel
theorem dX2_split_12 : decode cX2_split 12 = .ok (.ireturn, 1) := by decide +kernel
theorem dX2_split_13 : decode cX2_split 13 = .ok (.iload_n 2, 1) := by decide +kernel
theorem dX2_split_14 : decode cX2_split 14 = .ok (.invokestatic 76, 3) := by decide +kernel
theorem dX2_split_17 : decode cX2_split 17 = .ok (.ifCond .eq 10, 3) := by decide +kernel
theorem dX2_split_20 : decode cX2_split 20 = .ok (.iload_n 3, 1) := by decide +kernel
theorem dX2_split_21 : decode cX2_split 21 = .ok (.invokestatic 47, 3) := by decide +kernel
theorem dX2_split_24 : decode cX2_split 24 = .ok (.ifCond .ne 6, 3) := by decide +kernel
theorem dX2_split_27 : decode cX2_split 27 = .ok (.bipush (-2), 2) := by decide +kernel
theorem dX2_split_29 : decode cX2_split 29 = .ok (.ireturn, 1) := by decide +kernel
theorem dX2_split_30 : decode cX2_split 30 = .ok (.aload_n 0, 1) := by decide +kernel
theorem dX2_split_31 : decode cX2_split 31 = .ok (.invokevirtual 50, 3) := by decide +kernel
theorem dX2_split_34 : decode cX2_split 34 = .ok (.ifCond .eq 6, 3) := by decide +kernel
theorem dX2_split_37 : decode cX2_split 37 = .ok (.bipush (-7), 2) := by decide +kernel
theorem dX2_split_39 : decode cX2_split 39 = .ok (.ireturn, 1) := by decide +kernel
theorem dX2_split_40 : decode cX2_split 40 = .ok (.iload_n 3, 1) := by decide +kernel
theorem dX2_split_41 : decode cX2_split 41 = .ok (.aload_n 0, 1) := by decide +kernel
theorem dX2_split_42 : decode cX2_split 42 = .ok (.getfield 10, 3) := by decide +kernel
theorem dX2_split_45 : decode cX2_split 45 = .ok (.invokevirtual 54, 3) := by decide +kernel
theorem dX2_split_48 : decode cX2_split 48 = .ok (.if_icmp .ge 6, 3) := by decide +kernel
theorem dX2_split_51 : decode cX2_split 51 = .ok (.bipush (-3), 2) := by decide +kernel
theorem dX2_split_53 : decode cX2_split 53 = .ok (.ireturn, 1) := by decide +kernel
theorem dX2_split_54 : decode cX2_split 54 = .ok (.iload_n 2, 1) := by decide +kernel
theorem dX2_split_55 : decode cX2_split 55 = .ok (.aload_n 0, 1) := by decide +kernel
theorem dX2_split_56 : decode cX2_split 56 = .ok (.getfield 10, 3) := by decide +kernel
theorem dX2_split_59 : decode cX2_split 59 = .ok (.iload_n 1, 1) := by decide +kernel
theorem dX2_split_60 : decode cX2_split 60 = .ok (.invokevirtual 58, 3) := by decide +kernel
theorem dX2_split_63 : decode cX2_split 63 = .ok (.invokestatic 79, 3) := by decide +kernel
theorem dX2_split_66 : decode cX2_split 66 = .ok (.ifCond .ne 6, 3) := by decide +kernel
theorem dX2_split_69 : decode cX2_split 69 = .ok (.bipush (-5), 2) := by decide +kernel
theorem dX2_split_71 : decode cX2_split 71 = .ok (.ireturn, 1) := by decide +kernel
theorem dX2_split_72 : decode cX2_split 72 = .ok (.aload_n 0, 1) := by decide +kernel
theorem dX2_split_73 : decode cX2_split 73 = .ok (.getfield 10, 3) := by decide +kernel
theorem dX2_split_76 : decode cX2_split 76 = .ok (.invokevirtual 62, 3) := by decide +kernel
theorem dX2_split_79 : decode cX2_split 79 = .ok (.ifCond .ne 15, 3) := by decide +kernel
theorem dX2_split_82 : decode cX2_split 82 = .ok (.aload_n 0, 1) := by decide +kernel
theorem dX2_split_83 : decode cX2_split 83 = .ok (.getfield 10, 3) := by decide +kernel
theorem dX2_split_86 : decode cX2_split 86 = .ok (.invokevirtual 83, 3) := by decide +kernel
theorem dX2_split_89 : decode cX2_split 89 = .ok (.bipush 16, 2) := by decide +kernel
theorem dX2_split_91 : decode cX2_split 91 = .ok (.if_icmp .lt 6, 3) := by decide +kernel
theorem dX2_split_94 : decode cX2_split 94 = .ok (.bipush (-4), 2) := by decide +kernel
theorem dX2_split_96 : decode cX2_split 96 = .ok (.ireturn, 1) := by decide +kernel
theorem dX2_split_97 : decode cX2_split 97 = .ok (.aload_n 0, 1) := by decide +kernel
theorem dX2_split_98 : decode cX2_split 98 = .ok (.getfield 10, 3) := by decide +kernel
theorem dX2_split_101 : decode cX2_split 101 = .ok (.invokevirtual 83, 3) := by decide +kernel
theorem dX2_split_104 : decode cX2_split 104 = .ok (.istore 4, 2) := by decide +kernel
theorem dX2_split_106 : decode cX2_split 106 = .ok (.aload_n 0, 1) := by decide +kernel
theorem dX2_split_107 : decode cX2_split 107 = .ok (.getfield 10, 3) := by decide +kernel
theorem dX2_split_110 : decode cX2_split 110 = .ok (.iconst 1, 1) := by decide +kernel
theorem dX2_split_111 : decode cX2_split 111 = .ok (.iload_n 3, 1) := by decide +kernel
theorem dX2_split_112 : decode cX2_split 112 = .ok (.iload_n 1, 1) := by decide +kernel
theorem dX2_split_113 : decode cX2_split 113 = .ok (.iload_n 2, 1) := by decide +kernel
theorem dX2_split_114 : decode cX2_split 114 = .ok (.iload 4, 2) := by decide +kernel
theorem dX2_split_116 : decode cX2_split 116 = .ok (.aload_n 0, 1) := by decide +kernel
theorem dX2_split_117 : decode cX2_split 117 = .ok (.invokevirtual 65, 3) := by decide +kernel
theorem dX2_split_120 : decode cX2_split 120 = .ok (.invokevirtual 69, 3) := by decide +kernel
theorem dX2_split_123 : decode cX2_split 123 = .ok (.iload 4, 2) := by decide +kernel
theorem dX2_split_125 : decode cX2_split 125 = .ok (.ireturn, 1) := by decide +kernel
set_option maxRecDepth 20000 in
theorem ggX2_merge_X0_knows : GoodIn wsX2_merge wsX0_knows := goodIn_r _ [6, 7, 56, 57, 58, 59, 60, 61, 62, 63] (by decide +kernel) (by decide +kernel)
set_option maxRecDepth 20000 in
theorem gX2_merge_X0_knows : GoodIn wsX2_merge (wsV RX2 43 RX0 yX0_knows wsX0_knows) := goodIn_app (goodIn_of _ (by decide +kernel)) ggX2_merge_X0_knows
set_option maxRecDepth 20000 in
theorem ggX2_merge_X2_isYear : GoodIn wsX2_merge wsX2_isYear := goodIn_r _ [11] (by decide +kernel) (by decide +kernel)
set_option maxRecDepth 20000 in
theorem gX2_merge_X2_isYear : GoodIn wsX2_merge (va_wsS RX2 47 yX2_isYear wsX2_isYear) := goodIn_app (goodIn_of _ (by decide +kernel)) ggX2_merge_X2_isYear
set_option maxRecDepth 20000 in
theorem ggX2_merge_X0_yearOfLast : GoodIn wsX2_merge wsX0_yearOfLast := goodIn_r _ [15, 16, 17, 56, 57, 58, 59, 60, 61, 62, 63] (by decide +kernel) (by decide +kernel)
set_option maxRecDepth 20000 in
theorem gX2_merge_X0_yearOfLast : GoodIn wsX2_merge (wsV RX2 54 RX0 yX0_yearOfLast wsX0_yearOfLast) := goodIn_app (goodIn_of _ (by decide +kernel)) ggX2_merge_X0_yearOfLast
set_option maxRecDepth 20000 in
theorem ggX2_merge_X0_sitesNow : GoodIn wsX2_merge wsX0_sitesNow := goodIn_r _ [21, 16, 22, 23, 24, 5, 25, 26, 27, 28, 29, 30, 31, 32, 33, 34, 35, 56, 57, 58, 59, 60, 61, 62, 63] (by decide +kernel) (by decide +kernel)
set_option maxRecDepth 20000 in
theorem gX2_merge_X0_sitesNow : GoodIn wsX2_merge (wsV RX2 58 RX0 yX0_sitesNow wsX0_sitesNow) := goodIn_app (goodIn_of _ (by decide +kernel)) ggX2_merge_X0_sitesNow
set_option maxRecDepth 20000 in
theorem ggX2_merge_X0_isFull : GoodIn wsX2_merge wsX0_isFull := goodIn_r _ [39, 16, 56, 57, 58, 59, 60, 61, 62, 63] (by decide +kernel) (by decide +kernel)
set_option maxRecDepth 20000 in
theorem gX2_merge_X0_isFull : GoodIn wsX2_merge (wsV RX2 62 RX0 yX0_isFull wsX0_isFull) := goodIn_app (goodIn_of _ (by decide +kernel)) ggX2_merge_X0_isFull
set_option maxRecDepth 20000 in
theorem ggX2_merge_X0_tell : GoodIn wsX2_merge wsX0_tell := goodIn_r _ [43, 44, 16, 17, 33, 34, 35, 45, 7, 46, 37, 38, 5, 39, 56, 57, 58, 59, 60, 61, 62, 63] (by decide +kernel) (by decide +kernel)
set_option maxRecDepth 20000 in
theorem gX2_merge_X0_tell : GoodIn wsX2_merge (wsV RX2 69 RX0 yX0_tell wsX0_tell) := goodIn_app (goodIn_of _ (by decide +kernel)) ggX2_merge_X0_tell
set_option maxRecDepth 20000 in
theorem ggX2_merge_X0_lastEvent : GoodIn wsX2_merge wsX0_lastEvent := goodIn_r _ [50, 16, 56, 57, 58, 59, 60, 61, 62, 63] (by decide +kernel) (by decide +kernel)
set_option maxRecDepth 20000 in
theorem gX2_merge_X0_lastEvent : GoodIn wsX2_merge (wsV RX2 73 RX0 yX0_lastEvent wsX0_lastEvent) := goodIn_app (goodIn_of _ (by decide +kernel)) ggX2_merge_X0_lastEvent
theorem dX2_merge_0 : decode cX2_merge 0 = .ok (.aload_n 0, 1) := by decide +kernel
theorem dX2_merge_1 : decode cX2_merge 1 = .ok (.getfield 10, 3) := by decide +kernel
theorem dX2_merge_4 : decode cX2_merge 4 = .ok (.iload_n 1, 1) := by decide +kernel
theorem dX2_merge_5 : decode cX2_merge 5 = .ok (.invokevirtual 43, 3) := by decide +kernel
theorem dX2_merge_8 : decode cX2_merge 8 = .ok (.ifCond .eq 14, 3) := by decide +kernel
theorem dX2_merge_11 : decode cX2_merge 11 = .ok (.aload_n 0, 1) := by decide +kernel
theorem dX2_merge_12 : decode cX2_merge 12 = .ok (.getfield 10, 3) := by decide +kernel
theorem dX2_merge_15 : decode cX2_merge 15 = .ok (.iload_n 2, 1) := by decide +kernel
theorem dX2_merge_16 : decode cX2_merge 16 = .ok (.invokevirtual 43, 3) := by decide +kernel
theorem dX2_merge_19 : decode cX2_merge 19 = .ok (.ifCond .ne 5, 3) := by decide +kernel
theorem dX2_merge_22 : decode cX2_merge 22 = .ok (.iconst (-1), 1) := by decide +kernel
theorem dX2_merge_23 : decode cX2_merge 23 = .ok (.ireturn, 1) := by decide +kernel
theorem dX2_merge_24 : decode cX2_merge 24 = .ok (.iload_n 1, 1) := by decide +kernel
theorem dX2_merge_25 : decode cX2_merge 25 = .ok (.iload_n 2, 1) := by decide +kernel
theorem dX2_merge_26 : decode cX2_merge 26 = .ok (.if_icmp .eq 10, 3) := by decide +kernel
theorem dX2_merge_29 : decode cX2_merge 29 = .ok (.iload_n 3, 1) := by decide +kernel
theorem dX2_merge_30 : decode cX2_merge 30 = .ok (.invokestatic 47, 3) := by decide +kernel
theorem dX2_merge_33 : decode cX2_merge 33 = .ok (.ifCond .ne 6, 3) := by decide +kernel
theorem dX2_merge_36 : decode cX2_merge 36 = .ok (.bipush (-2), 2) := by decide +kernel
theorem dX2_merge_38 : decode cX2_merge 38 = .ok (.ireturn, 1) := by decide +kernel
theorem dX2_merge_39 : decode cX2_merge 39 = .ok (.iload_n 3, 1) := by decide +kernel
theorem dX2_merge_40 : decode cX2_merge 40 = .ok (.aload_n 0, 1) := by decide +kernel
theorem dX2_merge_41 : decode cX2_merge 41 = .ok (.getfield 10, 3) := by decide +kernel
theorem dX2_merge_44 : decode cX2_merge 44 = .ok (.invokevirtual 54, 3) := by decide +kernel
theorem dX2_merge_47 : decode cX2_merge 47 = .ok (.if_icmp .ge 6, 3) := by decide +kernel
theorem dX2_merge_50 : decode cX2_merge 50 = .ok (.bipush (-3), 2) := by decide +kernel
theorem dX2_merge_52 : decode cX2_merge 52 = .ok (.ireturn, 1) := by decide +kernel
theorem dX2_merge_53 : decode cX2_merge 53 = .ok (.aload_n 0, 1) := by decide +kernel
theorem dX2_merge_54 : decode cX2_merge 54 = .ok (.getfield 10, 3) := by decide +kernel
theorem dX2_merge_57 : decode cX2_merge 57 = .ok (.iload_n 1, 1) := by decide +kernel
theorem dX2_merge_58 : decode cX2_merge 58 = .ok (.invokevirtual 58, 3) := by decide +kernel
theorem dX2_merge_61 : decode cX2_merge 61 = .ok (.istore 4, 2) := by decide +kernel
theorem dX2_merge_63 : decode cX2_merge 63 = .ok (.iload 4, 2) := by decide +kernel
theorem dX2_merge_65 : decode cX2_merge 65 = .ok (.ifCond .eq 14, 3) := by decide +kernel
theorem dX2_merge_68 : decode cX2_merge 68 = .ok (.aload_n 0, 1) := by decide +kernel
theorem dX2_merge_69 : decode cX2_merge 69 = .ok (.getfield 10, 3) := by decide +kernel
theorem dX2_merge_72 : decode cX2_merge 72 = .ok (.iload_n 2, 1) := by decide +kernel
theorem dX2_merge_73 : decode cX2_merge 73 = .ok (.invokevirtual 58, 3) := by decide +kernel
theorem dX2_merge_76 : decode cX2_merge 76 = .ok (.ifCond .ne 6, 3) := by decide +kernel
theorem dX2_merge_79 : decode cX2_merge 79 = .ok (.bipush (-5), 2) := by decide +kernel
theorem dX2_merge_81 : decode cX2_merge 81 = .ok (.ireturn, 1) := by decide +kernel
theorem dX2_merge_82 : decode cX2_merge 82 = .ok (.aload_n 0, 1) := by decide +kernel
theorem dX2_merge_83 : decode cX2_merge 83 = .ok (.getfield 10, 3) := by decide +kernel
theorem dX2_merge_86 : decode cX2_merge 86 = .ok (.invokevirtual 62, 3) := by decide +kernel
theorem dX2_merge_89 : decode cX2_merge 89 = .ok (.ifCond .eq 6, 3) := by decide +kernel
theorem dX2_merge_92 : decode cX2_merge 92 = .ok (.bipush (-4), 2) := by decide +kernel
theorem dX2_merge_94 : decode cX2_merge 94 = .ok (.ireturn, 1) := by decide +kernel
theorem dX2_merge_95 : decode cX2_merge 95 = .ok (.aload_n 0, 1) := by decide +kernel
theorem dX2_merge_96 : decode cX2_merge 96 = .ok (.getfield 10, 3) := by decide +kernel
theorem dX2_merge_99 : decode cX2_merge 99 = .ok (.iconst 2, 1) := by decide +kernel
theorem dX2_merge_100 : decode cX2_merge 100 = .ok (.iload_n 3, 1) := by decide +kernel
theorem dX2_merge_101 : decode cX2_merge 101 = .ok (.iload_n 1, 1) := by decide +kernel
theorem dX2_merge_102 : decode cX2_merge 102 = .ok (.iload 4, 2) := by decide +kernel
theorem dX2_merge_104 : decode cX2_merge 104 = .ok (.iload_n 2, 1) := by decide +kernel
theorem dX2_merge_105 : decode cX2_merge 105 = .ok (.lconst 0, 1) := by decide +kernel
theorem dX2_merge_106 : decode cX2_merge 106 = .ok (.invokevirtual 69, 3) := by decide +kernel
theorem dX2_merge_109 : decode cX2_merge 109 = .ok (.aload_n 0, 1) := by decide +kernel
theorem dX2_merge_110 : decode cX2_merge 110 = .ok (.getfield 10, 3) := by decide +kernel
theorem dX2_merge_113 : decode cX2_merge 113 = .ok (.invokevirtual 73, 3) := by decide +kernel
theorem dX2_merge_116 : decode cX2_merge 116 = .ok (.ireturn, 1) := by decide +kernel
set_option maxRecDepth 20000 in
theorem ggX2_shift_X0_knows : GoodIn wsX2_shift wsX0_knows := goodIn_r _ [6, 7, 62, 63, 64, 65, 66, 67, 68, 69] (by decide +kernel) (by decide +kernel)
set_option maxRecDepth 20000 in
theorem gX2_shift_X0_knows : GoodIn wsX2_shift (wsV RX2 43 RX0 yX0_knows wsX0_knows) := goodIn_app (goodIn_of _ (by decide +kernel)) ggX2_shift_X0_knows
set_option maxRecDepth 20000 in
theorem ggX2_shift_X2_isSetOfSites : GoodIn wsX2_shift wsX2_isSetOfSites := goodIn_r _ [11] (by decide +kernel) (by decide +kernel)
set_option maxRecDepth 20000 in
theorem gX2_shift_X2_isSetOfSites : GoodIn wsX2_shift (va_wsS RX2 76 yX2_isSetOfSites wsX2_isSetOfSites) := goodIn_app (goodIn_of _ (by decide +kernel)) ggX2_shift_X2_isSetOfSites
set_option maxRecDepth 20000 in
theorem ggX2_shift_X2_isYear : GoodIn wsX2_shift wsX2_isYear := goodIn_r _ [14] (by decide +kernel) (by decide +kernel)
set_option maxRecDepth 20000 in
theorem gX2_shift_X2_isYear : GoodIn wsX2_shift (va_wsS RX2 47 yX2_isYear wsX2_isYear) := goodIn_app (goodIn_of _ (by decide +kernel)) ggX2_shift_X2_isYear
set_option maxRecDepth 20000 in
theorem ggX2_shift_X0_yearOfLast : GoodIn wsX2_shift wsX0_yearOfLast := goodIn_r _ [18, 19, 20, 62, 63, 64, 65, 66, 67, 68, 69] (by decide +kernel) (by decide +kernel)
set_option maxRecDepth 20000 in
theorem gX2_shift_X0_yearOfLast : GoodIn wsX2_shift (wsV RX2 54 RX0 yX0_yearOfLast wsX0_yearOfLast) := goodIn_app (goodIn_of _ (by decide +kernel)) ggX2_shift_X0_yearOfLast
set_option maxRecDepth 20000 in
theorem ggX2_shift_X0_sitesNow : GoodIn wsX2_shift wsX0_sitesNow := goodIn_r _ [24, 19, 25, 26, 27, 5, 28, 29, 30, 31, 32, 33, 34, 35, 36, 37, 38, 62, 63, 64, 65, 66, 67, 68, 69] (by decide +kernel) (by decide +kernel)
set_option maxRecDepth 20000 in
theorem gX2_shift_X0_sitesNow : GoodIn wsX2_shift (wsV RX2 58 RX0 yX0_sitesNow wsX0_sitesNow) := goodIn_app (goodIn_of _ (by decide +kernel)) ggX2_shift_X0_sitesNow
set_option maxRecDepth 20000 in
theorem ggX2_shift_X2_isProperPart : GoodIn wsX2_shift wsX2_isProperPart := goodIn_r _ [41] (by decide +kernel) (by decide +kernel)
set_option maxRecDepth 20000 in
theorem gX2_shift_X2_isProperPart : GoodIn wsX2_shift (va_wsS RX2 79 yX2_isProperPart wsX2_isProperPart) := goodIn_app (goodIn_of _ (by decide +kernel)) ggX2_shift_X2_isProperPart
set_option maxRecDepth 20000 in
theorem ggX2_shift_X0_isFull : GoodIn wsX2_shift wsX0_isFull := goodIn_r _ [45, 19, 62, 63, 64, 65, 66, 67, 68, 69] (by decide +kernel) (by decide +kernel)
set_option maxRecDepth 20000 in
theorem gX2_shift_X0_isFull : GoodIn wsX2_shift (wsV RX2 62 RX0 yX0_isFull wsX0_isFull) := goodIn_app (goodIn_of _ (by decide +kernel)) ggX2_shift_X0_isFull
set_option maxRecDepth 20000 in
theorem ggX2_shift_X0_tell : GoodIn wsX2_shift wsX0_tell := goodIn_r _ [49, 50, 19, 20, 36, 37, 38, 51, 7, 52, 43, 44, 5, 45, 62, 63, 64, 65, 66, 67, 68, 69] (by decide +kernel) (by decide +kernel)
set_option maxRecDepth 20000 in
theorem gX2_shift_X0_tell : GoodIn wsX2_shift (wsV RX2 69 RX0 yX0_tell wsX0_tell) := goodIn_app (goodIn_of _ (by decide +kernel)) ggX2_shift_X0_tell
set_option maxRecDepth 20000 in
theorem ggX2_shift_X0_lastEvent : GoodIn wsX2_shift wsX0_lastEvent := goodIn_r _ [56, 19, 62, 63, 64, 65, 66, 67, 68, 69] (by decide +kernel) (by decide +kernel)
set_option maxRecDepth 20000 in
theorem gX2_shift_X0_lastEvent : GoodIn wsX2_shift (wsV RX2 73 RX0 yX0_lastEvent wsX0_lastEvent) := goodIn_app (goodIn_of _ (by decide +kernel)) ggX2_shift_X0_lastEvent
theorem dX2_shift_0 : decode cX2_shift 0 = .ok (.aload_n 0, 1) := by decide +kernel
theorem dX2_shift_1 : decode cX2_shift 1 = .ok (.getfield 10, 3) := by decide +kernel
theorem dX2_shift_4 : decode cX2_shift 4 = .ok (.iload_n 1, 1) := by decide +kernel
theorem dX2_shift_5 : decode cX2_shift 5 = .ok (.invokevirtual 43, 3) := by decide +kernel
theorem dX2_shift_8 : decode cX2_shift 8 = .ok (.ifCond .eq 14, 3) := by decide +kernel
theorem dX2_shift_11 : decode cX2_shift 11 = .ok (.aload_n 0, 1) := by decide +kernel
theorem dX2_shift_12 : decode cX2_shift 12 = .ok (.getfield 10, 3) := by decide +kernel
theorem dX2_shift_15 : decode cX2_shift 15 = .ok (.iload_n 3, 1) := by decide +kernel
theorem dX2_shift_16 : decode cX2_shift 16 = .ok (.invokevirtual 43, 3) := by decide +kernel
theorem dX2_shift_19 : decode cX2_shift 19 = .ok (.ifCond .ne 5, 3) := by decide +kernel
theorem dX2_shift_22 : decode cX2_shift 22 = .ok (.iconst (-1), 1) := by decide +kernel
theorem dX2_shift_23 : decode cX2_shift 23 = .ok (.ireturn, 1) := by decide +kernel
theorem dX2_shift_24 : decode cX2_shift 24 = .ok (.iload_n 1, 1) := by decide +kernel
theorem dX2_shift_25 : decode cX2_shift 25 = .ok (.iload_n 3, 1) := by decide +kernel
theorem dX2_shift_26 : decode cX2_shift 26 = .ok (.if_icmp .eq 18, 3) := by decide +kernel
theorem dX2_shift_29 : decode cX2_shift 29 = .ok (.iload_n 2, 1) := by decide +kernel
theorem dX2_shift_30 : decode cX2_shift 30 = .ok (.invokestatic 76, 3) := by decide +kernel
theorem dX2_shift_33 : decode cX2_shift 33 = .ok (.ifCond .eq 11, 3) := by decide +kernel
theorem dX2_shift_36 : decode cX2_shift 36 = .ok (.iload 4, 2) := by decide +kernel
theorem dX2_shift_38 : decode cX2_shift 38 = .ok (.invokestatic 47, 3) := by decide +kernel
theorem dX2_shift_41 : decode cX2_shift 41 = .ok (.ifCond .ne 6, 3) := by decide +kernel
theorem dX2_shift_44 : decode cX2_shift 44 = .ok (.bipush (-2), 2) := by decide +kernel
theorem dX2_shift_46 : decode cX2_shift 46 = .ok (.ireturn, 1) := by decide +kernel
theorem dX2_shift_47 : decode cX2_shift 47 = .ok (.iload 4, 2) := by decide +kernel
theorem dX2_shift_49 : decode cX2_shift 49 = .ok (.aload_n 0, 1) := by decide +kernel
theorem dX2_shift_50 : decode cX2_shift 50 = .ok (.getfield 10, 3) := by decide +kernel
theorem dX2_shift_53 : decode cX2_shift 53 = .ok (.invokevirtual 54, 3) := by decide +kernel
theorem dX2_shift_56 : decode cX2_shift 56 = .ok (.if_icmp .ge 6, 3) := by decide +kernel
theorem dX2_shift_59 : decode cX2_shift 59 = .ok (.bipush (-3), 2) := by decide +kernel
theorem dX2_shift_61 : decode cX2_shift 61 = .ok (.ireturn, 1) := by decide +kernel
theorem dX2_shift_62 : decode cX2_shift 62 = .ok (.aload_n 0, 1) := by decide +kernel
theorem dX2_shift_63 : decode cX2_shift 63 = .ok (.getfield 10, 3) := by decide +kernel
theorem dX2_shift_66 : decode cX2_shift 66 = .ok (.iload_n 3, 1) := by decide +kernel
theorem dX2_shift_67 : decode cX2_shift 67 = .ok (.invokevirtual 58, 3) := by decide +kernel
theorem dX2_shift_70 : decode cX2_shift 70 = .ok (.ifCond .eq 18, 3) := by decide +kernel
theorem dX2_shift_73 : decode cX2_shift 73 = .ok (.iload_n 2, 1) := by decide +kernel
theorem dX2_shift_74 : decode cX2_shift 74 = .ok (.aload_n 0, 1) := by decide +kernel
theorem dX2_shift_75 : decode cX2_shift 75 = .ok (.getfield 10, 3) := by decide +kernel
theorem dX2_shift_78 : decode cX2_shift 78 = .ok (.iload_n 1, 1) := by decide +kernel
theorem dX2_shift_79 : decode cX2_shift 79 = .ok (.invokevirtual 58, 3) := by decide +kernel
theorem dX2_shift_82 : decode cX2_shift 82 = .ok (.invokestatic 79, 3) := by decide +kernel
theorem dX2_shift_85 : decode cX2_shift 85 = .ok (.ifCond .ne 6, 3) := by decide +kernel
theorem dX2_shift_88 : decode cX2_shift 88 = .ok (.bipush (-5), 2) := by decide +kernel
theorem dX2_shift_90 : decode cX2_shift 90 = .ok (.ireturn, 1) := by decide +kernel
theorem dX2_shift_91 : decode cX2_shift 91 = .ok (.aload_n 0, 1) := by decide +kernel
theorem dX2_shift_92 : decode cX2_shift 92 = .ok (.getfield 10, 3) := by decide +kernel
theorem dX2_shift_95 : decode cX2_shift 95 = .ok (.invokevirtual 62, 3) := by decide +kernel
theorem dX2_shift_98 : decode cX2_shift 98 = .ok (.ifCond .eq 6, 3) := by decide +kernel
theorem dX2_shift_101 : decode cX2_shift 101 = .ok (.bipush (-4), 2) := by decide +kernel
theorem dX2_shift_103 : decode cX2_shift 103 = .ok (.ireturn, 1) := by decide +kernel
theorem dX2_shift_104 : decode cX2_shift 104 = .ok (.aload_n 0, 1) := by decide +kernel
theorem dX2_shift_105 : decode cX2_shift 105 = .ok (.getfield 10, 3) := by decide +kernel
theorem dX2_shift_108 : decode cX2_shift 108 = .ok (.iconst 3, 1) := by decide +kernel
theorem dX2_shift_109 : decode cX2_shift 109 = .ok (.iload 4, 2) := by decide +kernel
theorem dX2_shift_111 : decode cX2_shift 111 = .ok (.iload_n 1, 1) := by decide +kernel
theorem dX2_shift_112 : decode cX2_shift 112 = .ok (.iload_n 2, 1) := by decide +kernel
theorem dX2_shift_113 : decode cX2_shift 113 = .ok (.iload_n 3, 1) := by decide +kernel
theorem dX2_shift_114 : decode cX2_shift 114 = .ok (.lconst 0, 1) := by decide +kernel
theorem dX2_shift_115 : decode cX2_shift 115 = .ok (.invokevirtual 69, 3) := by decide +kernel
theorem dX2_shift_118 : decode cX2_shift 118 = .ok (.aload_n 0, 1) := by decide +kernel
theorem dX2_shift_119 : decode cX2_shift 119 = .ok (.getfield 10, 3) := by decide +kernel
theorem dX2_shift_122 : decode cX2_shift 122 = .ok (.invokevirtual 73, 3) := by decide +kernel
theorem dX2_shift_125 : decode cX2_shift 125 = .ok (.ireturn, 1) := by decide +kernel
set_option maxRecDepth 20000 in
theorem ggX2_undo_X0_eventCount : GoodIn wsX2_undo wsX0_eventCount := goodIn_r _ [6, 7, 19, 20, 21, 22, 23, 24, 25, 26] (by decide +kernel) (by decide +kernel)
set_option maxRecDepth 20000 in
theorem gX2_undo_X0_eventCount : GoodIn wsX2_undo (wsV RX2 86 RX0 yX0_eventCount wsX0_eventCount) := goodIn_app (goodIn_of _ (by decide +kernel)) ggX2_undo_X0_eventCount
set_option maxRecDepth 20000 in
theorem ggX2_undo_X0_forgetLast : GoodIn wsX2_undo wsX0_forgetLast := goodIn_r _ [11, 7, 12, 13, 19, 20, 21, 22, 23, 24, 25, 26] (by decide +kernel) (by decide +kernel)
set_option maxRecDepth 20000 in
theorem gX2_undo_X0_forgetLast : GoodIn wsX2_undo (wsV RX2 89 RX0 yX0_forgetLast wsX0_forgetLast) := goodIn_app (goodIn_of _ (by decide +kernel)) ggX2_undo_X0_forgetLast
theorem dX2_undo_0 : decode cX2_undo 0 = .ok (.aload_n 0, 1) := by decide +kernel
theorem dX2_undo_1 : decode cX2_undo 1 = .ok (.getfield 10, 3) := by decide +kernel
theorem dX2_undo_4 : decode cX2_undo 4 = .ok (.invokevirtual 86, 3) := by decide +kernel
theorem dX2_undo_7 : decode cX2_undo 7 = .ok (.ifCond .ne 6, 3) := by decide +kernel
theorem dX2_undo_10 : decode cX2_undo 10 = .ok (.bipush (-6), 2) := by decide +kernel
theorem dX2_undo_12 : decode cX2_undo 12 = .ok (.ireturn, 1) := by decide +kernel
theorem dX2_undo_13 : decode cX2_undo 13 = .ok (.aload_n 0, 1) := by decide +kernel
theorem dX2_undo_14 : decode cX2_undo 14 = .ok (.getfield 10, 3) := by decide +kernel
theorem dX2_undo_17 : decode cX2_undo 17 = .ok (.invokevirtual 89, 3) := by decide +kernel
theorem dX2_undo_20 : decode cX2_undo 20 = .ok (.aload_n 0, 1) := by decide +kernel
theorem dX2_undo_21 : decode cX2_undo 21 = .ok (.getfield 10, 3) := by decide +kernel
theorem dX2_undo_24 : decode cX2_undo 24 = .ok (.invokevirtual 86, 3) := by decide +kernel
theorem dX2_undo_27 : decode cX2_undo 27 = .ok (.ireturn, 1) := by decide +kernel
set_option maxRecDepth 20000 in
theorem ggX2_event_X0_factOf : GoodIn wsX2_event wsX0_factOf := goodIn_r _ [6, 7, 8, 9, 10, 11, 12, 18, 19, 20, 21, 22, 23, 24, 25] (by decide +kernel) (by decide +kernel)
set_option maxRecDepth 20000 in
theorem gX2_event_X0_factOf : GoodIn wsX2_event (wsV RX2 92 RX0 yX0_factOf wsX0_factOf) := goodIn_app (goodIn_of _ (by decide +kernel)) ggX2_event_X0_factOf
theorem dX2_event_0 : decode cX2_event 0 = .ok (.iload_n 2, 1) := by decide +kernel
theorem dX2_event_1 : decode cX2_event 1 = .ok (.ifCond .lt 8, 3) := by decide +kernel
theorem dX2_event_4 : decode cX2_event 4 = .ok (.iload_n 2, 1) := by decide +kernel
theorem dX2_event_5 : decode cX2_event 5 = .ok (.iconst 4, 1) := by decide +kernel
theorem dX2_event_6 : decode cX2_event 6 = .ok (.if_icmp .le 6, 3) := by decide +kernel
theorem dX2_event_9 : decode cX2_event 9 = .ok (.bipush (-2), 2) := by decide +kernel
theorem dX2_event_11 : decode cX2_event 11 = .ok (.ireturn, 1) := by decide +kernel
theorem dX2_event_12 : decode cX2_event 12 = .ok (.aload_n 0, 1) := by decide +kernel
theorem dX2_event_13 : decode cX2_event 13 = .ok (.getfield 10, 3) := by decide +kernel
theorem dX2_event_16 : decode cX2_event 16 = .ok (.iload_n 1, 1) := by decide +kernel
theorem dX2_event_17 : decode cX2_event 17 = .ok (.iload_n 2, 1) := by decide +kernel
theorem dX2_event_18 : decode cX2_event 18 = .ok (.invokevirtual 92, 3) := by decide +kernel
theorem dX2_event_21 : decode cX2_event 21 = .ok (.ireturn, 1) := by decide +kernel
set_option maxRecDepth 20000 in
theorem ggX2_at_X2_isSite : GoodIn wsX2_at wsX2_isSite := goodIn_r _ [5] (by decide +kernel) (by decide +kernel)
set_option maxRecDepth 20000 in
theorem gX2_at_X2_isSite : GoodIn wsX2_at (va_wsS RX2 96 yX2_isSite wsX2_isSite) := goodIn_app (goodIn_of _ (by decide +kernel)) ggX2_at_X2_isSite
set_option maxRecDepth 20000 in
theorem ggX2_at_X2_isYear : GoodIn wsX2_at wsX2_isYear := goodIn_r _ [8] (by decide +kernel) (by decide +kernel)
set_option maxRecDepth 20000 in
theorem gX2_at_X2_isYear : GoodIn wsX2_at (va_wsS RX2 47 yX2_isYear wsX2_isYear) := goodIn_app (goodIn_of _ (by decide +kernel)) ggX2_at_X2_isYear
set_option maxRecDepth 20000 in
theorem ggX2_at_X0_stageIn : GoodIn wsX2_at wsX0_stageIn := goodIn_r _ [13, 14, 15, 29, 30, 31, 32, 33, 34, 35, 36] (by decide +kernel) (by decide +kernel)
set_option maxRecDepth 20000 in
theorem gX2_at_X0_stageIn : GoodIn wsX2_at (wsV RX2 99 RX0 yX0_stageIn wsX0_stageIn) := goodIn_app (goodIn_of _ (by decide +kernel)) ggX2_at_X0_stageIn
set_option maxRecDepth 20000 in
theorem ggX2_at_X0_ownerBehind : GoodIn wsX2_at wsX0_ownerBehind := goodIn_r _ [19, 14, 20, 21, 22, 4, 23, 29, 30, 31, 32, 33, 34, 35, 36] (by decide +kernel) (by decide +kernel)
set_option maxRecDepth 20000 in
theorem gX2_at_X0_ownerBehind : GoodIn wsX2_at (wsV RX2 102 RX0 yX0_ownerBehind wsX0_ownerBehind) := goodIn_app (goodIn_of _ (by decide +kernel)) ggX2_at_X0_ownerBehind
theorem dX2_at_0 : decode cX2_at 0 = .ok (.iload_n 1, 1) := by decide +kernel
theorem dX2_at_1 : decode cX2_at 1 = .ok (.invokestatic 96, 3) := by decide +kernel
theorem dX2_at_4 : decode cX2_at 4 = .ok (.ifCond .ne 5, 3) := by decide +kernel
theorem dX2_at_7 : decode cX2_at 7 = .ok (.iconst (-1), 1) := by decide +kernel
