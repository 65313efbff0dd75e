theorem dX0_init_0 : decode cX0_init 0 = .ok (.aload_n 0, 1) := by decide +kernel
theorem dX0_init_1 : decode cX0_init 1 = .ok (.invokespecial 3, 3) := by decide +kernel
theorem dX0_init_4 : decode cX0_init 4 = .ok (.aload_n 0, 1) := by decide +kernel
theorem dX0_init_5 : decode cX0_init 5 = .ok (.bipush 6, 2) := by decide +kernel
theorem dX0_init_7 : decode cX0_init 7 = .ok (.newarray .int, 2) := by decide +kernel
theorem dX0_init_9 : decode cX0_init 9 = .ok (.putfield 9, 3) := by decide +kernel
theorem dX0_init_12 : decode cX0_init 12 = .ok (.aload_n 0, 1) := by decide +kernel
theorem dX0_init_13 : decode cX0_init 13 = .ok (.bipush 30, 2) := by decide +kernel
theorem dX0_init_15 : decode cX0_init 15 = .ok (.newarray .int, 2) := by decide +kernel
theorem dX0_init_17 : decode cX0_init 17 = .ok (.putfield 15, 3) := by decide +kernel
theorem dX0_init_20 : decode cX0_init 20 = .ok (.aload_n 0, 1) := by decide +kernel
theorem dX0_init_21 : decode cX0_init 21 = .ok (.bipush 30, 2) := by decide +kernel
theorem dX0_init_23 : decode cX0_init 23 = .ok (.newarray .int, 2) := by decide +kernel
theorem dX0_init_25 : decode cX0_init 25 = .ok (.putfield 18, 3) := by decide +kernel
theorem dX0_init_28 : decode cX0_init 28 = .ok (.aload_n 0, 1) := by decide +kernel
theorem dX0_init_29 : decode cX0_init 29 = .ok (.bipush 30, 2) := by decide +kernel
theorem dX0_init_31 : decode cX0_init 31 = .ok (.newarray .int, 2) := by decide +kernel
theorem dX0_init_33 : decode cX0_init 33 = .ok (.putfield 21, 3) := by decide +kernel
theorem dX0_init_36 : decode cX0_init 36 = .ok (.aload_n 0, 1) := by decide +kernel
theorem dX0_init_37 : decode cX0_init 37 = .ok (.bipush 60, 2) := by decide +kernel
theorem dX0_init_39 : decode cX0_init 39 = .ok (.newarray .int, 2) := by decide +kernel
theorem dX0_init_41 : decode cX0_init 41 = .ok (.putfield 24, 3) := by decide +kernel
theorem dX0_init_44 : decode cX0_init 44 = .ok (.aload_n 0, 1) := by decide +kernel
theorem dX0_init_45 : decode cX0_init 45 = .ok (.bipush 60, 2) := by decide +kernel
theorem dX0_init_47 : decode cX0_init 47 = .ok (.newarray .int, 2) := by decide +kernel
theorem dX0_init_49 : decode cX0_init 49 = .ok (.putfield 27, 3) := by decide +kernel
theorem dX0_init_52 : decode cX0_init 52 = .ok (.aload_n 0, 1) := by decide +kernel
theorem dX0_init_53 : decode cX0_init 53 = .ok (.bipush 60, 2) := by decide +kernel
theorem dX0_init_55 : decode cX0_init 55 = .ok (.newarray .int, 2) := by decide +kernel
theorem dX0_init_57 : decode cX0_init 57 = .ok (.putfield 30, 3) := by decide +kernel
theorem dX0_init_60 : decode cX0_init 60 = .ok (.aload_n 0, 1) := by decide +kernel
theorem dX0_init_61 : decode cX0_init 61 = .ok (.bipush 60, 2) := by decide +kernel
theorem dX0_init_63 : decode cX0_init 63 = .ok (.newarray .int, 2) := by decide +kernel
theorem dX0_init_65 : decode cX0_init 65 = .ok (.putfield 33, 3) := by decide +kernel
theorem dX0_init_68 : decode cX0_init 68 = .ok (.aload_n 0, 1) := by decide +kernel
theorem dX0_init_69 : decode cX0_init 69 = .ok (.bipush 60, 2) := by decide +kernel
theorem dX0_init_71 : decode cX0_init 71 = .ok (.newarray .int, 2) := by decide +kernel
theorem dX0_init_73 : decode cX0_init 73 = .ok (.putfield 36, 3) := by decide +kernel
theorem dX0_init_76 : decode cX0_init 76 = .ok (.return_, 1) := by decide +kernel
set_option maxRecDepth 20000 in
theorem ggX0_arrange_X0_isWidthFit : GoodIn wsX0_arrange wsX0_isWidthFit := goodIn_r _ [10, 11, 12, 13, 14, 9, 15, 16, 17, 18, 19, 81, 82, 83, 84, 85, 86, 87, 88, 89, 67, 68, 69, 70, 71, 72, 73, 74, 75, 76, 77, 78, 79, 80] (by decide +kernel) (by decide +kernel)
set_option maxRecDepth 20000 in
theorem gX0_arrange_X0_isWidthFit : GoodIn wsX0_arrange (wsV RX0 43 RX0 yX0_isWidthFit wsX0_isWidthFit) := goodIn_app (goodIn_of _ (by decide +kernel)) ggX0_arrange_X0_isWidthFit
set_option maxRecDepth 20000 in
theorem ggX0_arrange_X0_areHeightsFit : GoodIn wsX0_arrange wsX0_areHeightsFit := goodIn_r _ [23, 24, 25, 26, 27, 1, 28, 29, 30, 31, 9, 32, 11, 33, 34, 35, 36, 37, 38, 39, 81, 82, 83, 84, 85, 86, 87, 88, 89, 67, 68, 69, 70, 71, 72, 73, 74, 75, 76, 77, 78, 79, 80, 90, 91, 92, 93, 94, 95, 96, 97] (by decide +kernel) (by decide +kernel)
set_option maxRecDepth 20000 in
theorem gX0_arrange_X0_areHeightsFit : GoodIn wsX0_arrange (wsV RX0 47 RX0 yX0_areHeightsFit wsX0_areHeightsFit) := goodIn_app (goodIn_of _ (by decide +kernel)) ggX0_arrange_X0_areHeightsFit
set_option maxRecDepth 20000 in
theorem ggX0_arrange_X0_fillPage : GoodIn wsX0_arrange wsX0_fillPage := goodIn_r _ [43, 44, 45, 46, 47, 1, 4, 5, 48, 49, 50, 51, 9, 52, 53, 54, 55, 56, 57, 28, 58, 59, 60, 61, 62, 63, 64, 65, 66, 67, 68, 69, 70, 71, 72, 73, 74, 75, 76, 77, 78, 79, 80, 81, 82, 83, 84, 85, 86, 87, 88, 89, 90, 91, 92, 93, 94, 95, 96, 97] (by decide +kernel) (by decide +kernel)
set_option maxRecDepth 20000 in
theorem gX0_arrange_X0_fillPage : GoodIn wsX0_arrange (wsV RX0 69 RX0 yX0_fillPage wsX0_fillPage) := goodIn_app (goodIn_of _ (by decide +kernel)) ggX0_arrange_X0_fillPage
theorem dX0_arrange_0 : decode cX0_arrange 0 = .ok (.aload_n 0, 1) := by decide +kernel
theorem dX0_arrange_1 : decode cX0_arrange 1 = .ok (.iload_n 3, 1) := by decide +kernel
theorem dX0_arrange_2 : decode cX0_arrange 2 = .ok (.iconst 3, 1) := by decide +kernel
theorem dX0_arrange_3 : decode cX0_arrange 3 = .ok (.isub, 1) := by decide +kernel
theorem dX0_arrange_4 : decode cX0_arrange 4 = .ok (.putfield 39, 3) := by decide +kernel
theorem dX0_arrange_7 : decode cX0_arrange 7 = .ok (.aload_n 0, 1) := by decide +kernel
theorem dX0_arrange_8 : decode cX0_arrange 8 = .ok (.aload_n 0, 1) := by decide +kernel
theorem dX0_arrange_9 : decode cX0_arrange 9 = .ok (.aload_n 1, 1) := by decide +kernel
theorem dX0_arrange_10 : decode cX0_arrange 10 = .ok (.iload_n 2, 1) := by decide +kernel
theorem dX0_arrange_11 : decode cX0_arrange 11 = .ok (.invokevirtual 43, 3) := by decide +kernel
theorem dX0_arrange_14 : decode cX0_arrange 14 = .ok (.ifCond .eq 15, 3) := by decide +kernel
theorem dX0_arrange_17 : decode cX0_arrange 17 = .ok (.aload_n 0, 1) := by decide +kernel
theorem dX0_arrange_18 : decode cX0_arrange 18 = .ok (.aload_n 1, 1) := by decide +kernel
theorem dX0_arrange_19 : decode cX0_arrange 19 = .ok (.invokevirtual 47, 3) := by decide +kernel
theorem dX0_arrange_22 : decode cX0_arrange 22 = .ok (.ifCond .eq 7, 3) := by decide +kernel
theorem dX0_arrange_25 : decode cX0_arrange 25 = .ok (.iconst 1, 1) := by decide +kernel
theorem dX0_arrange_26 : decode cX0_arrange 26 = .ok (.goto 4, 3) := by decide +kernel
theorem dX0_arrange_29 : decode cX0_arrange 29 = .ok (.iconst 0, 1) := by decide +kernel
theorem dX0_arrange_30 : decode cX0_arrange 30 = .ok (.putfield 51, 3) := by decide +kernel
theorem dX0_arrange_33 : decode cX0_arrange 33 = .ok (.aload_n 0, 1) := by decide +kernel
theorem dX0_arrange_34 : decode cX0_arrange 34 = .ok (.iconst 0, 1) := by decide +kernel
theorem dX0_arrange_35 : decode cX0_arrange 35 = .ok (.putfield 55, 3) := by decide +kernel
theorem dX0_arrange_38 : decode cX0_arrange 38 = .ok (.aload_n 0, 1) := by decide +kernel
theorem dX0_arrange_39 : decode cX0_arrange 39 = .ok (.iconst 0, 1) := by decide +kernel
theorem dX0_arrange_40 : decode cX0_arrange 40 = .ok (.putfield 58, 3) := by decide +kernel
theorem dX0_arrange_43 : decode cX0_arrange 43 = .ok (.aload_n 0, 1) := by decide +kernel
theorem dX0_arrange_44 : decode cX0_arrange 44 = .ok (.iconst 0, 1) := by decide +kernel
theorem dX0_arrange_45 : decode cX0_arrange 45 = .ok (.putfield 61, 3) := by decide +kernel
theorem dX0_arrange_48 : decode cX0_arrange 48 = .ok (.aload_n 0, 1) := by decide +kernel
theorem dX0_arrange_49 : decode cX0_arrange 49 = .ok (.getfield 51, 3) := by decide +kernel
theorem dX0_arrange_52 : decode cX0_arrange 52 = .ok (.ifCond .eq 56, 3) := by decide +kernel
theorem dX0_arrange_55 : decode cX0_arrange 55 = .ok (.aload_n 0, 1) := by decide +kernel
theorem dX0_arrange_56 : decode cX0_arrange 56 = .ok (.getfield 55, 3) := by decide +kernel
theorem dX0_arrange_59 : decode cX0_arrange 59 = .ok (.bipush 60, 2) := by decide +kernel
theorem dX0_arrange_61 : decode cX0_arrange 61 = .ok (.if_icmp .ge 47, 3) := by decide +kernel
theorem dX0_arrange_64 : decode cX0_arrange 64 = .ok (.aload_n 0, 1) := by decide +kernel
theorem dX0_arrange_65 : decode cX0_arrange 65 = .ok (.getfield 58, 3) := by decide +kernel
theorem dX0_arrange_68 : decode cX0_arrange 68 = .ok (.aload_n 1, 1) := by decide +kernel
theorem dX0_arrange_69 : decode cX0_arrange 69 = .ok (.getfield 64, 3) := by decide +kernel
theorem dX0_arrange_72 : decode cX0_arrange 72 = .ok (.if_icmp .lt 14, 3) := by decide +kernel
theorem dX0_arrange_75 : decode cX0_arrange 75 = .ok (.aload_n 0, 1) := by decide +kernel
theorem dX0_arrange_76 : decode cX0_arrange 76 = .ok (.getfield 61, 3) := by decide +kernel
theorem dX0_arrange_79 : decode cX0_arrange 79 = .ok (.aload_n 0, 1) := by decide +kernel
theorem dX0_arrange_80 : decode cX0_arrange 80 = .ok (.getfield 58, 3) := by decide +kernel
theorem dX0_arrange_83 : decode cX0_arrange 83 = .ok (.if_icmp .ge 25, 3) := by decide +kernel
theorem dX0_arrange_86 : decode cX0_arrange 86 = .ok (.aload_n 0, 1) := by decide +kernel
theorem dX0_arrange_87 : decode cX0_arrange 87 = .ok (.aload_n 1, 1) := by decide +kernel
theorem dX0_arrange_88 : decode cX0_arrange 88 = .ok (.aload_n 0, 1) := by decide +kernel
theorem dX0_arrange_89 : decode cX0_arrange 89 = .ok (.getfield 55, 3) := by decide +kernel
theorem dX0_arrange_92 : decode cX0_arrange 92 = .ok (.invokevirtual 69, 3) := by decide +kernel
theorem dX0_arrange_95 : decode cX0_arrange 95 = .ok (.aload_n 0, 1) := by decide +kernel
theorem dX0_arrange_96 : decode cX0_arrange 96 = .ok (.dup, 1) := by decide +kernel
theorem dX0_arrange_97 : decode cX0_arrange 97 = .ok (.getfield 55, 3) := by decide +kernel
theorem dX0_arrange_100 : decode cX0_arrange 100 = .ok (.iconst 1, 1) := by decide +kernel
theorem dX0_arrange_101 : decode cX0_arrange 101 = .ok (.iadd, 1) := by decide +kernel
theorem dX0_arrange_102 : decode cX0_arrange 102 = .ok (.putfield 55, 3) := by decide +kernel
theorem dX0_arrange_105 : decode cX0_arrange 105 = .ok (.goto (-57), 3) := by decide +kernel
theorem dX0_arrange_108 : decode cX0_arrange 108 = .ok (.return_, 1) := by decide +kernel
theorem dX0_pagesOrNone_0 : decode cX0_pagesOrNone 0 = .ok (.aload_n 0, 1) := by decide +kernel
theorem dX0_pagesOrNone_1 : decode cX0_pagesOrNone 1 = .ok (.getfield 51, 3) := by decide +kernel
theorem dX0_pagesOrNone_4 : decode cX0_pagesOrNone 4 = .ok (.ifCond .eq 10, 3) := by decide +kernel
theorem dX0_pagesOrNone_7 : decode cX0_pagesOrNone 7 = .ok (.aload_n 0, 1) := by decide +kernel
theorem dX0_pagesOrNone_8 : decode cX0_pagesOrNone 8 = .ok (.getfield 55, 3) := by decide +kernel
theorem dX0_pagesOrNone_11 : decode cX0_pagesOrNone 11 = .ok (.goto 4, 3) := by decide +kernel
theorem dX0_pagesOrNone_14 : decode cX0_pagesOrNone 14 = .ok (.iconst (-1), 1) := by decide +kernel
theorem dX0_pagesOrNone_15 : decode cX0_pagesOrNone 15 = .ok (.ireturn, 1) := by decide +kernel
theorem dX0_tableWidth_0 : decode cX0_tableWidth 0 = .ok (.aload_n 1, 1) := by decide +kernel
theorem dX0_tableWidth_1 : decode cX0_tableWidth 1 = .ok (.getfield 73, 3) := by decide +kernel
theorem dX0_tableWidth_4 : decode cX0_tableWidth 4 = .ok (.iconst 1, 1) := by decide +kernel
theorem dX0_tableWidth_5 : decode cX0_tableWidth 5 = .ok (.isub, 1) := by decide +kernel
theorem dX0_tableWidth_6 : decode cX0_tableWidth 6 = .ok (.istore_n 2, 1) := by decide +kernel
theorem dX0_tableWidth_7 : decode cX0_tableWidth 7 = .ok (.iconst 0, 1) := by decide +kernel
theorem dX0_tableWidth_8 : decode cX0_tableWidth 8 = .ok (.istore_n 3, 1) := by decide +kernel
theorem dX0_tableWidth_9 : decode cX0_tableWidth 9 = .ok (.iload_n 3, 1) := by decide +kernel
theorem dX0_tableWidth_10 : decode cX0_tableWidth 10 = .ok (.aload_n 1, 1) := by decide +kernel
theorem dX0_tableWidth_11 : decode cX0_tableWidth 11 = .ok (.getfield 73, 3) := by decide +kernel
theorem dX0_tableWidth_14 : decode cX0_tableWidth 14 = .ok (.if_icmp .ge 18, 3) := by decide +kernel
theorem dX0_tableWidth_17 : decode cX0_tableWidth 17 = .ok (.iload_n 2, 1) := by decide +kernel
theorem dX0_tableWidth_18 : decode cX0_tableWidth 18 = .ok (.aload_n 0, 1) := by decide +kernel
theorem dX0_tableWidth_19 : decode cX0_tableWidth 19 = .ok (.getfield 9, 3) := by decide +kernel
theorem dX0_tableWidth_22 : decode cX0_tableWidth 22 = .ok (.iload_n 3, 1) := by decide +kernel
theorem dX0_tableWidth_23 : decode cX0_tableWidth 23 = .ok (.iaload, 1) := by decide +kernel
theorem dX0_tableWidth_24 : decode cX0_tableWidth 24 = .ok (.iadd, 1) := by decide +kernel
theorem dX0_tableWidth_25 : decode cX0_tableWidth 25 = .ok (.istore_n 2, 1) := by decide +kernel
theorem dX0_tableWidth_26 : decode cX0_tableWidth 26 = .ok (.iinc 3 1, 3) := by decide +kernel
theorem dX0_tableWidth_29 : decode cX0_tableWidth 29 = .ok (.goto (-20), 3) := by decide +kernel
theorem dX0_tableWidth_32 : decode cX0_tableWidth 32 = .ok (.iload_n 2, 1) := by decide +kernel
theorem dX0_tableWidth_33 : decode cX0_tableWidth 33 = .ok (.ireturn, 1) := by decide +kernel
theorem dX0_heightOfRows_0 : decode cX0_heightOfRows 0 = .ok (.iconst 0, 1) := by decide +kernel
theorem dX0_heightOfRows_1 : decode cX0_heightOfRows 1 = .ok (.istore_n 2, 1) := by decide +kernel
theorem dX0_heightOfRows_2 : decode cX0_heightOfRows 2 = .ok (.iconst 0, 1) := by decide +kernel
theorem dX0_heightOfRows_3 : decode cX0_heightOfRows 3 = .ok (.istore_n 3, 1) := by decide +kernel
theorem dX0_heightOfRows_4 : decode cX0_heightOfRows 4 = .ok (.iload_n 3, 1) := by decide +kernel
theorem dX0_heightOfRows_5 : decode cX0_heightOfRows 5 = .ok (.aload_n 1, 1) := by decide +kernel
theorem dX0_heightOfRows_6 : decode cX0_heightOfRows 6 = .ok (.getfield 64, 3) := by decide +kernel
theorem dX0_heightOfRows_9 : decode cX0_heightOfRows 9 = .ok (.if_icmp .ge 18, 3) := by decide +kernel
theorem dX0_heightOfRows_12 : decode cX0_heightOfRows 12 = .ok (.iload_n 2, 1) := by decide +kernel
theorem dX0_heightOfRows_13 : decode cX0_heightOfRows 13 = .ok (.aload_n 0, 1) := by decide +kernel
theorem dX0_heightOfRows_14 : decode cX0_heightOfRows 14 = .ok (.getfield 15, 3) := by decide +kernel
theorem dX0_heightOfRows_17 : decode cX0_heightOfRows 17 = .ok (.iload_n 3, 1) := by decide +kernel
theorem dX0_heightOfRows_18 : decode cX0_heightOfRows 18 = .ok (.iaload, 1) := by decide +kernel
theorem dX0_heightOfRows_19 : decode cX0_heightOfRows 19 = .ok (.iadd, 1) := by decide +kernel
theorem dX0_heightOfRows_20 : decode cX0_heightOfRows 20 = .ok (.istore_n 2, 1) := by decide +kernel
theorem dX0_heightOfRows_21 : decode cX0_heightOfRows 21 = .ok (.iinc 3 1, 3) := by decide +kernel
theorem dX0_heightOfRows_24 : decode cX0_heightOfRows 24 = .ok (.goto (-20), 3) := by decide +kernel
theorem dX0_heightOfRows_27 : decode cX0_heightOfRows 27 = .ok (.iload_n 2, 1) := by decide +kernel
theorem dX0_heightOfRows_28 : decode cX0_heightOfRows 28 = .ok (.ireturn, 1) := by decide +kernel
theorem dX0_notesElsewhere_0 : decode cX0_notesElsewhere 0 = .ok (.iconst 0, 1) := by decide +kernel
theorem dX0_notesElsewhere_1 : decode cX0_notesElsewhere 1 = .ok (.istore_n 2, 1) := by decide +kernel
theorem dX0_notesElsewhere_2 : decode cX0_notesElsewhere 2 = .ok (.iconst 0, 1) := by decide +kernel
theorem dX0_notesElsewhere_3 : decode cX0_notesElsewhere 3 = .ok (.istore_n 3, 1) := by decide +kernel
theorem dX0_notesElsewhere_4 : decode cX0_notesElsewhere 4 = .ok (.iload_n 3, 1) := by decide +kernel
theorem dX0_notesElsewhere_5 : decode cX0_notesElsewhere 5 = .ok (.aload_n 1, 1) := by decide +kernel
theorem dX0_notesElsewhere_6 : decode cX0_notesElsewhere 6 = .ok (.getfield 64, 3) := by decide +kernel
theorem dX0_notesElsewhere_9 : decode cX0_notesElsewhere 9 = .ok (.if_icmp .ge 37, 3) := by decide +kernel
theorem dX0_notesElsewhere_12 : decode cX0_notesElsewhere 12 = .ok (.aload_n 0, 1) := by decide +kernel
theorem dX0_notesElsewhere_13 : decode cX0_notesElsewhere 13 = .ok (.getfield 21, 3) := by decide +kernel
theorem dX0_notesElsewhere_16 : decode cX0_notesElsewhere 16 = .ok (.iload_n 3, 1) := by decide +kernel
theorem dX0_notesElsewhere_17 : decode cX0_notesElsewhere 17 = .ok (.iaload, 1) := by decide +kernel
theorem dX0_notesElsewhere_18 : decode cX0_notesElsewhere 18 = .ok (.iconst (-1), 1) := by decide +kernel
theorem dX0_notesElsewhere_19 : decode cX0_notesElsewhere 19 = .ok (.if_icmp .eq 21, 3) := by decide +kernel
theorem dX0_notesElsewhere_22 : decode cX0_notesElsewhere 22 = .ok (.aload_n 0, 1) := by decide +kernel
theorem dX0_notesElsewhere_23 : decode cX0_notesElsewhere 23 = .ok (.getfield 21, 3) := by decide +kernel
theorem dX0_notesElsewhere_26 : decode cX0_notesElsewhere 26 = .ok (.iload_n 3, 1) := by decide +kernel
theorem dX0_notesElsewhere_27 : decode cX0_notesElsewhere 27 = .ok (.iaload, 1) := by decide +kernel
theorem dX0_notesElsewhere_28 : decode cX0_notesElsewhere 28 = .ok (.aload_n 0, 1) := by decide +kernel
theorem dX0_notesElsewhere_29 : decode cX0_notesElsewhere 29 = .ok (.getfield 18, 3) := by decide +kernel
theorem dX0_notesElsewhere_32 : decode cX0_notesElsewhere 32 = .ok (.iload_n 3, 1) := by decide +kernel
theorem dX0_notesElsewhere_33 : decode cX0_notesElsewhere 33 = .ok (.iaload, 1) := by decide +kernel
theorem dX0_notesElsewhere_34 : decode cX0_notesElsewhere 34 = .ok (.if_icmp .eq 6, 3) := by decide +kernel
theorem dX0_notesElsewhere_37 : decode cX0_notesElsewhere 37 = .ok (.iinc 2 1, 3) := by decide +kernel
theorem dX0_notesElsewhere_40 : decode cX0_notesElsewhere 40 = .ok (.iinc 3 1, 3) := by decide +kernel
theorem dX0_notesElsewhere_43 : decode cX0_notesElsewhere 43 = .ok (.goto (-39), 3) := by decide +kernel
theorem dX0_notesElsewhere_46 : decode cX0_notesElsewhere 46 = .ok (.iload_n 2, 1) := by decide +kernel
theorem dX0_notesElsewhere_47 : decode cX0_notesElsewhere 47 = .ok (.ireturn, 1) := by decide +kernel
set_option maxRecDepth 20000 in
theorem ggX0_carriedOn_X3_sumUpTo : GoodIn wsX0_carriedOn wsX3_sumUpTo := goodIn_r _ [6, 7, 8, 23, 24, 25, 26, 27, 28, 29, 30, 31, 32, 33, 34, 35, 36, 37, 38, 39] (by decide +kernel) (by decide +kernel)
set_option maxRecDepth 20000 in
theorem gX0_carriedOn_X3_sumUpTo : GoodIn wsX0_carriedOn (wsV RX0 76 RX3 yX3_sumUpTo wsX3_sumUpTo) := goodIn_app (goodIn_of _ (by decide +kernel)) ggX0_carriedOn_X3_sumUpTo
theorem dX0_carriedOn_0 : decode cX0_carriedOn 0 = .ok (.aload_n 1, 1) := by decide +kernel
theorem dX0_carriedOn_1 : decode cX0_carriedOn 1 = .ok (.aload_n 0, 1) := by decide +kernel
theorem dX0_carriedOn_2 : decode cX0_carriedOn 2 = .ok (.getfield 36, 3) := by decide +kernel
theorem dX0_carriedOn_5 : decode cX0_carriedOn 5 = .ok (.iload_n 2, 1) := by decide +kernel
theorem dX0_carriedOn_6 : decode cX0_carriedOn 6 = .ok (.iaload, 1) := by decide +kernel
theorem dX0_carriedOn_7 : decode cX0_carriedOn 7 = .ok (.iload_n 3, 1) := by decide +kernel
theorem dX0_carriedOn_8 : decode cX0_carriedOn 8 = .ok (.invokevirtual 76, 3) := by decide +kernel
theorem dX0_carriedOn_11 : decode cX0_carriedOn 11 = .ok (.ireturn, 1) := by decide +kernel
set_option maxRecDepth 20000 in
theorem ggX0_readAloud_X0_shownCells : GoodIn wsX0_readAloud wsX0_shownCells := goodIn_r _ [6, 7, 8, 9, 10, 11, 12, 13, 14, 15, 30, 31, 32, 33, 34, 35, 36, 37] (by decide +kernel) (by decide +kernel)
set_option maxRecDepth 20000 in
theorem gX0_readAloud_X0_shownCells : GoodIn wsX0_readAloud (va_wsS RX0 83 yX0_shownCells wsX0_shownCells) := goodIn_app (goodIn_of _ (by decide +kernel)) ggX0_readAloud_X0_shownCells
theorem dX0_readAloud_0 : decode cX0_readAloud 0 = .ok (.aload_n 1, 1) := by decide +kernel
theorem dX0_readAloud_1 : decode cX0_readAloud 1 = .ok (.getfield 73, 3) := by decide +kernel
theorem dX0_readAloud_4 : decode cX0_readAloud 4 = .ok (.aload_n 0, 1) := by decide +kernel
theorem dX0_readAloud_5 : decode cX0_readAloud 5 = .ok (.getfield 30, 3) := by decide +kernel
theorem dX0_readAloud_8 : decode cX0_readAloud 8 = .ok (.iload_n 2, 1) := by decide +kernel
theorem dX0_readAloud_9 : decode cX0_readAloud 9 = .ok (.iaload, 1) := by decide +kernel
theorem dX0_readAloud_10 : decode cX0_readAloud 10 = .ok (.iadd, 1) := by decide +kernel
theorem dX0_readAloud_11 : decode cX0_readAloud 11 = .ok (.istore_n 3, 1) := by decide +kernel
theorem dX0_readAloud_12 : decode cX0_readAloud 12 = .ok (.iconst 0, 1) := by decide +kernel
theorem dX0_readAloud_13 : decode cX0_readAloud 13 = .ok (.istore 4, 2) := by decide +kernel
theorem dX0_readAloud_15 : decode cX0_readAloud 15 = .ok (.iload 4, 2) := by decide +kernel
theorem dX0_readAloud_17 : decode cX0_readAloud 17 = .ok (.aload_n 1, 1) := by decide +kernel
theorem dX0_readAloud_18 : decode cX0_readAloud 18 = .ok (.getfield 73, 3) := by decide +kernel
theorem dX0_readAloud_21 : decode cX0_readAloud 21 = .ok (.if_icmp .ge 27, 3) := by decide +kernel
theorem dX0_readAloud_24 : decode cX0_readAloud 24 = .ok (.iload_n 2, 1) := by decide +kernel
theorem dX0_readAloud_25 : decode cX0_readAloud 25 = .ok (.ifCond .le 17, 3) := by decide +kernel
theorem dX0_readAloud_28 : decode cX0_readAloud 28 = .ok (.aload_n 1, 1) := by decide +kernel
theorem dX0_readAloud_29 : decode cX0_readAloud 29 = .ok (.getfield 80, 3) := by decide +kernel
theorem dX0_readAloud_32 : decode cX0_readAloud 32 = .ok (.iload 4, 2) := by decide +kernel
theorem dX0_readAloud_34 : decode cX0_readAloud 34 = .ok (.iaload, 1) := by decide +kernel
theorem dX0_readAloud_35 : decode cX0_readAloud 35 = .ok (.iconst 1, 1) := by decide +kernel
theorem dX0_readAloud_36 : decode cX0_readAloud 36 = .ok (.if_icmp .eq 6, 3) := by decide +kernel
theorem dX0_readAloud_39 : decode cX0_readAloud 39 = .ok (.iinc 3 1, 3) := by decide +kernel
theorem dX0_readAloud_42 : decode cX0_readAloud 42 = .ok (.iinc 4 1, 3) := by decide +kernel
theorem dX0_readAloud_45 : decode cX0_readAloud 45 = .ok (.goto (-30), 3) := by decide +kernel
theorem dX0_readAloud_48 : decode cX0_readAloud 48 = .ok (.iconst 0, 1) := by decide +kernel
theorem dX0_readAloud_49 : decode cX0_readAloud 49 = .ok (.istore 4, 2) := by decide +kernel
theorem dX0_readAloud_51 : decode cX0_readAloud 51 = .ok (.iload 4, 2) := by decide +kernel
theorem dX0_readAloud_53 : decode cX0_readAloud 53 = .ok (.aload_n 1, 1) := by decide +kernel
theorem dX0_readAloud_54 : decode cX0_readAloud 54 = .ok (.getfield 64, 3) := by decide +kernel
theorem dX0_readAloud_57 : decode cX0_readAloud 57 = .ok (.if_icmp .ge 29, 3) := by decide +kernel
theorem dX0_readAloud_60 : decode cX0_readAloud 60 = .ok (.aload_n 0, 1) := by decide +kernel
theorem dX0_readAloud_61 : decode cX0_readAloud 61 = .ok (.getfield 18, 3) := by decide +kernel
theorem dX0_readAloud_64 : decode cX0_readAloud 64 = .ok (.iload 4, 2) := by decide +kernel
theorem dX0_readAloud_66 : decode cX0_readAloud 66 = .ok (.iaload, 1) := by decide +kernel
theorem dX0_readAloud_67 : decode cX0_readAloud 67 = .ok (.iload_n 2, 1) := by decide +kernel
theorem dX0_readAloud_68 : decode cX0_readAloud 68 = .ok (.if_icmp .ne 12, 3) := by decide +kernel
theorem dX0_readAloud_71 : decode cX0_readAloud 71 = .ok (.iload_n 3, 1) := by decide +kernel
theorem dX0_readAloud_72 : decode cX0_readAloud 72 = .ok (.aload_n 1, 1) := by decide +kernel
theorem dX0_readAloud_73 : decode cX0_readAloud 73 = .ok (.iload 4, 2) := by decide +kernel
theorem dX0_readAloud_75 : decode cX0_readAloud 75 = .ok (.invokestatic 83, 3) := by decide +kernel
theorem dX0_readAloud_78 : decode cX0_readAloud 78 = .ok (.iadd, 1) := by decide +kernel
theorem dX0_readAloud_79 : decode cX0_readAloud 79 = .ok (.istore_n 3, 1) := by decide +kernel
theorem dX0_readAloud_80 : decode cX0_readAloud 80 = .ok (.iinc 4 1, 3) := by decide +kernel
theorem dX0_readAloud_83 : decode cX0_readAloud 83 = .ok (.goto (-32), 3) := by decide +kernel
theorem dX0_readAloud_86 : decode cX0_readAloud 86 = .ok (.iload_n 3, 1) := by decide +kernel
theorem dX0_readAloud_87 : decode cX0_readAloud 87 = .ok (.ireturn, 1) := by decide +kernel
theorem dX0_shownCells_0 : decode cX0_shownCells 0 = .ok (.iconst 0, 1) := by decide +kernel
theorem dX0_shownCells_1 : decode cX0_shownCells 1 = .ok (.istore_n 2, 1) := by decide +kernel
theorem dX0_shownCells_2 : decode cX0_shownCells 2 = .ok (.iconst 0, 1) := by decide +kernel
theorem dX0_shownCells_3 : decode cX0_shownCells 3 = .ok (.istore_n 3, 1) := by decide +kernel
theorem dX0_shownCells_4 : decode cX0_shownCells 4 = .ok (.iload_n 3, 1) := by decide +kernel
theorem dX0_shownCells_5 : decode cX0_shownCells 5 = .ok (.aload_n 0, 1) := by decide +kernel
theorem dX0_shownCells_6 : decode cX0_shownCells 6 = .ok (.getfield 73, 3) := by decide +kernel
theorem dX0_shownCells_9 : decode cX0_shownCells 9 = .ok (.if_icmp .ge 26, 3) := by decide +kernel
theorem dX0_shownCells_12 : decode cX0_shownCells 12 = .ok (.aload_n 0, 1) := by decide +kernel
theorem dX0_shownCells_13 : decode cX0_shownCells 13 = .ok (.getfield 87, 3) := by decide +kernel
theorem dX0_shownCells_16 : decode cX0_shownCells 16 = .ok (.iload_n 1, 1) := by decide +kernel
theorem dX0_shownCells_17 : decode cX0_shownCells 17 = .ok (.aaload, 1) := by decide +kernel
theorem dX0_shownCells_18 : decode cX0_shownCells 18 = .ok (.getfield 91, 3) := by decide +kernel
theorem dX0_shownCells_21 : decode cX0_shownCells 21 = .ok (.iload_n 3, 1) := by decide +kernel
theorem dX0_shownCells_22 : decode cX0_shownCells 22 = .ok (.baload, 1) := by decide +kernel
theorem dX0_shownCells_23 : decode cX0_shownCells 23 = .ok (.ifCond .ne 6, 3) := by decide +kernel
theorem dX0_shownCells_26 : decode cX0_shownCells 26 = .ok (.iinc 2 1, 3) := by decide +kernel
theorem dX0_shownCells_29 : decode cX0_shownCells 29 = .ok (.iinc 3 1, 3) := by decide +kernel
theorem dX0_shownCells_32 : decode cX0_shownCells 32 = .ok (.goto (-28), 3) := by decide +kernel
theorem dX0_shownCells_35 : decode cX0_shownCells 35 = .ok (.iload_n 2, 1) := by decide +kernel
theorem dX0_shownCells_36 : decode cX0_shownCells 36 = .ok (.ireturn, 1) := by decide +kernel
set_option maxRecDepth 20000 in
theorem ggX0_heightOfCell_X3_isSpanning : GoodIn wsX0_heightOfCell wsX3_isSpanning := goodIn_r _ [10, 11, 12, 13, 14, 15, 16, 17, 18, 19, 20, 21, 22, 23, 24, 25, 26, 27, 28, 29] (by decide +kernel) (by decide +kernel)
set_option maxRecDepth 20000 in
theorem gX0_heightOfCell_X3_isSpanning : GoodIn wsX0_heightOfCell (wsV RX0 97 RX3 yX3_isSpanning wsX3_isSpanning) := goodIn_app (goodIn_of _ (by decide +kernel)) ggX0_heightOfCell_X3_isSpanning
theorem dX0_heightOfCell_0 : decode cX0_heightOfCell 0 = .ok (.aload_n 1, 1) := by decide +kernel
theorem dX0_heightOfCell_1 : decode cX0_heightOfCell 1 = .ok (.getfield 87, 3) := by decide +kernel
theorem dX0_heightOfCell_4 : decode cX0_heightOfCell 4 = .ok (.iload_n 2, 1) := by decide +kernel
theorem dX0_heightOfCell_5 : decode cX0_heightOfCell 5 = .ok (.aaload, 1) := by decide +kernel
theorem dX0_heightOfCell_6 : decode cX0_heightOfCell 6 = .ok (.getfield 91, 3) := by decide +kernel
theorem dX0_heightOfCell_9 : decode cX0_heightOfCell 9 = .ok (.iload_n 3, 1) := by decide +kernel
theorem dX0_heightOfCell_10 : decode cX0_heightOfCell 10 = .ok (.baload, 1) := by decide +kernel
theorem dX0_heightOfCell_11 : decode cX0_heightOfCell 11 = .ok (.ifCond .eq 5, 3) := by decide +kernel
theorem dX0_heightOfCell_14 : decode cX0_heightOfCell 14 = .ok (.iconst 0, 1) := by decide +kernel
theorem dX0_heightOfCell_15 : decode cX0_heightOfCell 15 = .ok (.ireturn, 1) := by decide +kernel
theorem dX0_heightOfCell_16 : decode cX0_heightOfCell 16 = .ok (.aload_n 1, 1) := by decide +kernel
theorem dX0_heightOfCell_17 : decode cX0_heightOfCell 17 = .ok (.getfield 80, 3) := by decide +kernel
theorem dX0_heightOfCell_20 : decode cX0_heightOfCell 20 = .ok (.iload_n 3, 1) := by decide +kernel
theorem dX0_heightOfCell_21 : decode cX0_heightOfCell 21 = .ok (.iaload, 1) := by decide +kernel
theorem dX0_heightOfCell_22 : decode cX0_heightOfCell 22 = .ok (.iconst 1, 1) := by decide +kernel
theorem dX0_heightOfCell_23 : decode cX0_heightOfCell 23 = .ok (.if_icmp .eq 5, 3) := by decide +kernel
theorem dX0_heightOfCell_26 : decode cX0_heightOfCell 26 = .ok (.iconst 1, 1) := by decide +kernel
theorem dX0_heightOfCell_27 : decode cX0_heightOfCell 27 = .ok (.ireturn, 1) := by decide +kernel
theorem dX0_heightOfCell_28 : decode cX0_heightOfCell 28 = .ok (.aload_n 0, 1) := by decide +kernel
theorem dX0_heightOfCell_29 : decode cX0_heightOfCell 29 = .ok (.getfield 9, 3) := by decide +kernel
theorem dX0_heightOfCell_32 : decode cX0_heightOfCell 32 = .ok (.iload_n 3, 1) := by decide +kernel
theorem dX0_heightOfCell_33 : decode cX0_heightOfCell 33 = .ok (.iaload, 1) := by decide +kernel
theorem dX0_heightOfCell_34 : decode cX0_heightOfCell 34 = .ok (.istore 4, 2) := by decide +kernel
theorem dX0_heightOfCell_36 : decode cX0_heightOfCell 36 = .ok (.aload_n 1, 1) := by decide +kernel
theorem dX0_heightOfCell_37 : decode cX0_heightOfCell 37 = .ok (.iload_n 2, 1) := by decide +kernel
theorem dX0_heightOfCell_38 : decode cX0_heightOfCell 38 = .ok (.iload_n 3, 1) := by decide +kernel
theorem dX0_heightOfCell_39 : decode cX0_heightOfCell 39 = .ok (.invokevirtual 97, 3) := by decide +kernel
theorem dX0_heightOfCell_42 : decode cX0_heightOfCell 42 = .ok (.ifCond .eq 18, 3) := by decide +kernel
theorem dX0_heightOfCell_45 : decode cX0_heightOfCell 45 = .ok (.iload 4, 2) := by decide +kernel
theorem dX0_heightOfCell_47 : decode cX0_heightOfCell 47 = .ok (.iconst 1, 1) := by decide +kernel
theorem dX0_heightOfCell_48 : decode cX0_heightOfCell 48 = .ok (.aload_n 0, 1) := by decide +kernel
theorem dX0_heightOfCell_49 : decode cX0_heightOfCell 49 = .ok (.getfield 9, 3) := by decide +kernel
theorem dX0_heightOfCell_52 : decode cX0_heightOfCell 52 = .ok (.iload_n 3, 1) := by decide +kernel
theorem dX0_heightOfCell_53 : decode cX0_heightOfCell 53 = .ok (.iconst 1, 1) := by decide +kernel
theorem dX0_heightOfCell_54 : decode cX0_heightOfCell 54 = .ok (.iadd, 1) := by decide +kernel
theorem dX0_heightOfCell_55 : decode cX0_heightOfCell 55 = .ok (.iaload, 1) := by decide +kernel
theorem dX0_heightOfCell_56 : decode cX0_heightOfCell 56 = .ok (.iadd, 1) := by decide +kernel
theorem dX0_heightOfCell_57 : decode cX0_heightOfCell 57 = .ok (.iadd, 1) := by decide +kernel
theorem dX0_heightOfCell_58 : decode cX0_heightOfCell 58 = .ok (.istore 4, 2) := by decide +kernel
theorem dX0_heightOfCell_60 : decode cX0_heightOfCell 60 = .ok (.iload 4, 2) := by decide +kernel
theorem dX0_heightOfCell_62 : decode cX0_heightOfCell 62 = .ok (.ifCond .gt 5, 3) := by decide +kernel
theorem dX0_heightOfCell_65 : decode cX0_heightOfCell 65 = .ok (.iconst 1, 1) := by decide +kernel
theorem dX0_heightOfCell_66 : decode cX0_heightOfCell 66 = .ok (.ireturn, 1) := by decide +kernel
theorem dX0_heightOfCell_67 : decode cX0_heightOfCell 67 = .ok (.aload_n 1, 1) := by decide +kernel
theorem dX0_heightOfCell_68 : decode cX0_heightOfCell 68 = .ok (.getfield 87, 3) := by decide +kernel
theorem dX0_heightOfCell_71 : decode cX0_heightOfCell 71 = .ok (.iload_n 2, 1) := by decide +kernel
theorem dX0_heightOfCell_72 : decode cX0_heightOfCell 72 = .ok (.aaload, 1) := by decide +kernel
theorem dX0_heightOfCell_73 : decode cX0_heightOfCell 73 = .ok (.getfield 101, 3) := by decide +kernel
theorem dX0_heightOfCell_76 : decode cX0_heightOfCell 76 = .ok (.iload_n 3, 1) := by decide +kernel
theorem dX0_heightOfCell_77 : decode cX0_heightOfCell 77 = .ok (.iaload, 1) := by decide +kernel
theorem dX0_heightOfCell_78 : decode cX0_heightOfCell 78 = .ok (.istore 5, 2) := by decide +kernel
theorem dX0_heightOfCell_80 : decode cX0_heightOfCell 80 = .ok (.iconst 1, 1) := by decide +kernel
theorem dX0_heightOfCell_81 : decode cX0_heightOfCell 81 = .ok (.iload 5, 2) := by decide +kernel
theorem dX0_heightOfCell_83 : decode cX0_heightOfCell 83 = .ok (.iload 4, 2) := by decide +kernel
theorem dX0_heightOfCell_85 : decode cX0_heightOfCell 85 = .ok (.iadd, 1) := by decide +kernel
theorem dX0_heightOfCell_86 : decode cX0_heightOfCell 86 = .ok (.iconst 1, 1) := by decide +kernel
theorem dX0_heightOfCell_87 : decode cX0_heightOfCell 87 = .ok (.isub, 1) := by decide +kernel
theorem dX0_heightOfCell_88 : decode cX0_heightOfCell 88 = .ok (.iload 4, 2) := by decide +kernel
theorem dX0_heightOfCell_90 : decode cX0_heightOfCell 90 = .ok (.idiv, 1) := by decide +kernel
theorem dX0_heightOfCell_91 : decode cX0_heightOfCell 91 = .ok (.invokestatic 104, 3) := by decide +kernel
theorem dX0_heightOfCell_94 : decode cX0_heightOfCell 94 = .ok (.ireturn, 1) := by decide +kernel
set_option maxRecDepth 20000 in
theorem ggX0_isWidthFit_X0_tableWidth : GoodIn wsX0_isWidthFit wsX0_tableWidth := goodIn_r _ [6, 1, 11, 12, 13, 14, 15, 16, 17, 18, 19, 20, 21, 22, 23, 24, 25, 26, 27, 28, 29, 30, 31, 32, 33] (by decide +kernel) (by decide +kernel)
set_option maxRecDepth 20000 in
theorem gX0_isWidthFit_X0_tableWidth : GoodIn wsX0_isWidthFit (wsV RX0 112 RX0 yX0_tableWidth wsX0_tableWidth) := goodIn_app (goodIn_of _ (by decide +kernel)) ggX0_isWidthFit_X0_tableWidth
set_option maxRecDepth 20000 in
theorem ggX0_isWidthFit_X0_mostSpareColumn : GoodIn wsX0_isWidthFit wsX0_mostSpareColumn := goodIn_r _ [10, 1, 11, 12, 13, 14, 15, 16, 17, 18, 19, 20, 21, 22, 23, 24, 25, 26, 27, 28, 29, 30, 31, 32, 33] (by decide +kernel) (by decide +kernel)
set_option maxRecDepth 20000 in
theorem gX0_isWidthFit_X0_mostSpareColumn : GoodIn wsX0_isWidthFit (wsV RX0 116 RX0 yX0_mostSpareColumn wsX0_mostSpareColumn) := goodIn_app (goodIn_of _ (by decide +kernel)) ggX0_isWidthFit_X0_mostSpareColumn
theorem dX0_isWidthFit_0 : decode cX0_isWidthFit 0 = .ok (.aload_n 1, 1) := by decide +kernel
theorem dX0_isWidthFit_1 : decode cX0_isWidthFit 1 = .ok (.getfield 73, 3) := by decide +kernel
theorem dX0_isWidthFit_4 : decode cX0_isWidthFit 4 = .ok (.ifCond .eq 10, 3) := by decide +kernel
theorem dX0_isWidthFit_7 : decode cX0_isWidthFit 7 = .ok (.aload_n 1, 1) := by decide +kernel
theorem dX0_isWidthFit_8 : decode cX0_isWidthFit 8 = .ok (.getfield 64, 3) := by decide +kernel
theorem dX0_isWidthFit_11 : decode cX0_isWidthFit 11 = .ok (.ifCond .ne 5, 3) := by decide +kernel
theorem dX0_isWidthFit_14 : decode cX0_isWidthFit 14 = .ok (.iconst 0, 1) := by decide +kernel
theorem dX0_isWidthFit_15 : decode cX0_isWidthFit 15 = .ok (.ireturn, 1) := by decide +kernel
theorem dX0_isWidthFit_16 : decode cX0_isWidthFit 16 = .ok (.iconst 0, 1) := by decide +kernel
theorem dX0_isWidthFit_17 : decode cX0_isWidthFit 17 = .ok (.istore_n 3, 1) := by decide +kernel
theorem dX0_isWidthFit_18 : decode cX0_isWidthFit 18 = .ok (.iload_n 3, 1) := by decide +kernel
theorem dX0_isWidthFit_19 : decode cX0_isWidthFit 19 = .ok (.aload_n 1, 1) := by decide +kernel
theorem dX0_isWidthFit_20 : decode cX0_isWidthFit 20 = .ok (.getfield 73, 3) := by decide +kernel
theorem dX0_isWidthFit_23 : decode cX0_isWidthFit 23 = .ok (.if_icmp .ge 21, 3) := by decide +kernel
theorem dX0_isWidthFit_26 : decode cX0_isWidthFit 26 = .ok (.aload_n 0, 1) := by decide +kernel
theorem dX0_isWidthFit_27 : decode cX0_isWidthFit 27 = .ok (.getfield 9, 3) := by decide +kernel
theorem dX0_isWidthFit_30 : decode cX0_isWidthFit 30 = .ok (.iload_n 3, 1) := by decide +kernel
theorem dX0_isWidthFit_31 : decode cX0_isWidthFit 31 = .ok (.aload_n 1, 1) := by decide +kernel
theorem dX0_isWidthFit_32 : decode cX0_isWidthFit 32 = .ok (.getfield 109, 3) := by decide +kernel
theorem dX0_isWidthFit_35 : decode cX0_isWidthFit 35 = .ok (.iload_n 3, 1) := by decide +kernel
theorem dX0_isWidthFit_36 : decode cX0_isWidthFit 36 = .ok (.iaload, 1) := by decide +kernel
theorem dX0_isWidthFit_37 : decode cX0_isWidthFit 37 = .ok (.iastore, 1) := by decide +kernel
theorem dX0_isWidthFit_38 : decode cX0_isWidthFit 38 = .ok (.iinc 3 1, 3) := by decide +kernel
theorem dX0_isWidthFit_41 : decode cX0_isWidthFit 41 = .ok (.goto (-23), 3) := by decide +kernel
theorem dX0_isWidthFit_44 : decode cX0_isWidthFit 44 = .ok (.aload_n 0, 1) := by decide +kernel
theorem dX0_isWidthFit_45 : decode cX0_isWidthFit 45 = .ok (.aload_n 1, 1) := by decide +kernel
theorem dX0_isWidthFit_46 : decode cX0_isWidthFit 46 = .ok (.invokevirtual 112, 3) := by decide +kernel
theorem dX0_isWidthFit_49 : decode cX0_isWidthFit 49 = .ok (.iload_n 2, 1) := by decide +kernel
theorem dX0_isWidthFit_50 : decode cX0_isWidthFit 50 = .ok (.isub, 1) := by decide +kernel
theorem dX0_isWidthFit_51 : decode cX0_isWidthFit 51 = .ok (.istore_n 3, 1) := by decide +kernel
theorem dX0_isWidthFit_52 : decode cX0_isWidthFit 52 = .ok (.iload_n 3, 1) := by decide +kernel
theorem dX0_isWidthFit_53 : decode cX0_isWidthFit 53 = .ok (.ifCond .le 35, 3) := by decide +kernel
theorem dX0_isWidthFit_56 : decode cX0_isWidthFit 56 = .ok (.aload_n 0, 1) := by decide +kernel
theorem dX0_isWidthFit_57 : decode cX0_isWidthFit 57 = .ok (.aload_n 1, 1) := by decide +kernel
theorem dX0_isWidthFit_58 : decode cX0_isWidthFit 58 = .ok (.invokevirtual 116, 3) := by decide +kernel
theorem dX0_isWidthFit_61 : decode cX0_isWidthFit 61 = .ok (.istore 4, 2) := by decide +kernel
theorem dX0_isWidthFit_63 : decode cX0_isWidthFit 63 = .ok (.iload 4, 2) := by decide +kernel
theorem dX0_isWidthFit_65 : decode cX0_isWidthFit 65 = .ok (.iconst (-1), 1) := by decide +kernel
theorem dX0_isWidthFit_66 : decode cX0_isWidthFit 66 = .ok (.if_icmp .ne 5, 3) := by decide +kernel
theorem dX0_isWidthFit_69 : decode cX0_isWidthFit 69 = .ok (.iconst 0, 1) := by decide +kernel
theorem dX0_isWidthFit_70 : decode cX0_isWidthFit 70 = .ok (.ireturn, 1) := by decide +kernel
theorem dX0_isWidthFit_71 : decode cX0_isWidthFit 71 = .ok (.aload_n 0, 1) := by decide +kernel
theorem dX0_isWidthFit_72 : decode cX0_isWidthFit 72 = .ok (.getfield 9, 3) := by decide +kernel
theorem dX0_isWidthFit_75 : decode cX0_isWidthFit 75 = .ok (.iload 4, 2) := by decide +kernel
theorem dX0_isWidthFit_77 : decode cX0_isWidthFit 77 = .ok (.dup2, 1) := by decide +kernel
theorem dX0_isWidthFit_78 : decode cX0_isWidthFit 78 = .ok (.iaload, 1) := by decide +kernel
theorem dX0_isWidthFit_79 : decode cX0_isWidthFit 79 = .ok (.iconst 1, 1) := by decide +kernel
theorem dX0_isWidthFit_80 : decode cX0_isWidthFit 80 = .ok (.isub, 1) := by decide +kernel
theorem dX0_isWidthFit_81 : decode cX0_isWidthFit 81 = .ok (.iastore, 1) := by decide +kernel
theorem dX0_isWidthFit_82 : decode cX0_isWidthFit 82 = .ok (.iinc 3 (-1), 3) := by decide +kernel
theorem dX0_isWidthFit_85 : decode cX0_isWidthFit 85 = .ok (.goto (-33), 3) := by decide +kernel
theorem dX0_isWidthFit_88 : decode cX0_isWidthFit 88 = .ok (.iconst 1, 1) := by decide +kernel
theorem dX0_isWidthFit_89 : decode cX0_isWidthFit 89 = .ok (.ireturn, 1) := by decide +kernel
theorem dX0_mostSpareColumn_0 : decode cX0_mostSpareColumn 0 = .ok (.iconst 0, 1) := by decide +kernel
theorem dX0_mostSpareColumn_1 : decode cX0_mostSpareColumn 1 = .ok (.istore_n 2, 1) := by decide +kernel
theorem dX0_mostSpareColumn_2 : decode cX0_mostSpareColumn 2 = .ok (.iconst (-1), 1) := by decide +kernel
theorem dX0_mostSpareColumn_3 : decode cX0_mostSpareColumn 3 = .ok (.istore_n 3, 1) := by decide +kernel
theorem dX0_mostSpareColumn_4 : decode cX0_mostSpareColumn 4 = .ok (.iconst 0, 1) := by decide +kernel
theorem dX0_mostSpareColumn_5 : decode cX0_mostSpareColumn 5 = .ok (.istore 4, 2) := by decide +kernel
theorem dX0_mostSpareColumn_7 : decode cX0_mostSpareColumn 7 = .ok (.iload 4, 2) := by decide +kernel
theorem dX0_mostSpareColumn_9 : decode cX0_mostSpareColumn 9 = .ok (.aload_n 1, 1) := by decide +kernel
theorem dX0_mostSpareColumn_10 : decode cX0_mostSpareColumn 10 = .ok (.getfield 73, 3) := by decide +kernel
theorem dX0_mostSpareColumn_13 : decode cX0_mostSpareColumn 13 = .ok (.if_icmp .ge 38, 3) := by decide +kernel
theorem dX0_mostSpareColumn_16 : decode cX0_mostSpareColumn 16 = .ok (.aload_n 0, 1) := by decide +kernel
theorem dX0_mostSpareColumn_17 : decode cX0_mostSpareColumn 17 = .ok (.getfield 9, 3) := by decide +kernel
theorem dX0_mostSpareColumn_20 : decode cX0_mostSpareColumn 20 = .ok (.iload 4, 2) := by decide +kernel
theorem dX0_mostSpareColumn_22 : decode cX0_mostSpareColumn 22 = .ok (.iaload, 1) := by decide +kernel
theorem dX0_mostSpareColumn_23 : decode cX0_mostSpareColumn 23 = .ok (.aload_n 1, 1) := by decide +kernel
theorem dX0_mostSpareColumn_24 : decode cX0_mostSpareColumn 24 = .ok (.getfield 119, 3) := by decide +kernel
theorem dX0_mostSpareColumn_27 : decode cX0_mostSpareColumn 27 = .ok (.iload 4, 2) := by decide +kernel
theorem dX0_mostSpareColumn_29 : decode cX0_mostSpareColumn 29 = .ok (.iaload, 1) := by decide +kernel
theorem dX0_mostSpareColumn_30 : decode cX0_mostSpareColumn 30 = .ok (.isub, 1) := by decide +kernel
theorem dX0_mostSpareColumn_31 : decode cX0_mostSpareColumn 31 = .ok (.istore 5, 2) := by decide +kernel
theorem dX0_mostSpareColumn_33 : decode cX0_mostSpareColumn 33 = .ok (.iload 5, 2) := by decide +kernel
theorem dX0_mostSpareColumn_35 : decode cX0_mostSpareColumn 35 = .ok (.iload_n 2, 1) := by decide +kernel
theorem dX0_mostSpareColumn_36 : decode cX0_mostSpareColumn 36 = .ok (.if_icmp .le 9, 3) := by decide +kernel
theorem dX0_mostSpareColumn_39 : decode cX0_mostSpareColumn 39 = .ok (.iload 5, 2) := by decide +kernel
theorem dX0_mostSpareColumn_41 : decode cX0_mostSpareColumn 41 = .ok (.istore_n 2, 1) := by decide +kernel
theorem dX0_mostSpareColumn_42 : decode cX0_mostSpareColumn 42 = .ok (.iload 4, 2) := by decide +kernel
theorem dX0_mostSpareColumn_44 : decode cX0_mostSpareColumn 44 = .ok (.istore_n 3, 1) := by decide +kernel
theorem dX0_mostSpareColumn_45 : decode cX0_mostSpareColumn 45 = .ok (.iinc 4 1, 3) := by decide +kernel
theorem dX0_mostSpareColumn_48 : decode cX0_mostSpareColumn 48 = .ok (.goto (-41), 3) := by decide +kernel
theorem dX0_mostSpareColumn_51 : decode cX0_mostSpareColumn 51 = .ok (.iload_n 3, 1) := by decide +kernel
theorem dX0_mostSpareColumn_52 : decode cX0_mostSpareColumn 52 = .ok (.ireturn, 1) := by decide +kernel
set_option maxRecDepth 20000 in
theorem ggX0_areHeightsFit_X0_heightOfCell : GoodIn wsX0_areHeightsFit wsX0_heightOfCell := goodIn_r _ [11, 12, 1, 2, 3, 4, 13, 14, 15, 16, 17, 18, 19, 20, 21, 22, 23, 24, 25, 26, 27, 28, 43, 44, 45, 46, 47, 48, 49, 50, 29, 30, 31, 32, 33, 34, 35, 36, 37, 38, 39, 40, 41, 42] (by decide +kernel) (by decide +kernel)
set_option maxRecDepth 20000 in
theorem gX0_areHeightsFit_X0_heightOfCell : GoodIn wsX0_areHeightsFit (wsV RX0 122 RX0 yX0_heightOfCell wsX0_heightOfCell) := goodIn_app (goodIn_of _ (by decide +kernel)) ggX0_areHeightsFit_X0_heightOfCell
theorem dX0_areHeightsFit_0 : decode cX0_areHeightsFit 0 = .ok (.iconst 0, 1) := by decide +kernel
theorem dX0_areHeightsFit_1 : decode cX0_areHeightsFit 1 = .ok (.istore_n 2, 1) := by decide +kernel
theorem dX0_areHeightsFit_2 : decode cX0_areHeightsFit 2 = .ok (.iload_n 2, 1) := by decide +kernel
theorem dX0_areHeightsFit_3 : decode cX0_areHeightsFit 3 = .ok (.aload_n 1, 1) := by decide +kernel
theorem dX0_areHeightsFit_4 : decode cX0_areHeightsFit 4 = .ok (.getfield 64, 3) := by decide +kernel
theorem dX0_areHeightsFit_7 : decode cX0_areHeightsFit 7 = .ok (.if_icmp .ge 59, 3) := by decide +kernel
theorem dX0_areHeightsFit_10 : decode cX0_areHeightsFit 10 = .ok (.iconst 0, 1) := by decide +kernel
theorem dX0_areHeightsFit_11 : decode cX0_areHeightsFit 11 = .ok (.istore_n 3, 1) := by decide +kernel
theorem dX0_areHeightsFit_12 : decode cX0_areHeightsFit 12 = .ok (.iconst 0, 1) := by decide +kernel
theorem dX0_areHeightsFit_13 : decode cX0_areHeightsFit 13 = .ok (.istore 4, 2) := by decide +kernel
theorem dX0_areHeightsFit_15 : decode cX0_areHeightsFit 15 = .ok (.iload 4, 2) := by decide +kernel
theorem dX0_areHeightsFit_17 : decode cX0_areHeightsFit 17 = .ok (.aload_n 1, 1) := by decide +kernel
theorem dX0_areHeightsFit_18 : decode cX0_areHeightsFit 18 = .ok (.getfield 73, 3) := by decide +kernel
theorem dX0_areHeightsFit_21 : decode cX0_areHeightsFit 21 = .ok (.if_icmp .ge 22, 3) := by decide +kernel
theorem dX0_areHeightsFit_24 : decode cX0_areHeightsFit 24 = .ok (.iload_n 3, 1) := by decide +kernel
theorem dX0_areHeightsFit_25 : decode cX0_areHeightsFit 25 = .ok (.aload_n 0, 1) := by decide +kernel
theorem dX0_areHeightsFit_26 : decode cX0_areHeightsFit 26 = .ok (.aload_n 1, 1) := by decide +kernel
theorem dX0_areHeightsFit_27 : decode cX0_areHeightsFit 27 = .ok (.iload_n 2, 1) := by decide +kernel
theorem dX0_areHeightsFit_28 : decode cX0_areHeightsFit 28 = .ok (.iload 4, 2) := by decide +kernel
theorem dX0_areHeightsFit_30 : decode cX0_areHeightsFit 30 = .ok (.invokevirtual 122, 3) := by decide +kernel
theorem dX0_areHeightsFit_33 : decode cX0_areHeightsFit 33 = .ok (.invokestatic 104, 3) := by decide +kernel
theorem dX0_areHeightsFit_36 : decode cX0_areHeightsFit 36 = .ok (.istore_n 3, 1) := by decide +kernel
theorem dX0_areHeightsFit_37 : decode cX0_areHeightsFit 37 = .ok (.iinc 4 1, 3) := by decide +kernel
theorem dX0_areHeightsFit_40 : decode cX0_areHeightsFit 40 = .ok (.goto (-25), 3) := by decide +kernel
theorem dX0_areHeightsFit_43 : decode cX0_areHeightsFit 43 = .ok (.iload_n 3, 1) := by decide +kernel
theorem dX0_areHeightsFit_44 : decode cX0_areHeightsFit 44 = .ok (.aload_n 0, 1) := by decide +kernel
theorem dX0_areHeightsFit_45 : decode cX0_areHeightsFit 45 = .ok (.getfield 39, 3) := by decide +kernel
theorem dX0_areHeightsFit_48 : decode cX0_areHeightsFit 48 = .ok (.if_icmp .le 5, 3) := by decide +kernel
theorem dX0_areHeightsFit_51 : decode cX0_areHeightsFit 51 = .ok (.iconst 0, 1) := by decide +kernel
theorem dX0_areHeightsFit_52 : decode cX0_areHeightsFit 52 = .ok (.ireturn, 1) := by decide +kernel
theorem dX0_areHeightsFit_53 : decode cX0_areHeightsFit 53 = .ok (.aload_n 0, 1) := by decide +kernel
theorem dX0_areHeightsFit_54 : decode cX0_areHeightsFit 54 = .ok (.getfield 15, 3) := by decide +kernel
theorem dX0_areHeightsFit_57 : decode cX0_areHeightsFit 57 = .ok (.iload_n 2, 1) := by decide +kernel
theorem dX0_areHeightsFit_58 : decode cX0_areHeightsFit 58 = .ok (.iload_n 3, 1) := by decide +kernel
theorem dX0_areHeightsFit_59 : decode cX0_areHeightsFit 59 = .ok (.iastore, 1) := by decide +kernel
theorem dX0_areHeightsFit_60 : decode cX0_areHeightsFit 60 = .ok (.iinc 2 1, 3) := by decide +kernel
theorem dX0_areHeightsFit_63 : decode cX0_areHeightsFit 63 = .ok (.goto (-61), 3) := by decide +kernel
theorem dX0_areHeightsFit_66 : decode cX0_areHeightsFit 66 = .ok (.iconst 1, 1) := by decide +kernel
theorem dX0_areHeightsFit_67 : decode cX0_areHeightsFit 67 = .ok (.ireturn, 1) := by decide +kernel
set_option maxRecDepth 20000 in
theorem ggX0_fillPage_X0_putWaitingNotes : GoodIn wsX0_fillPage wsX0_putWaitingNotes := goodIn_r _ [13, 7, 6, 4, 14, 3, 29, 30, 31, 32, 33, 34, 35, 36, 37, 38, 39, 40, 41, 42, 43, 44, 45, 46, 47, 48, 49, 50, 51, 52, 53, 54, 55, 56, 57, 58, 59] (by decide +kernel) (by decide +kernel)
set_option maxRecDepth 20000 in
theorem gX0_fillPage_X0_putWaitingNotes : GoodIn wsX0_fillPage (wsV RX0 126 RX0 yX0_putWaitingNotes wsX0_putWaitingNotes) := goodIn_app (goodIn_of _ (by decide +kernel)) ggX0_fillPage_X0_putWaitingNotes
set_option maxRecDepth 20000 in
theorem ggX0_fillPage_X0_hasRoomForNextRow : GoodIn wsX0_fillPage wsX0_hasRoomForNextRow := goodIn_r _ [18, 19, 6, 4, 2, 5, 20, 21, 22, 12, 23, 29, 30, 31, 32, 33, 34, 35, 36, 37, 38, 39, 40, 41, 42, 43, 44, 45, 46, 47, 48, 49, 50, 51, 52, 53, 54, 55, 56, 57, 58, 59] (by decide +kernel) (by decide +kernel)
set_option maxRecDepth 20000 in
theorem gX0_fillPage_X0_hasRoomForNextRow : GoodIn wsX0_fillPage (wsV RX0 129 RX0 yX0_hasRoomForNextRow wsX0_hasRoomForNextRow) := goodIn_app (goodIn_of _ (by decide +kernel)) ggX0_fillPage_X0_hasRoomForNextRow
set_option maxRecDepth 20000 in
theorem ggX0_fillPage_X0_putNextRow : GoodIn wsX0_fillPage wsX0_putNextRow := goodIn_r _ [27, 2, 1, 6, 28, 4, 19, 29, 30, 31, 32, 33, 34, 35, 36, 37, 38, 39, 40, 41, 42] (by decide +kernel) (by decide +kernel)
set_option maxRecDepth 20000 in
theorem gX0_fillPage_X0_putNextRow : GoodIn wsX0_fillPage (wsV RX0 132 RX0 yX0_putNextRow wsX0_putNextRow) := goodIn_app (goodIn_of _ (by decide +kernel)) ggX0_fillPage_X0_putNextRow
theorem dX0_fillPage_0 : decode cX0_fillPage 0 = .ok (.aload_n 0, 1) := by decide +kernel
theorem dX0_fillPage_1 : decode cX0_fillPage 1 = .ok (.getfield 24, 3) := by decide +kernel
theorem dX0_fillPage_4 : decode cX0_fillPage 4 = .ok (.iload_n 2, 1) := by decide +kernel
theorem dX0_fillPage_5 : decode cX0_fillPage 5 = .ok (.iconst (-1), 1) := by decide +kernel
theorem dX0_fillPage_6 : decode cX0_fillPage 6 = .ok (.iastore, 1) := by decide +kernel
theorem dX0_fillPage_7 : decode cX0_fillPage 7 = .ok (.aload_n 0, 1) := by decide +kernel
theorem dX0_fillPage_8 : decode cX0_fillPage 8 = .ok (.getfield 27, 3) := by decide +kernel
theorem dX0_fillPage_11 : decode cX0_fillPage 11 = .ok (.iload_n 2, 1) := by decide +kernel
theorem dX0_fillPage_12 : decode cX0_fillPage 12 = .ok (.iconst 0, 1) := by decide +kernel
theorem dX0_fillPage_13 : decode cX0_fillPage 13 = .ok (.iastore, 1) := by decide +kernel
theorem dX0_fillPage_14 : decode cX0_fillPage 14 = .ok (.aload_n 0, 1) := by decide +kernel
theorem dX0_fillPage_15 : decode cX0_fillPage 15 = .ok (.getfield 30, 3) := by decide +kernel
theorem dX0_fillPage_18 : decode cX0_fillPage 18 = .ok (.iload_n 2, 1) := by decide +kernel
theorem dX0_fillPage_19 : decode cX0_fillPage 19 = .ok (.iconst 0, 1) := by decide +kernel
theorem dX0_fillPage_20 : decode cX0_fillPage 20 = .ok (.iastore, 1) := by decide +kernel
theorem dX0_fillPage_21 : decode cX0_fillPage 21 = .ok (.aload_n 0, 1) := by decide +kernel
theorem dX0_fillPage_22 : decode cX0_fillPage 22 = .ok (.getfield 33, 3) := by decide +kernel
theorem dX0_fillPage_25 : decode cX0_fillPage 25 = .ok (.iload_n 2, 1) := by decide +kernel
theorem dX0_fillPage_26 : decode cX0_fillPage 26 = .ok (.aload_n 0, 1) := by decide +kernel
theorem dX0_fillPage_27 : decode cX0_fillPage 27 = .ok (.getfield 39, 3) := by decide +kernel
theorem dX0_fillPage_30 : decode cX0_fillPage 30 = .ok (.iastore, 1) := by decide +kernel
theorem dX0_fillPage_31 : decode cX0_fillPage 31 = .ok (.aload_n 0, 1) := by decide +kernel
theorem dX0_fillPage_32 : decode cX0_fillPage 32 = .ok (.aload_n 1, 1) := by decide +kernel
theorem dX0_fillPage_33 : decode cX0_fillPage 33 = .ok (.iload_n 2, 1) := by decide +kernel
theorem dX0_fillPage_34 : decode cX0_fillPage 34 = .ok (.invokevirtual 126, 3) := by decide +kernel
theorem dX0_fillPage_37 : decode cX0_fillPage 37 = .ok (.aload_n 0, 1) := by decide +kernel
theorem dX0_fillPage_38 : decode cX0_fillPage 38 = .ok (.getfield 58, 3) := by decide +kernel
theorem dX0_fillPage_41 : decode cX0_fillPage 41 = .ok (.aload_n 1, 1) := by decide +kernel
theorem dX0_fillPage_42 : decode cX0_fillPage 42 = .ok (.getfield 64, 3) := by decide +kernel
theorem dX0_fillPage_45 : decode cX0_fillPage 45 = .ok (.if_icmp .ge 57, 3) := by decide +kernel
theorem dX0_fillPage_48 : decode cX0_fillPage 48 = .ok (.aload_n 0, 1) := by decide +kernel
theorem dX0_fillPage_49 : decode cX0_fillPage 49 = .ok (.aload_n 1, 1) := by decide +kernel
theorem dX0_fillPage_50 : decode cX0_fillPage 50 = .ok (.iload_n 2, 1) := by decide +kernel
theorem dX0_fillPage_51 : decode cX0_fillPage 51 = .ok (.invokevirtual 129, 3) := by decide +kernel
theorem dX0_fillPage_54 : decode cX0_fillPage 54 = .ok (.ifCond .eq 48, 3) := by decide +kernel
theorem dX0_fillPage_57 : decode cX0_fillPage 57 = .ok (.aload_n 0, 1) := by decide +kernel
theorem dX0_fillPage_58 : decode cX0_fillPage 58 = .ok (.getfield 61, 3) := by decide +kernel
theorem dX0_fillPage_61 : decode cX0_fillPage 61 = .ok (.aload_n 0, 1) := by decide +kernel
theorem dX0_fillPage_62 : decode cX0_fillPage 62 = .ok (.getfield 58, 3) := by decide +kernel
theorem dX0_fillPage_65 : decode cX0_fillPage 65 = .ok (.if_icmp .ge 7, 3) := by decide +kernel
theorem dX0_fillPage_68 : decode cX0_fillPage 68 = .ok (.iconst 1, 1) := by decide +kernel
theorem dX0_fillPage_69 : decode cX0_fillPage 69 = .ok (.goto 4, 3) := by decide +kernel
theorem dX0_fillPage_72 : decode cX0_fillPage 72 = .ok (.iconst 0, 1) := by decide +kernel
theorem dX0_fillPage_73 : decode cX0_fillPage 73 = .ok (.istore_n 3, 1) := by decide +kernel
theorem dX0_fillPage_74 : decode cX0_fillPage 74 = .ok (.aload_n 0, 1) := by decide +kernel
theorem dX0_fillPage_75 : decode cX0_fillPage 75 = .ok (.iload_n 2, 1) := by decide +kernel
theorem dX0_fillPage_76 : decode cX0_fillPage 76 = .ok (.invokevirtual 132, 3) := by decide +kernel
theorem dX0_fillPage_79 : decode cX0_fillPage 79 = .ok (.aload_n 0, 1) := by decide +kernel
theorem dX0_fillPage_80 : decode cX0_fillPage 80 = .ok (.dup, 1) := by decide +kernel
theorem dX0_fillPage_81 : decode cX0_fillPage 81 = .ok (.getfield 58, 3) := by decide +kernel
theorem dX0_fillPage_84 : decode cX0_fillPage 84 = .ok (.iconst 1, 1) := by decide +kernel
theorem dX0_fillPage_85 : decode cX0_fillPage 85 = .ok (.iadd, 1) := by decide +kernel
theorem dX0_fillPage_86 : decode cX0_fillPage 86 = .ok (.putfield 58, 3) := by decide +kernel
theorem dX0_fillPage_89 : decode cX0_fillPage 89 = .ok (.iload_n 3, 1) := by decide +kernel
theorem dX0_fillPage_90 : decode cX0_fillPage 90 = .ok (.ifCond .ne 9, 3) := by decide +kernel
theorem dX0_fillPage_93 : decode cX0_fillPage 93 = .ok (.aload_n 0, 1) := by decide +kernel
theorem dX0_fillPage_94 : decode cX0_fillPage 94 = .ok (.aload_n 1, 1) := by decide +kernel
theorem dX0_fillPage_95 : decode cX0_fillPage 95 = .ok (.iload_n 2, 1) := by decide +kernel
theorem dX0_fillPage_96 : decode cX0_fillPage 96 = .ok (.invokevirtual 126, 3) := by decide +kernel
theorem dX0_fillPage_99 : decode cX0_fillPage 99 = .ok (.goto (-62), 3) := by decide +kernel
theorem dX0_fillPage_102 : decode cX0_fillPage 102 = .ok (.aload_n 0, 1) := by decide +kernel
theorem dX0_fillPage_103 : decode cX0_fillPage 103 = .ok (.getfield 36, 3) := by decide +kernel
theorem dX0_fillPage_106 : decode cX0_fillPage 106 = .ok (.iload_n 2, 1) := by decide +kernel
theorem dX0_fillPage_107 : decode cX0_fillPage 107 = .ok (.aload_n 0, 1) := by decide +kernel
theorem dX0_fillPage_108 : decode cX0_fillPage 108 = .ok (.getfield 58, 3) := by decide +kernel
theorem dX0_fillPage_111 : decode cX0_fillPage 111 = .ok (.iconst 1, 1) := by decide +kernel
theorem dX0_fillPage_112 : decode cX0_fillPage 112 = .ok (.isub, 1) := by decide +kernel
theorem dX0_fillPage_113 : decode cX0_fillPage 113 = .ok (.iastore, 1) := by decide +kernel
theorem dX0_fillPage_114 : decode cX0_fillPage 114 = .ok (.return_, 1) := by decide +kernel
theorem dX0_putWaitingNotes_0 : decode cX0_putWaitingNotes 0 = .ok (.aload_n 0, 1) := by decide +kernel
theorem dX0_putWaitingNotes_1 : decode cX0_putWaitingNotes 1 = .ok (.getfield 61, 3) := by decide +kernel
theorem dX0_putWaitingNotes_4 : decode cX0_putWaitingNotes 4 = .ok (.aload_n 0, 1) := by decide +kernel
theorem dX0_putWaitingNotes_5 : decode cX0_putWaitingNotes 5 = .ok (.getfield 58, 3) := by decide +kernel
theorem dX0_putWaitingNotes_8 : decode cX0_putWaitingNotes 8 = .ok (.if_icmp .ge 94, 3) := by decide +kernel
theorem dX0_putWaitingNotes_11 : decode cX0_putWaitingNotes 11 = .ok (.aload_n 1, 1) := by decide +kernel
theorem dX0_putWaitingNotes_12 : decode cX0_putWaitingNotes 12 = .ok (.getfield 87, 3) := by decide +kernel
theorem dX0_putWaitingNotes_15 : decode cX0_putWaitingNotes 15 = .ok (.aload_n 0, 1) := by decide +kernel
theorem dX0_putWaitingNotes_16 : decode cX0_putWaitingNotes 16 = .ok (.getfield 61, 3) := by decide +kernel
theorem dX0_putWaitingNotes_19 : decode cX0_putWaitingNotes 19 = .ok (.aaload, 1) := by decide +kernel
theorem dX0_putWaitingNotes_20 : decode cX0_putWaitingNotes 20 = .ok (.getfield 136, 3) := by decide +kernel
theorem dX0_putWaitingNotes_23 : decode cX0_putWaitingNotes 23 = .ok (.aload_n 0, 1) := by decide +kernel
theorem dX0_putWaitingNotes_24 : decode cX0_putWaitingNotes 24 = .ok (.getfield 33, 3) := by decide +kernel
theorem dX0_putWaitingNotes_27 : decode cX0_putWaitingNotes 27 = .ok (.iload_n 2, 1) := by decide +kernel
theorem dX0_putWaitingNotes_28 : decode cX0_putWaitingNotes 28 = .ok (.iaload, 1) := by decide +kernel
theorem dX0_putWaitingNotes_29 : decode cX0_putWaitingNotes 29 = .ok (.if_icmp .gt 73, 3) := by decide +kernel
theorem dX0_putWaitingNotes_32 : decode cX0_putWaitingNotes 32 = .ok (.aload_n 1, 1) := by decide +kernel
theorem dX0_putWaitingNotes_33 : decode cX0_putWaitingNotes 33 = .ok (.getfield 87, 3) := by decide +kernel
theorem dX0_putWaitingNotes_36 : decode cX0_putWaitingNotes 36 = .ok (.aload_n 0, 1) := by decide +kernel
theorem dX0_putWaitingNotes_37 : decode cX0_putWaitingNotes 37 = .ok (.getfield 61, 3) := by decide +kernel
theorem dX0_putWaitingNotes_40 : decode cX0_putWaitingNotes 40 = .ok (.aaload, 1) := by decide +kernel
theorem dX0_putWaitingNotes_41 : decode cX0_putWaitingNotes 41 = .ok (.getfield 136, 3) := by decide +kernel
theorem dX0_putWaitingNotes_44 : decode cX0_putWaitingNotes 44 = .ok (.istore_n 3, 1) := by decide +kernel
theorem dX0_putWaitingNotes_45 : decode cX0_putWaitingNotes 45 = .ok (.aload_n 0, 1) := by decide +kernel
theorem dX0_putWaitingNotes_46 : decode cX0_putWaitingNotes 46 = .ok (.getfield 21, 3) := by decide +kernel
theorem dX0_putWaitingNotes_49 : decode cX0_putWaitingNotes 49 = .ok (.aload_n 0, 1) := by decide +kernel
theorem dX0_putWaitingNotes_50 : decode cX0_putWaitingNotes 50 = .ok (.getfield 61, 3) := by decide +kernel
theorem dX0_putWaitingNotes_53 : decode cX0_putWaitingNotes 53 = .ok (.iconst (-1), 1) := by decide +kernel
theorem dX0_putWaitingNotes_54 : decode cX0_putWaitingNotes 54 = .ok (.iastore, 1) := by decide +kernel
theorem dX0_putWaitingNotes_55 : decode cX0_putWaitingNotes 55 = .ok (.iload_n 3, 1) := by decide +kernel
theorem dX0_putWaitingNotes_56 : decode cX0_putWaitingNotes 56 = .ok (.ifCond .le 33, 3) := by decide +kernel
theorem dX0_putWaitingNotes_59 : decode cX0_putWaitingNotes 59 = .ok (.aload_n 0, 1) := by decide +kernel
theorem dX0_putWaitingNotes_60 : decode cX0_putWaitingNotes 60 = .ok (.getfield 21, 3) := by decide +kernel
theorem dX0_putWaitingNotes_63 : decode cX0_putWaitingNotes 63 = .ok (.aload_n 0, 1) := by decide +kernel
theorem dX0_putWaitingNotes_64 : decode cX0_putWaitingNotes 64 = .ok (.getfield 61, 3) := by decide +kernel
theorem dX0_putWaitingNotes_67 : decode cX0_putWaitingNotes 67 = .ok (.iload_n 2, 1) := by decide +kernel
theorem dX0_putWaitingNotes_68 : decode cX0_putWaitingNotes 68 = .ok (.iastore, 1) := by decide +kernel
theorem dX0_putWaitingNotes_69 : decode cX0_putWaitingNotes 69 = .ok (.aload_n 0, 1) := by decide +kernel
theorem dX0_putWaitingNotes_70 : decode cX0_putWaitingNotes 70 = .ok (.getfield 30, 3) := by decide +kernel
theorem dX0_putWaitingNotes_73 : decode cX0_putWaitingNotes 73 = .ok (.iload_n 2, 1) := by decide +kernel
theorem dX0_putWaitingNotes_74 : decode cX0_putWaitingNotes 74 = .ok (.dup2, 1) := by decide +kernel
theorem dX0_putWaitingNotes_75 : decode cX0_putWaitingNotes 75 = .ok (.iaload, 1) := by decide +kernel
theorem dX0_putWaitingNotes_76 : decode cX0_putWaitingNotes 76 = .ok (.iconst 1, 1) := by decide +kernel
theorem dX0_putWaitingNotes_77 : decode cX0_putWaitingNotes 77 = .ok (.iadd, 1) := by decide +kernel
theorem dX0_putWaitingNotes_78 : decode cX0_putWaitingNotes 78 = .ok (.iastore, 1) := by decide +kernel
theorem dX0_putWaitingNotes_79 : decode cX0_putWaitingNotes 79 = .ok (.aload_n 0, 1) := by decide +kernel
theorem dX0_putWaitingNotes_80 : decode cX0_putWaitingNotes 80 = .ok (.getfield 33, 3) := by decide +kernel
theorem dX0_putWaitingNotes_83 : decode cX0_putWaitingNotes 83 = .ok (.iload_n 2, 1) := by decide +kernel
theorem dX0_putWaitingNotes_84 : decode cX0_putWaitingNotes 84 = .ok (.dup2, 1) := by decide +kernel
theorem dX0_putWaitingNotes_85 : decode cX0_putWaitingNotes 85 = .ok (.iaload, 1) := by decide +kernel
theorem dX0_putWaitingNotes_86 : decode cX0_putWaitingNotes 86 = .ok (.iload_n 3, 1) := by decide +kernel
theorem dX0_putWaitingNotes_87 : decode cX0_putWaitingNotes 87 = .ok (.isub, 1) := by decide +kernel
theorem dX0_putWaitingNotes_88 : decode cX0_putWaitingNotes 88 = .ok (.iastore, 1) := by decide +kernel
theorem dX0_putWaitingNotes_89 : decode cX0_putWaitingNotes 89 = .ok (.aload_n 0, 1) := by decide +kernel
theorem dX0_putWaitingNotes_90 : decode cX0_putWaitingNotes 90 = .ok (.dup, 1) := by decide +kernel
theorem dX0_putWaitingNotes_91 : decode cX0_putWaitingNotes 91 = .ok (.getfield 61, 3) := by decide +kernel
theorem dX0_putWaitingNotes_94 : decode cX0_putWaitingNotes 94 = .ok (.iconst 1, 1) := by decide +kernel
theorem dX0_putWaitingNotes_95 : decode cX0_putWaitingNotes 95 = .ok (.iadd, 1) := by decide +kernel
theorem dX0_putWaitingNotes_96 : decode cX0_putWaitingNotes 96 = .ok (.putfield 61, 3) := by decide +kernel
theorem dX0_putWaitingNotes_99 : decode cX0_putWaitingNotes 99 = .ok (.goto (-99), 3) := by decide +kernel
theorem dX0_putWaitingNotes_102 : decode cX0_putWaitingNotes 102 = .ok (.return_, 1) := by decide +kernel
set_option maxRecDepth 20000 in
theorem ggX0_hasRoomForNextRow_X0_heightOfGroup : GoodIn wsX0_hasRoomForNextRow wsX0_heightOfGroup := goodIn_r _ [10, 1, 11, 12, 13, 14, 15, 16, 17, 18, 19, 20, 21, 22, 23, 24, 25, 26, 27, 28, 29, 30, 31, 32, 33, 34, 35, 36, 37, 38, 39, 40, 41] (by decide +kernel) (by decide +kernel)
set_option maxRecDepth 20000 in
theorem gX0_hasRoomForNextRow_X0_heightOfGroup : GoodIn wsX0_hasRoomForNextRow (wsV RX0 142 RX0 yX0_heightOfGroup wsX0_heightOfGroup) := goodIn_app (goodIn_of _ (by decide +kernel)) ggX0_hasRoomForNextRow_X0_heightOfGroup
theorem dX0_hasRoomForNextRow_0 : decode cX0_hasRoomForNextRow 0 = .ok (.aload_n 0, 1) := by decide +kernel
theorem dX0_hasRoomForNextRow_1 : decode cX0_hasRoomForNextRow 1 = .ok (.getfield 15, 3) := by decide +kernel
theorem dX0_hasRoomForNextRow_4 : decode cX0_hasRoomForNextRow 4 = .ok (.aload_n 0, 1) := by decide +kernel
theorem dX0_hasRoomForNextRow_5 : decode cX0_hasRoomForNextRow 5 = .ok (.getfield 58, 3) := by decide +kernel
theorem dX0_hasRoomForNextRow_8 : decode cX0_hasRoomForNextRow 8 = .ok (.iaload, 1) := by decide +kernel
theorem dX0_hasRoomForNextRow_9 : decode cX0_hasRoomForNextRow 9 = .ok (.aload_n 0, 1) := by decide +kernel
theorem dX0_hasRoomForNextRow_10 : decode cX0_hasRoomForNextRow 10 = .ok (.getfield 33, 3) := by decide +kernel
theorem dX0_hasRoomForNextRow_13 : decode cX0_hasRoomForNextRow 13 = .ok (.iload_n 2, 1) := by decide +kernel
theorem dX0_hasRoomForNextRow_14 : decode cX0_hasRoomForNextRow 14 = .ok (.iaload, 1) := by decide +kernel
theorem dX0_hasRoomForNextRow_15 : decode cX0_hasRoomForNextRow 15 = .ok (.if_icmp .le 5, 3) := by decide +kernel
theorem dX0_hasRoomForNextRow_18 : decode cX0_hasRoomForNextRow 18 = .ok (.iconst 0, 1) := by decide +kernel
theorem dX0_hasRoomForNextRow_19 : decode cX0_hasRoomForNextRow 19 = .ok (.ireturn, 1) := by decide +kernel
theorem dX0_hasRoomForNextRow_20 : decode cX0_hasRoomForNextRow 20 = .ok (.aload_n 0, 1) := by decide +kernel
theorem dX0_hasRoomForNextRow_21 : decode cX0_hasRoomForNextRow 21 = .ok (.getfield 58, 3) := by decide +kernel
theorem dX0_hasRoomForNextRow_24 : decode cX0_hasRoomForNextRow 24 = .ok (.ifCond .le 24, 3) := by decide +kernel
theorem dX0_hasRoomForNextRow_27 : decode cX0_hasRoomForNextRow 27 = .ok (.aload_n 1, 1) := by decide +kernel
theorem dX0_hasRoomForNextRow_28 : decode cX0_hasRoomForNextRow 28 = .ok (.getfield 87, 3) := by decide +kernel
theorem dX0_hasRoomForNextRow_31 : decode cX0_hasRoomForNextRow 31 = .ok (.aload_n 0, 1) := by decide +kernel
theorem dX0_hasRoomForNextRow_32 : decode cX0_hasRoomForNextRow 32 = .ok (.getfield 58, 3) := by decide +kernel
theorem dX0_hasRoomForNextRow_35 : decode cX0_hasRoomForNextRow 35 = .ok (.iconst 1, 1) := by decide +kernel
theorem dX0_hasRoomForNextRow_36 : decode cX0_hasRoomForNextRow 36 = .ok (.isub, 1) := by decide +kernel
theorem dX0_hasRoomForNextRow_37 : decode cX0_hasRoomForNextRow 37 = .ok (.aaload, 1) := by decide +kernel
theorem dX0_hasRoomForNextRow_38 : decode cX0_hasRoomForNextRow 38 = .ok (.getfield 139, 3) := by decide +kernel
theorem dX0_hasRoomForNextRow_41 : decode cX0_hasRoomForNextRow 41 = .ok (.ifCond .eq 7, 3) := by decide +kernel
theorem dX0_hasRoomForNextRow_44 : decode cX0_hasRoomForNextRow 44 = .ok (.iconst 1, 1) := by decide +kernel
theorem dX0_hasRoomForNextRow_45 : decode cX0_hasRoomForNextRow 45 = .ok (.goto 4, 3) := by decide +kernel
theorem dX0_hasRoomForNextRow_48 : decode cX0_hasRoomForNextRow 48 = .ok (.iconst 0, 1) := by decide +kernel
theorem dX0_hasRoomForNextRow_49 : decode cX0_hasRoomForNextRow 49 = .ok (.istore_n 3, 1) := by decide +kernel
theorem dX0_hasRoomForNextRow_50 : decode cX0_hasRoomForNextRow 50 = .ok (.aload_n 0, 1) := by decide +kernel
theorem dX0_hasRoomForNextRow_51 : decode cX0_hasRoomForNextRow 51 = .ok (.getfield 27, 3) := by decide +kernel
theorem dX0_hasRoomForNextRow_54 : decode cX0_hasRoomForNextRow 54 = .ok (.iload_n 2, 1) := by decide +kernel
theorem dX0_hasRoomForNextRow_55 : decode cX0_hasRoomForNextRow 55 = .ok (.iaload, 1) := by decide +kernel
theorem dX0_hasRoomForNextRow_56 : decode cX0_hasRoomForNextRow 56 = .ok (.ifCond .eq 7, 3) := by decide +kernel
theorem dX0_hasRoomForNextRow_59 : decode cX0_hasRoomForNextRow 59 = .ok (.iload_n 3, 1) := by decide +kernel
theorem dX0_hasRoomForNextRow_60 : decode cX0_hasRoomForNextRow 60 = .ok (.ifCond .eq 5, 3) := by decide +kernel
theorem dX0_hasRoomForNextRow_63 : decode cX0_hasRoomForNextRow 63 = .ok (.iconst 1, 1) := by decide +kernel
theorem dX0_hasRoomForNextRow_64 : decode cX0_hasRoomForNextRow 64 = .ok (.ireturn, 1) := by decide +kernel
theorem dX0_hasRoomForNextRow_65 : decode cX0_hasRoomForNextRow 65 = .ok (.aload_n 0, 1) := by decide +kernel
theorem dX0_hasRoomForNextRow_66 : decode cX0_hasRoomForNextRow 66 = .ok (.aload_n 1, 1) := by decide +kernel
theorem dX0_hasRoomForNextRow_67 : decode cX0_hasRoomForNextRow 67 = .ok (.aload_n 0, 1) := by decide +kernel
theorem dX0_hasRoomForNextRow_68 : decode cX0_hasRoomForNextRow 68 = .ok (.getfield 58, 3) := by decide +kernel
theorem dX0_hasRoomForNextRow_71 : decode cX0_hasRoomForNextRow 71 = .ok (.invokevirtual 142, 3) := by decide +kernel
theorem dX0_hasRoomForNextRow_74 : decode cX0_hasRoomForNextRow 74 = .ok (.istore 4, 2) := by decide +kernel
theorem dX0_hasRoomForNextRow_76 : decode cX0_hasRoomForNextRow 76 = .ok (.iload 4, 2) := by decide +kernel
theorem dX0_hasRoomForNextRow_78 : decode cX0_hasRoomForNextRow 78 = .ok (.aload_n 0, 1) := by decide +kernel
theorem dX0_hasRoomForNextRow_79 : decode cX0_hasRoomForNextRow 79 = .ok (.getfield 33, 3) := by decide +kernel
theorem dX0_hasRoomForNextRow_82 : decode cX0_hasRoomForNextRow 82 = .ok (.iload_n 2, 1) := by decide +kernel
theorem dX0_hasRoomForNextRow_83 : decode cX0_hasRoomForNextRow 83 = .ok (.iaload, 1) := by decide +kernel
theorem dX0_hasRoomForNextRow_84 : decode cX0_hasRoomForNextRow 84 = .ok (.if_icmp .le 12, 3) := by decide +kernel
theorem dX0_hasRoomForNextRow_87 : decode cX0_hasRoomForNextRow 87 = .ok (.iload 4, 2) := by decide +kernel
theorem dX0_hasRoomForNextRow_89 : decode cX0_hasRoomForNextRow 89 = .ok (.aload_n 0, 1) := by decide +kernel
theorem dX0_hasRoomForNextRow_90 : decode cX0_hasRoomForNextRow 90 = .ok (.getfield 39, 3) := by decide +kernel
theorem dX0_hasRoomForNextRow_93 : decode cX0_hasRoomForNextRow 93 = .ok (.if_icmp .le 7, 3) := by decide +kernel
theorem dX0_hasRoomForNextRow_96 : decode cX0_hasRoomForNextRow 96 = .ok (.iconst 1, 1) := by decide +kernel
theorem dX0_hasRoomForNextRow_97 : decode cX0_hasRoomForNextRow 97 = .ok (.goto 4, 3) := by decide +kernel
theorem dX0_hasRoomForNextRow_100 : decode cX0_hasRoomForNextRow 100 = .ok (.iconst 0, 1) := by decide +kernel
theorem dX0_hasRoomForNextRow_101 : decode cX0_hasRoomForNextRow 101 = .ok (.ireturn, 1) := by decide +kernel
theorem dX0_heightOfGroup_0 : decode cX0_heightOfGroup 0 = .ok (.aload_n 0, 1) := by decide +kernel
theorem dX0_heightOfGroup_1 : decode cX0_heightOfGroup 1 = .ok (.getfield 15, 3) := by decide +kernel
theorem dX0_heightOfGroup_4 : decode cX0_heightOfGroup 4 = .ok (.iload_n 2, 1) := by decide +kernel
theorem dX0_heightOfGroup_5 : decode cX0_heightOfGroup 5 = .ok (.iaload, 1) := by decide +kernel
theorem dX0_heightOfGroup_6 : decode cX0_heightOfGroup 6 = .ok (.istore_n 3, 1) := by decide +kernel
theorem dX0_heightOfGroup_7 : decode cX0_heightOfGroup 7 = .ok (.iload_n 2, 1) := by decide +kernel
theorem dX0_heightOfGroup_8 : decode cX0_heightOfGroup 8 = .ok (.iconst 1, 1) := by decide +kernel
theorem dX0_heightOfGroup_9 : decode cX0_heightOfGroup 9 = .ok (.iadd, 1) := by decide +kernel
theorem dX0_heightOfGroup_10 : decode cX0_heightOfGroup 10 = .ok (.istore 4, 2) := by decide +kernel
theorem dX0_heightOfGroup_12 : decode cX0_heightOfGroup 12 = .ok (.iload 4, 2) := by decide +kernel
theorem dX0_heightOfGroup_14 : decode cX0_heightOfGroup 14 = .ok (.aload_n 1, 1) := by decide +kernel
theorem dX0_heightOfGroup_15 : decode cX0_heightOfGroup 15 = .ok (.getfield 64, 3) := by decide +kernel
theorem dX0_heightOfGroup_18 : decode cX0_heightOfGroup 18 = .ok (.if_icmp .ge 34, 3) := by decide +kernel
theorem dX0_heightOfGroup_21 : decode cX0_heightOfGroup 21 = .ok (.aload_n 1, 1) := by decide +kernel
theorem dX0_heightOfGroup_22 : decode cX0_heightOfGroup 22 = .ok (.getfield 87, 3) := by decide +kernel
theorem dX0_heightOfGroup_25 : decode cX0_heightOfGroup 25 = .ok (.iload 4, 2) := by decide +kernel
theorem dX0_heightOfGroup_27 : decode cX0_heightOfGroup 27 = .ok (.iconst 1, 1) := by decide +kernel
theorem dX0_heightOfGroup_28 : decode cX0_heightOfGroup 28 = .ok (.isub, 1) := by decide +kernel
theorem dX0_heightOfGroup_29 : decode cX0_heightOfGroup 29 = .ok (.aaload, 1) := by decide +kernel
theorem dX0_heightOfGroup_30 : decode cX0_heightOfGroup 30 = .ok (.getfield 139, 3) := by decide +kernel
theorem dX0_heightOfGroup_33 : decode cX0_heightOfGroup 33 = .ok (.ifCond .eq 19, 3) := by decide +kernel
theorem dX0_heightOfGroup_36 : decode cX0_heightOfGroup 36 = .ok (.iload_n 3, 1) := by decide +kernel
theorem dX0_heightOfGroup_37 : decode cX0_heightOfGroup 37 = .ok (.aload_n 0, 1) := by decide +kernel
theorem dX0_heightOfGroup_38 : decode cX0_heightOfGroup 38 = .ok (.getfield 15, 3) := by decide +kernel
theorem dX0_heightOfGroup_41 : decode cX0_heightOfGroup 41 = .ok (.iload 4, 2) := by decide +kernel
theorem dX0_heightOfGroup_43 : decode cX0_heightOfGroup 43 = .ok (.iaload, 1) := by decide +kernel
theorem dX0_heightOfGroup_44 : decode cX0_heightOfGroup 44 = .ok (.iadd, 1) := by decide +kernel
theorem dX0_heightOfGroup_45 : decode cX0_heightOfGroup 45 = .ok (.istore_n 3, 1) := by decide +kernel
theorem dX0_heightOfGroup_46 : decode cX0_heightOfGroup 46 = .ok (.iinc 4 1, 3) := by decide +kernel
theorem dX0_heightOfGroup_49 : decode cX0_heightOfGroup 49 = .ok (.goto (-37), 3) := by decide +kernel
theorem dX0_heightOfGroup_52 : decode cX0_heightOfGroup 52 = .ok (.iload_n 3, 1) := by decide +kernel
theorem dX0_heightOfGroup_53 : decode cX0_heightOfGroup 53 = .ok (.ireturn, 1) := by decide +kernel
theorem dX0_putNextRow_0 : decode cX0_putNextRow 0 = .ok (.aload_n 0, 1) := by decide +kernel
theorem dX0_putNextRow_1 : decode cX0_putNextRow 1 = .ok (.getfield 27, 3) := by decide +kernel
theorem dX0_putNextRow_4 : decode cX0_putNextRow 4 = .ok (.iload_n 1, 1) := by decide +kernel
theorem dX0_putNextRow_5 : decode cX0_putNextRow 5 = .ok (.iaload, 1) := by decide +kernel
theorem dX0_putNextRow_6 : decode cX0_putNextRow 6 = .ok (.ifCond .ne 13, 3) := by decide +kernel
theorem dX0_putNextRow_9 : decode cX0_putNextRow 9 = .ok (.aload_n 0, 1) := by decide +kernel
theorem dX0_putNextRow_10 : decode cX0_putNextRow 10 = .ok (.getfield 24, 3) := by decide +kernel
theorem dX0_putNextRow_13 : decode cX0_putNextRow 13 = .ok (.iload_n 1, 1) := by decide +kernel
theorem dX0_putNextRow_14 : decode cX0_putNextRow 14 = .ok (.aload_n 0, 1) := by decide +kernel
theorem dX0_putNextRow_15 : decode cX0_putNextRow 15 = .ok (.getfield 58, 3) := by decide +kernel
theorem dX0_putNextRow_18 : decode cX0_putNextRow 18 = .ok (.iastore, 1) := by decide +kernel
theorem dX0_putNextRow_19 : decode cX0_putNextRow 19 = .ok (.aload_n 0, 1) := by decide +kernel
theorem dX0_putNextRow_20 : decode cX0_putNextRow 20 = .ok (.getfield 18, 3) := by decide +kernel
theorem dX0_putNextRow_23 : decode cX0_putNextRow 23 = .ok (.aload_n 0, 1) := by decide +kernel
theorem dX0_putNextRow_24 : decode cX0_putNextRow 24 = .ok (.getfield 58, 3) := by decide +kernel
theorem dX0_putNextRow_27 : decode cX0_putNextRow 27 = .ok (.iload_n 1, 1) := by decide +kernel
theorem dX0_putNextRow_28 : decode cX0_putNextRow 28 = .ok (.iastore, 1) := by decide +kernel
theorem dX0_putNextRow_29 : decode cX0_putNextRow 29 = .ok (.aload_n 0, 1) := by decide +kernel
theorem dX0_putNextRow_30 : decode cX0_putNextRow 30 = .ok (.getfield 27, 3) := by decide +kernel
theorem dX0_putNextRow_33 : decode cX0_putNextRow 33 = .ok (.iload_n 1, 1) := by decide +kernel
theorem dX0_putNextRow_34 : decode cX0_putNextRow 34 = .ok (.dup2, 1) := by decide +kernel
theorem dX0_putNextRow_35 : decode cX0_putNextRow 35 = .ok (.iaload, 1) := by decide +kernel
theorem dX0_putNextRow_36 : decode cX0_putNextRow 36 = .ok (.iconst 1, 1) := by decide +kernel
theorem dX0_putNextRow_37 : decode cX0_putNextRow 37 = .ok (.iadd, 1) := by decide +kernel
theorem dX0_putNextRow_38 : decode cX0_putNextRow 38 = .ok (.iastore, 1) := by decide +kernel
theorem dX0_putNextRow_39 : decode cX0_putNextRow 39 = .ok (.aload_n 0, 1) := by decide +kernel
theorem dX0_putNextRow_40 : decode cX0_putNextRow 40 = .ok (.getfield 33, 3) := by decide +kernel
theorem dX0_putNextRow_43 : decode cX0_putNextRow 43 = .ok (.iload_n 1, 1) := by decide +kernel
theorem dX0_putNextRow_44 : decode cX0_putNextRow 44 = .ok (.dup2, 1) := by decide +kernel
theorem dX0_putNextRow_45 : decode cX0_putNextRow 45 = .ok (.iaload, 1) := by decide +kernel
theorem dX0_putNextRow_46 : decode cX0_putNextRow 46 = .ok (.aload_n 0, 1) := by decide +kernel
theorem dX0_putNextRow_47 : decode cX0_putNextRow 47 = .ok (.getfield 15, 3) := by decide +kernel
theorem dX0_putNextRow_50 : decode cX0_putNextRow 50 = .ok (.aload_n 0, 1) := by decide +kernel
theorem dX0_putNextRow_51 : decode cX0_putNextRow 51 = .ok (.getfield 58, 3) := by decide +kernel
theorem dX0_putNextRow_54 : decode cX0_putNextRow 54 = .ok (.iaload, 1) := by decide +kernel
theorem dX0_putNextRow_55 : decode cX0_putNextRow 55 = .ok (.isub, 1) := by decide +kernel
theorem dX0_putNextRow_56 : decode cX0_putNextRow 56 = .ok (.iastore, 1) := by decide +kernel
theorem dX0_putNextRow_57 : decode cX0_putNextRow 57 = .ok (.return_, 1) := by decide +kernel
theorem dX1_init_0 : decode cX1_init 0 = .ok (.aload_n 0, 1) := by decide +kernel
theorem dX1_init_1 : decode cX1_init 1 = .ok (.invokespecial 3, 3) := by decide +kernel
theorem dX1_init_4 : decode cX1_init 4 = .ok (.aload_n 0, 1) := by decide +kernel
theorem dX1_init_5 : decode cX1_init 5 = .ok (.bipush 6, 2) := by decide +kernel
theorem dX1_init_7 : decode cX1_init 7 = .ok (.newarray .int, 2) := by decide +kernel
theorem dX1_init_9 : decode cX1_init 9 = .ok (.putfield 9, 3) := by decide +kernel
theorem dX1_init_12 : decode cX1_init 12 = .ok (.aload_n 0, 1) := by decide +kernel
theorem dX1_init_13 : decode cX1_init 13 = .ok (.bipush 6, 2) := by decide +kernel
theorem dX1_init_15 : decode cX1_init 15 = .ok (.newarray .int, 2) := by decide +kernel
theorem dX1_init_17 : decode cX1_init 17 = .ok (.putfield 15, 3) := by decide +kernel
theorem dX1_init_20 : decode cX1_init 20 = .ok (.aload_n 0, 1) := by decide +kernel
theorem dX1_init_21 : decode cX1_init 21 = .ok (.bipush 6, 2) := by decide +kernel
theorem dX1_init_23 : decode cX1_init 23 = .ok (.newarray .int, 2) := by decide +kernel
theorem dX1_init_25 : decode cX1_init 25 = .ok (.putfield 18, 3) := by decide +kernel
theorem dX1_init_28 : decode cX1_init 28 = .ok (.aload_n 0, 1) := by decide +kernel
theorem dX1_init_29 : decode cX1_init 29 = .ok (.bipush 6, 2) := by decide +kernel
theorem dX1_init_31 : decode cX1_init 31 = .ok (.newarray .boolean, 2) := by decide +kernel
theorem dX1_init_33 : decode cX1_init 33 = .ok (.putfield 21, 3) := by decide +kernel
theorem dX1_init_36 : decode cX1_init 36 = .ok (.aload_n 0, 1) := by decide +kernel
theorem dX1_init_37 : decode cX1_init 37 = .ok (.bipush 6, 2) := by decide +kernel
theorem dX1_init_39 : decode cX1_init 39 = .ok (.newarray .int, 2) := by decide +kernel
theorem dX1_init_41 : decode cX1_init 41 = .ok (.putfield 25, 3) := by decide +kernel
theorem dX1_init_44 : decode cX1_init 44 = .ok (.aload_n 0, 1) := by decide +kernel
theorem dX1_init_45 : decode cX1_init 45 = .ok (.bipush 6, 2) := by decide +kernel
theorem dX1_init_47 : decode cX1_init 47 = .ok (.newarray .boolean, 2) := by decide +kernel
theorem dX1_init_49 : decode cX1_init 49 = .ok (.putfield 28, 3) := by decide +kernel
theorem dX1_init_52 : decode cX1_init 52 = .ok (.return_, 1) := by decide +kernel
theorem dX1_clear_0 : decode cX1_clear 0 = .ok (.iconst 0, 1) := by decide +kernel
theorem dX1_clear_1 : decode cX1_clear 1 = .ok (.istore_n 1, 1) := by decide +kernel
theorem dX1_clear_2 : decode cX1_clear 2 = .ok (.iload_n 1, 1) := by decide +kernel
theorem dX1_clear_3 : decode cX1_clear 3 = .ok (.bipush 6, 2) := by decide +kernel
