theorem dX1_clear_5 : decode cX1_clear 5 = .ok (.if_icmp .ge 37, 3) := by decide +kernel
theorem dX1_clear_8 : decode cX1_clear 8 = .ok (.aload_n 0, 1) := by decide +kernel
theorem dX1_clear_9 : decode cX1_clear 9 = .ok (.getfield 9, 3) := by decide +kernel
theorem dX1_clear_12 : decode cX1_clear 12 = .ok (.iload_n 1, 1) := by decide +kernel
theorem dX1_clear_13 : decode cX1_clear 13 = .ok (.iconst 0, 1) := by decide +kernel
theorem dX1_clear_14 : decode cX1_clear 14 = .ok (.iastore, 1) := by decide +kernel
theorem dX1_clear_15 : decode cX1_clear 15 = .ok (.aload_n 0, 1) := by decide +kernel
theorem dX1_clear_16 : decode cX1_clear 16 = .ok (.getfield 15, 3) := by decide +kernel
theorem dX1_clear_19 : decode cX1_clear 19 = .ok (.iload_n 1, 1) := by decide +kernel
theorem dX1_clear_20 : decode cX1_clear 20 = .ok (.iconst 0, 1) := by decide +kernel
theorem dX1_clear_21 : decode cX1_clear 21 = .ok (.iastore, 1) := by decide +kernel
theorem dX1_clear_22 : decode cX1_clear 22 = .ok (.aload_n 0, 1) := by decide +kernel
theorem dX1_clear_23 : decode cX1_clear 23 = .ok (.getfield 18, 3) := by decide +kernel
theorem dX1_clear_26 : decode cX1_clear 26 = .ok (.iload_n 1, 1) := by decide +kernel
theorem dX1_clear_27 : decode cX1_clear 27 = .ok (.iconst 0, 1) := by decide +kernel
theorem dX1_clear_28 : decode cX1_clear 28 = .ok (.iastore, 1) := by decide +kernel
theorem dX1_clear_29 : decode cX1_clear 29 = .ok (.aload_n 0, 1) := by decide +kernel
theorem dX1_clear_30 : decode cX1_clear 30 = .ok (.getfield 21, 3) := by decide +kernel
theorem dX1_clear_33 : decode cX1_clear 33 = .ok (.iload_n 1, 1) := by decide +kernel
theorem dX1_clear_34 : decode cX1_clear 34 = .ok (.iconst 0, 1) := by decide +kernel
theorem dX1_clear_35 : decode cX1_clear 35 = .ok (.bastore, 1) := by decide +kernel
theorem dX1_clear_36 : decode cX1_clear 36 = .ok (.iinc 1 1, 3) := by decide +kernel
theorem dX1_clear_39 : decode cX1_clear 39 = .ok (.goto (-37), 3) := by decide +kernel
theorem dX1_clear_42 : decode cX1_clear 42 = .ok (.aload_n 0, 1) := by decide +kernel
theorem dX1_clear_43 : decode cX1_clear 43 = .ok (.iconst 0, 1) := by decide +kernel
theorem dX1_clear_44 : decode cX1_clear 44 = .ok (.putfield 31, 3) := by decide +kernel
theorem dX1_clear_47 : decode cX1_clear 47 = .ok (.aload_n 0, 1) := by decide +kernel
theorem dX1_clear_48 : decode cX1_clear 48 = .ok (.iconst 0, 1) := by decide +kernel
theorem dX1_clear_49 : decode cX1_clear 49 = .ok (.putfield 35, 3) := by decide +kernel
theorem dX1_clear_52 : decode cX1_clear 52 = .ok (.return_, 1) := by decide +kernel
theorem dX1_copyFrom_0 : decode cX1_copyFrom 0 = .ok (.iconst 0, 1) := by decide +kernel
theorem dX1_copyFrom_1 : decode cX1_copyFrom 1 = .ok (.istore_n 2, 1) := by decide +kernel
theorem dX1_copyFrom_2 : decode cX1_copyFrom 2 = .ok (.iload_n 2, 1) := by decide +kernel
theorem dX1_copyFrom_3 : decode cX1_copyFrom 3 = .ok (.bipush 6, 2) := by decide +kernel
theorem dX1_copyFrom_5 : decode cX1_copyFrom 5 = .ok (.if_icmp .ge 57, 3) := by decide +kernel
theorem dX1_copyFrom_8 : decode cX1_copyFrom 8 = .ok (.aload_n 0, 1) := by decide +kernel
theorem dX1_copyFrom_9 : decode cX1_copyFrom 9 = .ok (.getfield 9, 3) := by decide +kernel
theorem dX1_copyFrom_12 : decode cX1_copyFrom 12 = .ok (.iload_n 2, 1) := by decide +kernel
theorem dX1_copyFrom_13 : decode cX1_copyFrom 13 = .ok (.aload_n 1, 1) := by decide +kernel
theorem dX1_copyFrom_14 : decode cX1_copyFrom 14 = .ok (.getfield 9, 3) := by decide +kernel
theorem dX1_copyFrom_17 : decode cX1_copyFrom 17 = .ok (.iload_n 2, 1) := by decide +kernel
theorem dX1_copyFrom_18 : decode cX1_copyFrom 18 = .ok (.iaload, 1) := by decide +kernel
theorem dX1_copyFrom_19 : decode cX1_copyFrom 19 = .ok (.iastore, 1) := by decide +kernel
theorem dX1_copyFrom_20 : decode cX1_copyFrom 20 = .ok (.aload_n 0, 1) := by decide +kernel
theorem dX1_copyFrom_21 : decode cX1_copyFrom 21 = .ok (.getfield 15, 3) := by decide +kernel
theorem dX1_copyFrom_24 : decode cX1_copyFrom 24 = .ok (.iload_n 2, 1) := by decide +kernel
theorem dX1_copyFrom_25 : decode cX1_copyFrom 25 = .ok (.aload_n 1, 1) := by decide +kernel
theorem dX1_copyFrom_26 : decode cX1_copyFrom 26 = .ok (.getfield 15, 3) := by decide +kernel
theorem dX1_copyFrom_29 : decode cX1_copyFrom 29 = .ok (.iload_n 2, 1) := by decide +kernel
theorem dX1_copyFrom_30 : decode cX1_copyFrom 30 = .ok (.iaload, 1) := by decide +kernel
theorem dX1_copyFrom_31 : decode cX1_copyFrom 31 = .ok (.iastore, 1) := by decide +kernel
theorem dX1_copyFrom_32 : decode cX1_copyFrom 32 = .ok (.aload_n 0, 1) := by decide +kernel
theorem dX1_copyFrom_33 : decode cX1_copyFrom 33 = .ok (.getfield 18, 3) := by decide +kernel
theorem dX1_copyFrom_36 : decode cX1_copyFrom 36 = .ok (.iload_n 2, 1) := by decide +kernel
theorem dX1_copyFrom_37 : decode cX1_copyFrom 37 = .ok (.aload_n 1, 1) := by decide +kernel
theorem dX1_copyFrom_38 : decode cX1_copyFrom 38 = .ok (.getfield 18, 3) := by decide +kernel
theorem dX1_copyFrom_41 : decode cX1_copyFrom 41 = .ok (.iload_n 2, 1) := by decide +kernel
theorem dX1_copyFrom_42 : decode cX1_copyFrom 42 = .ok (.iaload, 1) := by decide +kernel
theorem dX1_copyFrom_43 : decode cX1_copyFrom 43 = .ok (.iastore, 1) := by decide +kernel
theorem dX1_copyFrom_44 : decode cX1_copyFrom 44 = .ok (.aload_n 0, 1) := by decide +kernel
theorem dX1_copyFrom_45 : decode cX1_copyFrom 45 = .ok (.getfield 21, 3) := by decide +kernel
theorem dX1_copyFrom_48 : decode cX1_copyFrom 48 = .ok (.iload_n 2, 1) := by decide +kernel
theorem dX1_copyFrom_49 : decode cX1_copyFrom 49 = .ok (.aload_n 1, 1) := by decide +kernel
theorem dX1_copyFrom_50 : decode cX1_copyFrom 50 = .ok (.getfield 21, 3) := by decide +kernel
theorem dX1_copyFrom_53 : decode cX1_copyFrom 53 = .ok (.iload_n 2, 1) := by decide +kernel
theorem dX1_copyFrom_54 : decode cX1_copyFrom 54 = .ok (.baload, 1) := by decide +kernel
theorem dX1_copyFrom_55 : decode cX1_copyFrom 55 = .ok (.bastore, 1) := by decide +kernel
theorem dX1_copyFrom_56 : decode cX1_copyFrom 56 = .ok (.iinc 2 1, 3) := by decide +kernel
theorem dX1_copyFrom_59 : decode cX1_copyFrom 59 = .ok (.goto (-57), 3) := by decide +kernel
theorem dX1_copyFrom_62 : decode cX1_copyFrom 62 = .ok (.aload_n 0, 1) := by decide +kernel
theorem dX1_copyFrom_63 : decode cX1_copyFrom 63 = .ok (.aload_n 1, 1) := by decide +kernel
theorem dX1_copyFrom_64 : decode cX1_copyFrom 64 = .ok (.getfield 31, 3) := by decide +kernel
theorem dX1_copyFrom_67 : decode cX1_copyFrom 67 = .ok (.putfield 31, 3) := by decide +kernel
theorem dX1_copyFrom_70 : decode cX1_copyFrom 70 = .ok (.aload_n 0, 1) := by decide +kernel
theorem dX1_copyFrom_71 : decode cX1_copyFrom 71 = .ok (.aload_n 1, 1) := by decide +kernel
theorem dX1_copyFrom_72 : decode cX1_copyFrom 72 = .ok (.getfield 35, 3) := by decide +kernel
theorem dX1_copyFrom_75 : decode cX1_copyFrom 75 = .ok (.putfield 35, 3) := by decide +kernel
theorem dX1_copyFrom_78 : decode cX1_copyFrom 78 = .ok (.return_, 1) := by decide +kernel
set_option maxRecDepth 20000 in
theorem ggX2_init_X0_init : GoodIn wsX2_init wsX0_init := goodIn_r _ [10, 11, 2, 3, 12, 13, 14, 15, 16, 17, 18, 19, 20, 21, 22, 23, 24, 25, 26, 27, 28, 29, 30, 31, 32, 33, 34, 35] (by decide +kernel) (by decide +kernel)
set_option maxRecDepth 20000 in
theorem gX2_init_X0_init_n9 : GoodIn wsX2_init (wsX0_init) := ggX2_init_X0_init
theorem dX2_init_0 : decode cX2_init 0 = .ok (.aload_n 0, 1) := by decide +kernel
theorem dX2_init_1 : decode cX2_init 1 = .ok (.invokespecial 1, 3) := by decide +kernel
theorem dX2_init_4 : decode cX2_init 4 = .ok (.aload_n 0, 1) := by decide +kernel
theorem dX2_init_5 : decode cX2_init 5 = .ok (.new 7, 3) := by decide +kernel
theorem dX2_init_8 : decode cX2_init 8 = .ok (.dup, 1) := by decide +kernel
theorem dX2_init_9 : decode cX2_init 9 = .ok (.invokespecial 9, 3) := by decide +kernel
theorem dX2_init_12 : decode cX2_init 12 = .ok (.putfield 10, 3) := by decide +kernel
theorem dX2_init_15 : decode cX2_init 15 = .ok (.aload_n 0, 1) := by decide +kernel
theorem dX2_init_16 : decode cX2_init 16 = .ok (.new 7, 3) := by decide +kernel
theorem dX2_init_19 : decode cX2_init 19 = .ok (.dup, 1) := by decide +kernel
theorem dX2_init_20 : decode cX2_init 20 = .ok (.invokespecial 9, 3) := by decide +kernel
theorem dX2_init_23 : decode cX2_init 23 = .ok (.putfield 16, 3) := by decide +kernel
theorem dX2_init_26 : decode cX2_init 26 = .ok (.return_, 1) := by decide +kernel
set_option maxRecDepth 20000 in
theorem ggX2_arrange_X0_arrange : GoodIn wsX2_arrange wsX0_arrange := goodIn_r _ [8, 9, 10, 11, 12, 13, 14, 15, 16, 7, 17, 18, 19, 20, 21, 22, 23, 24, 25, 26, 27, 28, 29, 30, 31, 32, 33, 34, 35, 36, 37, 38, 39, 40, 41, 42, 43, 44, 45, 46, 47, 48, 49, 50, 51, 52, 53, 54, 55, 56, 57, 58, 59, 60, 61, 62, 63, 64, 65, 66, 67, 68, 69, 70, 71, 72, 73, 77, 78, 79, 80, 81, 82, 83, 84, 85, 86, 87, 88, 89, 90, 91, 92, 93, 94, 95, 96, 97, 98, 99, 100, 101, 102, 103, 104, 105, 106, 107] (by decide +kernel) (by decide +kernel)
set_option maxRecDepth 20000 in
theorem gX2_arrange_X0_arrange : GoodIn wsX2_arrange (wsV RX2 19 RX0 yX0_arrange wsX0_arrange) := goodIn_app (goodIn_of _ (by decide +kernel)) ggX2_arrange_X0_arrange
theorem dX2_arrange_0 : decode cX2_arrange 0 = .ok (.aload_n 0, 1) := by decide +kernel
theorem dX2_arrange_1 : decode cX2_arrange 1 = .ok (.getfield 10, 3) := by decide +kernel
theorem dX2_arrange_4 : decode cX2_arrange 4 = .ok (.aload_n 1, 1) := by decide +kernel
theorem dX2_arrange_5 : decode cX2_arrange 5 = .ok (.iload_n 2, 1) := by decide +kernel
theorem dX2_arrange_6 : decode cX2_arrange 6 = .ok (.iload_n 3, 1) := by decide +kernel
theorem dX2_arrange_7 : decode cX2_arrange 7 = .ok (.invokevirtual 19, 3) := by decide +kernel
theorem dX2_arrange_10 : decode cX2_arrange 10 = .ok (.aload_n 0, 1) := by decide +kernel
theorem dX2_arrange_11 : decode cX2_arrange 11 = .ok (.getfield 16, 3) := by decide +kernel
theorem dX2_arrange_14 : decode cX2_arrange 14 = .ok (.aload_n 1, 1) := by decide +kernel
theorem dX2_arrange_15 : decode cX2_arrange 15 = .ok (.iload_n 3, 1) := by decide +kernel
theorem dX2_arrange_16 : decode cX2_arrange 16 = .ok (.iload_n 2, 1) := by decide +kernel
theorem dX2_arrange_17 : decode cX2_arrange 17 = .ok (.invokevirtual 19, 3) := by decide +kernel
theorem dX2_arrange_20 : decode cX2_arrange 20 = .ok (.aload_n 0, 1) := by decide +kernel
theorem dX2_arrange_21 : decode cX2_arrange 21 = .ok (.getfield 10, 3) := by decide +kernel
theorem dX2_arrange_24 : decode cX2_arrange 24 = .ok (.getfield 23, 3) := by decide +kernel
theorem dX2_arrange_27 : decode cX2_arrange 27 = .ok (.ifCond .eq 34, 3) := by decide +kernel
theorem dX2_arrange_30 : decode cX2_arrange 30 = .ok (.aload_n 0, 1) := by decide +kernel
theorem dX2_arrange_31 : decode cX2_arrange 31 = .ok (.getfield 16, 3) := by decide +kernel
theorem dX2_arrange_34 : decode cX2_arrange 34 = .ok (.getfield 23, 3) := by decide +kernel
theorem dX2_arrange_37 : decode cX2_arrange 37 = .ok (.ifCond .eq 20, 3) := by decide +kernel
theorem dX2_arrange_40 : decode cX2_arrange 40 = .ok (.aload_n 0, 1) := by decide +kernel
theorem dX2_arrange_41 : decode cX2_arrange 41 = .ok (.getfield 10, 3) := by decide +kernel
theorem dX2_arrange_44 : decode cX2_arrange 44 = .ok (.getfield 27, 3) := by decide +kernel
theorem dX2_arrange_47 : decode cX2_arrange 47 = .ok (.aload_n 0, 1) := by decide +kernel
theorem dX2_arrange_48 : decode cX2_arrange 48 = .ok (.getfield 16, 3) := by decide +kernel
theorem dX2_arrange_51 : decode cX2_arrange 51 = .ok (.getfield 27, 3) := by decide +kernel
theorem dX2_arrange_54 : decode cX2_arrange 54 = .ok (.if_icmp .gt 7, 3) := by decide +kernel
theorem dX2_arrange_57 : decode cX2_arrange 57 = .ok (.iconst 1, 1) := by decide +kernel
theorem dX2_arrange_58 : decode cX2_arrange 58 = .ok (.goto 4, 3) := by decide +kernel
theorem dX2_arrange_61 : decode cX2_arrange 61 = .ok (.iconst 0, 1) := by decide +kernel
theorem dX2_arrange_62 : decode cX2_arrange 62 = .ok (.istore 4, 2) := by decide +kernel
theorem dX2_arrange_64 : decode cX2_arrange 64 = .ok (.aload_n 0, 1) := by decide +kernel
theorem dX2_arrange_65 : decode cX2_arrange 65 = .ok (.aload_n 0, 1) := by decide +kernel
theorem dX2_arrange_66 : decode cX2_arrange 66 = .ok (.getfield 16, 3) := by decide +kernel
theorem dX2_arrange_69 : decode cX2_arrange 69 = .ok (.getfield 23, 3) := by decide +kernel
theorem dX2_arrange_72 : decode cX2_arrange 72 = .ok (.ifCond .eq 12, 3) := by decide +kernel
theorem dX2_arrange_75 : decode cX2_arrange 75 = .ok (.iload 4, 2) := by decide +kernel
theorem dX2_arrange_77 : decode cX2_arrange 77 = .ok (.ifCond .ne 7, 3) := by decide +kernel
theorem dX2_arrange_80 : decode cX2_arrange 80 = .ok (.iconst 1, 1) := by decide +kernel
theorem dX2_arrange_81 : decode cX2_arrange 81 = .ok (.goto 4, 3) := by decide +kernel
theorem dX2_arrange_84 : decode cX2_arrange 84 = .ok (.iconst 0, 1) := by decide +kernel
theorem dX2_arrange_85 : decode cX2_arrange 85 = .ok (.putfield 31, 3) := by decide +kernel
theorem dX2_arrange_88 : decode cX2_arrange 88 = .ok (.return_, 1) := by decide +kernel
theorem dX2_chosen_0 : decode cX2_chosen 0 = .ok (.aload_n 0, 1) := by decide +kernel
theorem dX2_chosen_1 : decode cX2_chosen 1 = .ok (.getfield 31, 3) := by decide +kernel
theorem dX2_chosen_4 : decode cX2_chosen 4 = .ok (.ifCond .eq 10, 3) := by decide +kernel
theorem dX2_chosen_7 : decode cX2_chosen 7 = .ok (.aload_n 0, 1) := by decide +kernel
theorem dX2_chosen_8 : decode cX2_chosen 8 = .ok (.getfield 16, 3) := by decide +kernel
theorem dX2_chosen_11 : decode cX2_chosen 11 = .ok (.goto 7, 3) := by decide +kernel
theorem dX2_chosen_14 : decode cX2_chosen 14 = .ok (.aload_n 0, 1) := by decide +kernel
theorem dX2_chosen_15 : decode cX2_chosen 15 = .ok (.getfield 10, 3) := by decide +kernel
theorem dX2_chosen_18 : decode cX2_chosen 18 = .ok (.areturn, 1) := by decide +kernel
set_option maxRecDepth 20000 in
theorem ggX3_init_X1_init : GoodIn wsX3_init wsX1_init := goodIn_r _ [16, 17, 2, 3, 4, 18, 19, 20, 21, 22, 23, 24, 34, 35, 36, 37, 38, 39, 40, 41] (by decide +kernel) (by decide +kernel)
set_option maxRecDepth 20000 in
theorem gX3_init_X1_init_n36 : GoodIn wsX3_init (wsX1_init) := ggX3_init_X1_init
theorem dX3_init_0 : decode cX3_init 0 = .ok (.aload_n 0, 1) := by decide +kernel
theorem dX3_init_1 : decode cX3_init 1 = .ok (.invokespecial 3, 3) := by decide +kernel
theorem dX3_init_4 : decode cX3_init 4 = .ok (.aload_n 0, 1) := by decide +kernel
theorem dX3_init_5 : decode cX3_init 5 = .ok (.bipush 6, 2) := by decide +kernel
theorem dX3_init_7 : decode cX3_init 7 = .ok (.newarray .int, 2) := by decide +kernel
theorem dX3_init_9 : decode cX3_init 9 = .ok (.putfield 9, 3) := by decide +kernel
theorem dX3_init_12 : decode cX3_init 12 = .ok (.aload_n 0, 1) := by decide +kernel
theorem dX3_init_13 : decode cX3_init 13 = .ok (.bipush 6, 2) := by decide +kernel
theorem dX3_init_15 : decode cX3_init 15 = .ok (.newarray .int, 2) := by decide +kernel
theorem dX3_init_17 : decode cX3_init 17 = .ok (.putfield 15, 3) := by decide +kernel
theorem dX3_init_20 : decode cX3_init 20 = .ok (.aload_n 0, 1) := by decide +kernel
theorem dX3_init_21 : decode cX3_init 21 = .ok (.bipush 6, 2) := by decide +kernel
theorem dX3_init_23 : decode cX3_init 23 = .ok (.newarray .int, 2) := by decide +kernel
theorem dX3_init_25 : decode cX3_init 25 = .ok (.putfield 18, 3) := by decide +kernel
theorem dX3_init_28 : decode cX3_init 28 = .ok (.aload_n 0, 1) := by decide +kernel
theorem dX3_init_29 : decode cX3_init 29 = .ok (.bipush 6, 2) := by decide +kernel
theorem dX3_init_31 : decode cX3_init 31 = .ok (.newarray .int, 2) := by decide +kernel
theorem dX3_init_33 : decode cX3_init 33 = .ok (.putfield 21, 3) := by decide +kernel
theorem dX3_init_36 : decode cX3_init 36 = .ok (.aload_n 0, 1) := by decide +kernel
theorem dX3_init_37 : decode cX3_init 37 = .ok (.bipush 30, 2) := by decide +kernel
theorem dX3_init_39 : decode cX3_init 39 = .ok (.anewarray 24, 3) := by decide +kernel
theorem dX3_init_42 : decode cX3_init 42 = .ok (.putfield 26, 3) := by decide +kernel
theorem dX3_init_45 : decode cX3_init 45 = .ok (.aload_n 0, 1) := by decide +kernel
theorem dX3_init_46 : decode cX3_init 46 = .ok (.bipush 6, 2) := by decide +kernel
theorem dX3_init_48 : decode cX3_init 48 = .ok (.newarray .int, 2) := by decide +kernel
theorem dX3_init_50 : decode cX3_init 50 = .ok (.putfield 30, 3) := by decide +kernel
theorem dX3_init_53 : decode cX3_init 53 = .ok (.aload_n 0, 1) := by decide +kernel
theorem dX3_init_54 : decode cX3_init 54 = .ok (.bipush 6, 2) := by decide +kernel
theorem dX3_init_56 : decode cX3_init 56 = .ok (.newarray .int, 2) := by decide +kernel
theorem dX3_init_58 : decode cX3_init 58 = .ok (.putfield 33, 3) := by decide +kernel
theorem dX3_init_61 : decode cX3_init 61 = .ok (.iconst 0, 1) := by decide +kernel
theorem dX3_init_62 : decode cX3_init 62 = .ok (.istore_n 1, 1) := by decide +kernel
theorem dX3_init_63 : decode cX3_init 63 = .ok (.iload_n 1, 1) := by decide +kernel
theorem dX3_init_64 : decode cX3_init 64 = .ok (.bipush 30, 2) := by decide +kernel
theorem dX3_init_66 : decode cX3_init 66 = .ok (.if_icmp .ge 22, 3) := by decide +kernel
theorem dX3_init_69 : decode cX3_init 69 = .ok (.aload_n 0, 1) := by decide +kernel
theorem dX3_init_70 : decode cX3_init 70 = .ok (.getfield 26, 3) := by decide +kernel
theorem dX3_init_73 : decode cX3_init 73 = .ok (.iload_n 1, 1) := by decide +kernel
theorem dX3_init_74 : decode cX3_init 74 = .ok (.new 24, 3) := by decide +kernel
theorem dX3_init_77 : decode cX3_init 77 = .ok (.dup, 1) := by decide +kernel
theorem dX3_init_78 : decode cX3_init 78 = .ok (.invokespecial 36, 3) := by decide +kernel
theorem dX3_init_81 : decode cX3_init 81 = .ok (.aastore, 1) := by decide +kernel
theorem dX3_init_82 : decode cX3_init 82 = .ok (.iinc 1 1, 3) := by decide +kernel
theorem dX3_init_85 : decode cX3_init 85 = .ok (.goto (-22), 3) := by decide +kernel
theorem dX3_init_88 : decode cX3_init 88 = .ok (.return_, 1) := by decide +kernel
theorem dX3_addColumn_0 : decode cX3_addColumn 0 = .ok (.aload_n 0, 1) := by decide +kernel
theorem dX3_addColumn_1 : decode cX3_addColumn 1 = .ok (.getfield 37, 3) := by decide +kernel
theorem dX3_addColumn_4 : decode cX3_addColumn 4 = .ok (.istore_n 3, 1) := by decide +kernel
theorem dX3_addColumn_5 : decode cX3_addColumn 5 = .ok (.aload_n 0, 1) := by decide +kernel
theorem dX3_addColumn_6 : decode cX3_addColumn 6 = .ok (.getfield 9, 3) := by decide +kernel
theorem dX3_addColumn_9 : decode cX3_addColumn 9 = .ok (.iload_n 3, 1) := by decide +kernel
theorem dX3_addColumn_10 : decode cX3_addColumn 10 = .ok (.iload_n 1, 1) := by decide +kernel
theorem dX3_addColumn_11 : decode cX3_addColumn 11 = .ok (.iastore, 1) := by decide +kernel
theorem dX3_addColumn_12 : decode cX3_addColumn 12 = .ok (.aload_n 0, 1) := by decide +kernel
theorem dX3_addColumn_13 : decode cX3_addColumn 13 = .ok (.getfield 15, 3) := by decide +kernel
theorem dX3_addColumn_16 : decode cX3_addColumn 16 = .ok (.iload_n 3, 1) := by decide +kernel
theorem dX3_addColumn_17 : decode cX3_addColumn 17 = .ok (.iload_n 2, 1) := by decide +kernel
theorem dX3_addColumn_18 : decode cX3_addColumn 18 = .ok (.iastore, 1) := by decide +kernel
theorem dX3_addColumn_19 : decode cX3_addColumn 19 = .ok (.aload_n 0, 1) := by decide +kernel
theorem dX3_addColumn_20 : decode cX3_addColumn 20 = .ok (.dup, 1) := by decide +kernel
theorem dX3_addColumn_21 : decode cX3_addColumn 21 = .ok (.getfield 37, 3) := by decide +kernel
theorem dX3_addColumn_24 : decode cX3_addColumn 24 = .ok (.iconst 1, 1) := by decide +kernel
theorem dX3_addColumn_25 : decode cX3_addColumn 25 = .ok (.iadd, 1) := by decide +kernel
theorem dX3_addColumn_26 : decode cX3_addColumn 26 = .ok (.putfield 37, 3) := by decide +kernel
theorem dX3_addColumn_29 : decode cX3_addColumn 29 = .ok (.iload_n 3, 1) := by decide +kernel
theorem dX3_addColumn_30 : decode cX3_addColumn 30 = .ok (.ireturn, 1) := by decide +kernel
set_option maxRecDepth 20000 in
theorem ggX3_addRow_X1_clear : GoodIn wsX3_addRow wsX1_clear := goodIn_r _ [7, 8, 9, 10, 11, 12, 13, 23, 24, 25, 26, 27, 28, 29, 30] (by decide +kernel) (by decide +kernel)
set_option maxRecDepth 20000 in
theorem gX3_addRow_X1_clear : GoodIn wsX3_addRow (wsV RX3 44 RX1 yX1_clear wsX1_clear) := goodIn_app (goodIn_of _ (by decide +kernel)) ggX3_addRow_X1_clear
theorem dX3_addRow_0 : decode cX3_addRow 0 = .ok (.aload_n 0, 1) := by decide +kernel
theorem dX3_addRow_1 : decode cX3_addRow 1 = .ok (.getfield 26, 3) := by decide +kernel
theorem dX3_addRow_4 : decode cX3_addRow 4 = .ok (.aload_n 0, 1) := by decide +kernel
theorem dX3_addRow_5 : decode cX3_addRow 5 = .ok (.getfield 41, 3) := by decide +kernel
theorem dX3_addRow_8 : decode cX3_addRow 8 = .ok (.aaload, 1) := by decide +kernel
theorem dX3_addRow_9 : decode cX3_addRow 9 = .ok (.invokevirtual 44, 3) := by decide +kernel
theorem dX3_addRow_12 : decode cX3_addRow 12 = .ok (.aload_n 0, 1) := by decide +kernel
theorem dX3_addRow_13 : decode cX3_addRow 13 = .ok (.dup, 1) := by decide +kernel
theorem dX3_addRow_14 : decode cX3_addRow 14 = .ok (.getfield 41, 3) := by decide +kernel
theorem dX3_addRow_17 : decode cX3_addRow 17 = .ok (.iconst 1, 1) := by decide +kernel
theorem dX3_addRow_18 : decode cX3_addRow 18 = .ok (.iadd, 1) := by decide +kernel
theorem dX3_addRow_19 : decode cX3_addRow 19 = .ok (.putfield 41, 3) := by decide +kernel
theorem dX3_addRow_22 : decode cX3_addRow 22 = .ok (.aload_n 0, 1) := by decide +kernel
theorem dX3_addRow_23 : decode cX3_addRow 23 = .ok (.getfield 41, 3) := by decide +kernel
theorem dX3_addRow_26 : decode cX3_addRow 26 = .ok (.iconst 1, 1) := by decide +kernel
theorem dX3_addRow_27 : decode cX3_addRow 27 = .ok (.isub, 1) := by decide +kernel
theorem dX3_addRow_28 : decode cX3_addRow 28 = .ok (.ireturn, 1) := by decide +kernel
set_option maxRecDepth 20000 in
theorem ggX3_copyFrom_X1_copyFrom : GoodIn wsX3_copyFrom wsX1_copyFrom := goodIn_r _ [12, 13, 14, 15, 16, 17, 18, 28, 29, 30, 31, 32, 33, 34, 35] (by decide +kernel) (by decide +kernel)
set_option maxRecDepth 20000 in
theorem gX3_copyFrom_X1_copyFrom : GoodIn wsX3_copyFrom (wsV RX3 47 RX1 yX1_copyFrom wsX1_copyFrom) := goodIn_app (goodIn_of _ (by decide +kernel)) ggX3_copyFrom_X1_copyFrom
theorem dX3_copyFrom_0 : decode cX3_copyFrom 0 = .ok (.aload_n 0, 1) := by decide +kernel
theorem dX3_copyFrom_1 : decode cX3_copyFrom 1 = .ok (.aload_n 1, 1) := by decide +kernel
theorem dX3_copyFrom_2 : decode cX3_copyFrom 2 = .ok (.getfield 37, 3) := by decide +kernel
theorem dX3_copyFrom_5 : decode cX3_copyFrom 5 = .ok (.putfield 37, 3) := by decide +kernel
theorem dX3_copyFrom_8 : decode cX3_copyFrom 8 = .ok (.iconst 0, 1) := by decide +kernel
theorem dX3_copyFrom_9 : decode cX3_copyFrom 9 = .ok (.istore_n 2, 1) := by decide +kernel
theorem dX3_copyFrom_10 : decode cX3_copyFrom 10 = .ok (.iload_n 2, 1) := by decide +kernel
theorem dX3_copyFrom_11 : decode cX3_copyFrom 11 = .ok (.aload_n 0, 1) := by decide +kernel
theorem dX3_copyFrom_12 : decode cX3_copyFrom 12 = .ok (.getfield 37, 3) := by decide +kernel
theorem dX3_copyFrom_15 : decode cX3_copyFrom 15 = .ok (.if_icmp .ge 57, 3) := by decide +kernel
theorem dX3_copyFrom_18 : decode cX3_copyFrom 18 = .ok (.aload_n 0, 1) := by decide +kernel
theorem dX3_copyFrom_19 : decode cX3_copyFrom 19 = .ok (.getfield 9, 3) := by decide +kernel
theorem dX3_copyFrom_22 : decode cX3_copyFrom 22 = .ok (.iload_n 2, 1) := by decide +kernel
theorem dX3_copyFrom_23 : decode cX3_copyFrom 23 = .ok (.aload_n 1, 1) := by decide +kernel
theorem dX3_copyFrom_24 : decode cX3_copyFrom 24 = .ok (.getfield 9, 3) := by decide +kernel
theorem dX3_copyFrom_27 : decode cX3_copyFrom 27 = .ok (.iload_n 2, 1) := by decide +kernel
theorem dX3_copyFrom_28 : decode cX3_copyFrom 28 = .ok (.iaload, 1) := by decide +kernel
theorem dX3_copyFrom_29 : decode cX3_copyFrom 29 = .ok (.iastore, 1) := by decide +kernel
theorem dX3_copyFrom_30 : decode cX3_copyFrom 30 = .ok (.aload_n 0, 1) := by decide +kernel
theorem dX3_copyFrom_31 : decode cX3_copyFrom 31 = .ok (.getfield 15, 3) := by decide +kernel
theorem dX3_copyFrom_34 : decode cX3_copyFrom 34 = .ok (.iload_n 2, 1) := by decide +kernel
theorem dX3_copyFrom_35 : decode cX3_copyFrom 35 = .ok (.aload_n 1, 1) := by decide +kernel
theorem dX3_copyFrom_36 : decode cX3_copyFrom 36 = .ok (.getfield 15, 3) := by decide +kernel
theorem dX3_copyFrom_39 : decode cX3_copyFrom 39 = .ok (.iload_n 2, 1) := by decide +kernel
theorem dX3_copyFrom_40 : decode cX3_copyFrom 40 = .ok (.iaload, 1) := by decide +kernel
theorem dX3_copyFrom_41 : decode cX3_copyFrom 41 = .ok (.iastore, 1) := by decide +kernel
theorem dX3_copyFrom_42 : decode cX3_copyFrom 42 = .ok (.aload_n 0, 1) := by decide +kernel
theorem dX3_copyFrom_43 : decode cX3_copyFrom 43 = .ok (.getfield 18, 3) := by decide +kernel
theorem dX3_copyFrom_46 : decode cX3_copyFrom 46 = .ok (.iload_n 2, 1) := by decide +kernel
theorem dX3_copyFrom_47 : decode cX3_copyFrom 47 = .ok (.aload_n 1, 1) := by decide +kernel
theorem dX3_copyFrom_48 : decode cX3_copyFrom 48 = .ok (.getfield 18, 3) := by decide +kernel
theorem dX3_copyFrom_51 : decode cX3_copyFrom 51 = .ok (.iload_n 2, 1) := by decide +kernel
theorem dX3_copyFrom_52 : decode cX3_copyFrom 52 = .ok (.iaload, 1) := by decide +kernel
theorem dX3_copyFrom_53 : decode cX3_copyFrom 53 = .ok (.iastore, 1) := by decide +kernel
theorem dX3_copyFrom_54 : decode cX3_copyFrom 54 = .ok (.aload_n 0, 1) := by decide +kernel
theorem dX3_copyFrom_55 : decode cX3_copyFrom 55 = .ok (.getfield 21, 3) := by decide +kernel
theorem dX3_copyFrom_58 : decode cX3_copyFrom 58 = .ok (.iload_n 2, 1) := by decide +kernel
theorem dX3_copyFrom_59 : decode cX3_copyFrom 59 = .ok (.aload_n 1, 1) := by decide +kernel
theorem dX3_copyFrom_60 : decode cX3_copyFrom 60 = .ok (.getfield 21, 3) := by decide +kernel
theorem dX3_copyFrom_63 : decode cX3_copyFrom 63 = .ok (.iload_n 2, 1) := by decide +kernel
theorem dX3_copyFrom_64 : decode cX3_copyFrom 64 = .ok (.iaload, 1) := by decide +kernel
theorem dX3_copyFrom_65 : decode cX3_copyFrom 65 = .ok (.iastore, 1) := by decide +kernel
theorem dX3_copyFrom_66 : decode cX3_copyFrom 66 = .ok (.iinc 2 1, 3) := by decide +kernel
theorem dX3_copyFrom_69 : decode cX3_copyFrom 69 = .ok (.goto (-59), 3) := by decide +kernel
theorem dX3_copyFrom_72 : decode cX3_copyFrom 72 = .ok (.aload_n 0, 1) := by decide +kernel
theorem dX3_copyFrom_73 : decode cX3_copyFrom 73 = .ok (.aload_n 1, 1) := by decide +kernel
theorem dX3_copyFrom_74 : decode cX3_copyFrom 74 = .ok (.getfield 41, 3) := by decide +kernel
theorem dX3_copyFrom_77 : decode cX3_copyFrom 77 = .ok (.putfield 41, 3) := by decide +kernel
theorem dX3_copyFrom_80 : decode cX3_copyFrom 80 = .ok (.iconst 0, 1) := by decide +kernel
theorem dX3_copyFrom_81 : decode cX3_copyFrom 81 = .ok (.istore_n 2, 1) := by decide +kernel
theorem dX3_copyFrom_82 : decode cX3_copyFrom 82 = .ok (.iload_n 2, 1) := by decide +kernel
theorem dX3_copyFrom_83 : decode cX3_copyFrom 83 = .ok (.aload_n 0, 1) := by decide +kernel
theorem dX3_copyFrom_84 : decode cX3_copyFrom 84 = .ok (.getfield 41, 3) := by decide +kernel
theorem dX3_copyFrom_87 : decode cX3_copyFrom 87 = .ok (.if_icmp .ge 24, 3) := by decide +kernel
theorem dX3_copyFrom_90 : decode cX3_copyFrom 90 = .ok (.aload_n 0, 1) := by decide +kernel
theorem dX3_copyFrom_91 : decode cX3_copyFrom 91 = .ok (.getfield 26, 3) := by decide +kernel
theorem dX3_copyFrom_94 : decode cX3_copyFrom 94 = .ok (.iload_n 2, 1) := by decide +kernel
theorem dX3_copyFrom_95 : decode cX3_copyFrom 95 = .ok (.aaload, 1) := by decide +kernel
theorem dX3_copyFrom_96 : decode cX3_copyFrom 96 = .ok (.aload_n 1, 1) := by decide +kernel
theorem dX3_copyFrom_97 : decode cX3_copyFrom 97 = .ok (.getfield 26, 3) := by decide +kernel
theorem dX3_copyFrom_100 : decode cX3_copyFrom 100 = .ok (.iload_n 2, 1) := by decide +kernel
theorem dX3_copyFrom_101 : decode cX3_copyFrom 101 = .ok (.aaload, 1) := by decide +kernel
theorem dX3_copyFrom_102 : decode cX3_copyFrom 102 = .ok (.invokevirtual 47, 3) := by decide +kernel
theorem dX3_copyFrom_105 : decode cX3_copyFrom 105 = .ok (.iinc 2 1, 3) := by decide +kernel
theorem dX3_copyFrom_108 : decode cX3_copyFrom 108 = .ok (.goto (-26), 3) := by decide +kernel
theorem dX3_copyFrom_111 : decode cX3_copyFrom 111 = .ok (.return_, 1) := by decide +kernel
theorem dX3_sumUpTo_0 : decode cX3_sumUpTo 0 = .ok (.aload_n 0, 1) := by decide +kernel
theorem dX3_sumUpTo_1 : decode cX3_sumUpTo 1 = .ok (.getfield 9, 3) := by decide +kernel
theorem dX3_sumUpTo_4 : decode cX3_sumUpTo 4 = .ok (.iload_n 2, 1) := by decide +kernel
theorem dX3_sumUpTo_5 : decode cX3_sumUpTo 5 = .ok (.iaload, 1) := by decide +kernel
theorem dX3_sumUpTo_6 : decode cX3_sumUpTo 6 = .ok (.iconst 1, 1) := by decide +kernel
theorem dX3_sumUpTo_7 : decode cX3_sumUpTo 7 = .ok (.if_icmp .ne 5, 3) := by decide +kernel
theorem dX3_sumUpTo_10 : decode cX3_sumUpTo 10 = .ok (.iconst (-1), 1) := by decide +kernel
theorem dX3_sumUpTo_11 : decode cX3_sumUpTo 11 = .ok (.ireturn, 1) := by decide +kernel
theorem dX3_sumUpTo_12 : decode cX3_sumUpTo 12 = .ok (.iload_n 1, 1) := by decide +kernel
theorem dX3_sumUpTo_13 : decode cX3_sumUpTo 13 = .ok (.ifCond .ge 7, 3) := by decide +kernel
theorem dX3_sumUpTo_16 : decode cX3_sumUpTo 16 = .ok (.iconst 0, 1) := by decide +kernel
theorem dX3_sumUpTo_17 : decode cX3_sumUpTo 17 = .ok (.goto 14, 3) := by decide +kernel
theorem dX3_sumUpTo_20 : decode cX3_sumUpTo 20 = .ok (.aload_n 0, 1) := by decide +kernel
theorem dX3_sumUpTo_21 : decode cX3_sumUpTo 21 = .ok (.getfield 26, 3) := by decide +kernel
theorem dX3_sumUpTo_24 : decode cX3_sumUpTo 24 = .ok (.iload_n 1, 1) := by decide +kernel
theorem dX3_sumUpTo_25 : decode cX3_sumUpTo 25 = .ok (.aaload, 1) := by decide +kernel
theorem dX3_sumUpTo_26 : decode cX3_sumUpTo 26 = .ok (.getfield 51, 3) := by decide +kernel
theorem dX3_sumUpTo_29 : decode cX3_sumUpTo 29 = .ok (.iload_n 2, 1) := by decide +kernel
theorem dX3_sumUpTo_30 : decode cX3_sumUpTo 30 = .ok (.iaload, 1) := by decide +kernel
theorem dX3_sumUpTo_31 : decode cX3_sumUpTo 31 = .ok (.ireturn, 1) := by decide +kernel
theorem dX3_linesOfNotes_0 : decode cX3_linesOfNotes 0 = .ok (.iconst 0, 1) := by decide +kernel
theorem dX3_linesOfNotes_1 : decode cX3_linesOfNotes 1 = .ok (.istore_n 1, 1) := by decide +kernel
theorem dX3_linesOfNotes_2 : decode cX3_linesOfNotes 2 = .ok (.iconst 0, 1) := by decide +kernel
theorem dX3_linesOfNotes_3 : decode cX3_linesOfNotes 3 = .ok (.istore_n 2, 1) := by decide +kernel
theorem dX3_linesOfNotes_4 : decode cX3_linesOfNotes 4 = .ok (.iload_n 2, 1) := by decide +kernel
theorem dX3_linesOfNotes_5 : decode cX3_linesOfNotes 5 = .ok (.aload_n 0, 1) := by decide +kernel
theorem dX3_linesOfNotes_6 : decode cX3_linesOfNotes 6 = .ok (.getfield 41, 3) := by decide +kernel
theorem dX3_linesOfNotes_9 : decode cX3_linesOfNotes 9 = .ok (.if_icmp .ge 21, 3) := by decide +kernel
theorem dX3_linesOfNotes_12 : decode cX3_linesOfNotes 12 = .ok (.iload_n 1, 1) := by decide +kernel
theorem dX3_linesOfNotes_13 : decode cX3_linesOfNotes 13 = .ok (.aload_n 0, 1) := by decide +kernel
theorem dX3_linesOfNotes_14 : decode cX3_linesOfNotes 14 = .ok (.getfield 26, 3) := by decide +kernel
theorem dX3_linesOfNotes_17 : decode cX3_linesOfNotes 17 = .ok (.iload_n 2, 1) := by decide +kernel
theorem dX3_linesOfNotes_18 : decode cX3_linesOfNotes 18 = .ok (.aaload, 1) := by decide +kernel
theorem dX3_linesOfNotes_19 : decode cX3_linesOfNotes 19 = .ok (.getfield 54, 3) := by decide +kernel
theorem dX3_linesOfNotes_22 : decode cX3_linesOfNotes 22 = .ok (.iadd, 1) := by decide +kernel
theorem dX3_linesOfNotes_23 : decode cX3_linesOfNotes 23 = .ok (.istore_n 1, 1) := by decide +kernel
theorem dX3_linesOfNotes_24 : decode cX3_linesOfNotes 24 = .ok (.iinc 2 1, 3) := by decide +kernel
theorem dX3_linesOfNotes_27 : decode cX3_linesOfNotes 27 = .ok (.goto (-23), 3) := by decide +kernel
theorem dX3_linesOfNotes_30 : decode cX3_linesOfNotes 30 = .ok (.iload_n 1, 1) := by decide +kernel
theorem dX3_linesOfNotes_31 : decode cX3_linesOfNotes 31 = .ok (.ireturn, 1) := by decide +kernel
theorem dX3_isSpanning_0 : decode cX3_isSpanning 0 = .ok (.iload_n 2, 1) := by decide +kernel
theorem dX3_isSpanning_1 : decode cX3_isSpanning 1 = .ok (.iconst 1, 1) := by decide +kernel
theorem dX3_isSpanning_2 : decode cX3_isSpanning 2 = .ok (.iadd, 1) := by decide +kernel
theorem dX3_isSpanning_3 : decode cX3_isSpanning 3 = .ok (.aload_n 0, 1) := by decide +kernel
theorem dX3_isSpanning_4 : decode cX3_isSpanning 4 = .ok (.getfield 37, 3) := by decide +kernel
theorem dX3_isSpanning_7 : decode cX3_isSpanning 7 = .ok (.if_icmp .ge 23, 3) := by decide +kernel
theorem dX3_isSpanning_10 : decode cX3_isSpanning 10 = .ok (.aload_n 0, 1) := by decide +kernel
theorem dX3_isSpanning_11 : decode cX3_isSpanning 11 = .ok (.getfield 26, 3) := by decide +kernel
theorem dX3_isSpanning_14 : decode cX3_isSpanning 14 = .ok (.iload_n 1, 1) := by decide +kernel
theorem dX3_isSpanning_15 : decode cX3_isSpanning 15 = .ok (.aaload, 1) := by decide +kernel
theorem dX3_isSpanning_16 : decode cX3_isSpanning 16 = .ok (.getfield 57, 3) := by decide +kernel
theorem dX3_isSpanning_19 : decode cX3_isSpanning 19 = .ok (.iload_n 2, 1) := by decide +kernel
theorem dX3_isSpanning_20 : decode cX3_isSpanning 20 = .ok (.iconst 1, 1) := by decide +kernel
theorem dX3_isSpanning_21 : decode cX3_isSpanning 21 = .ok (.iadd, 1) := by decide +kernel
theorem dX3_isSpanning_22 : decode cX3_isSpanning 22 = .ok (.baload, 1) := by decide +kernel
theorem dX3_isSpanning_23 : decode cX3_isSpanning 23 = .ok (.ifCond .eq 7, 3) := by decide +kernel
theorem dX3_isSpanning_26 : decode cX3_isSpanning 26 = .ok (.iconst 1, 1) := by decide +kernel
theorem dX3_isSpanning_27 : decode cX3_isSpanning 27 = .ok (.goto 4, 3) := by decide +kernel
theorem dX3_isSpanning_30 : decode cX3_isSpanning 30 = .ok (.iconst 0, 1) := by decide +kernel
theorem dX3_isSpanning_31 : decode cX3_isSpanning 31 = .ok (.ireturn, 1) := by decide +kernel
set_option maxRecDepth 20000 in
theorem ggX3_reckon_X3_reckonHidden : GoodIn wsX3_reckon wsX3_reckonHidden := goodIn_r _ [7, 2, 8, 9, 52, 53, 54, 55, 56, 57, 58, 59, 60, 61, 62, 63, 64, 65, 66, 67, 68] (by decide +kernel) (by decide +kernel)
set_option maxRecDepth 20000 in
theorem gX3_reckon_X3_reckonHidden : GoodIn wsX3_reckon (wsV RX3 61 RX3 yX3_reckonHidden wsX3_reckonHidden) := goodIn_app (goodIn_of _ (by decide +kernel)) ggX3_reckon_X3_reckonHidden
set_option maxRecDepth 20000 in
theorem ggX3_reckon_X3_reckonNumbers : GoodIn wsX3_reckon wsX3_reckonNumbers := goodIn_r _ [13, 8, 9, 2, 14, 15, 16, 17, 6, 18, 19, 20, 21, 22, 23, 24, 25, 26, 27, 52, 53, 54, 55, 56, 57, 58, 59, 60, 61, 62, 63, 64, 65, 66, 67, 68] (by decide +kernel) (by decide +kernel)
set_option maxRecDepth 20000 in
theorem gX3_reckon_X3_reckonNumbers : GoodIn wsX3_reckon (wsV RX3 65 RX3 yX3_reckonNumbers wsX3_reckonNumbers) := goodIn_app (goodIn_of _ (by decide +kernel)) ggX3_reckon_X3_reckonNumbers
set_option maxRecDepth 20000 in
theorem ggX3_reckon_X3_measureText : GoodIn wsX3_reckon wsX3_measureText := goodIn_r _ [31, 32, 8, 9, 33, 34, 23, 35, 36, 37, 38, 39, 40, 41, 42, 43, 6, 44, 1, 52, 53, 54, 55, 56, 57, 58, 59, 60, 61, 62, 63, 64, 65, 66, 67, 68] (by decide +kernel) (by decide +kernel)
set_option maxRecDepth 20000 in
theorem gX3_reckon_X3_measureText : GoodIn wsX3_reckon (wsV RX3 68 RX3 yX3_measureText wsX3_measureText) := goodIn_app (goodIn_of _ (by decide +kernel)) ggX3_reckon_X3_measureText
set_option maxRecDepth 20000 in
theorem ggX3_reckon_X3_measureNumbers : GoodIn wsX3_reckon wsX3_measureNumbers := goodIn_r _ [48, 32, 8, 9, 33, 34, 23, 35, 36, 37, 49, 50, 6, 51, 52, 53, 54, 55, 56, 57, 58, 59, 60, 61, 62, 63, 64, 65, 66, 67, 68] (by decide +kernel) (by decide +kernel)
set_option maxRecDepth 20000 in
theorem gX3_reckon_X3_measureNumbers : GoodIn wsX3_reckon (wsV RX3 71 RX3 yX3_measureNumbers wsX3_measureNumbers) := goodIn_app (goodIn_of _ (by decide +kernel)) ggX3_reckon_X3_measureNumbers
theorem dX3_reckon_0 : decode cX3_reckon 0 = .ok (.iconst 0, 1) := by decide +kernel
theorem dX3_reckon_1 : decode cX3_reckon 1 = .ok (.istore_n 1, 1) := by decide +kernel
theorem dX3_reckon_2 : decode cX3_reckon 2 = .ok (.iload_n 1, 1) := by decide +kernel
theorem dX3_reckon_3 : decode cX3_reckon 3 = .ok (.aload_n 0, 1) := by decide +kernel
theorem dX3_reckon_4 : decode cX3_reckon 4 = .ok (.getfield 37, 3) := by decide +kernel
theorem dX3_reckon_7 : decode cX3_reckon 7 = .ok (.if_icmp .ge 32, 3) := by decide +kernel
theorem dX3_reckon_10 : decode cX3_reckon 10 = .ok (.aload_n 0, 1) := by decide +kernel
theorem dX3_reckon_11 : decode cX3_reckon 11 = .ok (.getfield 9, 3) := by decide +kernel
theorem dX3_reckon_14 : decode cX3_reckon 14 = .ok (.iload_n 1, 1) := by decide +kernel
theorem dX3_reckon_15 : decode cX3_reckon 15 = .ok (.iaload, 1) := by decide +kernel
theorem dX3_reckon_16 : decode cX3_reckon 16 = .ok (.iconst 1, 1) := by decide +kernel
theorem dX3_reckon_17 : decode cX3_reckon 17 = .ok (.if_icmp .ne 11, 3) := by decide +kernel
theorem dX3_reckon_20 : decode cX3_reckon 20 = .ok (.aload_n 0, 1) := by decide +kernel
theorem dX3_reckon_21 : decode cX3_reckon 21 = .ok (.iload_n 1, 1) := by decide +kernel
theorem dX3_reckon_22 : decode cX3_reckon 22 = .ok (.invokevirtual 61, 3) := by decide +kernel
theorem dX3_reckon_25 : decode cX3_reckon 25 = .ok (.goto 8, 3) := by decide +kernel
theorem dX3_reckon_28 : decode cX3_reckon 28 = .ok (.aload_n 0, 1) := by decide +kernel
theorem dX3_reckon_29 : decode cX3_reckon 29 = .ok (.iload_n 1, 1) := by decide +kernel
theorem dX3_reckon_30 : decode cX3_reckon 30 = .ok (.invokevirtual 65, 3) := by decide +kernel
theorem dX3_reckon_33 : decode cX3_reckon 33 = .ok (.iinc 1 1, 3) := by decide +kernel
theorem dX3_reckon_36 : decode cX3_reckon 36 = .ok (.goto (-34), 3) := by decide +kernel
theorem dX3_reckon_39 : decode cX3_reckon 39 = .ok (.iconst 0, 1) := by decide +kernel
theorem dX3_reckon_40 : decode cX3_reckon 40 = .ok (.istore_n 1, 1) := by decide +kernel
theorem dX3_reckon_41 : decode cX3_reckon 41 = .ok (.iload_n 1, 1) := by decide +kernel
theorem dX3_reckon_42 : decode cX3_reckon 42 = .ok (.aload_n 0, 1) := by decide +kernel
theorem dX3_reckon_43 : decode cX3_reckon 43 = .ok (.getfield 37, 3) := by decide +kernel
theorem dX3_reckon_46 : decode cX3_reckon 46 = .ok (.if_icmp .ge 32, 3) := by decide +kernel
theorem dX3_reckon_49 : decode cX3_reckon 49 = .ok (.aload_n 0, 1) := by decide +kernel
theorem dX3_reckon_50 : decode cX3_reckon 50 = .ok (.getfield 9, 3) := by decide +kernel
theorem dX3_reckon_53 : decode cX3_reckon 53 = .ok (.iload_n 1, 1) := by decide +kernel
theorem dX3_reckon_54 : decode cX3_reckon 54 = .ok (.iaload, 1) := by decide +kernel
theorem dX3_reckon_55 : decode cX3_reckon 55 = .ok (.iconst 1, 1) := by decide +kernel
theorem dX3_reckon_56 : decode cX3_reckon 56 = .ok (.if_icmp .ne 11, 3) := by decide +kernel
theorem dX3_reckon_59 : decode cX3_reckon 59 = .ok (.aload_n 0, 1) := by decide +kernel
theorem dX3_reckon_60 : decode cX3_reckon 60 = .ok (.iload_n 1, 1) := by decide +kernel
theorem dX3_reckon_61 : decode cX3_reckon 61 = .ok (.invokevirtual 68, 3) := by decide +kernel
theorem dX3_reckon_64 : decode cX3_reckon 64 = .ok (.goto 8, 3) := by decide +kernel
theorem dX3_reckon_67 : decode cX3_reckon 67 = .ok (.aload_n 0, 1) := by decide +kernel
theorem dX3_reckon_68 : decode cX3_reckon 68 = .ok (.iload_n 1, 1) := by decide +kernel
theorem dX3_reckon_69 : decode cX3_reckon 69 = .ok (.invokevirtual 71, 3) := by decide +kernel
theorem dX3_reckon_72 : decode cX3_reckon 72 = .ok (.iinc 1 1, 3) := by decide +kernel
theorem dX3_reckon_75 : decode cX3_reckon 75 = .ok (.goto (-34), 3) := by decide +kernel
theorem dX3_reckon_78 : decode cX3_reckon 78 = .ok (.return_, 1) := by decide +kernel
theorem dX3_reckonHidden_0 : decode cX3_reckonHidden 0 = .ok (.iload_n 1, 1) := by decide +kernel
theorem dX3_reckonHidden_1 : decode cX3_reckonHidden 1 = .ok (.ifCond .le 19, 3) := by decide +kernel
theorem dX3_reckonHidden_4 : decode cX3_reckonHidden 4 = .ok (.aload_n 0, 1) := by decide +kernel
theorem dX3_reckonHidden_5 : decode cX3_reckonHidden 5 = .ok (.getfield 9, 3) := by decide +kernel
theorem dX3_reckonHidden_8 : decode cX3_reckonHidden 8 = .ok (.iload_n 1, 1) := by decide +kernel
theorem dX3_reckonHidden_9 : decode cX3_reckonHidden 9 = .ok (.iconst 1, 1) := by decide +kernel
theorem dX3_reckonHidden_10 : decode cX3_reckonHidden 10 = .ok (.isub, 1) := by decide +kernel
theorem dX3_reckonHidden_11 : decode cX3_reckonHidden 11 = .ok (.iaload, 1) := by decide +kernel
theorem dX3_reckonHidden_12 : decode cX3_reckonHidden 12 = .ok (.iconst 1, 1) := by decide +kernel
theorem dX3_reckonHidden_13 : decode cX3_reckonHidden 13 = .ok (.if_icmp .ne 7, 3) := by decide +kernel
theorem dX3_reckonHidden_16 : decode cX3_reckonHidden 16 = .ok (.iconst 1, 1) := by decide +kernel
theorem dX3_reckonHidden_17 : decode cX3_reckonHidden 17 = .ok (.goto 4, 3) := by decide +kernel
theorem dX3_reckonHidden_20 : decode cX3_reckonHidden 20 = .ok (.iconst 0, 1) := by decide +kernel
theorem dX3_reckonHidden_21 : decode cX3_reckonHidden 21 = .ok (.istore_n 2, 1) := by decide +kernel
theorem dX3_reckonHidden_22 : decode cX3_reckonHidden 22 = .ok (.iconst 0, 1) := by decide +kernel
theorem dX3_reckonHidden_23 : decode cX3_reckonHidden 23 = .ok (.istore_n 3, 1) := by decide +kernel
theorem dX3_reckonHidden_24 : decode cX3_reckonHidden 24 = .ok (.iload_n 3, 1) := by decide +kernel
theorem dX3_reckonHidden_25 : decode cX3_reckonHidden 25 = .ok (.aload_n 0, 1) := by decide +kernel
theorem dX3_reckonHidden_26 : decode cX3_reckonHidden 26 = .ok (.getfield 41, 3) := by decide +kernel
theorem dX3_reckonHidden_29 : decode cX3_reckonHidden 29 = .ok (.if_icmp .ge 57, 3) := by decide +kernel
theorem dX3_reckonHidden_32 : decode cX3_reckonHidden 32 = .ok (.aload_n 0, 1) := by decide +kernel
theorem dX3_reckonHidden_33 : decode cX3_reckonHidden 33 = .ok (.getfield 26, 3) := by decide +kernel
theorem dX3_reckonHidden_36 : decode cX3_reckonHidden 36 = .ok (.iload_n 3, 1) := by decide +kernel
theorem dX3_reckonHidden_37 : decode cX3_reckonHidden 37 = .ok (.aaload, 1) := by decide +kernel
theorem dX3_reckonHidden_38 : decode cX3_reckonHidden 38 = .ok (.astore 4, 2) := by decide +kernel
theorem dX3_reckonHidden_40 : decode cX3_reckonHidden 40 = .ok (.aload 4, 2) := by decide +kernel
theorem dX3_reckonHidden_42 : decode cX3_reckonHidden 42 = .ok (.getfield 57, 3) := by decide +kernel
theorem dX3_reckonHidden_45 : decode cX3_reckonHidden 45 = .ok (.iload_n 1, 1) := by decide +kernel
theorem dX3_reckonHidden_46 : decode cX3_reckonHidden 46 = .ok (.iload_n 2, 1) := by decide +kernel
theorem dX3_reckonHidden_47 : decode cX3_reckonHidden 47 = .ok (.ifCond .eq 31, 3) := by decide +kernel
theorem dX3_reckonHidden_50 : decode cX3_reckonHidden 50 = .ok (.aload 4, 2) := by decide +kernel
theorem dX3_reckonHidden_52 : decode cX3_reckonHidden 52 = .ok (.getfield 74, 3) := by decide +kernel
theorem dX3_reckonHidden_55 : decode cX3_reckonHidden 55 = .ok (.iload_n 1, 1) := by decide +kernel
theorem dX3_reckonHidden_56 : decode cX3_reckonHidden 56 = .ok (.iconst 1, 1) := by decide +kernel
theorem dX3_reckonHidden_57 : decode cX3_reckonHidden 57 = .ok (.isub, 1) := by decide +kernel
theorem dX3_reckonHidden_58 : decode cX3_reckonHidden 58 = .ok (.baload, 1) := by decide +kernel
theorem dX3_reckonHidden_59 : decode cX3_reckonHidden 59 = .ok (.ifCond .eq 19, 3) := by decide +kernel
theorem dX3_reckonHidden_62 : decode cX3_reckonHidden 62 = .ok (.aload 4, 2) := by decide +kernel
theorem dX3_reckonHidden_64 : decode cX3_reckonHidden 64 = .ok (.getfield 57, 3) := by decide +kernel
theorem dX3_reckonHidden_67 : decode cX3_reckonHidden 67 = .ok (.iload_n 1, 1) := by decide +kernel
theorem dX3_reckonHidden_68 : decode cX3_reckonHidden 68 = .ok (.iconst 1, 1) := by decide +kernel
theorem dX3_reckonHidden_69 : decode cX3_reckonHidden 69 = .ok (.isub, 1) := by decide +kernel
theorem dX3_reckonHidden_70 : decode cX3_reckonHidden 70 = .ok (.baload, 1) := by decide +kernel
theorem dX3_reckonHidden_71 : decode cX3_reckonHidden 71 = .ok (.ifCond .ne 7, 3) := by decide +kernel
theorem dX3_reckonHidden_74 : decode cX3_reckonHidden 74 = .ok (.iconst 1, 1) := by decide +kernel
theorem dX3_reckonHidden_75 : decode cX3_reckonHidden 75 = .ok (.goto 4, 3) := by decide +kernel
theorem dX3_reckonHidden_78 : decode cX3_reckonHidden 78 = .ok (.iconst 0, 1) := by decide +kernel
theorem dX3_reckonHidden_79 : decode cX3_reckonHidden 79 = .ok (.bastore, 1) := by decide +kernel
theorem dX3_reckonHidden_80 : decode cX3_reckonHidden 80 = .ok (.iinc 3 1, 3) := by decide +kernel
theorem dX3_reckonHidden_83 : decode cX3_reckonHidden 83 = .ok (.goto (-59), 3) := by decide +kernel
theorem dX3_reckonHidden_86 : decode cX3_reckonHidden 86 = .ok (.return_, 1) := by decide +kernel
set_option maxRecDepth 20000 in
theorem ggX3_reckonNumbers_X3_resultOf : GoodIn wsX3_reckonNumbers wsX3_resultOf := goodIn_r _ [9, 10, 11, 12, 13, 14, 15, 16, 17, 18] (by decide +kernel) (by decide +kernel)
set_option maxRecDepth 20000 in
theorem gX3_reckonNumbers_X3_resultOf : GoodIn wsX3_reckonNumbers (va_wsS RX3 80 yX3_resultOf wsX3_resultOf) := goodIn_app (goodIn_of _ (by decide +kernel)) ggX3_reckonNumbers_X3_resultOf
theorem dX3_reckonNumbers_0 : decode cX3_reckonNumbers 0 = .ok (.iconst 0, 1) := by decide +kernel
theorem dX3_reckonNumbers_1 : decode cX3_reckonNumbers 1 = .ok (.istore_n 2, 1) := by decide +kernel
theorem dX3_reckonNumbers_2 : decode cX3_reckonNumbers 2 = .ok (.iconst 0, 1) := by decide +kernel
theorem dX3_reckonNumbers_3 : decode cX3_reckonNumbers 3 = .ok (.istore_n 3, 1) := by decide +kernel
theorem dX3_reckonNumbers_4 : decode cX3_reckonNumbers 4 = .ok (.iload_n 3, 1) := by decide +kernel
theorem dX3_reckonNumbers_5 : decode cX3_reckonNumbers 5 = .ok (.aload_n 0, 1) := by decide +kernel
theorem dX3_reckonNumbers_6 : decode cX3_reckonNumbers 6 = .ok (.getfield 41, 3) := by decide +kernel
theorem dX3_reckonNumbers_9 : decode cX3_reckonNumbers 9 = .ok (.if_icmp .ge 94, 3) := by decide +kernel
theorem dX3_reckonNumbers_12 : decode cX3_reckonNumbers 12 = .ok (.aload_n 0, 1) := by decide +kernel
theorem dX3_reckonNumbers_13 : decode cX3_reckonNumbers 13 = .ok (.getfield 26, 3) := by decide +kernel
theorem dX3_reckonNumbers_16 : decode cX3_reckonNumbers 16 = .ok (.iload_n 3, 1) := by decide +kernel
theorem dX3_reckonNumbers_17 : decode cX3_reckonNumbers 17 = .ok (.aaload, 1) := by decide +kernel
theorem dX3_reckonNumbers_18 : decode cX3_reckonNumbers 18 = .ok (.astore 4, 2) := by decide +kernel
theorem dX3_reckonNumbers_20 : decode cX3_reckonNumbers 20 = .ok (.aload_n 0, 1) := by decide +kernel
theorem dX3_reckonNumbers_21 : decode cX3_reckonNumbers 21 = .ok (.getfield 9, 3) := by decide +kernel
theorem dX3_reckonNumbers_24 : decode cX3_reckonNumbers 24 = .ok (.iload_n 1, 1) := by decide +kernel
theorem dX3_reckonNumbers_25 : decode cX3_reckonNumbers 25 = .ok (.iaload, 1) := by decide +kernel
theorem dX3_reckonNumbers_26 : decode cX3_reckonNumbers 26 = .ok (.ifCond .eq 53, 3) := by decide +kernel
theorem dX3_reckonNumbers_29 : decode cX3_reckonNumbers 29 = .ok (.aload 4, 2) := by decide +kernel
theorem dX3_reckonNumbers_31 : decode cX3_reckonNumbers 31 = .ok (.getfield 77, 3) := by decide +kernel
theorem dX3_reckonNumbers_34 : decode cX3_reckonNumbers 34 = .ok (.aload_n 0, 1) := by decide +kernel
theorem dX3_reckonNumbers_35 : decode cX3_reckonNumbers 35 = .ok (.getfield 18, 3) := by decide +kernel
theorem dX3_reckonNumbers_38 : decode cX3_reckonNumbers 38 = .ok (.iload_n 1, 1) := by decide +kernel
theorem dX3_reckonNumbers_39 : decode cX3_reckonNumbers 39 = .ok (.iaload, 1) := by decide +kernel
theorem dX3_reckonNumbers_40 : decode cX3_reckonNumbers 40 = .ok (.iaload, 1) := by decide +kernel
theorem dX3_reckonNumbers_41 : decode cX3_reckonNumbers 41 = .ok (.i2l, 1) := by decide +kernel
theorem dX3_reckonNumbers_42 : decode cX3_reckonNumbers 42 = .ok (.lstore 5, 2) := by decide +kernel
theorem dX3_reckonNumbers_44 : decode cX3_reckonNumbers 44 = .ok (.aload 4, 2) := by decide +kernel
theorem dX3_reckonNumbers_46 : decode cX3_reckonNumbers 46 = .ok (.getfield 77, 3) := by decide +kernel
theorem dX3_reckonNumbers_49 : decode cX3_reckonNumbers 49 = .ok (.aload_n 0, 1) := by decide +kernel
theorem dX3_reckonNumbers_50 : decode cX3_reckonNumbers 50 = .ok (.getfield 21, 3) := by decide +kernel
theorem dX3_reckonNumbers_53 : decode cX3_reckonNumbers 53 = .ok (.iload_n 1, 1) := by decide +kernel
theorem dX3_reckonNumbers_54 : decode cX3_reckonNumbers 54 = .ok (.iaload, 1) := by decide +kernel
theorem dX3_reckonNumbers_55 : decode cX3_reckonNumbers 55 = .ok (.iaload, 1) := by decide +kernel
theorem dX3_reckonNumbers_56 : decode cX3_reckonNumbers 56 = .ok (.i2l, 1) := by decide +kernel
theorem dX3_reckonNumbers_57 : decode cX3_reckonNumbers 57 = .ok (.lstore 7, 2) := by decide +kernel
theorem dX3_reckonNumbers_59 : decode cX3_reckonNumbers 59 = .ok (.aload 4, 2) := by decide +kernel
theorem dX3_reckonNumbers_61 : decode cX3_reckonNumbers 61 = .ok (.getfield 77, 3) := by decide +kernel
theorem dX3_reckonNumbers_64 : decode cX3_reckonNumbers 64 = .ok (.iload_n 1, 1) := by decide +kernel
theorem dX3_reckonNumbers_65 : decode cX3_reckonNumbers 65 = .ok (.aload_n 0, 1) := by decide +kernel
theorem dX3_reckonNumbers_66 : decode cX3_reckonNumbers 66 = .ok (.getfield 9, 3) := by decide +kernel
theorem dX3_reckonNumbers_69 : decode cX3_reckonNumbers 69 = .ok (.iload_n 1, 1) := by decide +kernel
theorem dX3_reckonNumbers_70 : decode cX3_reckonNumbers 70 = .ok (.iaload, 1) := by decide +kernel
theorem dX3_reckonNumbers_71 : decode cX3_reckonNumbers 71 = .ok (.lload 5, 2) := by decide +kernel
theorem dX3_reckonNumbers_73 : decode cX3_reckonNumbers 73 = .ok (.lload 7, 2) := by decide +kernel
theorem dX3_reckonNumbers_75 : decode cX3_reckonNumbers 75 = .ok (.invokestatic 80, 3) := by decide +kernel
theorem dX3_reckonNumbers_78 : decode cX3_reckonNumbers 78 = .ok (.iastore, 1) := by decide +kernel
theorem dX3_reckonNumbers_79 : decode cX3_reckonNumbers 79 = .ok (.iload_n 2, 1) := by decide +kernel
theorem dX3_reckonNumbers_80 : decode cX3_reckonNumbers 80 = .ok (.aload 4, 2) := by decide +kernel
theorem dX3_reckonNumbers_82 : decode cX3_reckonNumbers 82 = .ok (.getfield 77, 3) := by decide +kernel
theorem dX3_reckonNumbers_85 : decode cX3_reckonNumbers 85 = .ok (.iload_n 1, 1) := by decide +kernel
theorem dX3_reckonNumbers_86 : decode cX3_reckonNumbers 86 = .ok (.iaload, 1) := by decide +kernel
theorem dX3_reckonNumbers_87 : decode cX3_reckonNumbers 87 = .ok (.iadd, 1) := by decide +kernel
theorem dX3_reckonNumbers_88 : decode cX3_reckonNumbers 88 = .ok (.istore_n 2, 1) := by decide +kernel
theorem dX3_reckonNumbers_89 : decode cX3_reckonNumbers 89 = .ok (.aload 4, 2) := by decide +kernel
theorem dX3_reckonNumbers_91 : decode cX3_reckonNumbers 91 = .ok (.getfield 51, 3) := by decide +kernel
theorem dX3_reckonNumbers_94 : decode cX3_reckonNumbers 94 = .ok (.iload_n 1, 1) := by decide +kernel
theorem dX3_reckonNumbers_95 : decode cX3_reckonNumbers 95 = .ok (.iload_n 2, 1) := by decide +kernel
theorem dX3_reckonNumbers_96 : decode cX3_reckonNumbers 96 = .ok (.iastore, 1) := by decide +kernel
theorem dX3_reckonNumbers_97 : decode cX3_reckonNumbers 97 = .ok (.iinc 3 1, 3) := by decide +kernel
theorem dX3_reckonNumbers_100 : decode cX3_reckonNumbers 100 = .ok (.goto (-96), 3) := by decide +kernel
theorem dX3_reckonNumbers_103 : decode cX3_reckonNumbers 103 = .ok (.return_, 1) := by decide +kernel
theorem dX3_resultOf_0 : decode cX3_resultOf 0 = .ok (.iload_n 0, 1) := by decide +kernel
theorem dX3_resultOf_1 : decode cX3_resultOf 1 = .ok (.iconst 2, 1) := by decide +kernel
theorem dX3_resultOf_2 : decode cX3_resultOf 2 = .ok (.if_icmp .ne 11, 3) := by decide +kernel
theorem dX3_resultOf_5 : decode cX3_resultOf 5 = .ok (.lload_n 1, 1) := by decide +kernel
theorem dX3_resultOf_6 : decode cX3_resultOf 6 = .ok (.lload_n 3, 1) := by decide +kernel
theorem dX3_resultOf_7 : decode cX3_resultOf 7 = .ok (.ladd, 1) := by decide +kernel
theorem dX3_resultOf_8 : decode cX3_resultOf 8 = .ok (.lstore 5, 2) := by decide +kernel
theorem dX3_resultOf_10 : decode cX3_resultOf 10 = .ok (.goto 21, 3) := by decide +kernel
theorem dX3_resultOf_13 : decode cX3_resultOf 13 = .ok (.iload_n 0, 1) := by decide +kernel
theorem dX3_resultOf_14 : decode cX3_resultOf 14 = .ok (.iconst 3, 1) := by decide +kernel
theorem dX3_resultOf_15 : decode cX3_resultOf 15 = .ok (.if_icmp .ne 11, 3) := by decide +kernel
theorem dX3_resultOf_18 : decode cX3_resultOf 18 = .ok (.lload_n 1, 1) := by decide +kernel
theorem dX3_resultOf_19 : decode cX3_resultOf 19 = .ok (.lload_n 3, 1) := by decide +kernel
theorem dX3_resultOf_20 : decode cX3_resultOf 20 = .ok (.lsub, 1) := by decide +kernel
theorem dX3_resultOf_21 : decode cX3_resultOf 21 = .ok (.lstore 5, 2) := by decide +kernel
theorem dX3_resultOf_23 : decode cX3_resultOf 23 = .ok (.goto 8, 3) := by decide +kernel
theorem dX3_resultOf_26 : decode cX3_resultOf 26 = .ok (.lload_n 1, 1) := by decide +kernel
theorem dX3_resultOf_27 : decode cX3_resultOf 27 = .ok (.lload_n 3, 1) := by decide +kernel
theorem dX3_resultOf_28 : decode cX3_resultOf 28 = .ok (.lmul, 1) := by decide +kernel
theorem dX3_resultOf_29 : decode cX3_resultOf 29 = .ok (.lstore 5, 2) := by decide +kernel
theorem dX3_resultOf_31 : decode cX3_resultOf 31 = .ok (.ldc2_w 84, 3) := by decide +kernel
theorem dX3_resultOf_34 : decode cX3_resultOf 34 = .ok (.ldc2_w 86, 3) := by decide +kernel
theorem dX3_resultOf_37 : decode cX3_resultOf 37 = .ok (.lload 5, 2) := by decide +kernel
theorem dX3_resultOf_39 : decode cX3_resultOf 39 = .ok (.invokestatic 88, 3) := by decide +kernel
theorem dX3_resultOf_42 : decode cX3_resultOf 42 = .ok (.invokestatic 94, 3) := by decide +kernel
theorem dX3_resultOf_45 : decode cX3_resultOf 45 = .ok (.l2i, 1) := by decide +kernel
theorem dX3_resultOf_46 : decode cX3_resultOf 46 = .ok (.ireturn, 1) := by decide +kernel
set_option maxRecDepth 20000 in
theorem ggX3_measureText_X3_isSpanning : GoodIn wsX3_measureText wsX3_isSpanning := goodIn_r _ [17, 18, 3, 19, 20, 21, 22, 23, 24, 25, 26, 27, 28, 29, 30, 31, 32, 33, 34, 35] (by decide +kernel) (by decide +kernel)
set_option maxRecDepth 20000 in
theorem gX3_measureText_X3_isSpanning : GoodIn wsX3_measureText (wsV RX3 97 RX3 yX3_isSpanning wsX3_isSpanning) := goodIn_app (goodIn_of _ (by decide +kernel)) ggX3_measureText_X3_isSpanning
theorem dX3_measureText_0 : decode cX3_measureText 0 = .ok (.aload_n 0, 1) := by decide +kernel
theorem dX3_measureText_1 : decode cX3_measureText 1 = .ok (.getfield 15, 3) := by decide +kernel
theorem dX3_measureText_4 : decode cX3_measureText 4 = .ok (.iload_n 1, 1) := by decide +kernel
theorem dX3_measureText_5 : decode cX3_measureText 5 = .ok (.iaload, 1) := by decide +kernel
theorem dX3_measureText_6 : decode cX3_measureText 6 = .ok (.istore_n 2, 1) := by decide +kernel
theorem dX3_measureText_7 : decode cX3_measureText 7 = .ok (.iconst 0, 1) := by decide +kernel
theorem dX3_measureText_8 : decode cX3_measureText 8 = .ok (.istore_n 3, 1) := by decide +kernel
theorem dX3_measureText_9 : decode cX3_measureText 9 = .ok (.iconst 0, 1) := by decide +kernel
theorem dX3_measureText_10 : decode cX3_measureText 10 = .ok (.istore 4, 2) := by decide +kernel
theorem dX3_measureText_12 : decode cX3_measureText 12 = .ok (.iload 4, 2) := by decide +kernel
theorem dX3_measureText_14 : decode cX3_measureText 14 = .ok (.aload_n 0, 1) := by decide +kernel
theorem dX3_measureText_15 : decode cX3_measureText 15 = .ok (.getfield 41, 3) := by decide +kernel
theorem dX3_measureText_18 : decode cX3_measureText 18 = .ok (.if_icmp .ge 68, 3) := by decide +kernel
theorem dX3_measureText_21 : decode cX3_measureText 21 = .ok (.aload_n 0, 1) := by decide +kernel
theorem dX3_measureText_22 : decode cX3_measureText 22 = .ok (.getfield 26, 3) := by decide +kernel
theorem dX3_measureText_25 : decode cX3_measureText 25 = .ok (.iload 4, 2) := by decide +kernel
theorem dX3_measureText_27 : decode cX3_measureText 27 = .ok (.aaload, 1) := by decide +kernel
theorem dX3_measureText_28 : decode cX3_measureText 28 = .ok (.getfield 57, 3) := by decide +kernel
theorem dX3_measureText_31 : decode cX3_measureText 31 = .ok (.iload_n 1, 1) := by decide +kernel
theorem dX3_measureText_32 : decode cX3_measureText 32 = .ok (.baload, 1) := by decide +kernel
theorem dX3_measureText_33 : decode cX3_measureText 33 = .ok (.ifCond .ne 47, 3) := by decide +kernel
theorem dX3_measureText_36 : decode cX3_measureText 36 = .ok (.aload_n 0, 1) := by decide +kernel
theorem dX3_measureText_37 : decode cX3_measureText 37 = .ok (.iload 4, 2) := by decide +kernel
theorem dX3_measureText_39 : decode cX3_measureText 39 = .ok (.iload_n 1, 1) := by decide +kernel
theorem dX3_measureText_40 : decode cX3_measureText 40 = .ok (.invokevirtual 97, 3) := by decide +kernel
theorem dX3_measureText_43 : decode cX3_measureText 43 = .ok (.ifCond .ne 37, 3) := by decide +kernel
theorem dX3_measureText_46 : decode cX3_measureText 46 = .ok (.iload_n 2, 1) := by decide +kernel
theorem dX3_measureText_47 : decode cX3_measureText 47 = .ok (.aload_n 0, 1) := by decide +kernel
theorem dX3_measureText_48 : decode cX3_measureText 48 = .ok (.getfield 26, 3) := by decide +kernel
theorem dX3_measureText_51 : decode cX3_measureText 51 = .ok (.iload 4, 2) := by decide +kernel
theorem dX3_measureText_53 : decode cX3_measureText 53 = .ok (.aaload, 1) := by decide +kernel
theorem dX3_measureText_54 : decode cX3_measureText 54 = .ok (.getfield 101, 3) := by decide +kernel
theorem dX3_measureText_57 : decode cX3_measureText 57 = .ok (.iload_n 1, 1) := by decide +kernel
theorem dX3_measureText_58 : decode cX3_measureText 58 = .ok (.iaload, 1) := by decide +kernel
theorem dX3_measureText_59 : decode cX3_measureText 59 = .ok (.invokestatic 104, 3) := by decide +kernel
theorem dX3_measureText_62 : decode cX3_measureText 62 = .ok (.istore_n 2, 1) := by decide +kernel
theorem dX3_measureText_63 : decode cX3_measureText 63 = .ok (.iload_n 3, 1) := by decide +kernel
theorem dX3_measureText_64 : decode cX3_measureText 64 = .ok (.aload_n 0, 1) := by decide +kernel
theorem dX3_measureText_65 : decode cX3_measureText 65 = .ok (.getfield 26, 3) := by decide +kernel
theorem dX3_measureText_68 : decode cX3_measureText 68 = .ok (.iload 4, 2) := by decide +kernel
theorem dX3_measureText_70 : decode cX3_measureText 70 = .ok (.aaload, 1) := by decide +kernel
theorem dX3_measureText_71 : decode cX3_measureText 71 = .ok (.getfield 107, 3) := by decide +kernel
theorem dX3_measureText_74 : decode cX3_measureText 74 = .ok (.iload_n 1, 1) := by decide +kernel
theorem dX3_measureText_75 : decode cX3_measureText 75 = .ok (.iaload, 1) := by decide +kernel
theorem dX3_measureText_76 : decode cX3_measureText 76 = .ok (.invokestatic 104, 3) := by decide +kernel
theorem dX3_measureText_79 : decode cX3_measureText 79 = .ok (.istore_n 3, 1) := by decide +kernel
theorem dX3_measureText_80 : decode cX3_measureText 80 = .ok (.iinc 4 1, 3) := by decide +kernel
theorem dX3_measureText_83 : decode cX3_measureText 83 = .ok (.goto (-71), 3) := by decide +kernel
theorem dX3_measureText_86 : decode cX3_measureText 86 = .ok (.aload_n 0, 1) := by decide +kernel
theorem dX3_measureText_87 : decode cX3_measureText 87 = .ok (.getfield 30, 3) := by decide +kernel
theorem dX3_measureText_90 : decode cX3_measureText 90 = .ok (.iload_n 1, 1) := by decide +kernel
theorem dX3_measureText_91 : decode cX3_measureText 91 = .ok (.iload_n 2, 1) := by decide +kernel
theorem dX3_measureText_92 : decode cX3_measureText 92 = .ok (.iastore, 1) := by decide +kernel
theorem dX3_measureText_93 : decode cX3_measureText 93 = .ok (.aload_n 0, 1) := by decide +kernel
theorem dX3_measureText_94 : decode cX3_measureText 94 = .ok (.getfield 33, 3) := by decide +kernel
theorem dX3_measureText_97 : decode cX3_measureText 97 = .ok (.iload_n 1, 1) := by decide +kernel
theorem dX3_measureText_98 : decode cX3_measureText 98 = .ok (.iload_n 2, 1) := by decide +kernel
theorem dX3_measureText_99 : decode cX3_measureText 99 = .ok (.bipush 30, 2) := by decide +kernel
theorem dX3_measureText_101 : decode cX3_measureText 101 = .ok (.iload_n 3, 1) := by decide +kernel
theorem dX3_measureText_102 : decode cX3_measureText 102 = .ok (.invokestatic 110, 3) := by decide +kernel
theorem dX3_measureText_105 : decode cX3_measureText 105 = .ok (.invokestatic 104, 3) := by decide +kernel
theorem dX3_measureText_108 : decode cX3_measureText 108 = .ok (.iastore, 1) := by decide +kernel
theorem dX3_measureText_109 : decode cX3_measureText 109 = .ok (.return_, 1) := by decide +kernel
set_option maxRecDepth 20000 in
theorem ggX3_measureNumbers_X3_sizeOf : GoodIn wsX3_measureNumbers wsX3_sizeOf := goodIn_r _ [13] (by decide +kernel) (by decide +kernel)
set_option maxRecDepth 20000 in
theorem gX3_measureNumbers_X3_sizeOf : GoodIn wsX3_measureNumbers (va_wsS RX3 112 yX3_sizeOf wsX3_sizeOf) := goodIn_app (goodIn_of _ (by decide +kernel)) ggX3_measureNumbers_X3_sizeOf
theorem dX3_measureNumbers_0 : decode cX3_measureNumbers 0 = .ok (.aload_n 0, 1) := by decide +kernel
theorem dX3_measureNumbers_1 : decode cX3_measureNumbers 1 = .ok (.getfield 15, 3) := by decide +kernel
theorem dX3_measureNumbers_4 : decode cX3_measureNumbers 4 = .ok (.iload_n 1, 1) := by decide +kernel
theorem dX3_measureNumbers_5 : decode cX3_measureNumbers 5 = .ok (.iaload, 1) := by decide +kernel
theorem dX3_measureNumbers_6 : decode cX3_measureNumbers 6 = .ok (.istore_n 2, 1) := by decide +kernel
theorem dX3_measureNumbers_7 : decode cX3_measureNumbers 7 = .ok (.iconst 0, 1) := by decide +kernel
theorem dX3_measureNumbers_8 : decode cX3_measureNumbers 8 = .ok (.istore_n 3, 1) := by decide +kernel
theorem dX3_measureNumbers_9 : decode cX3_measureNumbers 9 = .ok (.iload_n 3, 1) := by decide +kernel
theorem dX3_measureNumbers_10 : decode cX3_measureNumbers 10 = .ok (.aload_n 0, 1) := by decide +kernel
theorem dX3_measureNumbers_11 : decode cX3_measureNumbers 11 = .ok (.getfield 41, 3) := by decide +kernel
theorem dX3_measureNumbers_14 : decode cX3_measureNumbers 14 = .ok (.if_icmp .ge 47, 3) := by decide +kernel
theorem dX3_measureNumbers_17 : decode cX3_measureNumbers 17 = .ok (.iload_n 2, 1) := by decide +kernel
theorem dX3_measureNumbers_18 : decode cX3_measureNumbers 18 = .ok (.aload_n 0, 1) := by decide +kernel
theorem dX3_measureNumbers_19 : decode cX3_measureNumbers 19 = .ok (.getfield 26, 3) := by decide +kernel
theorem dX3_measureNumbers_22 : decode cX3_measureNumbers 22 = .ok (.iload_n 3, 1) := by decide +kernel
theorem dX3_measureNumbers_23 : decode cX3_measureNumbers 23 = .ok (.aaload, 1) := by decide +kernel
theorem dX3_measureNumbers_24 : decode cX3_measureNumbers 24 = .ok (.getfield 77, 3) := by decide +kernel
theorem dX3_measureNumbers_27 : decode cX3_measureNumbers 27 = .ok (.iload_n 1, 1) := by decide +kernel
theorem dX3_measureNumbers_28 : decode cX3_measureNumbers 28 = .ok (.iaload, 1) := by decide +kernel
theorem dX3_measureNumbers_29 : decode cX3_measureNumbers 29 = .ok (.invokestatic 112, 3) := by decide +kernel
theorem dX3_measureNumbers_32 : decode cX3_measureNumbers 32 = .ok (.invokestatic 104, 3) := by decide +kernel
theorem dX3_measureNumbers_35 : decode cX3_measureNumbers 35 = .ok (.istore_n 2, 1) := by decide +kernel
theorem dX3_measureNumbers_36 : decode cX3_measureNumbers 36 = .ok (.iload_n 2, 1) := by decide +kernel
theorem dX3_measureNumbers_37 : decode cX3_measureNumbers 37 = .ok (.aload_n 0, 1) := by decide +kernel
theorem dX3_measureNumbers_38 : decode cX3_measureNumbers 38 = .ok (.getfield 26, 3) := by decide +kernel
theorem dX3_measureNumbers_41 : decode cX3_measureNumbers 41 = .ok (.iload_n 3, 1) := by decide +kernel
theorem dX3_measureNumbers_42 : decode cX3_measureNumbers 42 = .ok (.aaload, 1) := by decide +kernel
theorem dX3_measureNumbers_43 : decode cX3_measureNumbers 43 = .ok (.getfield 51, 3) := by decide +kernel
theorem dX3_measureNumbers_46 : decode cX3_measureNumbers 46 = .ok (.iload_n 1, 1) := by decide +kernel
theorem dX3_measureNumbers_47 : decode cX3_measureNumbers 47 = .ok (.iaload, 1) := by decide +kernel
theorem dX3_measureNumbers_48 : decode cX3_measureNumbers 48 = .ok (.invokestatic 112, 3) := by decide +kernel
theorem dX3_measureNumbers_51 : decode cX3_measureNumbers 51 = .ok (.invokestatic 104, 3) := by decide +kernel
theorem dX3_measureNumbers_54 : decode cX3_measureNumbers 54 = .ok (.istore_n 2, 1) := by decide +kernel
theorem dX3_measureNumbers_55 : decode cX3_measureNumbers 55 = .ok (.iinc 3 1, 3) := by decide +kernel
theorem dX3_measureNumbers_58 : decode cX3_measureNumbers 58 = .ok (.goto (-49), 3) := by decide +kernel
theorem dX3_measureNumbers_61 : decode cX3_measureNumbers 61 = .ok (.aload_n 0, 1) := by decide +kernel
theorem dX3_measureNumbers_62 : decode cX3_measureNumbers 62 = .ok (.getfield 30, 3) := by decide +kernel
theorem dX3_measureNumbers_65 : decode cX3_measureNumbers 65 = .ok (.iload_n 1, 1) := by decide +kernel
theorem dX3_measureNumbers_66 : decode cX3_measureNumbers 66 = .ok (.iload_n 2, 1) := by decide +kernel
theorem dX3_measureNumbers_67 : decode cX3_measureNumbers 67 = .ok (.iastore, 1) := by decide +kernel
theorem dX3_measureNumbers_68 : decode cX3_measureNumbers 68 = .ok (.aload_n 0, 1) := by decide +kernel
theorem dX3_measureNumbers_69 : decode cX3_measureNumbers 69 = .ok (.getfield 33, 3) := by decide +kernel
theorem dX3_measureNumbers_72 : decode cX3_measureNumbers 72 = .ok (.iload_n 1, 1) := by decide +kernel
theorem dX3_measureNumbers_73 : decode cX3_measureNumbers 73 = .ok (.iload_n 2, 1) := by decide +kernel
theorem dX3_measureNumbers_74 : decode cX3_measureNumbers 74 = .ok (.iastore, 1) := by decide +kernel
theorem dX3_measureNumbers_75 : decode cX3_measureNumbers 75 = .ok (.return_, 1) := by decide +kernel
theorem dX3_sizeOf_0 : decode cX3_sizeOf 0 = .ok (.iload_n 0, 1) := by decide +kernel
theorem dX3_sizeOf_1 : decode cX3_sizeOf 1 = .ok (.ifCond .ge 7, 3) := by decide +kernel
theorem dX3_sizeOf_4 : decode cX3_sizeOf 4 = .ok (.iconst 2, 1) := by decide +kernel
theorem dX3_sizeOf_5 : decode cX3_sizeOf 5 = .ok (.goto 4, 3) := by decide +kernel
theorem dX3_sizeOf_8 : decode cX3_sizeOf 8 = .ok (.iconst 1, 1) := by decide +kernel
theorem dX3_sizeOf_9 : decode cX3_sizeOf 9 = .ok (.istore_n 1, 1) := by decide +kernel
theorem dX3_sizeOf_10 : decode cX3_sizeOf 10 = .ok (.iload_n 0, 1) := by decide +kernel
theorem dX3_sizeOf_11 : decode cX3_sizeOf 11 = .ok (.bipush 10, 2) := by decide +kernel
theorem dX3_sizeOf_13 : decode cX3_sizeOf 13 = .ok (.idiv, 1) := by decide +kernel
theorem dX3_sizeOf_14 : decode cX3_sizeOf 14 = .ok (.istore_n 2, 1) := by decide +kernel
theorem dX3_sizeOf_15 : decode cX3_sizeOf 15 = .ok (.iload_n 2, 1) := by decide +kernel
theorem dX3_sizeOf_16 : decode cX3_sizeOf 16 = .ok (.ifCond .eq 14, 3) := by decide +kernel
theorem dX3_sizeOf_19 : decode cX3_sizeOf 19 = .ok (.iinc 1 1, 3) := by decide +kernel
theorem dX3_sizeOf_22 : decode cX3_sizeOf 22 = .ok (.iload_n 2, 1) := by decide +kernel
theorem dX3_sizeOf_23 : decode cX3_sizeOf 23 = .ok (.bipush 10, 2) := by decide +kernel
theorem dX3_sizeOf_25 : decode cX3_sizeOf 25 = .ok (.idiv, 1) := by decide +kernel
theorem dX3_sizeOf_26 : decode cX3_sizeOf 26 = .ok (.istore_n 2, 1) := by decide +kernel
theorem dX3_sizeOf_27 : decode cX3_sizeOf 27 = .ok (.goto (-12), 3) := by decide +kernel
theorem dX3_sizeOf_30 : decode cX3_sizeOf 30 = .ok (.iload_n 1, 1) := by decide +kernel
theorem dX3_sizeOf_31 : decode cX3_sizeOf 31 = .ok (.ireturn, 1) := by decide +kernel
