set_option maxRecDepth 20000 in
theorem ggX4_init_X3_init : GoodIn wsX4_init wsX3_init := goodIn_r _ [23, 24, 2, 3, 25, 26, 27, 28, 29, 30, 31, 32, 33, 34, 35, 36, 37, 38, 39, 40, 41, 42, 43, 44, 45, 64, 65, 66, 67, 68, 69, 70, 71, 72, 98, 99, 100, 101, 102, 103, 104, 105] (by decide +kernel) (by decide +kernel)
set_option maxRecDepth 20000 in
theorem gX4_init_X3_init : GoodIn wsX4_init (wsX3_init) := ggX4_init_X3_init
set_option maxRecDepth 20000 in
theorem ggX4_init_X2_init : GoodIn wsX4_init wsX2_init := goodIn_r _ [47, 48, 2, 3, 49, 18, 19, 50, 51, 52, 53, 54, 25, 55, 56, 57, 58, 59, 60, 61, 62, 63, 84, 85, 86, 87, 88, 89, 90, 91, 92, 93, 94, 95, 96, 97, 81, 82, 83] (by decide +kernel) (by decide +kernel)
set_option maxRecDepth 20000 in
theorem gX4_init_X2_init_n18 : GoodIn wsX4_init (wsX2_init) := ggX4_init_X2_init
set_option maxRecDepth 20000 in
theorem ggX4_init_X0_init : GoodIn wsX4_init wsX0_init := goodIn_r _ [53, 54, 2, 3, 25, 55, 56, 57, 58, 59, 60, 61, 62, 63, 84, 85, 86, 87, 88, 89, 90, 91, 92, 93, 94, 95, 96, 97] (by decide +kernel) (by decide +kernel)
set_option maxRecDepth 20000 in
theorem gX4_init_X0_init_n42 : GoodIn wsX4_init (wsX0_init) := ggX4_init_X0_init
theorem dX4_init_0 : decode cX4_init 0 = .ok (.aload_n 0, 1) := by decide +kernel
theorem dX4_init_1 : decode cX4_init 1 = .ok (.invokespecial 3, 3) := by decide +kernel
theorem dX4_init_4 : decode cX4_init 4 = .ok (.aload_n 0, 1) := by decide +kernel
theorem dX4_init_5 : decode cX4_init 5 = .ok (.new 9, 3) := by decide +kernel
theorem dX4_init_8 : decode cX4_init 8 = .ok (.dup, 1) := by decide +kernel
theorem dX4_init_9 : decode cX4_init 9 = .ok (.invokespecial 11, 3) := by decide +kernel
theorem dX4_init_12 : decode cX4_init 12 = .ok (.putfield 12, 3) := by decide +kernel
theorem dX4_init_15 : decode cX4_init 15 = .ok (.aload_n 0, 1) := by decide +kernel
theorem dX4_init_16 : decode cX4_init 16 = .ok (.new 16, 3) := by decide +kernel
theorem dX4_init_19 : decode cX4_init 19 = .ok (.dup, 1) := by decide +kernel
theorem dX4_init_20 : decode cX4_init 20 = .ok (.invokespecial 18, 3) := by decide +kernel
theorem dX4_init_23 : decode cX4_init 23 = .ok (.putfield 19, 3) := by decide +kernel
theorem dX4_init_26 : decode cX4_init 26 = .ok (.aload_n 0, 1) := by decide +kernel
theorem dX4_init_27 : decode cX4_init 27 = .ok (.bipush 40, 2) := by decide +kernel
theorem dX4_init_29 : decode cX4_init 29 = .ok (.putfield 23, 3) := by decide +kernel
theorem dX4_init_32 : decode cX4_init 32 = .ok (.aload_n 0, 1) := by decide +kernel
theorem dX4_init_33 : decode cX4_init 33 = .ok (.bipush 30, 2) := by decide +kernel
theorem dX4_init_35 : decode cX4_init 35 = .ok (.putfield 27, 3) := by decide +kernel
theorem dX4_init_38 : decode cX4_init 38 = .ok (.aload_n 0, 1) := by decide +kernel
theorem dX4_init_39 : decode cX4_init 39 = .ok (.iconst 1, 1) := by decide +kernel
theorem dX4_init_40 : decode cX4_init 40 = .ok (.putfield 30, 3) := by decide +kernel
theorem dX4_init_43 : decode cX4_init 43 = .ok (.aload_n 0, 1) := by decide +kernel
theorem dX4_init_44 : decode cX4_init 44 = .ok (.new 9, 3) := by decide +kernel
theorem dX4_init_47 : decode cX4_init 47 = .ok (.dup, 1) := by decide +kernel
theorem dX4_init_48 : decode cX4_init 48 = .ok (.invokespecial 11, 3) := by decide +kernel
theorem dX4_init_51 : decode cX4_init 51 = .ok (.putfield 34, 3) := by decide +kernel
theorem dX4_init_54 : decode cX4_init 54 = .ok (.aload_n 0, 1) := by decide +kernel
theorem dX4_init_55 : decode cX4_init 55 = .ok (.new 16, 3) := by decide +kernel
theorem dX4_init_58 : decode cX4_init 58 = .ok (.dup, 1) := by decide +kernel
theorem dX4_init_59 : decode cX4_init 59 = .ok (.invokespecial 18, 3) := by decide +kernel
theorem dX4_init_62 : decode cX4_init 62 = .ok (.putfield 37, 3) := by decide +kernel
theorem dX4_init_65 : decode cX4_init 65 = .ok (.aload_n 0, 1) := by decide +kernel
theorem dX4_init_66 : decode cX4_init 66 = .ok (.new 40, 3) := by decide +kernel
theorem dX4_init_69 : decode cX4_init 69 = .ok (.dup, 1) := by decide +kernel
theorem dX4_init_70 : decode cX4_init 70 = .ok (.invokespecial 42, 3) := by decide +kernel
theorem dX4_init_73 : decode cX4_init 73 = .ok (.putfield 43, 3) := by decide +kernel
theorem dX4_init_76 : decode cX4_init 76 = .ok (.return_, 1) := by decide +kernel
set_option maxRecDepth 20000 in
theorem ggX4_column_X4_requireRange : GoodIn wsX4_column wsX4_requireRange := goodIn_ca (goodIn_r _ [6, 7, 8] (by decide +kernel) (by decide +kernel)) (goodIn_sub (fun _ h => List.mem_cons_of_mem _ (List.mem_append_left _ (List.mem_append_right _ h))) (by decide +kernel))
set_option maxRecDepth 20000 in
theorem gX4_column_X4_requireRange : GoodIn wsX4_column (va_wsS RX4 47 yX4_requireRange wsX4_requireRange) := goodIn_app (goodIn_of _ (by decide +kernel)) ggX4_column_X4_requireRange
set_option maxRecDepth 20000 in
theorem ggX4_column_X4_requireSpareColumn : GoodIn wsX4_column wsX4_requireSpareColumn := goodIn_ca (goodIn_r _ [12, 13, 14, 2, 23, 24, 25, 26, 27, 28, 29, 30, 31, 32, 33, 34, 35, 36, 37, 38, 39] (by decide +kernel) (by decide +kernel)) (goodIn_sub (fun _ h => List.mem_cons_of_mem _ (List.mem_append_right _ h)) (by decide +kernel))
set_option maxRecDepth 20000 in
theorem gX4_column_X4_requireSpareColumn : GoodIn wsX4_column (wsV RX4 51 RX4 yX4_requireSpareColumn wsX4_requireSpareColumn) := goodIn_app (goodIn_of _ (by decide +kernel)) ggX4_column_X4_requireSpareColumn
set_option maxRecDepth 20000 in
theorem ggX4_column_X3_addColumn : GoodIn wsX4_column wsX3_addColumn := goodIn_r _ [19, 20, 21, 22, 31, 32, 33, 34, 35, 36, 37, 38, 39] (by decide +kernel) (by decide +kernel)
set_option maxRecDepth 20000 in
theorem gX4_column_X3_addColumn : GoodIn wsX4_column (wsV RX4 54 RX3 yX3_addColumn wsX3_addColumn) := goodIn_app (goodIn_of _ (by decide +kernel)) ggX4_column_X3_addColumn
theorem dX4_column_0 : decode cX4_column 0 = .ok (.iload_n 2, 1) := by decide +kernel
theorem dX4_column_1 : decode cX4_column 1 = .ok (.iconst 1, 1) := by decide +kernel
theorem dX4_column_2 : decode cX4_column 2 = .ok (.bipush 12, 2) := by decide +kernel
theorem dX4_column_4 : decode cX4_column 4 = .ok (.invokestatic 47, 3) := by decide +kernel
theorem dX4_column_7 : decode cX4_column 7 = .ok (.aload_n 0, 1) := by decide +kernel
theorem dX4_column_8 : decode cX4_column 8 = .ok (.invokevirtual 51, 3) := by decide +kernel
theorem dX4_column_11 : decode cX4_column 11 = .ok (.aload_n 0, 1) := by decide +kernel
theorem dX4_column_12 : decode cX4_column 12 = .ok (.iconst 1, 1) := by decide +kernel
theorem dX4_column_13 : decode cX4_column 13 = .ok (.putfield 30, 3) := by decide +kernel
theorem dX4_column_16 : decode cX4_column 16 = .ok (.aload_n 0, 1) := by decide +kernel
theorem dX4_column_17 : decode cX4_column 17 = .ok (.getfield 12, 3) := by decide +kernel
theorem dX4_column_20 : decode cX4_column 20 = .ok (.iload_n 1, 1) := by decide +kernel
theorem dX4_column_21 : decode cX4_column 21 = .ok (.ifCond .eq 7, 3) := by decide +kernel
theorem dX4_column_24 : decode cX4_column 24 = .ok (.iconst 1, 1) := by decide +kernel
theorem dX4_column_25 : decode cX4_column 25 = .ok (.goto 4, 3) := by decide +kernel
theorem dX4_column_28 : decode cX4_column 28 = .ok (.iconst 0, 1) := by decide +kernel
theorem dX4_column_29 : decode cX4_column 29 = .ok (.iload_n 2, 1) := by decide +kernel
theorem dX4_column_30 : decode cX4_column 30 = .ok (.invokevirtual 54, 3) := by decide +kernel
theorem dX4_column_33 : decode cX4_column 33 = .ok (.ireturn, 1) := by decide +kernel
set_option maxRecDepth 20000 in
theorem ggX4_row_X3_addRow : GoodIn wsX4_row wsX3_addRow := goodIn_r _ [9, 10, 11, 12, 13, 14, 15, 16, 17, 18, 19, 20, 21, 22, 31, 32, 33, 34, 35, 36, 37, 38, 39, 40, 41, 42, 43, 44, 45, 46, 47] (by decide +kernel) (by decide +kernel)
set_option maxRecDepth 20000 in
theorem gX4_row_X3_addRow : GoodIn wsX4_row (wsV RX4 82 RX3 yX3_addRow wsX3_addRow) := goodIn_app (goodIn_of _ (by decide +kernel)) ggX4_row_X3_addRow
theorem dX4_row_0 : decode cX4_row 0 = .ok (.aload_n 0, 1) := by decide +kernel
theorem dX4_row_1 : decode cX4_row 1 = .ok (.getfield 12, 3) := by decide +kernel
theorem dX4_row_4 : decode cX4_row 4 = .ok (.getfield 72, 3) := by decide +kernel
theorem dX4_row_7 : decode cX4_row 7 = .ok (.bipush 30, 2) := by decide +kernel
theorem dX4_row_9 : decode cX4_row 9 = .ok (.if_icmp .lt 13, 3) := by decide +kernel
theorem dX4_row_12 : decode cX4_row 12 = .ok (.new 75, 3) := by decide +kernel
theorem dX4_row_15 : decode cX4_row 15 = .ok (.dup, 1) := by decide +kernel
theorem dX4_row_16 : decode cX4_row 16 = .ok (.ldc 77, 2) := by decide +kernel
theorem dX4_row_18 : decode cX4_row 18 = .ok (.invokespecial 79, 3) := by decide +kernel
theorem dX4_row_21 : decode cX4_row 21 = .ok (.athrow, 1) := by decide +kernel
theorem dX4_row_22 : decode cX4_row 22 = .ok (.aload_n 0, 1) := by decide +kernel
theorem dX4_row_23 : decode cX4_row 23 = .ok (.iconst 1, 1) := by decide +kernel
theorem dX4_row_24 : decode cX4_row 24 = .ok (.putfield 30, 3) := by decide +kernel
theorem dX4_row_27 : decode cX4_row 27 = .ok (.aload_n 0, 1) := by decide +kernel
theorem dX4_row_28 : decode cX4_row 28 = .ok (.getfield 12, 3) := by decide +kernel
theorem dX4_row_31 : decode cX4_row 31 = .ok (.invokevirtual 82, 3) := by decide +kernel
theorem dX4_row_34 : decode cX4_row 34 = .ok (.ireturn, 1) := by decide +kernel
set_option maxRecDepth 20000 in
theorem ggX4_number_X4_requireNumberCell : GoodIn wsX4_number wsX4_requireNumberCell := goodIn_ca (goodIn_ca (goodIn_r _ [7, 8, 9, 10, 6, 11, 12, 13, 2, 14, 15, 16, 17, 18, 19, 20, 21, 22, 23, 24, 25, 26, 27, 28, 29, 30, 31, 32, 33, 34, 35, 36, 37, 38, 39, 40, 41, 42, 43] (by decide +kernel) (by decide +kernel)) (goodIn_sub (fun _ h => List.mem_cons_of_mem _ (List.mem_append_left _ (List.mem_append_right _ h))) (by decide +kernel))) (goodIn_sub (fun _ h => List.mem_cons_of_mem _ (List.mem_append_right _ h)) (by decide +kernel))
set_option maxRecDepth 20000 in
theorem gX4_number_X4_requireNumberCell : GoodIn wsX4_number (wsV RX4 92 RX4 yX4_requireNumberCell wsX4_requireNumberCell) := goodIn_app (goodIn_of _ (by decide +kernel)) ggX4_number_X4_requireNumberCell
theorem dX4_number_0 : decode cX4_number 0 = .ok (.aload_n 0, 1) := by decide +kernel
theorem dX4_number_1 : decode cX4_number 1 = .ok (.iload_n 1, 1) := by decide +kernel
theorem dX4_number_2 : decode cX4_number 2 = .ok (.iload_n 2, 1) := by decide +kernel
theorem dX4_number_3 : decode cX4_number 3 = .ok (.iload_n 3, 1) := by decide +kernel
theorem dX4_number_4 : decode cX4_number 4 = .ok (.invokevirtual 92, 3) := by decide +kernel
theorem dX4_number_7 : decode cX4_number 7 = .ok (.aload_n 0, 1) := by decide +kernel
theorem dX4_number_8 : decode cX4_number 8 = .ok (.iconst 1, 1) := by decide +kernel
theorem dX4_number_9 : decode cX4_number 9 = .ok (.putfield 30, 3) := by decide +kernel
theorem dX4_number_12 : decode cX4_number 12 = .ok (.aload_n 0, 1) := by decide +kernel
theorem dX4_number_13 : decode cX4_number 13 = .ok (.getfield 12, 3) := by decide +kernel
theorem dX4_number_16 : decode cX4_number 16 = .ok (.getfield 95, 3) := by decide +kernel
theorem dX4_number_19 : decode cX4_number 19 = .ok (.iload_n 1, 1) := by decide +kernel
theorem dX4_number_20 : decode cX4_number 20 = .ok (.aaload, 1) := by decide +kernel
theorem dX4_number_21 : decode cX4_number 21 = .ok (.getfield 99, 3) := by decide +kernel
theorem dX4_number_24 : decode cX4_number 24 = .ok (.iload_n 2, 1) := by decide +kernel
theorem dX4_number_25 : decode cX4_number 25 = .ok (.iaload, 1) := by decide +kernel
theorem dX4_number_26 : decode cX4_number 26 = .ok (.istore 4, 2) := by decide +kernel
theorem dX4_number_28 : decode cX4_number 28 = .ok (.aload_n 0, 1) := by decide +kernel
theorem dX4_number_29 : decode cX4_number 29 = .ok (.getfield 12, 3) := by decide +kernel
theorem dX4_number_32 : decode cX4_number 32 = .ok (.getfield 95, 3) := by decide +kernel
theorem dX4_number_35 : decode cX4_number 35 = .ok (.iload_n 1, 1) := by decide +kernel
theorem dX4_number_36 : decode cX4_number 36 = .ok (.aaload, 1) := by decide +kernel
theorem dX4_number_37 : decode cX4_number 37 = .ok (.getfield 99, 3) := by decide +kernel
theorem dX4_number_40 : decode cX4_number 40 = .ok (.iload_n 2, 1) := by decide +kernel
theorem dX4_number_41 : decode cX4_number 41 = .ok (.iload_n 3, 1) := by decide +kernel
theorem dX4_number_42 : decode cX4_number 42 = .ok (.iastore, 1) := by decide +kernel
theorem dX4_number_43 : decode cX4_number 43 = .ok (.iload 4, 2) := by decide +kernel
theorem dX4_number_45 : decode cX4_number 45 = .ok (.ireturn, 1) := by decide +kernel
set_option maxRecDepth 20000 in
theorem ggX4_text_X4_requireRow : GoodIn wsX4_text wsX4_requireRow := goodIn_ca (goodIn_r _ [11, 12, 13, 6, 27, 28, 29, 30, 31, 32, 33, 34, 35, 36, 37, 38, 39, 40, 41, 42, 43] (by decide +kernel) (by decide +kernel)) (goodIn_sub (fun _ h => List.mem_cons_of_mem _ (List.mem_append_left _ (List.mem_append_right _ h))) (by decide +kernel))
set_option maxRecDepth 20000 in
theorem gX4_text_X4_requireRow : GoodIn wsX4_text (wsV RX4 86 RX4 yX4_requireRow wsX4_requireRow) := goodIn_app (goodIn_of _ (by decide +kernel)) ggX4_text_X4_requireRow
set_option maxRecDepth 20000 in
theorem ggX4_text_X4_requireColumn : GoodIn wsX4_text wsX4_requireColumn := goodIn_ca (goodIn_r _ [17, 12, 13, 6, 27, 28, 29, 30, 31, 32, 33, 34, 35, 36, 37, 38, 39, 40, 41, 42, 43] (by decide +kernel) (by decide +kernel)) (goodIn_sub (fun _ h => List.mem_cons_of_mem _ (List.mem_append_left _ (List.mem_append_right _ h))) (by decide +kernel))
set_option maxRecDepth 20000 in
theorem gX4_text_X4_requireColumn : GoodIn wsX4_text (wsV RX4 58 RX4 yX4_requireColumn wsX4_requireColumn) := goodIn_app (goodIn_of _ (by decide +kernel)) ggX4_text_X4_requireColumn
set_option maxRecDepth 20000 in
theorem ggX4_text_X4_requireKind : GoodIn wsX4_text wsX4_requireKind := goodIn_ca (goodIn_r _ [21, 22, 23, 6, 27, 28, 29, 30, 31, 32, 33, 34, 35, 36, 37, 38, 39, 40, 41, 42, 43] (by decide +kernel) (by decide +kernel)) (goodIn_sub (fun _ h => List.mem_cons_of_mem _ (List.mem_append_right _ h)) (by decide +kernel))
set_option maxRecDepth 20000 in
theorem gX4_text_X4_requireKind : GoodIn wsX4_text (wsV RX4 104 RX4 yX4_requireKind wsX4_requireKind) := goodIn_app (goodIn_of _ (by decide +kernel)) ggX4_text_X4_requireKind
set_option maxRecDepth 20000 in
theorem ggX4_text_X4_requireRange : GoodIn wsX4_text wsX4_requireRange := goodIn_ca (goodIn_r _ [26, 22, 23] (by decide +kernel) (by decide +kernel)) (goodIn_sub (fun _ h => List.mem_cons_of_mem _ (List.mem_append_right _ h)) (by decide +kernel))
set_option maxRecDepth 20000 in
theorem gX4_text_X4_requireRange : GoodIn wsX4_text (va_wsS RX4 47 yX4_requireRange wsX4_requireRange) := goodIn_app (goodIn_of _ (by decide +kernel)) ggX4_text_X4_requireRange
theorem dX4_text_0 : decode cX4_text 0 = .ok (.aload_n 0, 1) := by decide +kernel
theorem dX4_text_1 : decode cX4_text 1 = .ok (.iload_n 1, 1) := by decide +kernel
theorem dX4_text_2 : decode cX4_text 2 = .ok (.invokevirtual 86, 3) := by decide +kernel
theorem dX4_text_5 : decode cX4_text 5 = .ok (.aload_n 0, 1) := by decide +kernel
theorem dX4_text_6 : decode cX4_text 6 = .ok (.iload_n 2, 1) := by decide +kernel
theorem dX4_text_7 : decode cX4_text 7 = .ok (.invokevirtual 58, 3) := by decide +kernel
theorem dX4_text_10 : decode cX4_text 10 = .ok (.aload_n 0, 1) := by decide +kernel
theorem dX4_text_11 : decode cX4_text 11 = .ok (.iload_n 2, 1) := by decide +kernel
theorem dX4_text_12 : decode cX4_text 12 = .ok (.iconst 1, 1) := by decide +kernel
theorem dX4_text_13 : decode cX4_text 13 = .ok (.invokevirtual 104, 3) := by decide +kernel
theorem dX4_text_16 : decode cX4_text 16 = .ok (.iload_n 3, 1) := by decide +kernel
theorem dX4_text_17 : decode cX4_text 17 = .ok (.iconst 0, 1) := by decide +kernel
theorem dX4_text_18 : decode cX4_text 18 = .ok (.sipush 200, 3) := by decide +kernel
theorem dX4_text_21 : decode cX4_text 21 = .ok (.invokestatic 47, 3) := by decide +kernel
theorem dX4_text_24 : decode cX4_text 24 = .ok (.iload 4, 2) := by decide +kernel
theorem dX4_text_26 : decode cX4_text 26 = .ok (.iconst 0, 1) := by decide +kernel
theorem dX4_text_27 : decode cX4_text 27 = .ok (.bipush 12, 2) := by decide +kernel
theorem dX4_text_29 : decode cX4_text 29 = .ok (.iload_n 3, 1) := by decide +kernel
theorem dX4_text_30 : decode cX4_text 30 = .ok (.invokestatic 108, 3) := by decide +kernel
theorem dX4_text_33 : decode cX4_text 33 = .ok (.invokestatic 47, 3) := by decide +kernel
theorem dX4_text_36 : decode cX4_text 36 = .ok (.aload_n 0, 1) := by decide +kernel
theorem dX4_text_37 : decode cX4_text 37 = .ok (.iconst 1, 1) := by decide +kernel
theorem dX4_text_38 : decode cX4_text 38 = .ok (.putfield 30, 3) := by decide +kernel
theorem dX4_text_41 : decode cX4_text 41 = .ok (.aload_n 0, 1) := by decide +kernel
theorem dX4_text_42 : decode cX4_text 42 = .ok (.getfield 12, 3) := by decide +kernel
theorem dX4_text_45 : decode cX4_text 45 = .ok (.getfield 95, 3) := by decide +kernel
theorem dX4_text_48 : decode cX4_text 48 = .ok (.iload_n 1, 1) := by decide +kernel
theorem dX4_text_49 : decode cX4_text 49 = .ok (.aaload, 1) := by decide +kernel
theorem dX4_text_50 : decode cX4_text 50 = .ok (.getfield 113, 3) := by decide +kernel
theorem dX4_text_53 : decode cX4_text 53 = .ok (.iload_n 2, 1) := by decide +kernel
theorem dX4_text_54 : decode cX4_text 54 = .ok (.iaload, 1) := by decide +kernel
theorem dX4_text_55 : decode cX4_text 55 = .ok (.istore 5, 2) := by decide +kernel
theorem dX4_text_57 : decode cX4_text 57 = .ok (.aload_n 0, 1) := by decide +kernel
theorem dX4_text_58 : decode cX4_text 58 = .ok (.getfield 12, 3) := by decide +kernel
theorem dX4_text_61 : decode cX4_text 61 = .ok (.getfield 95, 3) := by decide +kernel
theorem dX4_text_64 : decode cX4_text 64 = .ok (.iload_n 1, 1) := by decide +kernel
theorem dX4_text_65 : decode cX4_text 65 = .ok (.aaload, 1) := by decide +kernel
theorem dX4_text_66 : decode cX4_text 66 = .ok (.getfield 113, 3) := by decide +kernel
theorem dX4_text_69 : decode cX4_text 69 = .ok (.iload_n 2, 1) := by decide +kernel
theorem dX4_text_70 : decode cX4_text 70 = .ok (.iload_n 3, 1) := by decide +kernel
theorem dX4_text_71 : decode cX4_text 71 = .ok (.iastore, 1) := by decide +kernel
theorem dX4_text_72 : decode cX4_text 72 = .ok (.aload_n 0, 1) := by decide +kernel
theorem dX4_text_73 : decode cX4_text 73 = .ok (.getfield 12, 3) := by decide +kernel
theorem dX4_text_76 : decode cX4_text 76 = .ok (.getfield 95, 3) := by decide +kernel
theorem dX4_text_79 : decode cX4_text 79 = .ok (.iload_n 1, 1) := by decide +kernel
theorem dX4_text_80 : decode cX4_text 80 = .ok (.aaload, 1) := by decide +kernel
theorem dX4_text_81 : decode cX4_text 81 = .ok (.getfield 116, 3) := by decide +kernel
theorem dX4_text_84 : decode cX4_text 84 = .ok (.iload_n 2, 1) := by decide +kernel
theorem dX4_text_85 : decode cX4_text 85 = .ok (.iload 4, 2) := by decide +kernel
theorem dX4_text_87 : decode cX4_text 87 = .ok (.iastore, 1) := by decide +kernel
theorem dX4_text_88 : decode cX4_text 88 = .ok (.iload 5, 2) := by decide +kernel
theorem dX4_text_90 : decode cX4_text 90 = .ok (.ireturn, 1) := by decide +kernel
set_option maxRecDepth 20000 in
theorem ggX4_span_X4_requireRow : GoodIn wsX4_span wsX4_requireRow := goodIn_ca (goodIn_r _ [9, 10, 11, 3, 151, 152, 153, 154, 155, 156, 157, 158, 159, 160, 161, 162, 163, 164, 165, 166, 167] (by decide +kernel) (by decide +kernel)) (goodIn_sub (fun _ h => List.mem_cons_of_mem _ (List.mem_append_right _ h)) (by decide +kernel))
set_option maxRecDepth 20000 in
theorem gX4_span_X4_requireRow : GoodIn wsX4_span (wsV RX4 86 RX4 yX4_requireRow wsX4_requireRow) := goodIn_app (goodIn_of _ (by decide +kernel)) ggX4_span_X4_requireRow
set_option maxRecDepth 20000 in
theorem ggX4_span_X4_requireColumn : GoodIn wsX4_span wsX4_requireColumn := goodIn_ca (goodIn_r _ [15, 10, 11, 3, 151, 152, 153, 154, 155, 156, 157, 158, 159, 160, 161, 162, 163, 164, 165, 166, 167] (by decide +kernel) (by decide +kernel)) (goodIn_sub (fun _ h => List.mem_cons_of_mem _ (List.mem_append_right _ h)) (by decide +kernel))
set_option maxRecDepth 20000 in
theorem gX4_span_X4_requireColumn : GoodIn wsX4_span (wsV RX4 58 RX4 yX4_requireColumn wsX4_requireColumn) := goodIn_app (goodIn_of _ (by decide +kernel)) ggX4_span_X4_requireColumn
set_option maxRecDepth 20000 in
theorem ggX4_span_X4_requireKind : GoodIn wsX4_span wsX4_requireKind := goodIn_ca (goodIn_r _ [19, 1, 2, 3, 151, 152, 153, 154, 155, 156, 157, 158, 159, 160, 161, 162, 163, 164, 165, 166, 167] (by decide +kernel) (by decide +kernel)) (goodIn_sub (fun _ h => List.mem_cons_of_mem _ (List.mem_append_left _ (List.mem_append_right _ h))) (by decide +kernel))
set_option maxRecDepth 20000 in
theorem gX4_span_X4_requireKind : GoodIn wsX4_span (wsV RX4 104 RX4 yX4_requireKind wsX4_requireKind) := goodIn_app (goodIn_of _ (by decide +kernel)) ggX4_span_X4_requireKind
set_option maxRecDepth 20000 in
theorem ggX4_span_X4_refresh : GoodIn wsX4_span wsX4_refresh := goodIn_r _ [23, 4, 3, 24, 25, 26, 27, 28, 29, 30, 31, 32, 33, 34, 35, 36, 37, 38, 39, 40, 41, 42, 43, 44, 45, 46, 47, 48, 49, 50, 51, 52, 53, 54, 55, 56, 57, 58, 59, 60, 61, 62, 63, 64, 65, 66, 67, 68, 69, 70, 71, 72, 73, 74, 75, 76, 77, 78, 79, 80, 81, 82, 83, 84, 85, 86, 87, 88, 89, 90, 91, 92, 93, 94, 95, 96, 97, 98, 99, 100, 101, 102, 103, 104, 105, 106, 107, 108, 109, 110, 111, 112, 113, 114, 115, 116, 117, 118, 119, 120, 121, 122, 123, 124, 125, 126, 127, 128, 129, 130, 131, 132, 133, 134, 135, 136, 137, 138, 139, 140, 141, 142, 143, 144, 145, 146, 147, 148, 149, 150, 151, 152, 153, 154, 155, 156, 157, 158, 159, 160, 161, 162, 163, 164, 165, 166, 167, 168, 169, 170, 171, 172, 173, 174, 175, 176, 177, 178, 179, 180, 181, 182, 183, 184, 185, 186, 187, 188, 189, 190, 191, 192] (by decide +kernel) (by decide +kernel)
set_option maxRecDepth 20000 in
theorem gX4_span_X4_refresh : GoodIn wsX4_span (wsV RX4 131 RX4 yX4_refresh wsX4_refresh) := goodIn_app (goodIn_of _ (by decide +kernel)) ggX4_span_X4_refresh
theorem dX4_span_0 : decode cX4_span 0 = .ok (.aload_n 0, 1) := by decide +kernel
theorem dX4_span_1 : decode cX4_span 1 = .ok (.iload_n 1, 1) := by decide +kernel
theorem dX4_span_2 : decode cX4_span 2 = .ok (.invokevirtual 86, 3) := by decide +kernel
theorem dX4_span_5 : decode cX4_span 5 = .ok (.aload_n 0, 1) := by decide +kernel
theorem dX4_span_6 : decode cX4_span 6 = .ok (.iload_n 2, 1) := by decide +kernel
theorem dX4_span_7 : decode cX4_span 7 = .ok (.invokevirtual 58, 3) := by decide +kernel
theorem dX4_span_10 : decode cX4_span 10 = .ok (.aload_n 0, 1) := by decide +kernel
theorem dX4_span_11 : decode cX4_span 11 = .ok (.iload_n 2, 1) := by decide +kernel
theorem dX4_span_12 : decode cX4_span 12 = .ok (.iconst 1, 1) := by decide +kernel
theorem dX4_span_13 : decode cX4_span 13 = .ok (.invokevirtual 104, 3) := by decide +kernel
theorem dX4_span_16 : decode cX4_span 16 = .ok (.iload_n 2, 1) := by decide +kernel
theorem dX4_span_17 : decode cX4_span 17 = .ok (.iconst 1, 1) := by decide +kernel
theorem dX4_span_18 : decode cX4_span 18 = .ok (.iadd, 1) := by decide +kernel
theorem dX4_span_19 : decode cX4_span 19 = .ok (.aload_n 0, 1) := by decide +kernel
theorem dX4_span_20 : decode cX4_span 20 = .ok (.getfield 12, 3) := by decide +kernel
theorem dX4_span_23 : decode cX4_span 23 = .ok (.getfield 119, 3) := by decide +kernel
theorem dX4_span_26 : decode cX4_span 26 = .ok (.if_icmp .lt 13, 3) := by decide +kernel
theorem dX4_span_29 : decode cX4_span 29 = .ok (.new 122, 3) := by decide +kernel
theorem dX4_span_32 : decode cX4_span 32 = .ok (.dup, 1) := by decide +kernel
theorem dX4_span_33 : decode cX4_span 33 = .ok (.ldc 124, 2) := by decide +kernel
theorem dX4_span_35 : decode cX4_span 35 = .ok (.invokespecial 126, 3) := by decide +kernel
theorem dX4_span_38 : decode cX4_span 38 = .ok (.athrow, 1) := by decide +kernel
theorem dX4_span_39 : decode cX4_span 39 = .ok (.aload_n 0, 1) := by decide +kernel
theorem dX4_span_40 : decode cX4_span 40 = .ok (.iconst 1, 1) := by decide +kernel
theorem dX4_span_41 : decode cX4_span 41 = .ok (.putfield 30, 3) := by decide +kernel
theorem dX4_span_44 : decode cX4_span 44 = .ok (.aload_n 0, 1) := by decide +kernel
theorem dX4_span_45 : decode cX4_span 45 = .ok (.getfield 12, 3) := by decide +kernel
theorem dX4_span_48 : decode cX4_span 48 = .ok (.getfield 95, 3) := by decide +kernel
theorem dX4_span_51 : decode cX4_span 51 = .ok (.iload_n 1, 1) := by decide +kernel
theorem dX4_span_52 : decode cX4_span 52 = .ok (.aaload, 1) := by decide +kernel
theorem dX4_span_53 : decode cX4_span 53 = .ok (.getfield 127, 3) := by decide +kernel
theorem dX4_span_56 : decode cX4_span 56 = .ok (.iload_n 2, 1) := by decide +kernel
theorem dX4_span_57 : decode cX4_span 57 = .ok (.iload_n 3, 1) := by decide +kernel
theorem dX4_span_58 : decode cX4_span 58 = .ok (.bastore, 1) := by decide +kernel
theorem dX4_span_59 : decode cX4_span 59 = .ok (.aload_n 0, 1) := by decide +kernel
theorem dX4_span_60 : decode cX4_span 60 = .ok (.invokevirtual 131, 3) := by decide +kernel
theorem dX4_span_63 : decode cX4_span 63 = .ok (.aload_n 0, 1) := by decide +kernel
theorem dX4_span_64 : decode cX4_span 64 = .ok (.getfield 12, 3) := by decide +kernel
theorem dX4_span_67 : decode cX4_span 67 = .ok (.getfield 95, 3) := by decide +kernel
theorem dX4_span_70 : decode cX4_span 70 = .ok (.iload_n 1, 1) := by decide +kernel
theorem dX4_span_71 : decode cX4_span 71 = .ok (.aaload, 1) := by decide +kernel
theorem dX4_span_72 : decode cX4_span 72 = .ok (.getfield 134, 3) := by decide +kernel
theorem dX4_span_75 : decode cX4_span 75 = .ok (.iload_n 2, 1) := by decide +kernel
theorem dX4_span_76 : decode cX4_span 76 = .ok (.iconst 1, 1) := by decide +kernel
theorem dX4_span_77 : decode cX4_span 77 = .ok (.iadd, 1) := by decide +kernel
theorem dX4_span_78 : decode cX4_span 78 = .ok (.baload, 1) := by decide +kernel
theorem dX4_span_79 : decode cX4_span 79 = .ok (.ireturn, 1) := by decide +kernel
set_option maxRecDepth 20000 in
theorem ggX4_note_X4_requireRow : GoodIn wsX4_note wsX4_requireRow := goodIn_ca (goodIn_r _ [7, 8, 9, 2, 15, 16, 17, 18, 19, 20, 21, 22, 23, 24, 25, 26, 27, 28, 29, 30, 31] (by decide +kernel) (by decide +kernel)) (goodIn_sub (fun _ h => List.mem_cons_of_mem _ (List.mem_append_left _ (List.mem_append_right _ h))) (by decide +kernel))
set_option maxRecDepth 20000 in
theorem gX4_note_X4_requireRow : GoodIn wsX4_note (wsV RX4 86 RX4 yX4_requireRow wsX4_requireRow) := goodIn_app (goodIn_of _ (by decide +kernel)) ggX4_note_X4_requireRow
set_option maxRecDepth 20000 in
theorem ggX4_note_X4_requireRange : GoodIn wsX4_note wsX4_requireRange := goodIn_ca (goodIn_r _ [12, 13, 14] (by decide +kernel) (by decide +kernel)) (goodIn_sub (fun _ h => List.mem_cons_of_mem _ (List.mem_append_right _ h)) (by decide +kernel))
set_option maxRecDepth 20000 in
theorem gX4_note_X4_requireRange : GoodIn wsX4_note (va_wsS RX4 47 yX4_requireRange wsX4_requireRange) := goodIn_app (goodIn_of _ (by decide +kernel)) ggX4_note_X4_requireRange
theorem dX4_note_0 : decode cX4_note 0 = .ok (.aload_n 0, 1) := by decide +kernel
theorem dX4_note_1 : decode cX4_note 1 = .ok (.iload_n 1, 1) := by decide +kernel
theorem dX4_note_2 : decode cX4_note 2 = .ok (.invokevirtual 86, 3) := by decide +kernel
theorem dX4_note_5 : decode cX4_note 5 = .ok (.iload_n 2, 1) := by decide +kernel
theorem dX4_note_6 : decode cX4_note 6 = .ok (.iconst 0, 1) := by decide +kernel
theorem dX4_note_7 : decode cX4_note 7 = .ok (.iconst 5, 1) := by decide +kernel
theorem dX4_note_8 : decode cX4_note 8 = .ok (.invokestatic 47, 3) := by decide +kernel
theorem dX4_note_11 : decode cX4_note 11 = .ok (.aload_n 0, 1) := by decide +kernel
theorem dX4_note_12 : decode cX4_note 12 = .ok (.iconst 1, 1) := by decide +kernel
theorem dX4_note_13 : decode cX4_note 13 = .ok (.putfield 30, 3) := by decide +kernel
theorem dX4_note_16 : decode cX4_note 16 = .ok (.aload_n 0, 1) := by decide +kernel
theorem dX4_note_17 : decode cX4_note 17 = .ok (.getfield 12, 3) := by decide +kernel
theorem dX4_note_20 : decode cX4_note 20 = .ok (.getfield 95, 3) := by decide +kernel
theorem dX4_note_23 : decode cX4_note 23 = .ok (.iload_n 1, 1) := by decide +kernel
theorem dX4_note_24 : decode cX4_note 24 = .ok (.aaload, 1) := by decide +kernel
theorem dX4_note_25 : decode cX4_note 25 = .ok (.getfield 137, 3) := by decide +kernel
theorem dX4_note_28 : decode cX4_note 28 = .ok (.istore_n 3, 1) := by decide +kernel
theorem dX4_note_29 : decode cX4_note 29 = .ok (.aload_n 0, 1) := by decide +kernel
theorem dX4_note_30 : decode cX4_note 30 = .ok (.getfield 12, 3) := by decide +kernel
theorem dX4_note_33 : decode cX4_note 33 = .ok (.getfield 95, 3) := by decide +kernel
theorem dX4_note_36 : decode cX4_note 36 = .ok (.iload_n 1, 1) := by decide +kernel
theorem dX4_note_37 : decode cX4_note 37 = .ok (.aaload, 1) := by decide +kernel
theorem dX4_note_38 : decode cX4_note 38 = .ok (.iload_n 2, 1) := by decide +kernel
theorem dX4_note_39 : decode cX4_note 39 = .ok (.putfield 137, 3) := by decide +kernel
theorem dX4_note_42 : decode cX4_note 42 = .ok (.iload_n 3, 1) := by decide +kernel
theorem dX4_note_43 : decode cX4_note 43 = .ok (.ireturn, 1) := by decide +kernel
set_option maxRecDepth 20000 in
theorem ggX4_keep_X4_requireRow : GoodIn wsX4_keep wsX4_requireRow := goodIn_ca (goodIn_r _ [7, 8, 9, 2, 10, 11, 12, 13, 14, 15, 16, 17, 18, 19, 20, 21, 22, 23, 24, 25, 26] (by decide +kernel) (by decide +kernel)) (goodIn_sub (fun _ h => List.mem_cons_of_mem _ (List.mem_append_right _ h)) (by decide +kernel))
set_option maxRecDepth 20000 in
theorem gX4_keep_X4_requireRow : GoodIn wsX4_keep (wsV RX4 86 RX4 yX4_requireRow wsX4_requireRow) := goodIn_app (goodIn_of _ (by decide +kernel)) ggX4_keep_X4_requireRow
theorem dX4_keep_0 : decode cX4_keep 0 = .ok (.aload_n 0, 1) := by decide +kernel
theorem dX4_keep_1 : decode cX4_keep 1 = .ok (.iload_n 1, 1) := by decide +kernel
theorem dX4_keep_2 : decode cX4_keep 2 = .ok (.invokevirtual 86, 3) := by decide +kernel
theorem dX4_keep_5 : decode cX4_keep 5 = .ok (.aload_n 0, 1) := by decide +kernel
theorem dX4_keep_6 : decode cX4_keep 6 = .ok (.iconst 1, 1) := by decide +kernel
theorem dX4_keep_7 : decode cX4_keep 7 = .ok (.putfield 30, 3) := by decide +kernel
theorem dX4_keep_10 : decode cX4_keep 10 = .ok (.aload_n 0, 1) := by decide +kernel
theorem dX4_keep_11 : decode cX4_keep 11 = .ok (.getfield 12, 3) := by decide +kernel
theorem dX4_keep_14 : decode cX4_keep 14 = .ok (.getfield 95, 3) := by decide +kernel
theorem dX4_keep_17 : decode cX4_keep 17 = .ok (.iload_n 1, 1) := by decide +kernel
theorem dX4_keep_18 : decode cX4_keep 18 = .ok (.aaload, 1) := by decide +kernel
theorem dX4_keep_19 : decode cX4_keep 19 = .ok (.getfield 140, 3) := by decide +kernel
theorem dX4_keep_22 : decode cX4_keep 22 = .ok (.istore_n 3, 1) := by decide +kernel
theorem dX4_keep_23 : decode cX4_keep 23 = .ok (.aload_n 0, 1) := by decide +kernel
theorem dX4_keep_24 : decode cX4_keep 24 = .ok (.getfield 12, 3) := by decide +kernel
theorem dX4_keep_27 : decode cX4_keep 27 = .ok (.getfield 95, 3) := by decide +kernel
theorem dX4_keep_30 : decode cX4_keep 30 = .ok (.iload_n 1, 1) := by decide +kernel
theorem dX4_keep_31 : decode cX4_keep 31 = .ok (.aaload, 1) := by decide +kernel
theorem dX4_keep_32 : decode cX4_keep 32 = .ok (.iload_n 2, 1) := by decide +kernel
theorem dX4_keep_33 : decode cX4_keep 33 = .ok (.putfield 140, 3) := by decide +kernel
theorem dX4_keep_36 : decode cX4_keep 36 = .ok (.iload_n 3, 1) := by decide +kernel
theorem dX4_keep_37 : decode cX4_keep 37 = .ok (.ireturn, 1) := by decide +kernel
set_option maxRecDepth 20000 in
theorem ggX4_paper_X4_requireRange : GoodIn wsX4_paper wsX4_requireRange := goodIn_ca (goodIn_r _ [8, 9, 10] (by decide +kernel) (by decide +kernel)) (goodIn_sub (fun _ h => List.mem_cons_of_mem _ (List.mem_append_right _ h)) (by decide +kernel))
set_option maxRecDepth 20000 in
theorem gX4_paper_X4_requireRange : GoodIn wsX4_paper (va_wsS RX4 47 yX4_requireRange wsX4_requireRange) := goodIn_app (goodIn_of _ (by decide +kernel)) ggX4_paper_X4_requireRange
set_option maxRecDepth 20000 in
theorem ggX4_paper_X4_refresh : GoodIn wsX4_paper wsX4_refresh := goodIn_r _ [14, 1, 15, 4, 2, 3, 16, 17, 18, 19, 20, 21, 22, 23, 24, 25, 26, 27, 28, 29, 30, 31, 32, 33, 34, 35, 36, 37, 38, 39, 40, 41, 42, 43, 44, 45, 46, 47, 48, 49, 50, 51, 52, 53, 54, 55, 56, 57, 58, 59, 60, 61, 62, 63, 64, 65, 66, 67, 68, 69, 70, 71, 72, 73, 74, 75, 76, 77, 78, 79, 80, 81, 82, 83, 84, 85, 86, 87, 88, 89, 90, 91, 92, 93, 94, 95, 96, 97, 98, 99, 100, 101, 102, 103, 104, 105, 106, 107, 108, 109, 110, 111, 112, 113, 114, 115, 116, 117, 118, 119, 120, 121, 122, 123, 124, 125, 126, 127, 128, 129, 130, 131, 132, 133, 134, 135, 136, 137, 138, 139, 148, 149, 150, 151, 152, 153, 154, 155, 156, 157, 158, 159, 160, 161, 162, 163, 164, 165, 166, 167, 168, 169, 170, 171, 172, 173, 174, 175, 176, 177, 178, 179, 180, 181, 182, 183, 184, 185, 186, 187, 188, 189] (by decide +kernel) (by decide +kernel)
set_option maxRecDepth 20000 in
theorem gX4_paper_X4_refresh : GoodIn wsX4_paper (wsV RX4 131 RX4 yX4_refresh wsX4_refresh) := goodIn_app (goodIn_of _ (by decide +kernel)) ggX4_paper_X4_refresh
set_option maxRecDepth 20000 in
theorem ggX4_paper_X2_chosen : GoodIn wsX4_paper wsX2_chosen := goodIn_r _ [143, 78, 77, 76, 173, 174, 175] (by decide +kernel) (by decide +kernel)
set_option maxRecDepth 20000 in
theorem gX4_paper_X2_chosen : GoodIn wsX4_paper (wsV RX4 143 RX2 yX2_chosen wsX2_chosen) := goodIn_app (goodIn_of _ (by decide +kernel)) ggX4_paper_X2_chosen
set_option maxRecDepth 20000 in
theorem ggX4_paper_X0_pagesOrNone : GoodIn wsX4_paper wsX0_pagesOrNone := goodIn_r _ [147, 85, 86, 176, 177, 178, 179, 180, 181, 182, 183, 184, 185, 186, 187, 188, 189] (by decide +kernel) (by decide +kernel)
set_option maxRecDepth 20000 in
theorem gX4_paper_X0_pagesOrNone : GoodIn wsX4_paper (wsV RX4 147 RX0 yX0_pagesOrNone wsX0_pagesOrNone) := goodIn_app (goodIn_of _ (by decide +kernel)) ggX4_paper_X0_pagesOrNone
theorem dX4_paper_0 : decode cX4_paper 0 = .ok (.iload_n 1, 1) := by decide +kernel
theorem dX4_paper_1 : decode cX4_paper 1 = .ok (.bipush 10, 2) := by decide +kernel
theorem dX4_paper_3 : decode cX4_paper 3 = .ok (.bipush 60, 2) := by decide +kernel
theorem dX4_paper_5 : decode cX4_paper 5 = .ok (.invokestatic 47, 3) := by decide +kernel
theorem dX4_paper_8 : decode cX4_paper 8 = .ok (.iload_n 2, 1) := by decide +kernel
theorem dX4_paper_9 : decode cX4_paper 9 = .ok (.bipush 10, 2) := by decide +kernel
theorem dX4_paper_11 : decode cX4_paper 11 = .ok (.bipush 60, 2) := by decide +kernel
theorem dX4_paper_13 : decode cX4_paper 13 = .ok (.invokestatic 47, 3) := by decide +kernel
theorem dX4_paper_16 : decode cX4_paper 16 = .ok (.aload_n 0, 1) := by decide +kernel
theorem dX4_paper_17 : decode cX4_paper 17 = .ok (.iconst 1, 1) := by decide +kernel
theorem dX4_paper_18 : decode cX4_paper 18 = .ok (.putfield 30, 3) := by decide +kernel
theorem dX4_paper_21 : decode cX4_paper 21 = .ok (.aload_n 0, 1) := by decide +kernel
theorem dX4_paper_22 : decode cX4_paper 22 = .ok (.iload_n 1, 1) := by decide +kernel
theorem dX4_paper_23 : decode cX4_paper 23 = .ok (.putfield 23, 3) := by decide +kernel
theorem dX4_paper_26 : decode cX4_paper 26 = .ok (.aload_n 0, 1) := by decide +kernel
theorem dX4_paper_27 : decode cX4_paper 27 = .ok (.iload_n 2, 1) := by decide +kernel
theorem dX4_paper_28 : decode cX4_paper 28 = .ok (.putfield 27, 3) := by decide +kernel
theorem dX4_paper_31 : decode cX4_paper 31 = .ok (.aload_n 0, 1) := by decide +kernel
theorem dX4_paper_32 : decode cX4_paper 32 = .ok (.invokevirtual 131, 3) := by decide +kernel
theorem dX4_paper_35 : decode cX4_paper 35 = .ok (.aload_n 0, 1) := by decide +kernel
theorem dX4_paper_36 : decode cX4_paper 36 = .ok (.getfield 19, 3) := by decide +kernel
theorem dX4_paper_39 : decode cX4_paper 39 = .ok (.invokevirtual 143, 3) := by decide +kernel
theorem dX4_paper_42 : decode cX4_paper 42 = .ok (.invokevirtual 147, 3) := by decide +kernel
theorem dX4_paper_45 : decode cX4_paper 45 = .ok (.ireturn, 1) := by decide +kernel
set_option maxRecDepth 20000 in
theorem ggX4_cell_X4_requireRow : GoodIn wsX4_cell wsX4_requireRow := goodIn_ca (goodIn_r _ [5, 6, 7, 8, 163, 164, 165, 166, 167, 168, 169, 170, 171, 172, 173, 174, 175, 176, 177, 178, 179] (by decide +kernel) (by decide +kernel)) (goodIn_sub (fun _ h => List.mem_cons_of_mem _ (List.mem_append_left _ (List.mem_append_right _ h))) (by decide +kernel))
set_option maxRecDepth 20000 in
theorem gX4_cell_X4_requireRow : GoodIn wsX4_cell (wsV RX4 86 RX4 yX4_requireRow wsX4_requireRow) := goodIn_app (goodIn_of _ (by decide +kernel)) ggX4_cell_X4_requireRow
set_option maxRecDepth 20000 in
theorem ggX4_cell_X4_requireColumn : GoodIn wsX4_cell wsX4_requireColumn := goodIn_ca (goodIn_r _ [12, 6, 7, 8, 163, 164, 165, 166, 167, 168, 169, 170, 171, 172, 173, 174, 175, 176, 177, 178, 179] (by decide +kernel) (by decide +kernel)) (goodIn_sub (fun _ h => List.mem_cons_of_mem _ (List.mem_append_left _ (List.mem_append_right _ h))) (by decide +kernel))
set_option maxRecDepth 20000 in
theorem gX4_cell_X4_requireColumn : GoodIn wsX4_cell (wsV RX4 58 RX4 yX4_requireColumn wsX4_requireColumn) := goodIn_app (goodIn_of _ (by decide +kernel)) ggX4_cell_X4_requireColumn
set_option maxRecDepth 20000 in
theorem ggX4_cell_X4_requireRange : GoodIn wsX4_cell wsX4_requireRange := goodIn_ca (goodIn_r _ [15, 16, 17] (by decide +kernel) (by decide +kernel)) (goodIn_sub (fun _ h => List.mem_cons_of_mem _ (List.mem_append_right _ h)) (by decide +kernel))
set_option maxRecDepth 20000 in
theorem gX4_cell_X4_requireRange : GoodIn wsX4_cell (va_wsS RX4 47 yX4_requireRange wsX4_requireRange) := goodIn_app (goodIn_of _ (by decide +kernel)) ggX4_cell_X4_requireRange
set_option maxRecDepth 20000 in
theorem ggX4_cell_X4_refresh : GoodIn wsX4_cell wsX4_refresh := goodIn_r _ [21, 22, 8, 23, 24, 25, 26, 27, 28, 29, 30, 31, 32, 33, 34, 35, 36, 37, 38, 39, 40, 41, 42, 43, 44, 45, 46, 47, 48, 49, 50, 51, 52, 53, 54, 55, 56, 57, 58, 59, 60, 61, 62, 63, 64, 65, 66, 67, 68, 69, 70, 71, 72, 73, 74, 75, 76, 77, 78, 79, 80, 81, 82, 83, 84, 85, 86, 87, 88, 89, 90, 91, 92, 93, 94, 95, 96, 97, 98, 99, 100, 101, 102, 103, 104, 105, 106, 107, 108, 109, 110, 111, 112, 113, 114, 115, 116, 117, 118, 119, 120, 121, 122, 123, 124, 125, 126, 127, 128, 129, 130, 131, 132, 133, 134, 135, 136, 137, 138, 139, 140, 141, 142, 143, 144, 145, 146, 147, 148, 149, 163, 164, 165, 166, 167, 168, 169, 170, 171, 172, 173, 174, 175, 176, 177, 178, 179, 180, 181, 182, 183, 184, 185, 186, 187, 188, 189, 190, 191, 192, 193, 194, 195, 196, 197, 198, 199, 200, 201, 202, 203, 204] (by decide +kernel) (by decide +kernel)
set_option maxRecDepth 20000 in
theorem gX4_cell_X4_refresh : GoodIn wsX4_cell (wsV RX4 131 RX4 yX4_refresh wsX4_refresh) := goodIn_app (goodIn_of _ (by decide +kernel)) ggX4_cell_X4_refresh
set_option maxRecDepth 20000 in
theorem ggX4_cell_X4_factOfCell : GoodIn wsX4_cell wsX4_factOfCell := goodIn_r _ [153, 23, 8, 154, 155, 156, 84, 157, 88, 87, 86, 158, 119, 120, 92, 121, 103, 116, 63, 52, 64, 122, 71, 72, 29, 73, 31, 38, 159, 160, 161, 162, 32, 163, 164, 165, 166, 167, 168, 169, 170, 171, 172, 173, 174, 175, 176, 177, 178, 179, 180, 181, 182, 183, 184, 185, 186, 187, 191, 192, 193, 194, 195, 196, 197, 198, 199, 200, 201, 202, 203, 204, 188, 189, 190] (by decide +kernel) (by decide +kernel)
set_option maxRecDepth 20000 in
theorem gX4_cell_X4_factOfCell : GoodIn wsX4_cell (wsV RX4 150 RX4 yX4_factOfCell wsX4_factOfCell) := goodIn_app (goodIn_of _ (by decide +kernel)) ggX4_cell_X4_factOfCell
theorem dX4_cell_0 : decode cX4_cell 0 = .ok (.aload_n 0, 1) := by decide +kernel
theorem dX4_cell_1 : decode cX4_cell 1 = .ok (.iload_n 1, 1) := by decide +kernel
theorem dX4_cell_2 : decode cX4_cell 2 = .ok (.invokevirtual 86, 3) := by decide +kernel
theorem dX4_cell_5 : decode cX4_cell 5 = .ok (.aload_n 0, 1) := by decide +kernel
theorem dX4_cell_6 : decode cX4_cell 6 = .ok (.iload_n 2, 1) := by decide +kernel
theorem dX4_cell_7 : decode cX4_cell 7 = .ok (.invokevirtual 58, 3) := by decide +kernel
theorem dX4_cell_10 : decode cX4_cell 10 = .ok (.iload_n 3, 1) := by decide +kernel
theorem dX4_cell_11 : decode cX4_cell 11 = .ok (.iconst 0, 1) := by decide +kernel
theorem dX4_cell_12 : decode cX4_cell 12 = .ok (.iconst 3, 1) := by decide +kernel
theorem dX4_cell_13 : decode cX4_cell 13 = .ok (.invokestatic 47, 3) := by decide +kernel
theorem dX4_cell_16 : decode cX4_cell 16 = .ok (.aload_n 0, 1) := by decide +kernel
theorem dX4_cell_17 : decode cX4_cell 17 = .ok (.invokevirtual 131, 3) := by decide +kernel
theorem dX4_cell_20 : decode cX4_cell 20 = .ok (.aload_n 0, 1) := by decide +kernel
theorem dX4_cell_21 : decode cX4_cell 21 = .ok (.iload_n 1, 1) := by decide +kernel
theorem dX4_cell_22 : decode cX4_cell 22 = .ok (.iload_n 2, 1) := by decide +kernel
theorem dX4_cell_23 : decode cX4_cell 23 = .ok (.iload_n 3, 1) := by decide +kernel
theorem dX4_cell_24 : decode cX4_cell 24 = .ok (.invokevirtual 150, 3) := by decide +kernel
theorem dX4_cell_27 : decode cX4_cell 27 = .ok (.ireturn, 1) := by decide +kernel
set_option maxRecDepth 20000 in
theorem ggX4_ofColumn_X4_requireColumn : GoodIn wsX4_ofColumn wsX4_requireColumn := goodIn_ca (goodIn_r _ [5, 6, 7, 8, 158, 159, 160, 161, 162, 163, 164, 165, 166, 167, 168, 169, 170, 171, 172, 173, 174] (by decide +kernel) (by decide +kernel)) (goodIn_sub (fun _ h => List.mem_cons_of_mem _ (List.mem_append_left _ (List.mem_append_right _ h))) (by decide +kernel))
set_option maxRecDepth 20000 in
theorem gX4_ofColumn_X4_requireColumn : GoodIn wsX4_ofColumn (wsV RX4 58 RX4 yX4_requireColumn wsX4_requireColumn) := goodIn_app (goodIn_of _ (by decide +kernel)) ggX4_ofColumn_X4_requireColumn
set_option maxRecDepth 20000 in
theorem ggX4_ofColumn_X4_requireRange : GoodIn wsX4_ofColumn wsX4_requireRange := goodIn_ca (goodIn_r _ [11, 12, 13] (by decide +kernel) (by decide +kernel)) (goodIn_sub (fun _ h => List.mem_cons_of_mem _ (List.mem_append_right _ h)) (by decide +kernel))
set_option maxRecDepth 20000 in
theorem gX4_ofColumn_X4_requireRange : GoodIn wsX4_ofColumn (va_wsS RX4 47 yX4_requireRange wsX4_requireRange) := goodIn_app (goodIn_of _ (by decide +kernel)) ggX4_ofColumn_X4_requireRange
set_option maxRecDepth 20000 in
theorem ggX4_ofColumn_X4_refresh : GoodIn wsX4_ofColumn wsX4_refresh := goodIn_r _ [17, 18, 8, 19, 20, 21, 22, 23, 24, 25, 26, 27, 28, 29, 30, 31, 32, 33, 34, 35, 36, 37, 38, 39, 40, 41, 42, 43, 44, 45, 46, 47, 48, 49, 50, 51, 52, 53, 54, 55, 56, 57, 58, 59, 60, 61, 62, 63, 64, 65, 66, 67, 68, 69, 70, 71, 72, 73, 74, 75, 76, 77, 78, 79, 80, 81, 82, 83, 84, 85, 86, 87, 88, 89, 90, 91, 92, 93, 94, 95, 96, 97, 98, 99, 100, 101, 102, 103, 104, 105, 106, 107, 108, 109, 110, 111, 112, 113, 114, 115, 116, 117, 118, 119, 120, 121, 122, 123, 124, 125, 126, 127, 128, 129, 130, 131, 132, 133, 134, 135, 136, 137, 138, 139, 140, 141, 142, 143, 144, 145, 158, 159, 160, 161, 162, 163, 164, 165, 166, 167, 168, 169, 170, 171, 172, 173, 174, 175, 176, 177, 178, 179, 180, 181, 182, 183, 184, 185, 186, 187, 188, 189, 190, 191, 192, 193, 194, 195, 196, 197, 198, 199] (by decide +kernel) (by decide +kernel)
set_option maxRecDepth 20000 in
theorem gX4_ofColumn_X4_refresh : GoodIn wsX4_ofColumn (wsV RX4 131 RX4 yX4_refresh wsX4_refresh) := goodIn_app (goodIn_of _ (by decide +kernel)) ggX4_ofColumn_X4_refresh
set_option maxRecDepth 20000 in
theorem ggX4_ofColumn_X4_factOfColumn : GoodIn wsX4_ofColumn wsX4_factOfColumn := goodIn_r _ [149, 19, 8, 150, 151, 152, 80, 153, 84, 83, 82, 154, 155, 156, 25, 157, 28, 34, 158, 159, 160, 161, 162, 163, 164, 165, 166, 167, 168, 169, 170, 171, 172, 173, 174, 186, 187, 188, 189, 190, 191, 192, 193, 194, 195, 196, 197, 198, 199, 183, 184, 185, 175, 176, 177, 178, 179, 180, 181, 182] (by decide +kernel) (by decide +kernel)
set_option maxRecDepth 20000 in
theorem gX4_ofColumn_X4_factOfColumn : GoodIn wsX4_ofColumn (wsV RX4 154 RX4 yX4_factOfColumn wsX4_factOfColumn) := goodIn_app (goodIn_of _ (by decide +kernel)) ggX4_ofColumn_X4_factOfColumn
theorem dX4_ofColumn_0 : decode cX4_ofColumn 0 = .ok (.aload_n 0, 1) := by decide +kernel
theorem dX4_ofColumn_1 : decode cX4_ofColumn 1 = .ok (.iload_n 1, 1) := by decide +kernel
theorem dX4_ofColumn_2 : decode cX4_ofColumn 2 = .ok (.invokevirtual 58, 3) := by decide +kernel
theorem dX4_ofColumn_5 : decode cX4_ofColumn 5 = .ok (.iload_n 2, 1) := by decide +kernel
theorem dX4_ofColumn_6 : decode cX4_ofColumn 6 = .ok (.iconst 0, 1) := by decide +kernel
theorem dX4_ofColumn_7 : decode cX4_ofColumn 7 = .ok (.iconst 4, 1) := by decide +kernel
theorem dX4_ofColumn_8 : decode cX4_ofColumn 8 = .ok (.invokestatic 47, 3) := by decide +kernel
theorem dX4_ofColumn_11 : decode cX4_ofColumn 11 = .ok (.aload_n 0, 1) := by decide +kernel
theorem dX4_ofColumn_12 : decode cX4_ofColumn 12 = .ok (.invokevirtual 131, 3) := by decide +kernel
theorem dX4_ofColumn_15 : decode cX4_ofColumn 15 = .ok (.aload_n 0, 1) := by decide +kernel
theorem dX4_ofColumn_16 : decode cX4_ofColumn 16 = .ok (.iload_n 1, 1) := by decide +kernel
theorem dX4_ofColumn_17 : decode cX4_ofColumn 17 = .ok (.iload_n 2, 1) := by decide +kernel
theorem dX4_ofColumn_18 : decode cX4_ofColumn 18 = .ok (.invokevirtual 154, 3) := by decide +kernel
theorem dX4_ofColumn_21 : decode cX4_ofColumn 21 = .ok (.ireturn, 1) := by decide +kernel
set_option maxRecDepth 20000 in
theorem ggX4_ofRow_X4_requireRow : GoodIn wsX4_ofRow wsX4_requireRow := goodIn_ca (goodIn_r _ [5, 6, 7, 8, 154, 155, 156, 157, 158, 159, 160, 161, 162, 163, 164, 165, 166, 167, 168, 169, 170] (by decide +kernel) (by decide +kernel)) (goodIn_sub (fun _ h => List.mem_cons_of_mem _ (List.mem_append_left _ (List.mem_append_right _ h))) (by decide +kernel))
set_option maxRecDepth 20000 in
theorem gX4_ofRow_X4_requireRow : GoodIn wsX4_ofRow (wsV RX4 86 RX4 yX4_requireRow wsX4_requireRow) := goodIn_app (goodIn_of _ (by decide +kernel)) ggX4_ofRow_X4_requireRow
set_option maxRecDepth 20000 in
theorem ggX4_ofRow_X4_requireRange : GoodIn wsX4_ofRow wsX4_requireRange := goodIn_ca (goodIn_r _ [11, 12, 13] (by decide +kernel) (by decide +kernel)) (goodIn_sub (fun _ h => List.mem_cons_of_mem _ (List.mem_append_right _ h)) (by decide +kernel))
set_option maxRecDepth 20000 in
theorem gX4_ofRow_X4_requireRange : GoodIn wsX4_ofRow (va_wsS RX4 47 yX4_requireRange wsX4_requireRange) := goodIn_app (goodIn_of _ (by decide +kernel)) ggX4_ofRow_X4_requireRange
set_option maxRecDepth 20000 in
theorem ggX4_ofRow_X4_refresh : GoodIn wsX4_ofRow wsX4_refresh := goodIn_r _ [17, 18, 8, 19, 20, 21, 22, 23, 24, 25, 26, 27, 28, 29, 30, 31, 32, 33, 34, 35, 36, 37, 38, 39, 40, 41, 42, 43, 44, 45, 46, 47, 48, 49, 50, 51, 52, 53, 54, 55, 56, 57, 58, 59, 60, 61, 62, 63, 64, 65, 66, 67, 68, 69, 70, 71, 72, 73, 74, 75, 76, 77, 78, 79, 80, 81, 82, 83, 84, 85, 86, 87, 88, 89, 90, 91, 92, 93, 94, 95, 96, 97, 98, 99, 100, 101, 102, 103, 104, 105, 106, 107, 108, 109, 110, 111, 112, 113, 114, 115, 116, 117, 118, 119, 120, 121, 122, 123, 124, 125, 126, 127, 128, 129, 130, 131, 132, 133, 134, 135, 136, 137, 138, 139, 140, 141, 142, 143, 144, 145, 154, 155, 156, 157, 158, 159, 160, 161, 162, 163, 164, 165, 166, 167, 168, 169, 170, 171, 172, 173, 174, 175, 176, 177, 178, 179, 180, 181, 182, 183, 184, 185, 186, 187, 188, 189, 190, 191, 192, 193, 194, 195] (by decide +kernel) (by decide +kernel)
set_option maxRecDepth 20000 in
theorem gX4_ofRow_X4_refresh : GoodIn wsX4_ofRow (wsV RX4 131 RX4 yX4_refresh wsX4_refresh) := goodIn_app (goodIn_of _ (by decide +kernel)) ggX4_ofRow_X4_refresh
set_option maxRecDepth 20000 in
theorem ggX4_ofRow_X4_factOfRow : GoodIn wsX4_ofRow wsX4_factOfRow := goodIn_r _ [149, 19, 150, 151, 152, 80, 153, 84, 83, 82, 154, 155, 156, 157, 158, 159, 160, 161, 182, 183, 184, 185, 186, 187, 188, 189, 190, 191, 192, 193, 194, 195, 179, 180, 181] (by decide +kernel) (by decide +kernel)
set_option maxRecDepth 20000 in
theorem gX4_ofRow_X4_factOfRow : GoodIn wsX4_ofRow (wsV RX4 157 RX4 yX4_factOfRow wsX4_factOfRow) := goodIn_app (goodIn_of _ (by decide +kernel)) ggX4_ofRow_X4_factOfRow
theorem dX4_ofRow_0 : decode cX4_ofRow 0 = .ok (.aload_n 0, 1) := by decide +kernel
theorem dX4_ofRow_1 : decode cX4_ofRow 1 = .ok (.iload_n 1, 1) := by decide +kernel
theorem dX4_ofRow_2 : decode cX4_ofRow 2 = .ok (.invokevirtual 86, 3) := by decide +kernel
theorem dX4_ofRow_5 : decode cX4_ofRow 5 = .ok (.iload_n 2, 1) := by decide +kernel
theorem dX4_ofRow_6 : decode cX4_ofRow 6 = .ok (.iconst 0, 1) := by decide +kernel
theorem dX4_ofRow_7 : decode cX4_ofRow 7 = .ok (.iconst 2, 1) := by decide +kernel
theorem dX4_ofRow_8 : decode cX4_ofRow 8 = .ok (.invokestatic 47, 3) := by decide +kernel
theorem dX4_ofRow_11 : decode cX4_ofRow 11 = .ok (.aload_n 0, 1) := by decide +kernel
theorem dX4_ofRow_12 : decode cX4_ofRow 12 = .ok (.invokevirtual 131, 3) := by decide +kernel
theorem dX4_ofRow_15 : decode cX4_ofRow 15 = .ok (.aload_n 0, 1) := by decide +kernel
theorem dX4_ofRow_16 : decode cX4_ofRow 16 = .ok (.iload_n 1, 1) := by decide +kernel
theorem dX4_ofRow_17 : decode cX4_ofRow 17 = .ok (.iload_n 2, 1) := by decide +kernel
theorem dX4_ofRow_18 : decode cX4_ofRow 18 = .ok (.invokevirtual 157, 3) := by decide +kernel
theorem dX4_ofRow_21 : decode cX4_ofRow 21 = .ok (.ireturn, 1) := by decide +kernel
set_option maxRecDepth 20000 in
theorem ggX4_ofPage_X4_refresh : GoodIn wsX4_ofPage wsX4_refresh := goodIn_r _ [5, 6, 7, 8, 9, 10, 11, 12, 13, 14, 15, 16, 17, 18, 19, 20, 21, 22, 23, 24, 25, 26, 27, 28, 29, 30, 31, 32, 33, 34, 35, 36, 37, 38, 39, 40, 41, 42, 43, 44, 45, 46, 47, 48, 49, 50, 51, 52, 53, 54, 55, 56, 57, 58, 59, 60, 61, 62, 63, 64, 65, 66, 67, 68, 69, 70, 71, 72, 73, 74, 75, 76, 77, 78, 79, 80, 81, 82, 83, 84, 85, 86, 87, 88, 89, 90, 91, 92, 93, 94, 95, 96, 97, 98, 99, 100, 101, 102, 103, 104, 105, 106, 107, 108, 109, 110, 111, 112, 113, 114, 115, 116, 117, 118, 119, 120, 121, 122, 123, 124, 125, 126, 127, 128, 129, 130, 131, 132, 133, 134, 161, 162, 163, 164, 165, 166, 167, 168, 169, 170, 171, 172, 173, 174, 175, 176, 177, 178, 179, 180, 181, 182, 183, 184, 185, 186, 187, 188, 189, 190, 191, 192, 193, 194, 195, 196, 197, 198, 199, 200, 201, 202] (by decide +kernel) (by decide +kernel)
set_option maxRecDepth 20000 in
theorem gX4_ofPage_X4_refresh : GoodIn wsX4_ofPage (wsV RX4 131 RX4 yX4_refresh wsX4_refresh) := goodIn_app (goodIn_of _ (by decide +kernel)) ggX4_ofPage_X4_refresh
set_option maxRecDepth 20000 in
theorem ggX4_ofPage_X4_requirePage : GoodIn wsX4_ofPage wsX4_requirePage := goodIn_ca (goodIn_r _ [138, 139, 140, 8, 141, 142, 143, 69, 144, 73, 72, 71, 161, 162, 163, 164, 165, 166, 167, 168, 189, 190, 191, 192, 193, 194, 195, 196, 197, 198, 199, 200, 201, 202, 186, 187, 188] (by decide +kernel) (by decide +kernel)) (goodIn_sub (fun _ h => List.mem_cons_of_mem _ (List.mem_append_left _ (List.mem_append_right _ h))) (by decide +kernel))
set_option maxRecDepth 20000 in
theorem gX4_ofPage_X4_requirePage : GoodIn wsX4_ofPage (wsV RX4 160 RX4 yX4_requirePage wsX4_requirePage) := goodIn_app (goodIn_of _ (by decide +kernel)) ggX4_ofPage_X4_requirePage
set_option maxRecDepth 20000 in
theorem ggX4_ofPage_X4_requireRange : GoodIn wsX4_ofPage wsX4_requireRange := goodIn_ca (goodIn_r _ [147, 148, 149] (by decide +kernel) (by decide +kernel)) (goodIn_sub (fun _ h => List.mem_cons_of_mem _ (List.mem_append_right _ h)) (by decide +kernel))
set_option maxRecDepth 20000 in
theorem gX4_ofPage_X4_requireRange : GoodIn wsX4_ofPage (va_wsS RX4 47 yX4_requireRange wsX4_requireRange) := goodIn_app (goodIn_of _ (by decide +kernel)) ggX4_ofPage_X4_requireRange
set_option maxRecDepth 20000 in
theorem ggX4_ofPage_X4_factOfPage : GoodIn wsX4_ofPage wsX4_factOfPage := goodIn_r _ [153, 8, 7, 141, 142, 143, 69, 144, 73, 72, 71, 154, 155, 156, 77, 157, 114, 134, 158, 159, 160, 161, 162, 163, 164, 165, 166, 167, 168, 189, 190, 191, 192, 193, 194, 195, 196, 197, 198, 199, 200, 201, 202, 186, 187, 188, 169, 170, 171, 172, 173, 174, 175, 176, 177, 178, 179, 180, 181, 182, 183, 184, 185] (by decide +kernel) (by decide +kernel)
set_option maxRecDepth 20000 in
theorem gX4_ofPage_X4_factOfPage : GoodIn wsX4_ofPage (wsV RX4 163 RX4 yX4_factOfPage wsX4_factOfPage) := goodIn_app (goodIn_of _ (by decide +kernel)) ggX4_ofPage_X4_factOfPage
theorem dX4_ofPage_0 : decode cX4_ofPage 0 = .ok (.aload_n 0, 1) := by decide +kernel
theorem dX4_ofPage_1 : decode cX4_ofPage 1 = .ok (.invokevirtual 131, 3) := by decide +kernel
theorem dX4_ofPage_4 : decode cX4_ofPage 4 = .ok (.aload_n 0, 1) := by decide +kernel
theorem dX4_ofPage_5 : decode cX4_ofPage 5 = .ok (.iload_n 1, 1) := by decide +kernel
theorem dX4_ofPage_6 : decode cX4_ofPage 6 = .ok (.invokevirtual 160, 3) := by decide +kernel
theorem dX4_ofPage_9 : decode cX4_ofPage 9 = .ok (.iload_n 2, 1) := by decide +kernel
theorem dX4_ofPage_10 : decode cX4_ofPage 10 = .ok (.iconst 0, 1) := by decide +kernel
theorem dX4_ofPage_11 : decode cX4_ofPage 11 = .ok (.iconst 4, 1) := by decide +kernel
theorem dX4_ofPage_12 : decode cX4_ofPage 12 = .ok (.invokestatic 47, 3) := by decide +kernel
theorem dX4_ofPage_15 : decode cX4_ofPage 15 = .ok (.aload_n 0, 1) := by decide +kernel
theorem dX4_ofPage_16 : decode cX4_ofPage 16 = .ok (.iload_n 1, 1) := by decide +kernel
theorem dX4_ofPage_17 : decode cX4_ofPage 17 = .ok (.iload_n 2, 1) := by decide +kernel
theorem dX4_ofPage_18 : decode cX4_ofPage 18 = .ok (.invokevirtual 163, 3) := by decide +kernel
theorem dX4_ofPage_21 : decode cX4_ofPage 21 = .ok (.ireturn, 1) := by decide +kernel
set_option maxRecDepth 20000 in
theorem ggX4_carried_X4_refresh : GoodIn wsX4_carried wsX4_refresh := goodIn_r _ [7, 8, 2, 1, 9, 10, 11, 12, 13, 14, 15, 16, 17, 18, 19, 20, 21, 22, 23, 24, 25, 26, 27, 28, 29, 30, 31, 32, 33, 34, 35, 36, 37, 38, 39, 40, 41, 42, 43, 44, 45, 46, 47, 48, 49, 50, 51, 52, 53, 54, 55, 56, 57, 58, 59, 60, 61, 62, 63, 64, 65, 66, 67, 68, 69, 70, 71, 72, 73, 74, 75, 76, 77, 78, 79, 80, 81, 82, 83, 84, 85, 86, 87, 88, 89, 90, 91, 92, 93, 94, 95, 96, 97, 98, 99, 100, 101, 102, 103, 104, 105, 106, 107, 108, 109, 110, 111, 112, 113, 114, 115, 116, 117, 118, 119, 120, 121, 122, 123, 124, 125, 126, 127, 128, 129, 130, 131, 132, 133, 134, 157, 158, 159, 160, 161, 162, 163, 164, 165, 166, 167, 168, 169, 170, 171, 172, 173, 174, 175, 176, 177, 178, 179, 180, 181, 182, 183, 184, 185, 186, 187, 188, 189, 190, 191, 192, 193, 194, 195, 196, 197, 198] (by decide +kernel) (by decide +kernel)
set_option maxRecDepth 20000 in
theorem gX4_carried_X4_refresh : GoodIn wsX4_carried (wsV RX4 131 RX4 yX4_refresh wsX4_refresh) := goodIn_app (goodIn_of _ (by decide +kernel)) ggX4_carried_X4_refresh
set_option maxRecDepth 20000 in
theorem ggX4_carried_X4_requirePage : GoodIn wsX4_carried wsX4_requirePage := goodIn_ca (goodIn_r _ [138, 139, 140, 1, 141, 142, 143, 69, 144, 73, 72, 71, 157, 158, 159, 160, 161, 162, 163, 164, 185, 186, 187, 188, 189, 190, 191, 192, 193, 194, 195, 196, 197, 198, 182, 183, 184] (by decide +kernel) (by decide +kernel)) (goodIn_sub (fun _ h => List.mem_cons_of_mem _ (List.mem_append_right _ h)) (by decide +kernel))
set_option maxRecDepth 20000 in
theorem gX4_carried_X4_requirePage : GoodIn wsX4_carried (wsV RX4 160 RX4 yX4_requirePage wsX4_requirePage) := goodIn_app (goodIn_of _ (by decide +kernel)) ggX4_carried_X4_requirePage
set_option maxRecDepth 20000 in
theorem ggX4_carried_X4_requireColumn : GoodIn wsX4_carried wsX4_requireColumn := goodIn_ca (goodIn_r _ [148, 139, 140, 2, 157, 158, 159, 160, 161, 162, 163, 164, 165, 166, 167, 168, 169, 170, 171, 172, 173] (by decide +kernel) (by decide +kernel)) (goodIn_sub (fun _ h => List.mem_cons_of_mem _ (List.mem_append_right _ h)) (by decide +kernel))
set_option maxRecDepth 20000 in
theorem gX4_carried_X4_requireColumn : GoodIn wsX4_carried (wsV RX4 58 RX4 yX4_requireColumn wsX4_requireColumn) := goodIn_app (goodIn_of _ (by decide +kernel)) ggX4_carried_X4_requireColumn
set_option maxRecDepth 20000 in
theorem ggX4_carried_X2_chosen : GoodIn wsX4_carried wsX2_chosen := goodIn_r _ [144, 73, 72, 71, 182, 183, 184] (by decide +kernel) (by decide +kernel)
set_option maxRecDepth 20000 in
theorem gX4_carried_X2_chosen : GoodIn wsX4_carried (wsV RX4 143 RX2 yX2_chosen wsX2_chosen) := goodIn_app (goodIn_of _ (by decide +kernel)) ggX4_carried_X2_chosen
set_option maxRecDepth 20000 in
theorem ggX4_carried_X0_carriedOn : GoodIn wsX4_carried wsX0_carriedOn := goodIn_r _ [152, 116, 153, 154, 155, 14, 156, 17, 23, 185, 186, 187, 188, 189, 190, 191, 192, 193, 194, 195, 196, 197, 198, 165, 166, 167, 168, 169, 170, 171, 172, 173, 174, 175, 176, 177, 178, 179, 180, 181] (by decide +kernel) (by decide +kernel)
set_option maxRecDepth 20000 in
theorem gX4_carried_X0_carriedOn : GoodIn wsX4_carried (wsV RX4 166 RX0 yX0_carriedOn wsX0_carriedOn) := goodIn_app (goodIn_of _ (by decide +kernel)) ggX4_carried_X0_carriedOn
theorem dX4_carried_0 : decode cX4_carried 0 = .ok (.aload_n 0, 1) := by decide +kernel
theorem dX4_carried_1 : decode cX4_carried 1 = .ok (.invokevirtual 131, 3) := by decide +kernel
theorem dX4_carried_4 : decode cX4_carried 4 = .ok (.aload_n 0, 1) := by decide +kernel
theorem dX4_carried_5 : decode cX4_carried 5 = .ok (.iload_n 1, 1) := by decide +kernel
theorem dX4_carried_6 : decode cX4_carried 6 = .ok (.invokevirtual 160, 3) := by decide +kernel
theorem dX4_carried_9 : decode cX4_carried 9 = .ok (.aload_n 0, 1) := by decide +kernel
theorem dX4_carried_10 : decode cX4_carried 10 = .ok (.iload_n 2, 1) := by decide +kernel
theorem dX4_carried_11 : decode cX4_carried 11 = .ok (.invokevirtual 58, 3) := by decide +kernel
theorem dX4_carried_14 : decode cX4_carried 14 = .ok (.aload_n 0, 1) := by decide +kernel
theorem dX4_carried_15 : decode cX4_carried 15 = .ok (.getfield 19, 3) := by decide +kernel
theorem dX4_carried_18 : decode cX4_carried 18 = .ok (.invokevirtual 143, 3) := by decide +kernel
theorem dX4_carried_21 : decode cX4_carried 21 = .ok (.aload_n 0, 1) := by decide +kernel
theorem dX4_carried_22 : decode cX4_carried 22 = .ok (.getfield 12, 3) := by decide +kernel
theorem dX4_carried_25 : decode cX4_carried 25 = .ok (.iload_n 1, 1) := by decide +kernel
theorem dX4_carried_26 : decode cX4_carried 26 = .ok (.iload_n 2, 1) := by decide +kernel
theorem dX4_carried_27 : decode cX4_carried 27 = .ok (.invokevirtual 166, 3) := by decide +kernel
theorem dX4_carried_30 : decode cX4_carried 30 = .ok (.ireturn, 1) := by decide +kernel
set_option maxRecDepth 20000 in
theorem ggX4_many_X4_requireRange : GoodIn wsX4_many wsX4_requireRange := goodIn_ca (goodIn_r _ [4, 5, 6] (by decide +kernel) (by decide +kernel)) (goodIn_sub (fun _ h => List.mem_cons_of_mem _ (List.mem_append_right _ h)) (by decide +kernel))
set_option maxRecDepth 20000 in
theorem gX4_many_X4_requireRange : GoodIn wsX4_many (va_wsS RX4 47 yX4_requireRange wsX4_requireRange) := goodIn_app (goodIn_of _ (by decide +kernel)) ggX4_many_X4_requireRange
set_option maxRecDepth 20000 in
theorem ggX4_many_X4_refresh : GoodIn wsX4_many wsX4_refresh := goodIn_r _ [10, 11, 12, 13, 14, 15, 16, 17, 18, 19, 20, 21, 22, 23, 24, 25, 26, 27, 28, 29, 30, 31, 32, 33, 34, 35, 36, 37, 38, 39, 40, 41, 42, 43, 44, 45, 46, 47, 48, 49, 50, 51, 52, 53, 54, 55, 56, 57, 58, 59, 60, 61, 62, 63, 64, 65, 66, 67, 68, 69, 70, 71, 72, 73, 74, 75, 76, 77, 78, 79, 80, 81, 82, 83, 84, 85, 86, 87, 88, 89, 90, 91, 92, 93, 94, 95, 96, 97, 98, 99, 100, 101, 102, 103, 104, 105, 106, 107, 108, 109, 110, 111, 112, 113, 114, 115, 116, 117, 118, 119, 120, 121, 122, 123, 124, 125, 126, 127, 128, 129, 130, 131, 132, 133, 134, 135, 136, 137, 138, 139, 165, 166, 167, 168, 169, 170, 171, 172, 173, 174, 175, 176, 177, 178, 179, 180, 181, 182, 183, 184, 185, 186, 187, 188, 189, 190, 191, 192, 193, 194, 195, 196, 197, 198, 199, 200, 201, 202, 203, 204, 205, 206] (by decide +kernel) (by decide +kernel)
set_option maxRecDepth 20000 in
theorem gX4_many_X4_refresh : GoodIn wsX4_many (wsV RX4 131 RX4 yX4_refresh wsX4_refresh) := goodIn_app (goodIn_of _ (by decide +kernel)) ggX4_many_X4_refresh
set_option maxRecDepth 20000 in
theorem ggX4_many_X4_factOfTable : GoodIn wsX4_many wsX4_factOfTable := goodIn_r _ [143, 13, 12, 144, 145, 146, 74, 147, 78, 77, 76, 148, 149, 150, 82, 151, 85, 86, 152, 95, 96, 97, 93, 153, 154, 155, 156, 107, 157, 158, 159, 19, 160, 27, 28, 161, 162, 163, 164, 126, 139, 165, 166, 167, 168, 169, 170, 171, 172, 173, 174, 175, 176, 177, 178, 179, 180, 181, 193, 194, 195, 196, 197, 198, 199, 200, 201, 202, 203, 204, 205, 206, 190, 191, 192, 182, 183, 184, 185, 186, 187, 188, 189] (by decide +kernel) (by decide +kernel)
set_option maxRecDepth 20000 in
theorem gX4_many_X4_factOfTable : GoodIn wsX4_many (wsV RX4 170 RX4 yX4_factOfTable wsX4_factOfTable) := goodIn_app (goodIn_of _ (by decide +kernel)) ggX4_many_X4_factOfTable
theorem dX4_many_0 : decode cX4_many 0 = .ok (.iload_n 1, 1) := by decide +kernel
theorem dX4_many_1 : decode cX4_many 1 = .ok (.iconst 0, 1) := by decide +kernel
theorem dX4_many_2 : decode cX4_many 2 = .ok (.bipush 7, 2) := by decide +kernel
theorem dX4_many_4 : decode cX4_many 4 = .ok (.invokestatic 47, 3) := by decide +kernel
theorem dX4_many_7 : decode cX4_many 7 = .ok (.aload_n 0, 1) := by decide +kernel
theorem dX4_many_8 : decode cX4_many 8 = .ok (.invokevirtual 131, 3) := by decide +kernel
theorem dX4_many_11 : decode cX4_many 11 = .ok (.aload_n 0, 1) := by decide +kernel
theorem dX4_many_12 : decode cX4_many 12 = .ok (.iload_n 1, 1) := by decide +kernel
theorem dX4_many_13 : decode cX4_many 13 = .ok (.invokevirtual 170, 3) := by decide +kernel
theorem dX4_many_16 : decode cX4_many 16 = .ok (.ireturn, 1) := by decide +kernel
set_option maxRecDepth 20000 in
theorem ggX4_pagesWith_X4_requireRange : GoodIn wsX4_pagesWith wsX4_requireRange := goodIn_ca (goodIn_r _ [4, 5, 6] (by decide +kernel) (by decide +kernel)) (goodIn_sub (fun _ h => List.mem_cons_of_mem _ (List.mem_append_right _ h)) (by decide +kernel))
set_option maxRecDepth 20000 in
theorem gX4_pagesWith_X4_requireRange : GoodIn wsX4_pagesWith (va_wsS RX4 47 yX4_requireRange wsX4_requireRange) := goodIn_app (goodIn_of _ (by decide +kernel)) ggX4_pagesWith_X4_requireRange
set_option maxRecDepth 20000 in
theorem ggX4_pagesWith_X4_refresh : GoodIn wsX4_pagesWith wsX4_refresh := goodIn_r _ [10, 11, 12, 13, 14, 15, 16, 17, 18, 19, 20, 21, 22, 23, 24, 25, 26, 27, 28, 29, 30, 31, 32, 33, 34, 35, 36, 37, 38, 39, 40, 41, 42, 43, 44, 45, 46, 47, 48, 49, 50, 51, 52, 53, 54, 55, 56, 57, 58, 59, 60, 61, 62, 63, 64, 65, 66, 67, 68, 69, 70, 71, 72, 73, 74, 75, 76, 77, 78, 79, 80, 81, 82, 83, 84, 85, 86, 87, 88, 89, 90, 91, 92, 93, 94, 95, 96, 97, 98, 99, 100, 101, 102, 103, 104, 105, 106, 107, 108, 109, 110, 111, 112, 113, 114, 115, 116, 117, 118, 119, 120, 121, 122, 123, 124, 125, 126, 127, 128, 129, 130, 131, 132, 133, 134, 135, 136, 137, 138, 139, 150, 151, 152, 153, 154, 155, 156, 157, 158, 159, 160, 161, 162, 163, 164, 165, 166, 167, 168, 169, 170, 171, 172, 173, 174, 175, 176, 177, 178, 179, 180, 181, 182, 183, 184, 185, 186, 187, 188, 189, 190, 191] (by decide +kernel) (by decide +kernel)
set_option maxRecDepth 20000 in
theorem gX4_pagesWith_X4_refresh : GoodIn wsX4_pagesWith (wsV RX4 131 RX4 yX4_refresh wsX4_refresh) := goodIn_app (goodIn_of _ (by decide +kernel)) ggX4_pagesWith_X4_refresh
set_option maxRecDepth 20000 in
theorem ggX4_pagesWith_X4_pagesIn : GoodIn wsX4_pagesWith wsX4_pagesIn := goodIn_r _ [143, 144, 12, 145, 80, 81, 82, 83, 84, 85, 86, 87, 88, 89, 90, 91, 92, 93, 94, 95, 96, 97, 98, 99, 100, 101, 102, 103, 104, 105, 106, 53, 42, 54, 107, 108, 109, 110, 111, 112, 61, 62, 19, 63, 21, 28, 113, 114, 115, 116, 117, 118, 119, 120, 121, 122, 123, 124, 125, 126, 127, 128, 129, 130, 131, 132, 133, 134, 135, 136, 137, 138, 139, 146, 147, 148, 149, 150, 151, 152, 153, 154, 155, 156, 157, 178, 179, 180, 181, 182, 183, 184, 185, 186, 187, 188, 189, 190, 191, 158, 159, 160, 161, 162, 163, 164, 165, 166, 167, 168, 169, 170, 171, 172, 173, 174] (by decide +kernel) (by decide +kernel)
set_option maxRecDepth 20000 in
theorem gX4_pagesWith_X4_pagesIn : GoodIn wsX4_pagesWith (wsV RX4 180 RX4 yX4_pagesIn wsX4_pagesIn) := goodIn_app (goodIn_of _ (by decide +kernel)) ggX4_pagesWith_X4_pagesIn
theorem dX4_pagesWith_0 : decode cX4_pagesWith 0 = .ok (.iload_n 1, 1) := by decide +kernel
theorem dX4_pagesWith_1 : decode cX4_pagesWith 1 = .ok (.bipush 10, 2) := by decide +kernel
theorem dX4_pagesWith_3 : decode cX4_pagesWith 3 = .ok (.bipush 60, 2) := by decide +kernel
theorem dX4_pagesWith_5 : decode cX4_pagesWith 5 = .ok (.invokestatic 47, 3) := by decide +kernel
theorem dX4_pagesWith_8 : decode cX4_pagesWith 8 = .ok (.iload_n 2, 1) := by decide +kernel
theorem dX4_pagesWith_9 : decode cX4_pagesWith 9 = .ok (.bipush 10, 2) := by decide +kernel
theorem dX4_pagesWith_11 : decode cX4_pagesWith 11 = .ok (.bipush 60, 2) := by decide +kernel
theorem dX4_pagesWith_13 : decode cX4_pagesWith 13 = .ok (.invokestatic 47, 3) := by decide +kernel
theorem dX4_pagesWith_16 : decode cX4_pagesWith 16 = .ok (.aload_n 0, 1) := by decide +kernel
theorem dX4_pagesWith_17 : decode cX4_pagesWith 17 = .ok (.invokevirtual 131, 3) := by decide +kernel
theorem dX4_pagesWith_20 : decode cX4_pagesWith 20 = .ok (.iload_n 3, 1) := by decide +kernel
theorem dX4_pagesWith_21 : decode cX4_pagesWith 21 = .ok (.ifCond .eq 12, 3) := by decide +kernel
theorem dX4_pagesWith_24 : decode cX4_pagesWith 24 = .ok (.aload_n 0, 1) := by decide +kernel
theorem dX4_pagesWith_25 : decode cX4_pagesWith 25 = .ok (.iload_n 2, 1) := by decide +kernel
theorem dX4_pagesWith_26 : decode cX4_pagesWith 26 = .ok (.iload_n 1, 1) := by decide +kernel
theorem dX4_pagesWith_27 : decode cX4_pagesWith 27 = .ok (.invokevirtual 180, 3) := by decide +kernel
theorem dX4_pagesWith_30 : decode cX4_pagesWith 30 = .ok (.goto 9, 3) := by decide +kernel
theorem dX4_pagesWith_33 : decode cX4_pagesWith 33 = .ok (.aload_n 0, 1) := by decide +kernel
theorem dX4_pagesWith_34 : decode cX4_pagesWith 34 = .ok (.iload_n 1, 1) := by decide +kernel
theorem dX4_pagesWith_35 : decode cX4_pagesWith 35 = .ok (.iload_n 2, 1) := by decide +kernel
theorem dX4_pagesWith_36 : decode cX4_pagesWith 36 = .ok (.invokevirtual 180, 3) := by decide +kernel
theorem dX4_pagesWith_39 : decode cX4_pagesWith 39 = .ok (.ireturn, 1) := by decide +kernel
