set_option maxRecDepth 20000 in
theorem ggL_isTogether_X4_ofRow : GoodIn wsL_isTogether wsX4_ofRow := goodIn_ca (goodIn_ca (goodIn_r _ [5, 6, 7, 8, 4, 9, 10, 11, 12, 13, 14, 15, 16, 17, 18, 19, 20, 21, 22, 23, 24, 25, 26, 27, 28, 29, 30, 31, 32, 33, 34, 35, 36, 37, 38, 39, 40, 41, 42, 43, 44, 45, 46, 47, 48, 49, 50, 51, 52, 53, 54, 55, 56, 57, 58, 59, 60, 61, 62, 63, 64, 65, 66, 67, 68, 69, 70, 71, 72, 73, 74, 75, 76, 77, 78, 79, 80, 81, 82, 83, 84, 85, 86, 87, 88, 89, 90, 91, 92, 93, 94, 95, 96, 97, 98, 99, 100, 101, 102, 103, 104, 105, 106, 107, 108, 109, 110, 111, 112, 113, 114, 115, 116, 117, 118, 119, 120, 121, 122, 123, 124, 125, 126, 127, 128, 129, 130, 131, 132, 133, 134, 135, 136, 137, 138, 139, 140, 141, 142, 143, 144, 145, 146, 147, 148, 149, 150, 151, 152, 153, 154, 155, 156, 157, 177, 178, 179, 180, 181, 182, 183, 184, 185, 186, 187, 188, 189, 190, 191, 192, 193, 194, 195, 196, 197, 198, 199, 200, 201, 202, 203, 204, 205, 206, 207, 208, 209, 210, 211, 212, 213, 214, 215, 216, 217, 218] (by decide +kernel) (by decide +kernel)) (goodIn_sub (fun _ h => List.mem_cons_of_mem _ (List.mem_append_left _ (List.mem_append_right _ h))) (by decide +kernel))) (goodIn_sub (fun _ h => List.mem_cons_of_mem _ (List.mem_append_right _ h)) (by decide +kernel))
set_option maxRecDepth 20000 in
theorem gL_isTogether_X4_ofRow : GoodIn wsL_isTogether (wsV RL 84 RX4 yX4_ofRow wsX4_ofRow) := goodIn_app (goodIn_of _ (by decide +kernel)) ggL_isTogether_X4_ofRow
set_option maxRecDepth 20000 in
theorem ggL_isTogether_X4_ofPage : GoodIn wsL_isTogether wsX4_ofPage := goodIn_ca (goodIn_ca (goodIn_r _ [161, 18, 19, 20, 4, 21, 22, 12, 23, 24, 25, 26, 27, 28, 29, 30, 31, 32, 33, 34, 35, 36, 37, 38, 39, 40, 41, 42, 43, 44, 45, 46, 47, 48, 49, 50, 51, 52, 53, 54, 55, 56, 57, 58, 59, 60, 61, 62, 63, 64, 65, 66, 67, 68, 69, 70, 71, 72, 73, 74, 75, 76, 77, 78, 79, 80, 81, 82, 83, 84, 85, 86, 87, 88, 89, 90, 91, 92, 93, 94, 95, 96, 97, 98, 99, 100, 101, 102, 103, 104, 105, 106, 107, 108, 109, 110, 111, 112, 113, 114, 115, 116, 117, 118, 119, 120, 121, 122, 123, 124, 125, 126, 127, 128, 129, 130, 131, 132, 133, 134, 135, 136, 137, 138, 139, 140, 141, 142, 143, 144, 145, 146, 147, 148, 149, 162, 163, 164, 165, 10, 11, 154, 155, 156, 157, 13, 14, 15, 16, 17, 166, 167, 168, 169, 170, 171, 172, 173, 174, 175, 176, 177, 178, 179, 180, 181, 182, 183, 184, 185, 186, 187, 188, 189, 190, 191, 192, 193, 194, 195, 196, 197, 198, 199, 200, 201, 202, 203, 204, 205, 206, 207, 208, 209, 210, 211, 212, 213, 214, 215, 216, 217, 218] (by decide +kernel) (by decide +kernel)) (goodIn_sub (fun _ h => List.mem_cons_of_mem _ (List.mem_append_left _ (List.mem_append_right _ h))) (by decide +kernel))) (goodIn_sub (fun _ h => List.mem_cons_of_mem _ (List.mem_append_right _ h)) (by decide +kernel))
set_option maxRecDepth 20000 in
theorem gL_isTogether_X4_ofPage : GoodIn wsL_isTogether (wsV RL 81 RX4 yX4_ofPage wsX4_ofPage) := goodIn_app (goodIn_of _ (by decide +kernel)) ggL_isTogether_X4_ofPage
theorem dL_isTogether_0 : decode cL_isTogether 0 = .ok (.iload_n 1, 1) := by decide +kernel
theorem dL_isTogether_1 : decode cL_isTogether 1 = .ok (.ifCond .le 14, 3) := by decide +kernel
theorem dL_isTogether_4 : decode cL_isTogether 4 = .ok (.aload 5, 2) := by decide +kernel
theorem dL_isTogether_6 : decode cL_isTogether 6 = .ok (.iload_n 1, 1) := by decide +kernel
theorem dL_isTogether_7 : decode cL_isTogether 7 = .ok (.iconst 1, 1) := by decide +kernel
theorem dL_isTogether_8 : decode cL_isTogether 8 = .ok (.isub, 1) := by decide +kernel
theorem dL_isTogether_9 : decode cL_isTogether 9 = .ok (.baload, 1) := by decide +kernel
theorem dL_isTogether_10 : decode cL_isTogether 10 = .ok (.ifCond .eq 5, 3) := by decide +kernel
theorem dL_isTogether_13 : decode cL_isTogether 13 = .ok (.iconst 1, 1) := by decide +kernel
theorem dL_isTogether_14 : decode cL_isTogether 14 = .ok (.ireturn, 1) := by decide +kernel
theorem dL_isTogether_15 : decode cL_isTogether 15 = .ok (.aload_n 0, 1) := by decide +kernel
theorem dL_isTogether_16 : decode cL_isTogether 16 = .ok (.iload_n 1, 1) := by decide +kernel
theorem dL_isTogether_17 : decode cL_isTogether 17 = .ok (.iconst 0, 1) := by decide +kernel
theorem dL_isTogether_18 : decode cL_isTogether 18 = .ok (.invokevirtual 84, 3) := by decide +kernel
theorem dL_isTogether_21 : decode cL_isTogether 21 = .ok (.istore 6, 2) := by decide +kernel
theorem dL_isTogether_23 : decode cL_isTogether 23 = .ok (.iload_n 1, 1) := by decide +kernel
theorem dL_isTogether_24 : decode cL_isTogether 24 = .ok (.istore 7, 2) := by decide +kernel
theorem dL_isTogether_26 : decode cL_isTogether 26 = .ok (.iconst 0, 1) := by decide +kernel
theorem dL_isTogether_27 : decode cL_isTogether 27 = .ok (.istore 8, 2) := by decide +kernel
theorem dL_isTogether_29 : decode cL_isTogether 29 = .ok (.iload 7, 2) := by decide +kernel
theorem dL_isTogether_31 : decode cL_isTogether 31 = .ok (.iconst 1, 1) := by decide +kernel
theorem dL_isTogether_32 : decode cL_isTogether 32 = .ok (.iadd, 1) := by decide +kernel
theorem dL_isTogether_33 : decode cL_isTogether 33 = .ok (.iload_n 2, 1) := by decide +kernel
theorem dL_isTogether_34 : decode cL_isTogether 34 = .ok (.if_icmp .ge 47, 3) := by decide +kernel
theorem dL_isTogether_37 : decode cL_isTogether 37 = .ok (.aload 5, 2) := by decide +kernel
theorem dL_isTogether_39 : decode cL_isTogether 39 = .ok (.iload 7, 2) := by decide +kernel
theorem dL_isTogether_41 : decode cL_isTogether 41 = .ok (.baload, 1) := by decide +kernel
theorem dL_isTogether_42 : decode cL_isTogether 42 = .ok (.ifCond .eq 39, 3) := by decide +kernel
theorem dL_isTogether_45 : decode cL_isTogether 45 = .ok (.iload 8, 2) := by decide +kernel
theorem dL_isTogether_47 : decode cL_isTogether 47 = .ok (.aload 4, 2) := by decide +kernel
theorem dL_isTogether_49 : decode cL_isTogether 49 = .ok (.iload 7, 2) := by decide +kernel
theorem dL_isTogether_51 : decode cL_isTogether 51 = .ok (.iaload, 1) := by decide +kernel
theorem dL_isTogether_52 : decode cL_isTogether 52 = .ok (.ifCond .le 7, 3) := by decide +kernel
theorem dL_isTogether_55 : decode cL_isTogether 55 = .ok (.iconst 1, 1) := by decide +kernel
theorem dL_isTogether_56 : decode cL_isTogether 56 = .ok (.goto 4, 3) := by decide +kernel
theorem dL_isTogether_59 : decode cL_isTogether 59 = .ok (.iconst 0, 1) := by decide +kernel
theorem dL_isTogether_60 : decode cL_isTogether 60 = .ok (.ior, 1) := by decide +kernel
theorem dL_isTogether_61 : decode cL_isTogether 61 = .ok (.istore 8, 2) := by decide +kernel
theorem dL_isTogether_63 : decode cL_isTogether 63 = .ok (.iinc 7 1, 3) := by decide +kernel
theorem dL_isTogether_66 : decode cL_isTogether 66 = .ok (.iload 6, 2) := by decide +kernel
theorem dL_isTogether_68 : decode cL_isTogether 68 = .ok (.aload_n 0, 1) := by decide +kernel
theorem dL_isTogether_69 : decode cL_isTogether 69 = .ok (.iload 7, 2) := by decide +kernel
theorem dL_isTogether_71 : decode cL_isTogether 71 = .ok (.iconst 0, 1) := by decide +kernel
theorem dL_isTogether_72 : decode cL_isTogether 72 = .ok (.invokevirtual 84, 3) := by decide +kernel
theorem dL_isTogether_75 : decode cL_isTogether 75 = .ok (.iadd, 1) := by decide +kernel
theorem dL_isTogether_76 : decode cL_isTogether 76 = .ok (.istore 6, 2) := by decide +kernel
theorem dL_isTogether_78 : decode cL_isTogether 78 = .ok (.goto (-49), 3) := by decide +kernel
theorem dL_isTogether_81 : decode cL_isTogether 81 = .ok (.aload_n 0, 1) := by decide +kernel
theorem dL_isTogether_82 : decode cL_isTogether 82 = .ok (.iload_n 1, 1) := by decide +kernel
theorem dL_isTogether_83 : decode cL_isTogether 83 = .ok (.iconst 1, 1) := by decide +kernel
theorem dL_isTogether_84 : decode cL_isTogether 84 = .ok (.invokevirtual 84, 3) := by decide +kernel
theorem dL_isTogether_87 : decode cL_isTogether 87 = .ok (.istore 9, 2) := by decide +kernel
theorem dL_isTogether_89 : decode cL_isTogether 89 = .ok (.aload_n 0, 1) := by decide +kernel
theorem dL_isTogether_90 : decode cL_isTogether 90 = .ok (.iload 7, 2) := by decide +kernel
theorem dL_isTogether_92 : decode cL_isTogether 92 = .ok (.iconst 1, 1) := by decide +kernel
theorem dL_isTogether_93 : decode cL_isTogether 93 = .ok (.invokevirtual 84, 3) := by decide +kernel
theorem dL_isTogether_96 : decode cL_isTogether 96 = .ok (.iload 9, 2) := by decide +kernel
theorem dL_isTogether_98 : decode cL_isTogether 98 = .ok (.if_icmp .eq 25, 3) := by decide +kernel
theorem dL_isTogether_101 : decode cL_isTogether 101 = .ok (.iload 6, 2) := by decide +kernel
theorem dL_isTogether_103 : decode cL_isTogether 103 = .ok (.iload_n 3, 1) := by decide +kernel
theorem dL_isTogether_104 : decode cL_isTogether 104 = .ok (.if_icmp .gt 19, 3) := by decide +kernel
theorem dL_isTogether_107 : decode cL_isTogether 107 = .ok (.iload 8, 2) := by decide +kernel
theorem dL_isTogether_109 : decode cL_isTogether 109 = .ok (.ifCond .ne 14, 3) := by decide +kernel
theorem dL_isTogether_112 : decode cL_isTogether 112 = .ok (.aload_n 0, 1) := by decide +kernel
theorem dL_isTogether_113 : decode cL_isTogether 113 = .ok (.iload 9, 2) := by decide +kernel
theorem dL_isTogether_115 : decode cL_isTogether 115 = .ok (.iconst 0, 1) := by decide +kernel
theorem dL_isTogether_116 : decode cL_isTogether 116 = .ok (.invokevirtual 81, 3) := by decide +kernel
theorem dL_isTogether_119 : decode cL_isTogether 119 = .ok (.iload_n 1, 1) := by decide +kernel
theorem dL_isTogether_120 : decode cL_isTogether 120 = .ok (.if_icmp .ne 7, 3) := by decide +kernel
theorem dL_isTogether_123 : decode cL_isTogether 123 = .ok (.iconst 1, 1) := by decide +kernel
theorem dL_isTogether_124 : decode cL_isTogether 124 = .ok (.goto 4, 3) := by decide +kernel
theorem dL_isTogether_127 : decode cL_isTogether 127 = .ok (.iconst 0, 1) := by decide +kernel
theorem dL_isTogether_128 : decode cL_isTogether 128 = .ok (.ireturn, 1) := by decide +kernel
abbrev vwCl : List vw_C := [(RX0, TX0, 14), (RX1, TX1, 8), (RX2, TX2, 3), (RX3, TX3, 9), (RX4, TX4, 8)]

