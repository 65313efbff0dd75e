set_option maxRecDepth 20000 in
theorem ggL_isLaid_X4_many : GoodIn wsL_isLaid wsX4_many := goodIn_ca (goodIn_r _ [9, 10, 11, 8, 12, 13, 14, 15, 16, 17, 18, 19, 20, 21, 22, 23, 24, 25, 26, 27, 28, 29, 30, 31, 32, 33, 34, 35, 36, 37, 38, 39, 40, 41, 42, 43, 44, 45, 46, 47, 48, 49, 3, 50, 51, 52, 53, 54, 55, 56, 57, 58, 59, 2, 4, 60, 61, 62, 63, 64, 65, 66, 67, 68, 69, 70, 71, 72, 73, 74, 75, 76, 77, 78, 79, 80, 81, 82, 83, 84, 85, 86, 87, 88, 89, 90, 91, 92, 93, 94, 95, 96, 97, 98, 99, 100, 101, 102, 103, 104, 105, 106, 107, 108, 109, 110, 111, 112, 113, 114, 115, 116, 117, 118, 119, 120, 121, 122, 123, 124, 125, 126, 127, 128, 129, 130, 131, 132, 133, 134, 135, 136, 137, 138, 139, 140, 141, 142, 143, 144, 145, 146, 147, 148, 149, 150, 151, 152, 153, 154, 155, 156, 157, 158, 159, 160, 161, 162, 163, 164, 165, 166, 167, 168, 169, 241, 242, 243, 244, 245, 246, 247, 248, 249, 250, 251, 252, 253, 254, 255, 256, 257, 258, 259, 260, 261, 262, 263, 264, 265, 266, 267, 268, 269, 270, 271, 272, 273, 274, 275, 276, 277, 278, 279, 280, 281, 282] (by decide +kernel) (by decide +kernel)) (goodIn_sub (fun _ h => List.mem_cons_of_mem _ (List.mem_append_left _ (List.mem_append_right _ h))) (by decide +kernel))
set_option maxRecDepth 20000 in
theorem gL_isLaid_X4_many : GoodIn wsL_isLaid (wsV RL 26 RX4 yX4_many wsX4_many) := goodIn_app (goodIn_of _ (by decide +kernel)) ggL_isLaid_X4_many
set_option maxRecDepth 20000 in
theorem ggL_isLaid_X4_ofColumn : GoodIn wsL_isLaid wsX4_ofColumn := goodIn_ca (goodIn_ca (goodIn_r _ [173, 174, 175, 176, 8, 177, 178, 179, 20, 10, 11, 12, 13, 14, 15, 16, 17, 18, 19, 21, 22, 23, 24, 25, 26, 27, 28, 29, 30, 31, 32, 33, 34, 35, 36, 37, 38, 39, 40, 41, 42, 43, 44, 45, 46, 47, 48, 49, 3, 50, 51, 52, 53, 54, 55, 56, 57, 58, 59, 2, 4, 60, 61, 62, 63, 64, 65, 66, 67, 68, 69, 70, 71, 72, 73, 74, 75, 76, 77, 78, 79, 80, 81, 82, 83, 84, 85, 86, 87, 88, 89, 90, 91, 92, 93, 94, 95, 96, 97, 98, 99, 100, 101, 102, 103, 104, 105, 106, 107, 108, 109, 110, 111, 112, 113, 114, 115, 116, 117, 118, 119, 120, 121, 122, 123, 124, 125, 126, 127, 128, 129, 130, 131, 132, 133, 134, 135, 136, 137, 138, 139, 140, 141, 142, 143, 144, 180, 181, 182, 183, 149, 150, 151, 152, 184, 185, 186, 187, 241, 242, 243, 244, 245, 246, 247, 248, 249, 250, 251, 252, 253, 254, 255, 256, 257, 258, 259, 260, 261, 262, 263, 264, 265, 266, 267, 268, 269, 270, 271, 272, 273, 274, 275, 276, 277, 278, 279, 280, 281, 282] (by decide +kernel) (by decide +kernel)) (goodIn_sub (fun _ h => List.mem_cons_of_mem _ (List.mem_append_right _ h)) (by decide +kernel))) (goodIn_sub (fun _ h => List.mem_cons_of_mem _ (List.mem_append_left _ (List.mem_append_right _ h))) (by decide +kernel))
set_option maxRecDepth 20000 in
theorem gL_isLaid_X4_ofColumn : GoodIn wsL_isLaid (wsV RL 78 RX4 yX4_ofColumn wsX4_ofColumn) := goodIn_app (goodIn_of _ (by decide +kernel)) ggL_isLaid_X4_ofColumn
set_option maxRecDepth 20000 in
theorem ggL_isLaid_X4_ofPage : GoodIn wsL_isLaid wsX4_ofPage := goodIn_ca (goodIn_ca (goodIn_r _ [191, 15, 16, 17, 8, 18, 19, 20, 21, 22, 23, 24, 25, 26, 27, 28, 29, 30, 31, 32, 33, 34, 35, 36, 37, 38, 39, 40, 41, 42, 43, 44, 45, 46, 47, 48, 49, 3, 50, 51, 52, 53, 54, 55, 56, 57, 58, 59, 2, 4, 60, 61, 62, 63, 64, 65, 66, 67, 68, 69, 70, 71, 72, 73, 74, 75, 76, 77, 78, 79, 80, 81, 82, 83, 84, 85, 86, 87, 88, 89, 90, 91, 92, 93, 94, 95, 96, 97, 98, 99, 100, 101, 102, 103, 104, 105, 106, 107, 108, 109, 110, 111, 112, 113, 114, 115, 116, 117, 118, 119, 120, 121, 122, 123, 124, 125, 126, 127, 128, 129, 130, 131, 132, 133, 134, 135, 136, 137, 138, 139, 140, 141, 142, 143, 144, 192, 193, 194, 195, 178, 179, 149, 150, 151, 152, 10, 11, 12, 13, 14, 196, 197, 198, 199, 200, 201, 202, 203, 204, 205, 206, 241, 242, 243, 244, 245, 246, 247, 248, 249, 250, 251, 252, 253, 254, 255, 256, 257, 258, 259, 260, 261, 262, 263, 264, 265, 266, 267, 268, 269, 270, 271, 272, 273, 274, 275, 276, 277, 278, 279, 280, 281, 282] (by decide +kernel) (by decide +kernel)) (goodIn_sub (fun _ h => List.mem_cons_of_mem _ (List.mem_append_right _ h)) (by decide +kernel))) (goodIn_sub (fun _ h => List.mem_cons_of_mem _ (List.mem_append_left _ (List.mem_append_right _ h))) (by decide +kernel))
set_option maxRecDepth 20000 in
theorem gL_isLaid_X4_ofPage : GoodIn wsL_isLaid (wsV RL 81 RX4 yX4_ofPage wsX4_ofPage) := goodIn_app (goodIn_of _ (by decide +kernel)) ggL_isLaid_X4_ofPage
set_option maxRecDepth 20000 in
theorem ggL_isLaid_X4_ofRow : GoodIn wsL_isLaid wsX4_ofRow := goodIn_ca (goodIn_ca (goodIn_r _ [210, 211, 212, 213, 8, 214, 178, 179, 20, 10, 11, 12, 13, 14, 15, 16, 17, 18, 19, 21, 22, 23, 24, 25, 26, 27, 28, 29, 30, 31, 32, 33, 34, 35, 36, 37, 38, 39, 40, 41, 42, 43, 44, 45, 46, 47, 48, 49, 3, 50, 51, 52, 53, 54, 55, 56, 57, 58, 59, 2, 4, 60, 61, 62, 63, 64, 65, 66, 67, 68, 69, 70, 71, 72, 73, 74, 75, 76, 77, 78, 79, 80, 81, 82, 83, 84, 85, 86, 87, 88, 89, 90, 91, 92, 93, 94, 95, 96, 97, 98, 99, 100, 101, 102, 103, 104, 105, 106, 107, 108, 109, 110, 111, 112, 113, 114, 115, 116, 117, 118, 119, 120, 121, 122, 123, 124, 125, 126, 127, 128, 129, 130, 131, 132, 133, 134, 135, 136, 137, 138, 139, 140, 141, 142, 143, 144, 215, 216, 217, 218, 149, 150, 151, 152, 241, 242, 243, 244, 245, 246, 247, 248, 249, 250, 251, 252, 253, 254, 255, 256, 257, 258, 259, 260, 261, 262, 263, 264, 265, 266, 267, 268, 269, 270, 271, 272, 273, 274, 275, 276, 277, 278, 279, 280, 281, 282] (by decide +kernel) (by decide +kernel)) (goodIn_sub (fun _ h => List.mem_cons_of_mem _ (List.mem_append_right _ h)) (by decide +kernel))) (goodIn_sub (fun _ h => List.mem_cons_of_mem _ (List.mem_append_left _ (List.mem_append_right _ h))) (by decide +kernel))
set_option maxRecDepth 20000 in
theorem gL_isLaid_X4_ofRow : GoodIn wsL_isLaid (wsV RL 84 RX4 yX4_ofRow wsX4_ofRow) := goodIn_app (goodIn_of _ (by decide +kernel)) ggL_isLaid_X4_ofRow
set_option maxRecDepth 20000 in
theorem ggL_isLaid_X4_carried : GoodIn wsL_isLaid wsX4_carried := goodIn_ca (goodIn_r _ [222, 21, 20, 15, 16, 17, 8, 18, 19, 22, 23, 24, 25, 26, 27, 28, 29, 30, 31, 32, 33, 34, 35, 36, 37, 38, 39, 40, 41, 42, 43, 44, 45, 46, 47, 48, 49, 3, 50, 51, 52, 53, 54, 55, 56, 57, 58, 59, 2, 4, 60, 61, 62, 63, 64, 65, 66, 67, 68, 69, 70, 71, 72, 73, 74, 75, 76, 77, 78, 79, 80, 81, 82, 83, 84, 85, 86, 87, 88, 89, 90, 91, 92, 93, 94, 95, 96, 97, 98, 99, 100, 101, 102, 103, 104, 105, 106, 107, 108, 109, 110, 111, 112, 113, 114, 115, 116, 117, 118, 119, 120, 121, 122, 123, 124, 125, 126, 127, 128, 129, 130, 131, 132, 133, 134, 135, 136, 137, 138, 139, 140, 141, 142, 143, 144, 192, 193, 194, 195, 178, 179, 149, 150, 151, 152, 174, 175, 176, 177, 223, 224, 225, 226, 227, 185, 186, 187, 241, 242, 243, 244, 245, 246, 247, 248, 249, 250, 251, 252, 253, 254, 255, 256, 257, 258, 259, 260, 261, 262, 263, 264, 265, 266, 267, 268, 269, 270, 271, 272, 273, 274, 275, 276, 277, 278, 279, 280, 281, 282] (by decide +kernel) (by decide +kernel)) (goodIn_sub (fun _ h => List.mem_cons_of_mem _ (List.mem_append_right _ h)) (by decide +kernel))
set_option maxRecDepth 20000 in
theorem gL_isLaid_X4_carried : GoodIn wsL_isLaid (wsV RL 87 RX4 yX4_carried wsX4_carried) := goodIn_app (goodIn_of _ (by decide +kernel)) ggL_isLaid_X4_carried
set_option maxRecDepth 20000 in
theorem ggL_isLaid_X4_cell : GoodIn wsL_isLaid wsX4_cell := goodIn_ca (goodIn_ca (goodIn_r _ [231, 211, 212, 213, 8, 214, 178, 179, 20, 174, 175, 176, 177, 10, 11, 12, 13, 14, 15, 16, 17, 18, 19, 21, 22, 23, 24, 25, 26, 27, 28, 29, 30, 31, 32, 33, 34, 35, 36, 37, 38, 39, 40, 41, 42, 43, 44, 45, 46, 47, 48, 49, 3, 50, 51, 52, 53, 54, 55, 56, 57, 58, 59, 2, 4, 60, 61, 62, 63, 64, 65, 66, 67, 68, 69, 70, 71, 72, 73, 74, 75, 76, 77, 78, 79, 80, 81, 82, 83, 84, 85, 86, 87, 88, 89, 90, 91, 92, 93, 94, 95, 96, 97, 98, 99, 100, 101, 102, 103, 104, 105, 106, 107, 108, 109, 110, 111, 112, 113, 114, 115, 116, 117, 118, 119, 120, 121, 122, 123, 124, 125, 126, 127, 128, 129, 130, 131, 132, 133, 134, 135, 136, 137, 138, 139, 140, 141, 142, 143, 144, 232, 233, 234, 235, 149, 150, 151, 152, 236, 184, 185, 186, 187, 241, 242, 243, 244, 245, 246, 247, 248, 249, 250, 251, 252, 253, 254, 255, 256, 257, 258, 259, 260, 261, 262, 263, 264, 265, 266, 267, 268, 269, 270, 271, 272, 273, 274, 275, 276, 277, 278, 279, 280, 281, 282] (by decide +kernel) (by decide +kernel)) (goodIn_sub (fun _ h => List.mem_cons_of_mem _ (List.mem_append_right _ h)) (by decide +kernel))) (goodIn_sub (fun _ h => List.mem_cons_of_mem _ (List.mem_append_left _ (List.mem_append_right _ h))) (by decide +kernel))
set_option maxRecDepth 20000 in
theorem gL_isLaid_X4_cell : GoodIn wsL_isLaid (wsV RL 73 RX4 yX4_cell wsX4_cell) := goodIn_app (goodIn_of _ (by decide +kernel)) ggL_isLaid_X4_cell
set_option maxRecDepth 20000 in
theorem ggL_isLaid_L_isTogether : GoodIn wsL_isLaid wsL_isTogether := goodIn_ca (goodIn_ca (goodIn_r _ [240, 207, 208, 209, 8, 210, 211, 212, 213, 214, 178, 179, 20, 10, 11, 12, 13, 14, 15, 16, 17, 18, 19, 21, 22, 23, 24, 25, 26, 27, 28, 29, 30, 31, 32, 33, 34, 35, 36, 37, 38, 39, 40, 41, 42, 43, 44, 45, 46, 47, 48, 49, 3, 50, 51, 52, 53, 54, 55, 56, 57, 58, 59, 2, 4, 60, 61, 62, 63, 64, 65, 66, 67, 68, 69, 70, 71, 72, 73, 74, 75, 76, 77, 78, 79, 80, 81, 82, 83, 84, 85, 86, 87, 88, 89, 90, 91, 92, 93, 94, 95, 96, 97, 98, 99, 100, 101, 102, 103, 104, 105, 106, 107, 108, 109, 110, 111, 112, 113, 114, 115, 116, 117, 118, 119, 120, 121, 122, 123, 124, 125, 126, 127, 128, 129, 130, 131, 132, 133, 134, 135, 136, 137, 138, 139, 140, 141, 142, 143, 144, 215, 216, 217, 218, 149, 150, 151, 152, 188, 189, 190, 191, 192, 193, 194, 195, 196, 197, 198, 199, 200, 201, 202, 203, 204, 205, 206, 241, 242, 243, 244, 245, 246, 247, 248, 249, 250, 251, 252, 253, 254, 255, 256, 257, 258, 259, 260, 261, 262, 263, 264, 265, 266, 267, 268, 269, 270, 271, 272, 273, 274, 275, 276, 277, 278, 279, 280, 281, 282] (by decide +kernel) (by decide +kernel)) (goodIn_sub (fun _ h => List.mem_cons_of_mem _ (List.mem_append_right _ h)) (by decide +kernel))) (goodIn_sub (fun _ h => List.mem_cons_of_mem _ (List.mem_append_left _ (List.mem_append_right _ h))) (by decide +kernel))
set_option maxRecDepth 20000 in
theorem gL_isLaid_L_isTogether : GoodIn wsL_isLaid (va_wsS RL 93 yL_isTogether wsL_isTogether) := goodIn_app (goodIn_of _ (by decide +kernel)) ggL_isLaid_L_isTogether
theorem dL_isLaid_0 : decode cL_isLaid 0 = .ok (.aload_n 0, 1) := by decide +kernel
theorem dL_isLaid_1 : decode cL_isLaid 1 = .ok (.iconst 0, 1) := by decide +kernel
theorem dL_isLaid_2 : decode cL_isLaid 2 = .ok (.invokevirtual 26, 3) := by decide +kernel
theorem dL_isLaid_5 : decode cL_isLaid 5 = .ok (.istore 5, 2) := by decide +kernel
theorem dL_isLaid_7 : decode cL_isLaid 7 = .ok (.aload_n 0, 1) := by decide +kernel
theorem dL_isLaid_8 : decode cL_isLaid 8 = .ok (.iconst 1, 1) := by decide +kernel
theorem dL_isLaid_9 : decode cL_isLaid 9 = .ok (.invokevirtual 26, 3) := by decide +kernel
theorem dL_isLaid_12 : decode cL_isLaid 12 = .ok (.istore 6, 2) := by decide +kernel
theorem dL_isLaid_14 : decode cL_isLaid 14 = .ok (.aload_n 0, 1) := by decide +kernel
theorem dL_isLaid_15 : decode cL_isLaid 15 = .ok (.iconst 2, 1) := by decide +kernel
theorem dL_isLaid_16 : decode cL_isLaid 16 = .ok (.invokevirtual 26, 3) := by decide +kernel
theorem dL_isLaid_19 : decode cL_isLaid 19 = .ok (.istore 7, 2) := by decide +kernel
theorem dL_isLaid_21 : decode cL_isLaid 21 = .ok (.iload 5, 2) := by decide +kernel
theorem dL_isLaid_23 : decode cL_isLaid 23 = .ok (.iconst 1, 1) := by decide +kernel
theorem dL_isLaid_24 : decode cL_isLaid 24 = .ok (.isub, 1) := by decide +kernel
theorem dL_isLaid_25 : decode cL_isLaid 25 = .ok (.istore 8, 2) := by decide +kernel
theorem dL_isLaid_27 : decode cL_isLaid 27 = .ok (.iconst 0, 1) := by decide +kernel
theorem dL_isLaid_28 : decode cL_isLaid 28 = .ok (.istore 9, 2) := by decide +kernel
theorem dL_isLaid_30 : decode cL_isLaid 30 = .ok (.iload 9, 2) := by decide +kernel
theorem dL_isLaid_32 : decode cL_isLaid 32 = .ok (.iload 5, 2) := by decide +kernel
theorem dL_isLaid_34 : decode cL_isLaid 34 = .ok (.if_icmp .ge 51, 3) := by decide +kernel
theorem dL_isLaid_37 : decode cL_isLaid 37 = .ok (.aload_n 0, 1) := by decide +kernel
theorem dL_isLaid_38 : decode cL_isLaid 38 = .ok (.iload 9, 2) := by decide +kernel
theorem dL_isLaid_40 : decode cL_isLaid 40 = .ok (.iconst 3, 1) := by decide +kernel
theorem dL_isLaid_41 : decode cL_isLaid 41 = .ok (.invokevirtual 78, 3) := by decide +kernel
theorem dL_isLaid_44 : decode cL_isLaid 44 = .ok (.istore 10, 2) := by decide +kernel
theorem dL_isLaid_46 : decode cL_isLaid 46 = .ok (.iload 10, 2) := by decide +kernel
theorem dL_isLaid_48 : decode cL_isLaid 48 = .ok (.aload_n 0, 1) := by decide +kernel
theorem dL_isLaid_49 : decode cL_isLaid 49 = .ok (.iload 9, 2) := by decide +kernel
theorem dL_isLaid_51 : decode cL_isLaid 51 = .ok (.iconst 1, 1) := by decide +kernel
theorem dL_isLaid_52 : decode cL_isLaid 52 = .ok (.invokevirtual 78, 3) := by decide +kernel
theorem dL_isLaid_55 : decode cL_isLaid 55 = .ok (.if_icmp .lt 15, 3) := by decide +kernel
theorem dL_isLaid_58 : decode cL_isLaid 58 = .ok (.iload 10, 2) := by decide +kernel
theorem dL_isLaid_60 : decode cL_isLaid 60 = .ok (.aload_n 0, 1) := by decide +kernel
theorem dL_isLaid_61 : decode cL_isLaid 61 = .ok (.iload 9, 2) := by decide +kernel
theorem dL_isLaid_63 : decode cL_isLaid 63 = .ok (.iconst 2, 1) := by decide +kernel
theorem dL_isLaid_64 : decode cL_isLaid 64 = .ok (.invokevirtual 78, 3) := by decide +kernel
theorem dL_isLaid_67 : decode cL_isLaid 67 = .ok (.if_icmp .le 5, 3) := by decide +kernel
theorem dL_isLaid_70 : decode cL_isLaid 70 = .ok (.iconst 0, 1) := by decide +kernel
theorem dL_isLaid_71 : decode cL_isLaid 71 = .ok (.ireturn, 1) := by decide +kernel
theorem dL_isLaid_72 : decode cL_isLaid 72 = .ok (.iload 8, 2) := by decide +kernel
theorem dL_isLaid_74 : decode cL_isLaid 74 = .ok (.iload 10, 2) := by decide +kernel
theorem dL_isLaid_76 : decode cL_isLaid 76 = .ok (.iadd, 1) := by decide +kernel
theorem dL_isLaid_77 : decode cL_isLaid 77 = .ok (.istore 8, 2) := by decide +kernel
theorem dL_isLaid_79 : decode cL_isLaid 79 = .ok (.iinc 9 1, 3) := by decide +kernel
theorem dL_isLaid_82 : decode cL_isLaid 82 = .ok (.goto (-52), 3) := by decide +kernel
theorem dL_isLaid_85 : decode cL_isLaid 85 = .ok (.iload 8, 2) := by decide +kernel
theorem dL_isLaid_87 : decode cL_isLaid 87 = .ok (.aload_n 0, 1) := by decide +kernel
theorem dL_isLaid_88 : decode cL_isLaid 88 = .ok (.iconst 4, 1) := by decide +kernel
theorem dL_isLaid_89 : decode cL_isLaid 89 = .ok (.invokevirtual 26, 3) := by decide +kernel
theorem dL_isLaid_92 : decode cL_isLaid 92 = .ok (.if_icmp .ne 9, 3) := by decide +kernel
theorem dL_isLaid_95 : decode cL_isLaid 95 = .ok (.iload 8, 2) := by decide +kernel
theorem dL_isLaid_97 : decode cL_isLaid 97 = .ok (.iload_n 1, 1) := by decide +kernel
theorem dL_isLaid_98 : decode cL_isLaid 98 = .ok (.if_icmp .le 5, 3) := by decide +kernel
theorem dL_isLaid_101 : decode cL_isLaid 101 = .ok (.iconst 0, 1) := by decide +kernel
theorem dL_isLaid_102 : decode cL_isLaid 102 = .ok (.ireturn, 1) := by decide +kernel
theorem dL_isLaid_103 : decode cL_isLaid 103 = .ok (.iconst 0, 1) := by decide +kernel
theorem dL_isLaid_104 : decode cL_isLaid 104 = .ok (.istore 9, 2) := by decide +kernel
theorem dL_isLaid_106 : decode cL_isLaid 106 = .ok (.iconst 0, 1) := by decide +kernel
theorem dL_isLaid_107 : decode cL_isLaid 107 = .ok (.istore 10, 2) := by decide +kernel
theorem dL_isLaid_109 : decode cL_isLaid 109 = .ok (.iconst 0, 1) := by decide +kernel
theorem dL_isLaid_110 : decode cL_isLaid 110 = .ok (.istore 11, 2) := by decide +kernel
theorem dL_isLaid_112 : decode cL_isLaid 112 = .ok (.iconst 0, 1) := by decide +kernel
theorem dL_isLaid_113 : decode cL_isLaid 113 = .ok (.istore 12, 2) := by decide +kernel
theorem dL_isLaid_115 : decode cL_isLaid 115 = .ok (.iload 12, 2) := by decide +kernel
theorem dL_isLaid_117 : decode cL_isLaid 117 = .ok (.iload 7, 2) := by decide +kernel
theorem dL_isLaid_119 : decode cL_isLaid 119 = .ok (.if_icmp .ge 260, 3) := by decide +kernel
theorem dL_isLaid_122 : decode cL_isLaid 122 = .ok (.aload_n 0, 1) := by decide +kernel
theorem dL_isLaid_123 : decode cL_isLaid 123 = .ok (.iload 12, 2) := by decide +kernel
theorem dL_isLaid_125 : decode cL_isLaid 125 = .ok (.iconst 1, 1) := by decide +kernel
theorem dL_isLaid_126 : decode cL_isLaid 126 = .ok (.invokevirtual 81, 3) := by decide +kernel
theorem dL_isLaid_129 : decode cL_isLaid 129 = .ok (.istore 13, 2) := by decide +kernel
theorem dL_isLaid_131 : decode cL_isLaid 131 = .ok (.aload_n 0, 1) := by decide +kernel
theorem dL_isLaid_132 : decode cL_isLaid 132 = .ok (.iload 12, 2) := by decide +kernel
theorem dL_isLaid_134 : decode cL_isLaid 134 = .ok (.iconst 3, 1) := by decide +kernel
theorem dL_isLaid_135 : decode cL_isLaid 135 = .ok (.invokevirtual 81, 3) := by decide +kernel
theorem dL_isLaid_138 : decode cL_isLaid 138 = .ok (.istore 14, 2) := by decide +kernel
theorem dL_isLaid_140 : decode cL_isLaid 140 = .ok (.iload 13, 2) := by decide +kernel
theorem dL_isLaid_142 : decode cL_isLaid 142 = .ok (.ifCond .le 15, 3) := by decide +kernel
theorem dL_isLaid_145 : decode cL_isLaid 145 = .ok (.aload_n 0, 1) := by decide +kernel
theorem dL_isLaid_146 : decode cL_isLaid 146 = .ok (.iload 12, 2) := by decide +kernel
theorem dL_isLaid_148 : decode cL_isLaid 148 = .ok (.iconst 0, 1) := by decide +kernel
theorem dL_isLaid_149 : decode cL_isLaid 149 = .ok (.invokevirtual 81, 3) := by decide +kernel
theorem dL_isLaid_152 : decode cL_isLaid 152 = .ok (.iload 9, 2) := by decide +kernel
theorem dL_isLaid_154 : decode cL_isLaid 154 = .ok (.if_icmp .ne 21, 3) := by decide +kernel
theorem dL_isLaid_157 : decode cL_isLaid 157 = .ok (.iload 13, 2) := by decide +kernel
theorem dL_isLaid_159 : decode cL_isLaid 159 = .ok (.aload_n 0, 1) := by decide +kernel
theorem dL_isLaid_160 : decode cL_isLaid 160 = .ok (.iload 12, 2) := by decide +kernel
theorem dL_isLaid_162 : decode cL_isLaid 162 = .ok (.iconst 2, 1) := by decide +kernel
theorem dL_isLaid_163 : decode cL_isLaid 163 = .ok (.invokevirtual 81, 3) := by decide +kernel
theorem dL_isLaid_166 : decode cL_isLaid 166 = .ok (.iadd, 1) := by decide +kernel
theorem dL_isLaid_167 : decode cL_isLaid 167 = .ok (.ifCond .eq 8, 3) := by decide +kernel
theorem dL_isLaid_170 : decode cL_isLaid 170 = .ok (.iload 14, 2) := by decide +kernel
theorem dL_isLaid_172 : decode cL_isLaid 172 = .ok (.ifCond .ge 5, 3) := by decide +kernel
theorem dL_isLaid_175 : decode cL_isLaid 175 = .ok (.iconst 0, 1) := by decide +kernel
theorem dL_isLaid_176 : decode cL_isLaid 176 = .ok (.ireturn, 1) := by decide +kernel
theorem dL_isLaid_177 : decode cL_isLaid 177 = .ok (.iload 9, 2) := by decide +kernel
theorem dL_isLaid_179 : decode cL_isLaid 179 = .ok (.istore 15, 2) := by decide +kernel
theorem dL_isLaid_181 : decode cL_isLaid 181 = .ok (.iload 15, 2) := by decide +kernel
theorem dL_isLaid_183 : decode cL_isLaid 183 = .ok (.iload 9, 2) := by decide +kernel
theorem dL_isLaid_185 : decode cL_isLaid 185 = .ok (.iload 13, 2) := by decide +kernel
theorem dL_isLaid_187 : decode cL_isLaid 187 = .ok (.iadd, 1) := by decide +kernel
theorem dL_isLaid_188 : decode cL_isLaid 188 = .ok (.if_icmp .ge 58, 3) := by decide +kernel
theorem dL_isLaid_191 : decode cL_isLaid 191 = .ok (.aload_n 0, 1) := by decide +kernel
theorem dL_isLaid_192 : decode cL_isLaid 192 = .ok (.iload 15, 2) := by decide +kernel
theorem dL_isLaid_194 : decode cL_isLaid 194 = .ok (.iconst 1, 1) := by decide +kernel
theorem dL_isLaid_195 : decode cL_isLaid 195 = .ok (.invokevirtual 84, 3) := by decide +kernel
theorem dL_isLaid_198 : decode cL_isLaid 198 = .ok (.iload 12, 2) := by decide +kernel
theorem dL_isLaid_200 : decode cL_isLaid 200 = .ok (.if_icmp .ne 14, 3) := by decide +kernel
theorem dL_isLaid_203 : decode cL_isLaid 203 = .ok (.aload_n 0, 1) := by decide +kernel
theorem dL_isLaid_204 : decode cL_isLaid 204 = .ok (.iload 15, 2) := by decide +kernel
theorem dL_isLaid_206 : decode cL_isLaid 206 = .ok (.iconst 0, 1) := by decide +kernel
theorem dL_isLaid_207 : decode cL_isLaid 207 = .ok (.invokevirtual 84, 3) := by decide +kernel
theorem dL_isLaid_210 : decode cL_isLaid 210 = .ok (.iconst 1, 1) := by decide +kernel
theorem dL_isLaid_211 : decode cL_isLaid 211 = .ok (.if_icmp .ge 5, 3) := by decide +kernel
theorem dL_isLaid_214 : decode cL_isLaid 214 = .ok (.iconst 0, 1) := by decide +kernel
theorem dL_isLaid_215 : decode cL_isLaid 215 = .ok (.ireturn, 1) := by decide +kernel
theorem dL_isLaid_216 : decode cL_isLaid 216 = .ok (.iload 14, 2) := by decide +kernel
theorem dL_isLaid_218 : decode cL_isLaid 218 = .ok (.aload_n 0, 1) := by decide +kernel
theorem dL_isLaid_219 : decode cL_isLaid 219 = .ok (.iload 15, 2) := by decide +kernel
theorem dL_isLaid_221 : decode cL_isLaid 221 = .ok (.iconst 0, 1) := by decide +kernel
theorem dL_isLaid_222 : decode cL_isLaid 222 = .ok (.invokevirtual 84, 3) := by decide +kernel
theorem dL_isLaid_225 : decode cL_isLaid 225 = .ok (.iadd, 1) := by decide +kernel
theorem dL_isLaid_226 : decode cL_isLaid 226 = .ok (.istore 14, 2) := by decide +kernel
theorem dL_isLaid_228 : decode cL_isLaid 228 = .ok (.iload 10, 2) := by decide +kernel
theorem dL_isLaid_230 : decode cL_isLaid 230 = .ok (.aload_n 0, 1) := by decide +kernel
theorem dL_isLaid_231 : decode cL_isLaid 231 = .ok (.iload 15, 2) := by decide +kernel
theorem dL_isLaid_233 : decode cL_isLaid 233 = .ok (.iconst 0, 1) := by decide +kernel
theorem dL_isLaid_234 : decode cL_isLaid 234 = .ok (.invokevirtual 84, 3) := by decide +kernel
theorem dL_isLaid_237 : decode cL_isLaid 237 = .ok (.iadd, 1) := by decide +kernel
theorem dL_isLaid_238 : decode cL_isLaid 238 = .ok (.istore 10, 2) := by decide +kernel
theorem dL_isLaid_240 : decode cL_isLaid 240 = .ok (.iinc 15 1, 3) := by decide +kernel
theorem dL_isLaid_243 : decode cL_isLaid 243 = .ok (.goto (-62), 3) := by decide +kernel
theorem dL_isLaid_246 : decode cL_isLaid 246 = .ok (.iload 9, 2) := by decide +kernel
theorem dL_isLaid_248 : decode cL_isLaid 248 = .ok (.iload 13, 2) := by decide +kernel
theorem dL_isLaid_250 : decode cL_isLaid 250 = .ok (.iadd, 1) := by decide +kernel
theorem dL_isLaid_251 : decode cL_isLaid 251 = .ok (.istore 9, 2) := by decide +kernel
theorem dL_isLaid_253 : decode cL_isLaid 253 = .ok (.iconst 0, 1) := by decide +kernel
theorem dL_isLaid_254 : decode cL_isLaid 254 = .ok (.istore 15, 2) := by decide +kernel
theorem dL_isLaid_256 : decode cL_isLaid 256 = .ok (.iconst 0, 1) := by decide +kernel
theorem dL_isLaid_257 : decode cL_isLaid 257 = .ok (.istore 16, 2) := by decide +kernel
theorem dL_isLaid_259 : decode cL_isLaid 259 = .ok (.iload 16, 2) := by decide +kernel
theorem dL_isLaid_261 : decode cL_isLaid 261 = .ok (.iload 6, 2) := by decide +kernel
theorem dL_isLaid_263 : decode cL_isLaid 263 = .ok (.if_icmp .ge 43, 3) := by decide +kernel
theorem dL_isLaid_266 : decode cL_isLaid 266 = .ok (.aload_n 3, 1) := by decide +kernel
theorem dL_isLaid_267 : decode cL_isLaid 267 = .ok (.iload 16, 2) := by decide +kernel
theorem dL_isLaid_269 : decode cL_isLaid 269 = .ok (.iaload, 1) := by decide +kernel
theorem dL_isLaid_270 : decode cL_isLaid 270 = .ok (.ifCond .eq 30, 3) := by decide +kernel
theorem dL_isLaid_273 : decode cL_isLaid 273 = .ok (.aload_n 0, 1) := by decide +kernel
theorem dL_isLaid_274 : decode cL_isLaid 274 = .ok (.iload 16, 2) := by decide +kernel
theorem dL_isLaid_276 : decode cL_isLaid 276 = .ok (.iconst 2, 1) := by decide +kernel
theorem dL_isLaid_277 : decode cL_isLaid 277 = .ok (.invokevirtual 84, 3) := by decide +kernel
theorem dL_isLaid_280 : decode cL_isLaid 280 = .ok (.iload 12, 2) := by decide +kernel
theorem dL_isLaid_282 : decode cL_isLaid 282 = .ok (.if_icmp .eq 6, 3) := by decide +kernel
theorem dL_isLaid_285 : decode cL_isLaid 285 = .ok (.goto 15, 3) := by decide +kernel
theorem dL_isLaid_288 : decode cL_isLaid 288 = .ok (.iload 14, 2) := by decide +kernel
theorem dL_isLaid_290 : decode cL_isLaid 290 = .ok (.aload_n 3, 1) := by decide +kernel
theorem dL_isLaid_291 : decode cL_isLaid 291 = .ok (.iload 16, 2) := by decide +kernel
theorem dL_isLaid_293 : decode cL_isLaid 293 = .ok (.iaload, 1) := by decide +kernel
theorem dL_isLaid_294 : decode cL_isLaid 294 = .ok (.iadd, 1) := by decide +kernel
theorem dL_isLaid_295 : decode cL_isLaid 295 = .ok (.istore 14, 2) := by decide +kernel
theorem dL_isLaid_297 : decode cL_isLaid 297 = .ok (.iinc 15 1, 3) := by decide +kernel
theorem dL_isLaid_300 : decode cL_isLaid 300 = .ok (.iinc 16 1, 3) := by decide +kernel
theorem dL_isLaid_303 : decode cL_isLaid 303 = .ok (.goto (-44), 3) := by decide +kernel
theorem dL_isLaid_306 : decode cL_isLaid 306 = .ok (.iload 11, 2) := by decide +kernel
theorem dL_isLaid_308 : decode cL_isLaid 308 = .ok (.iload 15, 2) := by decide +kernel
theorem dL_isLaid_310 : decode cL_isLaid 310 = .ok (.iadd, 1) := by decide +kernel
theorem dL_isLaid_311 : decode cL_isLaid 311 = .ok (.istore 11, 2) := by decide +kernel
theorem dL_isLaid_313 : decode cL_isLaid 313 = .ok (.iload 14, 2) := by decide +kernel
theorem dL_isLaid_315 : decode cL_isLaid 315 = .ok (.iload_n 2, 1) := by decide +kernel
theorem dL_isLaid_316 : decode cL_isLaid 316 = .ok (.if_icmp .ne 15, 3) := by decide +kernel
theorem dL_isLaid_319 : decode cL_isLaid 319 = .ok (.iload 15, 2) := by decide +kernel
theorem dL_isLaid_321 : decode cL_isLaid 321 = .ok (.aload_n 0, 1) := by decide +kernel
theorem dL_isLaid_322 : decode cL_isLaid 322 = .ok (.iload 12, 2) := by decide +kernel
theorem dL_isLaid_324 : decode cL_isLaid 324 = .ok (.iconst 2, 1) := by decide +kernel
theorem dL_isLaid_325 : decode cL_isLaid 325 = .ok (.invokevirtual 81, 3) := by decide +kernel
theorem dL_isLaid_328 : decode cL_isLaid 328 = .ok (.if_icmp .eq 5, 3) := by decide +kernel
theorem dL_isLaid_331 : decode cL_isLaid 331 = .ok (.iconst 0, 1) := by decide +kernel
theorem dL_isLaid_332 : decode cL_isLaid 332 = .ok (.ireturn, 1) := by decide +kernel
theorem dL_isLaid_333 : decode cL_isLaid 333 = .ok (.iconst 0, 1) := by decide +kernel
theorem dL_isLaid_334 : decode cL_isLaid 334 = .ok (.istore 16, 2) := by decide +kernel
theorem dL_isLaid_336 : decode cL_isLaid 336 = .ok (.iload 16, 2) := by decide +kernel
theorem dL_isLaid_338 : decode cL_isLaid 338 = .ok (.iload 5, 2) := by decide +kernel
theorem dL_isLaid_340 : decode cL_isLaid 340 = .ok (.if_icmp .ge 33, 3) := by decide +kernel
theorem dL_isLaid_343 : decode cL_isLaid 343 = .ok (.aload_n 0, 1) := by decide +kernel
theorem dL_isLaid_344 : decode cL_isLaid 344 = .ok (.iload 12, 2) := by decide +kernel
theorem dL_isLaid_346 : decode cL_isLaid 346 = .ok (.iload 16, 2) := by decide +kernel
theorem dL_isLaid_348 : decode cL_isLaid 348 = .ok (.invokevirtual 87, 3) := by decide +kernel
theorem dL_isLaid_351 : decode cL_isLaid 351 = .ok (.aload_n 0, 1) := by decide +kernel
theorem dL_isLaid_352 : decode cL_isLaid 352 = .ok (.iload 9, 2) := by decide +kernel
theorem dL_isLaid_354 : decode cL_isLaid 354 = .ok (.iconst 1, 1) := by decide +kernel
theorem dL_isLaid_355 : decode cL_isLaid 355 = .ok (.isub, 1) := by decide +kernel
theorem dL_isLaid_356 : decode cL_isLaid 356 = .ok (.iload 16, 2) := by decide +kernel
theorem dL_isLaid_358 : decode cL_isLaid 358 = .ok (.iconst 3, 1) := by decide +kernel
theorem dL_isLaid_359 : decode cL_isLaid 359 = .ok (.invokevirtual 73, 3) := by decide +kernel
theorem dL_isLaid_362 : decode cL_isLaid 362 = .ok (.if_icmp .eq 5, 3) := by decide +kernel
theorem dL_isLaid_365 : decode cL_isLaid 365 = .ok (.iconst 0, 1) := by decide +kernel
theorem dL_isLaid_366 : decode cL_isLaid 366 = .ok (.ireturn, 1) := by decide +kernel
theorem dL_isLaid_367 : decode cL_isLaid 367 = .ok (.iinc 16 1, 3) := by decide +kernel
theorem dL_isLaid_370 : decode cL_isLaid 370 = .ok (.goto (-34), 3) := by decide +kernel
theorem dL_isLaid_373 : decode cL_isLaid 373 = .ok (.iinc 12 1, 3) := by decide +kernel
theorem dL_isLaid_376 : decode cL_isLaid 376 = .ok (.goto (-261), 3) := by decide +kernel
theorem dL_isLaid_379 : decode cL_isLaid 379 = .ok (.iconst 0, 1) := by decide +kernel
theorem dL_isLaid_380 : decode cL_isLaid 380 = .ok (.istore 12, 2) := by decide +kernel
theorem dL_isLaid_382 : decode cL_isLaid 382 = .ok (.iconst 0, 1) := by decide +kernel
theorem dL_isLaid_383 : decode cL_isLaid 383 = .ok (.istore 13, 2) := by decide +kernel
theorem dL_isLaid_385 : decode cL_isLaid 385 = .ok (.iload 13, 2) := by decide +kernel
theorem dL_isLaid_387 : decode cL_isLaid 387 = .ok (.iload 6, 2) := by decide +kernel
theorem dL_isLaid_389 : decode cL_isLaid 389 = .ok (.if_icmp .ge 97, 3) := by decide +kernel
theorem dL_isLaid_392 : decode cL_isLaid 392 = .ok (.aload_n 0, 1) := by decide +kernel
theorem dL_isLaid_393 : decode cL_isLaid 393 = .ok (.iload 13, 2) := by decide +kernel
theorem dL_isLaid_395 : decode cL_isLaid 395 = .ok (.iconst 2, 1) := by decide +kernel
theorem dL_isLaid_396 : decode cL_isLaid 396 = .ok (.invokevirtual 84, 3) := by decide +kernel
theorem dL_isLaid_399 : decode cL_isLaid 399 = .ok (.istore 14, 2) := by decide +kernel
theorem dL_isLaid_401 : decode cL_isLaid 401 = .ok (.aload_n 3, 1) := by decide +kernel
theorem dL_isLaid_402 : decode cL_isLaid 402 = .ok (.iload 13, 2) := by decide +kernel
theorem dL_isLaid_404 : decode cL_isLaid 404 = .ok (.iaload, 1) := by decide +kernel
theorem dL_isLaid_405 : decode cL_isLaid 405 = .ok (.ifCond .ne 7, 3) := by decide +kernel
theorem dL_isLaid_408 : decode cL_isLaid 408 = .ok (.iconst 1, 1) := by decide +kernel
theorem dL_isLaid_409 : decode cL_isLaid 409 = .ok (.goto 4, 3) := by decide +kernel
theorem dL_isLaid_412 : decode cL_isLaid 412 = .ok (.iconst 0, 1) := by decide +kernel
theorem dL_isLaid_413 : decode cL_isLaid 413 = .ok (.iload 14, 2) := by decide +kernel
theorem dL_isLaid_415 : decode cL_isLaid 415 = .ok (.ifCond .ge 7, 3) := by decide +kernel
theorem dL_isLaid_418 : decode cL_isLaid 418 = .ok (.iconst 1, 1) := by decide +kernel
theorem dL_isLaid_419 : decode cL_isLaid 419 = .ok (.goto 4, 3) := by decide +kernel
theorem dL_isLaid_422 : decode cL_isLaid 422 = .ok (.iconst 0, 1) := by decide +kernel
theorem dL_isLaid_423 : decode cL_isLaid 423 = .ok (.if_icmp .ne 29, 3) := by decide +kernel
theorem dL_isLaid_426 : decode cL_isLaid 426 = .ok (.aload_n 3, 1) := by decide +kernel
theorem dL_isLaid_427 : decode cL_isLaid 427 = .ok (.iload 13, 2) := by decide +kernel
theorem dL_isLaid_429 : decode cL_isLaid 429 = .ok (.iaload, 1) := by decide +kernel
theorem dL_isLaid_430 : decode cL_isLaid 430 = .ok (.ifCond .le 24, 3) := by decide +kernel
theorem dL_isLaid_433 : decode cL_isLaid 433 = .ok (.iload 14, 2) := by decide +kernel
theorem dL_isLaid_435 : decode cL_isLaid 435 = .ok (.aload_n 0, 1) := by decide +kernel
theorem dL_isLaid_436 : decode cL_isLaid 436 = .ok (.iload 13, 2) := by decide +kernel
theorem dL_isLaid_438 : decode cL_isLaid 438 = .ok (.iconst 1, 1) := by decide +kernel
theorem dL_isLaid_439 : decode cL_isLaid 439 = .ok (.invokevirtual 84, 3) := by decide +kernel
theorem dL_isLaid_442 : decode cL_isLaid 442 = .ok (.if_icmp .lt 10, 3) := by decide +kernel
theorem dL_isLaid_445 : decode cL_isLaid 445 = .ok (.iload 14, 2) := by decide +kernel
theorem dL_isLaid_447 : decode cL_isLaid 447 = .ok (.iload 12, 2) := by decide +kernel
theorem dL_isLaid_449 : decode cL_isLaid 449 = .ok (.if_icmp .ge 5, 3) := by decide +kernel
theorem dL_isLaid_452 : decode cL_isLaid 452 = .ok (.iconst 0, 1) := by decide +kernel
theorem dL_isLaid_453 : decode cL_isLaid 453 = .ok (.ireturn, 1) := by decide +kernel
theorem dL_isLaid_454 : decode cL_isLaid 454 = .ok (.iload 12, 2) := by decide +kernel
theorem dL_isLaid_456 : decode cL_isLaid 456 = .ok (.iload 14, 2) := by decide +kernel
theorem dL_isLaid_458 : decode cL_isLaid 458 = .ok (.invokestatic 90, 3) := by decide +kernel
theorem dL_isLaid_461 : decode cL_isLaid 461 = .ok (.istore 12, 2) := by decide +kernel
theorem dL_isLaid_463 : decode cL_isLaid 463 = .ok (.aload_n 0, 1) := by decide +kernel
theorem dL_isLaid_464 : decode cL_isLaid 464 = .ok (.iload 13, 2) := by decide +kernel
theorem dL_isLaid_466 : decode cL_isLaid 466 = .ok (.iload 6, 2) := by decide +kernel
theorem dL_isLaid_468 : decode cL_isLaid 468 = .ok (.iload_n 2, 1) := by decide +kernel
theorem dL_isLaid_469 : decode cL_isLaid 469 = .ok (.aload_n 3, 1) := by decide +kernel
theorem dL_isLaid_470 : decode cL_isLaid 470 = .ok (.aload 4, 2) := by decide +kernel
theorem dL_isLaid_472 : decode cL_isLaid 472 = .ok (.invokestatic 93, 3) := by decide +kernel
theorem dL_isLaid_475 : decode cL_isLaid 475 = .ok (.ifCond .ne 5, 3) := by decide +kernel
theorem dL_isLaid_478 : decode cL_isLaid 478 = .ok (.iconst 0, 1) := by decide +kernel
theorem dL_isLaid_479 : decode cL_isLaid 479 = .ok (.ireturn, 1) := by decide +kernel
theorem dL_isLaid_480 : decode cL_isLaid 480 = .ok (.iinc 13 1, 3) := by decide +kernel
theorem dL_isLaid_483 : decode cL_isLaid 483 = .ok (.goto (-98), 3) := by decide +kernel
theorem dL_isLaid_486 : decode cL_isLaid 486 = .ok (.iconst 0, 1) := by decide +kernel
theorem dL_isLaid_487 : decode cL_isLaid 487 = .ok (.istore 13, 2) := by decide +kernel
theorem dL_isLaid_489 : decode cL_isLaid 489 = .ok (.iload 13, 2) := by decide +kernel
theorem dL_isLaid_491 : decode cL_isLaid 491 = .ok (.iload 6, 2) := by decide +kernel
theorem dL_isLaid_493 : decode cL_isLaid 493 = .ok (.if_icmp .ge 26, 3) := by decide +kernel
theorem dL_isLaid_496 : decode cL_isLaid 496 = .ok (.iload 11, 2) := by decide +kernel
theorem dL_isLaid_498 : decode cL_isLaid 498 = .ok (.aload_n 3, 1) := by decide +kernel
theorem dL_isLaid_499 : decode cL_isLaid 499 = .ok (.iload 13, 2) := by decide +kernel
theorem dL_isLaid_501 : decode cL_isLaid 501 = .ok (.iaload, 1) := by decide +kernel
theorem dL_isLaid_502 : decode cL_isLaid 502 = .ok (.ifCond .le 7, 3) := by decide +kernel
theorem dL_isLaid_505 : decode cL_isLaid 505 = .ok (.iconst 1, 1) := by decide +kernel
theorem dL_isLaid_506 : decode cL_isLaid 506 = .ok (.goto 4, 3) := by decide +kernel
theorem dL_isLaid_509 : decode cL_isLaid 509 = .ok (.iconst 0, 1) := by decide +kernel
theorem dL_isLaid_510 : decode cL_isLaid 510 = .ok (.isub, 1) := by decide +kernel
theorem dL_isLaid_511 : decode cL_isLaid 511 = .ok (.istore 11, 2) := by decide +kernel
theorem dL_isLaid_513 : decode cL_isLaid 513 = .ok (.iinc 13 1, 3) := by decide +kernel
theorem dL_isLaid_516 : decode cL_isLaid 516 = .ok (.goto (-27), 3) := by decide +kernel
theorem dL_isLaid_519 : decode cL_isLaid 519 = .ok (.iload 9, 2) := by decide +kernel
theorem dL_isLaid_521 : decode cL_isLaid 521 = .ok (.iload 6, 2) := by decide +kernel
theorem dL_isLaid_523 : decode cL_isLaid 523 = .ok (.if_icmp .ne 22, 3) := by decide +kernel
theorem dL_isLaid_526 : decode cL_isLaid 526 = .ok (.iload 10, 2) := by decide +kernel
theorem dL_isLaid_528 : decode cL_isLaid 528 = .ok (.aload_n 0, 1) := by decide +kernel
theorem dL_isLaid_529 : decode cL_isLaid 529 = .ok (.iconst 5, 1) := by decide +kernel
theorem dL_isLaid_530 : decode cL_isLaid 530 = .ok (.invokevirtual 26, 3) := by decide +kernel
theorem dL_isLaid_533 : decode cL_isLaid 533 = .ok (.if_icmp .ne 12, 3) := by decide +kernel
theorem dL_isLaid_536 : decode cL_isLaid 536 = .ok (.iload 11, 2) := by decide +kernel
theorem dL_isLaid_538 : decode cL_isLaid 538 = .ok (.ifCond .ne 7, 3) := by decide +kernel
theorem dL_isLaid_541 : decode cL_isLaid 541 = .ok (.iconst 1, 1) := by decide +kernel
theorem dL_isLaid_542 : decode cL_isLaid 542 = .ok (.goto 4, 3) := by decide +kernel
theorem dL_isLaid_545 : decode cL_isLaid 545 = .ok (.iconst 0, 1) := by decide +kernel
theorem dL_isLaid_546 : decode cL_isLaid 546 = .ok (.ireturn, 1) := by decide +kernel
