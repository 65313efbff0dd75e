set_option maxRecDepth 20000 in
theorem ggX4_changedBy_X4_requireNumberCell : GoodIn wsX4_changedBy wsX4_requireNumberCell := goodIn_ca (goodIn_ca (goodIn_r _ [12, 13, 14, 15, 11, 16, 17, 18, 3, 19, 20, 21, 22, 23, 24, 25, 26, 27, 28, 29, 30, 31, 196, 197, 198, 199, 200, 201, 202, 203, 204, 205, 206, 207, 208, 209, 210, 211, 212] (by decide +kernel) (by decide +kernel)) (goodIn_sub (fun _ h => List.mem_cons_of_mem _ (List.mem_append_left _ (List.mem_append_right _ h))) (by decide +kernel))) (goodIn_sub (fun _ h => List.mem_cons_of_mem _ (List.mem_append_right _ h)) (by decide +kernel))
set_option maxRecDepth 20000 in
theorem gX4_changedBy_X4_requireNumberCell : GoodIn wsX4_changedBy (wsV RX4 92 RX4 yX4_requireNumberCell wsX4_requireNumberCell) := goodIn_app (goodIn_of _ (by decide +kernel)) ggX4_changedBy_X4_requireNumberCell
set_option maxRecDepth 20000 in
theorem ggX4_changedBy_X4_refresh : GoodIn wsX4_changedBy wsX4_refresh := goodIn_r _ [35, 36, 3, 1, 37, 38, 39, 40, 41, 42, 43, 44, 45, 46, 47, 48, 49, 50, 51, 52, 53, 54, 55, 56, 57, 58, 59, 60, 61, 62, 63, 64, 6, 65, 66, 67, 68, 69, 70, 71, 72, 73, 74, 5, 7, 75, 76, 77, 78, 79, 80, 81, 82, 83, 84, 85, 86, 87, 88, 89, 90, 91, 92, 93, 94, 95, 96, 97, 98, 99, 100, 101, 102, 103, 104, 105, 106, 107, 108, 109, 110, 111, 112, 113, 114, 115, 116, 117, 118, 119, 120, 121, 122, 123, 124, 125, 126, 127, 128, 129, 130, 131, 132, 133, 134, 135, 136, 137, 138, 139, 140, 141, 142, 143, 144, 145, 146, 147, 148, 149, 150, 151, 152, 153, 154, 155, 156, 157, 158, 159, 196, 197, 198, 199, 200, 201, 202, 203, 204, 205, 206, 207, 208, 209, 210, 211, 212, 213, 214, 215, 216, 217, 218, 219, 220, 235, 236, 237, 221, 222, 223, 224, 225, 226, 227, 228, 229, 230, 231, 232, 233, 234] (by decide +kernel) (by decide +kernel)
set_option maxRecDepth 20000 in
theorem gX4_changedBy_X4_refresh : GoodIn wsX4_changedBy (wsV RX4 131 RX4 yX4_refresh wsX4_refresh) := goodIn_app (goodIn_of _ (by decide +kernel)) ggX4_changedBy_X4_refresh
set_option maxRecDepth 20000 in
theorem ggX4_changedBy_X2_chosen : GoodIn wsX4_changedBy wsX2_chosen := goodIn_r _ [163, 98, 97, 96, 235, 236, 237] (by decide +kernel) (by decide +kernel)
set_option maxRecDepth 20000 in
theorem gX4_changedBy_X2_chosen : GoodIn wsX4_changedBy (wsV RX4 143 RX2 yX2_chosen wsX2_chosen) := goodIn_app (goodIn_of _ (by decide +kernel)) ggX4_changedBy_X2_chosen
set_option maxRecDepth 20000 in
theorem ggX4_changedBy_X3_copyFrom : GoodIn wsX4_changedBy wsX3_copyFrom := goodIn_r _ [167, 44, 45, 73, 56, 57, 50, 51, 168, 169, 170, 171, 172, 173, 174, 175, 176, 177, 178, 204, 205, 206, 207, 208, 209, 210, 211, 212, 213, 214, 215, 216, 217, 218, 219, 220] (by decide +kernel) (by decide +kernel)
set_option maxRecDepth 20000 in
theorem gX4_changedBy_X3_copyFrom : GoodIn wsX4_changedBy (wsV RX4 183 RX3 yX3_copyFrom wsX3_copyFrom) := goodIn_app (goodIn_of _ (by decide +kernel)) ggX4_changedBy_X3_copyFrom
set_option maxRecDepth 20000 in
theorem ggX4_changedBy_X4_layoutOfTrial : GoodIn wsX4_changedBy wsX4_layoutOfTrial := goodIn_r _ [182, 2, 183, 37, 38, 39, 40, 41, 42, 43, 44, 45, 46, 47, 48, 49, 50, 51, 52, 53, 54, 55, 56, 57, 58, 59, 60, 61, 62, 63, 64, 6, 65, 66, 67, 68, 69, 70, 71, 72, 73, 74, 5, 7, 75, 76, 77, 78, 79, 80, 81, 82, 83, 84, 85, 86, 87, 88, 89, 90, 91, 92, 93, 94, 95, 96, 97, 98, 99, 100, 101, 102, 103, 104, 105, 106, 107, 108, 109, 110, 111, 112, 113, 114, 115, 116, 117, 118, 119, 120, 121, 122, 123, 124, 125, 126, 127, 128, 129, 130, 131, 132, 133, 134, 135, 136, 137, 138, 139, 140, 141, 142, 143, 144, 145, 146, 147, 148, 149, 150, 151, 152, 153, 154, 155, 156, 157, 158, 159, 160, 161, 162, 163, 196, 197, 198, 199, 200, 201, 202, 203, 204, 205, 206, 207, 208, 209, 210, 211, 212, 213, 214, 215, 216, 217, 218, 219, 220, 235, 236, 237, 221, 222, 223, 224, 225, 226, 227, 228, 229, 230, 231, 232, 233, 234] (by decide +kernel) (by decide +kernel)
set_option maxRecDepth 20000 in
theorem gX4_changedBy_X4_layoutOfTrial : GoodIn wsX4_changedBy (wsV RX4 187 RX4 yX4_layoutOfTrial wsX4_layoutOfTrial) := goodIn_app (goodIn_of _ (by decide +kernel)) ggX4_changedBy_X4_layoutOfTrial
set_option maxRecDepth 20000 in
theorem ggX4_changedBy_X4_isPageOther : GoodIn wsX4_changedBy wsX4_isPageOther := goodIn_r _ [187, 3, 2, 188, 189, 190, 102, 191, 141, 192, 193, 194, 42, 195, 45, 51, 221, 222, 223, 224, 225, 226, 227, 228, 229, 230, 231, 232, 233, 234, 196, 197, 198, 199, 200, 201, 202, 203, 204, 205, 206, 207, 208, 209, 210, 211, 212, 213, 214, 215, 216, 217, 218, 219, 220] (by decide +kernel) (by decide +kernel)
set_option maxRecDepth 20000 in
theorem gX4_changedBy_X4_isPageOther : GoodIn wsX4_changedBy (wsV RX4 193 RX4 yX4_isPageOther wsX4_isPageOther) := goodIn_app (goodIn_of _ (by decide +kernel)) ggX4_changedBy_X4_isPageOther
theorem dX4_changedBy_0 : decode cX4_changedBy 0 = .ok (.aload_n 0, 1) := by decide +kernel
theorem dX4_changedBy_1 : decode cX4_changedBy 1 = .ok (.iload_n 1, 1) := by decide +kernel
theorem dX4_changedBy_2 : decode cX4_changedBy 2 = .ok (.iload_n 2, 1) := by decide +kernel
theorem dX4_changedBy_3 : decode cX4_changedBy 3 = .ok (.iload_n 3, 1) := by decide +kernel
theorem dX4_changedBy_4 : decode cX4_changedBy 4 = .ok (.invokevirtual 92, 3) := by decide +kernel
theorem dX4_changedBy_7 : decode cX4_changedBy 7 = .ok (.aload_n 0, 1) := by decide +kernel
theorem dX4_changedBy_8 : decode cX4_changedBy 8 = .ok (.invokevirtual 131, 3) := by decide +kernel
theorem dX4_changedBy_11 : decode cX4_changedBy 11 = .ok (.aload_n 0, 1) := by decide +kernel
theorem dX4_changedBy_12 : decode cX4_changedBy 12 = .ok (.getfield 19, 3) := by decide +kernel
theorem dX4_changedBy_15 : decode cX4_changedBy 15 = .ok (.invokevirtual 143, 3) := by decide +kernel
theorem dX4_changedBy_18 : decode cX4_changedBy 18 = .ok (.astore 4, 2) := by decide +kernel
theorem dX4_changedBy_20 : decode cX4_changedBy 20 = .ok (.aload_n 0, 1) := by decide +kernel
theorem dX4_changedBy_21 : decode cX4_changedBy 21 = .ok (.getfield 34, 3) := by decide +kernel
theorem dX4_changedBy_24 : decode cX4_changedBy 24 = .ok (.aload_n 0, 1) := by decide +kernel
theorem dX4_changedBy_25 : decode cX4_changedBy 25 = .ok (.getfield 12, 3) := by decide +kernel
theorem dX4_changedBy_28 : decode cX4_changedBy 28 = .ok (.invokevirtual 183, 3) := by decide +kernel
theorem dX4_changedBy_31 : decode cX4_changedBy 31 = .ok (.aload_n 0, 1) := by decide +kernel
theorem dX4_changedBy_32 : decode cX4_changedBy 32 = .ok (.getfield 34, 3) := by decide +kernel
theorem dX4_changedBy_35 : decode cX4_changedBy 35 = .ok (.getfield 95, 3) := by decide +kernel
theorem dX4_changedBy_38 : decode cX4_changedBy 38 = .ok (.iload_n 1, 1) := by decide +kernel
theorem dX4_changedBy_39 : decode cX4_changedBy 39 = .ok (.aaload, 1) := by decide +kernel
theorem dX4_changedBy_40 : decode cX4_changedBy 40 = .ok (.getfield 99, 3) := by decide +kernel
theorem dX4_changedBy_43 : decode cX4_changedBy 43 = .ok (.iload_n 2, 1) := by decide +kernel
theorem dX4_changedBy_44 : decode cX4_changedBy 44 = .ok (.iload_n 3, 1) := by decide +kernel
theorem dX4_changedBy_45 : decode cX4_changedBy 45 = .ok (.iastore, 1) := by decide +kernel
theorem dX4_changedBy_46 : decode cX4_changedBy 46 = .ok (.aload_n 0, 1) := by decide +kernel
theorem dX4_changedBy_47 : decode cX4_changedBy 47 = .ok (.invokevirtual 187, 3) := by decide +kernel
theorem dX4_changedBy_50 : decode cX4_changedBy 50 = .ok (.astore 5, 2) := by decide +kernel
theorem dX4_changedBy_52 : decode cX4_changedBy 52 = .ok (.aload 4, 2) := by decide +kernel
theorem dX4_changedBy_54 : decode cX4_changedBy 54 = .ok (.getfield 174, 3) := by decide +kernel
theorem dX4_changedBy_57 : decode cX4_changedBy 57 = .ok (.aload 5, 2) := by decide +kernel
theorem dX4_changedBy_59 : decode cX4_changedBy 59 = .ok (.getfield 174, 3) := by decide +kernel
theorem dX4_changedBy_62 : decode cX4_changedBy 62 = .ok (.invokestatic 190, 3) := by decide +kernel
theorem dX4_changedBy_65 : decode cX4_changedBy 65 = .ok (.istore 6, 2) := by decide +kernel
theorem dX4_changedBy_67 : decode cX4_changedBy 67 = .ok (.iconst 0, 1) := by decide +kernel
theorem dX4_changedBy_68 : decode cX4_changedBy 68 = .ok (.istore 7, 2) := by decide +kernel
theorem dX4_changedBy_70 : decode cX4_changedBy 70 = .ok (.iconst 0, 1) := by decide +kernel
theorem dX4_changedBy_71 : decode cX4_changedBy 71 = .ok (.istore 8, 2) := by decide +kernel
theorem dX4_changedBy_73 : decode cX4_changedBy 73 = .ok (.iload 8, 2) := by decide +kernel
theorem dX4_changedBy_75 : decode cX4_changedBy 75 = .ok (.iload 6, 2) := by decide +kernel
theorem dX4_changedBy_77 : decode cX4_changedBy 77 = .ok (.if_icmp .ge 57, 3) := by decide +kernel
theorem dX4_changedBy_80 : decode cX4_changedBy 80 = .ok (.iload 8, 2) := by decide +kernel
theorem dX4_changedBy_82 : decode cX4_changedBy 82 = .ok (.aload 4, 2) := by decide +kernel
theorem dX4_changedBy_84 : decode cX4_changedBy 84 = .ok (.getfield 174, 3) := by decide +kernel
theorem dX4_changedBy_87 : decode cX4_changedBy 87 = .ok (.if_icmp .ge 17, 3) := by decide +kernel
theorem dX4_changedBy_90 : decode cX4_changedBy 90 = .ok (.iload 8, 2) := by decide +kernel
theorem dX4_changedBy_92 : decode cX4_changedBy 92 = .ok (.aload 5, 2) := by decide +kernel
theorem dX4_changedBy_94 : decode cX4_changedBy 94 = .ok (.getfield 174, 3) := by decide +kernel
theorem dX4_changedBy_97 : decode cX4_changedBy 97 = .ok (.if_icmp .ge 7, 3) := by decide +kernel
theorem dX4_changedBy_100 : decode cX4_changedBy 100 = .ok (.iconst 1, 1) := by decide +kernel
theorem dX4_changedBy_101 : decode cX4_changedBy 101 = .ok (.goto 4, 3) := by decide +kernel
theorem dX4_changedBy_104 : decode cX4_changedBy 104 = .ok (.iconst 0, 1) := by decide +kernel
theorem dX4_changedBy_105 : decode cX4_changedBy 105 = .ok (.istore 9, 2) := by decide +kernel
theorem dX4_changedBy_107 : decode cX4_changedBy 107 = .ok (.iload 9, 2) := by decide +kernel
theorem dX4_changedBy_109 : decode cX4_changedBy 109 = .ok (.ifCond .eq 16, 3) := by decide +kernel
theorem dX4_changedBy_112 : decode cX4_changedBy 112 = .ok (.aload_n 0, 1) := by decide +kernel
theorem dX4_changedBy_113 : decode cX4_changedBy 113 = .ok (.aload 4, 2) := by decide +kernel
theorem dX4_changedBy_115 : decode cX4_changedBy 115 = .ok (.aload 5, 2) := by decide +kernel
theorem dX4_changedBy_117 : decode cX4_changedBy 117 = .ok (.iload 8, 2) := by decide +kernel
theorem dX4_changedBy_119 : decode cX4_changedBy 119 = .ok (.invokevirtual 193, 3) := by decide +kernel
theorem dX4_changedBy_122 : decode cX4_changedBy 122 = .ok (.ifCond .eq 6, 3) := by decide +kernel
theorem dX4_changedBy_125 : decode cX4_changedBy 125 = .ok (.iinc 7 1, 3) := by decide +kernel
theorem dX4_changedBy_128 : decode cX4_changedBy 128 = .ok (.iinc 8 1, 3) := by decide +kernel
theorem dX4_changedBy_131 : decode cX4_changedBy 131 = .ok (.goto (-58), 3) := by decide +kernel
theorem dX4_changedBy_134 : decode cX4_changedBy 134 = .ok (.iload 7, 2) := by decide +kernel
theorem dX4_changedBy_136 : decode cX4_changedBy 136 = .ok (.ireturn, 1) := by decide +kernel
set_option maxRecDepth 20000 in
theorem ggX4_digest_X4_refresh : GoodIn wsX4_digest wsX4_refresh := goodIn_r _ [8, 9, 2, 3, 10, 11, 12, 13, 14, 15, 16, 17, 18, 19, 20, 21, 22, 23, 24, 25, 26, 27, 28, 29, 30, 31, 32, 33, 34, 35, 36, 37, 38, 39, 40, 41, 42, 43, 44, 45, 46, 47, 48, 49, 50, 51, 52, 53, 54, 55, 56, 57, 58, 59, 60, 61, 62, 63, 64, 65, 66, 67, 68, 69, 70, 71, 72, 73, 74, 75, 76, 77, 78, 79, 80, 81, 82, 83, 84, 85, 86, 87, 88, 89, 90, 91, 92, 93, 94, 95, 96, 97, 98, 99, 100, 101, 102, 103, 104, 105, 106, 107, 108, 109, 110, 111, 112, 113, 114, 115, 116, 117, 118, 119, 120, 121, 122, 123, 124, 125, 126, 127, 128, 129, 130, 131, 132, 133, 134, 135, 212, 213, 214, 215, 216, 217, 218, 219, 220, 221, 222, 223, 224, 225, 226, 227, 228, 243, 244, 245, 246, 247, 248, 249, 250, 251, 252, 253, 229, 230, 231, 232, 233, 234, 235, 236, 237, 238, 239, 240, 241, 242] (by decide +kernel) (by decide +kernel)
set_option maxRecDepth 20000 in
theorem gX4_digest_X4_refresh : GoodIn wsX4_digest (wsV RX4 131 RX4 yX4_refresh wsX4_refresh) := goodIn_app (goodIn_of _ (by decide +kernel)) ggX4_digest_X4_refresh
set_option maxRecDepth 20000 in
theorem ggX4_digest_X4_factOfTable : GoodIn wsX4_digest wsX4_factOfTable := goodIn_r _ [139, 3, 2, 140, 141, 142, 70, 143, 74, 73, 72, 144, 145, 146, 78, 147, 81, 82, 148, 91, 92, 93, 89, 149, 150, 151, 152, 103, 153, 154, 155, 15, 156, 23, 24, 157, 158, 159, 160, 122, 135, 212, 213, 214, 215, 216, 217, 218, 219, 220, 221, 222, 223, 224, 225, 226, 227, 228, 229, 230, 231, 232, 233, 234, 235, 236, 237, 238, 239, 240, 241, 242, 251, 252, 253, 243, 244, 245, 246, 247, 248, 249, 250] (by decide +kernel) (by decide +kernel)
set_option maxRecDepth 20000 in
theorem gX4_digest_X4_factOfTable : GoodIn wsX4_digest (wsV RX4 170 RX4 yX4_factOfTable wsX4_factOfTable) := goodIn_app (goodIn_of _ (by decide +kernel)) ggX4_digest_X4_factOfTable
set_option maxRecDepth 20000 in
theorem ggX4_digest_X4_digestWith : GoodIn wsX4_digest wsX4_digestWith := goodIn_r _ [163, 164] (by decide +kernel) (by decide +kernel)
set_option maxRecDepth 20000 in
theorem gX4_digest_X4_digestWith : GoodIn wsX4_digest (va_wsS RX4 199 yX4_digestWith wsX4_digestWith) := goodIn_app (goodIn_of _ (by decide +kernel)) ggX4_digest_X4_digestWith
set_option maxRecDepth 20000 in
theorem ggX4_digest_X4_factOfColumn : GoodIn wsX4_digest wsX4_factOfColumn := goodIn_r _ [168, 3, 2, 140, 141, 142, 70, 143, 74, 73, 72, 169, 170, 171, 15, 172, 18, 24, 212, 213, 214, 215, 216, 217, 218, 219, 220, 221, 222, 223, 224, 225, 226, 227, 228, 229, 230, 231, 232, 233, 234, 235, 236, 237, 238, 239, 240, 241, 242, 251, 252, 253, 243, 244, 245, 246, 247, 248, 249, 250] (by decide +kernel) (by decide +kernel)
set_option maxRecDepth 20000 in
theorem gX4_digest_X4_factOfColumn : GoodIn wsX4_digest (wsV RX4 154 RX4 yX4_factOfColumn wsX4_factOfColumn) := goodIn_app (goodIn_of _ (by decide +kernel)) ggX4_digest_X4_factOfColumn
set_option maxRecDepth 20000 in
theorem ggX4_digest_X4_digestWithRow : GoodIn wsX4_digest wsX4_digestWithRow := goodIn_r _ [176, 2, 177, 178, 179, 7, 180, 3, 140, 141, 142, 70, 143, 74, 73, 72, 161, 162, 163, 164, 181, 182, 183, 184, 185, 105, 106, 78, 107, 89, 102, 49, 38, 50, 108, 57, 58, 15, 59, 17, 24, 169, 170, 171, 172, 18, 212, 213, 214, 215, 216, 217, 218, 219, 220, 221, 222, 223, 224, 225, 226, 227, 228, 229, 230, 231, 232, 233, 234, 235, 236, 237, 238, 239, 240, 241, 242, 251, 252, 253, 243, 244, 245, 246, 247, 248, 249, 250] (by decide +kernel) (by decide +kernel)
set_option maxRecDepth 20000 in
theorem gX4_digest_X4_digestWithRow : GoodIn wsX4_digest (wsV RX4 203 RX4 yX4_digestWithRow wsX4_digestWithRow) := goodIn_app (goodIn_of _ (by decide +kernel)) ggX4_digest_X4_digestWithRow
set_option maxRecDepth 20000 in
theorem ggX4_digest_X2_chosen : GoodIn wsX4_digest wsX2_chosen := goodIn_r _ [143, 74, 73, 72, 251, 252, 253] (by decide +kernel) (by decide +kernel)
set_option maxRecDepth 20000 in
theorem gX4_digest_X2_chosen : GoodIn wsX4_digest (wsV RX4 143 RX2 yX2_chosen wsX2_chosen) := goodIn_app (goodIn_of _ (by decide +kernel)) ggX4_digest_X2_chosen
set_option maxRecDepth 20000 in
theorem ggX4_digest_X4_digestWithPage : GoodIn wsX4_digest wsX4_digestWithPage := goodIn_r _ [189, 2, 3, 190, 191, 192, 7, 193, 140, 141, 142, 70, 143, 74, 73, 72, 194, 195, 196, 78, 197, 115, 135, 198, 199, 200, 161, 162, 163, 164, 201, 202, 203, 204, 117, 205, 170, 171, 15, 172, 18, 24, 212, 213, 214, 215, 216, 217, 218, 219, 220, 221, 222, 223, 224, 225, 226, 227, 228, 229, 230, 231, 232, 233, 234, 235, 236, 237, 238, 239, 240, 241, 242, 251, 252, 253, 243, 244, 245, 246, 247, 248, 249, 250] (by decide +kernel) (by decide +kernel)
set_option maxRecDepth 20000 in
theorem gX4_digest_X4_digestWithPage : GoodIn wsX4_digest (wsV RX4 206 RX4 yX4_digestWithPage wsX4_digestWithPage) := goodIn_app (goodIn_of _ (by decide +kernel)) ggX4_digest_X4_digestWithPage
set_option maxRecDepth 20000 in
theorem ggX4_digest_X4_pagesIn : GoodIn wsX4_digest wsX4_pagesIn := goodIn_r _ [209, 210, 2, 211, 76, 77, 78, 79, 80, 81, 82, 83, 84, 85, 86, 87, 88, 89, 90, 91, 92, 93, 94, 95, 96, 97, 98, 99, 100, 101, 102, 49, 38, 50, 103, 104, 105, 106, 107, 108, 57, 58, 15, 59, 17, 24, 109, 110, 111, 112, 113, 114, 115, 116, 117, 118, 119, 120, 121, 122, 123, 124, 125, 126, 127, 128, 129, 130, 131, 132, 133, 134, 135, 144, 145, 146, 147, 212, 213, 214, 215, 216, 217, 218, 219, 229, 230, 231, 232, 233, 234, 235, 236, 237, 238, 239, 240, 241, 242, 220, 221, 222, 223, 224, 225, 226, 227, 228, 243, 244, 245, 246, 247, 248, 249, 250] (by decide +kernel) (by decide +kernel)
set_option maxRecDepth 20000 in
theorem gX4_digest_X4_pagesIn : GoodIn wsX4_digest (wsV RX4 180 RX4 yX4_pagesIn wsX4_pagesIn) := goodIn_app (goodIn_of _ (by decide +kernel)) ggX4_digest_X4_pagesIn
theorem dX4_digest_0 : decode cX4_digest 0 = .ok (.aload_n 0, 1) := by decide +kernel
theorem dX4_digest_1 : decode cX4_digest 1 = .ok (.invokevirtual 131, 3) := by decide +kernel
theorem dX4_digest_4 : decode cX4_digest 4 = .ok (.ldc2_w 197, 3) := by decide +kernel
theorem dX4_digest_7 : decode cX4_digest 7 = .ok (.lstore_n 1, 1) := by decide +kernel
theorem dX4_digest_8 : decode cX4_digest 8 = .ok (.iconst 0, 1) := by decide +kernel
theorem dX4_digest_9 : decode cX4_digest 9 = .ok (.istore_n 3, 1) := by decide +kernel
theorem dX4_digest_10 : decode cX4_digest 10 = .ok (.iload_n 3, 1) := by decide +kernel
theorem dX4_digest_11 : decode cX4_digest 11 = .ok (.bipush 7, 2) := by decide +kernel
theorem dX4_digest_13 : decode cX4_digest 13 = .ok (.if_icmp .gt 19, 3) := by decide +kernel
theorem dX4_digest_16 : decode cX4_digest 16 = .ok (.lload_n 1, 1) := by decide +kernel
theorem dX4_digest_17 : decode cX4_digest 17 = .ok (.aload_n 0, 1) := by decide +kernel
theorem dX4_digest_18 : decode cX4_digest 18 = .ok (.iload_n 3, 1) := by decide +kernel
theorem dX4_digest_19 : decode cX4_digest 19 = .ok (.invokevirtual 170, 3) := by decide +kernel
theorem dX4_digest_22 : decode cX4_digest 22 = .ok (.invokestatic 199, 3) := by decide +kernel
theorem dX4_digest_25 : decode cX4_digest 25 = .ok (.lstore_n 1, 1) := by decide +kernel
theorem dX4_digest_26 : decode cX4_digest 26 = .ok (.iinc 3 1, 3) := by decide +kernel
theorem dX4_digest_29 : decode cX4_digest 29 = .ok (.goto (-19), 3) := by decide +kernel
theorem dX4_digest_32 : decode cX4_digest 32 = .ok (.iconst 0, 1) := by decide +kernel
theorem dX4_digest_33 : decode cX4_digest 33 = .ok (.istore_n 3, 1) := by decide +kernel
theorem dX4_digest_34 : decode cX4_digest 34 = .ok (.iload_n 3, 1) := by decide +kernel
theorem dX4_digest_35 : decode cX4_digest 35 = .ok (.aload_n 0, 1) := by decide +kernel
theorem dX4_digest_36 : decode cX4_digest 36 = .ok (.getfield 12, 3) := by decide +kernel
theorem dX4_digest_39 : decode cX4_digest 39 = .ok (.getfield 119, 3) := by decide +kernel
theorem dX4_digest_42 : decode cX4_digest 42 = .ok (.if_icmp .ge 36, 3) := by decide +kernel
theorem dX4_digest_45 : decode cX4_digest 45 = .ok (.iconst 0, 1) := by decide +kernel
theorem dX4_digest_46 : decode cX4_digest 46 = .ok (.istore 4, 2) := by decide +kernel
theorem dX4_digest_48 : decode cX4_digest 48 = .ok (.iload 4, 2) := by decide +kernel
theorem dX4_digest_50 : decode cX4_digest 50 = .ok (.iconst 4, 1) := by decide +kernel
theorem dX4_digest_51 : decode cX4_digest 51 = .ok (.if_icmp .gt 21, 3) := by decide +kernel
theorem dX4_digest_54 : decode cX4_digest 54 = .ok (.lload_n 1, 1) := by decide +kernel
theorem dX4_digest_55 : decode cX4_digest 55 = .ok (.aload_n 0, 1) := by decide +kernel
theorem dX4_digest_56 : decode cX4_digest 56 = .ok (.iload_n 3, 1) := by decide +kernel
theorem dX4_digest_57 : decode cX4_digest 57 = .ok (.iload 4, 2) := by decide +kernel
theorem dX4_digest_59 : decode cX4_digest 59 = .ok (.invokevirtual 154, 3) := by decide +kernel
theorem dX4_digest_62 : decode cX4_digest 62 = .ok (.invokestatic 199, 3) := by decide +kernel
theorem dX4_digest_65 : decode cX4_digest 65 = .ok (.lstore_n 1, 1) := by decide +kernel
theorem dX4_digest_66 : decode cX4_digest 66 = .ok (.iinc 4 1, 3) := by decide +kernel
theorem dX4_digest_69 : decode cX4_digest 69 = .ok (.goto (-21), 3) := by decide +kernel
theorem dX4_digest_72 : decode cX4_digest 72 = .ok (.iinc 3 1, 3) := by decide +kernel
theorem dX4_digest_75 : decode cX4_digest 75 = .ok (.goto (-41), 3) := by decide +kernel
theorem dX4_digest_78 : decode cX4_digest 78 = .ok (.iconst 0, 1) := by decide +kernel
theorem dX4_digest_79 : decode cX4_digest 79 = .ok (.istore_n 3, 1) := by decide +kernel
theorem dX4_digest_80 : decode cX4_digest 80 = .ok (.iload_n 3, 1) := by decide +kernel
theorem dX4_digest_81 : decode cX4_digest 81 = .ok (.aload_n 0, 1) := by decide +kernel
theorem dX4_digest_82 : decode cX4_digest 82 = .ok (.getfield 12, 3) := by decide +kernel
theorem dX4_digest_85 : decode cX4_digest 85 = .ok (.getfield 72, 3) := by decide +kernel
theorem dX4_digest_88 : decode cX4_digest 88 = .ok (.if_icmp .ge 16, 3) := by decide +kernel
theorem dX4_digest_91 : decode cX4_digest 91 = .ok (.aload_n 0, 1) := by decide +kernel
theorem dX4_digest_92 : decode cX4_digest 92 = .ok (.lload_n 1, 1) := by decide +kernel
theorem dX4_digest_93 : decode cX4_digest 93 = .ok (.iload_n 3, 1) := by decide +kernel
theorem dX4_digest_94 : decode cX4_digest 94 = .ok (.invokevirtual 203, 3) := by decide +kernel
theorem dX4_digest_97 : decode cX4_digest 97 = .ok (.lstore_n 1, 1) := by decide +kernel
theorem dX4_digest_98 : decode cX4_digest 98 = .ok (.iinc 3 1, 3) := by decide +kernel
theorem dX4_digest_101 : decode cX4_digest 101 = .ok (.goto (-21), 3) := by decide +kernel
theorem dX4_digest_104 : decode cX4_digest 104 = .ok (.aload_n 0, 1) := by decide +kernel
theorem dX4_digest_105 : decode cX4_digest 105 = .ok (.getfield 19, 3) := by decide +kernel
theorem dX4_digest_108 : decode cX4_digest 108 = .ok (.invokevirtual 143, 3) := by decide +kernel
theorem dX4_digest_111 : decode cX4_digest 111 = .ok (.getfield 174, 3) := by decide +kernel
theorem dX4_digest_114 : decode cX4_digest 114 = .ok (.istore_n 3, 1) := by decide +kernel
theorem dX4_digest_115 : decode cX4_digest 115 = .ok (.iconst 0, 1) := by decide +kernel
theorem dX4_digest_116 : decode cX4_digest 116 = .ok (.istore 4, 2) := by decide +kernel
theorem dX4_digest_118 : decode cX4_digest 118 = .ok (.iload 4, 2) := by decide +kernel
theorem dX4_digest_120 : decode cX4_digest 120 = .ok (.iload_n 3, 1) := by decide +kernel
theorem dX4_digest_121 : decode cX4_digest 121 = .ok (.if_icmp .ge 17, 3) := by decide +kernel
theorem dX4_digest_124 : decode cX4_digest 124 = .ok (.aload_n 0, 1) := by decide +kernel
theorem dX4_digest_125 : decode cX4_digest 125 = .ok (.lload_n 1, 1) := by decide +kernel
theorem dX4_digest_126 : decode cX4_digest 126 = .ok (.iload 4, 2) := by decide +kernel
theorem dX4_digest_128 : decode cX4_digest 128 = .ok (.invokevirtual 206, 3) := by decide +kernel
theorem dX4_digest_131 : decode cX4_digest 131 = .ok (.lstore_n 1, 1) := by decide +kernel
theorem dX4_digest_132 : decode cX4_digest 132 = .ok (.iinc 4 1, 3) := by decide +kernel
theorem dX4_digest_135 : decode cX4_digest 135 = .ok (.goto (-17), 3) := by decide +kernel
theorem dX4_digest_138 : decode cX4_digest 138 = .ok (.lload_n 1, 1) := by decide +kernel
theorem dX4_digest_139 : decode cX4_digest 139 = .ok (.aload_n 0, 1) := by decide +kernel
theorem dX4_digest_140 : decode cX4_digest 140 = .ok (.bipush 30, 2) := by decide +kernel
theorem dX4_digest_142 : decode cX4_digest 142 = .ok (.bipush 20, 2) := by decide +kernel
theorem dX4_digest_144 : decode cX4_digest 144 = .ok (.invokevirtual 180, 3) := by decide +kernel
theorem dX4_digest_147 : decode cX4_digest 147 = .ok (.invokestatic 199, 3) := by decide +kernel
theorem dX4_digest_150 : decode cX4_digest 150 = .ok (.lstore_n 1, 1) := by decide +kernel
theorem dX4_digest_151 : decode cX4_digest 151 = .ok (.lload_n 1, 1) := by decide +kernel
theorem dX4_digest_152 : decode cX4_digest 152 = .ok (.aload_n 0, 1) := by decide +kernel
theorem dX4_digest_153 : decode cX4_digest 153 = .ok (.bipush 20, 2) := by decide +kernel
theorem dX4_digest_155 : decode cX4_digest 155 = .ok (.bipush 30, 2) := by decide +kernel
theorem dX4_digest_157 : decode cX4_digest 157 = .ok (.invokevirtual 180, 3) := by decide +kernel
theorem dX4_digest_160 : decode cX4_digest 160 = .ok (.invokestatic 199, 3) := by decide +kernel
theorem dX4_digest_163 : decode cX4_digest 163 = .ok (.lreturn, 1) := by decide +kernel
theorem dX4_requireRange_0 : decode cX4_requireRange 0 = .ok (.iload_n 0, 1) := by decide +kernel
theorem dX4_requireRange_1 : decode cX4_requireRange 1 = .ok (.iload_n 1, 1) := by decide +kernel
theorem dX4_requireRange_2 : decode cX4_requireRange 2 = .ok (.if_icmp .lt 8, 3) := by decide +kernel
theorem dX4_requireRange_5 : decode cX4_requireRange 5 = .ok (.iload_n 0, 1) := by decide +kernel
theorem dX4_requireRange_6 : decode cX4_requireRange 6 = .ok (.iload_n 2, 1) := by decide +kernel
theorem dX4_requireRange_7 : decode cX4_requireRange 7 = .ok (.if_icmp .le 13, 3) := by decide +kernel
theorem dX4_requireRange_10 : decode cX4_requireRange 10 = .ok (.new 122, 3) := by decide +kernel
theorem dX4_requireRange_13 : decode cX4_requireRange 13 = .ok (.dup, 1) := by decide +kernel
theorem dX4_requireRange_14 : decode cX4_requireRange 14 = .ok (.ldc 209, 2) := by decide +kernel
theorem dX4_requireRange_16 : decode cX4_requireRange 16 = .ok (.invokespecial 126, 3) := by decide +kernel
theorem dX4_requireRange_19 : decode cX4_requireRange 19 = .ok (.athrow, 1) := by decide +kernel
theorem dX4_requireRange_20 : decode cX4_requireRange 20 = .ok (.return_, 1) := by decide +kernel
theorem dX4_requireRow_0 : decode cX4_requireRow 0 = .ok (.iload_n 1, 1) := by decide +kernel
theorem dX4_requireRow_1 : decode cX4_requireRow 1 = .ok (.ifCond .lt 14, 3) := by decide +kernel
theorem dX4_requireRow_4 : decode cX4_requireRow 4 = .ok (.iload_n 1, 1) := by decide +kernel
theorem dX4_requireRow_5 : decode cX4_requireRow 5 = .ok (.aload_n 0, 1) := by decide +kernel
theorem dX4_requireRow_6 : decode cX4_requireRow 6 = .ok (.getfield 12, 3) := by decide +kernel
theorem dX4_requireRow_9 : decode cX4_requireRow 9 = .ok (.getfield 72, 3) := by decide +kernel
theorem dX4_requireRow_12 : decode cX4_requireRow 12 = .ok (.if_icmp .lt 13, 3) := by decide +kernel
theorem dX4_requireRow_15 : decode cX4_requireRow 15 = .ok (.new 211, 3) := by decide +kernel
theorem dX4_requireRow_18 : decode cX4_requireRow 18 = .ok (.dup, 1) := by decide +kernel
theorem dX4_requireRow_19 : decode cX4_requireRow 19 = .ok (.ldc 213, 2) := by decide +kernel
theorem dX4_requireRow_21 : decode cX4_requireRow 21 = .ok (.invokespecial 215, 3) := by decide +kernel
theorem dX4_requireRow_24 : decode cX4_requireRow 24 = .ok (.athrow, 1) := by decide +kernel
theorem dX4_requireRow_25 : decode cX4_requireRow 25 = .ok (.return_, 1) := by decide +kernel
theorem dX4_requireColumn_0 : decode cX4_requireColumn 0 = .ok (.iload_n 1, 1) := by decide +kernel
theorem dX4_requireColumn_1 : decode cX4_requireColumn 1 = .ok (.ifCond .lt 14, 3) := by decide +kernel
theorem dX4_requireColumn_4 : decode cX4_requireColumn 4 = .ok (.iload_n 1, 1) := by decide +kernel
theorem dX4_requireColumn_5 : decode cX4_requireColumn 5 = .ok (.aload_n 0, 1) := by decide +kernel
theorem dX4_requireColumn_6 : decode cX4_requireColumn 6 = .ok (.getfield 12, 3) := by decide +kernel
theorem dX4_requireColumn_9 : decode cX4_requireColumn 9 = .ok (.getfield 119, 3) := by decide +kernel
theorem dX4_requireColumn_12 : decode cX4_requireColumn 12 = .ok (.if_icmp .lt 13, 3) := by decide +kernel
theorem dX4_requireColumn_15 : decode cX4_requireColumn 15 = .ok (.new 211, 3) := by decide +kernel
theorem dX4_requireColumn_18 : decode cX4_requireColumn 18 = .ok (.dup, 1) := by decide +kernel
theorem dX4_requireColumn_19 : decode cX4_requireColumn 19 = .ok (.ldc 216, 2) := by decide +kernel
theorem dX4_requireColumn_21 : decode cX4_requireColumn 21 = .ok (.invokespecial 215, 3) := by decide +kernel
theorem dX4_requireColumn_24 : decode cX4_requireColumn 24 = .ok (.athrow, 1) := by decide +kernel
theorem dX4_requireColumn_25 : decode cX4_requireColumn 25 = .ok (.return_, 1) := by decide +kernel
set_option maxRecDepth 20000 in
theorem ggX4_requirePage_X2_chosen : GoodIn wsX4_requirePage wsX2_chosen := goodIn_r _ [8, 9, 10, 11, 34, 35, 36] (by decide +kernel) (by decide +kernel)
set_option maxRecDepth 20000 in
theorem gX4_requirePage_X2_chosen : GoodIn wsX4_requirePage (wsV RX4 143 RX2 yX2_chosen wsX2_chosen) := goodIn_app (goodIn_of _ (by decide +kernel)) ggX4_requirePage_X2_chosen
theorem dX4_requirePage_0 : decode cX4_requirePage 0 = .ok (.iload_n 1, 1) := by decide +kernel
theorem dX4_requirePage_1 : decode cX4_requirePage 1 = .ok (.ifCond .lt 17, 3) := by decide +kernel
theorem dX4_requirePage_4 : decode cX4_requirePage 4 = .ok (.iload_n 1, 1) := by decide +kernel
theorem dX4_requirePage_5 : decode cX4_requirePage 5 = .ok (.aload_n 0, 1) := by decide +kernel
theorem dX4_requirePage_6 : decode cX4_requirePage 6 = .ok (.getfield 19, 3) := by decide +kernel
theorem dX4_requirePage_9 : decode cX4_requirePage 9 = .ok (.invokevirtual 143, 3) := by decide +kernel
theorem dX4_requirePage_12 : decode cX4_requirePage 12 = .ok (.getfield 174, 3) := by decide +kernel
theorem dX4_requirePage_15 : decode cX4_requirePage 15 = .ok (.if_icmp .lt 13, 3) := by decide +kernel
theorem dX4_requirePage_18 : decode cX4_requirePage 18 = .ok (.new 211, 3) := by decide +kernel
theorem dX4_requirePage_21 : decode cX4_requirePage 21 = .ok (.dup, 1) := by decide +kernel
theorem dX4_requirePage_22 : decode cX4_requirePage 22 = .ok (.ldc 218, 2) := by decide +kernel
theorem dX4_requirePage_24 : decode cX4_requirePage 24 = .ok (.invokespecial 215, 3) := by decide +kernel
theorem dX4_requirePage_27 : decode cX4_requirePage 27 = .ok (.athrow, 1) := by decide +kernel
theorem dX4_requirePage_28 : decode cX4_requirePage 28 = .ok (.return_, 1) := by decide +kernel
theorem dX4_requireKind_0 : decode cX4_requireKind 0 = .ok (.aload_n 0, 1) := by decide +kernel
theorem dX4_requireKind_1 : decode cX4_requireKind 1 = .ok (.getfield 12, 3) := by decide +kernel
theorem dX4_requireKind_4 : decode cX4_requireKind 4 = .ok (.getfield 220, 3) := by decide +kernel
theorem dX4_requireKind_7 : decode cX4_requireKind 7 = .ok (.iload_n 1, 1) := by decide +kernel
theorem dX4_requireKind_8 : decode cX4_requireKind 8 = .ok (.iaload, 1) := by decide +kernel
theorem dX4_requireKind_9 : decode cX4_requireKind 9 = .ok (.iload_n 2, 1) := by decide +kernel
theorem dX4_requireKind_10 : decode cX4_requireKind 10 = .ok (.if_icmp .eq 13, 3) := by decide +kernel
theorem dX4_requireKind_13 : decode cX4_requireKind 13 = .ok (.new 122, 3) := by decide +kernel
theorem dX4_requireKind_16 : decode cX4_requireKind 16 = .ok (.dup, 1) := by decide +kernel
theorem dX4_requireKind_17 : decode cX4_requireKind 17 = .ok (.ldc 223, 2) := by decide +kernel
theorem dX4_requireKind_19 : decode cX4_requireKind 19 = .ok (.invokespecial 126, 3) := by decide +kernel
theorem dX4_requireKind_22 : decode cX4_requireKind 22 = .ok (.athrow, 1) := by decide +kernel
theorem dX4_requireKind_23 : decode cX4_requireKind 23 = .ok (.return_, 1) := by decide +kernel
theorem dX4_requireSpareColumn_0 : decode cX4_requireSpareColumn 0 = .ok (.aload_n 0, 1) := by decide +kernel
theorem dX4_requireSpareColumn_1 : decode cX4_requireSpareColumn 1 = .ok (.getfield 12, 3) := by decide +kernel
theorem dX4_requireSpareColumn_4 : decode cX4_requireSpareColumn 4 = .ok (.getfield 119, 3) := by decide +kernel
theorem dX4_requireSpareColumn_7 : decode cX4_requireSpareColumn 7 = .ok (.bipush 6, 2) := by decide +kernel
theorem dX4_requireSpareColumn_9 : decode cX4_requireSpareColumn 9 = .ok (.if_icmp .lt 13, 3) := by decide +kernel
theorem dX4_requireSpareColumn_12 : decode cX4_requireSpareColumn 12 = .ok (.new 75, 3) := by decide +kernel
theorem dX4_requireSpareColumn_15 : decode cX4_requireSpareColumn 15 = .ok (.dup, 1) := by decide +kernel
theorem dX4_requireSpareColumn_16 : decode cX4_requireSpareColumn 16 = .ok (.ldc 227, 2) := by decide +kernel
theorem dX4_requireSpareColumn_18 : decode cX4_requireSpareColumn 18 = .ok (.invokespecial 79, 3) := by decide +kernel
theorem dX4_requireSpareColumn_21 : decode cX4_requireSpareColumn 21 = .ok (.athrow, 1) := by decide +kernel
theorem dX4_requireSpareColumn_22 : decode cX4_requireSpareColumn 22 = .ok (.return_, 1) := by decide +kernel
set_option maxRecDepth 20000 in
theorem ggX4_requireNumberCell_X4_requireRow : GoodIn wsX4_requireNumberCell wsX4_requireRow := goodIn_ca (goodIn_r _ [5, 6, 7, 8, 22, 23, 24, 25, 26, 27, 28, 29, 30, 31, 32, 33, 34, 35, 36, 37, 38] (by decide +kernel) (by decide +kernel)) (goodIn_sub (fun _ h => List.mem_cons_of_mem _ (List.mem_append_left _ (List.mem_append_right _ h))) (by decide +kernel))
set_option maxRecDepth 20000 in
theorem gX4_requireNumberCell_X4_requireRow : GoodIn wsX4_requireNumberCell (wsV RX4 86 RX4 yX4_requireRow wsX4_requireRow) := goodIn_app (goodIn_of _ (by decide +kernel)) ggX4_requireNumberCell_X4_requireRow
set_option maxRecDepth 20000 in
theorem ggX4_requireNumberCell_X4_requireColumn : GoodIn wsX4_requireNumberCell wsX4_requireColumn := goodIn_ca (goodIn_r _ [12, 6, 7, 8, 22, 23, 24, 25, 26, 27, 28, 29, 30, 31, 32, 33, 34, 35, 36, 37, 38] (by decide +kernel) (by decide +kernel)) (goodIn_sub (fun _ h => List.mem_cons_of_mem _ (List.mem_append_left _ (List.mem_append_right _ h))) (by decide +kernel))
set_option maxRecDepth 20000 in
theorem gX4_requireNumberCell_X4_requireColumn : GoodIn wsX4_requireNumberCell (wsV RX4 58 RX4 yX4_requireColumn wsX4_requireColumn) := goodIn_app (goodIn_of _ (by decide +kernel)) ggX4_requireNumberCell_X4_requireColumn
set_option maxRecDepth 20000 in
theorem ggX4_requireNumberCell_X4_requireKind : GoodIn wsX4_requireNumberCell wsX4_requireKind := goodIn_ca (goodIn_r _ [16, 17, 18, 8, 22, 23, 24, 25, 26, 27, 28, 29, 30, 31, 32, 33, 34, 35, 36, 37, 38] (by decide +kernel) (by decide +kernel)) (goodIn_sub (fun _ h => List.mem_cons_of_mem _ (List.mem_append_right _ h)) (by decide +kernel))
set_option maxRecDepth 20000 in
theorem gX4_requireNumberCell_X4_requireKind : GoodIn wsX4_requireNumberCell (wsV RX4 104 RX4 yX4_requireKind wsX4_requireKind) := goodIn_app (goodIn_of _ (by decide +kernel)) ggX4_requireNumberCell_X4_requireKind
set_option maxRecDepth 20000 in
theorem ggX4_requireNumberCell_X4_requireRange : GoodIn wsX4_requireNumberCell wsX4_requireRange := goodIn_ca (goodIn_r _ [21, 17, 18] (by decide +kernel) (by decide +kernel)) (goodIn_sub (fun _ h => List.mem_cons_of_mem _ (List.mem_append_right _ h)) (by decide +kernel))
set_option maxRecDepth 20000 in
theorem gX4_requireNumberCell_X4_requireRange : GoodIn wsX4_requireNumberCell (va_wsS RX4 47 yX4_requireRange wsX4_requireRange) := goodIn_app (goodIn_of _ (by decide +kernel)) ggX4_requireNumberCell_X4_requireRange
theorem dX4_requireNumberCell_0 : decode cX4_requireNumberCell 0 = .ok (.aload_n 0, 1) := by decide +kernel
theorem dX4_requireNumberCell_1 : decode cX4_requireNumberCell 1 = .ok (.iload_n 1, 1) := by decide +kernel
theorem dX4_requireNumberCell_2 : decode cX4_requireNumberCell 2 = .ok (.invokevirtual 86, 3) := by decide +kernel
theorem dX4_requireNumberCell_5 : decode cX4_requireNumberCell 5 = .ok (.aload_n 0, 1) := by decide +kernel
theorem dX4_requireNumberCell_6 : decode cX4_requireNumberCell 6 = .ok (.iload_n 2, 1) := by decide +kernel
theorem dX4_requireNumberCell_7 : decode cX4_requireNumberCell 7 = .ok (.invokevirtual 58, 3) := by decide +kernel
theorem dX4_requireNumberCell_10 : decode cX4_requireNumberCell 10 = .ok (.aload_n 0, 1) := by decide +kernel
theorem dX4_requireNumberCell_11 : decode cX4_requireNumberCell 11 = .ok (.iload_n 2, 1) := by decide +kernel
theorem dX4_requireNumberCell_12 : decode cX4_requireNumberCell 12 = .ok (.iconst 0, 1) := by decide +kernel
theorem dX4_requireNumberCell_13 : decode cX4_requireNumberCell 13 = .ok (.invokevirtual 104, 3) := by decide +kernel
theorem dX4_requireNumberCell_16 : decode cX4_requireNumberCell 16 = .ok (.iload_n 3, 1) := by decide +kernel
theorem dX4_requireNumberCell_17 : decode cX4_requireNumberCell 17 = .ok (.sipush (-9999), 3) := by decide +kernel
theorem dX4_requireNumberCell_20 : decode cX4_requireNumberCell 20 = .ok (.sipush 9999, 3) := by decide +kernel
theorem dX4_requireNumberCell_23 : decode cX4_requireNumberCell 23 = .ok (.invokestatic 47, 3) := by decide +kernel
theorem dX4_requireNumberCell_26 : decode cX4_requireNumberCell 26 = .ok (.return_, 1) := by decide +kernel
set_option maxRecDepth 20000 in
theorem ggX4_refresh_X3_reckon : GoodIn wsX4_refresh wsX3_reckon := goodIn_r _ [10, 11, 12, 13, 14, 15, 9, 16, 17, 18, 19, 20, 21, 22, 23, 24, 25, 26, 27, 28, 29, 30, 31, 32, 33, 34, 35, 36, 37, 38, 39, 40, 41, 42, 43, 44, 45, 46, 47, 48, 49, 50, 51, 52, 53, 54, 55, 56, 57, 58, 59, 60, 138, 139, 140, 141, 142, 143, 144, 145, 146, 147, 148, 149, 150, 151, 152, 153, 154] (by decide +kernel) (by decide +kernel)
set_option maxRecDepth 20000 in
theorem gX4_refresh_X3_reckon : GoodIn wsX4_refresh (wsV RX4 229 RX3 yX3_reckon wsX3_reckon) := goodIn_app (goodIn_of _ (by decide +kernel)) ggX4_refresh_X3_reckon
set_option maxRecDepth 20000 in
theorem ggX4_refresh_X2_arrange : GoodIn wsX4_refresh wsX2_arrange := goodIn_r _ [65, 66, 67, 68, 69, 70, 71, 72, 73, 74, 75, 76, 77, 78, 79, 80, 81, 82, 83, 84, 85, 86, 87, 88, 89, 90, 91, 92, 93, 94, 95, 96, 43, 32, 44, 97, 98, 99, 100, 101, 102, 51, 52, 9, 53, 11, 18, 103, 104, 105, 106, 107, 108, 109, 110, 111, 112, 113, 114, 115, 116, 117, 118, 119, 120, 121, 122, 123, 124, 125, 126, 127, 128, 129, 155, 156, 157, 158, 159, 160, 161, 162, 163, 164, 165, 166, 167, 168, 169, 170, 171, 138, 139, 140, 141, 142, 143, 144, 145, 146, 147, 148, 149, 150, 151, 152, 153, 154] (by decide +kernel) (by decide +kernel)
set_option maxRecDepth 20000 in
theorem gX4_refresh_X2_arrange : GoodIn wsX4_refresh (wsV RX4 232 RX2 yX2_arrange wsX2_arrange) := goodIn_app (goodIn_of _ (by decide +kernel)) ggX4_refresh_X2_arrange
theorem dX4_refresh_0 : decode cX4_refresh 0 = .ok (.aload_n 0, 1) := by decide +kernel
theorem dX4_refresh_1 : decode cX4_refresh 1 = .ok (.getfield 30, 3) := by decide +kernel
theorem dX4_refresh_4 : decode cX4_refresh 4 = .ok (.ifCond .eq 34, 3) := by decide +kernel
theorem dX4_refresh_7 : decode cX4_refresh 7 = .ok (.aload_n 0, 1) := by decide +kernel
theorem dX4_refresh_8 : decode cX4_refresh 8 = .ok (.getfield 12, 3) := by decide +kernel
theorem dX4_refresh_11 : decode cX4_refresh 11 = .ok (.invokevirtual 229, 3) := by decide +kernel
theorem dX4_refresh_14 : decode cX4_refresh 14 = .ok (.aload_n 0, 1) := by decide +kernel
theorem dX4_refresh_15 : decode cX4_refresh 15 = .ok (.getfield 19, 3) := by decide +kernel
theorem dX4_refresh_18 : decode cX4_refresh 18 = .ok (.aload_n 0, 1) := by decide +kernel
theorem dX4_refresh_19 : decode cX4_refresh 19 = .ok (.getfield 12, 3) := by decide +kernel
theorem dX4_refresh_22 : decode cX4_refresh 22 = .ok (.aload_n 0, 1) := by decide +kernel
theorem dX4_refresh_23 : decode cX4_refresh 23 = .ok (.getfield 23, 3) := by decide +kernel
theorem dX4_refresh_26 : decode cX4_refresh 26 = .ok (.aload_n 0, 1) := by decide +kernel
theorem dX4_refresh_27 : decode cX4_refresh 27 = .ok (.getfield 27, 3) := by decide +kernel
theorem dX4_refresh_30 : decode cX4_refresh 30 = .ok (.invokevirtual 232, 3) := by decide +kernel
theorem dX4_refresh_33 : decode cX4_refresh 33 = .ok (.aload_n 0, 1) := by decide +kernel
theorem dX4_refresh_34 : decode cX4_refresh 34 = .ok (.iconst 0, 1) := by decide +kernel
theorem dX4_refresh_35 : decode cX4_refresh 35 = .ok (.putfield 30, 3) := by decide +kernel
theorem dX4_refresh_38 : decode cX4_refresh 38 = .ok (.return_, 1) := by decide +kernel
set_option maxRecDepth 20000 in
theorem ggX4_layoutOfTrial_X3_reckon : GoodIn wsX4_layoutOfTrial wsX3_reckon := goodIn_r _ [9, 10, 11, 12, 13, 14, 8, 15, 16, 17, 18, 19, 20, 21, 22, 23, 24, 25, 26, 27, 28, 29, 30, 31, 32, 33, 34, 35, 36, 37, 38, 39, 40, 41, 42, 43, 44, 45, 46, 47, 48, 49, 50, 51, 52, 53, 54, 55, 56, 57, 58, 59, 141, 142, 143, 144, 145, 146, 147, 148, 149, 150, 151, 152, 153, 154, 155, 156, 157] (by decide +kernel) (by decide +kernel)
set_option maxRecDepth 20000 in
theorem gX4_layoutOfTrial_X3_reckon : GoodIn wsX4_layoutOfTrial (wsV RX4 229 RX3 yX3_reckon wsX3_reckon) := goodIn_app (goodIn_of _ (by decide +kernel)) ggX4_layoutOfTrial_X3_reckon
set_option maxRecDepth 20000 in
theorem ggX4_layoutOfTrial_X2_arrange : GoodIn wsX4_layoutOfTrial wsX2_arrange := goodIn_r _ [64, 65, 66, 67, 68, 69, 70, 71, 72, 73, 74, 75, 76, 77, 78, 79, 80, 81, 82, 83, 84, 85, 86, 87, 88, 89, 90, 91, 92, 93, 94, 95, 42, 31, 43, 96, 97, 98, 99, 100, 101, 50, 51, 8, 52, 10, 17, 102, 103, 104, 105, 106, 107, 108, 109, 110, 111, 112, 113, 114, 115, 116, 117, 118, 119, 120, 121, 122, 123, 124, 125, 126, 127, 128, 158, 159, 160, 161, 162, 163, 164, 165, 166, 167, 168, 169, 170, 171, 172, 173, 174, 141, 142, 143, 144, 145, 146, 147, 148, 149, 150, 151, 152, 153, 154, 155, 156, 157] (by decide +kernel) (by decide +kernel)
set_option maxRecDepth 20000 in
theorem gX4_layoutOfTrial_X2_arrange : GoodIn wsX4_layoutOfTrial (wsV RX4 232 RX2 yX2_arrange wsX2_arrange) := goodIn_app (goodIn_of _ (by decide +kernel)) ggX4_layoutOfTrial_X2_arrange
set_option maxRecDepth 20000 in
theorem ggX4_layoutOfTrial_X2_chosen : GoodIn wsX4_layoutOfTrial wsX2_chosen := goodIn_r _ [132, 67, 66, 65, 158, 159, 160] (by decide +kernel) (by decide +kernel)
set_option maxRecDepth 20000 in
theorem gX4_layoutOfTrial_X2_chosen : GoodIn wsX4_layoutOfTrial (wsV RX4 143 RX2 yX2_chosen wsX2_chosen) := goodIn_app (goodIn_of _ (by decide +kernel)) ggX4_layoutOfTrial_X2_chosen
theorem dX4_layoutOfTrial_0 : decode cX4_layoutOfTrial 0 = .ok (.aload_n 0, 1) := by decide +kernel
theorem dX4_layoutOfTrial_1 : decode cX4_layoutOfTrial 1 = .ok (.getfield 34, 3) := by decide +kernel
theorem dX4_layoutOfTrial_4 : decode cX4_layoutOfTrial 4 = .ok (.invokevirtual 229, 3) := by decide +kernel
theorem dX4_layoutOfTrial_7 : decode cX4_layoutOfTrial 7 = .ok (.aload_n 0, 1) := by decide +kernel
theorem dX4_layoutOfTrial_8 : decode cX4_layoutOfTrial 8 = .ok (.getfield 37, 3) := by decide +kernel
theorem dX4_layoutOfTrial_11 : decode cX4_layoutOfTrial 11 = .ok (.aload_n 0, 1) := by decide +kernel
theorem dX4_layoutOfTrial_12 : decode cX4_layoutOfTrial 12 = .ok (.getfield 34, 3) := by decide +kernel
theorem dX4_layoutOfTrial_15 : decode cX4_layoutOfTrial 15 = .ok (.aload_n 0, 1) := by decide +kernel
theorem dX4_layoutOfTrial_16 : decode cX4_layoutOfTrial 16 = .ok (.getfield 23, 3) := by decide +kernel
theorem dX4_layoutOfTrial_19 : decode cX4_layoutOfTrial 19 = .ok (.aload_n 0, 1) := by decide +kernel
theorem dX4_layoutOfTrial_20 : decode cX4_layoutOfTrial 20 = .ok (.getfield 27, 3) := by decide +kernel
theorem dX4_layoutOfTrial_23 : decode cX4_layoutOfTrial 23 = .ok (.invokevirtual 232, 3) := by decide +kernel
theorem dX4_layoutOfTrial_26 : decode cX4_layoutOfTrial 26 = .ok (.aload_n 0, 1) := by decide +kernel
theorem dX4_layoutOfTrial_27 : decode cX4_layoutOfTrial 27 = .ok (.getfield 37, 3) := by decide +kernel
theorem dX4_layoutOfTrial_30 : decode cX4_layoutOfTrial 30 = .ok (.invokevirtual 143, 3) := by decide +kernel
theorem dX4_layoutOfTrial_33 : decode cX4_layoutOfTrial 33 = .ok (.areturn, 1) := by decide +kernel
set_option maxRecDepth 20000 in
theorem ggX4_pagesIn_X0_arrange : GoodIn wsX4_pagesIn wsX0_arrange := goodIn_r _ [7, 8, 9, 10, 11, 12, 13, 14, 15, 6, 16, 17, 18, 19, 20, 21, 22, 23, 24, 25, 26, 27, 28, 29, 30, 31, 32, 33, 34, 35, 36, 37, 38, 39, 40, 41, 42, 43, 44, 45, 46, 47, 48, 49, 50, 51, 52, 53, 54, 55, 56, 57, 58, 59, 60, 61, 62, 63, 64, 65, 66, 67, 68, 69, 70, 71, 72, 85, 86, 87, 88, 89, 90, 91, 92, 93, 94, 95, 96, 97, 98, 99, 100, 101, 102, 103, 104, 105, 106, 107, 108, 109, 110, 111, 112, 113, 114, 115] (by decide +kernel) (by decide +kernel)
set_option maxRecDepth 20000 in
theorem gX4_pagesIn_X0_arrange : GoodIn wsX4_pagesIn (wsV RX4 236 RX0 yX0_arrange wsX0_arrange) := goodIn_app (goodIn_of _ (by decide +kernel)) ggX4_pagesIn_X0_arrange
set_option maxRecDepth 20000 in
theorem ggX4_pagesIn_X0_pagesOrNone : GoodIn wsX4_pagesIn wsX0_pagesOrNone := goodIn_r _ [76, 9, 10, 85, 86, 87, 88, 89, 90, 91, 92, 93, 94, 95, 96, 97, 98] (by decide +kernel) (by decide +kernel)
set_option maxRecDepth 20000 in
theorem gX4_pagesIn_X0_pagesOrNone : GoodIn wsX4_pagesIn (wsV RX4 147 RX0 yX0_pagesOrNone wsX0_pagesOrNone) := goodIn_app (goodIn_of _ (by decide +kernel)) ggX4_pagesIn_X0_pagesOrNone
theorem dX4_pagesIn_0 : decode cX4_pagesIn 0 = .ok (.aload_n 0, 1) := by decide +kernel
theorem dX4_pagesIn_1 : decode cX4_pagesIn 1 = .ok (.getfield 43, 3) := by decide +kernel
theorem dX4_pagesIn_4 : decode cX4_pagesIn 4 = .ok (.aload_n 0, 1) := by decide +kernel
theorem dX4_pagesIn_5 : decode cX4_pagesIn 5 = .ok (.getfield 12, 3) := by decide +kernel
theorem dX4_pagesIn_8 : decode cX4_pagesIn 8 = .ok (.iload_n 1, 1) := by decide +kernel
theorem dX4_pagesIn_9 : decode cX4_pagesIn 9 = .ok (.iload_n 2, 1) := by decide +kernel
theorem dX4_pagesIn_10 : decode cX4_pagesIn 10 = .ok (.invokevirtual 236, 3) := by decide +kernel
theorem dX4_pagesIn_13 : decode cX4_pagesIn 13 = .ok (.aload_n 0, 1) := by decide +kernel
theorem dX4_pagesIn_14 : decode cX4_pagesIn 14 = .ok (.getfield 43, 3) := by decide +kernel
theorem dX4_pagesIn_17 : decode cX4_pagesIn 17 = .ok (.invokevirtual 147, 3) := by decide +kernel
theorem dX4_pagesIn_20 : decode cX4_pagesIn 20 = .ok (.ireturn, 1) := by decide +kernel
set_option maxRecDepth 20000 in
theorem ggX4_isPageOther_X0_carriedOn : GoodIn wsX4_isPageOther wsX0_carriedOn := goodIn_r _ [7, 8, 9, 10, 11, 12, 13, 14, 15, 16, 17, 18, 19, 20, 21, 22, 23, 24, 25, 26, 27, 28, 29, 38, 39, 40, 41, 42, 43, 44, 45, 46, 47, 48, 49, 50, 51, 52, 53, 54] (by decide +kernel) (by decide +kernel)
set_option maxRecDepth 20000 in
theorem gX4_isPageOther_X0_carriedOn : GoodIn wsX4_isPageOther (wsV RX4 166 RX0 yX0_carriedOn wsX0_carriedOn) := goodIn_app (goodIn_of _ (by decide +kernel)) ggX4_isPageOther_X0_carriedOn
theorem dX4_isPageOther_0 : decode cX4_isPageOther 0 = .ok (.aload_n 1, 1) := by decide +kernel
theorem dX4_isPageOther_1 : decode cX4_isPageOther 1 = .ok (.getfield 237, 3) := by decide +kernel
theorem dX4_isPageOther_4 : decode cX4_isPageOther 4 = .ok (.iload_n 3, 1) := by decide +kernel
theorem dX4_isPageOther_5 : decode cX4_isPageOther 5 = .ok (.iaload, 1) := by decide +kernel
theorem dX4_isPageOther_6 : decode cX4_isPageOther 6 = .ok (.aload_n 2, 1) := by decide +kernel
theorem dX4_isPageOther_7 : decode cX4_isPageOther 7 = .ok (.getfield 237, 3) := by decide +kernel
theorem dX4_isPageOther_10 : decode cX4_isPageOther 10 = .ok (.iload_n 3, 1) := by decide +kernel
theorem dX4_isPageOther_11 : decode cX4_isPageOther 11 = .ok (.iaload, 1) := by decide +kernel
theorem dX4_isPageOther_12 : decode cX4_isPageOther 12 = .ok (.if_icmp .ne 18, 3) := by decide +kernel
theorem dX4_isPageOther_15 : decode cX4_isPageOther 15 = .ok (.aload_n 1, 1) := by decide +kernel
theorem dX4_isPageOther_16 : decode cX4_isPageOther 16 = .ok (.getfield 240, 3) := by decide +kernel
theorem dX4_isPageOther_19 : decode cX4_isPageOther 19 = .ok (.iload_n 3, 1) := by decide +kernel
theorem dX4_isPageOther_20 : decode cX4_isPageOther 20 = .ok (.iaload, 1) := by decide +kernel
theorem dX4_isPageOther_21 : decode cX4_isPageOther 21 = .ok (.aload_n 2, 1) := by decide +kernel
theorem dX4_isPageOther_22 : decode cX4_isPageOther 22 = .ok (.getfield 240, 3) := by decide +kernel
theorem dX4_isPageOther_25 : decode cX4_isPageOther 25 = .ok (.iload_n 3, 1) := by decide +kernel
theorem dX4_isPageOther_26 : decode cX4_isPageOther 26 = .ok (.iaload, 1) := by decide +kernel
theorem dX4_isPageOther_27 : decode cX4_isPageOther 27 = .ok (.if_icmp .eq 5, 3) := by decide +kernel
theorem dX4_isPageOther_30 : decode cX4_isPageOther 30 = .ok (.iconst 1, 1) := by decide +kernel
theorem dX4_isPageOther_31 : decode cX4_isPageOther 31 = .ok (.ireturn, 1) := by decide +kernel
theorem dX4_isPageOther_32 : decode cX4_isPageOther 32 = .ok (.iconst 0, 1) := by decide +kernel
theorem dX4_isPageOther_33 : decode cX4_isPageOther 33 = .ok (.istore 4, 2) := by decide +kernel
theorem dX4_isPageOther_35 : decode cX4_isPageOther 35 = .ok (.iload 4, 2) := by decide +kernel
theorem dX4_isPageOther_37 : decode cX4_isPageOther 37 = .ok (.aload_n 0, 1) := by decide +kernel
theorem dX4_isPageOther_38 : decode cX4_isPageOther 38 = .ok (.getfield 12, 3) := by decide +kernel
theorem dX4_isPageOther_41 : decode cX4_isPageOther 41 = .ok (.getfield 119, 3) := by decide +kernel
theorem dX4_isPageOther_44 : decode cX4_isPageOther 44 = .ok (.if_icmp .ge 36, 3) := by decide +kernel
theorem dX4_isPageOther_47 : decode cX4_isPageOther 47 = .ok (.aload_n 1, 1) := by decide +kernel
theorem dX4_isPageOther_48 : decode cX4_isPageOther 48 = .ok (.aload_n 0, 1) := by decide +kernel
theorem dX4_isPageOther_49 : decode cX4_isPageOther 49 = .ok (.getfield 12, 3) := by decide +kernel
theorem dX4_isPageOther_52 : decode cX4_isPageOther 52 = .ok (.iload_n 3, 1) := by decide +kernel
theorem dX4_isPageOther_53 : decode cX4_isPageOther 53 = .ok (.iload 4, 2) := by decide +kernel
theorem dX4_isPageOther_55 : decode cX4_isPageOther 55 = .ok (.invokevirtual 166, 3) := by decide +kernel
theorem dX4_isPageOther_58 : decode cX4_isPageOther 58 = .ok (.aload_n 2, 1) := by decide +kernel
theorem dX4_isPageOther_59 : decode cX4_isPageOther 59 = .ok (.aload_n 0, 1) := by decide +kernel
theorem dX4_isPageOther_60 : decode cX4_isPageOther 60 = .ok (.getfield 34, 3) := by decide +kernel
theorem dX4_isPageOther_63 : decode cX4_isPageOther 63 = .ok (.iload_n 3, 1) := by decide +kernel
