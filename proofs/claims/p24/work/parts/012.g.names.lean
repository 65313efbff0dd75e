theorem dX4_isPageOther_64 : decode cX4_isPageOther 64 = .ok (.iload 4, 2) := by decide +kernel
theorem dX4_isPageOther_66 : decode cX4_isPageOther 66 = .ok (.invokevirtual 166, 3) := by decide +kernel
theorem dX4_isPageOther_69 : decode cX4_isPageOther 69 = .ok (.if_icmp .eq 5, 3) := by decide +kernel
theorem dX4_isPageOther_72 : decode cX4_isPageOther 72 = .ok (.iconst 1, 1) := by decide +kernel
theorem dX4_isPageOther_73 : decode cX4_isPageOther 73 = .ok (.ireturn, 1) := by decide +kernel
theorem dX4_isPageOther_74 : decode cX4_isPageOther 74 = .ok (.iinc 4 1, 3) := by decide +kernel
theorem dX4_isPageOther_77 : decode cX4_isPageOther 77 = .ok (.goto (-42), 3) := by decide +kernel
theorem dX4_isPageOther_80 : decode cX4_isPageOther 80 = .ok (.iconst 0, 1) := by decide +kernel
theorem dX4_isPageOther_81 : decode cX4_isPageOther 81 = .ok (.ireturn, 1) := by decide +kernel
set_option maxRecDepth 20000 in
theorem ggX4_factOfTable_X2_chosen : GoodIn wsX4_factOfTable wsX2_chosen := goodIn_r _ [7, 8, 9, 10, 72, 73, 74] (by decide +kernel) (by decide +kernel)
set_option maxRecDepth 20000 in
theorem gX4_factOfTable_X2_chosen : GoodIn wsX4_factOfTable (wsV RX4 143 RX2 yX2_chosen wsX2_chosen) := goodIn_app (goodIn_of _ (by decide +kernel)) ggX4_factOfTable_X2_chosen
set_option maxRecDepth 20000 in
theorem ggX4_factOfTable_X0_pagesOrNone : GoodIn wsX4_factOfTable wsX0_pagesOrNone := goodIn_r _ [15, 16, 17, 58, 59, 60, 61, 62, 63, 64, 65, 66, 67, 68, 69, 70, 71] (by decide +kernel) (by decide +kernel)
set_option maxRecDepth 20000 in
theorem gX4_factOfTable_X0_pagesOrNone : GoodIn wsX4_factOfTable (wsV RX4 147 RX0 yX0_pagesOrNone wsX0_pagesOrNone) := goodIn_app (goodIn_of _ (by decide +kernel)) ggX4_factOfTable_X0_pagesOrNone
set_option maxRecDepth 20000 in
theorem ggX4_factOfTable_X0_tableWidth : GoodIn wsX4_factOfTable wsX0_tableWidth := goodIn_r _ [21, 22, 49, 50, 51, 52, 53, 54, 55, 56, 57, 58, 59, 60, 61, 62, 63, 64, 65, 66, 67, 68, 69, 70, 71] (by decide +kernel) (by decide +kernel)
set_option maxRecDepth 20000 in
theorem gX4_factOfTable_X0_tableWidth : GoodIn wsX4_factOfTable (wsV RX4 249 RX0 yX0_tableWidth wsX0_tableWidth) := goodIn_app (goodIn_of _ (by decide +kernel)) ggX4_factOfTable_X0_tableWidth
set_option maxRecDepth 20000 in
theorem ggX4_factOfTable_X0_heightOfRows : GoodIn wsX4_factOfTable wsX0_heightOfRows := goodIn_r _ [26, 27, 49, 50, 51, 52, 53, 54, 55, 56, 57, 58, 59, 60, 61, 62, 63, 64, 65, 66, 67, 68, 69, 70, 71] (by decide +kernel) (by decide +kernel)
set_option maxRecDepth 20000 in
theorem gX4_factOfTable_X0_heightOfRows : GoodIn wsX4_factOfTable (wsV RX4 253 RX0 yX0_heightOfRows wsX0_heightOfRows) := goodIn_app (goodIn_of _ (by decide +kernel)) ggX4_factOfTable_X0_heightOfRows
set_option maxRecDepth 20000 in
theorem ggX4_factOfTable_X3_linesOfNotes : GoodIn wsX4_factOfTable wsX3_linesOfNotes := goodIn_r _ [32, 33, 34, 49, 50, 51, 52, 53, 54, 55, 56, 57, 75, 76, 77, 78, 79, 80, 81, 82] (by decide +kernel) (by decide +kernel)
set_option maxRecDepth 20000 in
theorem gX4_factOfTable_X3_linesOfNotes : GoodIn wsX4_factOfTable (wsV RX4 256 RX3 yX3_linesOfNotes wsX3_linesOfNotes) := goodIn_app (goodIn_of _ (by decide +kernel)) ggX4_factOfTable_X3_linesOfNotes
set_option maxRecDepth 20000 in
theorem ggX4_factOfTable_X0_notesElsewhere : GoodIn wsX4_factOfTable wsX0_notesElsewhere := goodIn_r _ [38, 39, 40, 49, 50, 51, 52, 53, 54, 55, 56, 57, 58, 59, 60, 61, 62, 63, 64, 65, 66, 67, 68, 69, 70, 71] (by decide +kernel) (by decide +kernel)
set_option maxRecDepth 20000 in
theorem gX4_factOfTable_X0_notesElsewhere : GoodIn wsX4_factOfTable (wsV RX4 259 RX0 yX0_notesElsewhere wsX0_notesElsewhere) := goodIn_app (goodIn_of _ (by decide +kernel)) ggX4_factOfTable_X0_notesElsewhere
theorem dX4_factOfTable_0 : decode cX4_factOfTable 0 = .ok (.aload_n 0, 1) := by decide +kernel
theorem dX4_factOfTable_1 : decode cX4_factOfTable 1 = .ok (.getfield 19, 3) := by decide +kernel
theorem dX4_factOfTable_4 : decode cX4_factOfTable 4 = .ok (.invokevirtual 143, 3) := by decide +kernel
theorem dX4_factOfTable_7 : decode cX4_factOfTable 7 = .ok (.astore_n 2, 1) := by decide +kernel
theorem dX4_factOfTable_8 : decode cX4_factOfTable 8 = .ok (.iload_n 1, 1) := by decide +kernel
theorem dX4_factOfTable_9 : decode cX4_factOfTable 9 = .ok (.tableswitch 163 0 7 #[47, 55, 63, 68, 95, 115, 135, 143], 47) := by decide +kernel
theorem dX4_factOfTable_56 : decode cX4_factOfTable 56 = .ok (.aload_n 0, 1) := by decide +kernel
theorem dX4_factOfTable_57 : decode cX4_factOfTable 57 = .ok (.getfield 12, 3) := by decide +kernel
theorem dX4_factOfTable_60 : decode cX4_factOfTable 60 = .ok (.getfield 119, 3) := by decide +kernel
theorem dX4_factOfTable_63 : decode cX4_factOfTable 63 = .ok (.ireturn, 1) := by decide +kernel
theorem dX4_factOfTable_64 : decode cX4_factOfTable 64 = .ok (.aload_n 0, 1) := by decide +kernel
theorem dX4_factOfTable_65 : decode cX4_factOfTable 65 = .ok (.getfield 12, 3) := by decide +kernel
theorem dX4_factOfTable_68 : decode cX4_factOfTable 68 = .ok (.getfield 72, 3) := by decide +kernel
theorem dX4_factOfTable_71 : decode cX4_factOfTable 71 = .ok (.ireturn, 1) := by decide +kernel
theorem dX4_factOfTable_72 : decode cX4_factOfTable 72 = .ok (.aload_n 2, 1) := by decide +kernel
theorem dX4_factOfTable_73 : decode cX4_factOfTable 73 = .ok (.invokevirtual 147, 3) := by decide +kernel
theorem dX4_factOfTable_76 : decode cX4_factOfTable 76 = .ok (.ireturn, 1) := by decide +kernel
theorem dX4_factOfTable_77 : decode cX4_factOfTable 77 = .ok (.aload_n 2, 1) := by decide +kernel
theorem dX4_factOfTable_78 : decode cX4_factOfTable 78 = .ok (.getfield 243, 3) := by decide +kernel
theorem dX4_factOfTable_81 : decode cX4_factOfTable 81 = .ok (.ifCond .eq 21, 3) := by decide +kernel
theorem dX4_factOfTable_84 : decode cX4_factOfTable 84 = .ok (.aload_n 0, 1) := by decide +kernel
theorem dX4_factOfTable_85 : decode cX4_factOfTable 85 = .ok (.getfield 19, 3) := by decide +kernel
theorem dX4_factOfTable_88 : decode cX4_factOfTable 88 = .ok (.getfield 246, 3) := by decide +kernel
theorem dX4_factOfTable_91 : decode cX4_factOfTable 91 = .ok (.ifCond .eq 7, 3) := by decide +kernel
theorem dX4_factOfTable_94 : decode cX4_factOfTable 94 = .ok (.iconst 1, 1) := by decide +kernel
theorem dX4_factOfTable_95 : decode cX4_factOfTable 95 = .ok (.goto 8, 3) := by decide +kernel
theorem dX4_factOfTable_98 : decode cX4_factOfTable 98 = .ok (.iconst 0, 1) := by decide +kernel
theorem dX4_factOfTable_99 : decode cX4_factOfTable 99 = .ok (.goto 4, 3) := by decide +kernel
theorem dX4_factOfTable_102 : decode cX4_factOfTable 102 = .ok (.iconst (-1), 1) := by decide +kernel
theorem dX4_factOfTable_103 : decode cX4_factOfTable 103 = .ok (.ireturn, 1) := by decide +kernel
theorem dX4_factOfTable_104 : decode cX4_factOfTable 104 = .ok (.aload_n 2, 1) := by decide +kernel
theorem dX4_factOfTable_105 : decode cX4_factOfTable 105 = .ok (.getfield 243, 3) := by decide +kernel
theorem dX4_factOfTable_108 : decode cX4_factOfTable 108 = .ok (.ifCond .eq 14, 3) := by decide +kernel
theorem dX4_factOfTable_111 : decode cX4_factOfTable 111 = .ok (.aload_n 2, 1) := by decide +kernel
theorem dX4_factOfTable_112 : decode cX4_factOfTable 112 = .ok (.aload_n 0, 1) := by decide +kernel
theorem dX4_factOfTable_113 : decode cX4_factOfTable 113 = .ok (.getfield 12, 3) := by decide +kernel
theorem dX4_factOfTable_116 : decode cX4_factOfTable 116 = .ok (.invokevirtual 249, 3) := by decide +kernel
theorem dX4_factOfTable_119 : decode cX4_factOfTable 119 = .ok (.goto 4, 3) := by decide +kernel
theorem dX4_factOfTable_122 : decode cX4_factOfTable 122 = .ok (.iconst (-1), 1) := by decide +kernel
theorem dX4_factOfTable_123 : decode cX4_factOfTable 123 = .ok (.ireturn, 1) := by decide +kernel
theorem dX4_factOfTable_124 : decode cX4_factOfTable 124 = .ok (.aload_n 2, 1) := by decide +kernel
theorem dX4_factOfTable_125 : decode cX4_factOfTable 125 = .ok (.getfield 243, 3) := by decide +kernel
theorem dX4_factOfTable_128 : decode cX4_factOfTable 128 = .ok (.ifCond .eq 14, 3) := by decide +kernel
theorem dX4_factOfTable_131 : decode cX4_factOfTable 131 = .ok (.aload_n 2, 1) := by decide +kernel
theorem dX4_factOfTable_132 : decode cX4_factOfTable 132 = .ok (.aload_n 0, 1) := by decide +kernel
theorem dX4_factOfTable_133 : decode cX4_factOfTable 133 = .ok (.getfield 12, 3) := by decide +kernel
theorem dX4_factOfTable_136 : decode cX4_factOfTable 136 = .ok (.invokevirtual 253, 3) := by decide +kernel
theorem dX4_factOfTable_139 : decode cX4_factOfTable 139 = .ok (.goto 4, 3) := by decide +kernel
theorem dX4_factOfTable_142 : decode cX4_factOfTable 142 = .ok (.iconst (-1), 1) := by decide +kernel
theorem dX4_factOfTable_143 : decode cX4_factOfTable 143 = .ok (.ireturn, 1) := by decide +kernel
theorem dX4_factOfTable_144 : decode cX4_factOfTable 144 = .ok (.aload_n 0, 1) := by decide +kernel
theorem dX4_factOfTable_145 : decode cX4_factOfTable 145 = .ok (.getfield 12, 3) := by decide +kernel
theorem dX4_factOfTable_148 : decode cX4_factOfTable 148 = .ok (.invokevirtual 256, 3) := by decide +kernel
theorem dX4_factOfTable_151 : decode cX4_factOfTable 151 = .ok (.ireturn, 1) := by decide +kernel
theorem dX4_factOfTable_152 : decode cX4_factOfTable 152 = .ok (.aload_n 2, 1) := by decide +kernel
theorem dX4_factOfTable_153 : decode cX4_factOfTable 153 = .ok (.getfield 243, 3) := by decide +kernel
theorem dX4_factOfTable_156 : decode cX4_factOfTable 156 = .ok (.ifCond .eq 14, 3) := by decide +kernel
theorem dX4_factOfTable_159 : decode cX4_factOfTable 159 = .ok (.aload_n 2, 1) := by decide +kernel
theorem dX4_factOfTable_160 : decode cX4_factOfTable 160 = .ok (.aload_n 0, 1) := by decide +kernel
theorem dX4_factOfTable_161 : decode cX4_factOfTable 161 = .ok (.getfield 12, 3) := by decide +kernel
theorem dX4_factOfTable_164 : decode cX4_factOfTable 164 = .ok (.invokevirtual 259, 3) := by decide +kernel
theorem dX4_factOfTable_167 : decode cX4_factOfTable 167 = .ok (.goto 4, 3) := by decide +kernel
theorem dX4_factOfTable_170 : decode cX4_factOfTable 170 = .ok (.iconst (-1), 1) := by decide +kernel
theorem dX4_factOfTable_171 : decode cX4_factOfTable 171 = .ok (.ireturn, 1) := by decide +kernel
theorem dX4_factOfTable_172 : decode cX4_factOfTable 172 = .ok (.iconst (-1), 1) := by decide +kernel
theorem dX4_factOfTable_173 : decode cX4_factOfTable 173 = .ok (.ireturn, 1) := by decide +kernel
set_option maxRecDepth 20000 in
theorem ggX4_factOfColumn_X2_chosen : GoodIn wsX4_factOfColumn wsX2_chosen := goodIn_r _ [7, 8, 9, 10, 49, 50, 51] (by decide +kernel) (by decide +kernel)
set_option maxRecDepth 20000 in
theorem gX4_factOfColumn_X2_chosen : GoodIn wsX4_factOfColumn (wsV RX4 143 RX2 yX2_chosen wsX2_chosen) := goodIn_app (goodIn_of _ (by decide +kernel)) ggX4_factOfColumn_X2_chosen
set_option maxRecDepth 20000 in
theorem ggX4_factOfColumn_X3_sumUpTo : GoodIn wsX4_factOfColumn wsX3_sumUpTo := goodIn_r _ [15, 16, 17, 26, 27, 28, 29, 30, 31, 32, 33, 34, 52, 53, 54, 55, 56, 57, 58, 59] (by decide +kernel) (by decide +kernel)
set_option maxRecDepth 20000 in
theorem gX4_factOfColumn_X3_sumUpTo : GoodIn wsX4_factOfColumn (wsV RX4 271 RX3 yX3_sumUpTo wsX3_sumUpTo) := goodIn_app (goodIn_of _ (by decide +kernel)) ggX4_factOfColumn_X3_sumUpTo
theorem dX4_factOfColumn_0 : decode cX4_factOfColumn 0 = .ok (.aload_n 0, 1) := by decide +kernel
theorem dX4_factOfColumn_1 : decode cX4_factOfColumn 1 = .ok (.getfield 19, 3) := by decide +kernel
theorem dX4_factOfColumn_4 : decode cX4_factOfColumn 4 = .ok (.invokevirtual 143, 3) := by decide +kernel
theorem dX4_factOfColumn_7 : decode cX4_factOfColumn 7 = .ok (.astore_n 3, 1) := by decide +kernel
theorem dX4_factOfColumn_8 : decode cX4_factOfColumn 8 = .ok (.iload_n 2, 1) := by decide +kernel
theorem dX4_factOfColumn_9 : decode cX4_factOfColumn 9 = .ok (.tableswitch 101 0 4 #[35, 45, 55, 65, 83], 35) := by decide +kernel
theorem dX4_factOfColumn_44 : decode cX4_factOfColumn 44 = .ok (.aload_n 0, 1) := by decide +kernel
theorem dX4_factOfColumn_45 : decode cX4_factOfColumn 45 = .ok (.getfield 12, 3) := by decide +kernel
theorem dX4_factOfColumn_48 : decode cX4_factOfColumn 48 = .ok (.getfield 220, 3) := by decide +kernel
theorem dX4_factOfColumn_51 : decode cX4_factOfColumn 51 = .ok (.iload_n 1, 1) := by decide +kernel
theorem dX4_factOfColumn_52 : decode cX4_factOfColumn 52 = .ok (.iaload, 1) := by decide +kernel
theorem dX4_factOfColumn_53 : decode cX4_factOfColumn 53 = .ok (.ireturn, 1) := by decide +kernel
theorem dX4_factOfColumn_54 : decode cX4_factOfColumn 54 = .ok (.aload_n 0, 1) := by decide +kernel
theorem dX4_factOfColumn_55 : decode cX4_factOfColumn 55 = .ok (.getfield 12, 3) := by decide +kernel
theorem dX4_factOfColumn_58 : decode cX4_factOfColumn 58 = .ok (.getfield 262, 3) := by decide +kernel
theorem dX4_factOfColumn_61 : decode cX4_factOfColumn 61 = .ok (.iload_n 1, 1) := by decide +kernel
theorem dX4_factOfColumn_62 : decode cX4_factOfColumn 62 = .ok (.iaload, 1) := by decide +kernel
theorem dX4_factOfColumn_63 : decode cX4_factOfColumn 63 = .ok (.ireturn, 1) := by decide +kernel
theorem dX4_factOfColumn_64 : decode cX4_factOfColumn 64 = .ok (.aload_n 0, 1) := by decide +kernel
theorem dX4_factOfColumn_65 : decode cX4_factOfColumn 65 = .ok (.getfield 12, 3) := by decide +kernel
theorem dX4_factOfColumn_68 : decode cX4_factOfColumn 68 = .ok (.getfield 265, 3) := by decide +kernel
theorem dX4_factOfColumn_71 : decode cX4_factOfColumn 71 = .ok (.iload_n 1, 1) := by decide +kernel
theorem dX4_factOfColumn_72 : decode cX4_factOfColumn 72 = .ok (.iaload, 1) := by decide +kernel
theorem dX4_factOfColumn_73 : decode cX4_factOfColumn 73 = .ok (.ireturn, 1) := by decide +kernel
theorem dX4_factOfColumn_74 : decode cX4_factOfColumn 74 = .ok (.aload_n 3, 1) := by decide +kernel
theorem dX4_factOfColumn_75 : decode cX4_factOfColumn 75 = .ok (.getfield 243, 3) := by decide +kernel
theorem dX4_factOfColumn_78 : decode cX4_factOfColumn 78 = .ok (.ifCond .eq 12, 3) := by decide +kernel
theorem dX4_factOfColumn_81 : decode cX4_factOfColumn 81 = .ok (.aload_n 3, 1) := by decide +kernel
theorem dX4_factOfColumn_82 : decode cX4_factOfColumn 82 = .ok (.getfield 268, 3) := by decide +kernel
theorem dX4_factOfColumn_85 : decode cX4_factOfColumn 85 = .ok (.iload_n 1, 1) := by decide +kernel
theorem dX4_factOfColumn_86 : decode cX4_factOfColumn 86 = .ok (.iaload, 1) := by decide +kernel
theorem dX4_factOfColumn_87 : decode cX4_factOfColumn 87 = .ok (.goto 4, 3) := by decide +kernel
theorem dX4_factOfColumn_90 : decode cX4_factOfColumn 90 = .ok (.iconst (-1), 1) := by decide +kernel
theorem dX4_factOfColumn_91 : decode cX4_factOfColumn 91 = .ok (.ireturn, 1) := by decide +kernel
theorem dX4_factOfColumn_92 : decode cX4_factOfColumn 92 = .ok (.aload_n 0, 1) := by decide +kernel
theorem dX4_factOfColumn_93 : decode cX4_factOfColumn 93 = .ok (.getfield 12, 3) := by decide +kernel
theorem dX4_factOfColumn_96 : decode cX4_factOfColumn 96 = .ok (.aload_n 0, 1) := by decide +kernel
theorem dX4_factOfColumn_97 : decode cX4_factOfColumn 97 = .ok (.getfield 12, 3) := by decide +kernel
theorem dX4_factOfColumn_100 : decode cX4_factOfColumn 100 = .ok (.getfield 72, 3) := by decide +kernel
theorem dX4_factOfColumn_103 : decode cX4_factOfColumn 103 = .ok (.iconst 1, 1) := by decide +kernel
theorem dX4_factOfColumn_104 : decode cX4_factOfColumn 104 = .ok (.isub, 1) := by decide +kernel
theorem dX4_factOfColumn_105 : decode cX4_factOfColumn 105 = .ok (.iload_n 1, 1) := by decide +kernel
theorem dX4_factOfColumn_106 : decode cX4_factOfColumn 106 = .ok (.invokevirtual 271, 3) := by decide +kernel
theorem dX4_factOfColumn_109 : decode cX4_factOfColumn 109 = .ok (.ireturn, 1) := by decide +kernel
theorem dX4_factOfColumn_110 : decode cX4_factOfColumn 110 = .ok (.iconst (-1), 1) := by decide +kernel
theorem dX4_factOfColumn_111 : decode cX4_factOfColumn 111 = .ok (.ireturn, 1) := by decide +kernel
set_option maxRecDepth 20000 in
theorem ggX4_factOfRow_X2_chosen : GoodIn wsX4_factOfRow wsX2_chosen := goodIn_r _ [6, 7, 8, 9, 32, 33, 34] (by decide +kernel) (by decide +kernel)
set_option maxRecDepth 20000 in
theorem gX4_factOfRow_X2_chosen : GoodIn wsX4_factOfRow (wsV RX4 143 RX2 yX2_chosen wsX2_chosen) := goodIn_app (goodIn_of _ (by decide +kernel)) ggX4_factOfRow_X2_chosen
theorem dX4_factOfRow_0 : decode cX4_factOfRow 0 = .ok (.aload_n 0, 1) := by decide +kernel
theorem dX4_factOfRow_1 : decode cX4_factOfRow 1 = .ok (.getfield 19, 3) := by decide +kernel
theorem dX4_factOfRow_4 : decode cX4_factOfRow 4 = .ok (.invokevirtual 143, 3) := by decide +kernel
theorem dX4_factOfRow_7 : decode cX4_factOfRow 7 = .ok (.astore_n 3, 1) := by decide +kernel
theorem dX4_factOfRow_8 : decode cX4_factOfRow 8 = .ok (.aload_n 3, 1) := by decide +kernel
theorem dX4_factOfRow_9 : decode cX4_factOfRow 9 = .ok (.getfield 243, 3) := by decide +kernel
theorem dX4_factOfRow_12 : decode cX4_factOfRow 12 = .ok (.ifCond .ne 5, 3) := by decide +kernel
theorem dX4_factOfRow_15 : decode cX4_factOfRow 15 = .ok (.iconst (-1), 1) := by decide +kernel
theorem dX4_factOfRow_16 : decode cX4_factOfRow 16 = .ok (.ireturn, 1) := by decide +kernel
theorem dX4_factOfRow_17 : decode cX4_factOfRow 17 = .ok (.iload_n 2, 1) := by decide +kernel
theorem dX4_factOfRow_18 : decode cX4_factOfRow 18 = .ok (.tableswitch 47 0 2 #[26, 33, 40], 26) := by decide +kernel
theorem dX4_factOfRow_44 : decode cX4_factOfRow 44 = .ok (.aload_n 3, 1) := by decide +kernel
theorem dX4_factOfRow_45 : decode cX4_factOfRow 45 = .ok (.getfield 274, 3) := by decide +kernel
theorem dX4_factOfRow_48 : decode cX4_factOfRow 48 = .ok (.iload_n 1, 1) := by decide +kernel
theorem dX4_factOfRow_49 : decode cX4_factOfRow 49 = .ok (.iaload, 1) := by decide +kernel
theorem dX4_factOfRow_50 : decode cX4_factOfRow 50 = .ok (.ireturn, 1) := by decide +kernel
theorem dX4_factOfRow_51 : decode cX4_factOfRow 51 = .ok (.aload_n 3, 1) := by decide +kernel
theorem dX4_factOfRow_52 : decode cX4_factOfRow 52 = .ok (.getfield 277, 3) := by decide +kernel
theorem dX4_factOfRow_55 : decode cX4_factOfRow 55 = .ok (.iload_n 1, 1) := by decide +kernel
theorem dX4_factOfRow_56 : decode cX4_factOfRow 56 = .ok (.iaload, 1) := by decide +kernel
theorem dX4_factOfRow_57 : decode cX4_factOfRow 57 = .ok (.ireturn, 1) := by decide +kernel
theorem dX4_factOfRow_58 : decode cX4_factOfRow 58 = .ok (.aload_n 3, 1) := by decide +kernel
theorem dX4_factOfRow_59 : decode cX4_factOfRow 59 = .ok (.getfield 280, 3) := by decide +kernel
theorem dX4_factOfRow_62 : decode cX4_factOfRow 62 = .ok (.iload_n 1, 1) := by decide +kernel
theorem dX4_factOfRow_63 : decode cX4_factOfRow 63 = .ok (.iaload, 1) := by decide +kernel
theorem dX4_factOfRow_64 : decode cX4_factOfRow 64 = .ok (.ireturn, 1) := by decide +kernel
theorem dX4_factOfRow_65 : decode cX4_factOfRow 65 = .ok (.iconst (-1), 1) := by decide +kernel
theorem dX4_factOfRow_66 : decode cX4_factOfRow 66 = .ok (.ireturn, 1) := by decide +kernel
set_option maxRecDepth 20000 in
theorem ggX4_factOfCell_X2_chosen : GoodIn wsX4_factOfCell wsX2_chosen := goodIn_r _ [7, 8, 9, 10, 72, 73, 74] (by decide +kernel) (by decide +kernel)
set_option maxRecDepth 20000 in
theorem gX4_factOfCell_X2_chosen : GoodIn wsX4_factOfCell (wsV RX4 143 RX2 yX2_chosen wsX2_chosen) := goodIn_app (goodIn_of _ (by decide +kernel)) ggX4_factOfCell_X2_chosen
set_option maxRecDepth 20000 in
theorem ggX4_factOfCell_X0_heightOfCell : GoodIn wsX4_factOfCell wsX0_heightOfCell := goodIn_r _ [15, 16, 17, 18, 19, 20, 21, 22, 23, 24, 25, 26, 27, 41, 42, 43, 44, 45, 46, 47, 48, 49, 50, 51, 52, 53, 54, 55, 56, 57, 58, 59, 60, 61, 62, 63, 64, 65, 66, 67, 68, 69, 70, 71] (by decide +kernel) (by decide +kernel)
set_option maxRecDepth 20000 in
theorem gX4_factOfCell_X0_heightOfCell : GoodIn wsX4_factOfCell (wsV RX4 283 RX0 yX0_heightOfCell wsX0_heightOfCell) := goodIn_app (goodIn_of _ (by decide +kernel)) ggX4_factOfCell_X0_heightOfCell
set_option maxRecDepth 20000 in
theorem ggX4_factOfCell_X3_sumUpTo : GoodIn wsX4_factOfCell wsX3_sumUpTo := goodIn_r _ [31, 32, 27, 41, 42, 43, 44, 45, 46, 47, 48, 49, 50, 51, 52, 53, 54, 55, 56, 57] (by decide +kernel) (by decide +kernel)
set_option maxRecDepth 20000 in
theorem gX4_factOfCell_X3_sumUpTo : GoodIn wsX4_factOfCell (wsV RX4 271 RX3 yX3_sumUpTo wsX3_sumUpTo) := goodIn_app (goodIn_of _ (by decide +kernel)) ggX4_factOfCell_X3_sumUpTo
theorem dX4_factOfCell_0 : decode cX4_factOfCell 0 = .ok (.aload_n 0, 1) := by decide +kernel
theorem dX4_factOfCell_1 : decode cX4_factOfCell 1 = .ok (.getfield 19, 3) := by decide +kernel
theorem dX4_factOfCell_4 : decode cX4_factOfCell 4 = .ok (.invokevirtual 143, 3) := by decide +kernel
theorem dX4_factOfCell_7 : decode cX4_factOfCell 7 = .ok (.astore 4, 2) := by decide +kernel
theorem dX4_factOfCell_9 : decode cX4_factOfCell 9 = .ok (.aload_n 0, 1) := by decide +kernel
theorem dX4_factOfCell_10 : decode cX4_factOfCell 10 = .ok (.getfield 12, 3) := by decide +kernel
theorem dX4_factOfCell_13 : decode cX4_factOfCell 13 = .ok (.getfield 95, 3) := by decide +kernel
theorem dX4_factOfCell_16 : decode cX4_factOfCell 16 = .ok (.iload_n 1, 1) := by decide +kernel
theorem dX4_factOfCell_17 : decode cX4_factOfCell 17 = .ok (.aaload, 1) := by decide +kernel
theorem dX4_factOfCell_18 : decode cX4_factOfCell 18 = .ok (.astore 5, 2) := by decide +kernel
theorem dX4_factOfCell_20 : decode cX4_factOfCell 20 = .ok (.iload_n 3, 1) := by decide +kernel
theorem dX4_factOfCell_21 : decode cX4_factOfCell 21 = .ok (.tableswitch 112 0 3 #[31, 62, 86, 102], 31) := by decide +kernel
theorem dX4_factOfCell_52 : decode cX4_factOfCell 52 = .ok (.aload_n 0, 1) := by decide +kernel
theorem dX4_factOfCell_53 : decode cX4_factOfCell 53 = .ok (.getfield 12, 3) := by decide +kernel
theorem dX4_factOfCell_56 : decode cX4_factOfCell 56 = .ok (.getfield 220, 3) := by decide +kernel
theorem dX4_factOfCell_59 : decode cX4_factOfCell 59 = .ok (.iload_n 2, 1) := by decide +kernel
theorem dX4_factOfCell_60 : decode cX4_factOfCell 60 = .ok (.iaload, 1) := by decide +kernel
theorem dX4_factOfCell_61 : decode cX4_factOfCell 61 = .ok (.iconst 1, 1) := by decide +kernel
theorem dX4_factOfCell_62 : decode cX4_factOfCell 62 = .ok (.if_icmp .ne 13, 3) := by decide +kernel
theorem dX4_factOfCell_65 : decode cX4_factOfCell 65 = .ok (.aload 5, 2) := by decide +kernel
theorem dX4_factOfCell_67 : decode cX4_factOfCell 67 = .ok (.getfield 113, 3) := by decide +kernel
theorem dX4_factOfCell_70 : decode cX4_factOfCell 70 = .ok (.iload_n 2, 1) := by decide +kernel
theorem dX4_factOfCell_71 : decode cX4_factOfCell 71 = .ok (.iaload, 1) := by decide +kernel
theorem dX4_factOfCell_72 : decode cX4_factOfCell 72 = .ok (.goto 10, 3) := by decide +kernel
theorem dX4_factOfCell_75 : decode cX4_factOfCell 75 = .ok (.aload 5, 2) := by decide +kernel
theorem dX4_factOfCell_77 : decode cX4_factOfCell 77 = .ok (.getfield 99, 3) := by decide +kernel
theorem dX4_factOfCell_80 : decode cX4_factOfCell 80 = .ok (.iload_n 2, 1) := by decide +kernel
theorem dX4_factOfCell_81 : decode cX4_factOfCell 81 = .ok (.iaload, 1) := by decide +kernel
theorem dX4_factOfCell_82 : decode cX4_factOfCell 82 = .ok (.ireturn, 1) := by decide +kernel
theorem dX4_factOfCell_83 : decode cX4_factOfCell 83 = .ok (.aload 4, 2) := by decide +kernel
theorem dX4_factOfCell_85 : decode cX4_factOfCell 85 = .ok (.getfield 243, 3) := by decide +kernel
theorem dX4_factOfCell_88 : decode cX4_factOfCell 88 = .ok (.ifCond .eq 17, 3) := by decide +kernel
theorem dX4_factOfCell_91 : decode cX4_factOfCell 91 = .ok (.aload 4, 2) := by decide +kernel
theorem dX4_factOfCell_93 : decode cX4_factOfCell 93 = .ok (.aload_n 0, 1) := by decide +kernel
theorem dX4_factOfCell_94 : decode cX4_factOfCell 94 = .ok (.getfield 12, 3) := by decide +kernel
theorem dX4_factOfCell_97 : decode cX4_factOfCell 97 = .ok (.iload_n 1, 1) := by decide +kernel
theorem dX4_factOfCell_98 : decode cX4_factOfCell 98 = .ok (.iload_n 2, 1) := by decide +kernel
theorem dX4_factOfCell_99 : decode cX4_factOfCell 99 = .ok (.invokevirtual 283, 3) := by decide +kernel
theorem dX4_factOfCell_102 : decode cX4_factOfCell 102 = .ok (.goto 4, 3) := by decide +kernel
theorem dX4_factOfCell_105 : decode cX4_factOfCell 105 = .ok (.iconst (-1), 1) := by decide +kernel
theorem dX4_factOfCell_106 : decode cX4_factOfCell 106 = .ok (.ireturn, 1) := by decide +kernel
theorem dX4_factOfCell_107 : decode cX4_factOfCell 107 = .ok (.aload 5, 2) := by decide +kernel
theorem dX4_factOfCell_109 : decode cX4_factOfCell 109 = .ok (.getfield 134, 3) := by decide +kernel
theorem dX4_factOfCell_112 : decode cX4_factOfCell 112 = .ok (.iload_n 2, 1) := by decide +kernel
theorem dX4_factOfCell_113 : decode cX4_factOfCell 113 = .ok (.baload, 1) := by decide +kernel
theorem dX4_factOfCell_114 : decode cX4_factOfCell 114 = .ok (.ifCond .eq 7, 3) := by decide +kernel
theorem dX4_factOfCell_117 : decode cX4_factOfCell 117 = .ok (.iconst 1, 1) := by decide +kernel
theorem dX4_factOfCell_118 : decode cX4_factOfCell 118 = .ok (.goto 4, 3) := by decide +kernel
theorem dX4_factOfCell_121 : decode cX4_factOfCell 121 = .ok (.iconst 0, 1) := by decide +kernel
theorem dX4_factOfCell_122 : decode cX4_factOfCell 122 = .ok (.ireturn, 1) := by decide +kernel
theorem dX4_factOfCell_123 : decode cX4_factOfCell 123 = .ok (.aload_n 0, 1) := by decide +kernel
theorem dX4_factOfCell_124 : decode cX4_factOfCell 124 = .ok (.getfield 12, 3) := by decide +kernel
theorem dX4_factOfCell_127 : decode cX4_factOfCell 127 = .ok (.iload_n 1, 1) := by decide +kernel
theorem dX4_factOfCell_128 : decode cX4_factOfCell 128 = .ok (.iload_n 2, 1) := by decide +kernel
theorem dX4_factOfCell_129 : decode cX4_factOfCell 129 = .ok (.invokevirtual 271, 3) := by decide +kernel
theorem dX4_factOfCell_132 : decode cX4_factOfCell 132 = .ok (.ireturn, 1) := by decide +kernel
theorem dX4_factOfCell_133 : decode cX4_factOfCell 133 = .ok (.iconst (-1), 1) := by decide +kernel
theorem dX4_factOfCell_134 : decode cX4_factOfCell 134 = .ok (.ireturn, 1) := by decide +kernel
set_option maxRecDepth 20000 in
theorem ggX4_factOfPage_X2_chosen : GoodIn wsX4_factOfPage wsX2_chosen := goodIn_r _ [7, 8, 9, 10, 43, 44, 45] (by decide +kernel) (by decide +kernel)
set_option maxRecDepth 20000 in
theorem gX4_factOfPage_X2_chosen : GoodIn wsX4_factOfPage (wsV RX4 143 RX2 yX2_chosen wsX2_chosen) := goodIn_app (goodIn_of _ (by decide +kernel)) ggX4_factOfPage_X2_chosen
set_option maxRecDepth 20000 in
theorem ggX4_factOfPage_X0_readAloud : GoodIn wsX4_factOfPage wsX0_readAloud := goodIn_r _ [15, 16, 17, 18, 19, 14, 20, 46, 47, 48, 49, 50, 51, 52, 53, 54, 29, 30, 31, 32, 33, 34, 35, 36, 37, 38, 39, 40, 41, 42, 55, 56, 57, 58, 59, 60, 61, 62] (by decide +kernel) (by decide +kernel)
set_option maxRecDepth 20000 in
theorem gX4_factOfPage_X0_readAloud : GoodIn wsX4_factOfPage (wsV RX4 289 RX0 yX0_readAloud wsX0_readAloud) := goodIn_app (goodIn_of _ (by decide +kernel)) ggX4_factOfPage_X0_readAloud
theorem dX4_factOfPage_0 : decode cX4_factOfPage 0 = .ok (.aload_n 0, 1) := by decide +kernel
theorem dX4_factOfPage_1 : decode cX4_factOfPage 1 = .ok (.getfield 19, 3) := by decide +kernel
theorem dX4_factOfPage_4 : decode cX4_factOfPage 4 = .ok (.invokevirtual 143, 3) := by decide +kernel
theorem dX4_factOfPage_7 : decode cX4_factOfPage 7 = .ok (.astore_n 3, 1) := by decide +kernel
theorem dX4_factOfPage_8 : decode cX4_factOfPage 8 = .ok (.iload_n 2, 1) := by decide +kernel
theorem dX4_factOfPage_9 : decode cX4_factOfPage 9 = .ok (.tableswitch 73 0 4 #[35, 42, 49, 56, 63], 35) := by decide +kernel
theorem dX4_factOfPage_44 : decode cX4_factOfPage 44 = .ok (.aload_n 3, 1) := by decide +kernel
theorem dX4_factOfPage_45 : decode cX4_factOfPage 45 = .ok (.getfield 237, 3) := by decide +kernel
theorem dX4_factOfPage_48 : decode cX4_factOfPage 48 = .ok (.iload_n 1, 1) := by decide +kernel
theorem dX4_factOfPage_49 : decode cX4_factOfPage 49 = .ok (.iaload, 1) := by decide +kernel
theorem dX4_factOfPage_50 : decode cX4_factOfPage 50 = .ok (.ireturn, 1) := by decide +kernel
theorem dX4_factOfPage_51 : decode cX4_factOfPage 51 = .ok (.aload_n 3, 1) := by decide +kernel
theorem dX4_factOfPage_52 : decode cX4_factOfPage 52 = .ok (.getfield 240, 3) := by decide +kernel
theorem dX4_factOfPage_55 : decode cX4_factOfPage 55 = .ok (.iload_n 1, 1) := by decide +kernel
theorem dX4_factOfPage_56 : decode cX4_factOfPage 56 = .ok (.iaload, 1) := by decide +kernel
theorem dX4_factOfPage_57 : decode cX4_factOfPage 57 = .ok (.ireturn, 1) := by decide +kernel
theorem dX4_factOfPage_58 : decode cX4_factOfPage 58 = .ok (.aload_n 3, 1) := by decide +kernel
theorem dX4_factOfPage_59 : decode cX4_factOfPage 59 = .ok (.getfield 286, 3) := by decide +kernel
theorem dX4_factOfPage_62 : decode cX4_factOfPage 62 = .ok (.iload_n 1, 1) := by decide +kernel
theorem dX4_factOfPage_63 : decode cX4_factOfPage 63 = .ok (.iaload, 1) := by decide +kernel
theorem dX4_factOfPage_64 : decode cX4_factOfPage 64 = .ok (.ireturn, 1) := by decide +kernel
theorem dX4_factOfPage_65 : decode cX4_factOfPage 65 = .ok (.aload_n 3, 1) := by decide +kernel
theorem dX4_factOfPage_66 : decode cX4_factOfPage 66 = .ok (.getfield 177, 3) := by decide +kernel
theorem dX4_factOfPage_69 : decode cX4_factOfPage 69 = .ok (.iload_n 1, 1) := by decide +kernel
theorem dX4_factOfPage_70 : decode cX4_factOfPage 70 = .ok (.iaload, 1) := by decide +kernel
theorem dX4_factOfPage_71 : decode cX4_factOfPage 71 = .ok (.ireturn, 1) := by decide +kernel
theorem dX4_factOfPage_72 : decode cX4_factOfPage 72 = .ok (.aload_n 3, 1) := by decide +kernel
theorem dX4_factOfPage_73 : decode cX4_factOfPage 73 = .ok (.aload_n 0, 1) := by decide +kernel
theorem dX4_factOfPage_74 : decode cX4_factOfPage 74 = .ok (.getfield 12, 3) := by decide +kernel
theorem dX4_factOfPage_77 : decode cX4_factOfPage 77 = .ok (.iload_n 1, 1) := by decide +kernel
theorem dX4_factOfPage_78 : decode cX4_factOfPage 78 = .ok (.invokevirtual 289, 3) := by decide +kernel
theorem dX4_factOfPage_81 : decode cX4_factOfPage 81 = .ok (.ireturn, 1) := by decide +kernel
theorem dX4_factOfPage_82 : decode cX4_factOfPage 82 = .ok (.iconst (-1), 1) := by decide +kernel
theorem dX4_factOfPage_83 : decode cX4_factOfPage 83 = .ok (.ireturn, 1) := by decide +kernel
theorem dX4_digestWith_0 : decode cX4_digestWith 0 = .ok (.lload_n 0, 1) := by decide +kernel
theorem dX4_digestWith_1 : decode cX4_digestWith 1 = .ok (.ldc2_w 293, 3) := by decide +kernel
theorem dX4_digestWith_4 : decode cX4_digestWith 4 = .ok (.lmul, 1) := by decide +kernel
theorem dX4_digestWith_5 : decode cX4_digestWith 5 = .ok (.iload_n 2, 1) := by decide +kernel
theorem dX4_digestWith_6 : decode cX4_digestWith 6 = .ok (.i2l, 1) := by decide +kernel
theorem dX4_digestWith_7 : decode cX4_digestWith 7 = .ok (.ladd, 1) := by decide +kernel
theorem dX4_digestWith_8 : decode cX4_digestWith 8 = .ok (.lreturn, 1) := by decide +kernel
set_option maxRecDepth 20000 in
theorem ggX4_digestWithRow_X4_factOfRow : GoodIn wsX4_digestWithRow wsX4_factOfRow := goodIn_r _ [6, 7, 8, 9, 10, 11, 12, 13, 14, 15, 46, 47, 48, 49, 50, 51, 52, 53, 63, 64, 65, 66, 67, 68, 69, 70, 71, 72, 73, 74, 75, 76, 77, 78, 79] (by decide +kernel) (by decide +kernel)
set_option maxRecDepth 20000 in
theorem gX4_digestWithRow_X4_factOfRow : GoodIn wsX4_digestWithRow (wsV RX4 157 RX4 yX4_factOfRow wsX4_factOfRow) := goodIn_app (goodIn_of _ (by decide +kernel)) ggX4_digestWithRow_X4_factOfRow
set_option maxRecDepth 20000 in
theorem ggX4_digestWithRow_X4_digestWith : GoodIn wsX4_digestWithRow wsX4_digestWith := goodIn_r _ [18, 19] (by decide +kernel) (by decide +kernel)
set_option maxRecDepth 20000 in
theorem gX4_digestWithRow_X4_digestWith : GoodIn wsX4_digestWithRow (va_wsS RX4 199 yX4_digestWith wsX4_digestWith) := goodIn_app (goodIn_of _ (by decide +kernel)) ggX4_digestWithRow_X4_digestWith
set_option maxRecDepth 20000 in
theorem ggX4_digestWithRow_X4_factOfCell : GoodIn wsX4_digestWithRow wsX4_factOfCell := goodIn_r _ [23, 7, 1, 8, 9, 10, 11, 12, 13, 14, 15, 24, 25, 26, 27, 28, 29, 30, 31, 32, 33, 34, 35, 36, 37, 38, 39, 40, 41, 42, 43, 44, 45, 46, 47, 48, 49, 50, 51, 52, 53, 54, 55, 56, 57, 58, 59, 60, 61, 62, 80, 81, 82, 83, 84, 85, 86, 87, 63, 64, 65, 66, 67, 68, 69, 70, 71, 72, 73, 74, 75, 76, 77, 78, 79] (by decide +kernel) (by decide +kernel)
set_option maxRecDepth 20000 in
theorem gX4_digestWithRow_X4_factOfCell : GoodIn wsX4_digestWithRow (wsV RX4 150 RX4 yX4_factOfCell wsX4_factOfCell) := goodIn_app (goodIn_of _ (by decide +kernel)) ggX4_digestWithRow_X4_factOfCell
theorem dX4_digestWithRow_0 : decode cX4_digestWithRow 0 = .ok (.lload_n 1, 1) := by decide +kernel
theorem dX4_digestWithRow_1 : decode cX4_digestWithRow 1 = .ok (.lstore 4, 2) := by decide +kernel
theorem dX4_digestWithRow_3 : decode cX4_digestWithRow 3 = .ok (.iconst 0, 1) := by decide +kernel
theorem dX4_digestWithRow_4 : decode cX4_digestWithRow 4 = .ok (.istore 6, 2) := by decide +kernel
theorem dX4_digestWithRow_6 : decode cX4_digestWithRow 6 = .ok (.iload 6, 2) := by decide +kernel
theorem dX4_digestWithRow_8 : decode cX4_digestWithRow 8 = .ok (.iconst 2, 1) := by decide +kernel
theorem dX4_digestWithRow_9 : decode cX4_digestWithRow 9 = .ok (.if_icmp .gt 23, 3) := by decide +kernel
theorem dX4_digestWithRow_12 : decode cX4_digestWithRow 12 = .ok (.lload 4, 2) := by decide +kernel
theorem dX4_digestWithRow_14 : decode cX4_digestWithRow 14 = .ok (.aload_n 0, 1) := by decide +kernel
theorem dX4_digestWithRow_15 : decode cX4_digestWithRow 15 = .ok (.iload_n 3, 1) := by decide +kernel
theorem dX4_digestWithRow_16 : decode cX4_digestWithRow 16 = .ok (.iload 6, 2) := by decide +kernel
theorem dX4_digestWithRow_18 : decode cX4_digestWithRow 18 = .ok (.invokevirtual 157, 3) := by decide +kernel
theorem dX4_digestWithRow_21 : decode cX4_digestWithRow 21 = .ok (.invokestatic 199, 3) := by decide +kernel
theorem dX4_digestWithRow_24 : decode cX4_digestWithRow 24 = .ok (.lstore 4, 2) := by decide +kernel
theorem dX4_digestWithRow_26 : decode cX4_digestWithRow 26 = .ok (.iinc 6 1, 3) := by decide +kernel
theorem dX4_digestWithRow_29 : decode cX4_digestWithRow 29 = .ok (.goto (-23), 3) := by decide +kernel
theorem dX4_digestWithRow_32 : decode cX4_digestWithRow 32 = .ok (.iconst 0, 1) := by decide +kernel
theorem dX4_digestWithRow_33 : decode cX4_digestWithRow 33 = .ok (.istore 6, 2) := by decide +kernel
theorem dX4_digestWithRow_35 : decode cX4_digestWithRow 35 = .ok (.iload 6, 2) := by decide +kernel
theorem dX4_digestWithRow_37 : decode cX4_digestWithRow 37 = .ok (.aload_n 0, 1) := by decide +kernel
theorem dX4_digestWithRow_38 : decode cX4_digestWithRow 38 = .ok (.getfield 12, 3) := by decide +kernel
theorem dX4_digestWithRow_41 : decode cX4_digestWithRow 41 = .ok (.getfield 119, 3) := by decide +kernel
theorem dX4_digestWithRow_44 : decode cX4_digestWithRow 44 = .ok (.if_icmp .ge 40, 3) := by decide +kernel
theorem dX4_digestWithRow_47 : decode cX4_digestWithRow 47 = .ok (.iconst 0, 1) := by decide +kernel
theorem dX4_digestWithRow_48 : decode cX4_digestWithRow 48 = .ok (.istore 7, 2) := by decide +kernel
theorem dX4_digestWithRow_50 : decode cX4_digestWithRow 50 = .ok (.iload 7, 2) := by decide +kernel
theorem dX4_digestWithRow_52 : decode cX4_digestWithRow 52 = .ok (.iconst 3, 1) := by decide +kernel
theorem dX4_digestWithRow_53 : decode cX4_digestWithRow 53 = .ok (.if_icmp .gt 25, 3) := by decide +kernel
theorem dX4_digestWithRow_56 : decode cX4_digestWithRow 56 = .ok (.lload 4, 2) := by decide +kernel
theorem dX4_digestWithRow_58 : decode cX4_digestWithRow 58 = .ok (.aload_n 0, 1) := by decide +kernel
theorem dX4_digestWithRow_59 : decode cX4_digestWithRow 59 = .ok (.iload_n 3, 1) := by decide +kernel
theorem dX4_digestWithRow_60 : decode cX4_digestWithRow 60 = .ok (.iload 6, 2) := by decide +kernel
theorem dX4_digestWithRow_62 : decode cX4_digestWithRow 62 = .ok (.iload 7, 2) := by decide +kernel
theorem dX4_digestWithRow_64 : decode cX4_digestWithRow 64 = .ok (.invokevirtual 150, 3) := by decide +kernel
theorem dX4_digestWithRow_67 : decode cX4_digestWithRow 67 = .ok (.invokestatic 199, 3) := by decide +kernel
theorem dX4_digestWithRow_70 : decode cX4_digestWithRow 70 = .ok (.lstore 4, 2) := by decide +kernel
theorem dX4_digestWithRow_72 : decode cX4_digestWithRow 72 = .ok (.iinc 7 1, 3) := by decide +kernel
theorem dX4_digestWithRow_75 : decode cX4_digestWithRow 75 = .ok (.goto (-25), 3) := by decide +kernel
theorem dX4_digestWithRow_78 : decode cX4_digestWithRow 78 = .ok (.iinc 6 1, 3) := by decide +kernel
theorem dX4_digestWithRow_81 : decode cX4_digestWithRow 81 = .ok (.goto (-46), 3) := by decide +kernel
theorem dX4_digestWithRow_84 : decode cX4_digestWithRow 84 = .ok (.lload 4, 2) := by decide +kernel
theorem dX4_digestWithRow_86 : decode cX4_digestWithRow 86 = .ok (.lreturn, 1) := by decide +kernel
set_option maxRecDepth 20000 in
theorem ggX4_digestWithPage_X4_factOfPage : GoodIn wsX4_digestWithPage wsX4_factOfPage := goodIn_r _ [7, 2, 1, 8, 9, 10, 11, 12, 13, 14, 15, 16, 17, 18, 19, 20, 21, 22, 23, 24, 25, 42, 43, 44, 45, 46, 47, 48, 49, 59, 60, 61, 62, 63, 64, 65, 66, 67, 68, 69, 70, 71, 72, 73, 74, 75, 50, 51, 52, 53, 54, 55, 56, 57, 58, 76, 77, 78, 79, 80, 81, 82, 83] (by decide +kernel) (by decide +kernel)
set_option maxRecDepth 20000 in
theorem gX4_digestWithPage_X4_factOfPage : GoodIn wsX4_digestWithPage (wsV RX4 163 RX4 yX4_factOfPage wsX4_factOfPage) := goodIn_app (goodIn_of _ (by decide +kernel)) ggX4_digestWithPage_X4_factOfPage
set_option maxRecDepth 20000 in
theorem ggX4_digestWithPage_X4_digestWith : GoodIn wsX4_digestWithPage wsX4_digestWith := goodIn_r _ [28, 29] (by decide +kernel) (by decide +kernel)
set_option maxRecDepth 20000 in
theorem gX4_digestWithPage_X4_digestWith : GoodIn wsX4_digestWithPage (va_wsS RX4 199 yX4_digestWith wsX4_digestWith) := goodIn_app (goodIn_of _ (by decide +kernel)) ggX4_digestWithPage_X4_digestWith
set_option maxRecDepth 20000 in
theorem ggX4_digestWithPage_X2_chosen : GoodIn wsX4_digestWithPage wsX2_chosen := goodIn_r _ [12, 13, 14, 15, 73, 74, 75] (by decide +kernel) (by decide +kernel)
set_option maxRecDepth 20000 in
theorem gX4_digestWithPage_X2_chosen : GoodIn wsX4_digestWithPage (wsV RX4 143 RX2 yX2_chosen wsX2_chosen) := goodIn_app (goodIn_of _ (by decide +kernel)) ggX4_digestWithPage_X2_chosen
set_option maxRecDepth 20000 in
theorem ggX4_digestWithPage_X0_carriedOn : GoodIn wsX4_digestWithPage wsX0_carriedOn := goodIn_r _ [33, 34, 35, 36, 37, 38, 39, 40, 41, 59, 60, 61, 62, 63, 64, 65, 66, 67, 68, 69, 70, 71, 72, 50, 51, 52, 53, 54, 55, 56, 57, 58, 76, 77, 78, 79, 80, 81, 82, 83] (by decide +kernel) (by decide +kernel)
set_option maxRecDepth 20000 in
theorem gX4_digestWithPage_X0_carriedOn : GoodIn wsX4_digestWithPage (wsV RX4 166 RX0 yX0_carriedOn wsX0_carriedOn) := goodIn_app (goodIn_of _ (by decide +kernel)) ggX4_digestWithPage_X0_carriedOn
theorem dX4_digestWithPage_0 : decode cX4_digestWithPage 0 = .ok (.lload_n 1, 1) := by decide +kernel
theorem dX4_digestWithPage_1 : decode cX4_digestWithPage 1 = .ok (.lstore 4, 2) := by decide +kernel
theorem dX4_digestWithPage_3 : decode cX4_digestWithPage 3 = .ok (.iconst 0, 1) := by decide +kernel
theorem dX4_digestWithPage_4 : decode cX4_digestWithPage 4 = .ok (.istore 6, 2) := by decide +kernel
theorem dX4_digestWithPage_6 : decode cX4_digestWithPage 6 = .ok (.iload 6, 2) := by decide +kernel
theorem dX4_digestWithPage_8 : decode cX4_digestWithPage 8 = .ok (.iconst 4, 1) := by decide +kernel
theorem dX4_digestWithPage_9 : decode cX4_digestWithPage 9 = .ok (.if_icmp .gt 23, 3) := by decide +kernel
theorem dX4_digestWithPage_12 : decode cX4_digestWithPage 12 = .ok (.lload 4, 2) := by decide +kernel
theorem dX4_digestWithPage_14 : decode cX4_digestWithPage 14 = .ok (.aload_n 0, 1) := by decide +kernel
theorem dX4_digestWithPage_15 : decode cX4_digestWithPage 15 = .ok (.iload_n 3, 1) := by decide +kernel
theorem dX4_digestWithPage_16 : decode cX4_digestWithPage 16 = .ok (.iload 6, 2) := by decide +kernel
theorem dX4_digestWithPage_18 : decode cX4_digestWithPage 18 = .ok (.invokevirtual 163, 3) := by decide +kernel
theorem dX4_digestWithPage_21 : decode cX4_digestWithPage 21 = .ok (.invokestatic 199, 3) := by decide +kernel
theorem dX4_digestWithPage_24 : decode cX4_digestWithPage 24 = .ok (.lstore 4, 2) := by decide +kernel
theorem dX4_digestWithPage_26 : decode cX4_digestWithPage 26 = .ok (.iinc 6 1, 3) := by decide +kernel
theorem dX4_digestWithPage_29 : decode cX4_digestWithPage 29 = .ok (.goto (-23), 3) := by decide +kernel
theorem dX4_digestWithPage_32 : decode cX4_digestWithPage 32 = .ok (.iconst 0, 1) := by decide +kernel
theorem dX4_digestWithPage_33 : decode cX4_digestWithPage 33 = .ok (.istore 6, 2) := by decide +kernel
theorem dX4_digestWithPage_35 : decode cX4_digestWithPage 35 = .ok (.iload 6, 2) := by decide +kernel
theorem dX4_digestWithPage_37 : decode cX4_digestWithPage 37 = .ok (.aload_n 0, 1) := by decide +kernel
theorem dX4_digestWithPage_38 : decode cX4_digestWithPage 38 = .ok (.getfield 12, 3) := by decide +kernel
theorem dX4_digestWithPage_41 : decode cX4_digestWithPage 41 = .ok (.getfield 119, 3) := by decide +kernel
theorem dX4_digestWithPage_44 : decode cX4_digestWithPage 44 = .ok (.if_icmp .ge 33, 3) := by decide +kernel
theorem dX4_digestWithPage_47 : decode cX4_digestWithPage 47 = .ok (.lload 4, 2) := by decide +kernel
theorem dX4_digestWithPage_49 : decode cX4_digestWithPage 49 = .ok (.aload_n 0, 1) := by decide +kernel
theorem dX4_digestWithPage_50 : decode cX4_digestWithPage 50 = .ok (.getfield 19, 3) := by decide +kernel
theorem dX4_digestWithPage_53 : decode cX4_digestWithPage 53 = .ok (.invokevirtual 143, 3) := by decide +kernel
theorem dX4_digestWithPage_56 : decode cX4_digestWithPage 56 = .ok (.aload_n 0, 1) := by decide +kernel
theorem dX4_digestWithPage_57 : decode cX4_digestWithPage 57 = .ok (.getfield 12, 3) := by decide +kernel
theorem dX4_digestWithPage_60 : decode cX4_digestWithPage 60 = .ok (.iload_n 3, 1) := by decide +kernel
theorem dX4_digestWithPage_61 : decode cX4_digestWithPage 61 = .ok (.iload 6, 2) := by decide +kernel
theorem dX4_digestWithPage_63 : decode cX4_digestWithPage 63 = .ok (.invokevirtual 166, 3) := by decide +kernel
theorem dX4_digestWithPage_66 : decode cX4_digestWithPage 66 = .ok (.invokestatic 199, 3) := by decide +kernel
theorem dX4_digestWithPage_69 : decode cX4_digestWithPage 69 = .ok (.lstore 4, 2) := by decide +kernel
theorem dX4_digestWithPage_71 : decode cX4_digestWithPage 71 = .ok (.iinc 6 1, 3) := by decide +kernel
theorem dX4_digestWithPage_74 : decode cX4_digestWithPage 74 = .ok (.goto (-39), 3) := by decide +kernel
theorem dX4_digestWithPage_77 : decode cX4_digestWithPage 77 = .ok (.lload 4, 2) := by decide +kernel
theorem dX4_digestWithPage_79 : decode cX4_digestWithPage 79 = .ok (.lreturn, 1) := by decide +kernel
theorem dJ9_max_7cf53_0 : decode cJ9_max_7cf53 0 = .ok (.iload_n 0, 1) := by decide +kernel
theorem dJ9_max_7cf53_1 : decode cJ9_max_7cf53 1 = .ok (.iload_n 1, 1) := by decide +kernel
theorem dJ9_max_7cf53_2 : decode cJ9_max_7cf53 2 = .ok (.if_icmp .lt 7, 3) := by decide +kernel
theorem dJ9_max_7cf53_5 : decode cJ9_max_7cf53 5 = .ok (.iload_n 0, 1) := by decide +kernel
theorem dJ9_max_7cf53_6 : decode cJ9_max_7cf53 6 = .ok (.goto 4, 3) := by decide +kernel
theorem dJ9_max_7cf53_9 : decode cJ9_max_7cf53 9 = .ok (.iload_n 1, 1) := by decide +kernel
theorem dJ9_max_7cf53_10 : decode cJ9_max_7cf53 10 = .ok (.ireturn, 1) := by decide +kernel
theorem dJ9_max_f86c9_0 : decode cJ9_max_f86c9 0 = .ok (.lload_n 0, 1) := by decide +kernel
theorem dJ9_max_f86c9_1 : decode cJ9_max_f86c9 1 = .ok (.lload_n 2, 1) := by decide +kernel
theorem dJ9_max_f86c9_2 : decode cJ9_max_f86c9 2 = .ok (.lcmp, 1) := by decide +kernel
theorem dJ9_max_f86c9_3 : decode cJ9_max_f86c9 3 = .ok (.ifCond .lt 7, 3) := by decide +kernel
theorem dJ9_max_f86c9_6 : decode cJ9_max_f86c9 6 = .ok (.lload_n 0, 1) := by decide +kernel
theorem dJ9_max_f86c9_7 : decode cJ9_max_f86c9 7 = .ok (.goto 4, 3) := by decide +kernel
theorem dJ9_max_f86c9_10 : decode cJ9_max_f86c9 10 = .ok (.lload_n 2, 1) := by decide +kernel
theorem dJ9_max_f86c9_11 : decode cJ9_max_f86c9 11 = .ok (.lreturn, 1) := by decide +kernel
theorem dJ9_min_7cf53_0 : decode cJ9_min_7cf53 0 = .ok (.iload_n 0, 1) := by decide +kernel
theorem dJ9_min_7cf53_1 : decode cJ9_min_7cf53 1 = .ok (.iload_n 1, 1) := by decide +kernel
theorem dJ9_min_7cf53_2 : decode cJ9_min_7cf53 2 = .ok (.if_icmp .gt 7, 3) := by decide +kernel
theorem dJ9_min_7cf53_5 : decode cJ9_min_7cf53 5 = .ok (.iload_n 0, 1) := by decide +kernel
theorem dJ9_min_7cf53_6 : decode cJ9_min_7cf53 6 = .ok (.goto 4, 3) := by decide +kernel
theorem dJ9_min_7cf53_9 : decode cJ9_min_7cf53 9 = .ok (.iload_n 1, 1) := by decide +kernel
theorem dJ9_min_7cf53_10 : decode cJ9_min_7cf53 10 = .ok (.ireturn, 1) := by decide +kernel
theorem dJ9_min_f86c9_0 : decode cJ9_min_f86c9 0 = .ok (.lload_n 0, 1) := by decide +kernel
theorem dJ9_min_f86c9_1 : decode cJ9_min_f86c9 1 = .ok (.lload_n 2, 1) := by decide +kernel
theorem dJ9_min_f86c9_2 : decode cJ9_min_f86c9 2 = .ok (.lcmp, 1) := by decide +kernel
theorem dJ9_min_f86c9_3 : decode cJ9_min_f86c9 3 = .ok (.ifCond .gt 7, 3) := by decide +kernel
theorem dJ9_min_f86c9_6 : decode cJ9_min_f86c9 6 = .ok (.lload_n 0, 1) := by decide +kernel
theorem dJ9_min_f86c9_7 : decode cJ9_min_f86c9 7 = .ok (.goto 4, 3) := by decide +kernel
theorem dJ9_min_f86c9_10 : decode cJ9_min_f86c9 10 = .ok (.lload_n 2, 1) := by decide +kernel
theorem dJ9_min_f86c9_11 : decode cJ9_min_f86c9 11 = .ok (.lreturn, 1) := by decide +kernel
theorem dL_below_0 : decode cL_below 0 = .ok (.iload_n 0, 1) := by decide +kernel
theorem dL_below_1 : decode cL_below 1 = .ok (.ldc 7, 2) := by decide +kernel
theorem dL_below_3 : decode cL_below 3 = .ok (.iand, 1) := by decide +kernel
theorem dL_below_4 : decode cL_below 4 = .ok (.iload_n 1, 1) := by decide +kernel
theorem dL_below_5 : decode cL_below 5 = .ok (.irem, 1) := by decide +kernel
theorem dL_below_6 : decode cL_below 6 = .ok (.ireturn, 1) := by decide +kernel
theorem dL_cell_0 : decode cL_cell 0 = .ok (.iload_n 1, 1) := by decide +kernel
theorem dL_cell_1 : decode cL_cell 1 = .ok (.aload_n 0, 1) := by decide +kernel
theorem dL_cell_2 : decode cL_cell 2 = .ok (.arraylength, 1) := by decide +kernel
theorem dL_cell_3 : decode cL_cell 3 = .ok (.if_icmp .ge 9, 3) := by decide +kernel
theorem dL_cell_6 : decode cL_cell 6 = .ok (.aload_n 0, 1) := by decide +kernel
theorem dL_cell_7 : decode cL_cell 7 = .ok (.iload_n 1, 1) := by decide +kernel
theorem dL_cell_8 : decode cL_cell 8 = .ok (.iaload, 1) := by decide +kernel
theorem dL_cell_9 : decode cL_cell 9 = .ok (.goto 9, 3) := by decide +kernel
theorem dL_cell_12 : decode cL_cell 12 = .ok (.ldc 8, 2) := by decide +kernel
theorem dL_cell_14 : decode cL_cell 14 = .ok (.iload_n 1, 1) := by decide +kernel
theorem dL_cell_15 : decode cL_cell 15 = .ok (.iconst 3, 1) := by decide +kernel
theorem dL_cell_16 : decode cL_cell 16 = .ok (.iadd, 1) := by decide +kernel
theorem dL_cell_17 : decode cL_cell 17 = .ok (.imul, 1) := by decide +kernel
theorem dL_cell_18 : decode cL_cell 18 = .ok (.ireturn, 1) := by decide +kernel
