theorem dX9_sort_99 : decode cX9_sort 99 = .ok (.iconst 1, 1) := by decide +kernel
theorem dX9_sort_100 : decode cX9_sort 100 = .ok (.isub, 1) := by decide +kernel
theorem dX9_sort_101 : decode cX9_sort 101 = .ok (.iaload, 1) := by decide +kernel
theorem dX9_sort_102 : decode cX9_sort 102 = .ok (.iastore, 1) := by decide +kernel
theorem dX9_sort_103 : decode cX9_sort 103 = .ok (.iinc 4 (-1), 3) := by decide +kernel
theorem dX9_sort_106 : decode cX9_sort 106 = .ok (.goto (-79), 3) := by decide +kernel
theorem dX9_sort_109 : decode cX9_sort 109 = .ok (.aload_n 0, 1) := by decide +kernel
theorem dX9_sort_110 : decode cX9_sort 110 = .ok (.getfield 169, 3) := by decide +kernel
theorem dX9_sort_113 : decode cX9_sort 113 = .ok (.iload 4, 2) := by decide +kernel
theorem dX9_sort_115 : decode cX9_sort 115 = .ok (.iload_n 2, 1) := by decide +kernel
theorem dX9_sort_116 : decode cX9_sort 116 = .ok (.iastore, 1) := by decide +kernel
theorem dX9_sort_117 : decode cX9_sort 117 = .ok (.aload_n 0, 1) := by decide +kernel
theorem dX9_sort_118 : decode cX9_sort 118 = .ok (.getfield 172, 3) := by decide +kernel
theorem dX9_sort_121 : decode cX9_sort 121 = .ok (.iload 4, 2) := by decide +kernel
theorem dX9_sort_123 : decode cX9_sort 123 = .ok (.iload_n 3, 1) := by decide +kernel
theorem dX9_sort_124 : decode cX9_sort 124 = .ok (.iastore, 1) := by decide +kernel
theorem dX9_sort_125 : decode cX9_sort 125 = .ok (.iinc 1 1, 3) := by decide +kernel
theorem dX9_sort_128 : decode cX9_sort 128 = .ok (.goto (-126), 3) := by decide +kernel
theorem dX9_sort_131 : decode cX9_sort 131 = .ok (.return_, 1) := by decide +kernel
set_option maxRecDepth 20000 in
theorem ggX9_note_X9_isIn : GoodIn wsX9_note wsX9_isIn := goodIn_r _ [9] (by decide +kernel) (by decide +kernel)
set_option maxRecDepth 20000 in
theorem gX9_note_X9_isIn : GoodIn wsX9_note (va_wsS RX9 215 yX9_isIn wsX9_isIn) := goodIn_app (goodIn_of _ (by decide +kernel)) ggX9_note_X9_isIn
theorem dX9_note_0 : decode cX9_note 0 = .ok (.aload_n 0, 1) := by decide +kernel
theorem dX9_note_1 : decode cX9_note 1 = .ok (.getfield 202, 3) := by decide +kernel
theorem dX9_note_4 : decode cX9_note 4 = .ok (.aload_n 0, 1) := by decide +kernel
theorem dX9_note_5 : decode cX9_note 5 = .ok (.getfield 194, 3) := by decide +kernel
theorem dX9_note_8 : decode cX9_note 8 = .ok (.if_icmp .ge 15, 3) := by decide +kernel
theorem dX9_note_11 : decode cX9_note 11 = .ok (.aload_n 0, 1) := by decide +kernel
theorem dX9_note_12 : decode cX9_note 12 = .ok (.getfield 166, 3) := by decide +kernel
theorem dX9_note_15 : decode cX9_note 15 = .ok (.aload_n 0, 1) := by decide +kernel
theorem dX9_note_16 : decode cX9_note 16 = .ok (.getfield 202, 3) := by decide +kernel
theorem dX9_note_19 : decode cX9_note 19 = .ok (.baload, 1) := by decide +kernel
theorem dX9_note_20 : decode cX9_note 20 = .ok (.goto 4, 3) := by decide +kernel
theorem dX9_note_23 : decode cX9_note 23 = .ok (.iconst 0, 1) := by decide +kernel
theorem dX9_note_24 : decode cX9_note 24 = .ok (.istore_n 1, 1) := by decide +kernel
theorem dX9_note_25 : decode cX9_note 25 = .ok (.iload_n 1, 1) := by decide +kernel
theorem dX9_note_26 : decode cX9_note 26 = .ok (.bipush 65, 2) := by decide +kernel
theorem dX9_note_28 : decode cX9_note 28 = .ok (.bipush 71, 2) := by decide +kernel
theorem dX9_note_30 : decode cX9_note 30 = .ok (.invokestatic 215, 3) := by decide +kernel
theorem dX9_note_33 : decode cX9_note 33 = .ok (.ifCond .ne 5, 3) := by decide +kernel
theorem dX9_note_36 : decode cX9_note 36 = .ok (.iconst 0, 1) := by decide +kernel
theorem dX9_note_37 : decode cX9_note 37 = .ok (.ireturn, 1) := by decide +kernel
theorem dX9_note_38 : decode cX9_note 38 = .ok (.aload_n 0, 1) := by decide +kernel
theorem dX9_note_39 : decode cX9_note 39 = .ok (.iload_n 1, 1) := by decide +kernel
theorem dX9_note_40 : decode cX9_note 40 = .ok (.bipush 67, 2) := by decide +kernel
theorem dX9_note_42 : decode cX9_note 42 = .ok (.isub, 1) := by decide +kernel
theorem dX9_note_43 : decode cX9_note 43 = .ok (.bipush 7, 2) := by decide +kernel
theorem dX9_note_45 : decode cX9_note 45 = .ok (.iadd, 1) := by decide +kernel
theorem dX9_note_46 : decode cX9_note 46 = .ok (.bipush 7, 2) := by decide +kernel
theorem dX9_note_48 : decode cX9_note 48 = .ok (.irem, 1) := by decide +kernel
theorem dX9_note_49 : decode cX9_note 49 = .ok (.putfield 255, 3) := by decide +kernel
theorem dX9_note_52 : decode cX9_note 52 = .ok (.aload_n 0, 1) := by decide +kernel
theorem dX9_note_53 : decode cX9_note 53 = .ok (.dup, 1) := by decide +kernel
theorem dX9_note_54 : decode cX9_note 54 = .ok (.getfield 202, 3) := by decide +kernel
theorem dX9_note_57 : decode cX9_note 57 = .ok (.iconst 1, 1) := by decide +kernel
theorem dX9_note_58 : decode cX9_note 58 = .ok (.iadd, 1) := by decide +kernel
theorem dX9_note_59 : decode cX9_note 59 = .ok (.putfield 202, 3) := by decide +kernel
theorem dX9_note_62 : decode cX9_note 62 = .ok (.aload_n 0, 1) := by decide +kernel
theorem dX9_note_63 : decode cX9_note 63 = .ok (.iconst 0, 1) := by decide +kernel
theorem dX9_note_64 : decode cX9_note 64 = .ok (.putfield 258, 3) := by decide +kernel
theorem dX9_note_67 : decode cX9_note 67 = .ok (.aload_n 0, 1) := by decide +kernel
theorem dX9_note_68 : decode cX9_note 68 = .ok (.getfield 202, 3) := by decide +kernel
theorem dX9_note_71 : decode cX9_note 71 = .ok (.aload_n 0, 1) := by decide +kernel
theorem dX9_note_72 : decode cX9_note 72 = .ok (.getfield 194, 3) := by decide +kernel
theorem dX9_note_75 : decode cX9_note 75 = .ok (.if_icmp .ge 15, 3) := by decide +kernel
theorem dX9_note_78 : decode cX9_note 78 = .ok (.aload_n 0, 1) := by decide +kernel
theorem dX9_note_79 : decode cX9_note 79 = .ok (.getfield 166, 3) := by decide +kernel
theorem dX9_note_82 : decode cX9_note 82 = .ok (.aload_n 0, 1) := by decide +kernel
theorem dX9_note_83 : decode cX9_note 83 = .ok (.getfield 202, 3) := by decide +kernel
theorem dX9_note_86 : decode cX9_note 86 = .ok (.baload, 1) := by decide +kernel
theorem dX9_note_87 : decode cX9_note 87 = .ok (.goto 4, 3) := by decide +kernel
theorem dX9_note_90 : decode cX9_note 90 = .ok (.iconst 0, 1) := by decide +kernel
theorem dX9_note_91 : decode cX9_note 91 = .ok (.istore_n 2, 1) := by decide +kernel
theorem dX9_note_92 : decode cX9_note 92 = .ok (.aload_n 0, 1) := by decide +kernel
theorem dX9_note_93 : decode cX9_note 93 = .ok (.getfield 258, 3) := by decide +kernel
theorem dX9_note_96 : decode cX9_note 96 = .ok (.bipush (-2), 2) := by decide +kernel
theorem dX9_note_98 : decode cX9_note 98 = .ok (.if_icmp .le 80, 3) := by decide +kernel
theorem dX9_note_101 : decode cX9_note 101 = .ok (.aload_n 0, 1) := by decide +kernel
theorem dX9_note_102 : decode cX9_note 102 = .ok (.getfield 258, 3) := by decide +kernel
theorem dX9_note_105 : decode cX9_note 105 = .ok (.iconst 2, 1) := by decide +kernel
theorem dX9_note_106 : decode cX9_note 106 = .ok (.if_icmp .ge 72, 3) := by decide +kernel
theorem dX9_note_109 : decode cX9_note 109 = .ok (.aload_n 0, 1) := by decide +kernel
theorem dX9_note_110 : decode cX9_note 110 = .ok (.getfield 202, 3) := by decide +kernel
theorem dX9_note_113 : decode cX9_note 113 = .ok (.aload_n 0, 1) := by decide +kernel
theorem dX9_note_114 : decode cX9_note 114 = .ok (.getfield 194, 3) := by decide +kernel
theorem dX9_note_117 : decode cX9_note 117 = .ok (.if_icmp .ge 61, 3) := by decide +kernel
theorem dX9_note_120 : decode cX9_note 120 = .ok (.iload_n 2, 1) := by decide +kernel
theorem dX9_note_121 : decode cX9_note 121 = .ok (.bipush 35, 2) := by decide +kernel
theorem dX9_note_123 : decode cX9_note 123 = .ok (.if_icmp .eq 9, 3) := by decide +kernel
theorem dX9_note_126 : decode cX9_note 126 = .ok (.iload_n 2, 1) := by decide +kernel
theorem dX9_note_127 : decode cX9_note 127 = .ok (.bipush 98, 2) := by decide +kernel
theorem dX9_note_129 : decode cX9_note 129 = .ok (.if_icmp .ne 49, 3) := by decide +kernel
theorem dX9_note_132 : decode cX9_note 132 = .ok (.aload_n 0, 1) := by decide +kernel
theorem dX9_note_133 : decode cX9_note 133 = .ok (.getfield 166, 3) := by decide +kernel
theorem dX9_note_136 : decode cX9_note 136 = .ok (.aload_n 0, 1) := by decide +kernel
theorem dX9_note_137 : decode cX9_note 137 = .ok (.getfield 202, 3) := by decide +kernel
theorem dX9_note_140 : decode cX9_note 140 = .ok (.baload, 1) := by decide +kernel
theorem dX9_note_141 : decode cX9_note 141 = .ok (.iload_n 2, 1) := by decide +kernel
theorem dX9_note_142 : decode cX9_note 142 = .ok (.if_icmp .ne 36, 3) := by decide +kernel
theorem dX9_note_145 : decode cX9_note 145 = .ok (.aload_n 0, 1) := by decide +kernel
theorem dX9_note_146 : decode cX9_note 146 = .ok (.dup, 1) := by decide +kernel
theorem dX9_note_147 : decode cX9_note 147 = .ok (.getfield 258, 3) := by decide +kernel
theorem dX9_note_150 : decode cX9_note 150 = .ok (.iload_n 2, 1) := by decide +kernel
theorem dX9_note_151 : decode cX9_note 151 = .ok (.bipush 35, 2) := by decide +kernel
theorem dX9_note_153 : decode cX9_note 153 = .ok (.if_icmp .ne 7, 3) := by decide +kernel
theorem dX9_note_156 : decode cX9_note 156 = .ok (.iconst 1, 1) := by decide +kernel
theorem dX9_note_157 : decode cX9_note 157 = .ok (.goto 4, 3) := by decide +kernel
theorem dX9_note_160 : decode cX9_note 160 = .ok (.iconst (-1), 1) := by decide +kernel
theorem dX9_note_161 : decode cX9_note 161 = .ok (.iadd, 1) := by decide +kernel
theorem dX9_note_162 : decode cX9_note 162 = .ok (.putfield 258, 3) := by decide +kernel
theorem dX9_note_165 : decode cX9_note 165 = .ok (.aload_n 0, 1) := by decide +kernel
theorem dX9_note_166 : decode cX9_note 166 = .ok (.dup, 1) := by decide +kernel
theorem dX9_note_167 : decode cX9_note 167 = .ok (.getfield 202, 3) := by decide +kernel
theorem dX9_note_170 : decode cX9_note 170 = .ok (.iconst 1, 1) := by decide +kernel
theorem dX9_note_171 : decode cX9_note 171 = .ok (.iadd, 1) := by decide +kernel
theorem dX9_note_172 : decode cX9_note 172 = .ok (.putfield 202, 3) := by decide +kernel
theorem dX9_note_175 : decode cX9_note 175 = .ok (.goto (-83), 3) := by decide +kernel
theorem dX9_note_178 : decode cX9_note 178 = .ok (.iconst 1, 1) := by decide +kernel
theorem dX9_note_179 : decode cX9_note 179 = .ok (.ireturn, 1) := by decide +kernel
set_option maxRecDepth 20000 in
theorem ggX9_chord_X9_note : GoodIn wsX9_chord wsX9_note := goodIn_r _ [19, 5, 2, 3, 6, 7, 20, 21, 18, 22, 81, 82, 83, 84, 85, 86, 87, 88, 89, 90, 91, 92, 93, 94, 95, 96, 97, 98, 99, 100, 101, 102, 103, 104, 105, 106, 107, 108, 109, 110, 111, 112, 113, 114, 115, 116] (by decide +kernel) (by decide +kernel)
set_option maxRecDepth 20000 in
theorem gX9_chord_X9_note : GoodIn wsX9_chord (wsV RX9 261 RX9 yX9_note wsX9_note) := goodIn_app (goodIn_of _ (by decide +kernel)) ggX9_chord_X9_note
set_option maxRecDepth 20000 in
theorem ggX9_chord_X9_readBody : GoodIn wsX9_chord wsX9_readBody := goodIn_r _ [26, 9, 27, 5, 2, 3, 28, 29, 30, 31, 32, 18, 33, 13, 11, 34, 35, 36, 37, 38, 39, 40, 41, 42, 43, 44, 45, 46, 47, 20, 21, 22, 48, 49, 50, 51, 52, 53, 54, 55, 56, 57, 58, 59, 60, 61, 62, 63, 64, 65, 66, 67, 68, 69, 70, 71, 81, 82, 83, 84, 85, 86, 87, 88, 89, 90, 91, 92, 93, 94, 95, 96, 97, 98, 99, 100, 101, 102, 103, 104, 105, 106, 107, 108, 109, 110, 111, 112, 113, 114, 115, 116] (by decide +kernel) (by decide +kernel)
set_option maxRecDepth 20000 in
theorem gX9_chord_X9_readBody : GoodIn wsX9_chord (wsV RX9 205 RX9 yX9_readBody wsX9_readBody) := goodIn_app (goodIn_of _ (by decide +kernel)) ggX9_chord_X9_readBody
set_option maxRecDepth 20000 in
theorem ggX9_chord_X9_sort : GoodIn wsX9_chord wsX9_sort := goodIn_r _ [75, 9, 11, 13, 81, 82, 83, 84, 85, 86, 87, 88, 89, 90, 91, 92, 93, 94, 95, 96, 97, 98, 99, 100, 101, 102, 103, 104, 105, 106, 107, 108, 109, 110, 111, 112, 113, 114, 115, 116] (by decide +kernel) (by decide +kernel)
set_option maxRecDepth 20000 in
theorem gX9_chord_X9_sort : GoodIn wsX9_chord (wsV RX9 209 RX9 yX9_sort wsX9_sort) := goodIn_app (goodIn_of _ (by decide +kernel)) ggX9_chord_X9_sort
set_option maxRecDepth 20000 in
theorem ggX9_chord_X9_laid : GoodIn wsX9_chord wsX9_laid := goodIn_r _ [79, 8, 80, 81, 82, 83, 84, 85, 86, 87, 88, 89, 90, 91, 92, 93, 94, 95, 96, 97, 98, 99, 100, 101, 102, 103, 104, 105, 106, 107, 108, 109, 110, 111, 112, 113, 114, 115, 116] (by decide +kernel) (by decide +kernel)
set_option maxRecDepth 20000 in
theorem gX9_chord_X9_laid : GoodIn wsX9_chord (wsV RX9 268 RX9 yX9_laid wsX9_laid) := goodIn_app (goodIn_of _ (by decide +kernel)) ggX9_chord_X9_laid
theorem dX9_chord_0 : decode cX9_chord 0 = .ok (.aload_n 0, 1) := by decide +kernel
theorem dX9_chord_1 : decode cX9_chord 1 = .ok (.aload_n 0, 1) := by decide +kernel
theorem dX9_chord_2 : decode cX9_chord 2 = .ok (.getfield 219, 3) := by decide +kernel
theorem dX9_chord_5 : decode cX9_chord 5 = .ok (.putfield 194, 3) := by decide +kernel
theorem dX9_chord_8 : decode cX9_chord 8 = .ok (.iconst 0, 1) := by decide +kernel
theorem dX9_chord_9 : decode cX9_chord 9 = .ok (.istore_n 1, 1) := by decide +kernel
theorem dX9_chord_10 : decode cX9_chord 10 = .ok (.iload_n 1, 1) := by decide +kernel
theorem dX9_chord_11 : decode cX9_chord 11 = .ok (.aload_n 0, 1) := by decide +kernel
theorem dX9_chord_12 : decode cX9_chord 12 = .ok (.getfield 219, 3) := by decide +kernel
theorem dX9_chord_15 : decode cX9_chord 15 = .ok (.if_icmp .ge 21, 3) := by decide +kernel
theorem dX9_chord_18 : decode cX9_chord 18 = .ok (.aload_n 0, 1) := by decide +kernel
theorem dX9_chord_19 : decode cX9_chord 19 = .ok (.getfield 166, 3) := by decide +kernel
theorem dX9_chord_22 : decode cX9_chord 22 = .ok (.iload_n 1, 1) := by decide +kernel
theorem dX9_chord_23 : decode cX9_chord 23 = .ok (.aload_n 0, 1) := by decide +kernel
theorem dX9_chord_24 : decode cX9_chord 24 = .ok (.getfield 7, 3) := by decide +kernel
theorem dX9_chord_27 : decode cX9_chord 27 = .ok (.iload_n 1, 1) := by decide +kernel
theorem dX9_chord_28 : decode cX9_chord 28 = .ok (.baload, 1) := by decide +kernel
theorem dX9_chord_29 : decode cX9_chord 29 = .ok (.bastore, 1) := by decide +kernel
theorem dX9_chord_30 : decode cX9_chord 30 = .ok (.iinc 1 1, 3) := by decide +kernel
theorem dX9_chord_33 : decode cX9_chord 33 = .ok (.goto (-23), 3) := by decide +kernel
theorem dX9_chord_36 : decode cX9_chord 36 = .ok (.aload_n 0, 1) := by decide +kernel
theorem dX9_chord_37 : decode cX9_chord 37 = .ok (.iconst 0, 1) := by decide +kernel
theorem dX9_chord_38 : decode cX9_chord 38 = .ok (.putfield 219, 3) := by decide +kernel
theorem dX9_chord_41 : decode cX9_chord 41 = .ok (.aload_n 0, 1) := by decide +kernel
theorem dX9_chord_42 : decode cX9_chord 42 = .ok (.iconst 0, 1) := by decide +kernel
theorem dX9_chord_43 : decode cX9_chord 43 = .ok (.putfield 202, 3) := by decide +kernel
theorem dX9_chord_46 : decode cX9_chord 46 = .ok (.aload_n 0, 1) := by decide +kernel
theorem dX9_chord_47 : decode cX9_chord 47 = .ok (.invokevirtual 261, 3) := by decide +kernel
theorem dX9_chord_50 : decode cX9_chord 50 = .ok (.ifCond .ne 11, 3) := by decide +kernel
theorem dX9_chord_53 : decode cX9_chord 53 = .ok (.bipush (-10), 2) := by decide +kernel
theorem dX9_chord_55 : decode cX9_chord 55 = .ok (.aload_n 0, 1) := by decide +kernel
theorem dX9_chord_56 : decode cX9_chord 56 = .ok (.getfield 202, 3) := by decide +kernel
theorem dX9_chord_59 : decode cX9_chord 59 = .ok (.isub, 1) := by decide +kernel
theorem dX9_chord_60 : decode cX9_chord 60 = .ok (.ireturn, 1) := by decide +kernel
theorem dX9_chord_61 : decode cX9_chord 61 = .ok (.aload_n 0, 1) := by decide +kernel
theorem dX9_chord_62 : decode cX9_chord 62 = .ok (.getfield 255, 3) := by decide +kernel
theorem dX9_chord_65 : decode cX9_chord 65 = .ok (.istore_n 1, 1) := by decide +kernel
theorem dX9_chord_66 : decode cX9_chord 66 = .ok (.aload_n 0, 1) := by decide +kernel
theorem dX9_chord_67 : decode cX9_chord 67 = .ok (.getfield 258, 3) := by decide +kernel
theorem dX9_chord_70 : decode cX9_chord 70 = .ok (.istore_n 2, 1) := by decide +kernel
theorem dX9_chord_71 : decode cX9_chord 71 = .ok (.aload_n 0, 1) := by decide +kernel
theorem dX9_chord_72 : decode cX9_chord 72 = .ok (.invokevirtual 205, 3) := by decide +kernel
theorem dX9_chord_75 : decode cX9_chord 75 = .ok (.istore_n 3, 1) := by decide +kernel
theorem dX9_chord_76 : decode cX9_chord 76 = .ok (.iload_n 3, 1) := by decide +kernel
theorem dX9_chord_77 : decode cX9_chord 77 = .ok (.bipush (-2), 2) := by decide +kernel
theorem dX9_chord_79 : decode cX9_chord 79 = .ok (.if_icmp .eq 8, 3) := by decide +kernel
theorem dX9_chord_82 : decode cX9_chord 82 = .ok (.bipush (-10), 2) := by decide +kernel
theorem dX9_chord_84 : decode cX9_chord 84 = .ok (.iload_n 3, 1) := by decide +kernel
theorem dX9_chord_85 : decode cX9_chord 85 = .ok (.isub, 1) := by decide +kernel
theorem dX9_chord_86 : decode cX9_chord 86 = .ok (.ireturn, 1) := by decide +kernel
theorem dX9_chord_87 : decode cX9_chord 87 = .ok (.aload_n 0, 1) := by decide +kernel
theorem dX9_chord_88 : decode cX9_chord 88 = .ok (.getfield 202, 3) := by decide +kernel
theorem dX9_chord_91 : decode cX9_chord 91 = .ok (.aload_n 0, 1) := by decide +kernel
theorem dX9_chord_92 : decode cX9_chord 92 = .ok (.getfield 194, 3) := by decide +kernel
theorem dX9_chord_95 : decode cX9_chord 95 = .ok (.if_icmp .ge 21, 3) := by decide +kernel
theorem dX9_chord_98 : decode cX9_chord 98 = .ok (.aload_n 0, 1) := by decide +kernel
theorem dX9_chord_99 : decode cX9_chord 99 = .ok (.getfield 166, 3) := by decide +kernel
theorem dX9_chord_102 : decode cX9_chord 102 = .ok (.aload_n 0, 1) := by decide +kernel
theorem dX9_chord_103 : decode cX9_chord 103 = .ok (.getfield 202, 3) := by decide +kernel
theorem dX9_chord_106 : decode cX9_chord 106 = .ok (.baload, 1) := by decide +kernel
theorem dX9_chord_107 : decode cX9_chord 107 = .ok (.bipush 47, 2) := by decide +kernel
theorem dX9_chord_109 : decode cX9_chord 109 = .ok (.if_icmp .ne 7, 3) := by decide +kernel
theorem dX9_chord_112 : decode cX9_chord 112 = .ok (.iconst 1, 1) := by decide +kernel
theorem dX9_chord_113 : decode cX9_chord 113 = .ok (.goto 4, 3) := by decide +kernel
theorem dX9_chord_116 : decode cX9_chord 116 = .ok (.iconst 0, 1) := by decide +kernel
theorem dX9_chord_117 : decode cX9_chord 117 = .ok (.istore 4, 2) := by decide +kernel
theorem dX9_chord_119 : decode cX9_chord 119 = .ok (.iload 4, 2) := by decide +kernel
theorem dX9_chord_121 : decode cX9_chord 121 = .ok (.ifCond .eq 28, 3) := by decide +kernel
theorem dX9_chord_124 : decode cX9_chord 124 = .ok (.aload_n 0, 1) := by decide +kernel
theorem dX9_chord_125 : decode cX9_chord 125 = .ok (.dup, 1) := by decide +kernel
theorem dX9_chord_126 : decode cX9_chord 126 = .ok (.getfield 202, 3) := by decide +kernel
theorem dX9_chord_129 : decode cX9_chord 129 = .ok (.iconst 1, 1) := by decide +kernel
theorem dX9_chord_130 : decode cX9_chord 130 = .ok (.iadd, 1) := by decide +kernel
theorem dX9_chord_131 : decode cX9_chord 131 = .ok (.putfield 202, 3) := by decide +kernel
theorem dX9_chord_134 : decode cX9_chord 134 = .ok (.aload_n 0, 1) := by decide +kernel
theorem dX9_chord_135 : decode cX9_chord 135 = .ok (.invokevirtual 261, 3) := by decide +kernel
theorem dX9_chord_138 : decode cX9_chord 138 = .ok (.ifCond .ne 21, 3) := by decide +kernel
theorem dX9_chord_141 : decode cX9_chord 141 = .ok (.bipush (-10), 2) := by decide +kernel
theorem dX9_chord_143 : decode cX9_chord 143 = .ok (.aload_n 0, 1) := by decide +kernel
theorem dX9_chord_144 : decode cX9_chord 144 = .ok (.getfield 202, 3) := by decide +kernel
theorem dX9_chord_147 : decode cX9_chord 147 = .ok (.isub, 1) := by decide +kernel
theorem dX9_chord_148 : decode cX9_chord 148 = .ok (.ireturn, 1) := by decide +kernel
theorem dX9_chord_149 : decode cX9_chord 149 = .ok (.aload_n 0, 1) := by decide +kernel
theorem dX9_chord_150 : decode cX9_chord 150 = .ok (.iload_n 1, 1) := by decide +kernel
theorem dX9_chord_151 : decode cX9_chord 151 = .ok (.putfield 255, 3) := by decide +kernel
theorem dX9_chord_154 : decode cX9_chord 154 = .ok (.aload_n 0, 1) := by decide +kernel
theorem dX9_chord_155 : decode cX9_chord 155 = .ok (.iload_n 2, 1) := by decide +kernel
theorem dX9_chord_156 : decode cX9_chord 156 = .ok (.putfield 258, 3) := by decide +kernel
theorem dX9_chord_159 : decode cX9_chord 159 = .ok (.aload_n 0, 1) := by decide +kernel
theorem dX9_chord_160 : decode cX9_chord 160 = .ok (.getfield 202, 3) := by decide +kernel
theorem dX9_chord_163 : decode cX9_chord 163 = .ok (.aload_n 0, 1) := by decide +kernel
theorem dX9_chord_164 : decode cX9_chord 164 = .ok (.getfield 194, 3) := by decide +kernel
theorem dX9_chord_167 : decode cX9_chord 167 = .ok (.if_icmp .ge 11, 3) := by decide +kernel
theorem dX9_chord_170 : decode cX9_chord 170 = .ok (.bipush (-10), 2) := by decide +kernel
theorem dX9_chord_172 : decode cX9_chord 172 = .ok (.aload_n 0, 1) := by decide +kernel
theorem dX9_chord_173 : decode cX9_chord 173 = .ok (.getfield 202, 3) := by decide +kernel
theorem dX9_chord_176 : decode cX9_chord 176 = .ok (.isub, 1) := by decide +kernel
theorem dX9_chord_177 : decode cX9_chord 177 = .ok (.ireturn, 1) := by decide +kernel
theorem dX9_chord_178 : decode cX9_chord 178 = .ok (.aload_n 0, 1) := by decide +kernel
theorem dX9_chord_179 : decode cX9_chord 179 = .ok (.getfield 265, 3) := by decide +kernel
theorem dX9_chord_182 : decode cX9_chord 182 = .ok (.bipush 100, 2) := by decide +kernel
theorem dX9_chord_184 : decode cX9_chord 184 = .ok (.if_icmp .ne 6, 3) := by decide +kernel
theorem dX9_chord_187 : decode cX9_chord 187 = .ok (.bipush (-3), 2) := by decide +kernel
theorem dX9_chord_189 : decode cX9_chord 189 = .ok (.ireturn, 1) := by decide +kernel
theorem dX9_chord_190 : decode cX9_chord 190 = .ok (.aload_n 0, 1) := by decide +kernel
theorem dX9_chord_191 : decode cX9_chord 191 = .ok (.invokevirtual 209, 3) := by decide +kernel
theorem dX9_chord_194 : decode cX9_chord 194 = .ok (.iconst 0, 1) := by decide +kernel
theorem dX9_chord_195 : decode cX9_chord 195 = .ok (.istore 5, 2) := by decide +kernel
theorem dX9_chord_197 : decode cX9_chord 197 = .ok (.iload 5, 2) := by decide +kernel
theorem dX9_chord_199 : decode cX9_chord 199 = .ok (.aload_n 0, 1) := by decide +kernel
theorem dX9_chord_200 : decode cX9_chord 200 = .ok (.getfield 212, 3) := by decide +kernel
theorem dX9_chord_203 : decode cX9_chord 203 = .ok (.if_icmp .ge 53, 3) := by decide +kernel
theorem dX9_chord_206 : decode cX9_chord 206 = .ok (.aload_n 0, 1) := by decide +kernel
theorem dX9_chord_207 : decode cX9_chord 207 = .ok (.getfield 17, 3) := by decide +kernel
theorem dX9_chord_210 : decode cX9_chord 210 = .ok (.bipush 16, 2) := by decide +kernel
theorem dX9_chord_212 : decode cX9_chord 212 = .ok (.aload_n 0, 1) := by decide +kernel
theorem dX9_chord_213 : decode cX9_chord 213 = .ok (.getfield 265, 3) := by decide +kernel
theorem dX9_chord_216 : decode cX9_chord 216 = .ok (.imul, 1) := by decide +kernel
theorem dX9_chord_217 : decode cX9_chord 217 = .ok (.iload 5, 2) := by decide +kernel
theorem dX9_chord_219 : decode cX9_chord 219 = .ok (.iadd, 1) := by decide +kernel
theorem dX9_chord_220 : decode cX9_chord 220 = .ok (.aload_n 0, 1) := by decide +kernel
theorem dX9_chord_221 : decode cX9_chord 221 = .ok (.getfield 169, 3) := by decide +kernel
theorem dX9_chord_224 : decode cX9_chord 224 = .ok (.iload 5, 2) := by decide +kernel
theorem dX9_chord_226 : decode cX9_chord 226 = .ok (.iaload, 1) := by decide +kernel
theorem dX9_chord_227 : decode cX9_chord 227 = .ok (.iastore, 1) := by decide +kernel
theorem dX9_chord_228 : decode cX9_chord 228 = .ok (.aload_n 0, 1) := by decide +kernel
theorem dX9_chord_229 : decode cX9_chord 229 = .ok (.getfield 20, 3) := by decide +kernel
theorem dX9_chord_232 : decode cX9_chord 232 = .ok (.bipush 16, 2) := by decide +kernel
theorem dX9_chord_234 : decode cX9_chord 234 = .ok (.aload_n 0, 1) := by decide +kernel
theorem dX9_chord_235 : decode cX9_chord 235 = .ok (.getfield 265, 3) := by decide +kernel
theorem dX9_chord_238 : decode cX9_chord 238 = .ok (.imul, 1) := by decide +kernel
theorem dX9_chord_239 : decode cX9_chord 239 = .ok (.iload 5, 2) := by decide +kernel
theorem dX9_chord_241 : decode cX9_chord 241 = .ok (.iadd, 1) := by decide +kernel
theorem dX9_chord_242 : decode cX9_chord 242 = .ok (.aload_n 0, 1) := by decide +kernel
theorem dX9_chord_243 : decode cX9_chord 243 = .ok (.getfield 172, 3) := by decide +kernel
theorem dX9_chord_246 : decode cX9_chord 246 = .ok (.iload 5, 2) := by decide +kernel
theorem dX9_chord_248 : decode cX9_chord 248 = .ok (.iaload, 1) := by decide +kernel
theorem dX9_chord_249 : decode cX9_chord 249 = .ok (.iastore, 1) := by decide +kernel
theorem dX9_chord_250 : decode cX9_chord 250 = .ok (.iinc 5 1, 3) := by decide +kernel
theorem dX9_chord_253 : decode cX9_chord 253 = .ok (.goto (-56), 3) := by decide +kernel
theorem dX9_chord_256 : decode cX9_chord 256 = .ok (.aload_n 0, 1) := by decide +kernel
theorem dX9_chord_257 : decode cX9_chord 257 = .ok (.getfield 23, 3) := by decide +kernel
theorem dX9_chord_260 : decode cX9_chord 260 = .ok (.aload_n 0, 1) := by decide +kernel
theorem dX9_chord_261 : decode cX9_chord 261 = .ok (.getfield 265, 3) := by decide +kernel
theorem dX9_chord_264 : decode cX9_chord 264 = .ok (.aload_n 0, 1) := by decide +kernel
theorem dX9_chord_265 : decode cX9_chord 265 = .ok (.getfield 212, 3) := by decide +kernel
theorem dX9_chord_268 : decode cX9_chord 268 = .ok (.iastore, 1) := by decide +kernel
theorem dX9_chord_269 : decode cX9_chord 269 = .ok (.aload_n 0, 1) := by decide +kernel
theorem dX9_chord_270 : decode cX9_chord 270 = .ok (.iload_n 1, 1) := by decide +kernel
theorem dX9_chord_271 : decode cX9_chord 271 = .ok (.iload_n 2, 1) := by decide +kernel
theorem dX9_chord_272 : decode cX9_chord 272 = .ok (.aload_n 0, 1) := by decide +kernel
theorem dX9_chord_273 : decode cX9_chord 273 = .ok (.getfield 255, 3) := by decide +kernel
theorem dX9_chord_276 : decode cX9_chord 276 = .ok (.aload_n 0, 1) := by decide +kernel
theorem dX9_chord_277 : decode cX9_chord 277 = .ok (.getfield 258, 3) := by decide +kernel
theorem dX9_chord_280 : decode cX9_chord 280 = .ok (.iload 4, 2) := by decide +kernel
theorem dX9_chord_282 : decode cX9_chord 282 = .ok (.invokevirtual 268, 3) := by decide +kernel
theorem dX9_chord_285 : decode cX9_chord 285 = .ok (.ireturn, 1) := by decide +kernel
theorem dX9_laid_0 : decode cX9_laid 0 = .ok (.iconst 5, 1) := by decide +kernel
theorem dX9_laid_1 : decode cX9_laid 1 = .ok (.aload_n 0, 1) := by decide +kernel
theorem dX9_laid_2 : decode cX9_laid 2 = .ok (.getfield 265, 3) := by decide +kernel
theorem dX9_laid_5 : decode cX9_laid 5 = .ok (.imul, 1) := by decide +kernel
theorem dX9_laid_6 : decode cX9_laid 6 = .ok (.istore 6, 2) := by decide +kernel
theorem dX9_laid_8 : decode cX9_laid 8 = .ok (.aload_n 0, 1) := by decide +kernel
theorem dX9_laid_9 : decode cX9_laid 9 = .ok (.getfield 13, 3) := by decide +kernel
theorem dX9_laid_12 : decode cX9_laid 12 = .ok (.iload 6, 2) := by decide +kernel
theorem dX9_laid_14 : decode cX9_laid 14 = .ok (.iload_n 1, 1) := by decide +kernel
theorem dX9_laid_15 : decode cX9_laid 15 = .ok (.iastore, 1) := by decide +kernel
theorem dX9_laid_16 : decode cX9_laid 16 = .ok (.aload_n 0, 1) := by decide +kernel
theorem dX9_laid_17 : decode cX9_laid 17 = .ok (.getfield 13, 3) := by decide +kernel
theorem dX9_laid_20 : decode cX9_laid 20 = .ok (.iload 6, 2) := by decide +kernel
theorem dX9_laid_22 : decode cX9_laid 22 = .ok (.iconst 1, 1) := by decide +kernel
theorem dX9_laid_23 : decode cX9_laid 23 = .ok (.iadd, 1) := by decide +kernel
theorem dX9_laid_24 : decode cX9_laid 24 = .ok (.iload_n 2, 1) := by decide +kernel
theorem dX9_laid_25 : decode cX9_laid 25 = .ok (.iastore, 1) := by decide +kernel
theorem dX9_laid_26 : decode cX9_laid 26 = .ok (.aload_n 0, 1) := by decide +kernel
theorem dX9_laid_27 : decode cX9_laid 27 = .ok (.getfield 13, 3) := by decide +kernel
theorem dX9_laid_30 : decode cX9_laid 30 = .ok (.iload 6, 2) := by decide +kernel
theorem dX9_laid_32 : decode cX9_laid 32 = .ok (.iconst 2, 1) := by decide +kernel
theorem dX9_laid_33 : decode cX9_laid 33 = .ok (.iadd, 1) := by decide +kernel
theorem dX9_laid_34 : decode cX9_laid 34 = .ok (.iload_n 3, 1) := by decide +kernel
theorem dX9_laid_35 : decode cX9_laid 35 = .ok (.iastore, 1) := by decide +kernel
theorem dX9_laid_36 : decode cX9_laid 36 = .ok (.aload_n 0, 1) := by decide +kernel
theorem dX9_laid_37 : decode cX9_laid 37 = .ok (.getfield 13, 3) := by decide +kernel
theorem dX9_laid_40 : decode cX9_laid 40 = .ok (.iload 6, 2) := by decide +kernel
theorem dX9_laid_42 : decode cX9_laid 42 = .ok (.iconst 3, 1) := by decide +kernel
theorem dX9_laid_43 : decode cX9_laid 43 = .ok (.iadd, 1) := by decide +kernel
theorem dX9_laid_44 : decode cX9_laid 44 = .ok (.iload 4, 2) := by decide +kernel
theorem dX9_laid_46 : decode cX9_laid 46 = .ok (.iastore, 1) := by decide +kernel
theorem dX9_laid_47 : decode cX9_laid 47 = .ok (.aload_n 0, 1) := by decide +kernel
theorem dX9_laid_48 : decode cX9_laid 48 = .ok (.getfield 13, 3) := by decide +kernel
theorem dX9_laid_51 : decode cX9_laid 51 = .ok (.iload 6, 2) := by decide +kernel
theorem dX9_laid_53 : decode cX9_laid 53 = .ok (.iconst 4, 1) := by decide +kernel
theorem dX9_laid_54 : decode cX9_laid 54 = .ok (.iadd, 1) := by decide +kernel
theorem dX9_laid_55 : decode cX9_laid 55 = .ok (.iload 5, 2) := by decide +kernel
theorem dX9_laid_57 : decode cX9_laid 57 = .ok (.ifCond .eq 7, 3) := by decide +kernel
theorem dX9_laid_60 : decode cX9_laid 60 = .ok (.iconst 1, 1) := by decide +kernel
theorem dX9_laid_61 : decode cX9_laid 61 = .ok (.goto 4, 3) := by decide +kernel
theorem dX9_laid_64 : decode cX9_laid 64 = .ok (.iconst 0, 1) := by decide +kernel
theorem dX9_laid_65 : decode cX9_laid 65 = .ok (.iastore, 1) := by decide +kernel
theorem dX9_laid_66 : decode cX9_laid 66 = .ok (.aload_n 0, 1) := by decide +kernel
theorem dX9_laid_67 : decode cX9_laid 67 = .ok (.dup, 1) := by decide +kernel
theorem dX9_laid_68 : decode cX9_laid 68 = .ok (.getfield 265, 3) := by decide +kernel
theorem dX9_laid_71 : decode cX9_laid 71 = .ok (.iconst 1, 1) := by decide +kernel
theorem dX9_laid_72 : decode cX9_laid 72 = .ok (.iadd, 1) := by decide +kernel
theorem dX9_laid_73 : decode cX9_laid 73 = .ok (.putfield 265, 3) := by decide +kernel
theorem dX9_laid_76 : decode cX9_laid 76 = .ok (.aload_n 0, 1) := by decide +kernel
theorem dX9_laid_77 : decode cX9_laid 77 = .ok (.getfield 265, 3) := by decide +kernel
theorem dX9_laid_80 : decode cX9_laid 80 = .ok (.iconst 1, 1) := by decide +kernel
theorem dX9_laid_81 : decode cX9_laid 81 = .ok (.isub, 1) := by decide +kernel
theorem dX9_laid_82 : decode cX9_laid 82 = .ok (.ireturn, 1) := by decide +kernel
set_option maxRecDepth 20000 in
theorem ggX9_isChord_X9_isIn : GoodIn wsX9_isChord wsX9_isIn := goodIn_r _ [5] (by decide +kernel) (by decide +kernel)
set_option maxRecDepth 20000 in
theorem gX9_isChord_X9_isIn : GoodIn wsX9_isChord (va_wsS RX9 215 yX9_isIn wsX9_isIn) := goodIn_app (goodIn_of _ (by decide +kernel)) ggX9_isChord_X9_isIn
theorem dX9_isChord_0 : decode cX9_isChord 0 = .ok (.iload_n 1, 1) := by decide +kernel
theorem dX9_isChord_1 : decode cX9_isChord 1 = .ok (.iconst 0, 1) := by decide +kernel
theorem dX9_isChord_2 : decode cX9_isChord 2 = .ok (.aload_n 0, 1) := by decide +kernel
theorem dX9_isChord_3 : decode cX9_isChord 3 = .ok (.getfield 265, 3) := by decide +kernel
theorem dX9_isChord_6 : decode cX9_isChord 6 = .ok (.iconst 1, 1) := by decide +kernel
theorem dX9_isChord_7 : decode cX9_isChord 7 = .ok (.isub, 1) := by decide +kernel
theorem dX9_isChord_8 : decode cX9_isChord 8 = .ok (.invokestatic 215, 3) := by decide +kernel
theorem dX9_isChord_11 : decode cX9_isChord 11 = .ok (.ireturn, 1) := by decide +kernel
set_option maxRecDepth 20000 in
theorem ggX9_rootOf_X9_pitchOf : GoodIn wsX9_rootOf wsX9_pitchOf := goodIn_r _ [5] (by decide +kernel) (by decide +kernel)
set_option maxRecDepth 20000 in
theorem gX9_rootOf_X9_pitchOf : GoodIn wsX9_rootOf (va_wsS RX9 272 yX9_pitchOf wsX9_pitchOf) := goodIn_app (goodIn_of _ (by decide +kernel)) ggX9_rootOf_X9_pitchOf
set_option maxRecDepth 20000 in
theorem ggX9_rootOf_X9_mod12 : GoodIn wsX9_rootOf wsX9_mod12 := goodIn_r _ [8] (by decide +kernel) (by decide +kernel)
set_option maxRecDepth 20000 in
theorem gX9_rootOf_X9_mod12 : GoodIn wsX9_rootOf (va_wsS RX9 275 yX9_mod12 wsX9_mod12) := goodIn_app (goodIn_of _ (by decide +kernel)) ggX9_rootOf_X9_mod12
theorem dX9_rootOf_0 : decode cX9_rootOf 0 = .ok (.aload_n 0, 1) := by decide +kernel
theorem dX9_rootOf_1 : decode cX9_rootOf 1 = .ok (.getfield 13, 3) := by decide +kernel
theorem dX9_rootOf_4 : decode cX9_rootOf 4 = .ok (.iconst 5, 1) := by decide +kernel
theorem dX9_rootOf_5 : decode cX9_rootOf 5 = .ok (.iload_n 1, 1) := by decide +kernel
theorem dX9_rootOf_6 : decode cX9_rootOf 6 = .ok (.imul, 1) := by decide +kernel
theorem dX9_rootOf_7 : decode cX9_rootOf 7 = .ok (.iaload, 1) := by decide +kernel
theorem dX9_rootOf_8 : decode cX9_rootOf 8 = .ok (.invokestatic 272, 3) := by decide +kernel
theorem dX9_rootOf_11 : decode cX9_rootOf 11 = .ok (.aload_n 0, 1) := by decide +kernel
theorem dX9_rootOf_12 : decode cX9_rootOf 12 = .ok (.getfield 13, 3) := by decide +kernel
theorem dX9_rootOf_15 : decode cX9_rootOf 15 = .ok (.iconst 5, 1) := by decide +kernel
theorem dX9_rootOf_16 : decode cX9_rootOf 16 = .ok (.iload_n 1, 1) := by decide +kernel
theorem dX9_rootOf_17 : decode cX9_rootOf 17 = .ok (.imul, 1) := by decide +kernel
theorem dX9_rootOf_18 : decode cX9_rootOf 18 = .ok (.iconst 1, 1) := by decide +kernel
theorem dX9_rootOf_19 : decode cX9_rootOf 19 = .ok (.iadd, 1) := by decide +kernel
theorem dX9_rootOf_20 : decode cX9_rootOf 20 = .ok (.iaload, 1) := by decide +kernel
theorem dX9_rootOf_21 : decode cX9_rootOf 21 = .ok (.iadd, 1) := by decide +kernel
theorem dX9_rootOf_22 : decode cX9_rootOf 22 = .ok (.invokestatic 275, 3) := by decide +kernel
theorem dX9_rootOf_25 : decode cX9_rootOf 25 = .ok (.ireturn, 1) := by decide +kernel
set_option maxRecDepth 20000 in
theorem ggX9_bassOf_X9_pitchOf : GoodIn wsX9_bassOf wsX9_pitchOf := goodIn_r _ [5] (by decide +kernel) (by decide +kernel)
set_option maxRecDepth 20000 in
theorem gX9_bassOf_X9_pitchOf : GoodIn wsX9_bassOf (va_wsS RX9 272 yX9_pitchOf wsX9_pitchOf) := goodIn_app (goodIn_of _ (by decide +kernel)) ggX9_bassOf_X9_pitchOf
set_option maxRecDepth 20000 in
theorem ggX9_bassOf_X9_mod12 : GoodIn wsX9_bassOf wsX9_mod12 := goodIn_r _ [8] (by decide +kernel) (by decide +kernel)
set_option maxRecDepth 20000 in
theorem gX9_bassOf_X9_mod12 : GoodIn wsX9_bassOf (va_wsS RX9 275 yX9_mod12 wsX9_mod12) := goodIn_app (goodIn_of _ (by decide +kernel)) ggX9_bassOf_X9_mod12
theorem dX9_bassOf_0 : decode cX9_bassOf 0 = .ok (.aload_n 0, 1) := by decide +kernel
theorem dX9_bassOf_1 : decode cX9_bassOf 1 = .ok (.getfield 13, 3) := by decide +kernel
theorem dX9_bassOf_4 : decode cX9_bassOf 4 = .ok (.iconst 5, 1) := by decide +kernel
theorem dX9_bassOf_5 : decode cX9_bassOf 5 = .ok (.iload_n 1, 1) := by decide +kernel
theorem dX9_bassOf_6 : decode cX9_bassOf 6 = .ok (.imul, 1) := by decide +kernel
theorem dX9_bassOf_7 : decode cX9_bassOf 7 = .ok (.iconst 2, 1) := by decide +kernel
theorem dX9_bassOf_8 : decode cX9_bassOf 8 = .ok (.iadd, 1) := by decide +kernel
theorem dX9_bassOf_9 : decode cX9_bassOf 9 = .ok (.iaload, 1) := by decide +kernel
theorem dX9_bassOf_10 : decode cX9_bassOf 10 = .ok (.invokestatic 272, 3) := by decide +kernel
theorem dX9_bassOf_13 : decode cX9_bassOf 13 = .ok (.aload_n 0, 1) := by decide +kernel
theorem dX9_bassOf_14 : decode cX9_bassOf 14 = .ok (.getfield 13, 3) := by decide +kernel
theorem dX9_bassOf_17 : decode cX9_bassOf 17 = .ok (.iconst 5, 1) := by decide +kernel
theorem dX9_bassOf_18 : decode cX9_bassOf 18 = .ok (.iload_n 1, 1) := by decide +kernel
theorem dX9_bassOf_19 : decode cX9_bassOf 19 = .ok (.imul, 1) := by decide +kernel
theorem dX9_bassOf_20 : decode cX9_bassOf 20 = .ok (.iconst 3, 1) := by decide +kernel
theorem dX9_bassOf_21 : decode cX9_bassOf 21 = .ok (.iadd, 1) := by decide +kernel
theorem dX9_bassOf_22 : decode cX9_bassOf 22 = .ok (.iaload, 1) := by decide +kernel
theorem dX9_bassOf_23 : decode cX9_bassOf 23 = .ok (.iadd, 1) := by decide +kernel
theorem dX9_bassOf_24 : decode cX9_bassOf 24 = .ok (.invokestatic 275, 3) := by decide +kernel
theorem dX9_bassOf_27 : decode cX9_bassOf 27 = .ok (.ireturn, 1) := by decide +kernel
set_option maxRecDepth 20000 in
theorem ggX9_setOf_X9_bassOf : GoodIn wsX9_setOf wsX9_bassOf := goodIn_r _ [7, 8, 9, 10, 6, 11, 12, 13, 14, 19, 20, 21, 22, 23, 24, 25, 26, 27, 28, 29, 30, 31, 32, 33, 34, 35, 36, 37, 38, 39, 40, 41, 42, 43, 44, 45, 46, 47, 48, 49, 50, 51, 52, 53, 54] (by decide +kernel) (by decide +kernel)
set_option maxRecDepth 20000 in
theorem gX9_setOf_X9_bassOf : GoodIn wsX9_setOf (wsV RX9 278 RX9 yX9_bassOf wsX9_bassOf) := goodIn_app (goodIn_of _ (by decide +kernel)) ggX9_setOf_X9_bassOf
set_option maxRecDepth 20000 in
theorem ggX9_setOf_X9_rootOf : GoodIn wsX9_setOf wsX9_rootOf := goodIn_r _ [18, 8, 9, 10, 6, 11, 12, 13, 14, 19, 20, 21, 22, 23, 24, 25, 26, 27, 28, 29, 30, 31, 32, 33, 34, 35, 36, 37, 38, 39, 40, 41, 42, 43, 44, 45, 46, 47, 48, 49, 50, 51, 52, 53, 54] (by decide +kernel) (by decide +kernel)
set_option maxRecDepth 20000 in
theorem gX9_setOf_X9_rootOf : GoodIn wsX9_setOf (wsV RX9 281 RX9 yX9_rootOf wsX9_rootOf) := goodIn_app (goodIn_of _ (by decide +kernel)) ggX9_setOf_X9_rootOf
theorem dX9_setOf_0 : decode cX9_setOf 0 = .ok (.iconst 1, 1) := by decide +kernel
theorem dX9_setOf_1 : decode cX9_setOf 1 = .ok (.aload_n 0, 1) := by decide +kernel
theorem dX9_setOf_2 : decode cX9_setOf 2 = .ok (.iload_n 1, 1) := by decide +kernel
theorem dX9_setOf_3 : decode cX9_setOf 3 = .ok (.invokevirtual 278, 3) := by decide +kernel
theorem dX9_setOf_6 : decode cX9_setOf 6 = .ok (.ishl, 1) := by decide +kernel
theorem dX9_setOf_7 : decode cX9_setOf 7 = .ok (.istore_n 2, 1) := by decide +kernel
theorem dX9_setOf_8 : decode cX9_setOf 8 = .ok (.iconst 0, 1) := by decide +kernel
theorem dX9_setOf_9 : decode cX9_setOf 9 = .ok (.istore_n 3, 1) := by decide +kernel
theorem dX9_setOf_10 : decode cX9_setOf 10 = .ok (.iload_n 3, 1) := by decide +kernel
theorem dX9_setOf_11 : decode cX9_setOf 11 = .ok (.aload_n 0, 1) := by decide +kernel
theorem dX9_setOf_12 : decode cX9_setOf 12 = .ok (.getfield 23, 3) := by decide +kernel
theorem dX9_setOf_15 : decode cX9_setOf 15 = .ok (.iload_n 1, 1) := by decide +kernel
theorem dX9_setOf_16 : decode cX9_setOf 16 = .ok (.iaload, 1) := by decide +kernel
theorem dX9_setOf_17 : decode cX9_setOf 17 = .ok (.if_icmp .ge 34, 3) := by decide +kernel
theorem dX9_setOf_20 : decode cX9_setOf 20 = .ok (.iload_n 2, 1) := by decide +kernel
theorem dX9_setOf_21 : decode cX9_setOf 21 = .ok (.iconst 1, 1) := by decide +kernel
theorem dX9_setOf_22 : decode cX9_setOf 22 = .ok (.aload_n 0, 1) := by decide +kernel
theorem dX9_setOf_23 : decode cX9_setOf 23 = .ok (.iload_n 1, 1) := by decide +kernel
theorem dX9_setOf_24 : decode cX9_setOf 24 = .ok (.invokevirtual 281, 3) := by decide +kernel
theorem dX9_setOf_27 : decode cX9_setOf 27 = .ok (.aload_n 0, 1) := by decide +kernel
theorem dX9_setOf_28 : decode cX9_setOf 28 = .ok (.getfield 17, 3) := by decide +kernel
theorem dX9_setOf_31 : decode cX9_setOf 31 = .ok (.bipush 16, 2) := by decide +kernel
theorem dX9_setOf_33 : decode cX9_setOf 33 = .ok (.iload_n 1, 1) := by decide +kernel
theorem dX9_setOf_34 : decode cX9_setOf 34 = .ok (.imul, 1) := by decide +kernel
theorem dX9_setOf_35 : decode cX9_setOf 35 = .ok (.iload_n 3, 1) := by decide +kernel
theorem dX9_setOf_36 : decode cX9_setOf 36 = .ok (.iadd, 1) := by decide +kernel
theorem dX9_setOf_37 : decode cX9_setOf 37 = .ok (.iaload, 1) := by decide +kernel
theorem dX9_setOf_38 : decode cX9_setOf 38 = .ok (.iadd, 1) := by decide +kernel
theorem dX9_setOf_39 : decode cX9_setOf 39 = .ok (.bipush 12, 2) := by decide +kernel
theorem dX9_setOf_41 : decode cX9_setOf 41 = .ok (.irem, 1) := by decide +kernel
theorem dX9_setOf_42 : decode cX9_setOf 42 = .ok (.ishl, 1) := by decide +kernel
theorem dX9_setOf_43 : decode cX9_setOf 43 = .ok (.ior, 1) := by decide +kernel
theorem dX9_setOf_44 : decode cX9_setOf 44 = .ok (.istore_n 2, 1) := by decide +kernel
theorem dX9_setOf_45 : decode cX9_setOf 45 = .ok (.iinc 3 1, 3) := by decide +kernel
theorem dX9_setOf_48 : decode cX9_setOf 48 = .ok (.goto (-38), 3) := by decide +kernel
theorem dX9_setOf_51 : decode cX9_setOf 51 = .ok (.iload_n 2, 1) := by decide +kernel
theorem dX9_setOf_52 : decode cX9_setOf 52 = .ok (.ireturn, 1) := by decide +kernel
set_option maxRecDepth 20000 in
theorem ggX9_signsOf_X9_pitchOf : GoodIn wsX9_signsOf wsX9_pitchOf := goodIn_r _ [4] (by decide +kernel) (by decide +kernel)
set_option maxRecDepth 20000 in
theorem gX9_signsOf_X9_pitchOf : GoodIn wsX9_signsOf (va_wsS RX9 272 yX9_pitchOf wsX9_pitchOf) := goodIn_app (goodIn_of _ (by decide +kernel)) ggX9_signsOf_X9_pitchOf
set_option maxRecDepth 20000 in
theorem ggX9_signsOf_X9_mod12 : GoodIn wsX9_signsOf wsX9_mod12 := goodIn_r _ [7] (by decide +kernel) (by decide +kernel)
set_option maxRecDepth 20000 in
theorem gX9_signsOf_X9_mod12 : GoodIn wsX9_signsOf (va_wsS RX9 275 yX9_mod12 wsX9_mod12) := goodIn_app (goodIn_of _ (by decide +kernel)) ggX9_signsOf_X9_mod12
theorem dX9_signsOf_0 : decode cX9_signsOf 0 = .ok (.iload_n 0, 1) := by decide +kernel
theorem dX9_signsOf_1 : decode cX9_signsOf 1 = .ok (.iload_n 3, 1) := by decide +kernel
theorem dX9_signsOf_2 : decode cX9_signsOf 2 = .ok (.iadd, 1) := by decide +kernel
theorem dX9_signsOf_3 : decode cX9_signsOf 3 = .ok (.iconst 1, 1) := by decide +kernel
theorem dX9_signsOf_4 : decode cX9_signsOf 4 = .ok (.isub, 1) := by decide +kernel
theorem dX9_signsOf_5 : decode cX9_signsOf 5 = .ok (.bipush 7, 2) := by decide +kernel
theorem dX9_signsOf_7 : decode cX9_signsOf 7 = .ok (.irem, 1) := by decide +kernel
theorem dX9_signsOf_8 : decode cX9_signsOf 8 = .ok (.istore 4, 2) := by decide +kernel
theorem dX9_signsOf_10 : decode cX9_signsOf 10 = .ok (.iload_n 0, 1) := by decide +kernel
theorem dX9_signsOf_11 : decode cX9_signsOf 11 = .ok (.invokestatic 272, 3) := by decide +kernel
theorem dX9_signsOf_14 : decode cX9_signsOf 14 = .ok (.iload_n 1, 1) := by decide +kernel
theorem dX9_signsOf_15 : decode cX9_signsOf 15 = .ok (.iadd, 1) := by decide +kernel
theorem dX9_signsOf_16 : decode cX9_signsOf 16 = .ok (.iload_n 2, 1) := by decide +kernel
theorem dX9_signsOf_17 : decode cX9_signsOf 17 = .ok (.iadd, 1) := by decide +kernel
theorem dX9_signsOf_18 : decode cX9_signsOf 18 = .ok (.iload 4, 2) := by decide +kernel
theorem dX9_signsOf_20 : decode cX9_signsOf 20 = .ok (.invokestatic 272, 3) := by decide +kernel
theorem dX9_signsOf_23 : decode cX9_signsOf 23 = .ok (.isub, 1) := by decide +kernel
theorem dX9_signsOf_24 : decode cX9_signsOf 24 = .ok (.bipush 6, 2) := by decide +kernel
theorem dX9_signsOf_26 : decode cX9_signsOf 26 = .ok (.iadd, 1) := by decide +kernel
theorem dX9_signsOf_27 : decode cX9_signsOf 27 = .ok (.invokestatic 275, 3) := by decide +kernel
theorem dX9_signsOf_30 : decode cX9_signsOf 30 = .ok (.bipush 6, 2) := by decide +kernel
theorem dX9_signsOf_32 : decode cX9_signsOf 32 = .ok (.isub, 1) := by decide +kernel
theorem dX9_signsOf_33 : decode cX9_signsOf 33 = .ok (.ireturn, 1) := by decide +kernel
set_option maxRecDepth 20000 in
theorem ggX9_stepsWeight_X9_signsOf : GoodIn wsX9_stepsWeight wsX9_signsOf := goodIn_r _ [7, 8, 9, 6, 10, 11, 12, 13] (by decide +kernel) (by decide +kernel)
set_option maxRecDepth 20000 in
theorem gX9_stepsWeight_X9_signsOf : GoodIn wsX9_stepsWeight (va_wsS RX9 284 yX9_signsOf wsX9_signsOf) := goodIn_app (goodIn_of _ (by decide +kernel)) ggX9_stepsWeight_X9_signsOf
set_option maxRecDepth 20000 in
theorem ggX9_stepsWeight_X9_size : GoodIn wsX9_stepsWeight wsX9_size := goodIn_r _ [16] (by decide +kernel) (by decide +kernel)
set_option maxRecDepth 20000 in
theorem gX9_stepsWeight_X9_size : GoodIn wsX9_stepsWeight (va_wsS RX9 288 yX9_size wsX9_size) := goodIn_app (goodIn_of _ (by decide +kernel)) ggX9_stepsWeight_X9_size
theorem dX9_stepsWeight_0 : decode cX9_stepsWeight 0 = .ok (.iconst 0, 1) := by decide +kernel
theorem dX9_stepsWeight_1 : decode cX9_stepsWeight 1 = .ok (.istore 4, 2) := by decide +kernel
theorem dX9_stepsWeight_3 : decode cX9_stepsWeight 3 = .ok (.iconst 0, 1) := by decide +kernel
theorem dX9_stepsWeight_4 : decode cX9_stepsWeight 4 = .ok (.istore 5, 2) := by decide +kernel
theorem dX9_stepsWeight_6 : decode cX9_stepsWeight 6 = .ok (.iload 5, 2) := by decide +kernel
theorem dX9_stepsWeight_8 : decode cX9_stepsWeight 8 = .ok (.aload_n 0, 1) := by decide +kernel
theorem dX9_stepsWeight_9 : decode cX9_stepsWeight 9 = .ok (.getfield 23, 3) := by decide +kernel
theorem dX9_stepsWeight_12 : decode cX9_stepsWeight 12 = .ok (.iload_n 1, 1) := by decide +kernel
theorem dX9_stepsWeight_13 : decode cX9_stepsWeight 13 = .ok (.iaload, 1) := by decide +kernel
theorem dX9_stepsWeight_14 : decode cX9_stepsWeight 14 = .ok (.if_icmp .ge 46, 3) := by decide +kernel
theorem dX9_stepsWeight_17 : decode cX9_stepsWeight 17 = .ok (.iload 4, 2) := by decide +kernel
theorem dX9_stepsWeight_19 : decode cX9_stepsWeight 19 = .ok (.iload_n 2, 1) := by decide +kernel
theorem dX9_stepsWeight_20 : decode cX9_stepsWeight 20 = .ok (.iload_n 3, 1) := by decide +kernel
theorem dX9_stepsWeight_21 : decode cX9_stepsWeight 21 = .ok (.aload_n 0, 1) := by decide +kernel
theorem dX9_stepsWeight_22 : decode cX9_stepsWeight 22 = .ok (.getfield 17, 3) := by decide +kernel
theorem dX9_stepsWeight_25 : decode cX9_stepsWeight 25 = .ok (.bipush 16, 2) := by decide +kernel
theorem dX9_stepsWeight_27 : decode cX9_stepsWeight 27 = .ok (.iload_n 1, 1) := by decide +kernel
theorem dX9_stepsWeight_28 : decode cX9_stepsWeight 28 = .ok (.imul, 1) := by decide +kernel
theorem dX9_stepsWeight_29 : decode cX9_stepsWeight 29 = .ok (.iload 5, 2) := by decide +kernel
theorem dX9_stepsWeight_31 : decode cX9_stepsWeight 31 = .ok (.iadd, 1) := by decide +kernel
theorem dX9_stepsWeight_32 : decode cX9_stepsWeight 32 = .ok (.iaload, 1) := by decide +kernel
theorem dX9_stepsWeight_33 : decode cX9_stepsWeight 33 = .ok (.aload_n 0, 1) := by decide +kernel
theorem dX9_stepsWeight_34 : decode cX9_stepsWeight 34 = .ok (.getfield 20, 3) := by decide +kernel
theorem dX9_stepsWeight_37 : decode cX9_stepsWeight 37 = .ok (.bipush 16, 2) := by decide +kernel
theorem dX9_stepsWeight_39 : decode cX9_stepsWeight 39 = .ok (.iload_n 1, 1) := by decide +kernel
theorem dX9_stepsWeight_40 : decode cX9_stepsWeight 40 = .ok (.imul, 1) := by decide +kernel
theorem dX9_stepsWeight_41 : decode cX9_stepsWeight 41 = .ok (.iload 5, 2) := by decide +kernel
theorem dX9_stepsWeight_43 : decode cX9_stepsWeight 43 = .ok (.iadd, 1) := by decide +kernel
theorem dX9_stepsWeight_44 : decode cX9_stepsWeight 44 = .ok (.iaload, 1) := by decide +kernel
theorem dX9_stepsWeight_45 : decode cX9_stepsWeight 45 = .ok (.invokestatic 284, 3) := by decide +kernel
theorem dX9_stepsWeight_48 : decode cX9_stepsWeight 48 = .ok (.invokestatic 288, 3) := by decide +kernel
theorem dX9_stepsWeight_51 : decode cX9_stepsWeight 51 = .ok (.iadd, 1) := by decide +kernel
theorem dX9_stepsWeight_52 : decode cX9_stepsWeight 52 = .ok (.istore 4, 2) := by decide +kernel
theorem dX9_stepsWeight_54 : decode cX9_stepsWeight 54 = .ok (.iinc 5 1, 3) := by decide +kernel
theorem dX9_stepsWeight_57 : decode cX9_stepsWeight 57 = .ok (.goto (-51), 3) := by decide +kernel
theorem dX9_stepsWeight_60 : decode cX9_stepsWeight 60 = .ok (.iload 4, 2) := by decide +kernel
theorem dX9_stepsWeight_62 : decode cX9_stepsWeight 62 = .ok (.ireturn, 1) := by decide +kernel
theorem dX9_bodyOf_0 : decode cX9_bodyOf 0 = .ok (.iconst 0, 1) := by decide +kernel
theorem dX9_bodyOf_1 : decode cX9_bodyOf 1 = .ok (.istore_n 2, 1) := by decide +kernel
theorem dX9_bodyOf_2 : decode cX9_bodyOf 2 = .ok (.iload_n 2, 1) := by decide +kernel
theorem dX9_bodyOf_3 : decode cX9_bodyOf 3 = .ok (.bipush 20, 2) := by decide +kernel
theorem dX9_bodyOf_5 : decode cX9_bodyOf 5 = .ok (.if_icmp .ge 120, 3) := by decide +kernel
theorem dX9_bodyOf_8 : decode cX9_bodyOf 8 = .ok (.aload_n 0, 1) := by decide +kernel
theorem dX9_bodyOf_9 : decode cX9_bodyOf 9 = .ok (.getfield 41, 3) := by decide +kernel
theorem dX9_bodyOf_12 : decode cX9_bodyOf 12 = .ok (.iload_n 2, 1) := by decide +kernel
theorem dX9_bodyOf_13 : decode cX9_bodyOf 13 = .ok (.iaload, 1) := by decide +kernel
theorem dX9_bodyOf_14 : decode cX9_bodyOf 14 = .ok (.aload_n 0, 1) := by decide +kernel
theorem dX9_bodyOf_15 : decode cX9_bodyOf 15 = .ok (.getfield 23, 3) := by decide +kernel
theorem dX9_bodyOf_18 : decode cX9_bodyOf 18 = .ok (.iload_n 1, 1) := by decide +kernel
theorem dX9_bodyOf_19 : decode cX9_bodyOf 19 = .ok (.iaload, 1) := by decide +kernel
theorem dX9_bodyOf_20 : decode cX9_bodyOf 20 = .ok (.if_icmp .ne 7, 3) := by decide +kernel
theorem dX9_bodyOf_23 : decode cX9_bodyOf 23 = .ok (.iconst 1, 1) := by decide +kernel
theorem dX9_bodyOf_24 : decode cX9_bodyOf 24 = .ok (.goto 4, 3) := by decide +kernel
theorem dX9_bodyOf_27 : decode cX9_bodyOf 27 = .ok (.iconst 0, 1) := by decide +kernel
theorem dX9_bodyOf_28 : decode cX9_bodyOf 28 = .ok (.istore_n 3, 1) := by decide +kernel
theorem dX9_bodyOf_29 : decode cX9_bodyOf 29 = .ok (.iconst 0, 1) := by decide +kernel
theorem dX9_bodyOf_30 : decode cX9_bodyOf 30 = .ok (.istore 4, 2) := by decide +kernel
theorem dX9_bodyOf_32 : decode cX9_bodyOf 32 = .ok (.iload 4, 2) := by decide +kernel
theorem dX9_bodyOf_34 : decode cX9_bodyOf 34 = .ok (.aload_n 0, 1) := by decide +kernel
theorem dX9_bodyOf_35 : decode cX9_bodyOf 35 = .ok (.getfield 23, 3) := by decide +kernel
theorem dX9_bodyOf_38 : decode cX9_bodyOf 38 = .ok (.iload_n 1, 1) := by decide +kernel
theorem dX9_bodyOf_39 : decode cX9_bodyOf 39 = .ok (.iaload, 1) := by decide +kernel
theorem dX9_bodyOf_40 : decode cX9_bodyOf 40 = .ok (.if_icmp .ge 73, 3) := by decide +kernel
theorem dX9_bodyOf_43 : decode cX9_bodyOf 43 = .ok (.iload_n 3, 1) := by decide +kernel
theorem dX9_bodyOf_44 : decode cX9_bodyOf 44 = .ok (.ifCond .eq 69, 3) := by decide +kernel
theorem dX9_bodyOf_47 : decode cX9_bodyOf 47 = .ok (.aload_n 0, 1) := by decide +kernel
theorem dX9_bodyOf_48 : decode cX9_bodyOf 48 = .ok (.getfield 35, 3) := by decide +kernel
theorem dX9_bodyOf_51 : decode cX9_bodyOf 51 = .ok (.bipush 8, 2) := by decide +kernel
theorem dX9_bodyOf_53 : decode cX9_bodyOf 53 = .ok (.iload_n 2, 1) := by decide +kernel
theorem dX9_bodyOf_54 : decode cX9_bodyOf 54 = .ok (.imul, 1) := by decide +kernel
theorem dX9_bodyOf_55 : decode cX9_bodyOf 55 = .ok (.iload 4, 2) := by decide +kernel
theorem dX9_bodyOf_57 : decode cX9_bodyOf 57 = .ok (.iadd, 1) := by decide +kernel
theorem dX9_bodyOf_58 : decode cX9_bodyOf 58 = .ok (.iaload, 1) := by decide +kernel
theorem dX9_bodyOf_59 : decode cX9_bodyOf 59 = .ok (.aload_n 0, 1) := by decide +kernel
theorem dX9_bodyOf_60 : decode cX9_bodyOf 60 = .ok (.getfield 17, 3) := by decide +kernel
theorem dX9_bodyOf_63 : decode cX9_bodyOf 63 = .ok (.bipush 16, 2) := by decide +kernel
theorem dX9_bodyOf_65 : decode cX9_bodyOf 65 = .ok (.iload_n 1, 1) := by decide +kernel
theorem dX9_bodyOf_66 : decode cX9_bodyOf 66 = .ok (.imul, 1) := by decide +kernel
theorem dX9_bodyOf_67 : decode cX9_bodyOf 67 = .ok (.iload 4, 2) := by decide +kernel
theorem dX9_bodyOf_69 : decode cX9_bodyOf 69 = .ok (.iadd, 1) := by decide +kernel
theorem dX9_bodyOf_70 : decode cX9_bodyOf 70 = .ok (.iaload, 1) := by decide +kernel
theorem dX9_bodyOf_71 : decode cX9_bodyOf 71 = .ok (.if_icmp .ne 34, 3) := by decide +kernel
theorem dX9_bodyOf_74 : decode cX9_bodyOf 74 = .ok (.aload_n 0, 1) := by decide +kernel
theorem dX9_bodyOf_75 : decode cX9_bodyOf 75 = .ok (.getfield 38, 3) := by decide +kernel
theorem dX9_bodyOf_78 : decode cX9_bodyOf 78 = .ok (.bipush 8, 2) := by decide +kernel
theorem dX9_bodyOf_80 : decode cX9_bodyOf 80 = .ok (.iload_n 2, 1) := by decide +kernel
theorem dX9_bodyOf_81 : decode cX9_bodyOf 81 = .ok (.imul, 1) := by decide +kernel
theorem dX9_bodyOf_82 : decode cX9_bodyOf 82 = .ok (.iload 4, 2) := by decide +kernel
theorem dX9_bodyOf_84 : decode cX9_bodyOf 84 = .ok (.iadd, 1) := by decide +kernel
theorem dX9_bodyOf_85 : decode cX9_bodyOf 85 = .ok (.iaload, 1) := by decide +kernel
theorem dX9_bodyOf_86 : decode cX9_bodyOf 86 = .ok (.aload_n 0, 1) := by decide +kernel
theorem dX9_bodyOf_87 : decode cX9_bodyOf 87 = .ok (.getfield 20, 3) := by decide +kernel
theorem dX9_bodyOf_90 : decode cX9_bodyOf 90 = .ok (.bipush 16, 2) := by decide +kernel
theorem dX9_bodyOf_92 : decode cX9_bodyOf 92 = .ok (.iload_n 1, 1) := by decide +kernel
theorem dX9_bodyOf_93 : decode cX9_bodyOf 93 = .ok (.imul, 1) := by decide +kernel
theorem dX9_bodyOf_94 : decode cX9_bodyOf 94 = .ok (.iload 4, 2) := by decide +kernel
theorem dX9_bodyOf_96 : decode cX9_bodyOf 96 = .ok (.iadd, 1) := by decide +kernel
theorem dX9_bodyOf_97 : decode cX9_bodyOf 97 = .ok (.iaload, 1) := by decide +kernel
theorem dX9_bodyOf_98 : decode cX9_bodyOf 98 = .ok (.if_icmp .ne 7, 3) := by decide +kernel
theorem dX9_bodyOf_101 : decode cX9_bodyOf 101 = .ok (.iconst 1, 1) := by decide +kernel
theorem dX9_bodyOf_102 : decode cX9_bodyOf 102 = .ok (.goto 4, 3) := by decide +kernel
theorem dX9_bodyOf_105 : decode cX9_bodyOf 105 = .ok (.iconst 0, 1) := by decide +kernel
theorem dX9_bodyOf_106 : decode cX9_bodyOf 106 = .ok (.istore_n 3, 1) := by decide +kernel
theorem dX9_bodyOf_107 : decode cX9_bodyOf 107 = .ok (.iinc 4 1, 3) := by decide +kernel
theorem dX9_bodyOf_110 : decode cX9_bodyOf 110 = .ok (.goto (-78), 3) := by decide +kernel
theorem dX9_bodyOf_113 : decode cX9_bodyOf 113 = .ok (.iload_n 3, 1) := by decide +kernel
theorem dX9_bodyOf_114 : decode cX9_bodyOf 114 = .ok (.ifCond .eq 5, 3) := by decide +kernel
theorem dX9_bodyOf_117 : decode cX9_bodyOf 117 = .ok (.iload_n 2, 1) := by decide +kernel
theorem dX9_bodyOf_118 : decode cX9_bodyOf 118 = .ok (.ireturn, 1) := by decide +kernel
theorem dX9_bodyOf_119 : decode cX9_bodyOf 119 = .ok (.iinc 2 1, 3) := by decide +kernel
theorem dX9_bodyOf_122 : decode cX9_bodyOf 122 = .ok (.goto (-120), 3) := by decide +kernel
theorem dX9_bodyOf_125 : decode cX9_bodyOf 125 = .ok (.bipush (-2), 2) := by decide +kernel
theorem dX9_bodyOf_127 : decode cX9_bodyOf 127 = .ok (.ireturn, 1) := by decide +kernel
set_option maxRecDepth 20000 in
theorem ggX9_of_X9_isChord : GoodIn wsX9_of wsX9_isChord := goodIn_r _ [7, 8, 9, 10, 6, 11, 49, 50, 51, 52, 53, 54, 55, 56, 57, 58, 59, 60, 61, 62, 63, 64, 65, 66, 67, 68, 69, 70, 71, 72, 73, 74, 75, 76, 77, 78, 79, 80, 81, 82, 83, 84] (by decide +kernel) (by decide +kernel)
set_option maxRecDepth 20000 in
theorem gX9_of_X9_isChord : GoodIn wsX9_of (wsV RX9 291 RX9 yX9_isChord wsX9_isChord) := goodIn_app (goodIn_of _ (by decide +kernel)) ggX9_of_X9_isChord
set_option maxRecDepth 20000 in
theorem ggX9_of_X9_isIn : GoodIn wsX9_of wsX9_isIn := goodIn_r _ [11] (by decide +kernel) (by decide +kernel)
set_option maxRecDepth 20000 in
theorem gX9_of_X9_isIn : GoodIn wsX9_of (va_wsS RX9 215 yX9_isIn wsX9_isIn) := goodIn_app (goodIn_of _ (by decide +kernel)) ggX9_of_X9_isIn
set_option maxRecDepth 20000 in
theorem ggX9_of_X9_rootOf : GoodIn wsX9_of wsX9_rootOf := goodIn_r _ [15, 2, 16, 17, 6, 18, 19, 20, 21, 49, 50, 51, 52, 53, 54, 55, 56, 57, 58, 59, 60, 61, 62, 63, 64, 65, 66, 67, 68, 69, 70, 71, 72, 73, 74, 75, 76, 77, 78, 79, 80, 81, 82, 83, 84] (by decide +kernel) (by decide +kernel)
set_option maxRecDepth 20000 in
theorem gX9_of_X9_rootOf : GoodIn wsX9_of (wsV RX9 281 RX9 yX9_rootOf wsX9_rootOf) := goodIn_app (goodIn_of _ (by decide +kernel)) ggX9_of_X9_rootOf
set_option maxRecDepth 20000 in
theorem ggX9_of_X9_bassOf : GoodIn wsX9_of wsX9_bassOf := goodIn_r _ [25, 2, 16, 17, 6, 18, 19, 20, 21, 49, 50, 51, 52, 53, 54, 55, 56, 57, 58, 59, 60, 61, 62, 63, 64, 65, 66, 67, 68, 69, 70, 71, 72, 73, 74, 75, 76, 77, 78, 79, 80, 81, 82, 83, 84] (by decide +kernel) (by decide +kernel)
set_option maxRecDepth 20000 in
theorem gX9_of_X9_bassOf : GoodIn wsX9_of (wsV RX9 278 RX9 yX9_bassOf wsX9_bassOf) := goodIn_app (goodIn_of _ (by decide +kernel)) ggX9_of_X9_bassOf
set_option maxRecDepth 20000 in
theorem ggX9_of_X9_setOf : GoodIn wsX9_of wsX9_setOf := goodIn_r _ [29, 1, 30, 22, 23, 24, 6, 25, 2, 16, 17, 18, 19, 20, 21, 12, 13, 14, 15, 49, 50, 51, 52, 53, 54, 55, 56, 57, 58, 59, 60, 61, 62, 63, 64, 65, 66, 67, 68, 69, 70, 71, 72, 73, 74, 75, 76, 77, 78, 79, 80, 81, 82, 83, 84] (by decide +kernel) (by decide +kernel)
set_option maxRecDepth 20000 in
theorem gX9_of_X9_setOf : GoodIn wsX9_of (wsV RX9 294 RX9 yX9_setOf wsX9_setOf) := goodIn_app (goodIn_of _ (by decide +kernel)) ggX9_of_X9_setOf
set_option maxRecDepth 20000 in
theorem ggX9_of_X9_stepsWeight : GoodIn wsX9_of wsX9_stepsWeight := goodIn_r _ [34, 1, 30, 35, 36, 37, 6, 38, 16, 17, 18, 19, 20, 21, 39, 40, 41, 49, 50, 51, 52, 53, 54, 55, 56, 57, 58, 59, 60, 61, 62, 63, 64, 65, 66, 67, 68, 69, 70, 71, 72, 73, 74, 75, 76, 77, 78, 79, 80, 81, 82, 83, 84] (by decide +kernel) (by decide +kernel)
set_option maxRecDepth 20000 in
theorem gX9_of_X9_stepsWeight : GoodIn wsX9_of (wsV RX9 297 RX9 yX9_stepsWeight wsX9_stepsWeight) := goodIn_app (goodIn_of _ (by decide +kernel)) ggX9_of_X9_stepsWeight
set_option maxRecDepth 20000 in
theorem ggX9_of_X9_size : GoodIn wsX9_of wsX9_size := goodIn_r _ [41] (by decide +kernel) (by decide +kernel)
set_option maxRecDepth 20000 in
theorem gX9_of_X9_size : GoodIn wsX9_of (va_wsS RX9 288 yX9_size wsX9_size) := goodIn_app (goodIn_of _ (by decide +kernel)) ggX9_of_X9_size
set_option maxRecDepth 20000 in
theorem ggX9_of_X9_bodyOf : GoodIn wsX9_of wsX9_bodyOf := goodIn_r _ [45, 46, 1, 47, 30, 48, 35, 49, 50, 51, 52, 53, 54, 55, 56, 57, 58, 59, 60, 61, 62, 63, 64, 65, 66, 67, 68, 69, 70, 71, 72, 73, 74, 75, 76, 77, 78, 79, 80, 81, 82, 83, 84] (by decide +kernel) (by decide +kernel)
