set_option maxRecDepth 20000 in
theorem gX9_of_X9_bodyOf : GoodIn wsX9_of (wsV RX9 301 RX9 yX9_bodyOf wsX9_bodyOf) := goodIn_app (goodIn_of _ (by decide +kernel)) ggX9_of_X9_bodyOf
theorem dX9_of_0 : decode cX9_of 0 = .ok (.aload_n 0, 1) := by decide +kernel
theorem dX9_of_1 : decode cX9_of 1 = .ok (.iload_n 1, 1) := by decide +kernel
theorem dX9_of_2 : decode cX9_of 2 = .ok (.invokevirtual 291, 3) := by decide +kernel
theorem dX9_of_5 : decode cX9_of 5 = .ok (.ifCond .eq 13, 3) := by decide +kernel
theorem dX9_of_8 : decode cX9_of 8 = .ok (.iload_n 2, 1) := by decide +kernel
theorem dX9_of_9 : decode cX9_of 9 = .ok (.iconst 0, 1) := by decide +kernel
theorem dX9_of_10 : decode cX9_of 10 = .ok (.bipush 6, 2) := by decide +kernel
theorem dX9_of_12 : decode cX9_of 12 = .ok (.invokestatic 215, 3) := by decide +kernel
theorem dX9_of_15 : decode cX9_of 15 = .ok (.ifCond .ne 5, 3) := by decide +kernel
theorem dX9_of_18 : decode cX9_of 18 = .ok (.iconst (-1), 1) := by decide +kernel
theorem dX9_of_19 : decode cX9_of 19 = .ok (.ireturn, 1) := by decide +kernel
theorem dX9_of_20 : decode cX9_of 20 = .ok (.iconst 5, 1) := by decide +kernel
theorem dX9_of_21 : decode cX9_of 21 = .ok (.iload_n 1, 1) := by decide +kernel
theorem dX9_of_22 : decode cX9_of 22 = .ok (.imul, 1) := by decide +kernel
theorem dX9_of_23 : decode cX9_of 23 = .ok (.istore_n 3, 1) := by decide +kernel
theorem dX9_of_24 : decode cX9_of 24 = .ok (.iload_n 2, 1) := by decide +kernel
theorem dX9_of_25 : decode cX9_of 25 = .ok (.tableswitch 102 0 5 #[39, 45, 51, 58, 64, 96], 39) := by decide +kernel
theorem dX9_of_64 : decode cX9_of 64 = .ok (.aload_n 0, 1) := by decide +kernel
theorem dX9_of_65 : decode cX9_of 65 = .ok (.iload_n 1, 1) := by decide +kernel
theorem dX9_of_66 : decode cX9_of 66 = .ok (.invokevirtual 281, 3) := by decide +kernel
theorem dX9_of_69 : decode cX9_of 69 = .ok (.ireturn, 1) := by decide +kernel
theorem dX9_of_70 : decode cX9_of 70 = .ok (.aload_n 0, 1) := by decide +kernel
theorem dX9_of_71 : decode cX9_of 71 = .ok (.iload_n 1, 1) := by decide +kernel
theorem dX9_of_72 : decode cX9_of 72 = .ok (.invokevirtual 278, 3) := by decide +kernel
theorem dX9_of_75 : decode cX9_of 75 = .ok (.ireturn, 1) := by decide +kernel
theorem dX9_of_76 : decode cX9_of 76 = .ok (.aload_n 0, 1) := by decide +kernel
theorem dX9_of_77 : decode cX9_of 77 = .ok (.getfield 23, 3) := by decide +kernel
theorem dX9_of_80 : decode cX9_of 80 = .ok (.iload_n 1, 1) := by decide +kernel
theorem dX9_of_81 : decode cX9_of 81 = .ok (.iaload, 1) := by decide +kernel
theorem dX9_of_82 : decode cX9_of 82 = .ok (.ireturn, 1) := by decide +kernel
theorem dX9_of_83 : decode cX9_of 83 = .ok (.aload_n 0, 1) := by decide +kernel
theorem dX9_of_84 : decode cX9_of 84 = .ok (.iload_n 1, 1) := by decide +kernel
theorem dX9_of_85 : decode cX9_of 85 = .ok (.invokevirtual 294, 3) := by decide +kernel
theorem dX9_of_88 : decode cX9_of 88 = .ok (.ireturn, 1) := by decide +kernel
theorem dX9_of_89 : decode cX9_of 89 = .ok (.aload_n 0, 1) := by decide +kernel
theorem dX9_of_90 : decode cX9_of 90 = .ok (.iload_n 1, 1) := by decide +kernel
theorem dX9_of_91 : decode cX9_of 91 = .ok (.aload_n 0, 1) := by decide +kernel
theorem dX9_of_92 : decode cX9_of 92 = .ok (.getfield 13, 3) := by decide +kernel
theorem dX9_of_95 : decode cX9_of 95 = .ok (.iload_n 3, 1) := by decide +kernel
theorem dX9_of_96 : decode cX9_of 96 = .ok (.iaload, 1) := by decide +kernel
theorem dX9_of_97 : decode cX9_of 97 = .ok (.aload_n 0, 1) := by decide +kernel
theorem dX9_of_98 : decode cX9_of 98 = .ok (.getfield 13, 3) := by decide +kernel
theorem dX9_of_101 : decode cX9_of 101 = .ok (.iload_n 3, 1) := by decide +kernel
theorem dX9_of_102 : decode cX9_of 102 = .ok (.iconst 1, 1) := by decide +kernel
theorem dX9_of_103 : decode cX9_of 103 = .ok (.iadd, 1) := by decide +kernel
theorem dX9_of_104 : decode cX9_of 104 = .ok (.iaload, 1) := by decide +kernel
theorem dX9_of_105 : decode cX9_of 105 = .ok (.invokevirtual 297, 3) := by decide +kernel
theorem dX9_of_108 : decode cX9_of 108 = .ok (.aload_n 0, 1) := by decide +kernel
theorem dX9_of_109 : decode cX9_of 109 = .ok (.getfield 13, 3) := by decide +kernel
theorem dX9_of_112 : decode cX9_of 112 = .ok (.iload_n 3, 1) := by decide +kernel
theorem dX9_of_113 : decode cX9_of 113 = .ok (.iconst 3, 1) := by decide +kernel
theorem dX9_of_114 : decode cX9_of 114 = .ok (.iadd, 1) := by decide +kernel
theorem dX9_of_115 : decode cX9_of 115 = .ok (.iaload, 1) := by decide +kernel
theorem dX9_of_116 : decode cX9_of 116 = .ok (.invokestatic 288, 3) := by decide +kernel
theorem dX9_of_119 : decode cX9_of 119 = .ok (.iadd, 1) := by decide +kernel
theorem dX9_of_120 : decode cX9_of 120 = .ok (.ireturn, 1) := by decide +kernel
theorem dX9_of_121 : decode cX9_of 121 = .ok (.aload_n 0, 1) := by decide +kernel
theorem dX9_of_122 : decode cX9_of 122 = .ok (.iload_n 1, 1) := by decide +kernel
theorem dX9_of_123 : decode cX9_of 123 = .ok (.invokevirtual 301, 3) := by decide +kernel
theorem dX9_of_126 : decode cX9_of 126 = .ok (.ireturn, 1) := by decide +kernel
theorem dX9_of_127 : decode cX9_of 127 = .ok (.aload_n 0, 1) := by decide +kernel
theorem dX9_of_128 : decode cX9_of 128 = .ok (.getfield 13, 3) := by decide +kernel
theorem dX9_of_131 : decode cX9_of 131 = .ok (.iload_n 3, 1) := by decide +kernel
theorem dX9_of_132 : decode cX9_of 132 = .ok (.iconst 4, 1) := by decide +kernel
theorem dX9_of_133 : decode cX9_of 133 = .ok (.iadd, 1) := by decide +kernel
theorem dX9_of_134 : decode cX9_of 134 = .ok (.iaload, 1) := by decide +kernel
theorem dX9_of_135 : decode cX9_of 135 = .ok (.ireturn, 1) := by decide +kernel
set_option maxRecDepth 20000 in
theorem ggX9_step_X9_isChord : GoodIn wsX9_step wsX9_isChord := goodIn_r _ [9, 10, 11, 12, 8, 13, 31, 32, 33, 34, 35, 36, 37, 38, 39, 40, 41, 42, 43, 44, 45, 46, 47, 48, 49, 50, 51, 52, 53, 54, 55, 56, 57, 58, 59, 60, 61, 62, 63, 64, 65, 66] (by decide +kernel) (by decide +kernel)
set_option maxRecDepth 20000 in
theorem gX9_step_X9_isChord : GoodIn wsX9_step (wsV RX9 291 RX9 yX9_isChord wsX9_isChord) := goodIn_app (goodIn_of _ (by decide +kernel)) ggX9_step_X9_isChord
set_option maxRecDepth 20000 in
theorem ggX9_step_X9_isIn : GoodIn wsX9_step wsX9_isIn := goodIn_r _ [13] (by decide +kernel) (by decide +kernel)
set_option maxRecDepth 20000 in
theorem gX9_step_X9_isIn : GoodIn wsX9_step (va_wsS RX9 215 yX9_isIn wsX9_isIn) := goodIn_app (goodIn_of _ (by decide +kernel)) ggX9_step_X9_isIn
set_option maxRecDepth 20000 in
theorem ggX9_step_X9_bassOf : GoodIn wsX9_step wsX9_bassOf := goodIn_r _ [17, 2, 18, 19, 8, 20, 21, 22, 23, 31, 32, 33, 34, 35, 36, 37, 38, 39, 40, 41, 42, 43, 44, 45, 46, 47, 48, 49, 50, 51, 52, 53, 54, 55, 56, 57, 58, 59, 60, 61, 62, 63, 64, 65, 66] (by decide +kernel) (by decide +kernel)
set_option maxRecDepth 20000 in
theorem gX9_step_X9_bassOf : GoodIn wsX9_step (wsV RX9 278 RX9 yX9_bassOf wsX9_bassOf) := goodIn_app (goodIn_of _ (by decide +kernel)) ggX9_step_X9_bassOf
set_option maxRecDepth 20000 in
theorem ggX9_step_X9_signsOf : GoodIn wsX9_step wsX9_signsOf := goodIn_r _ [26, 18, 19, 8, 20, 21, 22, 23] (by decide +kernel) (by decide +kernel)
set_option maxRecDepth 20000 in
theorem gX9_step_X9_signsOf : GoodIn wsX9_step (va_wsS RX9 284 yX9_signsOf wsX9_signsOf) := goodIn_app (goodIn_of _ (by decide +kernel)) ggX9_step_X9_signsOf
set_option maxRecDepth 20000 in
theorem ggX9_step_X9_rootOf : GoodIn wsX9_step wsX9_rootOf := goodIn_r _ [30, 2, 18, 19, 8, 20, 21, 22, 23, 31, 32, 33, 34, 35, 36, 37, 38, 39, 40, 41, 42, 43, 44, 45, 46, 47, 48, 49, 50, 51, 52, 53, 54, 55, 56, 57, 58, 59, 60, 61, 62, 63, 64, 65, 66] (by decide +kernel) (by decide +kernel)
set_option maxRecDepth 20000 in
theorem gX9_step_X9_rootOf : GoodIn wsX9_step (wsV RX9 281 RX9 yX9_rootOf wsX9_rootOf) := goodIn_app (goodIn_of _ (by decide +kernel)) ggX9_step_X9_rootOf
theorem dX9_step_0 : decode cX9_step 0 = .ok (.aload_n 0, 1) := by decide +kernel
theorem dX9_step_1 : decode cX9_step 1 = .ok (.iload_n 1, 1) := by decide +kernel
theorem dX9_step_2 : decode cX9_step 2 = .ok (.invokevirtual 291, 3) := by decide +kernel
theorem dX9_step_5 : decode cX9_step 5 = .ok (.ifCond .eq 36, 3) := by decide +kernel
theorem dX9_step_8 : decode cX9_step 8 = .ok (.iload_n 2, 1) := by decide +kernel
theorem dX9_step_9 : decode cX9_step 9 = .ok (.iconst (-1), 1) := by decide +kernel
theorem dX9_step_10 : decode cX9_step 10 = .ok (.aload_n 0, 1) := by decide +kernel
theorem dX9_step_11 : decode cX9_step 11 = .ok (.getfield 23, 3) := by decide +kernel
theorem dX9_step_14 : decode cX9_step 14 = .ok (.iload_n 1, 1) := by decide +kernel
theorem dX9_step_15 : decode cX9_step 15 = .ok (.iaload, 1) := by decide +kernel
theorem dX9_step_16 : decode cX9_step 16 = .ok (.iconst 1, 1) := by decide +kernel
theorem dX9_step_17 : decode cX9_step 17 = .ok (.isub, 1) := by decide +kernel
theorem dX9_step_18 : decode cX9_step 18 = .ok (.invokestatic 215, 3) := by decide +kernel
theorem dX9_step_21 : decode cX9_step 21 = .ok (.ifCond .eq 20, 3) := by decide +kernel
theorem dX9_step_24 : decode cX9_step 24 = .ok (.iload_n 3, 1) := by decide +kernel
theorem dX9_step_25 : decode cX9_step 25 = .ok (.iload_n 2, 1) := by decide +kernel
theorem dX9_step_26 : decode cX9_step 26 = .ok (.ifCond .ge 7, 3) := by decide +kernel
theorem dX9_step_29 : decode cX9_step 29 = .ok (.iconst 2, 1) := by decide +kernel
theorem dX9_step_30 : decode cX9_step 30 = .ok (.goto 4, 3) := by decide +kernel
theorem dX9_step_33 : decode cX9_step 33 = .ok (.iconst 0, 1) := by decide +kernel
theorem dX9_step_34 : decode cX9_step 34 = .ok (.iconst 4, 1) := by decide +kernel
theorem dX9_step_35 : decode cX9_step 35 = .ok (.invokestatic 215, 3) := by decide +kernel
theorem dX9_step_38 : decode cX9_step 38 = .ok (.ifCond .ne 5, 3) := by decide +kernel
theorem dX9_step_41 : decode cX9_step 41 = .ok (.iconst (-1), 1) := by decide +kernel
theorem dX9_step_42 : decode cX9_step 42 = .ok (.ireturn, 1) := by decide +kernel
theorem dX9_step_43 : decode cX9_step 43 = .ok (.iconst 5, 1) := by decide +kernel
theorem dX9_step_44 : decode cX9_step 44 = .ok (.iload_n 1, 1) := by decide +kernel
theorem dX9_step_45 : decode cX9_step 45 = .ok (.imul, 1) := by decide +kernel
theorem dX9_step_46 : decode cX9_step 46 = .ok (.istore 4, 2) := by decide +kernel
theorem dX9_step_48 : decode cX9_step 48 = .ok (.iload_n 2, 1) := by decide +kernel
theorem dX9_step_49 : decode cX9_step 49 = .ok (.ifCond .ge 43, 3) := by decide +kernel
theorem dX9_step_52 : decode cX9_step 52 = .ok (.iload_n 3, 1) := by decide +kernel
theorem dX9_step_53 : decode cX9_step 53 = .ok (.iconst 2, 1) := by decide +kernel
theorem dX9_step_54 : decode cX9_step 54 = .ok (.if_icmp .ne 15, 3) := by decide +kernel
theorem dX9_step_57 : decode cX9_step 57 = .ok (.aload_n 0, 1) := by decide +kernel
theorem dX9_step_58 : decode cX9_step 58 = .ok (.getfield 13, 3) := by decide +kernel
theorem dX9_step_61 : decode cX9_step 61 = .ok (.iload 4, 2) := by decide +kernel
theorem dX9_step_63 : decode cX9_step 63 = .ok (.iconst 2, 1) := by decide +kernel
theorem dX9_step_64 : decode cX9_step 64 = .ok (.iadd, 1) := by decide +kernel
theorem dX9_step_65 : decode cX9_step 65 = .ok (.iaload, 1) := by decide +kernel
theorem dX9_step_66 : decode cX9_step 66 = .ok (.goto 25, 3) := by decide +kernel
theorem dX9_step_69 : decode cX9_step 69 = .ok (.iload_n 3, 1) := by decide +kernel
theorem dX9_step_70 : decode cX9_step 70 = .ok (.iconst 3, 1) := by decide +kernel
theorem dX9_step_71 : decode cX9_step 71 = .ok (.if_icmp .ne 15, 3) := by decide +kernel
theorem dX9_step_74 : decode cX9_step 74 = .ok (.aload_n 0, 1) := by decide +kernel
theorem dX9_step_75 : decode cX9_step 75 = .ok (.getfield 13, 3) := by decide +kernel
theorem dX9_step_78 : decode cX9_step 78 = .ok (.iload 4, 2) := by decide +kernel
theorem dX9_step_80 : decode cX9_step 80 = .ok (.iconst 3, 1) := by decide +kernel
theorem dX9_step_81 : decode cX9_step 81 = .ok (.iadd, 1) := by decide +kernel
theorem dX9_step_82 : decode cX9_step 82 = .ok (.iaload, 1) := by decide +kernel
theorem dX9_step_83 : decode cX9_step 83 = .ok (.goto 8, 3) := by decide +kernel
theorem dX9_step_86 : decode cX9_step 86 = .ok (.aload_n 0, 1) := by decide +kernel
theorem dX9_step_87 : decode cX9_step 87 = .ok (.iload_n 1, 1) := by decide +kernel
theorem dX9_step_88 : decode cX9_step 88 = .ok (.invokevirtual 278, 3) := by decide +kernel
theorem dX9_step_91 : decode cX9_step 91 = .ok (.ireturn, 1) := by decide +kernel
theorem dX9_step_92 : decode cX9_step 92 = .ok (.aload_n 0, 1) := by decide +kernel
theorem dX9_step_93 : decode cX9_step 93 = .ok (.getfield 17, 3) := by decide +kernel
theorem dX9_step_96 : decode cX9_step 96 = .ok (.bipush 16, 2) := by decide +kernel
theorem dX9_step_98 : decode cX9_step 98 = .ok (.iload_n 1, 1) := by decide +kernel
theorem dX9_step_99 : decode cX9_step 99 = .ok (.imul, 1) := by decide +kernel
theorem dX9_step_100 : decode cX9_step 100 = .ok (.iload_n 2, 1) := by decide +kernel
theorem dX9_step_101 : decode cX9_step 101 = .ok (.iadd, 1) := by decide +kernel
theorem dX9_step_102 : decode cX9_step 102 = .ok (.iaload, 1) := by decide +kernel
theorem dX9_step_103 : decode cX9_step 103 = .ok (.istore 5, 2) := by decide +kernel
theorem dX9_step_105 : decode cX9_step 105 = .ok (.aload_n 0, 1) := by decide +kernel
theorem dX9_step_106 : decode cX9_step 106 = .ok (.getfield 20, 3) := by decide +kernel
theorem dX9_step_109 : decode cX9_step 109 = .ok (.bipush 16, 2) := by decide +kernel
theorem dX9_step_111 : decode cX9_step 111 = .ok (.iload_n 1, 1) := by decide +kernel
theorem dX9_step_112 : decode cX9_step 112 = .ok (.imul, 1) := by decide +kernel
theorem dX9_step_113 : decode cX9_step 113 = .ok (.iload_n 2, 1) := by decide +kernel
theorem dX9_step_114 : decode cX9_step 114 = .ok (.iadd, 1) := by decide +kernel
theorem dX9_step_115 : decode cX9_step 115 = .ok (.iaload, 1) := by decide +kernel
theorem dX9_step_116 : decode cX9_step 116 = .ok (.istore 6, 2) := by decide +kernel
theorem dX9_step_118 : decode cX9_step 118 = .ok (.iload_n 3, 1) := by decide +kernel
theorem dX9_step_119 : decode cX9_step 119 = .ok (.tableswitch 75 0 3 #[29, 32, 35, 51], 29) := by decide +kernel
theorem dX9_step_148 : decode cX9_step 148 = .ok (.iload 5, 2) := by decide +kernel
theorem dX9_step_150 : decode cX9_step 150 = .ok (.ireturn, 1) := by decide +kernel
theorem dX9_step_151 : decode cX9_step 151 = .ok (.iload 6, 2) := by decide +kernel
theorem dX9_step_153 : decode cX9_step 153 = .ok (.ireturn, 1) := by decide +kernel
theorem dX9_step_154 : decode cX9_step 154 = .ok (.aload_n 0, 1) := by decide +kernel
theorem dX9_step_155 : decode cX9_step 155 = .ok (.getfield 13, 3) := by decide +kernel
theorem dX9_step_158 : decode cX9_step 158 = .ok (.iload 4, 2) := by decide +kernel
theorem dX9_step_160 : decode cX9_step 160 = .ok (.iaload, 1) := by decide +kernel
theorem dX9_step_161 : decode cX9_step 161 = .ok (.iload 6, 2) := by decide +kernel
theorem dX9_step_163 : decode cX9_step 163 = .ok (.iadd, 1) := by decide +kernel
theorem dX9_step_164 : decode cX9_step 164 = .ok (.iconst 1, 1) := by decide +kernel
theorem dX9_step_165 : decode cX9_step 165 = .ok (.isub, 1) := by decide +kernel
theorem dX9_step_166 : decode cX9_step 166 = .ok (.bipush 7, 2) := by decide +kernel
theorem dX9_step_168 : decode cX9_step 168 = .ok (.irem, 1) := by decide +kernel
theorem dX9_step_169 : decode cX9_step 169 = .ok (.ireturn, 1) := by decide +kernel
theorem dX9_step_170 : decode cX9_step 170 = .ok (.aload_n 0, 1) := by decide +kernel
theorem dX9_step_171 : decode cX9_step 171 = .ok (.getfield 13, 3) := by decide +kernel
theorem dX9_step_174 : decode cX9_step 174 = .ok (.iload 4, 2) := by decide +kernel
theorem dX9_step_176 : decode cX9_step 176 = .ok (.iaload, 1) := by decide +kernel
theorem dX9_step_177 : decode cX9_step 177 = .ok (.aload_n 0, 1) := by decide +kernel
theorem dX9_step_178 : decode cX9_step 178 = .ok (.getfield 13, 3) := by decide +kernel
theorem dX9_step_181 : decode cX9_step 181 = .ok (.iload 4, 2) := by decide +kernel
theorem dX9_step_183 : decode cX9_step 183 = .ok (.iconst 1, 1) := by decide +kernel
theorem dX9_step_184 : decode cX9_step 184 = .ok (.iadd, 1) := by decide +kernel
theorem dX9_step_185 : decode cX9_step 185 = .ok (.iaload, 1) := by decide +kernel
theorem dX9_step_186 : decode cX9_step 186 = .ok (.iload 5, 2) := by decide +kernel
theorem dX9_step_188 : decode cX9_step 188 = .ok (.iload 6, 2) := by decide +kernel
theorem dX9_step_190 : decode cX9_step 190 = .ok (.invokestatic 284, 3) := by decide +kernel
theorem dX9_step_193 : decode cX9_step 193 = .ok (.ireturn, 1) := by decide +kernel
theorem dX9_step_194 : decode cX9_step 194 = .ok (.aload_n 0, 1) := by decide +kernel
theorem dX9_step_195 : decode cX9_step 195 = .ok (.iload_n 1, 1) := by decide +kernel
theorem dX9_step_196 : decode cX9_step 196 = .ok (.invokevirtual 281, 3) := by decide +kernel
theorem dX9_step_199 : decode cX9_step 199 = .ok (.iload 5, 2) := by decide +kernel
theorem dX9_step_201 : decode cX9_step 201 = .ok (.iadd, 1) := by decide +kernel
theorem dX9_step_202 : decode cX9_step 202 = .ok (.bipush 12, 2) := by decide +kernel
theorem dX9_step_204 : decode cX9_step 204 = .ok (.irem, 1) := by decide +kernel
theorem dX9_step_205 : decode cX9_step 205 = .ok (.ireturn, 1) := by decide +kernel
theorem dX9_shows_0 : decode cX9_shows 0 = .ok (.aload_n 0, 1) := by decide +kernel
theorem dX9_shows_1 : decode cX9_shows 1 = .ok (.getfield 26, 3) := by decide +kernel
theorem dX9_shows_4 : decode cX9_shows 4 = .ok (.aload_n 0, 1) := by decide +kernel
theorem dX9_shows_5 : decode cX9_shows 5 = .ok (.getfield 304, 3) := by decide +kernel
theorem dX9_shows_8 : decode cX9_shows 8 = .ok (.iload_n 1, 1) := by decide +kernel
theorem dX9_shows_9 : decode cX9_shows 9 = .ok (.i2b, 1) := by decide +kernel
theorem dX9_shows_10 : decode cX9_shows 10 = .ok (.bastore, 1) := by decide +kernel
theorem dX9_shows_11 : decode cX9_shows 11 = .ok (.aload_n 0, 1) := by decide +kernel
theorem dX9_shows_12 : decode cX9_shows 12 = .ok (.dup, 1) := by decide +kernel
theorem dX9_shows_13 : decode cX9_shows 13 = .ok (.getfield 304, 3) := by decide +kernel
theorem dX9_shows_16 : decode cX9_shows 16 = .ok (.iconst 1, 1) := by decide +kernel
theorem dX9_shows_17 : decode cX9_shows 17 = .ok (.iadd, 1) := by decide +kernel
theorem dX9_shows_18 : decode cX9_shows 18 = .ok (.putfield 304, 3) := by decide +kernel
theorem dX9_shows_21 : decode cX9_shows 21 = .ok (.return_, 1) := by decide +kernel
set_option maxRecDepth 20000 in
theorem ggX9_showsWord_X9_lengthOf : GoodIn wsX9_showsWord wsX9_lengthOf := goodIn_r _ [4] (by decide +kernel) (by decide +kernel)
set_option maxRecDepth 20000 in
theorem gX9_showsWord_X9_lengthOf : GoodIn wsX9_showsWord (va_wsS RX9 190 yX9_lengthOf wsX9_lengthOf) := goodIn_app (goodIn_of _ (by decide +kernel)) ggX9_showsWord_X9_lengthOf
set_option maxRecDepth 20000 in
theorem ggX9_showsWord_X9_byteOf : GoodIn wsX9_showsWord wsX9_byteOf := goodIn_r _ [7, 1, 2, 3, 4] (by decide +kernel) (by decide +kernel)
set_option maxRecDepth 20000 in
theorem gX9_showsWord_X9_byteOf : GoodIn wsX9_showsWord (va_wsS RX9 198 yX9_byteOf wsX9_byteOf) := goodIn_app (goodIn_of _ (by decide +kernel)) ggX9_showsWord_X9_byteOf
set_option maxRecDepth 20000 in
theorem ggX9_showsWord_X9_shows : GoodIn wsX9_showsWord wsX9_shows := goodIn_r _ [11, 12, 13, 14, 15, 16, 17, 18, 19, 20, 21, 22, 23, 24, 25, 26, 27, 28, 29, 30, 31, 32, 33, 34, 35, 36, 37, 38, 39, 40, 41, 42, 43, 44, 45, 46, 47, 48, 49] (by decide +kernel) (by decide +kernel)
set_option maxRecDepth 20000 in
theorem gX9_showsWord_X9_shows : GoodIn wsX9_showsWord (wsV RX9 307 RX9 yX9_shows wsX9_shows) := goodIn_app (goodIn_of _ (by decide +kernel)) ggX9_showsWord_X9_shows
theorem dX9_showsWord_0 : decode cX9_showsWord 0 = .ok (.lload_n 1, 1) := by decide +kernel
theorem dX9_showsWord_1 : decode cX9_showsWord 1 = .ok (.invokestatic 190, 3) := by decide +kernel
theorem dX9_showsWord_4 : decode cX9_showsWord 4 = .ok (.istore_n 3, 1) := by decide +kernel
theorem dX9_showsWord_5 : decode cX9_showsWord 5 = .ok (.iconst 0, 1) := by decide +kernel
theorem dX9_showsWord_6 : decode cX9_showsWord 6 = .ok (.istore 4, 2) := by decide +kernel
theorem dX9_showsWord_8 : decode cX9_showsWord 8 = .ok (.iload 4, 2) := by decide +kernel
theorem dX9_showsWord_10 : decode cX9_showsWord 10 = .ok (.iload_n 3, 1) := by decide +kernel
theorem dX9_showsWord_11 : decode cX9_showsWord 11 = .ok (.if_icmp .ge 19, 3) := by decide +kernel
theorem dX9_showsWord_14 : decode cX9_showsWord 14 = .ok (.aload_n 0, 1) := by decide +kernel
theorem dX9_showsWord_15 : decode cX9_showsWord 15 = .ok (.lload_n 1, 1) := by decide +kernel
theorem dX9_showsWord_16 : decode cX9_showsWord 16 = .ok (.iload 4, 2) := by decide +kernel
theorem dX9_showsWord_18 : decode cX9_showsWord 18 = .ok (.invokestatic 198, 3) := by decide +kernel
theorem dX9_showsWord_21 : decode cX9_showsWord 21 = .ok (.invokevirtual 307, 3) := by decide +kernel
theorem dX9_showsWord_24 : decode cX9_showsWord 24 = .ok (.iinc 4 1, 3) := by decide +kernel
theorem dX9_showsWord_27 : decode cX9_showsWord 27 = .ok (.goto (-19), 3) := by decide +kernel
theorem dX9_showsWord_30 : decode cX9_showsWord 30 = .ok (.return_, 1) := by decide +kernel
set_option maxRecDepth 20000 in
theorem ggX9_showsNote_X9_shows : GoodIn wsX9_showsNote wsX9_shows := goodIn_r _ [5, 6, 7, 11, 12, 13, 14, 15, 16, 17, 18, 19, 20, 21, 22, 23, 24, 25, 26, 27, 28, 29, 30, 31, 32, 33, 34, 35, 36, 37, 38, 39, 40, 41, 42, 43, 44, 45, 46] (by decide +kernel) (by decide +kernel)
set_option maxRecDepth 20000 in
theorem gX9_showsNote_X9_shows : GoodIn wsX9_showsNote (wsV RX9 307 RX9 yX9_shows wsX9_shows) := goodIn_app (goodIn_of _ (by decide +kernel)) ggX9_showsNote_X9_shows
set_option maxRecDepth 20000 in
theorem ggX9_showsNote_X9_size : GoodIn wsX9_showsNote wsX9_size := goodIn_r _ [10] (by decide +kernel) (by decide +kernel)
set_option maxRecDepth 20000 in
theorem gX9_showsNote_X9_size : GoodIn wsX9_showsNote (va_wsS RX9 288 yX9_size wsX9_size) := goodIn_app (goodIn_of _ (by decide +kernel)) ggX9_showsNote_X9_size
theorem dX9_showsNote_0 : decode cX9_showsNote 0 = .ok (.aload_n 0, 1) := by decide +kernel
theorem dX9_showsNote_1 : decode cX9_showsNote 1 = .ok (.iload_n 1, 1) := by decide +kernel
theorem dX9_showsNote_2 : decode cX9_showsNote 2 = .ok (.iconst 5, 1) := by decide +kernel
theorem dX9_showsNote_3 : decode cX9_showsNote 3 = .ok (.if_icmp .ge 10, 3) := by decide +kernel
theorem dX9_showsNote_6 : decode cX9_showsNote 6 = .ok (.bipush 67, 2) := by decide +kernel
theorem dX9_showsNote_8 : decode cX9_showsNote 8 = .ok (.iload_n 1, 1) := by decide +kernel
theorem dX9_showsNote_9 : decode cX9_showsNote 9 = .ok (.iadd, 1) := by decide +kernel
theorem dX9_showsNote_10 : decode cX9_showsNote 10 = .ok (.goto 9, 3) := by decide +kernel
theorem dX9_showsNote_13 : decode cX9_showsNote 13 = .ok (.bipush 65, 2) := by decide +kernel
theorem dX9_showsNote_15 : decode cX9_showsNote 15 = .ok (.iload_n 1, 1) := by decide +kernel
theorem dX9_showsNote_16 : decode cX9_showsNote 16 = .ok (.iadd, 1) := by decide +kernel
theorem dX9_showsNote_17 : decode cX9_showsNote 17 = .ok (.iconst 5, 1) := by decide +kernel
theorem dX9_showsNote_18 : decode cX9_showsNote 18 = .ok (.isub, 1) := by decide +kernel
theorem dX9_showsNote_19 : decode cX9_showsNote 19 = .ok (.invokevirtual 307, 3) := by decide +kernel
theorem dX9_showsNote_22 : decode cX9_showsNote 22 = .ok (.iconst 0, 1) := by decide +kernel
theorem dX9_showsNote_23 : decode cX9_showsNote 23 = .ok (.istore_n 3, 1) := by decide +kernel
theorem dX9_showsNote_24 : decode cX9_showsNote 24 = .ok (.iload_n 3, 1) := by decide +kernel
theorem dX9_showsNote_25 : decode cX9_showsNote 25 = .ok (.iload_n 2, 1) := by decide +kernel
theorem dX9_showsNote_26 : decode cX9_showsNote 26 = .ok (.invokestatic 288, 3) := by decide +kernel
theorem dX9_showsNote_29 : decode cX9_showsNote 29 = .ok (.if_icmp .ge 24, 3) := by decide +kernel
theorem dX9_showsNote_32 : decode cX9_showsNote 32 = .ok (.aload_n 0, 1) := by decide +kernel
theorem dX9_showsNote_33 : decode cX9_showsNote 33 = .ok (.iload_n 2, 1) := by decide +kernel
theorem dX9_showsNote_34 : decode cX9_showsNote 34 = .ok (.ifCond .ge 8, 3) := by decide +kernel
theorem dX9_showsNote_37 : decode cX9_showsNote 37 = .ok (.bipush 98, 2) := by decide +kernel
theorem dX9_showsNote_39 : decode cX9_showsNote 39 = .ok (.goto 5, 3) := by decide +kernel
theorem dX9_showsNote_42 : decode cX9_showsNote 42 = .ok (.bipush 35, 2) := by decide +kernel
theorem dX9_showsNote_44 : decode cX9_showsNote 44 = .ok (.invokevirtual 307, 3) := by decide +kernel
theorem dX9_showsNote_47 : decode cX9_showsNote 47 = .ok (.iinc 3 1, 3) := by decide +kernel
theorem dX9_showsNote_50 : decode cX9_showsNote 50 = .ok (.goto (-26), 3) := by decide +kernel
theorem dX9_showsNote_53 : decode cX9_showsNote 53 = .ok (.return_, 1) := by decide +kernel
set_option maxRecDepth 20000 in
theorem ggX9_write_X9_isChord : GoodIn wsX9_write wsX9_isChord := goodIn_r _ [6, 7, 8, 9, 5, 10, 64, 65, 66, 67, 68, 69, 70, 71, 72, 73, 74, 75, 76, 77, 78, 79, 80, 81, 82, 83, 84, 85, 86, 87, 88, 89, 90, 91, 92, 93, 94, 95, 96, 97, 98, 99] (by decide +kernel) (by decide +kernel)
set_option maxRecDepth 20000 in
theorem gX9_write_X9_isChord : GoodIn wsX9_write (wsV RX9 291 RX9 yX9_isChord wsX9_isChord) := goodIn_app (goodIn_of _ (by decide +kernel)) ggX9_write_X9_isChord
set_option maxRecDepth 20000 in
theorem ggX9_write_X9_writes : GoodIn wsX9_write wsX9_writes := goodIn_r _ [14, 1, 15, 16, 17, 18, 19, 20, 5, 21, 22, 23, 24, 25, 26, 27, 28, 29, 30, 31, 32, 33, 34, 35, 36, 37, 38, 39, 40, 41, 42, 43, 44, 45, 46, 47, 48, 49, 50, 51, 52, 53, 54, 55, 56, 57, 58, 59, 60, 61, 62, 63, 64, 65, 66, 67, 68, 69, 70, 71, 72, 73, 74, 75, 76, 77, 78, 79, 80, 81, 82, 83, 84, 85, 86, 87, 88, 89, 90, 91, 92, 93, 94, 95, 96, 97, 98, 99] (by decide +kernel) (by decide +kernel)
set_option maxRecDepth 20000 in
theorem gX9_write_X9_writes : GoodIn wsX9_write (wsV RX9 310 RX9 yX9_writes wsX9_writes) := goodIn_app (goodIn_of _ (by decide +kernel)) ggX9_write_X9_writes
theorem dX9_write_0 : decode cX9_write 0 = .ok (.aload_n 0, 1) := by decide +kernel
theorem dX9_write_1 : decode cX9_write 1 = .ok (.iload_n 1, 1) := by decide +kernel
theorem dX9_write_2 : decode cX9_write 2 = .ok (.invokevirtual 291, 3) := by decide +kernel
theorem dX9_write_5 : decode cX9_write 5 = .ok (.ifCond .ne 5, 3) := by decide +kernel
theorem dX9_write_8 : decode cX9_write 8 = .ok (.iconst (-1), 1) := by decide +kernel
theorem dX9_write_9 : decode cX9_write 9 = .ok (.ireturn, 1) := by decide +kernel
theorem dX9_write_10 : decode cX9_write 10 = .ok (.aload_n 0, 1) := by decide +kernel
theorem dX9_write_11 : decode cX9_write 11 = .ok (.iload_n 1, 1) := by decide +kernel
theorem dX9_write_12 : decode cX9_write 12 = .ok (.invokevirtual 310, 3) := by decide +kernel
theorem dX9_write_15 : decode cX9_write 15 = .ok (.aload_n 0, 1) := by decide +kernel
theorem dX9_write_16 : decode cX9_write 16 = .ok (.getfield 304, 3) := by decide +kernel
theorem dX9_write_19 : decode cX9_write 19 = .ok (.ireturn, 1) := by decide +kernel
set_option maxRecDepth 20000 in
theorem ggX9_writes_X9_bodyOf : GoodIn wsX9_writes wsX9_bodyOf := goodIn_r _ [9, 10, 11, 12, 13, 14, 15, 52, 53, 54, 55, 56, 57, 58, 59, 60, 61, 62, 63, 64, 65, 66, 67, 68, 69, 70, 71, 72, 73, 74, 75, 76, 77, 78, 79, 80, 81, 82, 83, 84, 85, 86, 87] (by decide +kernel) (by decide +kernel)
set_option maxRecDepth 20000 in
theorem gX9_writes_X9_bodyOf : GoodIn wsX9_writes (wsV RX9 301 RX9 yX9_bodyOf wsX9_bodyOf) := goodIn_app (goodIn_of _ (by decide +kernel)) ggX9_writes_X9_bodyOf
set_option maxRecDepth 20000 in
theorem ggX9_writes_X9_showsNote : GoodIn wsX9_writes wsX9_showsNote := goodIn_r _ [19, 20, 21, 22, 8, 23, 24, 1, 25, 26, 27, 52, 53, 54, 55, 56, 57, 58, 59, 60, 61, 62, 63, 64, 65, 66, 67, 68, 69, 70, 71, 72, 73, 74, 75, 76, 77, 78, 79, 80, 81, 82, 83, 84, 85, 86, 87] (by decide +kernel) (by decide +kernel)
set_option maxRecDepth 20000 in
theorem gX9_writes_X9_showsNote : GoodIn wsX9_writes (wsV RX9 313 RX9 yX9_showsNote wsX9_showsNote) := goodIn_app (goodIn_of _ (by decide +kernel)) ggX9_writes_X9_showsNote
set_option maxRecDepth 20000 in
theorem ggX9_writes_X9_showsWord : GoodIn wsX9_writes wsX9_showsWord := goodIn_r _ [31, 32, 33, 8, 34, 35, 36, 37, 20, 21, 22, 23, 24, 1, 52, 53, 54, 55, 56, 57, 58, 59, 60, 61, 62, 63, 64, 65, 66, 67, 68, 69, 70, 71, 72, 73, 74, 75, 76, 77, 78, 79, 80, 81, 82, 83, 84, 85, 86, 87] (by decide +kernel) (by decide +kernel)
set_option maxRecDepth 20000 in
theorem gX9_writes_X9_showsWord : GoodIn wsX9_writes (wsV RX9 318 RX9 yX9_showsWord wsX9_showsWord) := goodIn_app (goodIn_of _ (by decide +kernel)) ggX9_writes_X9_showsWord
set_option maxRecDepth 20000 in
theorem ggX9_writes_X9_bassOf : GoodIn wsX9_writes wsX9_bassOf := goodIn_r _ [41, 2, 42, 43, 8, 44, 45, 46, 47, 52, 53, 54, 55, 56, 57, 58, 59, 60, 61, 62, 63, 64, 65, 66, 67, 68, 69, 70, 71, 72, 73, 74, 75, 76, 77, 78, 79, 80, 81, 82, 83, 84, 85, 86, 87] (by decide +kernel) (by decide +kernel)
set_option maxRecDepth 20000 in
theorem gX9_writes_X9_bassOf : GoodIn wsX9_writes (wsV RX9 278 RX9 yX9_bassOf wsX9_bassOf) := goodIn_app (goodIn_of _ (by decide +kernel)) ggX9_writes_X9_bassOf
set_option maxRecDepth 20000 in
theorem ggX9_writes_X9_rootOf : GoodIn wsX9_writes wsX9_rootOf := goodIn_r _ [51, 2, 42, 43, 8, 44, 45, 46, 47, 52, 53, 54, 55, 56, 57, 58, 59, 60, 61, 62, 63, 64, 65, 66, 67, 68, 69, 70, 71, 72, 73, 74, 75, 76, 77, 78, 79, 80, 81, 82, 83, 84, 85, 86, 87] (by decide +kernel) (by decide +kernel)
set_option maxRecDepth 20000 in
theorem gX9_writes_X9_rootOf : GoodIn wsX9_writes (wsV RX9 281 RX9 yX9_rootOf wsX9_rootOf) := goodIn_app (goodIn_of _ (by decide +kernel)) ggX9_writes_X9_rootOf
set_option maxRecDepth 20000 in
theorem ggX9_writes_X9_shows : GoodIn wsX9_writes wsX9_shows := goodIn_r _ [23, 24, 1, 52, 53, 54, 55, 56, 57, 58, 59, 60, 61, 62, 63, 64, 65, 66, 67, 68, 69, 70, 71, 72, 73, 74, 75, 76, 77, 78, 79, 80, 81, 82, 83, 84, 85, 86, 87] (by decide +kernel) (by decide +kernel)
set_option maxRecDepth 20000 in
theorem gX9_writes_X9_shows : GoodIn wsX9_writes (wsV RX9 307 RX9 yX9_shows wsX9_shows) := goodIn_app (goodIn_of _ (by decide +kernel)) ggX9_writes_X9_shows
theorem dX9_writes_0 : decode cX9_writes 0 = .ok (.iconst 5, 1) := by decide +kernel
theorem dX9_writes_1 : decode cX9_writes 1 = .ok (.iload_n 1, 1) := by decide +kernel
theorem dX9_writes_2 : decode cX9_writes 2 = .ok (.imul, 1) := by decide +kernel
theorem dX9_writes_3 : decode cX9_writes 3 = .ok (.istore_n 2, 1) := by decide +kernel
theorem dX9_writes_4 : decode cX9_writes 4 = .ok (.aload_n 0, 1) := by decide +kernel
theorem dX9_writes_5 : decode cX9_writes 5 = .ok (.iload_n 1, 1) := by decide +kernel
theorem dX9_writes_6 : decode cX9_writes 6 = .ok (.invokevirtual 301, 3) := by decide +kernel
theorem dX9_writes_9 : decode cX9_writes 9 = .ok (.istore_n 3, 1) := by decide +kernel
theorem dX9_writes_10 : decode cX9_writes 10 = .ok (.aload_n 0, 1) := by decide +kernel
theorem dX9_writes_11 : decode cX9_writes 11 = .ok (.iconst 0, 1) := by decide +kernel
theorem dX9_writes_12 : decode cX9_writes 12 = .ok (.putfield 304, 3) := by decide +kernel
theorem dX9_writes_15 : decode cX9_writes 15 = .ok (.aload_n 0, 1) := by decide +kernel
theorem dX9_writes_16 : decode cX9_writes 16 = .ok (.aload_n 0, 1) := by decide +kernel
theorem dX9_writes_17 : decode cX9_writes 17 = .ok (.getfield 13, 3) := by decide +kernel
theorem dX9_writes_20 : decode cX9_writes 20 = .ok (.iload_n 2, 1) := by decide +kernel
theorem dX9_writes_21 : decode cX9_writes 21 = .ok (.iaload, 1) := by decide +kernel
theorem dX9_writes_22 : decode cX9_writes 22 = .ok (.aload_n 0, 1) := by decide +kernel
theorem dX9_writes_23 : decode cX9_writes 23 = .ok (.getfield 13, 3) := by decide +kernel
theorem dX9_writes_26 : decode cX9_writes 26 = .ok (.iload_n 2, 1) := by decide +kernel
theorem dX9_writes_27 : decode cX9_writes 27 = .ok (.iconst 1, 1) := by decide +kernel
theorem dX9_writes_28 : decode cX9_writes 28 = .ok (.iadd, 1) := by decide +kernel
theorem dX9_writes_29 : decode cX9_writes 29 = .ok (.iaload, 1) := by decide +kernel
theorem dX9_writes_30 : decode cX9_writes 30 = .ok (.invokevirtual 313, 3) := by decide +kernel
theorem dX9_writes_33 : decode cX9_writes 33 = .ok (.aload_n 0, 1) := by decide +kernel
theorem dX9_writes_34 : decode cX9_writes 34 = .ok (.iload_n 3, 1) := by decide +kernel
theorem dX9_writes_35 : decode cX9_writes 35 = .ok (.bipush (-2), 2) := by decide +kernel
theorem dX9_writes_37 : decode cX9_writes 37 = .ok (.if_icmp .ne 9, 3) := by decide +kernel
theorem dX9_writes_40 : decode cX9_writes 40 = .ok (.ldc2_w 316, 3) := by decide +kernel
theorem dX9_writes_43 : decode cX9_writes 43 = .ok (.goto 9, 3) := by decide +kernel
theorem dX9_writes_46 : decode cX9_writes 46 = .ok (.aload_n 0, 1) := by decide +kernel
theorem dX9_writes_47 : decode cX9_writes 47 = .ok (.getfield 136, 3) := by decide +kernel
theorem dX9_writes_50 : decode cX9_writes 50 = .ok (.iload_n 3, 1) := by decide +kernel
theorem dX9_writes_51 : decode cX9_writes 51 = .ok (.laload, 1) := by decide +kernel
theorem dX9_writes_52 : decode cX9_writes 52 = .ok (.invokevirtual 318, 3) := by decide +kernel
theorem dX9_writes_55 : decode cX9_writes 55 = .ok (.aload_n 0, 1) := by decide +kernel
theorem dX9_writes_56 : decode cX9_writes 56 = .ok (.iload_n 1, 1) := by decide +kernel
theorem dX9_writes_57 : decode cX9_writes 57 = .ok (.invokevirtual 278, 3) := by decide +kernel
theorem dX9_writes_60 : decode cX9_writes 60 = .ok (.aload_n 0, 1) := by decide +kernel
theorem dX9_writes_61 : decode cX9_writes 61 = .ok (.iload_n 1, 1) := by decide +kernel
theorem dX9_writes_62 : decode cX9_writes 62 = .ok (.invokevirtual 281, 3) := by decide +kernel
theorem dX9_writes_65 : decode cX9_writes 65 = .ok (.if_icmp .eq 29, 3) := by decide +kernel
theorem dX9_writes_68 : decode cX9_writes 68 = .ok (.aload_n 0, 1) := by decide +kernel
theorem dX9_writes_69 : decode cX9_writes 69 = .ok (.bipush 47, 2) := by decide +kernel
theorem dX9_writes_71 : decode cX9_writes 71 = .ok (.invokevirtual 307, 3) := by decide +kernel
theorem dX9_writes_74 : decode cX9_writes 74 = .ok (.aload_n 0, 1) := by decide +kernel
theorem dX9_writes_75 : decode cX9_writes 75 = .ok (.aload_n 0, 1) := by decide +kernel
theorem dX9_writes_76 : decode cX9_writes 76 = .ok (.getfield 13, 3) := by decide +kernel
theorem dX9_writes_79 : decode cX9_writes 79 = .ok (.iload_n 2, 1) := by decide +kernel
theorem dX9_writes_80 : decode cX9_writes 80 = .ok (.iconst 2, 1) := by decide +kernel
theorem dX9_writes_81 : decode cX9_writes 81 = .ok (.iadd, 1) := by decide +kernel
theorem dX9_writes_82 : decode cX9_writes 82 = .ok (.iaload, 1) := by decide +kernel
theorem dX9_writes_83 : decode cX9_writes 83 = .ok (.aload_n 0, 1) := by decide +kernel
theorem dX9_writes_84 : decode cX9_writes 84 = .ok (.getfield 13, 3) := by decide +kernel
theorem dX9_writes_87 : decode cX9_writes 87 = .ok (.iload_n 2, 1) := by decide +kernel
theorem dX9_writes_88 : decode cX9_writes 88 = .ok (.iconst 3, 1) := by decide +kernel
theorem dX9_writes_89 : decode cX9_writes 89 = .ok (.iadd, 1) := by decide +kernel
theorem dX9_writes_90 : decode cX9_writes 90 = .ok (.iaload, 1) := by decide +kernel
theorem dX9_writes_91 : decode cX9_writes 91 = .ok (.invokevirtual 313, 3) := by decide +kernel
theorem dX9_writes_94 : decode cX9_writes 94 = .ok (.return_, 1) := by decide +kernel
set_option maxRecDepth 20000 in
theorem ggX9_shown_X9_isIn : GoodIn wsX9_shown wsX9_isIn := goodIn_r _ [6] (by decide +kernel) (by decide +kernel)
set_option maxRecDepth 20000 in
theorem gX9_shown_X9_isIn : GoodIn wsX9_shown (va_wsS RX9 215 yX9_isIn wsX9_isIn) := goodIn_app (goodIn_of _ (by decide +kernel)) ggX9_shown_X9_isIn
theorem dX9_shown_0 : decode cX9_shown 0 = .ok (.iload_n 1, 1) := by decide +kernel
theorem dX9_shown_1 : decode cX9_shown 1 = .ok (.iconst 0, 1) := by decide +kernel
theorem dX9_shown_2 : decode cX9_shown 2 = .ok (.aload_n 0, 1) := by decide +kernel
theorem dX9_shown_3 : decode cX9_shown 3 = .ok (.getfield 304, 3) := by decide +kernel
theorem dX9_shown_6 : decode cX9_shown 6 = .ok (.iconst 1, 1) := by decide +kernel
theorem dX9_shown_7 : decode cX9_shown 7 = .ok (.isub, 1) := by decide +kernel
theorem dX9_shown_8 : decode cX9_shown 8 = .ok (.invokestatic 215, 3) := by decide +kernel
theorem dX9_shown_11 : decode cX9_shown 11 = .ok (.ifCond .eq 12, 3) := by decide +kernel
theorem dX9_shown_14 : decode cX9_shown 14 = .ok (.aload_n 0, 1) := by decide +kernel
theorem dX9_shown_15 : decode cX9_shown 15 = .ok (.getfield 26, 3) := by decide +kernel
theorem dX9_shown_18 : decode cX9_shown 18 = .ok (.iload_n 1, 1) := by decide +kernel
theorem dX9_shown_19 : decode cX9_shown 19 = .ok (.baload, 1) := by decide +kernel
theorem dX9_shown_20 : decode cX9_shown 20 = .ok (.goto 4, 3) := by decide +kernel
theorem dX9_shown_23 : decode cX9_shown 23 = .ok (.iconst (-1), 1) := by decide +kernel
theorem dX9_shown_24 : decode cX9_shown 24 = .ok (.ireturn, 1) := by decide +kernel
set_option maxRecDepth 20000 in
theorem ggX9_letterOf_X9_pitchOf : GoodIn wsX9_letterOf wsX9_pitchOf := goodIn_r _ [4] (by decide +kernel) (by decide +kernel)
set_option maxRecDepth 20000 in
theorem gX9_letterOf_X9_pitchOf : GoodIn wsX9_letterOf (va_wsS RX9 272 yX9_pitchOf wsX9_pitchOf) := goodIn_app (goodIn_of _ (by decide +kernel)) ggX9_letterOf_X9_pitchOf
set_option maxRecDepth 20000 in
theorem ggX9_letterOf_X9_mod12 : GoodIn wsX9_letterOf wsX9_mod12 := goodIn_r _ [7] (by decide +kernel) (by decide +kernel)
set_option maxRecDepth 20000 in
theorem gX9_letterOf_X9_mod12 : GoodIn wsX9_letterOf (va_wsS RX9 275 yX9_mod12 wsX9_mod12) := goodIn_app (goodIn_of _ (by decide +kernel)) ggX9_letterOf_X9_mod12
theorem dX9_letterOf_0 : decode cX9_letterOf 0 = .ok (.iconst 0, 1) := by decide +kernel
theorem dX9_letterOf_1 : decode cX9_letterOf 1 = .ok (.istore_n 2, 1) := by decide +kernel
theorem dX9_letterOf_2 : decode cX9_letterOf 2 = .ok (.iload_n 2, 1) := by decide +kernel
theorem dX9_letterOf_3 : decode cX9_letterOf 3 = .ok (.bipush 7, 2) := by decide +kernel
theorem dX9_letterOf_5 : decode cX9_letterOf 5 = .ok (.if_icmp .ge 24, 3) := by decide +kernel
theorem dX9_letterOf_8 : decode cX9_letterOf 8 = .ok (.iload_n 2, 1) := by decide +kernel
theorem dX9_letterOf_9 : decode cX9_letterOf 9 = .ok (.invokestatic 272, 3) := by decide +kernel
theorem dX9_letterOf_12 : decode cX9_letterOf 12 = .ok (.iload_n 1, 1) := by decide +kernel
theorem dX9_letterOf_13 : decode cX9_letterOf 13 = .ok (.iadd, 1) := by decide +kernel
theorem dX9_letterOf_14 : decode cX9_letterOf 14 = .ok (.invokestatic 275, 3) := by decide +kernel
theorem dX9_letterOf_17 : decode cX9_letterOf 17 = .ok (.iload_n 0, 1) := by decide +kernel
theorem dX9_letterOf_18 : decode cX9_letterOf 18 = .ok (.if_icmp .ne 5, 3) := by decide +kernel
theorem dX9_letterOf_21 : decode cX9_letterOf 21 = .ok (.iload_n 2, 1) := by decide +kernel
theorem dX9_letterOf_22 : decode cX9_letterOf 22 = .ok (.ireturn, 1) := by decide +kernel
theorem dX9_letterOf_23 : decode cX9_letterOf 23 = .ok (.iinc 2 1, 3) := by decide +kernel
theorem dX9_letterOf_26 : decode cX9_letterOf 26 = .ok (.goto (-24), 3) := by decide +kernel
theorem dX9_letterOf_29 : decode cX9_letterOf 29 = .ok (.bipush (-2), 2) := by decide +kernel
theorem dX9_letterOf_31 : decode cX9_letterOf 31 = .ok (.ireturn, 1) := by decide +kernel
set_option maxRecDepth 20000 in
theorem ggX9_spelt_X9_letterOf : GoodIn wsX9_spelt wsX9_letterOf := goodIn_r _ [7, 8, 9, 6, 10, 11, 12, 13] (by decide +kernel) (by decide +kernel)
set_option maxRecDepth 20000 in
theorem gX9_spelt_X9_letterOf : GoodIn wsX9_spelt (va_wsS RX9 322 yX9_letterOf wsX9_letterOf) := goodIn_app (goodIn_of _ (by decide +kernel)) ggX9_spelt_X9_letterOf
set_option maxRecDepth 20000 in
theorem ggX9_spelt_X9_size : GoodIn wsX9_spelt wsX9_size := goodIn_r _ [16] (by decide +kernel) (by decide +kernel)
set_option maxRecDepth 20000 in
theorem gX9_spelt_X9_size : GoodIn wsX9_spelt (va_wsS RX9 288 yX9_size wsX9_size) := goodIn_app (goodIn_of _ (by decide +kernel)) ggX9_spelt_X9_size
set_option maxRecDepth 20000 in
theorem ggX9_spelt_X9_signsOf : GoodIn wsX9_spelt wsX9_signsOf := goodIn_r _ [19, 8, 9, 6, 10, 11, 12, 13] (by decide +kernel) (by decide +kernel)
set_option maxRecDepth 20000 in
theorem gX9_spelt_X9_signsOf : GoodIn wsX9_spelt (va_wsS RX9 284 yX9_signsOf wsX9_signsOf) := goodIn_app (goodIn_of _ (by decide +kernel)) ggX9_spelt_X9_signsOf
theorem dX9_spelt_0 : decode cX9_spelt 0 = .ok (.bipush (-2), 2) := by decide +kernel
theorem dX9_spelt_2 : decode cX9_spelt 2 = .ok (.istore_n 3, 1) := by decide +kernel
theorem dX9_spelt_3 : decode cX9_spelt 3 = .ok (.iconst 0, 1) := by decide +kernel
theorem dX9_spelt_4 : decode cX9_spelt 4 = .ok (.istore 4, 2) := by decide +kernel
theorem dX9_spelt_6 : decode cX9_spelt 6 = .ok (.iconst (-1), 1) := by decide +kernel
theorem dX9_spelt_7 : decode cX9_spelt 7 = .ok (.istore 5, 2) := by decide +kernel
theorem dX9_spelt_9 : decode cX9_spelt 9 = .ok (.iload 5, 2) := by decide +kernel
theorem dX9_spelt_11 : decode cX9_spelt 11 = .ok (.iconst 1, 1) := by decide +kernel
theorem dX9_spelt_12 : decode cX9_spelt 12 = .ok (.if_icmp .gt 113, 3) := by decide +kernel
theorem dX9_spelt_15 : decode cX9_spelt 15 = .ok (.iload_n 1, 1) := by decide +kernel
theorem dX9_spelt_16 : decode cX9_spelt 16 = .ok (.iload 5, 2) := by decide +kernel
theorem dX9_spelt_18 : decode cX9_spelt 18 = .ok (.invokestatic 322, 3) := by decide +kernel
theorem dX9_spelt_21 : decode cX9_spelt 21 = .ok (.istore 6, 2) := by decide +kernel
theorem dX9_spelt_23 : decode cX9_spelt 23 = .ok (.iload 6, 2) := by decide +kernel
theorem dX9_spelt_25 : decode cX9_spelt 25 = .ok (.bipush (-2), 2) := by decide +kernel
theorem dX9_spelt_27 : decode cX9_spelt 27 = .ok (.if_icmp .ne 6, 3) := by decide +kernel
theorem dX9_spelt_30 : decode cX9_spelt 30 = .ok (.goto 89, 3) := by decide +kernel
theorem dX9_spelt_33 : decode cX9_spelt 33 = .ok (.iload 5, 2) := by decide +kernel
theorem dX9_spelt_35 : decode cX9_spelt 35 = .ok (.invokestatic 288, 3) := by decide +kernel
theorem dX9_spelt_38 : decode cX9_spelt 38 = .ok (.istore 7, 2) := by decide +kernel
theorem dX9_spelt_40 : decode cX9_spelt 40 = .ok (.iconst 0, 1) := by decide +kernel
theorem dX9_spelt_41 : decode cX9_spelt 41 = .ok (.istore 8, 2) := by decide +kernel
theorem dX9_spelt_43 : decode cX9_spelt 43 = .ok (.iload 8, 2) := by decide +kernel
theorem dX9_spelt_45 : decode cX9_spelt 45 = .ok (.aload_n 0, 1) := by decide +kernel
theorem dX9_spelt_46 : decode cX9_spelt 46 = .ok (.getfield 41, 3) := by decide +kernel
theorem dX9_spelt_49 : decode cX9_spelt 49 = .ok (.iload_n 2, 1) := by decide +kernel
theorem dX9_spelt_50 : decode cX9_spelt 50 = .ok (.iaload, 1) := by decide +kernel
theorem dX9_spelt_51 : decode cX9_spelt 51 = .ok (.if_icmp .ge 48, 3) := by decide +kernel
theorem dX9_spelt_54 : decode cX9_spelt 54 = .ok (.iload 7, 2) := by decide +kernel
theorem dX9_spelt_56 : decode cX9_spelt 56 = .ok (.iload 6, 2) := by decide +kernel
theorem dX9_spelt_58 : decode cX9_spelt 58 = .ok (.iload 5, 2) := by decide +kernel
theorem dX9_spelt_60 : decode cX9_spelt 60 = .ok (.aload_n 0, 1) := by decide +kernel
theorem dX9_spelt_61 : decode cX9_spelt 61 = .ok (.getfield 35, 3) := by decide +kernel
theorem dX9_spelt_64 : decode cX9_spelt 64 = .ok (.bipush 8, 2) := by decide +kernel
theorem dX9_spelt_66 : decode cX9_spelt 66 = .ok (.iload_n 2, 1) := by decide +kernel
theorem dX9_spelt_67 : decode cX9_spelt 67 = .ok (.imul, 1) := by decide +kernel
theorem dX9_spelt_68 : decode cX9_spelt 68 = .ok (.iload 8, 2) := by decide +kernel
theorem dX9_spelt_70 : decode cX9_spelt 70 = .ok (.iadd, 1) := by decide +kernel
theorem dX9_spelt_71 : decode cX9_spelt 71 = .ok (.iaload, 1) := by decide +kernel
theorem dX9_spelt_72 : decode cX9_spelt 72 = .ok (.aload_n 0, 1) := by decide +kernel
theorem dX9_spelt_73 : decode cX9_spelt 73 = .ok (.getfield 38, 3) := by decide +kernel
theorem dX9_spelt_76 : decode cX9_spelt 76 = .ok (.bipush 8, 2) := by decide +kernel
theorem dX9_spelt_78 : decode cX9_spelt 78 = .ok (.iload_n 2, 1) := by decide +kernel
theorem dX9_spelt_79 : decode cX9_spelt 79 = .ok (.imul, 1) := by decide +kernel
theorem dX9_spelt_80 : decode cX9_spelt 80 = .ok (.iload 8, 2) := by decide +kernel
theorem dX9_spelt_82 : decode cX9_spelt 82 = .ok (.iadd, 1) := by decide +kernel
theorem dX9_spelt_83 : decode cX9_spelt 83 = .ok (.iaload, 1) := by decide +kernel
theorem dX9_spelt_84 : decode cX9_spelt 84 = .ok (.invokestatic 284, 3) := by decide +kernel
theorem dX9_spelt_87 : decode cX9_spelt 87 = .ok (.invokestatic 288, 3) := by decide +kernel
theorem dX9_spelt_90 : decode cX9_spelt 90 = .ok (.iadd, 1) := by decide +kernel
theorem dX9_spelt_91 : decode cX9_spelt 91 = .ok (.istore 7, 2) := by decide +kernel
theorem dX9_spelt_93 : decode cX9_spelt 93 = .ok (.iinc 8 1, 3) := by decide +kernel
theorem dX9_spelt_96 : decode cX9_spelt 96 = .ok (.goto (-53), 3) := by decide +kernel
theorem dX9_spelt_99 : decode cX9_spelt 99 = .ok (.iload_n 3, 1) := by decide +kernel
theorem dX9_spelt_100 : decode cX9_spelt 100 = .ok (.bipush (-2), 2) := by decide +kernel
theorem dX9_spelt_102 : decode cX9_spelt 102 = .ok (.if_icmp .eq 10, 3) := by decide +kernel
theorem dX9_spelt_105 : decode cX9_spelt 105 = .ok (.iload 7, 2) := by decide +kernel
theorem dX9_spelt_107 : decode cX9_spelt 107 = .ok (.iload 4, 2) := by decide +kernel
theorem dX9_spelt_109 : decode cX9_spelt 109 = .ok (.if_icmp .ge 10, 3) := by decide +kernel
theorem dX9_spelt_112 : decode cX9_spelt 112 = .ok (.iload 5, 2) := by decide +kernel
theorem dX9_spelt_114 : decode cX9_spelt 114 = .ok (.istore_n 3, 1) := by decide +kernel
theorem dX9_spelt_115 : decode cX9_spelt 115 = .ok (.iload 7, 2) := by decide +kernel
theorem dX9_spelt_117 : decode cX9_spelt 117 = .ok (.istore 4, 2) := by decide +kernel
theorem dX9_spelt_119 : decode cX9_spelt 119 = .ok (.iinc 5 1, 3) := by decide +kernel
theorem dX9_spelt_122 : decode cX9_spelt 122 = .ok (.goto (-113), 3) := by decide +kernel
theorem dX9_spelt_125 : decode cX9_spelt 125 = .ok (.iload_n 3, 1) := by decide +kernel
theorem dX9_spelt_126 : decode cX9_spelt 126 = .ok (.ireturn, 1) := by decide +kernel
theorem dX9_setOfBody_0 : decode cX9_setOfBody 0 = .ok (.iconst 0, 1) := by decide +kernel
theorem dX9_setOfBody_1 : decode cX9_setOfBody 1 = .ok (.istore_n 3, 1) := by decide +kernel
theorem dX9_setOfBody_2 : decode cX9_setOfBody 2 = .ok (.iconst 0, 1) := by decide +kernel
theorem dX9_setOfBody_3 : decode cX9_setOfBody 3 = .ok (.istore 4, 2) := by decide +kernel
theorem dX9_setOfBody_5 : decode cX9_setOfBody 5 = .ok (.iload 4, 2) := by decide +kernel
theorem dX9_setOfBody_7 : decode cX9_setOfBody 7 = .ok (.aload_n 0, 1) := by decide +kernel
theorem dX9_setOfBody_8 : decode cX9_setOfBody 8 = .ok (.getfield 41, 3) := by decide +kernel
theorem dX9_setOfBody_11 : decode cX9_setOfBody 11 = .ok (.iload_n 1, 1) := by decide +kernel
theorem dX9_setOfBody_12 : decode cX9_setOfBody 12 = .ok (.iaload, 1) := by decide +kernel
theorem dX9_setOfBody_13 : decode cX9_setOfBody 13 = .ok (.if_icmp .ge 31, 3) := by decide +kernel
theorem dX9_setOfBody_16 : decode cX9_setOfBody 16 = .ok (.iload_n 3, 1) := by decide +kernel
theorem dX9_setOfBody_17 : decode cX9_setOfBody 17 = .ok (.iconst 1, 1) := by decide +kernel
theorem dX9_setOfBody_18 : decode cX9_setOfBody 18 = .ok (.iload_n 2, 1) := by decide +kernel
theorem dX9_setOfBody_19 : decode cX9_setOfBody 19 = .ok (.aload_n 0, 1) := by decide +kernel
theorem dX9_setOfBody_20 : decode cX9_setOfBody 20 = .ok (.getfield 35, 3) := by decide +kernel
theorem dX9_setOfBody_23 : decode cX9_setOfBody 23 = .ok (.bipush 8, 2) := by decide +kernel
theorem dX9_setOfBody_25 : decode cX9_setOfBody 25 = .ok (.iload_n 1, 1) := by decide +kernel
theorem dX9_setOfBody_26 : decode cX9_setOfBody 26 = .ok (.imul, 1) := by decide +kernel
theorem dX9_setOfBody_27 : decode cX9_setOfBody 27 = .ok (.iload 4, 2) := by decide +kernel
theorem dX9_setOfBody_29 : decode cX9_setOfBody 29 = .ok (.iadd, 1) := by decide +kernel
theorem dX9_setOfBody_30 : decode cX9_setOfBody 30 = .ok (.iaload, 1) := by decide +kernel
theorem dX9_setOfBody_31 : decode cX9_setOfBody 31 = .ok (.iadd, 1) := by decide +kernel
theorem dX9_setOfBody_32 : decode cX9_setOfBody 32 = .ok (.bipush 12, 2) := by decide +kernel
theorem dX9_setOfBody_34 : decode cX9_setOfBody 34 = .ok (.irem, 1) := by decide +kernel
theorem dX9_setOfBody_35 : decode cX9_setOfBody 35 = .ok (.ishl, 1) := by decide +kernel
theorem dX9_setOfBody_36 : decode cX9_setOfBody 36 = .ok (.ior, 1) := by decide +kernel
theorem dX9_setOfBody_37 : decode cX9_setOfBody 37 = .ok (.istore_n 3, 1) := by decide +kernel
theorem dX9_setOfBody_38 : decode cX9_setOfBody 38 = .ok (.iinc 4 1, 3) := by decide +kernel
theorem dX9_setOfBody_41 : decode cX9_setOfBody 41 = .ok (.goto (-36), 3) := by decide +kernel
theorem dX9_setOfBody_44 : decode cX9_setOfBody 44 = .ok (.iload_n 3, 1) := by decide +kernel
theorem dX9_setOfBody_45 : decode cX9_setOfBody 45 = .ok (.ireturn, 1) := by decide +kernel
set_option maxRecDepth 20000 in
theorem ggX9_finds_X9_setOfBody : GoodIn wsX9_finds wsX9_setOfBody := goodIn_r _ [7, 8, 9, 30, 31, 32, 33, 34, 35, 36, 37, 38, 39, 40, 41, 42, 43, 44, 45, 46, 47, 48, 49, 50, 51, 52, 53, 54, 55, 56, 57, 58, 59, 60, 61, 62, 63, 64, 65] (by decide +kernel) (by decide +kernel)
set_option maxRecDepth 20000 in
theorem gX9_finds_X9_setOfBody : GoodIn wsX9_finds (wsV RX9 328 RX9 yX9_setOfBody wsX9_setOfBody) := goodIn_app (goodIn_of _ (by decide +kernel)) ggX9_finds_X9_setOfBody
set_option maxRecDepth 20000 in
theorem ggX9_finds_X9_spelt : GoodIn wsX9_finds wsX9_spelt := goodIn_r _ [13, 8, 9, 14, 15, 16, 6, 17, 18, 19, 20, 21, 22, 23, 24, 25, 26, 27, 28, 29, 30, 31, 32, 33, 34, 35, 36, 37, 38, 39, 40, 41, 42, 43, 44, 45, 46, 47, 48, 49, 50, 51, 52, 53, 54, 55, 56, 57, 58, 59, 60, 61, 62, 63, 64, 65] (by decide +kernel) (by decide +kernel)
set_option maxRecDepth 20000 in
theorem gX9_finds_X9_spelt : GoodIn wsX9_finds (wsV RX9 331 RX9 yX9_spelt wsX9_spelt) := goodIn_app (goodIn_of _ (by decide +kernel)) ggX9_finds_X9_spelt
set_option maxRecDepth 20000 in
theorem ggX9_finds_X9_letterOf : GoodIn wsX9_finds wsX9_letterOf := goodIn_r _ [17, 18, 19, 6, 20, 21, 22, 23] (by decide +kernel) (by decide +kernel)
set_option maxRecDepth 20000 in
theorem gX9_finds_X9_letterOf : GoodIn wsX9_finds (va_wsS RX9 322 yX9_letterOf wsX9_letterOf) := goodIn_app (goodIn_of _ (by decide +kernel)) ggX9_finds_X9_letterOf
theorem dX9_finds_0 : decode cX9_finds 0 = .ok (.aload_n 0, 1) := by decide +kernel
theorem dX9_finds_1 : decode cX9_finds 1 = .ok (.iconst 0, 1) := by decide +kernel
theorem dX9_finds_2 : decode cX9_finds 2 = .ok (.putfield 325, 3) := by decide +kernel
theorem dX9_finds_5 : decode cX9_finds 5 = .ok (.iconst 0, 1) := by decide +kernel
theorem dX9_finds_6 : decode cX9_finds 6 = .ok (.istore_n 3, 1) := by decide +kernel
theorem dX9_finds_7 : decode cX9_finds 7 = .ok (.iload_n 3, 1) := by decide +kernel
theorem dX9_finds_8 : decode cX9_finds 8 = .ok (.bipush 12, 2) := by decide +kernel
theorem dX9_finds_10 : decode cX9_finds 10 = .ok (.if_icmp .ge 170, 3) := by decide +kernel
theorem dX9_finds_13 : decode cX9_finds 13 = .ok (.iload_n 2, 1) := by decide +kernel
theorem dX9_finds_14 : decode cX9_finds 14 = .ok (.iload_n 3, 1) := by decide +kernel
theorem dX9_finds_15 : decode cX9_finds 15 = .ok (.iadd, 1) := by decide +kernel
theorem dX9_finds_16 : decode cX9_finds 16 = .ok (.bipush 12, 2) := by decide +kernel
theorem dX9_finds_18 : decode cX9_finds 18 = .ok (.irem, 1) := by decide +kernel
theorem dX9_finds_19 : decode cX9_finds 19 = .ok (.istore 4, 2) := by decide +kernel
theorem dX9_finds_21 : decode cX9_finds 21 = .ok (.iconst 0, 1) := by decide +kernel
theorem dX9_finds_22 : decode cX9_finds 22 = .ok (.istore 5, 2) := by decide +kernel
theorem dX9_finds_24 : decode cX9_finds 24 = .ok (.iload 5, 2) := by decide +kernel
theorem dX9_finds_26 : decode cX9_finds 26 = .ok (.bipush 20, 2) := by decide +kernel
theorem dX9_finds_28 : decode cX9_finds 28 = .ok (.if_icmp .ge 146, 3) := by decide +kernel
theorem dX9_finds_31 : decode cX9_finds 31 = .ok (.aload_n 0, 1) := by decide +kernel
theorem dX9_finds_32 : decode cX9_finds 32 = .ok (.iload 5, 2) := by decide +kernel
theorem dX9_finds_34 : decode cX9_finds 34 = .ok (.iload 4, 2) := by decide +kernel
theorem dX9_finds_36 : decode cX9_finds 36 = .ok (.invokevirtual 328, 3) := by decide +kernel
theorem dX9_finds_39 : decode cX9_finds 39 = .ok (.istore 6, 2) := by decide +kernel
theorem dX9_finds_41 : decode cX9_finds 41 = .ok (.iload 6, 2) := by decide +kernel
theorem dX9_finds_43 : decode cX9_finds 43 = .ok (.iload_n 1, 1) := by decide +kernel
theorem dX9_finds_44 : decode cX9_finds 44 = .ok (.if_icmp .eq 17, 3) := by decide +kernel
theorem dX9_finds_47 : decode cX9_finds 47 = .ok (.iload_n 3, 1) := by decide +kernel
theorem dX9_finds_48 : decode cX9_finds 48 = .ok (.ifCond .le 120, 3) := by decide +kernel
theorem dX9_finds_51 : decode cX9_finds 51 = .ok (.iload 6, 2) := by decide +kernel
theorem dX9_finds_53 : decode cX9_finds 53 = .ok (.iconst 1, 1) := by decide +kernel
theorem dX9_finds_54 : decode cX9_finds 54 = .ok (.iload_n 2, 1) := by decide +kernel
theorem dX9_finds_55 : decode cX9_finds 55 = .ok (.ishl, 1) := by decide +kernel
theorem dX9_finds_56 : decode cX9_finds 56 = .ok (.ior, 1) := by decide +kernel
theorem dX9_finds_57 : decode cX9_finds 57 = .ok (.iload_n 1, 1) := by decide +kernel
theorem dX9_finds_58 : decode cX9_finds 58 = .ok (.if_icmp .ne 110, 3) := by decide +kernel
theorem dX9_finds_61 : decode cX9_finds 61 = .ok (.iconst 5, 1) := by decide +kernel
theorem dX9_finds_62 : decode cX9_finds 62 = .ok (.aload_n 0, 1) := by decide +kernel
theorem dX9_finds_63 : decode cX9_finds 63 = .ok (.getfield 325, 3) := by decide +kernel
theorem dX9_finds_66 : decode cX9_finds 66 = .ok (.imul, 1) := by decide +kernel
theorem dX9_finds_67 : decode cX9_finds 67 = .ok (.istore 7, 2) := by decide +kernel
theorem dX9_finds_69 : decode cX9_finds 69 = .ok (.aload_n 0, 1) := by decide +kernel
theorem dX9_finds_70 : decode cX9_finds 70 = .ok (.iload 4, 2) := by decide +kernel
theorem dX9_finds_72 : decode cX9_finds 72 = .ok (.iload 5, 2) := by decide +kernel
theorem dX9_finds_74 : decode cX9_finds 74 = .ok (.invokevirtual 331, 3) := by decide +kernel
theorem dX9_finds_77 : decode cX9_finds 77 = .ok (.istore 8, 2) := by decide +kernel
theorem dX9_finds_79 : decode cX9_finds 79 = .ok (.aload_n 0, 1) := by decide +kernel
theorem dX9_finds_80 : decode cX9_finds 80 = .ok (.iload_n 2, 1) := by decide +kernel
theorem dX9_finds_81 : decode cX9_finds 81 = .ok (.iconst 0, 1) := by decide +kernel
theorem dX9_finds_82 : decode cX9_finds 82 = .ok (.invokevirtual 331, 3) := by decide +kernel
theorem dX9_finds_85 : decode cX9_finds 85 = .ok (.istore 9, 2) := by decide +kernel
theorem dX9_finds_87 : decode cX9_finds 87 = .ok (.aload_n 0, 1) := by decide +kernel
theorem dX9_finds_88 : decode cX9_finds 88 = .ok (.getfield 175, 3) := by decide +kernel
theorem dX9_finds_91 : decode cX9_finds 91 = .ok (.iload 7, 2) := by decide +kernel
theorem dX9_finds_93 : decode cX9_finds 93 = .ok (.iload 4, 2) := by decide +kernel
theorem dX9_finds_95 : decode cX9_finds 95 = .ok (.iload 8, 2) := by decide +kernel
theorem dX9_finds_97 : decode cX9_finds 97 = .ok (.invokestatic 322, 3) := by decide +kernel
theorem dX9_finds_100 : decode cX9_finds 100 = .ok (.iastore, 1) := by decide +kernel
theorem dX9_finds_101 : decode cX9_finds 101 = .ok (.aload_n 0, 1) := by decide +kernel
theorem dX9_finds_102 : decode cX9_finds 102 = .ok (.getfield 175, 3) := by decide +kernel
theorem dX9_finds_105 : decode cX9_finds 105 = .ok (.iload 7, 2) := by decide +kernel
theorem dX9_finds_107 : decode cX9_finds 107 = .ok (.iconst 1, 1) := by decide +kernel
theorem dX9_finds_108 : decode cX9_finds 108 = .ok (.iadd, 1) := by decide +kernel
theorem dX9_finds_109 : decode cX9_finds 109 = .ok (.iload 8, 2) := by decide +kernel
theorem dX9_finds_111 : decode cX9_finds 111 = .ok (.iastore, 1) := by decide +kernel
theorem dX9_finds_112 : decode cX9_finds 112 = .ok (.aload_n 0, 1) := by decide +kernel
theorem dX9_finds_113 : decode cX9_finds 113 = .ok (.getfield 175, 3) := by decide +kernel
theorem dX9_finds_116 : decode cX9_finds 116 = .ok (.iload 7, 2) := by decide +kernel
theorem dX9_finds_118 : decode cX9_finds 118 = .ok (.iconst 2, 1) := by decide +kernel
theorem dX9_finds_119 : decode cX9_finds 119 = .ok (.iadd, 1) := by decide +kernel
theorem dX9_finds_120 : decode cX9_finds 120 = .ok (.iload 5, 2) := by decide +kernel
theorem dX9_finds_122 : decode cX9_finds 122 = .ok (.iastore, 1) := by decide +kernel
theorem dX9_finds_123 : decode cX9_finds 123 = .ok (.aload_n 0, 1) := by decide +kernel
theorem dX9_finds_124 : decode cX9_finds 124 = .ok (.getfield 175, 3) := by decide +kernel
theorem dX9_finds_127 : decode cX9_finds 127 = .ok (.iload 7, 2) := by decide +kernel
theorem dX9_finds_129 : decode cX9_finds 129 = .ok (.iconst 3, 1) := by decide +kernel
theorem dX9_finds_130 : decode cX9_finds 130 = .ok (.iadd, 1) := by decide +kernel
theorem dX9_finds_131 : decode cX9_finds 131 = .ok (.iload_n 3, 1) := by decide +kernel
theorem dX9_finds_132 : decode cX9_finds 132 = .ok (.ifCond .ne 8, 3) := by decide +kernel
theorem dX9_finds_135 : decode cX9_finds 135 = .ok (.bipush (-2), 2) := by decide +kernel
theorem dX9_finds_137 : decode cX9_finds 137 = .ok (.goto 9, 3) := by decide +kernel
theorem dX9_finds_140 : decode cX9_finds 140 = .ok (.iload_n 2, 1) := by decide +kernel
theorem dX9_finds_141 : decode cX9_finds 141 = .ok (.iload 9, 2) := by decide +kernel
theorem dX9_finds_143 : decode cX9_finds 143 = .ok (.invokestatic 322, 3) := by decide +kernel
theorem dX9_finds_146 : decode cX9_finds 146 = .ok (.iastore, 1) := by decide +kernel
theorem dX9_finds_147 : decode cX9_finds 147 = .ok (.aload_n 0, 1) := by decide +kernel
theorem dX9_finds_148 : decode cX9_finds 148 = .ok (.getfield 175, 3) := by decide +kernel
theorem dX9_finds_151 : decode cX9_finds 151 = .ok (.iload 7, 2) := by decide +kernel
theorem dX9_finds_153 : decode cX9_finds 153 = .ok (.iconst 4, 1) := by decide +kernel
theorem dX9_finds_154 : decode cX9_finds 154 = .ok (.iadd, 1) := by decide +kernel
theorem dX9_finds_155 : decode cX9_finds 155 = .ok (.iload 9, 2) := by decide +kernel
theorem dX9_finds_157 : decode cX9_finds 157 = .ok (.iastore, 1) := by decide +kernel
theorem dX9_finds_158 : decode cX9_finds 158 = .ok (.aload_n 0, 1) := by decide +kernel
theorem dX9_finds_159 : decode cX9_finds 159 = .ok (.dup, 1) := by decide +kernel
theorem dX9_finds_160 : decode cX9_finds 160 = .ok (.getfield 325, 3) := by decide +kernel
theorem dX9_finds_163 : decode cX9_finds 163 = .ok (.iconst 1, 1) := by decide +kernel
