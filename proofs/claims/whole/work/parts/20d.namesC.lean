theorem dX8_step_61 : decode cX8_step 61 = .ok (.ireturn, 1) := by decide +kernel
set_option maxRecDepth 20000 in
theorem ggX8_write_X8_chordAt : GoodIn wsX8_write wsX8_chordAt := goodIn_r _ [7, 8, 9, 122, 123, 124, 125, 126, 127] (by decide +kernel) (by decide +kernel)
set_option maxRecDepth 20000 in
theorem gX8_write_X8_chordAt : GoodIn wsX8_write (wsV RX8 62 RX8 yX8_chordAt wsX8_chordAt) := goodIn_app (goodIn_of _ (by decide +kernel)) ggX8_write_X8_chordAt
set_option maxRecDepth 20000 in
theorem ggX8_write_X1_body : GoodIn wsX8_write wsX1_body := goodIn_r _ [14, 15, 16, 17, 18, 19, 20, 21, 6, 22, 118, 119, 120, 121] (by decide +kernel) (by decide +kernel)
set_option maxRecDepth 20000 in
theorem gX8_write_X1_body : GoodIn wsX8_write (wsV RX8 96 RX1 yX1_body wsX1_body) := goodIn_app (goodIn_of _ (by decide +kernel)) ggX8_write_X1_body
set_option maxRecDepth 20000 in
theorem ggX8_write_X8_show : GoodIn wsX8_write wsX8_show := goodIn_r _ [26, 27, 28, 29, 30, 31, 32, 33, 34, 35, 36, 37, 38, 39, 40, 41, 42, 43, 44, 45, 46, 47, 48, 49, 50, 51, 52, 53, 54, 55, 56, 57, 58, 59, 60, 61, 62, 63, 64, 65, 66, 67, 68, 69, 70, 71, 72, 73, 74, 75, 76, 77, 78, 79, 80, 81, 82, 83, 84, 85, 86, 87, 88, 89, 90, 91, 92, 93, 94, 95, 96, 97, 98, 99, 100, 101, 102, 103, 104, 105, 106, 107, 108, 109, 110, 111, 21, 6, 22, 112, 113, 114, 115, 116, 117, 122, 123, 124, 125, 126, 127, 128, 129] (by decide +kernel) (by decide +kernel)
set_option maxRecDepth 20000 in
theorem gX8_write_X8_show : GoodIn wsX8_write (wsV RX8 115 RX8 yX8_show wsX8_show) := goodIn_app (goodIn_of _ (by decide +kernel)) ggX8_write_X8_show
theorem dX8_write_0 : decode cX8_write 0 = .ok (.aload_n 0, 1) := by decide +kernel
theorem dX8_write_1 : decode cX8_write 1 = .ok (.iload_n 1, 1) := by decide +kernel
theorem dX8_write_2 : decode cX8_write 2 = .ok (.invokevirtual 62, 3) := by decide +kernel
theorem dX8_write_5 : decode cX8_write 5 = .ok (.astore_n 2, 1) := by decide +kernel
theorem dX8_write_6 : decode cX8_write 6 = .ok (.aload_n 2, 1) := by decide +kernel
theorem dX8_write_7 : decode cX8_write 7 = .ok (.ifnonnull 5, 3) := by decide +kernel
theorem dX8_write_10 : decode cX8_write 10 = .ok (.iconst (-1), 1) := by decide +kernel
theorem dX8_write_11 : decode cX8_write 11 = .ok (.ireturn, 1) := by decide +kernel
theorem dX8_write_12 : decode cX8_write 12 = .ok (.aload_n 0, 1) := by decide +kernel
theorem dX8_write_13 : decode cX8_write 13 = .ok (.aload_n 2, 1) := by decide +kernel
theorem dX8_write_14 : decode cX8_write 14 = .ok (.getfield 66, 3) := by decide +kernel
theorem dX8_write_17 : decode cX8_write 17 = .ok (.aload_n 2, 1) := by decide +kernel
theorem dX8_write_18 : decode cX8_write 18 = .ok (.invokevirtual 96, 3) := by decide +kernel
theorem dX8_write_21 : decode cX8_write 21 = .ok (.aload_n 2, 1) := by decide +kernel
theorem dX8_write_22 : decode cX8_write 22 = .ok (.getfield 75, 3) := by decide +kernel
theorem dX8_write_25 : decode cX8_write 25 = .ok (.invokevirtual 115, 3) := by decide +kernel
theorem dX8_write_28 : decode cX8_write 28 = .ok (.ireturn, 1) := by decide +kernel
set_option maxRecDepth 20000 in
theorem ggX8_shown_X6_byteAt : GoodIn wsX8_shown wsX6_byteAt := goodIn_r _ [6, 7, 8, 15, 16] (by decide +kernel) (by decide +kernel)
set_option maxRecDepth 20000 in
theorem gX8_shown_X6_byteAt : GoodIn wsX8_shown (wsV RX8 118 RX6 yX6_byteAt wsX6_byteAt) := goodIn_app (goodIn_of _ (by decide +kernel)) ggX8_shown_X6_byteAt
theorem dX8_shown_0 : decode cX8_shown 0 = .ok (.aload_n 0, 1) := by decide +kernel
theorem dX8_shown_1 : decode cX8_shown 1 = .ok (.getfield 39, 3) := by decide +kernel
theorem dX8_shown_4 : decode cX8_shown 4 = .ok (.iload_n 1, 1) := by decide +kernel
theorem dX8_shown_5 : decode cX8_shown 5 = .ok (.invokevirtual 118, 3) := by decide +kernel
theorem dX8_shown_8 : decode cX8_shown 8 = .ok (.ireturn, 1) := by decide +kernel
set_option maxRecDepth 20000 in
theorem ggX8_named_X8_isPitch : GoodIn wsX8_named wsX8_isPitch := goodIn_r _ [5] (by decide +kernel) (by decide +kernel)
set_option maxRecDepth 20000 in
theorem gX8_named_X8_isPitch : GoodIn wsX8_named (va_wsS RX8 121 yX8_isPitch wsX8_isPitch) := goodIn_app (goodIn_of _ (by decide +kernel)) ggX8_named_X8_isPitch
set_option maxRecDepth 20000 in
theorem ggX8_named_X2_find : GoodIn wsX8_named wsX2_find := goodIn_r _ [10, 11, 12, 13, 14, 15, 16, 9, 17, 18, 19, 20, 21, 22, 4, 23, 30, 31, 32, 33] (by decide +kernel) (by decide +kernel)
set_option maxRecDepth 20000 in
theorem gX8_named_X2_find : GoodIn wsX8_named (wsV RX8 125 RX2 yX2_find wsX2_find) := goodIn_app (goodIn_of _ (by decide +kernel)) ggX8_named_X2_find
theorem dX8_named_0 : decode cX8_named 0 = .ok (.iload_n 1, 1) := by decide +kernel
theorem dX8_named_1 : decode cX8_named 1 = .ok (.iconst 1, 1) := by decide +kernel
theorem dX8_named_2 : decode cX8_named 2 = .ok (.if_icmp .lt 25, 3) := by decide +kernel
theorem dX8_named_5 : decode cX8_named 5 = .ok (.iload_n 1, 1) := by decide +kernel
theorem dX8_named_6 : decode cX8_named 6 = .ok (.sipush 4095, 3) := by decide +kernel
theorem dX8_named_9 : decode cX8_named 9 = .ok (.if_icmp .gt 18, 3) := by decide +kernel
theorem dX8_named_12 : decode cX8_named 12 = .ok (.iload_n 2, 1) := by decide +kernel
theorem dX8_named_13 : decode cX8_named 13 = .ok (.invokestatic 121, 3) := by decide +kernel
theorem dX8_named_16 : decode cX8_named 16 = .ok (.ifCond .eq 11, 3) := by decide +kernel
theorem dX8_named_19 : decode cX8_named 19 = .ok (.iload_n 1, 1) := by decide +kernel
theorem dX8_named_20 : decode cX8_named 20 = .ok (.iload_n 2, 1) := by decide +kernel
theorem dX8_named_21 : decode cX8_named 21 = .ok (.ishr, 1) := by decide +kernel
theorem dX8_named_22 : decode cX8_named 22 = .ok (.iconst 1, 1) := by decide +kernel
theorem dX8_named_23 : decode cX8_named 23 = .ok (.iand, 1) := by decide +kernel
theorem dX8_named_24 : decode cX8_named 24 = .ok (.ifCond .ne 5, 3) := by decide +kernel
theorem dX8_named_27 : decode cX8_named 27 = .ok (.iconst (-1), 1) := by decide +kernel
theorem dX8_named_28 : decode cX8_named 28 = .ok (.ireturn, 1) := by decide +kernel
theorem dX8_named_29 : decode cX8_named 29 = .ok (.aload_n 0, 1) := by decide +kernel
theorem dX8_named_30 : decode cX8_named 30 = .ok (.getfield 25, 3) := by decide +kernel
theorem dX8_named_33 : decode cX8_named 33 = .ok (.iload_n 1, 1) := by decide +kernel
theorem dX8_named_34 : decode cX8_named 34 = .ok (.iload_n 2, 1) := by decide +kernel
theorem dX8_named_35 : decode cX8_named 35 = .ok (.invokevirtual 125, 3) := by decide +kernel
theorem dX8_named_38 : decode cX8_named 38 = .ok (.ireturn, 1) := by decide +kernel
set_option maxRecDepth 20000 in
theorem ggX8_name_X2_placeOf : GoodIn wsX8_name wsX2_placeOf := goodIn_r _ [6, 7, 8, 167, 168, 169, 170] (by decide +kernel) (by decide +kernel)
set_option maxRecDepth 20000 in
theorem gX8_name_X2_placeOf : GoodIn wsX8_name (wsV RX8 128 RX2 yX2_placeOf wsX2_placeOf) := goodIn_app (goodIn_of _ (by decide +kernel)) ggX8_name_X2_placeOf
set_option maxRecDepth 20000 in
theorem ggX8_name_X2_rootOf : GoodIn wsX8_name wsX2_rootOf := goodIn_r _ [11, 12, 13, 5, 14, 15, 16, 17, 18, 19, 20, 21, 22, 23, 24, 25, 26, 27, 28, 29, 30, 31, 32, 33, 34, 35, 36, 37, 38, 39, 40, 41, 42, 43, 44, 45, 46, 47, 48, 49, 50, 51, 52, 53, 54, 55, 56, 57, 58, 59, 60, 61, 62, 63, 64, 65, 66, 67, 68, 69, 70, 71, 72, 73, 74, 75, 76, 77, 78] (by decide +kernel) (by decide +kernel)
set_option maxRecDepth 20000 in
theorem gX8_name_X2_rootOf : GoodIn wsX8_name (va_wsS RX8 134 yX2_rootOf wsX2_rootOf) := goodIn_app (goodIn_of _ (by decide +kernel)) ggX8_name_X2_rootOf
set_option maxRecDepth 20000 in
theorem ggX8_name_X2_bodyOf : GoodIn wsX8_name wsX2_bodyOf := goodIn_r _ [14] (by decide +kernel) (by decide +kernel)
set_option maxRecDepth 20000 in
theorem gX8_name_X2_bodyOf : GoodIn wsX8_name (va_wsS RX8 137 yX2_bodyOf wsX2_bodyOf) := goodIn_app (goodIn_of _ (by decide +kernel)) ggX8_name_X2_bodyOf
set_option maxRecDepth 20000 in
theorem ggX8_name_X2_bassNote : GoodIn wsX8_name wsX2_bassNote := goodIn_r _ [82, 15, 16, 17, 18, 19, 20, 21, 22, 23, 24, 25, 26, 27, 28, 29, 30, 31, 32, 33, 34, 35, 36, 37, 38, 39, 40, 41, 42, 43, 44, 45, 46, 47, 48, 49, 50, 51, 52, 53, 54, 55, 56, 57, 58, 59, 60, 61, 62, 63, 64, 65, 66, 67, 68, 69, 70, 71, 72, 73, 74, 75, 76, 77, 78] (by decide +kernel) (by decide +kernel)
set_option maxRecDepth 20000 in
theorem gX8_name_X2_bassNote : GoodIn wsX8_name (va_wsS RX8 140 yX2_bassNote wsX2_bassNote) := goodIn_app (goodIn_of _ (by decide +kernel)) ggX8_name_X2_bassNote
set_option maxRecDepth 20000 in
theorem ggX8_name_X8_show : GoodIn wsX8_name wsX8_show := goodIn_r _ [86, 87, 88, 89, 90, 91, 92, 93, 94, 95, 96, 97, 98, 50, 25, 51, 99, 100, 101, 102, 103, 104, 105, 106, 107, 108, 109, 110, 111, 112, 113, 114, 115, 116, 117, 118, 119, 120, 121, 122, 123, 124, 125, 126, 127, 128, 129, 130, 131, 132, 133, 134, 135, 136, 137, 138, 139, 140, 141, 142, 143, 144, 145, 146, 147, 148, 149, 150, 151, 152, 153, 154, 155, 156, 157, 57, 58, 158, 159, 53, 54, 55, 34, 35, 36, 37, 20, 21, 22, 56, 30, 31, 32, 33, 160, 161, 162, 163, 164, 165, 166, 171, 172] (by decide +kernel) (by decide +kernel)
set_option maxRecDepth 20000 in
theorem gX8_name_X8_show : GoodIn wsX8_name (wsV RX8 115 RX8 yX8_show wsX8_show) := goodIn_app (goodIn_of _ (by decide +kernel)) ggX8_name_X8_show
theorem dX8_name_0 : decode cX8_name 0 = .ok (.aload_n 0, 1) := by decide +kernel
theorem dX8_name_1 : decode cX8_name 1 = .ok (.getfield 25, 3) := by decide +kernel
theorem dX8_name_4 : decode cX8_name 4 = .ok (.iload_n 1, 1) := by decide +kernel
theorem dX8_name_5 : decode cX8_name 5 = .ok (.invokevirtual 128, 3) := by decide +kernel
theorem dX8_name_8 : decode cX8_name 8 = .ok (.istore_n 2, 1) := by decide +kernel
theorem dX8_name_9 : decode cX8_name 9 = .ok (.iload_n 2, 1) := by decide +kernel
theorem dX8_name_10 : decode cX8_name 10 = .ok (.iconst (-1), 1) := by decide +kernel
theorem dX8_name_11 : decode cX8_name 11 = .ok (.if_icmp .ne 5, 3) := by decide +kernel
theorem dX8_name_14 : decode cX8_name 14 = .ok (.iconst (-1), 1) := by decide +kernel
theorem dX8_name_15 : decode cX8_name 15 = .ok (.ireturn, 1) := by decide +kernel
theorem dX8_name_16 : decode cX8_name 16 = .ok (.aload_n 0, 1) := by decide +kernel
theorem dX8_name_17 : decode cX8_name 17 = .ok (.getfield 25, 3) := by decide +kernel
theorem dX8_name_20 : decode cX8_name 20 = .ok (.getfield 131, 3) := by decide +kernel
theorem dX8_name_23 : decode cX8_name 23 = .ok (.istore_n 3, 1) := by decide +kernel
theorem dX8_name_24 : decode cX8_name 24 = .ok (.aload_n 0, 1) := by decide +kernel
theorem dX8_name_25 : decode cX8_name 25 = .ok (.iload_n 3, 1) := by decide +kernel
theorem dX8_name_26 : decode cX8_name 26 = .ok (.iload_n 2, 1) := by decide +kernel
theorem dX8_name_27 : decode cX8_name 27 = .ok (.invokestatic 134, 3) := by decide +kernel
theorem dX8_name_30 : decode cX8_name 30 = .ok (.iload_n 2, 1) := by decide +kernel
theorem dX8_name_31 : decode cX8_name 31 = .ok (.invokestatic 137, 3) := by decide +kernel
theorem dX8_name_34 : decode cX8_name 34 = .ok (.iload_n 3, 1) := by decide +kernel
theorem dX8_name_35 : decode cX8_name 35 = .ok (.invokestatic 140, 3) := by decide +kernel
theorem dX8_name_38 : decode cX8_name 38 = .ok (.invokevirtual 115, 3) := by decide +kernel
theorem dX8_name_41 : decode cX8_name 41 = .ok (.ireturn, 1) := by decide +kernel
set_option maxRecDepth 20000 in
theorem ggX8_normal_X8_chordAt : GoodIn wsX8_normal wsX8_chordAt := goodIn_r _ [8, 9, 10, 118, 119, 120, 121, 122, 123] (by decide +kernel) (by decide +kernel)
set_option maxRecDepth 20000 in
theorem gX8_normal_X8_chordAt : GoodIn wsX8_normal (wsV RX8 62 RX8 yX8_chordAt wsX8_chordAt) := goodIn_app (goodIn_of _ (by decide +kernel)) ggX8_normal_X8_chordAt
set_option maxRecDepth 20000 in
theorem ggX8_normal_X3_pitch : GoodIn wsX8_normal wsX3_pitch := goodIn_r _ [14, 15, 16, 13, 17, 18, 19, 20, 21, 22, 7, 23, 24, 25, 26, 27, 28, 29, 30] (by decide +kernel) (by decide +kernel)
set_option maxRecDepth 20000 in
theorem gX8_normal_X3_pitch : GoodIn wsX8_normal (va_wsS RX8 69 yX3_pitch wsX3_pitch) := goodIn_app (goodIn_of _ (by decide +kernel)) ggX8_normal_X3_pitch
set_option maxRecDepth 20000 in
theorem ggX8_normal_X1_pitches : GoodIn wsX8_normal wsX1_pitches := goodIn_r _ [35, 36, 37, 38, 39, 12, 13, 14, 15, 16, 17, 18, 19, 20, 21, 22, 7, 23, 24, 25, 26, 27, 28, 29, 30, 40, 41, 42, 43, 44, 45, 46, 47, 48, 49, 50, 114, 115, 116, 117] (by decide +kernel) (by decide +kernel)
set_option maxRecDepth 20000 in
theorem gX8_normal_X1_pitches : GoodIn wsX8_normal (wsV RX8 86 RX1 yX1_pitches wsX1_pitches) := goodIn_app (goodIn_of _ (by decide +kernel)) ggX8_normal_X1_pitches
set_option maxRecDepth 20000 in
theorem ggX8_normal_X2_first : GoodIn wsX8_normal wsX2_first := goodIn_r _ [55, 56, 57, 58, 54, 59, 60, 61, 62, 63, 22, 7, 23, 124, 125, 126, 127] (by decide +kernel) (by decide +kernel)
set_option maxRecDepth 20000 in
theorem gX8_normal_X2_first : GoodIn wsX8_normal (wsV RX8 143 RX2 yX2_first wsX2_first) := goodIn_app (goodIn_of _ (by decide +kernel)) ggX8_normal_X2_first
set_option maxRecDepth 20000 in
theorem ggX8_normal_X2_bodyOf : GoodIn wsX8_normal wsX2_bodyOf := goodIn_r _ [63] (by decide +kernel) (by decide +kernel)
set_option maxRecDepth 20000 in
theorem gX8_normal_X2_bodyOf : GoodIn wsX8_normal (va_wsS RX8 137 yX2_bodyOf wsX2_bodyOf) := goodIn_app (goodIn_of _ (by decide +kernel)) ggX8_normal_X2_bodyOf
set_option maxRecDepth 20000 in
theorem ggX8_normal_X1_body : GoodIn wsX8_normal wsX1_body := goodIn_r _ [68, 37, 69, 70, 71, 72, 73, 22, 7, 23, 114, 115, 116, 117] (by decide +kernel) (by decide +kernel)
set_option maxRecDepth 20000 in
theorem gX8_normal_X1_body : GoodIn wsX8_normal (wsV RX8 96 RX1 yX1_body wsX1_body) := goodIn_app (goodIn_of _ (by decide +kernel)) ggX8_normal_X1_body
set_option maxRecDepth 20000 in
theorem ggX8_normal_X2_rootOf : GoodIn wsX8_normal wsX2_rootOf := goodIn_r _ [76, 61, 62, 54, 63, 77, 78, 71, 79, 73, 22, 7, 23, 80, 81, 13, 82, 83, 84, 85, 27, 28, 29, 30, 18, 19, 20, 21, 86, 87, 88, 89, 90, 42, 91, 92, 93, 94, 95, 96, 16, 17, 97, 12, 14, 15, 24, 25, 26, 98, 44, 45, 46, 99, 100, 101, 102, 103, 104, 105, 106, 107, 108, 109, 47, 48, 49, 50, 110] (by decide +kernel) (by decide +kernel)
set_option maxRecDepth 20000 in
theorem gX8_normal_X2_rootOf : GoodIn wsX8_normal (va_wsS RX8 134 yX2_rootOf wsX2_rootOf) := goodIn_app (goodIn_of _ (by decide +kernel)) ggX8_normal_X2_rootOf
set_option maxRecDepth 20000 in
theorem ggX8_normal_X2_bassNote : GoodIn wsX8_normal wsX2_bassNote := goodIn_r _ [113, 77, 78, 71, 79, 73, 22, 7, 23, 80, 81, 13, 82, 83, 84, 85, 27, 28, 29, 30, 18, 19, 20, 21, 86, 87, 88, 89, 90, 42, 91, 92, 93, 94, 95, 96, 16, 17, 97, 12, 14, 15, 24, 25, 26, 98, 44, 45, 46, 99, 100, 101, 102, 103, 104, 105, 106, 107, 108, 109, 47, 48, 49, 50, 110] (by decide +kernel) (by decide +kernel)
set_option maxRecDepth 20000 in
theorem gX8_normal_X2_bassNote : GoodIn wsX8_normal (va_wsS RX8 140 yX2_bassNote wsX2_bassNote) := goodIn_app (goodIn_of _ (by decide +kernel)) ggX8_normal_X2_bassNote
theorem dX8_normal_0 : decode cX8_normal 0 = .ok (.aload_n 0, 1) := by decide +kernel
theorem dX8_normal_1 : decode cX8_normal 1 = .ok (.iload_n 1, 1) := by decide +kernel
theorem dX8_normal_2 : decode cX8_normal 2 = .ok (.invokevirtual 62, 3) := by decide +kernel
theorem dX8_normal_5 : decode cX8_normal 5 = .ok (.astore_n 2, 1) := by decide +kernel
theorem dX8_normal_6 : decode cX8_normal 6 = .ok (.aload_n 2, 1) := by decide +kernel
theorem dX8_normal_7 : decode cX8_normal 7 = .ok (.ifnonnull 5, 3) := by decide +kernel
theorem dX8_normal_10 : decode cX8_normal 10 = .ok (.iconst (-1), 1) := by decide +kernel
theorem dX8_normal_11 : decode cX8_normal 11 = .ok (.ireturn, 1) := by decide +kernel
theorem dX8_normal_12 : decode cX8_normal 12 = .ok (.aload_n 2, 1) := by decide +kernel
theorem dX8_normal_13 : decode cX8_normal 13 = .ok (.getfield 75, 3) := by decide +kernel
theorem dX8_normal_16 : decode cX8_normal 16 = .ok (.invokestatic 69, 3) := by decide +kernel
theorem dX8_normal_19 : decode cX8_normal 19 = .ok (.istore_n 3, 1) := by decide +kernel
theorem dX8_normal_20 : decode cX8_normal 20 = .ok (.aload_n 0, 1) := by decide +kernel
theorem dX8_normal_21 : decode cX8_normal 21 = .ok (.getfield 25, 3) := by decide +kernel
theorem dX8_normal_24 : decode cX8_normal 24 = .ok (.aload_n 2, 1) := by decide +kernel
theorem dX8_normal_25 : decode cX8_normal 25 = .ok (.invokevirtual 86, 3) := by decide +kernel
theorem dX8_normal_28 : decode cX8_normal 28 = .ok (.iload_n 3, 1) := by decide +kernel
theorem dX8_normal_29 : decode cX8_normal 29 = .ok (.invokevirtual 143, 3) := by decide +kernel
theorem dX8_normal_32 : decode cX8_normal 32 = .ok (.istore 4, 2) := by decide +kernel
theorem dX8_normal_34 : decode cX8_normal 34 = .ok (.iload 4, 2) := by decide +kernel
theorem dX8_normal_36 : decode cX8_normal 36 = .ok (.iconst (-1), 1) := by decide +kernel
theorem dX8_normal_37 : decode cX8_normal 37 = .ok (.if_icmp .eq 28, 3) := by decide +kernel
theorem dX8_normal_40 : decode cX8_normal 40 = .ok (.iload 4, 2) := by decide +kernel
theorem dX8_normal_42 : decode cX8_normal 42 = .ok (.invokestatic 137, 3) := by decide +kernel
theorem dX8_normal_45 : decode cX8_normal 45 = .ok (.aload_n 2, 1) := by decide +kernel
theorem dX8_normal_46 : decode cX8_normal 46 = .ok (.invokevirtual 96, 3) := by decide +kernel
theorem dX8_normal_49 : decode cX8_normal 49 = .ok (.if_icmp .ne 16, 3) := by decide +kernel
theorem dX8_normal_52 : decode cX8_normal 52 = .ok (.iload_n 3, 1) := by decide +kernel
theorem dX8_normal_53 : decode cX8_normal 53 = .ok (.iload 4, 2) := by decide +kernel
theorem dX8_normal_55 : decode cX8_normal 55 = .ok (.invokestatic 134, 3) := by decide +kernel
theorem dX8_normal_58 : decode cX8_normal 58 = .ok (.aload_n 2, 1) := by decide +kernel
theorem dX8_normal_59 : decode cX8_normal 59 = .ok (.getfield 66, 3) := by decide +kernel
theorem dX8_normal_62 : decode cX8_normal 62 = .ok (.if_icmp .eq 5, 3) := by decide +kernel
theorem dX8_normal_65 : decode cX8_normal 65 = .ok (.iconst 0, 1) := by decide +kernel
theorem dX8_normal_66 : decode cX8_normal 66 = .ok (.ireturn, 1) := by decide +kernel
theorem dX8_normal_67 : decode cX8_normal 67 = .ok (.iload_n 3, 1) := by decide +kernel
theorem dX8_normal_68 : decode cX8_normal 68 = .ok (.aload_n 2, 1) := by decide +kernel
theorem dX8_normal_69 : decode cX8_normal 69 = .ok (.getfield 66, 3) := by decide +kernel
theorem dX8_normal_72 : decode cX8_normal 72 = .ok (.invokestatic 69, 3) := by decide +kernel
theorem dX8_normal_75 : decode cX8_normal 75 = .ok (.if_icmp .eq 14, 3) := by decide +kernel
theorem dX8_normal_78 : decode cX8_normal 78 = .ok (.iload_n 3, 1) := by decide +kernel
theorem dX8_normal_79 : decode cX8_normal 79 = .ok (.invokestatic 140, 3) := by decide +kernel
theorem dX8_normal_82 : decode cX8_normal 82 = .ok (.aload_n 2, 1) := by decide +kernel
theorem dX8_normal_83 : decode cX8_normal 83 = .ok (.getfield 75, 3) := by decide +kernel
theorem dX8_normal_86 : decode cX8_normal 86 = .ok (.if_icmp .ne 7, 3) := by decide +kernel
theorem dX8_normal_89 : decode cX8_normal 89 = .ok (.iconst 1, 1) := by decide +kernel
theorem dX8_normal_90 : decode cX8_normal 90 = .ok (.goto 4, 3) := by decide +kernel
theorem dX8_normal_93 : decode cX8_normal 93 = .ok (.iconst 0, 1) := by decide +kernel
theorem dX8_normal_94 : decode cX8_normal 94 = .ok (.ireturn, 1) := by decide +kernel
set_option maxRecDepth 20000 in
theorem ggX8_move_X8_chordAt : GoodIn wsX8_move wsX8_chordAt := goodIn_r _ [6, 1, 7, 91, 92, 93, 94, 95, 96] (by decide +kernel) (by decide +kernel)
set_option maxRecDepth 20000 in
theorem gX8_move_X8_chordAt : GoodIn wsX8_move (wsV RX8 62 RX8 yX8_chordAt wsX8_chordAt) := goodIn_app (goodIn_of _ (by decide +kernel)) ggX8_move_X8_chordAt
set_option maxRecDepth 20000 in
theorem ggX8_move_J9_floorMod_7cf53 : GoodIn wsX8_move wsJ9_floorMod_7cf53 := goodIn_r _ [11] (by decide +kernel) (by decide +kernel)
set_option maxRecDepth 20000 in
theorem gX8_move_J9_floorMod_7cf53 : GoodIn wsX8_move (va_wsS RX8 149 yJ9_floorMod_7cf53 wsJ9_floorMod_7cf53) := goodIn_app (goodIn_of _ (by decide +kernel)) ggX8_move_J9_floorMod_7cf53
set_option maxRecDepth 20000 in
theorem ggX8_move_X1_movedBy : GoodIn wsX8_move wsX1_movedBy := goodIn_r _ [16, 17, 18, 19, 20, 21, 22, 15, 23, 24, 25, 26, 27, 28, 29, 30, 31, 32, 33, 34, 5, 35, 36, 37, 38, 39, 9, 10, 11, 40, 41, 42, 43, 44, 45, 46, 47, 48, 49, 50, 51, 52, 53, 54, 55, 56, 57, 58, 59, 60, 61, 62, 63, 64, 65, 66, 67, 68, 69, 70, 71, 72, 73, 74, 75, 76, 77, 78, 79, 80, 81, 82, 83, 84, 85, 86, 97, 98, 99, 100] (by decide +kernel) (by decide +kernel)
set_option maxRecDepth 20000 in
theorem gX8_move_X1_movedBy : GoodIn wsX8_move (wsV RX8 154 RX1 yX1_movedBy wsX1_movedBy) := goodIn_app (goodIn_of _ (by decide +kernel)) ggX8_move_X1_movedBy
set_option maxRecDepth 20000 in
theorem ggX8_move_X8_keep : GoodIn wsX8_move wsX8_keep := goodIn_r _ [90, 1, 7, 91, 92, 93, 94, 95, 96] (by decide +kernel) (by decide +kernel)
set_option maxRecDepth 20000 in
theorem gX8_move_X8_keep : GoodIn wsX8_move (wsV RX8 58 RX8 yX8_keep wsX8_keep) := goodIn_app (goodIn_of _ (by decide +kernel)) ggX8_move_X8_keep
theorem dX8_move_0 : decode cX8_move 0 = .ok (.aload_n 0, 1) := by decide +kernel
theorem dX8_move_1 : decode cX8_move 1 = .ok (.iload_n 1, 1) := by decide +kernel
theorem dX8_move_2 : decode cX8_move 2 = .ok (.invokevirtual 62, 3) := by decide +kernel
theorem dX8_move_5 : decode cX8_move 5 = .ok (.astore_n 3, 1) := by decide +kernel
theorem dX8_move_6 : decode cX8_move 6 = .ok (.aload_n 3, 1) := by decide +kernel
theorem dX8_move_7 : decode cX8_move 7 = .ok (.ifnonnull 5, 3) := by decide +kernel
theorem dX8_move_10 : decode cX8_move 10 = .ok (.iconst (-1), 1) := by decide +kernel
theorem dX8_move_11 : decode cX8_move 11 = .ok (.ireturn, 1) := by decide +kernel
theorem dX8_move_12 : decode cX8_move 12 = .ok (.aload_n 0, 1) := by decide +kernel
theorem dX8_move_13 : decode cX8_move 13 = .ok (.getfield 146, 3) := by decide +kernel
theorem dX8_move_16 : decode cX8_move 16 = .ok (.bipush 100, 2) := by decide +kernel
theorem dX8_move_18 : decode cX8_move 18 = .ok (.if_icmp .lt 6, 3) := by decide +kernel
theorem dX8_move_21 : decode cX8_move 21 = .ok (.bipush (-3), 2) := by decide +kernel
theorem dX8_move_23 : decode cX8_move 23 = .ok (.ireturn, 1) := by decide +kernel
theorem dX8_move_24 : decode cX8_move 24 = .ok (.aload_n 0, 1) := by decide +kernel
theorem dX8_move_25 : decode cX8_move 25 = .ok (.aload_n 3, 1) := by decide +kernel
theorem dX8_move_26 : decode cX8_move 26 = .ok (.iload_n 2, 1) := by decide +kernel
theorem dX8_move_27 : decode cX8_move 27 = .ok (.bipush 12, 2) := by decide +kernel
theorem dX8_move_29 : decode cX8_move 29 = .ok (.invokestatic 149, 3) := by decide +kernel
theorem dX8_move_32 : decode cX8_move 32 = .ok (.invokevirtual 154, 3) := by decide +kernel
theorem dX8_move_35 : decode cX8_move 35 = .ok (.invokevirtual 58, 3) := by decide +kernel
theorem dX8_move_38 : decode cX8_move 38 = .ok (.ireturn, 1) := by decide +kernel
set_option maxRecDepth 20000 in
theorem ggX8_voice_X8_chordAt : GoodIn wsX8_voice wsX8_chordAt := goodIn_r _ [7, 8, 9, 87, 88, 89, 90, 91, 92] (by decide +kernel) (by decide +kernel)
set_option maxRecDepth 20000 in
theorem gX8_voice_X8_chordAt : GoodIn wsX8_voice (wsV RX8 62 RX8 yX8_chordAt wsX8_chordAt) := goodIn_app (goodIn_of _ (by decide +kernel)) ggX8_voice_X8_chordAt
set_option maxRecDepth 20000 in
theorem ggX8_voice_X8_isKey : GoodIn wsX8_voice wsX8_isKey := goodIn_r _ [12] (by decide +kernel) (by decide +kernel)
set_option maxRecDepth 20000 in
theorem gX8_voice_X8_isKey : GoodIn wsX8_voice (va_wsS RX8 157 yX8_isKey wsX8_isKey) := goodIn_app (goodIn_of _ (by decide +kernel)) ggX8_voice_X8_isKey
set_option maxRecDepth 20000 in
theorem ggX8_voice_X1_pitches : GoodIn wsX8_voice wsX1_pitches := goodIn_r _ [17, 18, 19, 20, 21, 22, 23, 24, 25, 26, 27, 28, 29, 30, 31, 32, 6, 33, 34, 35, 36, 37, 38, 39, 40, 41, 42, 43, 44, 45, 46, 47, 48, 49, 50, 51, 93, 94, 95, 96] (by decide +kernel) (by decide +kernel)
set_option maxRecDepth 20000 in
theorem gX8_voice_X1_pitches : GoodIn wsX8_voice (wsV RX8 86 RX1 yX1_pitches wsX1_pitches) := goodIn_app (goodIn_of _ (by decide +kernel)) ggX8_voice_X1_pitches
set_option maxRecDepth 20000 in
theorem ggX8_voice_X3_pitch : GoodIn wsX8_voice wsX3_pitch := goodIn_r _ [24, 25, 26, 23, 27, 28, 29, 30, 31, 32, 6, 33, 34, 35, 36, 37, 38, 39, 40] (by decide +kernel) (by decide +kernel)
set_option maxRecDepth 20000 in
theorem gX8_voice_X3_pitch : GoodIn wsX8_voice (va_wsS RX8 69 yX3_pitch wsX3_pitch) := goodIn_app (goodIn_of _ (by decide +kernel)) ggX8_voice_X3_pitch
set_option maxRecDepth 20000 in
theorem ggX8_voice_X7_find : GoodIn wsX8_voice wsX7_find := goodIn_r _ [57, 58, 59, 60, 61, 62, 56, 63, 64, 65, 66, 67, 68, 69, 70, 71, 72, 32, 6, 33, 73, 74, 75, 76, 77, 78, 79, 80, 81, 82, 83, 84, 85, 86, 97, 98, 99, 100, 101, 102] (by decide +kernel) (by decide +kernel)
set_option maxRecDepth 20000 in
theorem gX8_voice_X7_find : GoodIn wsX8_voice (wsV RX8 160 RX7 yX7_find wsX7_find) := goodIn_app (goodIn_of _ (by decide +kernel)) ggX8_voice_X7_find
theorem dX8_voice_0 : decode cX8_voice 0 = .ok (.aload_n 0, 1) := by decide +kernel
theorem dX8_voice_1 : decode cX8_voice 1 = .ok (.iload_n 1, 1) := by decide +kernel
theorem dX8_voice_2 : decode cX8_voice 2 = .ok (.invokevirtual 62, 3) := by decide +kernel
theorem dX8_voice_5 : decode cX8_voice 5 = .ok (.astore 4, 2) := by decide +kernel
theorem dX8_voice_7 : decode cX8_voice 7 = .ok (.aload 4, 2) := by decide +kernel
theorem dX8_voice_9 : decode cX8_voice 9 = .ok (.ifnull 30, 3) := by decide +kernel
theorem dX8_voice_12 : decode cX8_voice 12 = .ok (.iload_n 2, 1) := by decide +kernel
theorem dX8_voice_13 : decode cX8_voice 13 = .ok (.invokestatic 157, 3) := by decide +kernel
theorem dX8_voice_16 : decode cX8_voice 16 = .ok (.ifCond .eq 23, 3) := by decide +kernel
theorem dX8_voice_19 : decode cX8_voice 19 = .ok (.iload_n 3, 1) := by decide +kernel
theorem dX8_voice_20 : decode cX8_voice 20 = .ok (.invokestatic 157, 3) := by decide +kernel
theorem dX8_voice_23 : decode cX8_voice 23 = .ok (.ifCond .eq 16, 3) := by decide +kernel
theorem dX8_voice_26 : decode cX8_voice 26 = .ok (.iload_n 3, 1) := by decide +kernel
theorem dX8_voice_27 : decode cX8_voice 27 = .ok (.iload_n 2, 1) := by decide +kernel
theorem dX8_voice_28 : decode cX8_voice 28 = .ok (.if_icmp .lt 11, 3) := by decide +kernel
theorem dX8_voice_31 : decode cX8_voice 31 = .ok (.iload_n 3, 1) := by decide +kernel
theorem dX8_voice_32 : decode cX8_voice 32 = .ok (.iload_n 2, 1) := by decide +kernel
theorem dX8_voice_33 : decode cX8_voice 33 = .ok (.isub, 1) := by decide +kernel
theorem dX8_voice_34 : decode cX8_voice 34 = .ok (.bipush 36, 2) := by decide +kernel
theorem dX8_voice_36 : decode cX8_voice 36 = .ok (.if_icmp .le 5, 3) := by decide +kernel
theorem dX8_voice_39 : decode cX8_voice 39 = .ok (.iconst (-1), 1) := by decide +kernel
theorem dX8_voice_40 : decode cX8_voice 40 = .ok (.ireturn, 1) := by decide +kernel
theorem dX8_voice_41 : decode cX8_voice 41 = .ok (.aload_n 0, 1) := by decide +kernel
theorem dX8_voice_42 : decode cX8_voice 42 = .ok (.getfield 32, 3) := by decide +kernel
theorem dX8_voice_45 : decode cX8_voice 45 = .ok (.aload 4, 2) := by decide +kernel
theorem dX8_voice_47 : decode cX8_voice 47 = .ok (.invokevirtual 86, 3) := by decide +kernel
theorem dX8_voice_50 : decode cX8_voice 50 = .ok (.aload 4, 2) := by decide +kernel
theorem dX8_voice_52 : decode cX8_voice 52 = .ok (.getfield 75, 3) := by decide +kernel
theorem dX8_voice_55 : decode cX8_voice 55 = .ok (.invokestatic 69, 3) := by decide +kernel
theorem dX8_voice_58 : decode cX8_voice 58 = .ok (.iload_n 2, 1) := by decide +kernel
theorem dX8_voice_59 : decode cX8_voice 59 = .ok (.iload_n 3, 1) := by decide +kernel
theorem dX8_voice_60 : decode cX8_voice 60 = .ok (.invokevirtual 160, 3) := by decide +kernel
theorem dX8_voice_63 : decode cX8_voice 63 = .ok (.ifCond .eq 13, 3) := by decide +kernel
theorem dX8_voice_66 : decode cX8_voice 66 = .ok (.aload_n 0, 1) := by decide +kernel
theorem dX8_voice_67 : decode cX8_voice 67 = .ok (.getfield 32, 3) := by decide +kernel
theorem dX8_voice_70 : decode cX8_voice 70 = .ok (.getfield 163, 3) := by decide +kernel
theorem dX8_voice_73 : decode cX8_voice 73 = .ok (.goto 5, 3) := by decide +kernel
theorem dX8_voice_76 : decode cX8_voice 76 = .ok (.bipush (-2), 2) := by decide +kernel
theorem dX8_voice_78 : decode cX8_voice 78 = .ok (.ireturn, 1) := by decide +kernel
set_option maxRecDepth 20000 in
theorem ggX8_key_X7_keyAt : GoodIn wsX8_key wsX7_keyAt := goodIn_r _ [6, 7, 8, 15, 16, 17, 18, 19, 20] (by decide +kernel) (by decide +kernel)
set_option maxRecDepth 20000 in
theorem gX8_key_X7_keyAt : GoodIn wsX8_key (wsV RX8 166 RX7 yX7_keyAt wsX7_keyAt) := goodIn_app (goodIn_of _ (by decide +kernel)) ggX8_key_X7_keyAt
theorem dX8_key_0 : decode cX8_key 0 = .ok (.aload_n 0, 1) := by decide +kernel
theorem dX8_key_1 : decode cX8_key 1 = .ok (.getfield 32, 3) := by decide +kernel
theorem dX8_key_4 : decode cX8_key 4 = .ok (.iload_n 1, 1) := by decide +kernel
theorem dX8_key_5 : decode cX8_key 5 = .ok (.invokevirtual 166, 3) := by decide +kernel
theorem dX8_key_8 : decode cX8_key 8 = .ok (.ireturn, 1) := by decide +kernel
set_option maxRecDepth 20000 in
theorem ggX8_rest_X7_drop : GoodIn wsX8_rest wsX7_drop := goodIn_r _ [6, 7, 14, 15, 16, 17, 18, 19] (by decide +kernel) (by decide +kernel)
set_option maxRecDepth 20000 in
theorem gX8_rest_X7_drop : GoodIn wsX8_rest (wsV RX8 169 RX7 yX7_drop wsX7_drop) := goodIn_app (goodIn_of _ (by decide +kernel)) ggX8_rest_X7_drop
theorem dX8_rest_0 : decode cX8_rest 0 = .ok (.aload_n 0, 1) := by decide +kernel
theorem dX8_rest_1 : decode cX8_rest 1 = .ok (.getfield 32, 3) := by decide +kernel
theorem dX8_rest_4 : decode cX8_rest 4 = .ok (.invokevirtual 169, 3) := by decide +kernel
theorem dX8_rest_7 : decode cX8_rest 7 = .ok (.ireturn, 1) := by decide +kernel
set_option maxRecDepth 20000 in
theorem ggX8_figure_X8_chordAt : GoodIn wsX8_figure wsX8_chordAt := goodIn_r _ [7, 8, 9, 137, 138, 139, 140, 141, 142] (by decide +kernel) (by decide +kernel)
set_option maxRecDepth 20000 in
theorem gX8_figure_X8_chordAt : GoodIn wsX8_figure (wsV RX8 62 RX8 yX8_chordAt wsX8_chordAt) := goodIn_app (goodIn_of _ (by decide +kernel)) ggX8_figure_X8_chordAt
set_option maxRecDepth 20000 in
theorem ggX8_figure_X8_isPitch : GoodIn wsX8_figure wsX8_isPitch := goodIn_r _ [12] (by decide +kernel) (by decide +kernel)
set_option maxRecDepth 20000 in
theorem gX8_figure_X8_isPitch : GoodIn wsX8_figure (va_wsS RX8 121 yX8_isPitch wsX8_isPitch) := goodIn_app (goodIn_of _ (by decide +kernel)) ggX8_figure_X8_isPitch
set_option maxRecDepth 20000 in
theorem ggX8_figure_X6_clear : GoodIn wsX8_figure wsX6_clear := goodIn_r _ [17, 18, 147, 148] (by decide +kernel) (by decide +kernel)
set_option maxRecDepth 20000 in
theorem gX8_figure_X6_clear : GoodIn wsX8_figure (wsV RX8 172 RX6 yX6_clear wsX6_clear) := goodIn_app (goodIn_of _ (by decide +kernel)) ggX8_figure_X6_clear
set_option maxRecDepth 20000 in
theorem ggX8_figure_X1_has : GoodIn wsX8_figure wsX1_has := goodIn_r _ [23, 24, 143, 144, 145, 146] (by decide +kernel) (by decide +kernel)
set_option maxRecDepth 20000 in
theorem gX8_figure_X1_has : GoodIn wsX8_figure (wsV RX8 173 RX1 yX1_has wsX1_has) := goodIn_app (goodIn_of _ (by decide +kernel)) ggX8_figure_X1_has
set_option maxRecDepth 20000 in
theorem ggX8_figure_X3_pitch : GoodIn wsX8_figure wsX3_pitch := goodIn_r _ [28, 29, 30, 27, 31, 32, 33, 34, 35, 36, 6, 37, 38, 39, 40, 41, 42, 43, 44] (by decide +kernel) (by decide +kernel)
set_option maxRecDepth 20000 in
theorem gX8_figure_X3_pitch : GoodIn wsX8_figure (va_wsS RX8 69 yX3_pitch wsX3_pitch) := goodIn_app (goodIn_of _ (by decide +kernel)) ggX8_figure_X3_pitch
set_option maxRecDepth 20000 in
theorem ggX8_figure_X8_addNumeral : GoodIn wsX8_figure wsX8_addNumeral := goodIn_r _ [48, 1, 49, 42, 43, 44, 50, 51, 52, 16, 53, 54, 55, 56, 57, 58, 59, 60, 61, 62, 63, 64, 65, 66, 67, 68, 69, 70, 71, 72, 73, 74, 75, 76, 77, 78, 79, 80, 81, 82, 83, 84, 85, 86, 87, 88, 89, 90, 91, 92, 93, 94, 95, 96, 97, 98, 99, 100, 101, 102, 103, 104, 105, 106, 18, 107, 137, 138, 139, 140, 141, 142, 147, 148] (by decide +kernel) (by decide +kernel)
set_option maxRecDepth 20000 in
theorem gX8_figure_X8_addNumeral : GoodIn wsX8_figure (wsV RX8 176 RX8 yX8_addNumeral wsX8_addNumeral) := goodIn_app (goodIn_of _ (by decide +kernel)) ggX8_figure_X8_addNumeral
set_option maxRecDepth 20000 in
theorem ggX8_figure_X6_add : GoodIn wsX8_figure wsX6_add := goodIn_r _ [106, 18, 107, 147, 148] (by decide +kernel) (by decide +kernel)
set_option maxRecDepth 20000 in
theorem gX8_figure_X6_add : GoodIn wsX8_figure (wsV RX8 180 RX6 yX6_add wsX6_add) := goodIn_app (goodIn_of _ (by decide +kernel)) ggX8_figure_X6_add
set_option maxRecDepth 20000 in
theorem ggX8_figure_X8_addInversion : GoodIn wsX8_figure wsX8_addInversion := goodIn_r _ [112, 1, 113, 19, 20, 21, 22, 23, 24, 114, 115, 116, 117, 118, 119, 120, 121, 122, 123, 124, 125, 126, 127, 26, 27, 28, 29, 30, 31, 32, 33, 34, 35, 36, 6, 37, 38, 39, 40, 41, 42, 43, 44, 128, 129, 130, 131, 132, 133, 134, 135, 136, 50, 51, 52, 16, 53, 54, 55, 56, 57, 58, 59, 60, 61, 62, 63, 64, 65, 66, 67, 68, 69, 70, 71, 72, 73, 74, 75, 76, 77, 78, 79, 80, 81, 82, 83, 84, 85, 86, 87, 88, 89, 90, 91, 92, 93, 94, 95, 96, 97, 98, 99, 100, 101, 102, 103, 104, 105, 106, 18, 107, 108, 25, 45, 46, 47, 48, 49, 137, 138, 139, 140, 141, 142, 143, 144, 145, 146, 147, 148] (by decide +kernel) (by decide +kernel)
set_option maxRecDepth 20000 in
theorem gX8_figure_X8_addInversion : GoodIn wsX8_figure (wsV RX8 183 RX8 yX8_addInversion wsX8_addInversion) := goodIn_app (goodIn_of _ (by decide +kernel)) ggX8_figure_X8_addInversion
theorem dX8_figure_0 : decode cX8_figure 0 = .ok (.aload_n 0, 1) := by decide +kernel
theorem dX8_figure_1 : decode cX8_figure 1 = .ok (.iload_n 1, 1) := by decide +kernel
theorem dX8_figure_2 : decode cX8_figure 2 = .ok (.invokevirtual 62, 3) := by decide +kernel
theorem dX8_figure_5 : decode cX8_figure 5 = .ok (.astore_n 3, 1) := by decide +kernel
theorem dX8_figure_6 : decode cX8_figure 6 = .ok (.aload_n 3, 1) := by decide +kernel
theorem dX8_figure_7 : decode cX8_figure 7 = .ok (.ifnull 10, 3) := by decide +kernel
theorem dX8_figure_10 : decode cX8_figure 10 = .ok (.iload_n 2, 1) := by decide +kernel
theorem dX8_figure_11 : decode cX8_figure 11 = .ok (.invokestatic 121, 3) := by decide +kernel
theorem dX8_figure_14 : decode cX8_figure 14 = .ok (.ifCond .ne 5, 3) := by decide +kernel
theorem dX8_figure_17 : decode cX8_figure 17 = .ok (.iconst (-1), 1) := by decide +kernel
theorem dX8_figure_18 : decode cX8_figure 18 = .ok (.ireturn, 1) := by decide +kernel
theorem dX8_figure_19 : decode cX8_figure 19 = .ok (.aload_n 0, 1) := by decide +kernel
theorem dX8_figure_20 : decode cX8_figure 20 = .ok (.getfield 39, 3) := by decide +kernel
theorem dX8_figure_23 : decode cX8_figure 23 = .ok (.invokevirtual 172, 3) := by decide +kernel
theorem dX8_figure_26 : decode cX8_figure 26 = .ok (.aload_n 3, 1) := by decide +kernel
theorem dX8_figure_27 : decode cX8_figure 27 = .ok (.iconst 4, 1) := by decide +kernel
theorem dX8_figure_28 : decode cX8_figure 28 = .ok (.invokevirtual 173, 3) := by decide +kernel
theorem dX8_figure_31 : decode cX8_figure 31 = .ok (.istore 4, 2) := by decide +kernel
theorem dX8_figure_33 : decode cX8_figure 33 = .ok (.aload_n 0, 1) := by decide +kernel
theorem dX8_figure_34 : decode cX8_figure 34 = .ok (.aload_n 3, 1) := by decide +kernel
theorem dX8_figure_35 : decode cX8_figure 35 = .ok (.getfield 66, 3) := by decide +kernel
theorem dX8_figure_38 : decode cX8_figure 38 = .ok (.invokestatic 69, 3) := by decide +kernel
theorem dX8_figure_41 : decode cX8_figure 41 = .ok (.iload_n 2, 1) := by decide +kernel
theorem dX8_figure_42 : decode cX8_figure 42 = .ok (.isub, 1) := by decide +kernel
theorem dX8_figure_43 : decode cX8_figure 43 = .ok (.iload 4, 2) := by decide +kernel
theorem dX8_figure_45 : decode cX8_figure 45 = .ok (.invokevirtual 176, 3) := by decide +kernel
theorem dX8_figure_48 : decode cX8_figure 48 = .ok (.iload 4, 2) := by decide +kernel
theorem dX8_figure_50 : decode cX8_figure 50 = .ok (.ifCond .eq 21, 3) := by decide +kernel
theorem dX8_figure_53 : decode cX8_figure 53 = .ok (.aload_n 3, 1) := by decide +kernel
theorem dX8_figure_54 : decode cX8_figure 54 = .ok (.bipush 32, 2) := by decide +kernel
theorem dX8_figure_56 : decode cX8_figure 56 = .ok (.invokevirtual 173, 3) := by decide +kernel
theorem dX8_figure_59 : decode cX8_figure 59 = .ok (.ifCond .eq 12, 3) := by decide +kernel
theorem dX8_figure_62 : decode cX8_figure 62 = .ok (.aload_n 0, 1) := by decide +kernel
theorem dX8_figure_63 : decode cX8_figure 63 = .ok (.getfield 39, 3) := by decide +kernel
theorem dX8_figure_66 : decode cX8_figure 66 = .ok (.bipush 111, 2) := by decide +kernel
theorem dX8_figure_68 : decode cX8_figure 68 = .ok (.invokevirtual 180, 3) := by decide +kernel
theorem dX8_figure_71 : decode cX8_figure 71 = .ok (.aload_n 3, 1) := by decide +kernel
theorem dX8_figure_72 : decode cX8_figure 72 = .ok (.bipush 8, 2) := by decide +kernel
theorem dX8_figure_74 : decode cX8_figure 74 = .ok (.invokevirtual 173, 3) := by decide +kernel
theorem dX8_figure_77 : decode cX8_figure 77 = .ok (.ifCond .eq 22, 3) := by decide +kernel
theorem dX8_figure_80 : decode cX8_figure 80 = .ok (.aload_n 3, 1) := by decide +kernel
theorem dX8_figure_81 : decode cX8_figure 81 = .ok (.sipush 128, 3) := by decide +kernel
theorem dX8_figure_84 : decode cX8_figure 84 = .ok (.invokevirtual 173, 3) := by decide +kernel
theorem dX8_figure_87 : decode cX8_figure 87 = .ok (.ifCond .eq 12, 3) := by decide +kernel
theorem dX8_figure_90 : decode cX8_figure 90 = .ok (.aload_n 0, 1) := by decide +kernel
theorem dX8_figure_91 : decode cX8_figure 91 = .ok (.getfield 39, 3) := by decide +kernel
theorem dX8_figure_94 : decode cX8_figure 94 = .ok (.bipush 43, 2) := by decide +kernel
theorem dX8_figure_96 : decode cX8_figure 96 = .ok (.invokevirtual 180, 3) := by decide +kernel
theorem dX8_figure_99 : decode cX8_figure 99 = .ok (.aload_n 0, 1) := by decide +kernel
theorem dX8_figure_100 : decode cX8_figure 100 = .ok (.aload_n 3, 1) := by decide +kernel
theorem dX8_figure_101 : decode cX8_figure 101 = .ok (.iload_n 2, 1) := by decide +kernel
theorem dX8_figure_102 : decode cX8_figure 102 = .ok (.invokevirtual 183, 3) := by decide +kernel
theorem dX8_figure_105 : decode cX8_figure 105 = .ok (.aload_n 0, 1) := by decide +kernel
theorem dX8_figure_106 : decode cX8_figure 106 = .ok (.getfield 39, 3) := by decide +kernel
theorem dX8_figure_109 : decode cX8_figure 109 = .ok (.getfield 187, 3) := by decide +kernel
theorem dX8_figure_112 : decode cX8_figure 112 = .ok (.ireturn, 1) := by decide +kernel
theorem dX8_count_0 : decode cX8_count 0 = .ok (.iload_n 1, 1) := by decide +kernel
theorem dX8_count_1 : decode cX8_count 1 = .ok (.tableswitch 72 0 4 #[35, 40, 48, 56, 64], 35) := by decide +kernel
theorem dX8_count_36 : decode cX8_count 36 = .ok (.aload_n 0, 1) := by decide +kernel
theorem dX8_count_37 : decode cX8_count 37 = .ok (.getfield 146, 3) := by decide +kernel
theorem dX8_count_40 : decode cX8_count 40 = .ok (.ireturn, 1) := by decide +kernel
theorem dX8_count_41 : decode cX8_count 41 = .ok (.aload_n 0, 1) := by decide +kernel
theorem dX8_count_42 : decode cX8_count 42 = .ok (.getfield 25, 3) := by decide +kernel
theorem dX8_count_45 : decode cX8_count 45 = .ok (.getfield 188, 3) := by decide +kernel
theorem dX8_count_48 : decode cX8_count 48 = .ok (.ireturn, 1) := by decide +kernel
theorem dX8_count_49 : decode cX8_count 49 = .ok (.aload_n 0, 1) := by decide +kernel
theorem dX8_count_50 : decode cX8_count 50 = .ok (.getfield 10, 3) := by decide +kernel
theorem dX8_count_53 : decode cX8_count 53 = .ok (.getfield 189, 3) := by decide +kernel
theorem dX8_count_56 : decode cX8_count 56 = .ok (.ireturn, 1) := by decide +kernel
theorem dX8_count_57 : decode cX8_count 57 = .ok (.aload_n 0, 1) := by decide +kernel
theorem dX8_count_58 : decode cX8_count 58 = .ok (.getfield 39, 3) := by decide +kernel
theorem dX8_count_61 : decode cX8_count 61 = .ok (.getfield 187, 3) := by decide +kernel
theorem dX8_count_64 : decode cX8_count 64 = .ok (.ireturn, 1) := by decide +kernel
theorem dX8_count_65 : decode cX8_count 65 = .ok (.aload_n 0, 1) := by decide +kernel
theorem dX8_count_66 : decode cX8_count 66 = .ok (.getfield 32, 3) := by decide +kernel
theorem dX8_count_69 : decode cX8_count 69 = .ok (.getfield 163, 3) := by decide +kernel
theorem dX8_count_72 : decode cX8_count 72 = .ok (.ireturn, 1) := by decide +kernel
theorem dX8_count_73 : decode cX8_count 73 = .ok (.iconst (-1), 1) := by decide +kernel
theorem dX8_count_74 : decode cX8_count 74 = .ok (.ireturn, 1) := by decide +kernel
theorem dX8_entry_0 : decode cX8_entry 0 = .ok (.iload_n 1, 1) := by decide +kernel
theorem dX8_entry_1 : decode cX8_entry 1 = .ok (.ifCond .lt 15, 3) := by decide +kernel
theorem dX8_entry_4 : decode cX8_entry 4 = .ok (.iload_n 1, 1) := by decide +kernel
theorem dX8_entry_5 : decode cX8_entry 5 = .ok (.aload_n 0, 1) := by decide +kernel
theorem dX8_entry_6 : decode cX8_entry 6 = .ok (.arraylength, 1) := by decide +kernel
theorem dX8_entry_7 : decode cX8_entry 7 = .ok (.if_icmp .ge 9, 3) := by decide +kernel
theorem dX8_entry_10 : decode cX8_entry 10 = .ok (.aload_n 0, 1) := by decide +kernel
theorem dX8_entry_11 : decode cX8_entry 11 = .ok (.iload_n 1, 1) := by decide +kernel
theorem dX8_entry_12 : decode cX8_entry 12 = .ok (.iaload, 1) := by decide +kernel
theorem dX8_entry_13 : decode cX8_entry 13 = .ok (.goto 4, 3) := by decide +kernel
theorem dX8_entry_16 : decode cX8_entry 16 = .ok (.iconst 0, 1) := by decide +kernel
theorem dX8_entry_17 : decode cX8_entry 17 = .ok (.ireturn, 1) := by decide +kernel
theorem dX8_isPitch_0 : decode cX8_isPitch 0 = .ok (.iload_n 0, 1) := by decide +kernel
theorem dX8_isPitch_1 : decode cX8_isPitch 1 = .ok (.ifCond .lt 13, 3) := by decide +kernel
theorem dX8_isPitch_4 : decode cX8_isPitch 4 = .ok (.iload_n 0, 1) := by decide +kernel
theorem dX8_isPitch_5 : decode cX8_isPitch 5 = .ok (.bipush 12, 2) := by decide +kernel
theorem dX8_isPitch_7 : decode cX8_isPitch 7 = .ok (.if_icmp .ge 7, 3) := by decide +kernel
theorem dX8_isPitch_10 : decode cX8_isPitch 10 = .ok (.iconst 1, 1) := by decide +kernel
theorem dX8_isPitch_11 : decode cX8_isPitch 11 = .ok (.goto 4, 3) := by decide +kernel
theorem dX8_isPitch_14 : decode cX8_isPitch 14 = .ok (.iconst 0, 1) := by decide +kernel
theorem dX8_isPitch_15 : decode cX8_isPitch 15 = .ok (.ireturn, 1) := by decide +kernel
theorem dX8_isKey_0 : decode cX8_isKey 0 = .ok (.iload_n 0, 1) := by decide +kernel
theorem dX8_isKey_1 : decode cX8_isKey 1 = .ok (.ifCond .lt 13, 3) := by decide +kernel
theorem dX8_isKey_4 : decode cX8_isKey 4 = .ok (.iload_n 0, 1) := by decide +kernel
theorem dX8_isKey_5 : decode cX8_isKey 5 = .ok (.bipush 127, 2) := by decide +kernel
theorem dX8_isKey_7 : decode cX8_isKey 7 = .ok (.if_icmp .gt 7, 3) := by decide +kernel
theorem dX8_isKey_10 : decode cX8_isKey 10 = .ok (.iconst 1, 1) := by decide +kernel
theorem dX8_isKey_11 : decode cX8_isKey 11 = .ok (.goto 4, 3) := by decide +kernel
theorem dX8_isKey_14 : decode cX8_isKey 14 = .ok (.iconst 0, 1) := by decide +kernel
theorem dX8_isKey_15 : decode cX8_isKey 15 = .ok (.ireturn, 1) := by decide +kernel
theorem dX8_chordAt_0 : decode cX8_chordAt 0 = .ok (.iload_n 1, 1) := by decide +kernel
theorem dX8_chordAt_1 : decode cX8_chordAt 1 = .ok (.ifCond .lt 20, 3) := by decide +kernel
theorem dX8_chordAt_4 : decode cX8_chordAt 4 = .ok (.iload_n 1, 1) := by decide +kernel
theorem dX8_chordAt_5 : decode cX8_chordAt 5 = .ok (.aload_n 0, 1) := by decide +kernel
theorem dX8_chordAt_6 : decode cX8_chordAt 6 = .ok (.getfield 146, 3) := by decide +kernel
theorem dX8_chordAt_9 : decode cX8_chordAt 9 = .ok (.if_icmp .ge 12, 3) := by decide +kernel
theorem dX8_chordAt_12 : decode cX8_chordAt 12 = .ok (.aload_n 0, 1) := by decide +kernel
theorem dX8_chordAt_13 : decode cX8_chordAt 13 = .ok (.getfield 18, 3) := by decide +kernel
theorem dX8_chordAt_16 : decode cX8_chordAt 16 = .ok (.iload_n 1, 1) := by decide +kernel
theorem dX8_chordAt_17 : decode cX8_chordAt 17 = .ok (.aaload, 1) := by decide +kernel
theorem dX8_chordAt_18 : decode cX8_chordAt 18 = .ok (.goto 4, 3) := by decide +kernel
theorem dX8_chordAt_21 : decode cX8_chordAt 21 = .ok (.aconst_null, 1) := by decide +kernel
theorem dX8_chordAt_22 : decode cX8_chordAt 22 = .ok (.areturn, 1) := by decide +kernel
theorem dX8_keep_0 : decode cX8_keep 0 = .ok (.aload_n 0, 1) := by decide +kernel
theorem dX8_keep_1 : decode cX8_keep 1 = .ok (.getfield 146, 3) := by decide +kernel
theorem dX8_keep_4 : decode cX8_keep 4 = .ok (.bipush 100, 2) := by decide +kernel
theorem dX8_keep_6 : decode cX8_keep 6 = .ok (.if_icmp .lt 6, 3) := by decide +kernel
theorem dX8_keep_9 : decode cX8_keep 9 = .ok (.bipush (-3), 2) := by decide +kernel
theorem dX8_keep_11 : decode cX8_keep 11 = .ok (.ireturn, 1) := by decide +kernel
theorem dX8_keep_12 : decode cX8_keep 12 = .ok (.aload_n 0, 1) := by decide +kernel
theorem dX8_keep_13 : decode cX8_keep 13 = .ok (.getfield 18, 3) := by decide +kernel
theorem dX8_keep_16 : decode cX8_keep 16 = .ok (.aload_n 0, 1) := by decide +kernel
theorem dX8_keep_17 : decode cX8_keep 17 = .ok (.getfield 146, 3) := by decide +kernel
theorem dX8_keep_20 : decode cX8_keep 20 = .ok (.aload_n 1, 1) := by decide +kernel
theorem dX8_keep_21 : decode cX8_keep 21 = .ok (.aastore, 1) := by decide +kernel
theorem dX8_keep_22 : decode cX8_keep 22 = .ok (.aload_n 0, 1) := by decide +kernel
theorem dX8_keep_23 : decode cX8_keep 23 = .ok (.dup, 1) := by decide +kernel
theorem dX8_keep_24 : decode cX8_keep 24 = .ok (.getfield 146, 3) := by decide +kernel
theorem dX8_keep_27 : decode cX8_keep 27 = .ok (.iconst 1, 1) := by decide +kernel
theorem dX8_keep_28 : decode cX8_keep 28 = .ok (.iadd, 1) := by decide +kernel
theorem dX8_keep_29 : decode cX8_keep 29 = .ok (.putfield 146, 3) := by decide +kernel
theorem dX8_keep_32 : decode cX8_keep 32 = .ok (.aload_n 0, 1) := by decide +kernel
theorem dX8_keep_33 : decode cX8_keep 33 = .ok (.getfield 146, 3) := by decide +kernel
theorem dX8_keep_36 : decode cX8_keep 36 = .ok (.iconst 1, 1) := by decide +kernel
theorem dX8_keep_37 : decode cX8_keep 37 = .ok (.isub, 1) := by decide +kernel
theorem dX8_keep_38 : decode cX8_keep 38 = .ok (.ireturn, 1) := by decide +kernel
set_option maxRecDepth 20000 in
theorem ggX8_bassPart_X3_letter : GoodIn wsX8_bassPart wsX3_letter := goodIn_r _ [4] (by decide +kernel) (by decide +kernel)
set_option maxRecDepth 20000 in
theorem gX8_bassPart_X3_letter : GoodIn wsX8_bassPart (va_wsS RX8 192 yX3_letter wsX3_letter) := goodIn_app (goodIn_of _ (by decide +kernel)) ggX8_bassPart_X3_letter
set_option maxRecDepth 20000 in
theorem ggX8_bassPart_X3_signs : GoodIn wsX8_bassPart wsX3_signs := goodIn_r _ [7] (by decide +kernel) (by decide +kernel)
set_option maxRecDepth 20000 in
theorem gX8_bassPart_X3_signs : GoodIn wsX8_bassPart (va_wsS RX8 195 yX3_signs wsX3_signs) := goodIn_app (goodIn_of _ (by decide +kernel)) ggX8_bassPart_X3_signs
set_option maxRecDepth 20000 in
theorem ggX8_bassPart_X3_pitch : GoodIn wsX8_bassPart wsX3_pitch := goodIn_r _ [10, 11, 2, 3, 4, 12, 13, 14, 15, 16, 17, 18, 19, 6, 7, 20, 21, 22, 23] (by decide +kernel) (by decide +kernel)
set_option maxRecDepth 20000 in
theorem gX8_bassPart_X3_pitch : GoodIn wsX8_bassPart (va_wsS RX8 69 yX3_pitch wsX3_pitch) := goodIn_app (goodIn_of _ (by decide +kernel)) ggX8_bassPart_X3_pitch
theorem dX8_bassPart_0 : decode cX8_bassPart 0 = .ok (.iload_n 1, 1) := by decide +kernel
theorem dX8_bassPart_1 : decode cX8_bassPart 1 = .ok (.tableswitch 42 2 4 #[27, 32, 37], 27) := by decide +kernel
theorem dX8_bassPart_28 : decode cX8_bassPart 28 = .ok (.iload_n 0, 1) := by decide +kernel
theorem dX8_bassPart_29 : decode cX8_bassPart 29 = .ok (.invokestatic 192, 3) := by decide +kernel
theorem dX8_bassPart_32 : decode cX8_bassPart 32 = .ok (.ireturn, 1) := by decide +kernel
theorem dX8_bassPart_33 : decode cX8_bassPart 33 = .ok (.iload_n 0, 1) := by decide +kernel
theorem dX8_bassPart_34 : decode cX8_bassPart 34 = .ok (.invokestatic 195, 3) := by decide +kernel
theorem dX8_bassPart_37 : decode cX8_bassPart 37 = .ok (.ireturn, 1) := by decide +kernel
theorem dX8_bassPart_38 : decode cX8_bassPart 38 = .ok (.iload_n 0, 1) := by decide +kernel
theorem dX8_bassPart_39 : decode cX8_bassPart 39 = .ok (.invokestatic 69, 3) := by decide +kernel
theorem dX8_bassPart_42 : decode cX8_bassPart 42 = .ok (.ireturn, 1) := by decide +kernel
theorem dX8_bassPart_43 : decode cX8_bassPart 43 = .ok (.iconst (-1), 1) := by decide +kernel
theorem dX8_bassPart_44 : decode cX8_bassPart 44 = .ok (.ireturn, 1) := by decide +kernel
set_option maxRecDepth 20000 in
theorem ggX8_stepPart_X4_halfTones : GoodIn wsX8_stepPart wsX4_halfTones := goodIn_r _ [4, 5, 6, 7, 8] (by decide +kernel) (by decide +kernel)
set_option maxRecDepth 20000 in
theorem gX8_stepPart_X4_halfTones : GoodIn wsX8_stepPart (va_wsS RX8 198 yX4_halfTones wsX4_halfTones) := goodIn_app (goodIn_of _ (by decide +kernel)) ggX8_stepPart_X4_halfTones
set_option maxRecDepth 20000 in
theorem ggX8_stepPart_X4_degree : GoodIn wsX8_stepPart wsX4_degree := goodIn_r _ [11, 12, 6, 7, 8] (by decide +kernel) (by decide +kernel)
set_option maxRecDepth 20000 in
theorem gX8_stepPart_X4_degree : GoodIn wsX8_stepPart (va_wsS RX8 201 yX4_degree wsX4_degree) := goodIn_app (goodIn_of _ (by decide +kernel)) ggX8_stepPart_X4_degree
set_option maxRecDepth 20000 in
theorem ggX8_stepPart_X4_letter : GoodIn wsX8_stepPart wsX4_letter := goodIn_r _ [15, 16, 17, 18, 19, 20, 21, 3, 22, 23, 10, 11, 12, 6, 7, 8] (by decide +kernel) (by decide +kernel)
set_option maxRecDepth 20000 in
theorem gX8_stepPart_X4_letter : GoodIn wsX8_stepPart (va_wsS RX8 204 yX4_letter wsX4_letter) := goodIn_app (goodIn_of _ (by decide +kernel)) ggX8_stepPart_X4_letter
set_option maxRecDepth 20000 in
theorem ggX8_stepPart_X4_signs : GoodIn wsX8_stepPart wsX4_signs := goodIn_r _ [26, 16, 17, 18, 19, 27, 28, 29, 30, 31, 32, 33, 34, 6, 7, 8, 35, 36, 37, 38, 39, 40, 41, 42, 43, 3, 44, 20, 21, 22, 23, 10, 11, 12, 45, 46, 2, 4, 5, 47] (by decide +kernel) (by decide +kernel)
set_option maxRecDepth 20000 in
theorem gX8_stepPart_X4_signs : GoodIn wsX8_stepPart (va_wsS RX8 206 yX4_signs wsX4_signs) := goodIn_app (goodIn_of _ (by decide +kernel)) ggX8_stepPart_X4_signs
set_option maxRecDepth 20000 in
theorem ggX8_stepPart_X4_pitch : GoodIn wsX8_stepPart wsX4_pitch := goodIn_r _ [50, 27, 28, 18, 29, 30, 17, 19, 31, 32, 33, 34, 6, 7, 8, 35, 36, 37, 38, 39, 40, 41, 46, 2, 3, 4, 5] (by decide +kernel) (by decide +kernel)
set_option maxRecDepth 20000 in
theorem gX8_stepPart_X4_pitch : GoodIn wsX8_stepPart (va_wsS RX8 208 yX4_pitch wsX4_pitch) := goodIn_app (goodIn_of _ (by decide +kernel)) ggX8_stepPart_X4_pitch
theorem dX8_stepPart_0 : decode cX8_stepPart 0 = .ok (.iload_n 2, 1) := by decide +kernel
theorem dX8_stepPart_1 : decode cX8_stepPart 1 = .ok (.tableswitch 63 0 4 #[35, 40, 45, 51, 57], 35) := by decide +kernel
theorem dX8_stepPart_36 : decode cX8_stepPart 36 = .ok (.iload_n 1, 1) := by decide +kernel
theorem dX8_stepPart_37 : decode cX8_stepPart 37 = .ok (.invokestatic 198, 3) := by decide +kernel
theorem dX8_stepPart_40 : decode cX8_stepPart 40 = .ok (.ireturn, 1) := by decide +kernel
theorem dX8_stepPart_41 : decode cX8_stepPart 41 = .ok (.iload_n 1, 1) := by decide +kernel
theorem dX8_stepPart_42 : decode cX8_stepPart 42 = .ok (.invokestatic 201, 3) := by decide +kernel
theorem dX8_stepPart_45 : decode cX8_stepPart 45 = .ok (.ireturn, 1) := by decide +kernel
theorem dX8_stepPart_46 : decode cX8_stepPart 46 = .ok (.iload_n 0, 1) := by decide +kernel
theorem dX8_stepPart_47 : decode cX8_stepPart 47 = .ok (.iload_n 1, 1) := by decide +kernel
theorem dX8_stepPart_48 : decode cX8_stepPart 48 = .ok (.invokestatic 204, 3) := by decide +kernel
theorem dX8_stepPart_51 : decode cX8_stepPart 51 = .ok (.ireturn, 1) := by decide +kernel
theorem dX8_stepPart_52 : decode cX8_stepPart 52 = .ok (.iload_n 0, 1) := by decide +kernel
theorem dX8_stepPart_53 : decode cX8_stepPart 53 = .ok (.iload_n 1, 1) := by decide +kernel
theorem dX8_stepPart_54 : decode cX8_stepPart 54 = .ok (.invokestatic 206, 3) := by decide +kernel
theorem dX8_stepPart_57 : decode cX8_stepPart 57 = .ok (.ireturn, 1) := by decide +kernel
theorem dX8_stepPart_58 : decode cX8_stepPart 58 = .ok (.iload_n 0, 1) := by decide +kernel
theorem dX8_stepPart_59 : decode cX8_stepPart 59 = .ok (.iload_n 1, 1) := by decide +kernel
theorem dX8_stepPart_60 : decode cX8_stepPart 60 = .ok (.invokestatic 208, 3) := by decide +kernel
theorem dX8_stepPart_63 : decode cX8_stepPart 63 = .ok (.ireturn, 1) := by decide +kernel
theorem dX8_stepPart_64 : decode cX8_stepPart 64 = .ok (.iconst (-1), 1) := by decide +kernel
theorem dX8_stepPart_65 : decode cX8_stepPart 65 = .ok (.ireturn, 1) := by decide +kernel
set_option maxRecDepth 20000 in
theorem ggX8_show_X6_clear : GoodIn wsX8_show wsX6_clear := goodIn_r _ [6, 7, 101, 102] (by decide +kernel) (by decide +kernel)
set_option maxRecDepth 20000 in
theorem gX8_show_X6_clear : GoodIn wsX8_show (wsV RX8 172 RX6 yX6_clear wsX6_clear) := goodIn_app (goodIn_of _ (by decide +kernel)) ggX8_show_X6_clear
set_option maxRecDepth 20000 in
theorem ggX8_show_X6_addNote : GoodIn wsX8_show wsX6_addNote := goodIn_r _ [11, 12, 13, 14, 15, 16, 17, 18, 5, 19, 20, 21, 22, 23, 24, 25, 26, 27, 28, 29, 30, 31, 32, 33, 34, 35, 36, 37, 38, 39, 40, 41, 42, 43, 44, 45, 46, 47, 48, 49, 50, 51, 52, 53, 54, 55, 56, 57, 58, 59, 60, 61, 62, 63, 64, 65, 66, 67, 68, 69, 70, 71, 72, 7, 73, 74, 75, 76, 101, 102] (by decide +kernel) (by decide +kernel)
set_option maxRecDepth 20000 in
theorem gX8_show_X6_addNote : GoodIn wsX8_show (wsV RX8 210 RX6 yX6_addNote wsX6_addNote) := goodIn_app (goodIn_of _ (by decide +kernel)) ggX8_show_X6_addNote
set_option maxRecDepth 20000 in
theorem ggX8_show_X6_addWord : GoodIn wsX8_show wsX6_addWord := goodIn_r _ [19, 20, 21, 22, 23, 24, 25, 26, 27, 28, 29, 30, 31, 32, 33, 34, 35, 36, 37, 38, 39, 40, 41, 42, 43, 44, 45, 46, 47, 48, 49, 50, 51, 52, 53, 54, 55, 56, 57, 58, 59, 60, 61, 62, 63, 64, 65, 66, 67, 68, 69, 70, 71, 5, 72, 7, 73, 101, 102] (by decide +kernel) (by decide +kernel)
set_option maxRecDepth 20000 in
theorem gX8_show_X6_addWord : GoodIn wsX8_show (wsV RX8 216 RX6 yX6_addWord wsX6_addWord) := goodIn_app (goodIn_of _ (by decide +kernel)) ggX8_show_X6_addWord
set_option maxRecDepth 20000 in
theorem ggX8_show_X3_pitch : GoodIn wsX8_show wsX3_pitch := goodIn_r _ [80, 81, 13, 14, 15, 82, 83, 84, 85, 86, 87, 88, 89, 75, 76, 90, 91, 92, 93] (by decide +kernel) (by decide +kernel)
set_option maxRecDepth 20000 in
theorem gX8_show_X3_pitch : GoodIn wsX8_show (va_wsS RX8 69 yX3_pitch wsX3_pitch) := goodIn_app (goodIn_of _ (by decide +kernel)) ggX8_show_X3_pitch
set_option maxRecDepth 20000 in
theorem ggX8_show_X6_add : GoodIn wsX8_show wsX6_add := goodIn_r _ [72, 7, 73, 101, 102] (by decide +kernel) (by decide +kernel)
set_option maxRecDepth 20000 in
theorem gX8_show_X6_add : GoodIn wsX8_show (wsV RX8 180 RX6 yX6_add wsX6_add) := goodIn_app (goodIn_of _ (by decide +kernel)) ggX8_show_X6_add
theorem dX8_show_0 : decode cX8_show 0 = .ok (.aload_n 0, 1) := by decide +kernel
theorem dX8_show_1 : decode cX8_show 1 = .ok (.getfield 39, 3) := by decide +kernel
theorem dX8_show_4 : decode cX8_show 4 = .ok (.invokevirtual 172, 3) := by decide +kernel
theorem dX8_show_7 : decode cX8_show 7 = .ok (.aload_n 0, 1) := by decide +kernel
theorem dX8_show_8 : decode cX8_show 8 = .ok (.getfield 39, 3) := by decide +kernel
theorem dX8_show_11 : decode cX8_show 11 = .ok (.iload_n 1, 1) := by decide +kernel
theorem dX8_show_12 : decode cX8_show 12 = .ok (.invokevirtual 210, 3) := by decide +kernel
theorem dX8_show_15 : decode cX8_show 15 = .ok (.aload_n 0, 1) := by decide +kernel
theorem dX8_show_16 : decode cX8_show 16 = .ok (.getfield 39, 3) := by decide +kernel
theorem dX8_show_19 : decode cX8_show 19 = .ok (.ldc 214, 2) := by decide +kernel
theorem dX8_show_21 : decode cX8_show 21 = .ok (.iload_n 2, 1) := by decide +kernel
theorem dX8_show_22 : decode cX8_show 22 = .ok (.iconst 0, 1) := by decide +kernel
theorem dX8_show_23 : decode cX8_show 23 = .ok (.invokevirtual 216, 3) := by decide +kernel
theorem dX8_show_26 : decode cX8_show 26 = .ok (.iload_n 3, 1) := by decide +kernel
theorem dX8_show_27 : decode cX8_show 27 = .ok (.invokestatic 69, 3) := by decide +kernel
theorem dX8_show_30 : decode cX8_show 30 = .ok (.iload_n 1, 1) := by decide +kernel
theorem dX8_show_31 : decode cX8_show 31 = .ok (.invokestatic 69, 3) := by decide +kernel
theorem dX8_show_34 : decode cX8_show 34 = .ok (.if_icmp .eq 20, 3) := by decide +kernel
theorem dX8_show_37 : decode cX8_show 37 = .ok (.aload_n 0, 1) := by decide +kernel
theorem dX8_show_38 : decode cX8_show 38 = .ok (.getfield 39, 3) := by decide +kernel
theorem dX8_show_41 : decode cX8_show 41 = .ok (.bipush 47, 2) := by decide +kernel
theorem dX8_show_43 : decode cX8_show 43 = .ok (.invokevirtual 180, 3) := by decide +kernel
theorem dX8_show_46 : decode cX8_show 46 = .ok (.aload_n 0, 1) := by decide +kernel
theorem dX8_show_47 : decode cX8_show 47 = .ok (.getfield 39, 3) := by decide +kernel
theorem dX8_show_50 : decode cX8_show 50 = .ok (.iload_n 3, 1) := by decide +kernel
theorem dX8_show_51 : decode cX8_show 51 = .ok (.invokevirtual 210, 3) := by decide +kernel
theorem dX8_show_54 : decode cX8_show 54 = .ok (.aload_n 0, 1) := by decide +kernel
theorem dX8_show_55 : decode cX8_show 55 = .ok (.getfield 39, 3) := by decide +kernel
theorem dX8_show_58 : decode cX8_show 58 = .ok (.getfield 187, 3) := by decide +kernel
theorem dX8_show_61 : decode cX8_show 61 = .ok (.ireturn, 1) := by decide +kernel
set_option maxRecDepth 20000 in
theorem ggX8_addNumeral_J9_floorMod_7cf53 : GoodIn wsX8_addNumeral wsJ9_floorMod_7cf53 := goodIn_r _ [5] (by decide +kernel) (by decide +kernel)
set_option maxRecDepth 20000 in
theorem gX8_addNumeral_J9_floorMod_7cf53 : GoodIn wsX8_addNumeral (va_wsS RX8 149 yJ9_floorMod_7cf53 wsJ9_floorMod_7cf53) := goodIn_app (goodIn_of _ (by decide +kernel)) ggX8_addNumeral_J9_floorMod_7cf53
set_option maxRecDepth 20000 in
theorem ggX8_addNumeral_X6_addWord : GoodIn wsX8_addNumeral wsX6_addWord := goodIn_r _ [10, 11, 12, 13, 14, 15, 16, 17, 18, 19, 20, 21, 22, 23, 24, 25, 26, 27, 28, 29, 30, 31, 32, 33, 34, 35, 36, 37, 38, 39, 40, 41, 42, 43, 44, 45, 46, 47, 48, 49, 50, 51, 52, 53, 54, 55, 56, 57, 58, 59, 60, 61, 62, 9, 63, 64, 65, 72, 73] (by decide +kernel) (by decide +kernel)
set_option maxRecDepth 20000 in
theorem gX8_addNumeral_X6_addWord : GoodIn wsX8_addNumeral (wsV RX8 216 RX6 yX6_addWord wsX6_addWord) := goodIn_app (goodIn_of _ (by decide +kernel)) ggX8_addNumeral_X6_addWord
theorem dX8_addNumeral_0 : decode cX8_addNumeral 0 = .ok (.aload_n 0, 1) := by decide +kernel
theorem dX8_addNumeral_1 : decode cX8_addNumeral 1 = .ok (.getfield 39, 3) := by decide +kernel
theorem dX8_addNumeral_4 : decode cX8_addNumeral 4 = .ok (.ldc 220, 2) := by decide +kernel
theorem dX8_addNumeral_6 : decode cX8_addNumeral 6 = .ok (.iload_n 1, 1) := by decide +kernel
theorem dX8_addNumeral_7 : decode cX8_addNumeral 7 = .ok (.bipush 12, 2) := by decide +kernel
theorem dX8_addNumeral_9 : decode cX8_addNumeral 9 = .ok (.invokestatic 149, 3) := by decide +kernel
theorem dX8_addNumeral_12 : decode cX8_addNumeral 12 = .ok (.iload_n 2, 1) := by decide +kernel
theorem dX8_addNumeral_13 : decode cX8_addNumeral 13 = .ok (.invokevirtual 216, 3) := by decide +kernel
theorem dX8_addNumeral_16 : decode cX8_addNumeral 16 = .ok (.return_, 1) := by decide +kernel
set_option maxRecDepth 20000 in
theorem ggX8_addInversion_X1_has : GoodIn wsX8_addInversion wsX1_has := goodIn_r _ [7, 8, 125, 126, 127, 128] (by decide +kernel) (by decide +kernel)
set_option maxRecDepth 20000 in
theorem gX8_addInversion_X1_has : GoodIn wsX8_addInversion (wsV RX8 173 RX1 yX1_has wsX1_has) := goodIn_app (goodIn_of _ (by decide +kernel)) ggX8_addInversion_X1_has
set_option maxRecDepth 20000 in
theorem ggX8_addInversion_X1_degreeOfBass : GoodIn wsX8_addInversion wsX1_degreeOfBass := goodIn_r _ [12, 8, 13, 14, 15, 16, 17, 18, 19, 20, 21, 22, 23, 24, 25, 26, 27, 28, 29, 30, 31, 32, 33, 34, 35, 36, 37, 38, 39, 40, 41, 42, 43, 44, 45, 46, 47, 48, 49, 50, 51, 125, 126, 127, 128] (by decide +kernel) (by decide +kernel)
set_option maxRecDepth 20000 in
theorem gX8_addInversion_X1_degreeOfBass : GoodIn wsX8_addInversion (wsV RX8 222 RX1 yX1_degreeOfBass wsX1_degreeOfBass) := goodIn_app (goodIn_of _ (by decide +kernel)) ggX8_addInversion_X1_degreeOfBass
set_option maxRecDepth 20000 in
theorem ggX8_addInversion_X6_addWord : GoodIn wsX8_addInversion wsX6_addWord := goodIn_r _ [56, 57, 58, 59, 60, 61, 62, 63, 64, 65, 66, 67, 68, 69, 70, 71, 72, 73, 74, 75, 76, 77, 78, 79, 80, 81, 82, 83, 84, 85, 86, 87, 88, 89, 90, 91, 92, 93, 94, 95, 96, 97, 98, 99, 100, 101, 102, 103, 104, 105, 106, 107, 108, 55, 109, 110, 111, 129, 130] (by decide +kernel) (by decide +kernel)
set_option maxRecDepth 20000 in
theorem gX8_addInversion_X6_addWord : GoodIn wsX8_addInversion (wsV RX8 216 RX6 yX6_addWord wsX6_addWord) := goodIn_app (goodIn_of _ (by decide +kernel)) ggX8_addInversion_X6_addWord
set_option maxRecDepth 20000 in
theorem ggX8_addInversion_X6_add : GoodIn wsX8_addInversion wsX6_add := goodIn_r _ [109, 110, 111, 129, 130] (by decide +kernel) (by decide +kernel)
set_option maxRecDepth 20000 in
theorem gX8_addInversion_X6_add : GoodIn wsX8_addInversion (wsV RX8 180 RX6 yX6_add wsX6_add) := goodIn_app (goodIn_of _ (by decide +kernel)) ggX8_addInversion_X6_add
set_option maxRecDepth 20000 in
theorem ggX8_addInversion_X3_pitch : GoodIn wsX8_addInversion wsX3_pitch := goodIn_r _ [25, 26, 27, 24, 28, 29, 30, 31, 32, 33, 34, 35, 36, 37, 38, 39, 40, 41, 42] (by decide +kernel) (by decide +kernel)
set_option maxRecDepth 20000 in
theorem gX8_addInversion_X3_pitch : GoodIn wsX8_addInversion (va_wsS RX8 69 yX3_pitch wsX3_pitch) := goodIn_app (goodIn_of _ (by decide +kernel)) ggX8_addInversion_X3_pitch
set_option maxRecDepth 20000 in
theorem ggX8_addInversion_X8_addNumeral : GoodIn wsX8_addInversion wsX8_addNumeral := goodIn_r _ [117, 1, 118, 40, 41, 42, 52, 53, 54, 55, 56, 57, 58, 59, 60, 61, 62, 63, 64, 65, 66, 67, 68, 69, 70, 71, 72, 73, 74, 75, 76, 77, 78, 79, 80, 81, 82, 83, 84, 85, 86, 87, 88, 89, 90, 91, 92, 93, 94, 95, 96, 97, 98, 99, 100, 101, 102, 103, 104, 105, 106, 107, 108, 109, 110, 111, 119, 120, 121, 122, 123, 124, 129, 130] (by decide +kernel) (by decide +kernel)
set_option maxRecDepth 20000 in
theorem gX8_addInversion_X8_addNumeral : GoodIn wsX8_addInversion (wsV RX8 176 RX8 yX8_addNumeral wsX8_addNumeral) := goodIn_app (goodIn_of _ (by decide +kernel)) ggX8_addInversion_X8_addNumeral
theorem dX8_addInversion_0 : decode cX8_addInversion 0 = .ok (.aload_n 1, 1) := by decide +kernel
theorem dX8_addInversion_1 : decode cX8_addInversion 1 = .ok (.sipush 3584, 3) := by decide +kernel
theorem dX8_addInversion_4 : decode cX8_addInversion 4 = .ok (.invokevirtual 173, 3) := by decide +kernel
theorem dX8_addInversion_7 : decode cX8_addInversion 7 = .ok (.istore_n 3, 1) := by decide +kernel
theorem dX8_addInversion_8 : decode cX8_addInversion 8 = .ok (.aload_n 1, 1) := by decide +kernel
theorem dX8_addInversion_9 : decode cX8_addInversion 9 = .ok (.invokevirtual 222, 3) := by decide +kernel
theorem dX8_addInversion_12 : decode cX8_addInversion 12 = .ok (.istore 4, 2) := by decide +kernel
theorem dX8_addInversion_14 : decode cX8_addInversion 14 = .ok (.iload 4, 2) := by decide +kernel
theorem dX8_addInversion_16 : decode cX8_addInversion 16 = .ok (.iconst 1, 1) := by decide +kernel
theorem dX8_addInversion_17 : decode cX8_addInversion 17 = .ok (.if_icmp .eq 22, 3) := by decide +kernel
theorem dX8_addInversion_20 : decode cX8_addInversion 20 = .ok (.iload 4, 2) := by decide +kernel
theorem dX8_addInversion_22 : decode cX8_addInversion 22 = .ok (.iconst 3, 1) := by decide +kernel
theorem dX8_addInversion_23 : decode cX8_addInversion 23 = .ok (.if_icmp .eq 16, 3) := by decide +kernel
theorem dX8_addInversion_26 : decode cX8_addInversion 26 = .ok (.iload 4, 2) := by decide +kernel
theorem dX8_addInversion_28 : decode cX8_addInversion 28 = .ok (.iconst 5, 1) := by decide +kernel
theorem dX8_addInversion_29 : decode cX8_addInversion 29 = .ok (.if_icmp .eq 10, 3) := by decide +kernel
theorem dX8_addInversion_32 : decode cX8_addInversion 32 = .ok (.iload 4, 2) := by decide +kernel
theorem dX8_addInversion_34 : decode cX8_addInversion 34 = .ok (.bipush 7, 2) := by decide +kernel
theorem dX8_addInversion_36 : decode cX8_addInversion 36 = .ok (.if_icmp .ne 27, 3) := by decide +kernel
theorem dX8_addInversion_39 : decode cX8_addInversion 39 = .ok (.aload_n 0, 1) := by decide +kernel
theorem dX8_addInversion_40 : decode cX8_addInversion 40 = .ok (.getfield 39, 3) := by decide +kernel
theorem dX8_addInversion_43 : decode cX8_addInversion 43 = .ok (.iload_n 3, 1) := by decide +kernel
theorem dX8_addInversion_44 : decode cX8_addInversion 44 = .ok (.ifCond .eq 8, 3) := by decide +kernel
theorem dX8_addInversion_47 : decode cX8_addInversion 47 = .ok (.ldc 225, 2) := by decide +kernel
theorem dX8_addInversion_49 : decode cX8_addInversion 49 = .ok (.goto 5, 3) := by decide +kernel
theorem dX8_addInversion_52 : decode cX8_addInversion 52 = .ok (.ldc 227, 2) := by decide +kernel
theorem dX8_addInversion_54 : decode cX8_addInversion 54 = .ok (.iload 4, 2) := by decide +kernel
theorem dX8_addInversion_56 : decode cX8_addInversion 56 = .ok (.iconst 2, 1) := by decide +kernel
theorem dX8_addInversion_57 : decode cX8_addInversion 57 = .ok (.idiv, 1) := by decide +kernel
theorem dX8_addInversion_58 : decode cX8_addInversion 58 = .ok (.iconst 0, 1) := by decide +kernel
theorem dX8_addInversion_59 : decode cX8_addInversion 59 = .ok (.invokevirtual 216, 3) := by decide +kernel
theorem dX8_addInversion_62 : decode cX8_addInversion 62 = .ok (.return_, 1) := by decide +kernel
theorem dX8_addInversion_63 : decode cX8_addInversion 63 = .ok (.iload_n 3, 1) := by decide +kernel
theorem dX8_addInversion_64 : decode cX8_addInversion 64 = .ok (.ifCond .eq 12, 3) := by decide +kernel
theorem dX8_addInversion_67 : decode cX8_addInversion 67 = .ok (.aload_n 0, 1) := by decide +kernel
theorem dX8_addInversion_68 : decode cX8_addInversion 68 = .ok (.getfield 39, 3) := by decide +kernel
theorem dX8_addInversion_71 : decode cX8_addInversion 71 = .ok (.bipush 55, 2) := by decide +kernel
theorem dX8_addInversion_73 : decode cX8_addInversion 73 = .ok (.invokevirtual 180, 3) := by decide +kernel
theorem dX8_addInversion_76 : decode cX8_addInversion 76 = .ok (.aload_n 0, 1) := by decide +kernel
theorem dX8_addInversion_77 : decode cX8_addInversion 77 = .ok (.getfield 39, 3) := by decide +kernel
theorem dX8_addInversion_80 : decode cX8_addInversion 80 = .ok (.bipush 47, 2) := by decide +kernel
theorem dX8_addInversion_82 : decode cX8_addInversion 82 = .ok (.invokevirtual 180, 3) := by decide +kernel
theorem dX8_addInversion_85 : decode cX8_addInversion 85 = .ok (.aload_n 0, 1) := by decide +kernel
theorem dX8_addInversion_86 : decode cX8_addInversion 86 = .ok (.aload_n 1, 1) := by decide +kernel
theorem dX8_addInversion_87 : decode cX8_addInversion 87 = .ok (.getfield 75, 3) := by decide +kernel
theorem dX8_addInversion_90 : decode cX8_addInversion 90 = .ok (.invokestatic 69, 3) := by decide +kernel
theorem dX8_addInversion_93 : decode cX8_addInversion 93 = .ok (.iload_n 2, 1) := by decide +kernel
theorem dX8_addInversion_94 : decode cX8_addInversion 94 = .ok (.isub, 1) := by decide +kernel
theorem dX8_addInversion_95 : decode cX8_addInversion 95 = .ok (.iconst 0, 1) := by decide +kernel
theorem dX8_addInversion_96 : decode cX8_addInversion 96 = .ok (.invokevirtual 176, 3) := by decide +kernel
theorem dX8_addInversion_99 : decode cX8_addInversion 99 = .ok (.return_, 1) := by decide +kernel
