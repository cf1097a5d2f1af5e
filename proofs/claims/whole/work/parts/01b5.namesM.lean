theorem dX9_finds_164 : decode cX9_finds 164 = .ok (.iadd, 1) := by decide +kernel
theorem dX9_finds_165 : decode cX9_finds 165 = .ok (.putfield 325, 3) := by decide +kernel
theorem dX9_finds_168 : decode cX9_finds 168 = .ok (.iinc 5 1, 3) := by decide +kernel
theorem dX9_finds_171 : decode cX9_finds 171 = .ok (.goto (-147), 3) := by decide +kernel
theorem dX9_finds_174 : decode cX9_finds 174 = .ok (.iinc 3 1, 3) := by decide +kernel
theorem dX9_finds_177 : decode cX9_finds 177 = .ok (.goto (-170), 3) := by decide +kernel
theorem dX9_finds_180 : decode cX9_finds 180 = .ok (.return_, 1) := by decide +kernel
set_option maxRecDepth 20000 in
theorem ggX9_named_X9_isIn : GoodIn wsX9_named wsX9_isIn := goodIn_r _ [8] (by decide +kernel) (by decide +kernel)
set_option maxRecDepth 20000 in
theorem gX9_named_X9_isIn : GoodIn wsX9_named (va_wsS RX9 215 yX9_isIn wsX9_isIn) := goodIn_app (goodIn_of _ (by decide +kernel)) ggX9_named_X9_isIn
set_option maxRecDepth 20000 in
theorem ggX9_named_X9_finds : GoodIn wsX9_named wsX9_finds := goodIn_r _ [12, 1, 3, 13, 14, 15, 7, 16, 17, 18, 19, 20, 21, 22, 23, 24, 25, 26, 27, 28, 29, 30, 31, 32, 33, 34, 35, 36, 37, 38, 39, 40, 41, 42, 43, 44, 45, 46, 47, 48, 49, 50, 51, 52, 53, 54, 55, 56, 57, 58, 59, 60, 61, 62, 63, 64, 65, 66, 67, 68, 69, 70, 71, 72, 73, 74] (by decide +kernel) (by decide +kernel)
set_option maxRecDepth 20000 in
theorem gX9_named_X9_finds : GoodIn wsX9_named (wsV RX9 334 RX9 yX9_finds wsX9_finds) := goodIn_app (goodIn_of _ (by decide +kernel)) ggX9_named_X9_finds
theorem dX9_named_0 : decode cX9_named 0 = .ok (.iload_n 1, 1) := by decide +kernel
theorem dX9_named_1 : decode cX9_named 1 = .ok (.iconst 1, 1) := by decide +kernel
theorem dX9_named_2 : decode cX9_named 2 = .ok (.sipush 4095, 3) := by decide +kernel
theorem dX9_named_5 : decode cX9_named 5 = .ok (.invokestatic 215, 3) := by decide +kernel
theorem dX9_named_8 : decode cX9_named 8 = .ok (.ifCond .eq 21, 3) := by decide +kernel
theorem dX9_named_11 : decode cX9_named 11 = .ok (.iload_n 2, 1) := by decide +kernel
theorem dX9_named_12 : decode cX9_named 12 = .ok (.iconst 0, 1) := by decide +kernel
theorem dX9_named_13 : decode cX9_named 13 = .ok (.bipush 11, 2) := by decide +kernel
theorem dX9_named_15 : decode cX9_named 15 = .ok (.invokestatic 215, 3) := by decide +kernel
theorem dX9_named_18 : decode cX9_named 18 = .ok (.ifCond .eq 11, 3) := by decide +kernel
theorem dX9_named_21 : decode cX9_named 21 = .ok (.iload_n 1, 1) := by decide +kernel
theorem dX9_named_22 : decode cX9_named 22 = .ok (.iload_n 2, 1) := by decide +kernel
theorem dX9_named_23 : decode cX9_named 23 = .ok (.ishr, 1) := by decide +kernel
theorem dX9_named_24 : decode cX9_named 24 = .ok (.iconst 1, 1) := by decide +kernel
theorem dX9_named_25 : decode cX9_named 25 = .ok (.iand, 1) := by decide +kernel
theorem dX9_named_26 : decode cX9_named 26 = .ok (.ifCond .ne 5, 3) := by decide +kernel
theorem dX9_named_29 : decode cX9_named 29 = .ok (.iconst (-1), 1) := by decide +kernel
theorem dX9_named_30 : decode cX9_named 30 = .ok (.ireturn, 1) := by decide +kernel
theorem dX9_named_31 : decode cX9_named 31 = .ok (.aload_n 0, 1) := by decide +kernel
theorem dX9_named_32 : decode cX9_named 32 = .ok (.iload_n 1, 1) := by decide +kernel
theorem dX9_named_33 : decode cX9_named 33 = .ok (.iload_n 2, 1) := by decide +kernel
theorem dX9_named_34 : decode cX9_named 34 = .ok (.invokevirtual 334, 3) := by decide +kernel
theorem dX9_named_37 : decode cX9_named 37 = .ok (.iconst 0, 1) := by decide +kernel
theorem dX9_named_38 : decode cX9_named 38 = .ok (.istore_n 3, 1) := by decide +kernel
theorem dX9_named_39 : decode cX9_named 39 = .ok (.iload_n 3, 1) := by decide +kernel
theorem dX9_named_40 : decode cX9_named 40 = .ok (.iconst 5, 1) := by decide +kernel
theorem dX9_named_41 : decode cX9_named 41 = .ok (.aload_n 0, 1) := by decide +kernel
theorem dX9_named_42 : decode cX9_named 42 = .ok (.getfield 325, 3) := by decide +kernel
theorem dX9_named_45 : decode cX9_named 45 = .ok (.imul, 1) := by decide +kernel
theorem dX9_named_46 : decode cX9_named 46 = .ok (.if_icmp .ge 21, 3) := by decide +kernel
theorem dX9_named_49 : decode cX9_named 49 = .ok (.aload_n 0, 1) := by decide +kernel
theorem dX9_named_50 : decode cX9_named 50 = .ok (.getfield 29, 3) := by decide +kernel
theorem dX9_named_53 : decode cX9_named 53 = .ok (.iload_n 3, 1) := by decide +kernel
theorem dX9_named_54 : decode cX9_named 54 = .ok (.aload_n 0, 1) := by decide +kernel
theorem dX9_named_55 : decode cX9_named 55 = .ok (.getfield 175, 3) := by decide +kernel
theorem dX9_named_58 : decode cX9_named 58 = .ok (.iload_n 3, 1) := by decide +kernel
theorem dX9_named_59 : decode cX9_named 59 = .ok (.iaload, 1) := by decide +kernel
theorem dX9_named_60 : decode cX9_named 60 = .ok (.iastore, 1) := by decide +kernel
theorem dX9_named_61 : decode cX9_named 61 = .ok (.iinc 3 1, 3) := by decide +kernel
theorem dX9_named_64 : decode cX9_named 64 = .ok (.goto (-25), 3) := by decide +kernel
theorem dX9_named_67 : decode cX9_named 67 = .ok (.aload_n 0, 1) := by decide +kernel
theorem dX9_named_68 : decode cX9_named 68 = .ok (.aload_n 0, 1) := by decide +kernel
theorem dX9_named_69 : decode cX9_named 69 = .ok (.getfield 325, 3) := by decide +kernel
theorem dX9_named_72 : decode cX9_named 72 = .ok (.putfield 337, 3) := by decide +kernel
theorem dX9_named_75 : decode cX9_named 75 = .ok (.aload_n 0, 1) := by decide +kernel
theorem dX9_named_76 : decode cX9_named 76 = .ok (.getfield 337, 3) := by decide +kernel
theorem dX9_named_79 : decode cX9_named 79 = .ok (.ireturn, 1) := by decide +kernel
set_option maxRecDepth 20000 in
theorem ggX9_showsName_X9_showsNote : GoodIn wsX9_showsName wsX9_showsNote := goodIn_r _ [7, 8, 9, 10, 6, 11, 12, 1, 13, 14, 15, 26, 27, 28, 29, 30, 31, 32, 33, 34, 35, 36, 37, 38, 39, 40, 41, 42, 43, 44, 45, 46, 47, 48, 49, 50, 51, 52, 53, 54, 55, 56, 57, 58, 59, 60, 61] (by decide +kernel) (by decide +kernel)
set_option maxRecDepth 20000 in
theorem gX9_showsName_X9_showsNote : GoodIn wsX9_showsName (wsV RX9 313 RX9 yX9_showsNote wsX9_showsNote) := goodIn_app (goodIn_of _ (by decide +kernel)) ggX9_showsName_X9_showsNote
set_option maxRecDepth 20000 in
theorem ggX9_showsName_X9_showsWord : GoodIn wsX9_showsName wsX9_showsWord := goodIn_r _ [19, 20, 21, 6, 22, 23, 24, 25, 8, 9, 10, 11, 12, 1, 26, 27, 28, 29, 30, 31, 32, 33, 34, 35, 36, 37, 38, 39, 40, 41, 42, 43, 44, 45, 46, 47, 48, 49, 50, 51, 52, 53, 54, 55, 56, 57, 58, 59, 60, 61] (by decide +kernel) (by decide +kernel)
set_option maxRecDepth 20000 in
theorem gX9_showsName_X9_showsWord : GoodIn wsX9_showsName (wsV RX9 318 RX9 yX9_showsWord wsX9_showsWord) := goodIn_app (goodIn_of _ (by decide +kernel)) ggX9_showsName_X9_showsWord
set_option maxRecDepth 20000 in
theorem ggX9_showsName_X9_shows : GoodIn wsX9_showsName wsX9_shows := goodIn_r _ [11, 12, 1, 26, 27, 28, 29, 30, 31, 32, 33, 34, 35, 36, 37, 38, 39, 40, 41, 42, 43, 44, 45, 46, 47, 48, 49, 50, 51, 52, 53, 54, 55, 56, 57, 58, 59, 60, 61] (by decide +kernel) (by decide +kernel)
set_option maxRecDepth 20000 in
theorem gX9_showsName_X9_shows : GoodIn wsX9_showsName (wsV RX9 307 RX9 yX9_shows wsX9_shows) := goodIn_app (goodIn_of _ (by decide +kernel)) ggX9_showsName_X9_shows
theorem dX9_showsName_0 : decode cX9_showsName 0 = .ok (.aload_n 0, 1) := by decide +kernel
theorem dX9_showsName_1 : decode cX9_showsName 1 = .ok (.iconst 0, 1) := by decide +kernel
theorem dX9_showsName_2 : decode cX9_showsName 2 = .ok (.putfield 304, 3) := by decide +kernel
theorem dX9_showsName_5 : decode cX9_showsName 5 = .ok (.aload_n 0, 1) := by decide +kernel
theorem dX9_showsName_6 : decode cX9_showsName 6 = .ok (.aload_n 1, 1) := by decide +kernel
theorem dX9_showsName_7 : decode cX9_showsName 7 = .ok (.iload_n 2, 1) := by decide +kernel
theorem dX9_showsName_8 : decode cX9_showsName 8 = .ok (.iaload, 1) := by decide +kernel
theorem dX9_showsName_9 : decode cX9_showsName 9 = .ok (.aload_n 1, 1) := by decide +kernel
theorem dX9_showsName_10 : decode cX9_showsName 10 = .ok (.iload_n 2, 1) := by decide +kernel
theorem dX9_showsName_11 : decode cX9_showsName 11 = .ok (.iconst 1, 1) := by decide +kernel
theorem dX9_showsName_12 : decode cX9_showsName 12 = .ok (.iadd, 1) := by decide +kernel
theorem dX9_showsName_13 : decode cX9_showsName 13 = .ok (.iaload, 1) := by decide +kernel
theorem dX9_showsName_14 : decode cX9_showsName 14 = .ok (.invokevirtual 313, 3) := by decide +kernel
theorem dX9_showsName_17 : decode cX9_showsName 17 = .ok (.aload_n 0, 1) := by decide +kernel
theorem dX9_showsName_18 : decode cX9_showsName 18 = .ok (.aload_n 0, 1) := by decide +kernel
theorem dX9_showsName_19 : decode cX9_showsName 19 = .ok (.getfield 136, 3) := by decide +kernel
theorem dX9_showsName_22 : decode cX9_showsName 22 = .ok (.aload_n 1, 1) := by decide +kernel
theorem dX9_showsName_23 : decode cX9_showsName 23 = .ok (.iload_n 2, 1) := by decide +kernel
theorem dX9_showsName_24 : decode cX9_showsName 24 = .ok (.iconst 2, 1) := by decide +kernel
theorem dX9_showsName_25 : decode cX9_showsName 25 = .ok (.iadd, 1) := by decide +kernel
theorem dX9_showsName_26 : decode cX9_showsName 26 = .ok (.iaload, 1) := by decide +kernel
theorem dX9_showsName_27 : decode cX9_showsName 27 = .ok (.laload, 1) := by decide +kernel
theorem dX9_showsName_28 : decode cX9_showsName 28 = .ok (.invokevirtual 318, 3) := by decide +kernel
theorem dX9_showsName_31 : decode cX9_showsName 31 = .ok (.aload_n 1, 1) := by decide +kernel
theorem dX9_showsName_32 : decode cX9_showsName 32 = .ok (.iload_n 2, 1) := by decide +kernel
theorem dX9_showsName_33 : decode cX9_showsName 33 = .ok (.iconst 3, 1) := by decide +kernel
theorem dX9_showsName_34 : decode cX9_showsName 34 = .ok (.iadd, 1) := by decide +kernel
theorem dX9_showsName_35 : decode cX9_showsName 35 = .ok (.iaload, 1) := by decide +kernel
theorem dX9_showsName_36 : decode cX9_showsName 36 = .ok (.bipush (-2), 2) := by decide +kernel
theorem dX9_showsName_38 : decode cX9_showsName 38 = .ok (.if_icmp .eq 23, 3) := by decide +kernel
theorem dX9_showsName_41 : decode cX9_showsName 41 = .ok (.aload_n 0, 1) := by decide +kernel
theorem dX9_showsName_42 : decode cX9_showsName 42 = .ok (.bipush 47, 2) := by decide +kernel
theorem dX9_showsName_44 : decode cX9_showsName 44 = .ok (.invokevirtual 307, 3) := by decide +kernel
theorem dX9_showsName_47 : decode cX9_showsName 47 = .ok (.aload_n 0, 1) := by decide +kernel
theorem dX9_showsName_48 : decode cX9_showsName 48 = .ok (.aload_n 1, 1) := by decide +kernel
theorem dX9_showsName_49 : decode cX9_showsName 49 = .ok (.iload_n 2, 1) := by decide +kernel
theorem dX9_showsName_50 : decode cX9_showsName 50 = .ok (.iconst 3, 1) := by decide +kernel
theorem dX9_showsName_51 : decode cX9_showsName 51 = .ok (.iadd, 1) := by decide +kernel
theorem dX9_showsName_52 : decode cX9_showsName 52 = .ok (.iaload, 1) := by decide +kernel
theorem dX9_showsName_53 : decode cX9_showsName 53 = .ok (.aload_n 1, 1) := by decide +kernel
theorem dX9_showsName_54 : decode cX9_showsName 54 = .ok (.iload_n 2, 1) := by decide +kernel
theorem dX9_showsName_55 : decode cX9_showsName 55 = .ok (.iconst 4, 1) := by decide +kernel
theorem dX9_showsName_56 : decode cX9_showsName 56 = .ok (.iadd, 1) := by decide +kernel
theorem dX9_showsName_57 : decode cX9_showsName 57 = .ok (.iaload, 1) := by decide +kernel
theorem dX9_showsName_58 : decode cX9_showsName 58 = .ok (.invokevirtual 313, 3) := by decide +kernel
theorem dX9_showsName_61 : decode cX9_showsName 61 = .ok (.return_, 1) := by decide +kernel
set_option maxRecDepth 20000 in
theorem ggX9_name_X9_isIn : GoodIn wsX9_name wsX9_isIn := goodIn_r _ [7] (by decide +kernel) (by decide +kernel)
set_option maxRecDepth 20000 in
theorem gX9_name_X9_isIn : GoodIn wsX9_name (va_wsS RX9 215 yX9_isIn wsX9_isIn) := goodIn_app (goodIn_of _ (by decide +kernel)) ggX9_name_X9_isIn
set_option maxRecDepth 20000 in
theorem ggX9_name_X9_showsName : GoodIn wsX9_name wsX9_showsName := goodIn_r _ [11, 3, 12, 13, 14, 15, 6, 16, 17, 18, 19, 20, 21, 22, 23, 24, 25, 26, 27, 28, 29, 30, 31, 32, 33, 34, 35, 36, 37, 38, 39, 40, 41, 42, 43, 44, 45, 46, 47, 48, 49, 50, 51, 52, 53, 54, 55, 56, 57, 58, 59, 60, 61, 62, 63, 64, 65, 66, 67, 68, 69, 70] (by decide +kernel) (by decide +kernel)
set_option maxRecDepth 20000 in
theorem gX9_name_X9_showsName : GoodIn wsX9_name (wsV RX9 340 RX9 yX9_showsName wsX9_showsName) := goodIn_app (goodIn_of _ (by decide +kernel)) ggX9_name_X9_showsName
theorem dX9_name_0 : decode cX9_name 0 = .ok (.iload_n 1, 1) := by decide +kernel
theorem dX9_name_1 : decode cX9_name 1 = .ok (.iconst 0, 1) := by decide +kernel
theorem dX9_name_2 : decode cX9_name 2 = .ok (.aload_n 0, 1) := by decide +kernel
theorem dX9_name_3 : decode cX9_name 3 = .ok (.getfield 337, 3) := by decide +kernel
theorem dX9_name_6 : decode cX9_name 6 = .ok (.iconst 1, 1) := by decide +kernel
theorem dX9_name_7 : decode cX9_name 7 = .ok (.isub, 1) := by decide +kernel
theorem dX9_name_8 : decode cX9_name 8 = .ok (.invokestatic 215, 3) := by decide +kernel
theorem dX9_name_11 : decode cX9_name 11 = .ok (.ifCond .ne 5, 3) := by decide +kernel
theorem dX9_name_14 : decode cX9_name 14 = .ok (.iconst (-1), 1) := by decide +kernel
theorem dX9_name_15 : decode cX9_name 15 = .ok (.ireturn, 1) := by decide +kernel
theorem dX9_name_16 : decode cX9_name 16 = .ok (.aload_n 0, 1) := by decide +kernel
theorem dX9_name_17 : decode cX9_name 17 = .ok (.aload_n 0, 1) := by decide +kernel
theorem dX9_name_18 : decode cX9_name 18 = .ok (.getfield 29, 3) := by decide +kernel
theorem dX9_name_21 : decode cX9_name 21 = .ok (.iconst 5, 1) := by decide +kernel
theorem dX9_name_22 : decode cX9_name 22 = .ok (.iload_n 1, 1) := by decide +kernel
theorem dX9_name_23 : decode cX9_name 23 = .ok (.imul, 1) := by decide +kernel
theorem dX9_name_24 : decode cX9_name 24 = .ok (.invokevirtual 340, 3) := by decide +kernel
theorem dX9_name_27 : decode cX9_name 27 = .ok (.aload_n 0, 1) := by decide +kernel
theorem dX9_name_28 : decode cX9_name 28 = .ok (.getfield 304, 3) := by decide +kernel
theorem dX9_name_31 : decode cX9_name 31 = .ok (.ireturn, 1) := by decide +kernel
set_option maxRecDepth 20000 in
theorem ggX9_normal_X9_isChord : GoodIn wsX9_normal wsX9_isChord := goodIn_r _ [11, 12, 13, 14, 10, 15, 94, 95, 96, 97, 98, 99, 100, 101, 102, 103, 104, 105, 106, 107, 108, 109, 110, 111, 112, 113, 114, 115, 116, 117, 118, 119, 120, 121, 122, 123, 124, 125, 126, 127, 128, 129] (by decide +kernel) (by decide +kernel)
set_option maxRecDepth 20000 in
theorem gX9_normal_X9_isChord : GoodIn wsX9_normal (wsV RX9 291 RX9 yX9_isChord wsX9_isChord) := goodIn_app (goodIn_of _ (by decide +kernel)) ggX9_normal_X9_isChord
set_option maxRecDepth 20000 in
theorem ggX9_normal_X9_setOf : GoodIn wsX9_normal wsX9_setOf := goodIn_r _ [19, 20, 21, 22, 23, 24, 10, 25, 26, 27, 28, 29, 30, 31, 32, 33, 34, 35, 36, 94, 95, 96, 97, 98, 99, 100, 101, 102, 103, 104, 105, 106, 107, 108, 109, 110, 111, 112, 113, 114, 115, 116, 117, 118, 119, 120, 121, 122, 123, 124, 125, 126, 127, 128, 129] (by decide +kernel) (by decide +kernel)
set_option maxRecDepth 20000 in
theorem gX9_normal_X9_setOf : GoodIn wsX9_normal (wsV RX9 294 RX9 yX9_setOf wsX9_setOf) := goodIn_app (goodIn_of _ (by decide +kernel)) ggX9_normal_X9_setOf
set_option maxRecDepth 20000 in
theorem ggX9_normal_X9_bassOf : GoodIn wsX9_normal wsX9_bassOf := goodIn_r _ [25, 26, 27, 28, 10, 29, 30, 31, 32, 94, 95, 96, 97, 98, 99, 100, 101, 102, 103, 104, 105, 106, 107, 108, 109, 110, 111, 112, 113, 114, 115, 116, 117, 118, 119, 120, 121, 122, 123, 124, 125, 126, 127, 128, 129] (by decide +kernel) (by decide +kernel)
set_option maxRecDepth 20000 in
theorem gX9_normal_X9_bassOf : GoodIn wsX9_normal (wsV RX9 278 RX9 yX9_bassOf wsX9_bassOf) := goodIn_app (goodIn_of _ (by decide +kernel)) ggX9_normal_X9_bassOf
set_option maxRecDepth 20000 in
theorem ggX9_normal_X9_finds : GoodIn wsX9_normal wsX9_finds := goodIn_r _ [40, 5, 6, 41, 42, 43, 10, 44, 45, 46, 47, 48, 49, 50, 51, 52, 53, 54, 27, 28, 29, 30, 31, 32, 55, 56, 57, 58, 59, 60, 94, 95, 96, 97, 98, 99, 100, 101, 102, 103, 104, 105, 106, 107, 108, 109, 110, 111, 112, 113, 114, 115, 116, 117, 118, 119, 120, 121, 122, 123, 124, 125, 126, 127, 128, 129] (by decide +kernel) (by decide +kernel)
set_option maxRecDepth 20000 in
theorem gX9_normal_X9_finds : GoodIn wsX9_normal (wsV RX9 334 RX9 yX9_finds wsX9_finds) := goodIn_app (goodIn_of _ (by decide +kernel)) ggX9_normal_X9_finds
set_option maxRecDepth 20000 in
theorem ggX9_normal_X9_writes : GoodIn wsX9_normal wsX9_writes := goodIn_r _ [64, 1, 26, 65, 66, 67, 68, 69, 10, 70, 45, 20, 46, 21, 51, 71, 72, 73, 74, 75, 76, 77, 78, 79, 3, 55, 56, 57, 80, 81, 82, 83, 84, 85, 86, 87, 88, 89, 22, 23, 24, 25, 27, 28, 29, 30, 31, 32, 33, 34, 35, 36, 94, 95, 96, 97, 98, 99, 100, 101, 102, 103, 104, 105, 106, 107, 108, 109, 110, 111, 112, 113, 114, 115, 116, 117, 118, 119, 120, 121, 122, 123, 124, 125, 126, 127, 128, 129] (by decide +kernel) (by decide +kernel)
set_option maxRecDepth 20000 in
theorem gX9_normal_X9_writes : GoodIn wsX9_normal (wsV RX9 310 RX9 yX9_writes wsX9_writes) := goodIn_app (goodIn_of _ (by decide +kernel)) ggX9_normal_X9_writes
set_option maxRecDepth 20000 in
theorem ggX9_normal_X9_showsName : GoodIn wsX9_normal wsX9_showsName := goodIn_r _ [93, 1, 66, 72, 73, 74, 10, 75, 76, 77, 78, 79, 3, 55, 56, 57, 80, 81, 82, 83, 84, 85, 86, 87, 88, 89, 94, 95, 96, 97, 98, 99, 100, 101, 102, 103, 104, 105, 106, 107, 108, 109, 110, 111, 112, 113, 114, 115, 116, 117, 118, 119, 120, 121, 122, 123, 124, 125, 126, 127, 128, 129] (by decide +kernel) (by decide +kernel)
set_option maxRecDepth 20000 in
theorem gX9_normal_X9_showsName : GoodIn wsX9_normal (wsV RX9 340 RX9 yX9_showsName wsX9_showsName) := goodIn_app (goodIn_of _ (by decide +kernel)) ggX9_normal_X9_showsName
theorem dX9_normal_0 : decode cX9_normal 0 = .ok (.aload_n 0, 1) := by decide +kernel
theorem dX9_normal_1 : decode cX9_normal 1 = .ok (.iload_n 1, 1) := by decide +kernel
theorem dX9_normal_2 : decode cX9_normal 2 = .ok (.invokevirtual 291, 3) := by decide +kernel
theorem dX9_normal_5 : decode cX9_normal 5 = .ok (.ifCond .ne 5, 3) := by decide +kernel
theorem dX9_normal_8 : decode cX9_normal 8 = .ok (.iconst (-1), 1) := by decide +kernel
theorem dX9_normal_9 : decode cX9_normal 9 = .ok (.ireturn, 1) := by decide +kernel
theorem dX9_normal_10 : decode cX9_normal 10 = .ok (.aload_n 0, 1) := by decide +kernel
theorem dX9_normal_11 : decode cX9_normal 11 = .ok (.getfield 304, 3) := by decide +kernel
theorem dX9_normal_14 : decode cX9_normal 14 = .ok (.istore_n 2, 1) := by decide +kernel
theorem dX9_normal_15 : decode cX9_normal 15 = .ok (.iconst 0, 1) := by decide +kernel
theorem dX9_normal_16 : decode cX9_normal 16 = .ok (.istore_n 3, 1) := by decide +kernel
theorem dX9_normal_17 : decode cX9_normal 17 = .ok (.iload_n 3, 1) := by decide +kernel
theorem dX9_normal_18 : decode cX9_normal 18 = .ok (.iload_n 2, 1) := by decide +kernel
theorem dX9_normal_19 : decode cX9_normal 19 = .ok (.if_icmp .ge 21, 3) := by decide +kernel
theorem dX9_normal_22 : decode cX9_normal 22 = .ok (.aload_n 0, 1) := by decide +kernel
theorem dX9_normal_23 : decode cX9_normal 23 = .ok (.getfield 178, 3) := by decide +kernel
theorem dX9_normal_26 : decode cX9_normal 26 = .ok (.iload_n 3, 1) := by decide +kernel
theorem dX9_normal_27 : decode cX9_normal 27 = .ok (.aload_n 0, 1) := by decide +kernel
theorem dX9_normal_28 : decode cX9_normal 28 = .ok (.getfield 26, 3) := by decide +kernel
theorem dX9_normal_31 : decode cX9_normal 31 = .ok (.iload_n 3, 1) := by decide +kernel
theorem dX9_normal_32 : decode cX9_normal 32 = .ok (.baload, 1) := by decide +kernel
theorem dX9_normal_33 : decode cX9_normal 33 = .ok (.bastore, 1) := by decide +kernel
theorem dX9_normal_34 : decode cX9_normal 34 = .ok (.iinc 3 1, 3) := by decide +kernel
theorem dX9_normal_37 : decode cX9_normal 37 = .ok (.goto (-20), 3) := by decide +kernel
theorem dX9_normal_40 : decode cX9_normal 40 = .ok (.aload_n 0, 1) := by decide +kernel
theorem dX9_normal_41 : decode cX9_normal 41 = .ok (.aload_n 0, 1) := by decide +kernel
theorem dX9_normal_42 : decode cX9_normal 42 = .ok (.iload_n 1, 1) := by decide +kernel
theorem dX9_normal_43 : decode cX9_normal 43 = .ok (.invokevirtual 294, 3) := by decide +kernel
theorem dX9_normal_46 : decode cX9_normal 46 = .ok (.aload_n 0, 1) := by decide +kernel
theorem dX9_normal_47 : decode cX9_normal 47 = .ok (.iload_n 1, 1) := by decide +kernel
theorem dX9_normal_48 : decode cX9_normal 48 = .ok (.invokevirtual 278, 3) := by decide +kernel
theorem dX9_normal_51 : decode cX9_normal 51 = .ok (.invokevirtual 334, 3) := by decide +kernel
theorem dX9_normal_54 : decode cX9_normal 54 = .ok (.aload_n 0, 1) := by decide +kernel
theorem dX9_normal_55 : decode cX9_normal 55 = .ok (.iload_n 1, 1) := by decide +kernel
theorem dX9_normal_56 : decode cX9_normal 56 = .ok (.invokevirtual 310, 3) := by decide +kernel
theorem dX9_normal_59 : decode cX9_normal 59 = .ok (.aload_n 0, 1) := by decide +kernel
theorem dX9_normal_60 : decode cX9_normal 60 = .ok (.getfield 304, 3) := by decide +kernel
theorem dX9_normal_63 : decode cX9_normal 63 = .ok (.istore_n 3, 1) := by decide +kernel
theorem dX9_normal_64 : decode cX9_normal 64 = .ok (.iconst 0, 1) := by decide +kernel
theorem dX9_normal_65 : decode cX9_normal 65 = .ok (.istore 4, 2) := by decide +kernel
theorem dX9_normal_67 : decode cX9_normal 67 = .ok (.iload 4, 2) := by decide +kernel
theorem dX9_normal_69 : decode cX9_normal 69 = .ok (.iload_n 3, 1) := by decide +kernel
theorem dX9_normal_70 : decode cX9_normal 70 = .ok (.if_icmp .ge 23, 3) := by decide +kernel
theorem dX9_normal_73 : decode cX9_normal 73 = .ok (.aload_n 0, 1) := by decide +kernel
theorem dX9_normal_74 : decode cX9_normal 74 = .ok (.getfield 181, 3) := by decide +kernel
theorem dX9_normal_77 : decode cX9_normal 77 = .ok (.iload 4, 2) := by decide +kernel
theorem dX9_normal_79 : decode cX9_normal 79 = .ok (.aload_n 0, 1) := by decide +kernel
theorem dX9_normal_80 : decode cX9_normal 80 = .ok (.getfield 26, 3) := by decide +kernel
theorem dX9_normal_83 : decode cX9_normal 83 = .ok (.iload 4, 2) := by decide +kernel
theorem dX9_normal_85 : decode cX9_normal 85 = .ok (.baload, 1) := by decide +kernel
theorem dX9_normal_86 : decode cX9_normal 86 = .ok (.bastore, 1) := by decide +kernel
theorem dX9_normal_87 : decode cX9_normal 87 = .ok (.iinc 4 1, 3) := by decide +kernel
theorem dX9_normal_90 : decode cX9_normal 90 = .ok (.goto (-23), 3) := by decide +kernel
theorem dX9_normal_93 : decode cX9_normal 93 = .ok (.aload_n 0, 1) := by decide +kernel
theorem dX9_normal_94 : decode cX9_normal 94 = .ok (.getfield 325, 3) := by decide +kernel
theorem dX9_normal_97 : decode cX9_normal 97 = .ok (.ifCond .le 7, 3) := by decide +kernel
theorem dX9_normal_100 : decode cX9_normal 100 = .ok (.iconst 1, 1) := by decide +kernel
theorem dX9_normal_101 : decode cX9_normal 101 = .ok (.goto 4, 3) := by decide +kernel
theorem dX9_normal_104 : decode cX9_normal 104 = .ok (.iconst 0, 1) := by decide +kernel
theorem dX9_normal_105 : decode cX9_normal 105 = .ok (.istore 4, 2) := by decide +kernel
theorem dX9_normal_107 : decode cX9_normal 107 = .ok (.iload 4, 2) := by decide +kernel
theorem dX9_normal_109 : decode cX9_normal 109 = .ok (.ifCond .eq 71, 3) := by decide +kernel
theorem dX9_normal_112 : decode cX9_normal 112 = .ok (.aload_n 0, 1) := by decide +kernel
theorem dX9_normal_113 : decode cX9_normal 113 = .ok (.aload_n 0, 1) := by decide +kernel
theorem dX9_normal_114 : decode cX9_normal 114 = .ok (.getfield 175, 3) := by decide +kernel
theorem dX9_normal_117 : decode cX9_normal 117 = .ok (.iconst 0, 1) := by decide +kernel
theorem dX9_normal_118 : decode cX9_normal 118 = .ok (.invokevirtual 340, 3) := by decide +kernel
theorem dX9_normal_121 : decode cX9_normal 121 = .ok (.aload_n 0, 1) := by decide +kernel
theorem dX9_normal_122 : decode cX9_normal 122 = .ok (.getfield 304, 3) := by decide +kernel
theorem dX9_normal_125 : decode cX9_normal 125 = .ok (.iload_n 3, 1) := by decide +kernel
theorem dX9_normal_126 : decode cX9_normal 126 = .ok (.if_icmp .ne 7, 3) := by decide +kernel
theorem dX9_normal_129 : decode cX9_normal 129 = .ok (.iconst 1, 1) := by decide +kernel
theorem dX9_normal_130 : decode cX9_normal 130 = .ok (.goto 4, 3) := by decide +kernel
theorem dX9_normal_133 : decode cX9_normal 133 = .ok (.iconst 0, 1) := by decide +kernel
theorem dX9_normal_134 : decode cX9_normal 134 = .ok (.istore 4, 2) := by decide +kernel
theorem dX9_normal_136 : decode cX9_normal 136 = .ok (.iconst 0, 1) := by decide +kernel
theorem dX9_normal_137 : decode cX9_normal 137 = .ok (.istore 5, 2) := by decide +kernel
theorem dX9_normal_139 : decode cX9_normal 139 = .ok (.iload 5, 2) := by decide +kernel
theorem dX9_normal_141 : decode cX9_normal 141 = .ok (.iload_n 3, 1) := by decide +kernel
theorem dX9_normal_142 : decode cX9_normal 142 = .ok (.if_icmp .ge 38, 3) := by decide +kernel
theorem dX9_normal_145 : decode cX9_normal 145 = .ok (.iload 4, 2) := by decide +kernel
theorem dX9_normal_147 : decode cX9_normal 147 = .ok (.ifCond .eq 33, 3) := by decide +kernel
theorem dX9_normal_150 : decode cX9_normal 150 = .ok (.aload_n 0, 1) := by decide +kernel
theorem dX9_normal_151 : decode cX9_normal 151 = .ok (.getfield 26, 3) := by decide +kernel
theorem dX9_normal_154 : decode cX9_normal 154 = .ok (.iload 5, 2) := by decide +kernel
theorem dX9_normal_156 : decode cX9_normal 156 = .ok (.baload, 1) := by decide +kernel
theorem dX9_normal_157 : decode cX9_normal 157 = .ok (.aload_n 0, 1) := by decide +kernel
theorem dX9_normal_158 : decode cX9_normal 158 = .ok (.getfield 181, 3) := by decide +kernel
theorem dX9_normal_161 : decode cX9_normal 161 = .ok (.iload 5, 2) := by decide +kernel
theorem dX9_normal_163 : decode cX9_normal 163 = .ok (.baload, 1) := by decide +kernel
theorem dX9_normal_164 : decode cX9_normal 164 = .ok (.if_icmp .ne 7, 3) := by decide +kernel
theorem dX9_normal_167 : decode cX9_normal 167 = .ok (.iconst 1, 1) := by decide +kernel
theorem dX9_normal_168 : decode cX9_normal 168 = .ok (.goto 4, 3) := by decide +kernel
theorem dX9_normal_171 : decode cX9_normal 171 = .ok (.iconst 0, 1) := by decide +kernel
theorem dX9_normal_172 : decode cX9_normal 172 = .ok (.istore 4, 2) := by decide +kernel
theorem dX9_normal_174 : decode cX9_normal 174 = .ok (.iinc 5 1, 3) := by decide +kernel
theorem dX9_normal_177 : decode cX9_normal 177 = .ok (.goto (-38), 3) := by decide +kernel
theorem dX9_normal_180 : decode cX9_normal 180 = .ok (.aload_n 0, 1) := by decide +kernel
theorem dX9_normal_181 : decode cX9_normal 181 = .ok (.iload_n 2, 1) := by decide +kernel
theorem dX9_normal_182 : decode cX9_normal 182 = .ok (.putfield 304, 3) := by decide +kernel
theorem dX9_normal_185 : decode cX9_normal 185 = .ok (.iconst 0, 1) := by decide +kernel
theorem dX9_normal_186 : decode cX9_normal 186 = .ok (.istore 5, 2) := by decide +kernel
theorem dX9_normal_188 : decode cX9_normal 188 = .ok (.iload 5, 2) := by decide +kernel
theorem dX9_normal_190 : decode cX9_normal 190 = .ok (.iload_n 2, 1) := by decide +kernel
theorem dX9_normal_191 : decode cX9_normal 191 = .ok (.if_icmp .ge 23, 3) := by decide +kernel
theorem dX9_normal_194 : decode cX9_normal 194 = .ok (.aload_n 0, 1) := by decide +kernel
theorem dX9_normal_195 : decode cX9_normal 195 = .ok (.getfield 26, 3) := by decide +kernel
theorem dX9_normal_198 : decode cX9_normal 198 = .ok (.iload 5, 2) := by decide +kernel
theorem dX9_normal_200 : decode cX9_normal 200 = .ok (.aload_n 0, 1) := by decide +kernel
theorem dX9_normal_201 : decode cX9_normal 201 = .ok (.getfield 178, 3) := by decide +kernel
theorem dX9_normal_204 : decode cX9_normal 204 = .ok (.iload 5, 2) := by decide +kernel
theorem dX9_normal_206 : decode cX9_normal 206 = .ok (.baload, 1) := by decide +kernel
theorem dX9_normal_207 : decode cX9_normal 207 = .ok (.bastore, 1) := by decide +kernel
theorem dX9_normal_208 : decode cX9_normal 208 = .ok (.iinc 5 1, 3) := by decide +kernel
theorem dX9_normal_211 : decode cX9_normal 211 = .ok (.goto (-23), 3) := by decide +kernel
theorem dX9_normal_214 : decode cX9_normal 214 = .ok (.iload 4, 2) := by decide +kernel
theorem dX9_normal_216 : decode cX9_normal 216 = .ok (.ifCond .eq 7, 3) := by decide +kernel
theorem dX9_normal_219 : decode cX9_normal 219 = .ok (.iconst 1, 1) := by decide +kernel
theorem dX9_normal_220 : decode cX9_normal 220 = .ok (.goto 4, 3) := by decide +kernel
theorem dX9_normal_223 : decode cX9_normal 223 = .ok (.iconst 0, 1) := by decide +kernel
theorem dX9_normal_224 : decode cX9_normal 224 = .ok (.ireturn, 1) := by decide +kernel
set_option maxRecDepth 20000 in
theorem ggX9_move_X9_isChord : GoodIn wsX9_move wsX9_isChord := goodIn_r _ [10, 1, 11, 12, 9, 13, 45, 46, 47, 48, 49, 50, 51, 52, 53, 54, 55, 56, 57, 58, 59, 60, 61, 62, 63, 64, 65, 66, 67, 68, 69, 70, 71, 72, 73, 74, 75, 76, 77, 78, 79, 80] (by decide +kernel) (by decide +kernel)
set_option maxRecDepth 20000 in
theorem gX9_move_X9_isChord : GoodIn wsX9_move (wsV RX9 291 RX9 yX9_isChord wsX9_isChord) := goodIn_app (goodIn_of _ (by decide +kernel)) ggX9_move_X9_isChord
set_option maxRecDepth 20000 in
theorem ggX9_move_X9_rootOf : GoodIn wsX9_move wsX9_rootOf := goodIn_r _ [17, 2, 18, 19, 9, 20, 21, 22, 23, 45, 46, 47, 48, 49, 50, 51, 52, 53, 54, 55, 56, 57, 58, 59, 60, 61, 62, 63, 64, 65, 66, 67, 68, 69, 70, 71, 72, 73, 74, 75, 76, 77, 78, 79, 80] (by decide +kernel) (by decide +kernel)
set_option maxRecDepth 20000 in
theorem gX9_move_X9_rootOf : GoodIn wsX9_move (wsV RX9 281 RX9 yX9_rootOf wsX9_rootOf) := goodIn_app (goodIn_of _ (by decide +kernel)) ggX9_move_X9_rootOf
set_option maxRecDepth 20000 in
theorem ggX9_move_X9_mod12 : GoodIn wsX9_move wsX9_mod12 := goodIn_r _ [23] (by decide +kernel) (by decide +kernel)
set_option maxRecDepth 20000 in
theorem gX9_move_X9_mod12 : GoodIn wsX9_move (va_wsS RX9 275 yX9_mod12 wsX9_mod12) := goodIn_app (goodIn_of _ (by decide +kernel)) ggX9_move_X9_mod12
set_option maxRecDepth 20000 in
theorem ggX9_move_X9_bassOf : GoodIn wsX9_move wsX9_bassOf := goodIn_r _ [27, 2, 18, 19, 9, 20, 21, 22, 23, 45, 46, 47, 48, 49, 50, 51, 52, 53, 54, 55, 56, 57, 58, 59, 60, 61, 62, 63, 64, 65, 66, 67, 68, 69, 70, 71, 72, 73, 74, 75, 76, 77, 78, 79, 80] (by decide +kernel) (by decide +kernel)
set_option maxRecDepth 20000 in
theorem gX9_move_X9_bassOf : GoodIn wsX9_move (wsV RX9 278 RX9 yX9_bassOf wsX9_bassOf) := goodIn_app (goodIn_of _ (by decide +kernel)) ggX9_move_X9_bassOf
set_option maxRecDepth 20000 in
theorem ggX9_move_X9_letterOf : GoodIn wsX9_move wsX9_letterOf := goodIn_r _ [30, 18, 19, 9, 20, 21, 22, 23] (by decide +kernel) (by decide +kernel)
set_option maxRecDepth 20000 in
theorem gX9_move_X9_letterOf : GoodIn wsX9_move (va_wsS RX9 322 yX9_letterOf wsX9_letterOf) := goodIn_app (goodIn_of _ (by decide +kernel)) ggX9_move_X9_letterOf
set_option maxRecDepth 20000 in
theorem ggX9_move_X9_stepsWeight : GoodIn wsX9_move wsX9_stepsWeight := goodIn_r _ [34, 3, 4, 5, 35, 36, 9, 37, 18, 19, 20, 21, 22, 23, 38, 39, 40, 45, 46, 47, 48, 49, 50, 51, 52, 53, 54, 55, 56, 57, 58, 59, 60, 61, 62, 63, 64, 65, 66, 67, 68, 69, 70, 71, 72, 73, 74, 75, 76, 77, 78, 79, 80] (by decide +kernel) (by decide +kernel)
set_option maxRecDepth 20000 in
theorem gX9_move_X9_stepsWeight : GoodIn wsX9_move (wsV RX9 297 RX9 yX9_stepsWeight wsX9_stepsWeight) := goodIn_app (goodIn_of _ (by decide +kernel)) ggX9_move_X9_stepsWeight
set_option maxRecDepth 20000 in
theorem ggX9_move_X9_size : GoodIn wsX9_move wsX9_size := goodIn_r _ [40] (by decide +kernel) (by decide +kernel)
set_option maxRecDepth 20000 in
theorem gX9_move_X9_size : GoodIn wsX9_move (va_wsS RX9 288 yX9_size wsX9_size) := goodIn_app (goodIn_of _ (by decide +kernel)) ggX9_move_X9_size
set_option maxRecDepth 20000 in
theorem ggX9_move_X9_laid : GoodIn wsX9_move wsX9_laid := goodIn_r _ [44, 1, 2, 45, 46, 47, 48, 49, 50, 51, 52, 53, 54, 55, 56, 57, 58, 59, 60, 61, 62, 63, 64, 65, 66, 67, 68, 69, 70, 71, 72, 73, 74, 75, 76, 77, 78, 79, 80] (by decide +kernel) (by decide +kernel)
set_option maxRecDepth 20000 in
theorem gX9_move_X9_laid : GoodIn wsX9_move (wsV RX9 268 RX9 yX9_laid wsX9_laid) := goodIn_app (goodIn_of _ (by decide +kernel)) ggX9_move_X9_laid
theorem dX9_move_0 : decode cX9_move 0 = .ok (.aload_n 0, 1) := by decide +kernel
theorem dX9_move_1 : decode cX9_move 1 = .ok (.iload_n 1, 1) := by decide +kernel
theorem dX9_move_2 : decode cX9_move 2 = .ok (.invokevirtual 291, 3) := by decide +kernel
theorem dX9_move_5 : decode cX9_move 5 = .ok (.ifCond .ne 5, 3) := by decide +kernel
theorem dX9_move_8 : decode cX9_move 8 = .ok (.iconst (-1), 1) := by decide +kernel
theorem dX9_move_9 : decode cX9_move 9 = .ok (.ireturn, 1) := by decide +kernel
theorem dX9_move_10 : decode cX9_move 10 = .ok (.aload_n 0, 1) := by decide +kernel
theorem dX9_move_11 : decode cX9_move 11 = .ok (.getfield 265, 3) := by decide +kernel
theorem dX9_move_14 : decode cX9_move 14 = .ok (.bipush 100, 2) := by decide +kernel
theorem dX9_move_16 : decode cX9_move 16 = .ok (.if_icmp .ne 6, 3) := by decide +kernel
theorem dX9_move_19 : decode cX9_move 19 = .ok (.bipush (-3), 2) := by decide +kernel
theorem dX9_move_21 : decode cX9_move 21 = .ok (.ireturn, 1) := by decide +kernel
theorem dX9_move_22 : decode cX9_move 22 = .ok (.aload_n 0, 1) := by decide +kernel
theorem dX9_move_23 : decode cX9_move 23 = .ok (.iload_n 1, 1) := by decide +kernel
theorem dX9_move_24 : decode cX9_move 24 = .ok (.invokevirtual 281, 3) := by decide +kernel
theorem dX9_move_27 : decode cX9_move 27 = .ok (.iload_n 2, 1) := by decide +kernel
theorem dX9_move_28 : decode cX9_move 28 = .ok (.invokestatic 275, 3) := by decide +kernel
theorem dX9_move_31 : decode cX9_move 31 = .ok (.iadd, 1) := by decide +kernel
theorem dX9_move_32 : decode cX9_move 32 = .ok (.bipush 12, 2) := by decide +kernel
theorem dX9_move_34 : decode cX9_move 34 = .ok (.irem, 1) := by decide +kernel
theorem dX9_move_35 : decode cX9_move 35 = .ok (.istore_n 3, 1) := by decide +kernel
theorem dX9_move_36 : decode cX9_move 36 = .ok (.aload_n 0, 1) := by decide +kernel
theorem dX9_move_37 : decode cX9_move 37 = .ok (.iload_n 1, 1) := by decide +kernel
theorem dX9_move_38 : decode cX9_move 38 = .ok (.invokevirtual 278, 3) := by decide +kernel
theorem dX9_move_41 : decode cX9_move 41 = .ok (.iload_n 2, 1) := by decide +kernel
theorem dX9_move_42 : decode cX9_move 42 = .ok (.invokestatic 275, 3) := by decide +kernel
theorem dX9_move_45 : decode cX9_move 45 = .ok (.iadd, 1) := by decide +kernel
theorem dX9_move_46 : decode cX9_move 46 = .ok (.bipush 12, 2) := by decide +kernel
theorem dX9_move_48 : decode cX9_move 48 = .ok (.irem, 1) := by decide +kernel
theorem dX9_move_49 : decode cX9_move 49 = .ok (.istore 4, 2) := by decide +kernel
theorem dX9_move_51 : decode cX9_move 51 = .ok (.aload_n 0, 1) := by decide +kernel
theorem dX9_move_52 : decode cX9_move 52 = .ok (.getfield 13, 3) := by decide +kernel
theorem dX9_move_55 : decode cX9_move 55 = .ok (.iconst 5, 1) := by decide +kernel
theorem dX9_move_56 : decode cX9_move 56 = .ok (.iload_n 1, 1) := by decide +kernel
theorem dX9_move_57 : decode cX9_move 57 = .ok (.imul, 1) := by decide +kernel
theorem dX9_move_58 : decode cX9_move 58 = .ok (.iconst 4, 1) := by decide +kernel
theorem dX9_move_59 : decode cX9_move 59 = .ok (.iadd, 1) := by decide +kernel
theorem dX9_move_60 : decode cX9_move 60 = .ok (.iaload, 1) := by decide +kernel
theorem dX9_move_61 : decode cX9_move 61 = .ok (.iconst 1, 1) := by decide +kernel
theorem dX9_move_62 : decode cX9_move 62 = .ok (.if_icmp .ne 7, 3) := by decide +kernel
theorem dX9_move_65 : decode cX9_move 65 = .ok (.iconst 1, 1) := by decide +kernel
theorem dX9_move_66 : decode cX9_move 66 = .ok (.goto 4, 3) := by decide +kernel
theorem dX9_move_69 : decode cX9_move 69 = .ok (.iconst 0, 1) := by decide +kernel
theorem dX9_move_70 : decode cX9_move 70 = .ok (.istore 5, 2) := by decide +kernel
theorem dX9_move_72 : decode cX9_move 72 = .ok (.bipush (-2), 2) := by decide +kernel
theorem dX9_move_74 : decode cX9_move 74 = .ok (.istore 6, 2) := by decide +kernel
theorem dX9_move_76 : decode cX9_move 76 = .ok (.bipush (-2), 2) := by decide +kernel
theorem dX9_move_78 : decode cX9_move 78 = .ok (.istore 7, 2) := by decide +kernel
theorem dX9_move_80 : decode cX9_move 80 = .ok (.iconst 0, 1) := by decide +kernel
theorem dX9_move_81 : decode cX9_move 81 = .ok (.istore 8, 2) := by decide +kernel
theorem dX9_move_83 : decode cX9_move 83 = .ok (.iconst (-1), 1) := by decide +kernel
theorem dX9_move_84 : decode cX9_move 84 = .ok (.istore 9, 2) := by decide +kernel
theorem dX9_move_86 : decode cX9_move 86 = .ok (.iload 9, 2) := by decide +kernel
theorem dX9_move_88 : decode cX9_move 88 = .ok (.iconst 1, 1) := by decide +kernel
theorem dX9_move_89 : decode cX9_move 89 = .ok (.if_icmp .gt 130, 3) := by decide +kernel
theorem dX9_move_92 : decode cX9_move 92 = .ok (.iconst (-1), 1) := by decide +kernel
theorem dX9_move_93 : decode cX9_move 93 = .ok (.istore 10, 2) := by decide +kernel
theorem dX9_move_95 : decode cX9_move 95 = .ok (.iload 10, 2) := by decide +kernel
theorem dX9_move_97 : decode cX9_move 97 = .ok (.iconst 1, 1) := by decide +kernel
theorem dX9_move_98 : decode cX9_move 98 = .ok (.if_icmp .gt 115, 3) := by decide +kernel
theorem dX9_move_101 : decode cX9_move 101 = .ok (.iload_n 3, 1) := by decide +kernel
theorem dX9_move_102 : decode cX9_move 102 = .ok (.iload 9, 2) := by decide +kernel
theorem dX9_move_104 : decode cX9_move 104 = .ok (.invokestatic 322, 3) := by decide +kernel
theorem dX9_move_107 : decode cX9_move 107 = .ok (.istore 11, 2) := by decide +kernel
theorem dX9_move_109 : decode cX9_move 109 = .ok (.iload 11, 2) := by decide +kernel
theorem dX9_move_111 : decode cX9_move 111 = .ok (.bipush (-2), 2) := by decide +kernel
theorem dX9_move_113 : decode cX9_move 113 = .ok (.if_icmp .eq 34, 3) := by decide +kernel
theorem dX9_move_116 : decode cX9_move 116 = .ok (.iload 5, 2) := by decide +kernel
theorem dX9_move_118 : decode cX9_move 118 = .ok (.ifCond .eq 18, 3) := by decide +kernel
theorem dX9_move_121 : decode cX9_move 121 = .ok (.iload 4, 2) := by decide +kernel
theorem dX9_move_123 : decode cX9_move 123 = .ok (.iload 10, 2) := by decide +kernel
theorem dX9_move_125 : decode cX9_move 125 = .ok (.invokestatic 322, 3) := by decide +kernel
theorem dX9_move_128 : decode cX9_move 128 = .ok (.bipush (-2), 2) := by decide +kernel
theorem dX9_move_130 : decode cX9_move 130 = .ok (.if_icmp .eq 17, 3) := by decide +kernel
theorem dX9_move_133 : decode cX9_move 133 = .ok (.goto 10, 3) := by decide +kernel
theorem dX9_move_136 : decode cX9_move 136 = .ok (.iload 10, 2) := by decide +kernel
theorem dX9_move_138 : decode cX9_move 138 = .ok (.iload 9, 2) := by decide +kernel
theorem dX9_move_140 : decode cX9_move 140 = .ok (.if_icmp .ne 7, 3) := by decide +kernel
theorem dX9_move_143 : decode cX9_move 143 = .ok (.iconst 1, 1) := by decide +kernel
theorem dX9_move_144 : decode cX9_move 144 = .ok (.goto 4, 3) := by decide +kernel
theorem dX9_move_147 : decode cX9_move 147 = .ok (.iconst 0, 1) := by decide +kernel
theorem dX9_move_148 : decode cX9_move 148 = .ok (.istore 12, 2) := by decide +kernel
theorem dX9_move_150 : decode cX9_move 150 = .ok (.iload 12, 2) := by decide +kernel
theorem dX9_move_152 : decode cX9_move 152 = .ok (.ifCond .eq 21, 3) := by decide +kernel
theorem dX9_move_155 : decode cX9_move 155 = .ok (.aload_n 0, 1) := by decide +kernel
theorem dX9_move_156 : decode cX9_move 156 = .ok (.iload_n 1, 1) := by decide +kernel
theorem dX9_move_157 : decode cX9_move 157 = .ok (.iload 11, 2) := by decide +kernel
theorem dX9_move_159 : decode cX9_move 159 = .ok (.iload 9, 2) := by decide +kernel
theorem dX9_move_161 : decode cX9_move 161 = .ok (.invokevirtual 297, 3) := by decide +kernel
theorem dX9_move_164 : decode cX9_move 164 = .ok (.iload 10, 2) := by decide +kernel
theorem dX9_move_166 : decode cX9_move 166 = .ok (.invokestatic 288, 3) := by decide +kernel
theorem dX9_move_169 : decode cX9_move 169 = .ok (.iadd, 1) := by decide +kernel
theorem dX9_move_170 : decode cX9_move 170 = .ok (.goto 4, 3) := by decide +kernel
theorem dX9_move_173 : decode cX9_move 173 = .ok (.iconst 0, 1) := by decide +kernel
theorem dX9_move_174 : decode cX9_move 174 = .ok (.istore 13, 2) := by decide +kernel
theorem dX9_move_176 : decode cX9_move 176 = .ok (.iload 12, 2) := by decide +kernel
theorem dX9_move_178 : decode cX9_move 178 = .ok (.ifCond .eq 29, 3) := by decide +kernel
theorem dX9_move_181 : decode cX9_move 181 = .ok (.iload 6, 2) := by decide +kernel
theorem dX9_move_183 : decode cX9_move 183 = .ok (.bipush (-2), 2) := by decide +kernel
theorem dX9_move_185 : decode cX9_move 185 = .ok (.if_icmp .eq 10, 3) := by decide +kernel
theorem dX9_move_188 : decode cX9_move 188 = .ok (.iload 13, 2) := by decide +kernel
theorem dX9_move_190 : decode cX9_move 190 = .ok (.iload 8, 2) := by decide +kernel
theorem dX9_move_192 : decode cX9_move 192 = .ok (.if_icmp .ge 15, 3) := by decide +kernel
theorem dX9_move_195 : decode cX9_move 195 = .ok (.iload 9, 2) := by decide +kernel
theorem dX9_move_197 : decode cX9_move 197 = .ok (.istore 6, 2) := by decide +kernel
theorem dX9_move_199 : decode cX9_move 199 = .ok (.iload 10, 2) := by decide +kernel
theorem dX9_move_201 : decode cX9_move 201 = .ok (.istore 7, 2) := by decide +kernel
theorem dX9_move_203 : decode cX9_move 203 = .ok (.iload 13, 2) := by decide +kernel
theorem dX9_move_205 : decode cX9_move 205 = .ok (.istore 8, 2) := by decide +kernel
theorem dX9_move_207 : decode cX9_move 207 = .ok (.iinc 10 1, 3) := by decide +kernel
theorem dX9_move_210 : decode cX9_move 210 = .ok (.goto (-115), 3) := by decide +kernel
theorem dX9_move_213 : decode cX9_move 213 = .ok (.iinc 9 1, 3) := by decide +kernel
theorem dX9_move_216 : decode cX9_move 216 = .ok (.goto (-130), 3) := by decide +kernel
theorem dX9_move_219 : decode cX9_move 219 = .ok (.iconst 0, 1) := by decide +kernel
theorem dX9_move_220 : decode cX9_move 220 = .ok (.istore 9, 2) := by decide +kernel
theorem dX9_move_222 : decode cX9_move 222 = .ok (.iload 9, 2) := by decide +kernel
theorem dX9_move_224 : decode cX9_move 224 = .ok (.aload_n 0, 1) := by decide +kernel
theorem dX9_move_225 : decode cX9_move 225 = .ok (.getfield 23, 3) := by decide +kernel
theorem dX9_move_228 : decode cX9_move 228 = .ok (.iload_n 1, 1) := by decide +kernel
theorem dX9_move_229 : decode cX9_move 229 = .ok (.iaload, 1) := by decide +kernel
theorem dX9_move_230 : decode cX9_move 230 = .ok (.if_icmp .ge 63, 3) := by decide +kernel
theorem dX9_move_233 : decode cX9_move 233 = .ok (.aload_n 0, 1) := by decide +kernel
theorem dX9_move_234 : decode cX9_move 234 = .ok (.getfield 17, 3) := by decide +kernel
theorem dX9_move_237 : decode cX9_move 237 = .ok (.bipush 16, 2) := by decide +kernel
theorem dX9_move_239 : decode cX9_move 239 = .ok (.aload_n 0, 1) := by decide +kernel
theorem dX9_move_240 : decode cX9_move 240 = .ok (.getfield 265, 3) := by decide +kernel
theorem dX9_move_243 : decode cX9_move 243 = .ok (.imul, 1) := by decide +kernel
theorem dX9_move_244 : decode cX9_move 244 = .ok (.iload 9, 2) := by decide +kernel
theorem dX9_move_246 : decode cX9_move 246 = .ok (.iadd, 1) := by decide +kernel
theorem dX9_move_247 : decode cX9_move 247 = .ok (.aload_n 0, 1) := by decide +kernel
theorem dX9_move_248 : decode cX9_move 248 = .ok (.getfield 17, 3) := by decide +kernel
theorem dX9_move_251 : decode cX9_move 251 = .ok (.bipush 16, 2) := by decide +kernel
theorem dX9_move_253 : decode cX9_move 253 = .ok (.iload_n 1, 1) := by decide +kernel
theorem dX9_move_254 : decode cX9_move 254 = .ok (.imul, 1) := by decide +kernel
theorem dX9_move_255 : decode cX9_move 255 = .ok (.iload 9, 2) := by decide +kernel
theorem dX9_move_257 : decode cX9_move 257 = .ok (.iadd, 1) := by decide +kernel
theorem dX9_move_258 : decode cX9_move 258 = .ok (.iaload, 1) := by decide +kernel
theorem dX9_move_259 : decode cX9_move 259 = .ok (.iastore, 1) := by decide +kernel
theorem dX9_move_260 : decode cX9_move 260 = .ok (.aload_n 0, 1) := by decide +kernel
theorem dX9_move_261 : decode cX9_move 261 = .ok (.getfield 20, 3) := by decide +kernel
theorem dX9_move_264 : decode cX9_move 264 = .ok (.bipush 16, 2) := by decide +kernel
theorem dX9_move_266 : decode cX9_move 266 = .ok (.aload_n 0, 1) := by decide +kernel
theorem dX9_move_267 : decode cX9_move 267 = .ok (.getfield 265, 3) := by decide +kernel
theorem dX9_move_270 : decode cX9_move 270 = .ok (.imul, 1) := by decide +kernel
theorem dX9_move_271 : decode cX9_move 271 = .ok (.iload 9, 2) := by decide +kernel
theorem dX9_move_273 : decode cX9_move 273 = .ok (.iadd, 1) := by decide +kernel
theorem dX9_move_274 : decode cX9_move 274 = .ok (.aload_n 0, 1) := by decide +kernel
theorem dX9_move_275 : decode cX9_move 275 = .ok (.getfield 20, 3) := by decide +kernel
theorem dX9_move_278 : decode cX9_move 278 = .ok (.bipush 16, 2) := by decide +kernel
theorem dX9_move_280 : decode cX9_move 280 = .ok (.iload_n 1, 1) := by decide +kernel
theorem dX9_move_281 : decode cX9_move 281 = .ok (.imul, 1) := by decide +kernel
theorem dX9_move_282 : decode cX9_move 282 = .ok (.iload 9, 2) := by decide +kernel
theorem dX9_move_284 : decode cX9_move 284 = .ok (.iadd, 1) := by decide +kernel
theorem dX9_move_285 : decode cX9_move 285 = .ok (.iaload, 1) := by decide +kernel
theorem dX9_move_286 : decode cX9_move 286 = .ok (.iastore, 1) := by decide +kernel
theorem dX9_move_287 : decode cX9_move 287 = .ok (.iinc 9 1, 3) := by decide +kernel
theorem dX9_move_290 : decode cX9_move 290 = .ok (.goto (-68), 3) := by decide +kernel
theorem dX9_move_293 : decode cX9_move 293 = .ok (.aload_n 0, 1) := by decide +kernel
theorem dX9_move_294 : decode cX9_move 294 = .ok (.getfield 23, 3) := by decide +kernel
theorem dX9_move_297 : decode cX9_move 297 = .ok (.aload_n 0, 1) := by decide +kernel
theorem dX9_move_298 : decode cX9_move 298 = .ok (.getfield 265, 3) := by decide +kernel
theorem dX9_move_301 : decode cX9_move 301 = .ok (.aload_n 0, 1) := by decide +kernel
theorem dX9_move_302 : decode cX9_move 302 = .ok (.getfield 23, 3) := by decide +kernel
theorem dX9_move_305 : decode cX9_move 305 = .ok (.iload_n 1, 1) := by decide +kernel
theorem dX9_move_306 : decode cX9_move 306 = .ok (.iaload, 1) := by decide +kernel
theorem dX9_move_307 : decode cX9_move 307 = .ok (.iastore, 1) := by decide +kernel
theorem dX9_move_308 : decode cX9_move 308 = .ok (.iload_n 3, 1) := by decide +kernel
theorem dX9_move_309 : decode cX9_move 309 = .ok (.iload 6, 2) := by decide +kernel
theorem dX9_move_311 : decode cX9_move 311 = .ok (.invokestatic 322, 3) := by decide +kernel
theorem dX9_move_314 : decode cX9_move 314 = .ok (.istore 9, 2) := by decide +kernel
theorem dX9_move_316 : decode cX9_move 316 = .ok (.aload_n 0, 1) := by decide +kernel
theorem dX9_move_317 : decode cX9_move 317 = .ok (.iload 9, 2) := by decide +kernel
theorem dX9_move_319 : decode cX9_move 319 = .ok (.iload 6, 2) := by decide +kernel
theorem dX9_move_321 : decode cX9_move 321 = .ok (.iload 5, 2) := by decide +kernel
theorem dX9_move_323 : decode cX9_move 323 = .ok (.ifCond .eq 13, 3) := by decide +kernel
theorem dX9_move_326 : decode cX9_move 326 = .ok (.iload 4, 2) := by decide +kernel
theorem dX9_move_328 : decode cX9_move 328 = .ok (.iload 7, 2) := by decide +kernel
theorem dX9_move_330 : decode cX9_move 330 = .ok (.invokestatic 322, 3) := by decide +kernel
theorem dX9_move_333 : decode cX9_move 333 = .ok (.goto 5, 3) := by decide +kernel
theorem dX9_move_336 : decode cX9_move 336 = .ok (.iload 9, 2) := by decide +kernel
theorem dX9_move_338 : decode cX9_move 338 = .ok (.iload 7, 2) := by decide +kernel
theorem dX9_move_340 : decode cX9_move 340 = .ok (.iload 5, 2) := by decide +kernel
theorem dX9_move_342 : decode cX9_move 342 = .ok (.invokevirtual 268, 3) := by decide +kernel
theorem dX9_move_345 : decode cX9_move 345 = .ok (.ireturn, 1) := by decide +kernel
set_option maxRecDepth 20000 in
theorem ggX9_nearest_X9_size : GoodIn wsX9_nearest wsX9_size := goodIn_r _ [6] (by decide +kernel) (by decide +kernel)
set_option maxRecDepth 20000 in
theorem gX9_nearest_X9_size : GoodIn wsX9_nearest (va_wsS RX9 288 yX9_size wsX9_size) := goodIn_app (goodIn_of _ (by decide +kernel)) ggX9_nearest_X9_size
theorem dX9_nearest_0 : decode cX9_nearest 0 = .ok (.aload_n 0, 1) := by decide +kernel
theorem dX9_nearest_1 : decode cX9_nearest 1 = .ok (.getfield 344, 3) := by decide +kernel
theorem dX9_nearest_4 : decode cX9_nearest 4 = .ok (.ifCond .ne 7, 3) := by decide +kernel
theorem dX9_nearest_7 : decode cX9_nearest 7 = .ok (.iconst 0, 1) := by decide +kernel
theorem dX9_nearest_8 : decode cX9_nearest 8 = .ok (.goto 6, 3) := by decide +kernel
theorem dX9_nearest_11 : decode cX9_nearest 11 = .ok (.sipush 200, 3) := by decide +kernel
theorem dX9_nearest_14 : decode cX9_nearest 14 = .ok (.istore_n 2, 1) := by decide +kernel
theorem dX9_nearest_15 : decode cX9_nearest 15 = .ok (.iconst 0, 1) := by decide +kernel
theorem dX9_nearest_16 : decode cX9_nearest 16 = .ok (.istore_n 3, 1) := by decide +kernel
theorem dX9_nearest_17 : decode cX9_nearest 17 = .ok (.iload_n 3, 1) := by decide +kernel
theorem dX9_nearest_18 : decode cX9_nearest 18 = .ok (.aload_n 0, 1) := by decide +kernel
theorem dX9_nearest_19 : decode cX9_nearest 19 = .ok (.getfield 344, 3) := by decide +kernel
theorem dX9_nearest_22 : decode cX9_nearest 22 = .ok (.if_icmp .ge 35, 3) := by decide +kernel
theorem dX9_nearest_25 : decode cX9_nearest 25 = .ok (.aload_n 0, 1) := by decide +kernel
theorem dX9_nearest_26 : decode cX9_nearest 26 = .ok (.getfield 32, 3) := by decide +kernel
theorem dX9_nearest_29 : decode cX9_nearest 29 = .ok (.iload_n 3, 1) := by decide +kernel
theorem dX9_nearest_30 : decode cX9_nearest 30 = .ok (.iaload, 1) := by decide +kernel
theorem dX9_nearest_31 : decode cX9_nearest 31 = .ok (.iload_n 1, 1) := by decide +kernel
theorem dX9_nearest_32 : decode cX9_nearest 32 = .ok (.isub, 1) := by decide +kernel
theorem dX9_nearest_33 : decode cX9_nearest 33 = .ok (.invokestatic 288, 3) := by decide +kernel
theorem dX9_nearest_36 : decode cX9_nearest 36 = .ok (.istore 4, 2) := by decide +kernel
theorem dX9_nearest_38 : decode cX9_nearest 38 = .ok (.iload 4, 2) := by decide +kernel
theorem dX9_nearest_40 : decode cX9_nearest 40 = .ok (.iload_n 2, 1) := by decide +kernel
theorem dX9_nearest_41 : decode cX9_nearest 41 = .ok (.if_icmp .ge 8, 3) := by decide +kernel
theorem dX9_nearest_44 : decode cX9_nearest 44 = .ok (.iload 4, 2) := by decide +kernel
theorem dX9_nearest_46 : decode cX9_nearest 46 = .ok (.goto 4, 3) := by decide +kernel
theorem dX9_nearest_49 : decode cX9_nearest 49 = .ok (.iload_n 2, 1) := by decide +kernel
theorem dX9_nearest_50 : decode cX9_nearest 50 = .ok (.istore_n 2, 1) := by decide +kernel
theorem dX9_nearest_51 : decode cX9_nearest 51 = .ok (.iinc 3 1, 3) := by decide +kernel
theorem dX9_nearest_54 : decode cX9_nearest 54 = .ok (.goto (-37), 3) := by decide +kernel
theorem dX9_nearest_57 : decode cX9_nearest 57 = .ok (.iload_n 2, 1) := by decide +kernel
theorem dX9_nearest_58 : decode cX9_nearest 58 = .ok (.ireturn, 1) := by decide +kernel
theorem dX9_rest_0 : decode cX9_rest 0 = .ok (.aload_n 0, 1) := by decide +kernel
theorem dX9_rest_1 : decode cX9_rest 1 = .ok (.getfield 187, 3) := by decide +kernel
theorem dX9_rest_4 : decode cX9_rest 4 = .ok (.aload_n 0, 1) := by decide +kernel
theorem dX9_rest_5 : decode cX9_rest 5 = .ok (.getfield 347, 3) := by decide +kernel
theorem dX9_rest_8 : decode cX9_rest 8 = .ok (.iconst 1, 1) := by decide +kernel
theorem dX9_rest_9 : decode cX9_rest 9 = .ok (.isub, 1) := by decide +kernel
theorem dX9_rest_10 : decode cX9_rest 10 = .ok (.iaload, 1) := by decide +kernel
theorem dX9_rest_11 : decode cX9_rest 11 = .ok (.istore_n 3, 1) := by decide +kernel
theorem dX9_rest_12 : decode cX9_rest 12 = .ok (.iconst 0, 1) := by decide +kernel
theorem dX9_rest_13 : decode cX9_rest 13 = .ok (.istore 4, 2) := by decide +kernel
theorem dX9_rest_15 : decode cX9_rest 15 = .ok (.iconst 0, 1) := by decide +kernel
theorem dX9_rest_16 : decode cX9_rest 16 = .ok (.istore 5, 2) := by decide +kernel
theorem dX9_rest_18 : decode cX9_rest 18 = .ok (.iload 5, 2) := by decide +kernel
theorem dX9_rest_20 : decode cX9_rest 20 = .ok (.aload_n 0, 1) := by decide +kernel
theorem dX9_rest_21 : decode cX9_rest 21 = .ok (.getfield 347, 3) := by decide +kernel
theorem dX9_rest_24 : decode cX9_rest 24 = .ok (.if_icmp .ge 26, 3) := by decide +kernel
theorem dX9_rest_27 : decode cX9_rest 27 = .ok (.iload 4, 2) := by decide +kernel
theorem dX9_rest_29 : decode cX9_rest 29 = .ok (.aload_n 0, 1) := by decide +kernel
theorem dX9_rest_30 : decode cX9_rest 30 = .ok (.getfield 184, 3) := by decide +kernel
theorem dX9_rest_33 : decode cX9_rest 33 = .ok (.aload_n 0, 1) := by decide +kernel
theorem dX9_rest_34 : decode cX9_rest 34 = .ok (.getfield 187, 3) := by decide +kernel
theorem dX9_rest_37 : decode cX9_rest 37 = .ok (.iload 5, 2) := by decide +kernel
theorem dX9_rest_39 : decode cX9_rest 39 = .ok (.iaload, 1) := by decide +kernel
theorem dX9_rest_40 : decode cX9_rest 40 = .ok (.iaload, 1) := by decide +kernel
theorem dX9_rest_41 : decode cX9_rest 41 = .ok (.iadd, 1) := by decide +kernel
theorem dX9_rest_42 : decode cX9_rest 42 = .ok (.istore 4, 2) := by decide +kernel
theorem dX9_rest_44 : decode cX9_rest 44 = .ok (.iinc 5 1, 3) := by decide +kernel
theorem dX9_rest_47 : decode cX9_rest 47 = .ok (.goto (-29), 3) := by decide +kernel
theorem dX9_rest_50 : decode cX9_rest 50 = .ok (.bipush (-2), 2) := by decide +kernel
theorem dX9_rest_52 : decode cX9_rest 52 = .ok (.istore 5, 2) := by decide +kernel
theorem dX9_rest_54 : decode cX9_rest 54 = .ok (.iload_n 3, 1) := by decide +kernel
theorem dX9_rest_55 : decode cX9_rest 55 = .ok (.istore 6, 2) := by decide +kernel
theorem dX9_rest_57 : decode cX9_rest 57 = .ok (.iload 6, 2) := by decide +kernel
theorem dX9_rest_59 : decode cX9_rest 59 = .ok (.iload_n 2, 1) := by decide +kernel
theorem dX9_rest_60 : decode cX9_rest 60 = .ok (.if_icmp .gt 169, 3) := by decide +kernel
theorem dX9_rest_63 : decode cX9_rest 63 = .ok (.iload 4, 2) := by decide +kernel
theorem dX9_rest_65 : decode cX9_rest 65 = .ok (.iload 6, 2) := by decide +kernel
theorem dX9_rest_67 : decode cX9_rest 67 = .ok (.iadd, 1) := by decide +kernel
theorem dX9_rest_68 : decode cX9_rest 68 = .ok (.aload_n 0, 1) := by decide +kernel
theorem dX9_rest_69 : decode cX9_rest 69 = .ok (.getfield 187, 3) := by decide +kernel
theorem dX9_rest_72 : decode cX9_rest 72 = .ok (.iconst 0, 1) := by decide +kernel
theorem dX9_rest_73 : decode cX9_rest 73 = .ok (.iaload, 1) := by decide +kernel
theorem dX9_rest_74 : decode cX9_rest 74 = .ok (.isub, 1) := by decide +kernel
theorem dX9_rest_75 : decode cX9_rest 75 = .ok (.istore 7, 2) := by decide +kernel
theorem dX9_rest_77 : decode cX9_rest 77 = .ok (.iconst 1, 1) := by decide +kernel
theorem dX9_rest_78 : decode cX9_rest 78 = .ok (.istore 8, 2) := by decide +kernel
theorem dX9_rest_80 : decode cX9_rest 80 = .ok (.iconst 0, 1) := by decide +kernel
theorem dX9_rest_81 : decode cX9_rest 81 = .ok (.istore 9, 2) := by decide +kernel
theorem dX9_rest_83 : decode cX9_rest 83 = .ok (.iload 9, 2) := by decide +kernel
theorem dX9_rest_85 : decode cX9_rest 85 = .ok (.bipush 12, 2) := by decide +kernel
theorem dX9_rest_87 : decode cX9_rest 87 = .ok (.if_icmp .ge 108, 3) := by decide +kernel
theorem dX9_rest_90 : decode cX9_rest 90 = .ok (.iload_n 1, 1) := by decide +kernel
theorem dX9_rest_91 : decode cX9_rest 91 = .ok (.iload 9, 2) := by decide +kernel
theorem dX9_rest_93 : decode cX9_rest 93 = .ok (.ishr, 1) := by decide +kernel
theorem dX9_rest_94 : decode cX9_rest 94 = .ok (.iconst 1, 1) := by decide +kernel
theorem dX9_rest_95 : decode cX9_rest 95 = .ok (.iand, 1) := by decide +kernel
theorem dX9_rest_96 : decode cX9_rest 96 = .ok (.iconst 1, 1) := by decide +kernel
theorem dX9_rest_97 : decode cX9_rest 97 = .ok (.if_icmp .ne 92, 3) := by decide +kernel
theorem dX9_rest_100 : decode cX9_rest 100 = .ok (.bipush (-2), 2) := by decide +kernel
theorem dX9_rest_102 : decode cX9_rest 102 = .ok (.istore 10, 2) := by decide +kernel
theorem dX9_rest_104 : decode cX9_rest 104 = .ok (.iload_n 3, 1) := by decide +kernel
theorem dX9_rest_105 : decode cX9_rest 105 = .ok (.iconst 1, 1) := by decide +kernel
theorem dX9_rest_106 : decode cX9_rest 106 = .ok (.iadd, 1) := by decide +kernel
theorem dX9_rest_107 : decode cX9_rest 107 = .ok (.istore 11, 2) := by decide +kernel
theorem dX9_rest_109 : decode cX9_rest 109 = .ok (.iload 11, 2) := by decide +kernel
theorem dX9_rest_111 : decode cX9_rest 111 = .ok (.iload 6, 2) := by decide +kernel
theorem dX9_rest_113 : decode cX9_rest 113 = .ok (.if_icmp .gt 52, 3) := by decide +kernel
theorem dX9_rest_116 : decode cX9_rest 116 = .ok (.iload 11, 2) := by decide +kernel
theorem dX9_rest_118 : decode cX9_rest 118 = .ok (.bipush 12, 2) := by decide +kernel
theorem dX9_rest_120 : decode cX9_rest 120 = .ok (.irem, 1) := by decide +kernel
theorem dX9_rest_121 : decode cX9_rest 121 = .ok (.iload 9, 2) := by decide +kernel
theorem dX9_rest_123 : decode cX9_rest 123 = .ok (.if_icmp .ne 32, 3) := by decide +kernel
theorem dX9_rest_126 : decode cX9_rest 126 = .ok (.iload 10, 2) := by decide +kernel
theorem dX9_rest_128 : decode cX9_rest 128 = .ok (.bipush (-2), 2) := by decide +kernel
theorem dX9_rest_130 : decode cX9_rest 130 = .ok (.if_icmp .eq 15, 3) := by decide +kernel
theorem dX9_rest_133 : decode cX9_rest 133 = .ok (.aload_n 0, 1) := by decide +kernel
theorem dX9_rest_134 : decode cX9_rest 134 = .ok (.getfield 184, 3) := by decide +kernel
theorem dX9_rest_137 : decode cX9_rest 137 = .ok (.iload 11, 2) := by decide +kernel
theorem dX9_rest_139 : decode cX9_rest 139 = .ok (.iaload, 1) := by decide +kernel
theorem dX9_rest_140 : decode cX9_rest 140 = .ok (.iload 10, 2) := by decide +kernel
theorem dX9_rest_142 : decode cX9_rest 142 = .ok (.if_icmp .ge 13, 3) := by decide +kernel
theorem dX9_rest_145 : decode cX9_rest 145 = .ok (.aload_n 0, 1) := by decide +kernel
theorem dX9_rest_146 : decode cX9_rest 146 = .ok (.getfield 184, 3) := by decide +kernel
theorem dX9_rest_149 : decode cX9_rest 149 = .ok (.iload 11, 2) := by decide +kernel
theorem dX9_rest_151 : decode cX9_rest 151 = .ok (.iaload, 1) := by decide +kernel
theorem dX9_rest_152 : decode cX9_rest 152 = .ok (.goto 5, 3) := by decide +kernel
theorem dX9_rest_155 : decode cX9_rest 155 = .ok (.iload 10, 2) := by decide +kernel
theorem dX9_rest_157 : decode cX9_rest 157 = .ok (.istore 10, 2) := by decide +kernel
theorem dX9_rest_159 : decode cX9_rest 159 = .ok (.iinc 11 1, 3) := by decide +kernel
theorem dX9_rest_162 : decode cX9_rest 162 = .ok (.goto (-53), 3) := by decide +kernel
theorem dX9_rest_165 : decode cX9_rest 165 = .ok (.iload 8, 2) := by decide +kernel
