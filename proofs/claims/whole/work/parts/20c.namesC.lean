theorem dX6_init_7 : decode cX6_init 7 = .ok (.newarray .int, 2) := by decide +kernel
theorem dX6_init_9 : decode cX6_init 9 = .ok (.putfield 9, 3) := by decide +kernel
theorem dX6_init_12 : decode cX6_init 12 = .ok (.return_, 1) := by decide +kernel
theorem dX6_clear_0 : decode cX6_clear 0 = .ok (.aload_n 0, 1) := by decide +kernel
theorem dX6_clear_1 : decode cX6_clear 1 = .ok (.iconst 0, 1) := by decide +kernel
theorem dX6_clear_2 : decode cX6_clear 2 = .ok (.putfield 15, 3) := by decide +kernel
theorem dX6_clear_5 : decode cX6_clear 5 = .ok (.return_, 1) := by decide +kernel
theorem dX6_byteAt_0 : decode cX6_byteAt 0 = .ok (.iload_n 1, 1) := by decide +kernel
theorem dX6_byteAt_1 : decode cX6_byteAt 1 = .ok (.ifCond .lt 29, 3) := by decide +kernel
theorem dX6_byteAt_4 : decode cX6_byteAt 4 = .ok (.iload_n 1, 1) := by decide +kernel
theorem dX6_byteAt_5 : decode cX6_byteAt 5 = .ok (.aload_n 0, 1) := by decide +kernel
theorem dX6_byteAt_6 : decode cX6_byteAt 6 = .ok (.getfield 15, 3) := by decide +kernel
theorem dX6_byteAt_9 : decode cX6_byteAt 9 = .ok (.if_icmp .ge 21, 3) := by decide +kernel
theorem dX6_byteAt_12 : decode cX6_byteAt 12 = .ok (.iload_n 1, 1) := by decide +kernel
theorem dX6_byteAt_13 : decode cX6_byteAt 13 = .ok (.aload_n 0, 1) := by decide +kernel
theorem dX6_byteAt_14 : decode cX6_byteAt 14 = .ok (.getfield 9, 3) := by decide +kernel
theorem dX6_byteAt_17 : decode cX6_byteAt 17 = .ok (.arraylength, 1) := by decide +kernel
theorem dX6_byteAt_18 : decode cX6_byteAt 18 = .ok (.if_icmp .ge 12, 3) := by decide +kernel
theorem dX6_byteAt_21 : decode cX6_byteAt 21 = .ok (.aload_n 0, 1) := by decide +kernel
theorem dX6_byteAt_22 : decode cX6_byteAt 22 = .ok (.getfield 9, 3) := by decide +kernel
theorem dX6_byteAt_25 : decode cX6_byteAt 25 = .ok (.iload_n 1, 1) := by decide +kernel
theorem dX6_byteAt_26 : decode cX6_byteAt 26 = .ok (.iaload, 1) := by decide +kernel
theorem dX6_byteAt_27 : decode cX6_byteAt 27 = .ok (.goto 4, 3) := by decide +kernel
theorem dX6_byteAt_30 : decode cX6_byteAt 30 = .ok (.iconst (-1), 1) := by decide +kernel
theorem dX6_byteAt_31 : decode cX6_byteAt 31 = .ok (.ireturn, 1) := by decide +kernel
theorem dX6_add_0 : decode cX6_add 0 = .ok (.aload_n 0, 1) := by decide +kernel
theorem dX6_add_1 : decode cX6_add 1 = .ok (.getfield 15, 3) := by decide +kernel
theorem dX6_add_4 : decode cX6_add 4 = .ok (.aload_n 0, 1) := by decide +kernel
theorem dX6_add_5 : decode cX6_add 5 = .ok (.getfield 9, 3) := by decide +kernel
theorem dX6_add_8 : decode cX6_add 8 = .ok (.arraylength, 1) := by decide +kernel
theorem dX6_add_9 : decode cX6_add 9 = .ok (.if_icmp .ge 23, 3) := by decide +kernel
theorem dX6_add_12 : decode cX6_add 12 = .ok (.aload_n 0, 1) := by decide +kernel
theorem dX6_add_13 : decode cX6_add 13 = .ok (.getfield 9, 3) := by decide +kernel
theorem dX6_add_16 : decode cX6_add 16 = .ok (.aload_n 0, 1) := by decide +kernel
theorem dX6_add_17 : decode cX6_add 17 = .ok (.getfield 15, 3) := by decide +kernel
theorem dX6_add_20 : decode cX6_add 20 = .ok (.iload_n 1, 1) := by decide +kernel
theorem dX6_add_21 : decode cX6_add 21 = .ok (.iastore, 1) := by decide +kernel
theorem dX6_add_22 : decode cX6_add 22 = .ok (.aload_n 0, 1) := by decide +kernel
theorem dX6_add_23 : decode cX6_add 23 = .ok (.dup, 1) := by decide +kernel
theorem dX6_add_24 : decode cX6_add 24 = .ok (.getfield 15, 3) := by decide +kernel
theorem dX6_add_27 : decode cX6_add 27 = .ok (.iconst 1, 1) := by decide +kernel
theorem dX6_add_28 : decode cX6_add 28 = .ok (.iadd, 1) := by decide +kernel
theorem dX6_add_29 : decode cX6_add 29 = .ok (.putfield 15, 3) := by decide +kernel
theorem dX6_add_32 : decode cX6_add 32 = .ok (.return_, 1) := by decide +kernel
set_option maxRecDepth 20000 in
theorem ggX6_addNote_X3_letter : GoodIn wsX6_addNote wsX3_letter := goodIn_r _ [4] (by decide +kernel) (by decide +kernel)
set_option maxRecDepth 20000 in
theorem gX6_addNote_X3_letter : GoodIn wsX6_addNote (va_wsS RX6 21 yX3_letter wsX3_letter) := goodIn_app (goodIn_of _ (by decide +kernel)) ggX6_addNote_X3_letter
set_option maxRecDepth 20000 in
theorem ggX6_addNote_X6_addWord : GoodIn wsX6_addNote wsX6_addWord := goodIn_r _ [9, 10, 11, 12, 13, 14, 15, 16, 17, 18, 19, 20, 21, 22, 23, 24, 25, 26, 27, 28, 29, 30, 31, 32, 33, 34, 35, 36, 37, 38, 39, 40, 41, 42, 43, 44, 45, 46, 47, 48, 49, 50, 51, 52, 53, 54, 55, 56, 57, 58, 59, 60, 61, 8, 62, 63, 64, 68, 69] (by decide +kernel) (by decide +kernel)
set_option maxRecDepth 20000 in
theorem gX6_addNote_X6_addWord : GoodIn wsX6_addNote (wsV RX6 27 RX6 yX6_addWord wsX6_addWord) := goodIn_app (goodIn_of _ (by decide +kernel)) ggX6_addNote_X6_addWord
set_option maxRecDepth 20000 in
theorem ggX6_addNote_X3_signs : GoodIn wsX6_addNote wsX3_signs := goodIn_r _ [67] (by decide +kernel) (by decide +kernel)
set_option maxRecDepth 20000 in
theorem gX6_addNote_X3_signs : GoodIn wsX6_addNote (va_wsS RX6 33 yX3_signs wsX3_signs) := goodIn_app (goodIn_of _ (by decide +kernel)) ggX6_addNote_X3_signs
theorem dX6_addNote_0 : decode cX6_addNote 0 = .ok (.aload_n 0, 1) := by decide +kernel
theorem dX6_addNote_1 : decode cX6_addNote 1 = .ok (.ldc 19, 2) := by decide +kernel
theorem dX6_addNote_3 : decode cX6_addNote 3 = .ok (.iload_n 1, 1) := by decide +kernel
theorem dX6_addNote_4 : decode cX6_addNote 4 = .ok (.invokestatic 21, 3) := by decide +kernel
theorem dX6_addNote_7 : decode cX6_addNote 7 = .ok (.iconst 0, 1) := by decide +kernel
theorem dX6_addNote_8 : decode cX6_addNote 8 = .ok (.invokevirtual 27, 3) := by decide +kernel
theorem dX6_addNote_11 : decode cX6_addNote 11 = .ok (.aload_n 0, 1) := by decide +kernel
theorem dX6_addNote_12 : decode cX6_addNote 12 = .ok (.ldc 31, 2) := by decide +kernel
theorem dX6_addNote_14 : decode cX6_addNote 14 = .ok (.iload_n 1, 1) := by decide +kernel
theorem dX6_addNote_15 : decode cX6_addNote 15 = .ok (.invokestatic 33, 3) := by decide +kernel
theorem dX6_addNote_18 : decode cX6_addNote 18 = .ok (.iconst 2, 1) := by decide +kernel
theorem dX6_addNote_19 : decode cX6_addNote 19 = .ok (.iadd, 1) := by decide +kernel
theorem dX6_addNote_20 : decode cX6_addNote 20 = .ok (.iconst 0, 1) := by decide +kernel
theorem dX6_addNote_21 : decode cX6_addNote 21 = .ok (.invokevirtual 27, 3) := by decide +kernel
theorem dX6_addNote_24 : decode cX6_addNote 24 = .ok (.return_, 1) := by decide +kernel
set_option maxRecDepth 20000 in
theorem ggX6_addWord_J0_length_8abf5 : GoodIn wsX6_addWord wsJ0_length_8abf5 := goodIn_r _ [5, 6, 7, 8, 9, 4, 10, 11, 12] (by decide +kernel) (by decide +kernel)
set_option maxRecDepth 20000 in
theorem gX6_addWord_J0_length_8abf5 : GoodIn wsX6_addWord (wsV RX6 36 RJ0 yJ0_length_8abf5 wsJ0_length_8abf5) := goodIn_app (goodIn_of _ (by decide +kernel)) ggX6_addWord_J0_length_8abf5
set_option maxRecDepth 20000 in
theorem ggX6_addWord_J0_charAt_5068e : GoodIn wsX6_addWord wsJ0_charAt_5068e := goodIn_r _ [16, 6, 17, 18, 19, 4, 20, 11, 12, 21, 22, 23, 24, 25, 26, 27, 28, 29, 30, 31, 32, 33, 34, 35, 36, 37, 38, 39, 40, 41, 42, 43, 44, 45, 46, 47, 48, 49] (by decide +kernel) (by decide +kernel)
set_option maxRecDepth 20000 in
theorem gX6_addWord_J0_charAt_5068e : GoodIn wsX6_addWord (wsV RX6 42 RJ0 yJ0_charAt_5068e wsJ0_charAt_5068e) := goodIn_app (goodIn_of _ (by decide +kernel)) ggX6_addWord_J0_charAt_5068e
set_option maxRecDepth 20000 in
theorem ggX6_addWord_X6_add : GoodIn wsX6_addWord wsX6_add := goodIn_r _ [54, 55, 56, 57, 58] (by decide +kernel) (by decide +kernel)
set_option maxRecDepth 20000 in
theorem gX6_addWord_X6_add : GoodIn wsX6_addWord (wsV RX6 46 RX6 yX6_add wsX6_add) := goodIn_app (goodIn_of _ (by decide +kernel)) ggX6_addWord_X6_add
theorem dX6_addWord_0 : decode cX6_addWord 0 = .ok (.iconst 0, 1) := by decide +kernel
theorem dX6_addWord_1 : decode cX6_addWord 1 = .ok (.istore 4, 2) := by decide +kernel
theorem dX6_addWord_3 : decode cX6_addWord 3 = .ok (.iconst 0, 1) := by decide +kernel
theorem dX6_addWord_4 : decode cX6_addWord 4 = .ok (.istore 5, 2) := by decide +kernel
theorem dX6_addWord_6 : decode cX6_addWord 6 = .ok (.iload 5, 2) := by decide +kernel
theorem dX6_addWord_8 : decode cX6_addWord 8 = .ok (.aload_n 1, 1) := by decide +kernel
theorem dX6_addWord_9 : decode cX6_addWord 9 = .ok (.invokevirtual 36, 3) := by decide +kernel
theorem dX6_addWord_12 : decode cX6_addWord 12 = .ok (.if_icmp .ge 65, 3) := by decide +kernel
theorem dX6_addWord_15 : decode cX6_addWord 15 = .ok (.aload_n 1, 1) := by decide +kernel
theorem dX6_addWord_16 : decode cX6_addWord 16 = .ok (.iload 5, 2) := by decide +kernel
theorem dX6_addWord_18 : decode cX6_addWord 18 = .ok (.invokevirtual 42, 3) := by decide +kernel
theorem dX6_addWord_21 : decode cX6_addWord 21 = .ok (.istore 6, 2) := by decide +kernel
theorem dX6_addWord_23 : decode cX6_addWord 23 = .ok (.iload 6, 2) := by decide +kernel
theorem dX6_addWord_25 : decode cX6_addWord 25 = .ok (.bipush 32, 2) := by decide +kernel
theorem dX6_addWord_27 : decode cX6_addWord 27 = .ok (.if_icmp .ne 9, 3) := by decide +kernel
theorem dX6_addWord_30 : decode cX6_addWord 30 = .ok (.iinc 4 1, 3) := by decide +kernel
theorem dX6_addWord_33 : decode cX6_addWord 33 = .ok (.goto 38, 3) := by decide +kernel
theorem dX6_addWord_36 : decode cX6_addWord 36 = .ok (.iload 4, 2) := by decide +kernel
theorem dX6_addWord_38 : decode cX6_addWord 38 = .ok (.iload_n 2, 1) := by decide +kernel
theorem dX6_addWord_39 : decode cX6_addWord 39 = .ok (.if_icmp .ne 32, 3) := by decide +kernel
theorem dX6_addWord_42 : decode cX6_addWord 42 = .ok (.aload_n 0, 1) := by decide +kernel
theorem dX6_addWord_43 : decode cX6_addWord 43 = .ok (.iload_n 3, 1) := by decide +kernel
theorem dX6_addWord_44 : decode cX6_addWord 44 = .ok (.ifCond .eq 22, 3) := by decide +kernel
theorem dX6_addWord_47 : decode cX6_addWord 47 = .ok (.iload 6, 2) := by decide +kernel
theorem dX6_addWord_49 : decode cX6_addWord 49 = .ok (.bipush 98, 2) := by decide +kernel
theorem dX6_addWord_51 : decode cX6_addWord 51 = .ok (.if_icmp .eq 15, 3) := by decide +kernel
theorem dX6_addWord_54 : decode cX6_addWord 54 = .ok (.iload 6, 2) := by decide +kernel
theorem dX6_addWord_56 : decode cX6_addWord 56 = .ok (.bipush 65, 2) := by decide +kernel
theorem dX6_addWord_58 : decode cX6_addWord 58 = .ok (.isub, 1) := by decide +kernel
theorem dX6_addWord_59 : decode cX6_addWord 59 = .ok (.bipush 97, 2) := by decide +kernel
theorem dX6_addWord_61 : decode cX6_addWord 61 = .ok (.iadd, 1) := by decide +kernel
theorem dX6_addWord_62 : decode cX6_addWord 62 = .ok (.i2c, 1) := by decide +kernel
theorem dX6_addWord_63 : decode cX6_addWord 63 = .ok (.goto 5, 3) := by decide +kernel
theorem dX6_addWord_66 : decode cX6_addWord 66 = .ok (.iload 6, 2) := by decide +kernel
theorem dX6_addWord_68 : decode cX6_addWord 68 = .ok (.invokevirtual 46, 3) := by decide +kernel
theorem dX6_addWord_71 : decode cX6_addWord 71 = .ok (.iinc 5 1, 3) := by decide +kernel
theorem dX6_addWord_74 : decode cX6_addWord 74 = .ok (.goto (-68), 3) := by decide +kernel
theorem dX6_addWord_77 : decode cX6_addWord 77 = .ok (.return_, 1) := by decide +kernel
theorem dX7_init_0 : decode cX7_init 0 = .ok (.aload_n 0, 1) := by decide +kernel
theorem dX7_init_1 : decode cX7_init 1 = .ok (.invokespecial 3, 3) := by decide +kernel
theorem dX7_init_4 : decode cX7_init 4 = .ok (.aload_n 0, 1) := by decide +kernel
theorem dX7_init_5 : decode cX7_init 5 = .ok (.bipush 12, 2) := by decide +kernel
theorem dX7_init_7 : decode cX7_init 7 = .ok (.newarray .int, 2) := by decide +kernel
theorem dX7_init_9 : decode cX7_init 9 = .ok (.putfield 9, 3) := by decide +kernel
theorem dX7_init_12 : decode cX7_init 12 = .ok (.aload_n 0, 1) := by decide +kernel
theorem dX7_init_13 : decode cX7_init 13 = .ok (.sipush 128, 3) := by decide +kernel
theorem dX7_init_16 : decode cX7_init 16 = .ok (.newarray .int, 2) := by decide +kernel
theorem dX7_init_18 : decode cX7_init 18 = .ok (.putfield 15, 3) := by decide +kernel
theorem dX7_init_21 : decode cX7_init 21 = .ok (.aload_n 0, 1) := by decide +kernel
theorem dX7_init_22 : decode cX7_init 22 = .ok (.bipush 12, 2) := by decide +kernel
theorem dX7_init_24 : decode cX7_init 24 = .ok (.newarray .int, 2) := by decide +kernel
theorem dX7_init_26 : decode cX7_init 26 = .ok (.putfield 18, 3) := by decide +kernel
theorem dX7_init_29 : decode cX7_init 29 = .ok (.return_, 1) := by decide +kernel
theorem dX7_keyAt_0 : decode cX7_keyAt 0 = .ok (.iload_n 1, 1) := by decide +kernel
theorem dX7_keyAt_1 : decode cX7_keyAt 1 = .ok (.ifCond .lt 29, 3) := by decide +kernel
theorem dX7_keyAt_4 : decode cX7_keyAt 4 = .ok (.iload_n 1, 1) := by decide +kernel
theorem dX7_keyAt_5 : decode cX7_keyAt 5 = .ok (.aload_n 0, 1) := by decide +kernel
theorem dX7_keyAt_6 : decode cX7_keyAt 6 = .ok (.getfield 21, 3) := by decide +kernel
theorem dX7_keyAt_9 : decode cX7_keyAt 9 = .ok (.if_icmp .ge 21, 3) := by decide +kernel
theorem dX7_keyAt_12 : decode cX7_keyAt 12 = .ok (.iload_n 1, 1) := by decide +kernel
theorem dX7_keyAt_13 : decode cX7_keyAt 13 = .ok (.aload_n 0, 1) := by decide +kernel
theorem dX7_keyAt_14 : decode cX7_keyAt 14 = .ok (.getfield 9, 3) := by decide +kernel
theorem dX7_keyAt_17 : decode cX7_keyAt 17 = .ok (.arraylength, 1) := by decide +kernel
theorem dX7_keyAt_18 : decode cX7_keyAt 18 = .ok (.if_icmp .ge 12, 3) := by decide +kernel
theorem dX7_keyAt_21 : decode cX7_keyAt 21 = .ok (.aload_n 0, 1) := by decide +kernel
theorem dX7_keyAt_22 : decode cX7_keyAt 22 = .ok (.getfield 9, 3) := by decide +kernel
theorem dX7_keyAt_25 : decode cX7_keyAt 25 = .ok (.iload_n 1, 1) := by decide +kernel
theorem dX7_keyAt_26 : decode cX7_keyAt 26 = .ok (.iaload, 1) := by decide +kernel
theorem dX7_keyAt_27 : decode cX7_keyAt 27 = .ok (.goto 4, 3) := by decide +kernel
theorem dX7_keyAt_30 : decode cX7_keyAt 30 = .ok (.iconst (-1), 1) := by decide +kernel
theorem dX7_keyAt_31 : decode cX7_keyAt 31 = .ok (.ireturn, 1) := by decide +kernel
theorem dX7_drop_0 : decode cX7_drop 0 = .ok (.aload_n 0, 1) := by decide +kernel
theorem dX7_drop_1 : decode cX7_drop 1 = .ok (.getfield 21, 3) := by decide +kernel
theorem dX7_drop_4 : decode cX7_drop 4 = .ok (.istore_n 1, 1) := by decide +kernel
theorem dX7_drop_5 : decode cX7_drop 5 = .ok (.aload_n 0, 1) := by decide +kernel
theorem dX7_drop_6 : decode cX7_drop 6 = .ok (.iconst 0, 1) := by decide +kernel
theorem dX7_drop_7 : decode cX7_drop 7 = .ok (.putfield 21, 3) := by decide +kernel
theorem dX7_drop_10 : decode cX7_drop 10 = .ok (.iload_n 1, 1) := by decide +kernel
theorem dX7_drop_11 : decode cX7_drop 11 = .ok (.ireturn, 1) := by decide +kernel
set_option maxRecDepth 20000 in
theorem ggX7_find_X7_nearest : GoodIn wsX7_find wsX7_nearest := goodIn_r _ [7, 8, 9, 10, 11, 12, 13, 14, 15, 16, 17, 18, 19, 34, 35, 36, 37, 38, 39] (by decide +kernel) (by decide +kernel)
set_option maxRecDepth 20000 in
theorem gX7_find_X7_nearest : GoodIn wsX7_find (wsV RX7 25 RX7 yX7_nearest wsX7_nearest) := goodIn_app (goodIn_of _ (by decide +kernel)) ggX7_find_X7_nearest
set_option maxRecDepth 20000 in
theorem ggX7_find_X7_climb : GoodIn wsX7_find wsX7_climb := goodIn_r _ [23, 24, 1, 17, 18, 19, 25, 26, 27, 6, 28, 2, 29, 34, 35, 36, 37, 38, 39] (by decide +kernel) (by decide +kernel)
set_option maxRecDepth 20000 in
theorem gX7_find_X7_climb : GoodIn wsX7_find (wsV RX7 33 RX7 yX7_climb wsX7_climb) := goodIn_app (goodIn_of _ (by decide +kernel)) ggX7_find_X7_climb
set_option maxRecDepth 20000 in
theorem ggX7_find_X7_take : GoodIn wsX7_find wsX7_take := goodIn_r _ [33, 8, 2, 9, 34, 35, 36, 37, 38, 39] (by decide +kernel) (by decide +kernel)
set_option maxRecDepth 20000 in
theorem gX7_find_X7_take : GoodIn wsX7_find (wsV RX7 37 RX7 yX7_take wsX7_take) := goodIn_app (goodIn_of _ (by decide +kernel)) ggX7_find_X7_take
theorem dX7_find_0 : decode cX7_find 0 = .ok (.iload_n 3, 1) := by decide +kernel
theorem dX7_find_1 : decode cX7_find 1 = .ok (.istore 5, 2) := by decide +kernel
theorem dX7_find_3 : decode cX7_find 3 = .ok (.iload 5, 2) := by decide +kernel
theorem dX7_find_5 : decode cX7_find 5 = .ok (.iload 4, 2) := by decide +kernel
theorem dX7_find_7 : decode cX7_find 7 = .ok (.if_icmp .gt 22, 3) := by decide +kernel
theorem dX7_find_10 : decode cX7_find 10 = .ok (.aload_n 0, 1) := by decide +kernel
theorem dX7_find_11 : decode cX7_find 11 = .ok (.getfield 15, 3) := by decide +kernel
theorem dX7_find_14 : decode cX7_find 14 = .ok (.iload 5, 2) := by decide +kernel
theorem dX7_find_16 : decode cX7_find 16 = .ok (.aload_n 0, 1) := by decide +kernel
theorem dX7_find_17 : decode cX7_find 17 = .ok (.iload 5, 2) := by decide +kernel
theorem dX7_find_19 : decode cX7_find 19 = .ok (.invokevirtual 25, 3) := by decide +kernel
theorem dX7_find_22 : decode cX7_find 22 = .ok (.iastore, 1) := by decide +kernel
theorem dX7_find_23 : decode cX7_find 23 = .ok (.iinc 5 1, 3) := by decide +kernel
theorem dX7_find_26 : decode cX7_find 26 = .ok (.goto (-23), 3) := by decide +kernel
theorem dX7_find_29 : decode cX7_find 29 = .ok (.aload_n 0, 1) := by decide +kernel
theorem dX7_find_30 : decode cX7_find 30 = .ok (.lconst 0, 1) := by decide +kernel
theorem dX7_find_31 : decode cX7_find 31 = .ok (.putfield 29, 3) := by decide +kernel
theorem dX7_find_34 : decode cX7_find 34 = .ok (.iload_n 3, 1) := by decide +kernel
theorem dX7_find_35 : decode cX7_find 35 = .ok (.istore 5, 2) := by decide +kernel
theorem dX7_find_37 : decode cX7_find 37 = .ok (.iload 5, 2) := by decide +kernel
theorem dX7_find_39 : decode cX7_find 39 = .ok (.iload 4, 2) := by decide +kernel
theorem dX7_find_41 : decode cX7_find 41 = .ok (.if_icmp .gt 28, 3) := by decide +kernel
theorem dX7_find_44 : decode cX7_find 44 = .ok (.iload 5, 2) := by decide +kernel
theorem dX7_find_46 : decode cX7_find 46 = .ok (.bipush 12, 2) := by decide +kernel
theorem dX7_find_48 : decode cX7_find 48 = .ok (.irem, 1) := by decide +kernel
theorem dX7_find_49 : decode cX7_find 49 = .ok (.iload_n 2, 1) := by decide +kernel
theorem dX7_find_50 : decode cX7_find 50 = .ok (.if_icmp .ne 13, 3) := by decide +kernel
theorem dX7_find_53 : decode cX7_find 53 = .ok (.aload_n 0, 1) := by decide +kernel
theorem dX7_find_54 : decode cX7_find 54 = .ok (.iload_n 1, 1) := by decide +kernel
theorem dX7_find_55 : decode cX7_find 55 = .ok (.iload 5, 2) := by decide +kernel
theorem dX7_find_57 : decode cX7_find 57 = .ok (.iload_n 3, 1) := by decide +kernel
theorem dX7_find_58 : decode cX7_find 58 = .ok (.iload 4, 2) := by decide +kernel
theorem dX7_find_60 : decode cX7_find 60 = .ok (.invokevirtual 33, 3) := by decide +kernel
theorem dX7_find_63 : decode cX7_find 63 = .ok (.iinc 5 1, 3) := by decide +kernel
theorem dX7_find_66 : decode cX7_find 66 = .ok (.goto (-29), 3) := by decide +kernel
theorem dX7_find_69 : decode cX7_find 69 = .ok (.aload_n 0, 1) := by decide +kernel
theorem dX7_find_70 : decode cX7_find 70 = .ok (.getfield 29, 3) := by decide +kernel
theorem dX7_find_73 : decode cX7_find 73 = .ok (.lconst 0, 1) := by decide +kernel
theorem dX7_find_74 : decode cX7_find 74 = .ok (.lcmp, 1) := by decide +kernel
theorem dX7_find_75 : decode cX7_find 75 = .ok (.ifCond .ne 5, 3) := by decide +kernel
theorem dX7_find_78 : decode cX7_find 78 = .ok (.iconst 0, 1) := by decide +kernel
theorem dX7_find_79 : decode cX7_find 79 = .ok (.ireturn, 1) := by decide +kernel
theorem dX7_find_80 : decode cX7_find 80 = .ok (.aload_n 0, 1) := by decide +kernel
theorem dX7_find_81 : decode cX7_find 81 = .ok (.iload_n 3, 1) := by decide +kernel
theorem dX7_find_82 : decode cX7_find 82 = .ok (.iload 4, 2) := by decide +kernel
theorem dX7_find_84 : decode cX7_find 84 = .ok (.invokevirtual 37, 3) := by decide +kernel
theorem dX7_find_87 : decode cX7_find 87 = .ok (.iconst 1, 1) := by decide +kernel
theorem dX7_find_88 : decode cX7_find 88 = .ok (.ireturn, 1) := by decide +kernel
set_option maxRecDepth 20000 in
theorem ggX7_nearest_X8_entry : GoodIn wsX7_nearest wsX8_entry := goodIn_r _ [12] (by decide +kernel) (by decide +kernel)
set_option maxRecDepth 20000 in
theorem gX7_nearest_X8_entry_n41 : GoodIn wsX7_nearest (wsX8_entry) := ggX7_nearest_X8_entry
theorem dX7_nearest_0 : decode cX7_nearest 0 = .ok (.aload_n 0, 1) := by decide +kernel
theorem dX7_nearest_1 : decode cX7_nearest 1 = .ok (.getfield 21, 3) := by decide +kernel
theorem dX7_nearest_4 : decode cX7_nearest 4 = .ok (.ifCond .ne 7, 3) := by decide +kernel
theorem dX7_nearest_7 : decode cX7_nearest 7 = .ok (.iconst 0, 1) := by decide +kernel
theorem dX7_nearest_8 : decode cX7_nearest 8 = .ok (.goto 5, 3) := by decide +kernel
theorem dX7_nearest_11 : decode cX7_nearest 11 = .ok (.bipush 127, 2) := by decide +kernel
theorem dX7_nearest_13 : decode cX7_nearest 13 = .ok (.istore_n 2, 1) := by decide +kernel
theorem dX7_nearest_14 : decode cX7_nearest 14 = .ok (.iconst 0, 1) := by decide +kernel
theorem dX7_nearest_15 : decode cX7_nearest 15 = .ok (.istore_n 3, 1) := by decide +kernel
theorem dX7_nearest_16 : decode cX7_nearest 16 = .ok (.iload_n 3, 1) := by decide +kernel
theorem dX7_nearest_17 : decode cX7_nearest 17 = .ok (.aload_n 0, 1) := by decide +kernel
theorem dX7_nearest_18 : decode cX7_nearest 18 = .ok (.getfield 21, 3) := by decide +kernel
theorem dX7_nearest_21 : decode cX7_nearest 21 = .ok (.if_icmp .ge 27, 3) := by decide +kernel
theorem dX7_nearest_24 : decode cX7_nearest 24 = .ok (.iload_n 2, 1) := by decide +kernel
theorem dX7_nearest_25 : decode cX7_nearest 25 = .ok (.iload_n 1, 1) := by decide +kernel
theorem dX7_nearest_26 : decode cX7_nearest 26 = .ok (.aload_n 0, 1) := by decide +kernel
theorem dX7_nearest_27 : decode cX7_nearest 27 = .ok (.getfield 9, 3) := by decide +kernel
theorem dX7_nearest_30 : decode cX7_nearest 30 = .ok (.iload_n 3, 1) := by decide +kernel
theorem dX7_nearest_31 : decode cX7_nearest 31 = .ok (.invokestatic 41, 3) := by decide +kernel
theorem dX7_nearest_34 : decode cX7_nearest 34 = .ok (.isub, 1) := by decide +kernel
theorem dX7_nearest_35 : decode cX7_nearest 35 = .ok (.invokestatic 45, 3) := by decide +kernel
theorem dX7_nearest_38 : decode cX7_nearest 38 = .ok (.invokestatic 50, 3) := by decide +kernel
theorem dX7_nearest_41 : decode cX7_nearest 41 = .ok (.istore_n 2, 1) := by decide +kernel
theorem dX7_nearest_42 : decode cX7_nearest 42 = .ok (.iinc 3 1, 3) := by decide +kernel
theorem dX7_nearest_45 : decode cX7_nearest 45 = .ok (.goto (-29), 3) := by decide +kernel
theorem dX7_nearest_48 : decode cX7_nearest 48 = .ok (.iload_n 2, 1) := by decide +kernel
theorem dX7_nearest_49 : decode cX7_nearest 49 = .ok (.ireturn, 1) := by decide +kernel
set_option maxRecDepth 20000 in
theorem ggX7_climb_X8_entry : GoodIn wsX7_climb wsX8_entry := goodIn_r _ [5] (by decide +kernel) (by decide +kernel)
set_option maxRecDepth 20000 in
theorem gX7_climb_X8_entry_n41 : GoodIn wsX7_climb (wsX8_entry) := ggX7_climb_X8_entry
set_option maxRecDepth 20000 in
theorem ggX7_climb_X7_offer : GoodIn wsX7_climb wsX7_offer := goodIn_r _ [10, 11, 12, 13, 14, 15, 16, 17, 18] (by decide +kernel) (by decide +kernel)
set_option maxRecDepth 20000 in
theorem gX7_climb_X7_offer : GoodIn wsX7_climb (wsV RX7 54 RX7 yX7_offer wsX7_offer) := goodIn_app (goodIn_of _ (by decide +kernel)) ggX7_climb_X7_offer
theorem dX7_climb_0 : decode cX7_climb 0 = .ok (.iload_n 1, 1) := by decide +kernel
theorem dX7_climb_1 : decode cX7_climb 1 = .ok (.istore 5, 2) := by decide +kernel
theorem dX7_climb_3 : decode cX7_climb 3 = .ok (.iconst 0, 1) := by decide +kernel
theorem dX7_climb_4 : decode cX7_climb 4 = .ok (.istore 6, 2) := by decide +kernel
theorem dX7_climb_6 : decode cX7_climb 6 = .ok (.lconst 0, 1) := by decide +kernel
theorem dX7_climb_7 : decode cX7_climb 7 = .ok (.lstore 7, 2) := by decide +kernel
theorem dX7_climb_9 : decode cX7_climb 9 = .ok (.iload_n 2, 1) := by decide +kernel
theorem dX7_climb_10 : decode cX7_climb 10 = .ok (.istore 9, 2) := by decide +kernel
theorem dX7_climb_12 : decode cX7_climb 12 = .ok (.iload 9, 2) := by decide +kernel
theorem dX7_climb_14 : decode cX7_climb 14 = .ok (.iload 4, 2) := by decide +kernel
theorem dX7_climb_16 : decode cX7_climb 16 = .ok (.if_icmp .gt 188, 3) := by decide +kernel
theorem dX7_climb_19 : decode cX7_climb 19 = .ok (.iload 9, 2) := by decide +kernel
theorem dX7_climb_21 : decode cX7_climb 21 = .ok (.bipush 12, 2) := by decide +kernel
theorem dX7_climb_23 : decode cX7_climb 23 = .ok (.irem, 1) := by decide +kernel
theorem dX7_climb_24 : decode cX7_climb 24 = .ok (.istore 10, 2) := by decide +kernel
theorem dX7_climb_26 : decode cX7_climb 26 = .ok (.iconst 1, 1) := by decide +kernel
theorem dX7_climb_27 : decode cX7_climb 27 = .ok (.iload 10, 2) := by decide +kernel
theorem dX7_climb_29 : decode cX7_climb 29 = .ok (.ishl, 1) := by decide +kernel
theorem dX7_climb_30 : decode cX7_climb 30 = .ok (.istore 11, 2) := by decide +kernel
theorem dX7_climb_32 : decode cX7_climb 32 = .ok (.iload 9, 2) := by decide +kernel
theorem dX7_climb_34 : decode cX7_climb 34 = .ok (.iload_n 2, 1) := by decide +kernel
theorem dX7_climb_35 : decode cX7_climb 35 = .ok (.if_icmp .le 16, 3) := by decide +kernel
theorem dX7_climb_38 : decode cX7_climb 38 = .ok (.iload 10, 2) := by decide +kernel
theorem dX7_climb_40 : decode cX7_climb 40 = .ok (.iload_n 2, 1) := by decide +kernel
theorem dX7_climb_41 : decode cX7_climb 41 = .ok (.bipush 12, 2) := by decide +kernel
theorem dX7_climb_43 : decode cX7_climb 43 = .ok (.irem, 1) := by decide +kernel
theorem dX7_climb_44 : decode cX7_climb 44 = .ok (.if_icmp .ne 7, 3) := by decide +kernel
theorem dX7_climb_47 : decode cX7_climb 47 = .ok (.iconst 1, 1) := by decide +kernel
theorem dX7_climb_48 : decode cX7_climb 48 = .ok (.goto 4, 3) := by decide +kernel
theorem dX7_climb_51 : decode cX7_climb 51 = .ok (.iconst 0, 1) := by decide +kernel
theorem dX7_climb_52 : decode cX7_climb 52 = .ok (.istore 12, 2) := by decide +kernel
theorem dX7_climb_54 : decode cX7_climb 54 = .ok (.iload 12, 2) := by decide +kernel
theorem dX7_climb_56 : decode cX7_climb 56 = .ok (.ifCond .ne 142, 3) := by decide +kernel
theorem dX7_climb_59 : decode cX7_climb 59 = .ok (.iload_n 1, 1) := by decide +kernel
theorem dX7_climb_60 : decode cX7_climb 60 = .ok (.iload 11, 2) := by decide +kernel
theorem dX7_climb_62 : decode cX7_climb 62 = .ok (.iand, 1) := by decide +kernel
theorem dX7_climb_63 : decode cX7_climb 63 = .ok (.ifCond .ne 6, 3) := by decide +kernel
theorem dX7_climb_66 : decode cX7_climb 66 = .ok (.goto 132, 3) := by decide +kernel
theorem dX7_climb_69 : decode cX7_climb 69 = .ok (.iload 5, 2) := by decide +kernel
theorem dX7_climb_71 : decode cX7_climb 71 = .ok (.iload 11, 2) := by decide +kernel
theorem dX7_climb_73 : decode cX7_climb 73 = .ok (.iand, 1) := by decide +kernel
theorem dX7_climb_74 : decode cX7_climb 74 = .ok (.ifCond .ne 63, 3) := by decide +kernel
theorem dX7_climb_77 : decode cX7_climb 77 = .ok (.aload_n 0, 1) := by decide +kernel
theorem dX7_climb_78 : decode cX7_climb 78 = .ok (.getfield 18, 3) := by decide +kernel
theorem dX7_climb_81 : decode cX7_climb 81 = .ok (.iload 10, 2) := by decide +kernel
theorem dX7_climb_83 : decode cX7_climb 83 = .ok (.invokestatic 41, 3) := by decide +kernel
theorem dX7_climb_86 : decode cX7_climb 86 = .ok (.istore 13, 2) := by decide +kernel
theorem dX7_climb_88 : decode cX7_climb 88 = .ok (.aload_n 0, 1) := by decide +kernel
theorem dX7_climb_89 : decode cX7_climb 89 = .ok (.getfield 15, 3) := by decide +kernel
theorem dX7_climb_92 : decode cX7_climb 92 = .ok (.iload 9, 2) := by decide +kernel
theorem dX7_climb_94 : decode cX7_climb 94 = .ok (.invokestatic 41, 3) := by decide +kernel
theorem dX7_climb_97 : decode cX7_climb 97 = .ok (.aload_n 0, 1) := by decide +kernel
theorem dX7_climb_98 : decode cX7_climb 98 = .ok (.getfield 15, 3) := by decide +kernel
theorem dX7_climb_101 : decode cX7_climb 101 = .ok (.iload 13, 2) := by decide +kernel
theorem dX7_climb_103 : decode cX7_climb 103 = .ok (.invokestatic 41, 3) := by decide +kernel
theorem dX7_climb_106 : decode cX7_climb 106 = .ok (.if_icmp .lt 6, 3) := by decide +kernel
theorem dX7_climb_109 : decode cX7_climb 109 = .ok (.goto 89, 3) := by decide +kernel
theorem dX7_climb_112 : decode cX7_climb 112 = .ok (.iload 6, 2) := by decide +kernel
theorem dX7_climb_114 : decode cX7_climb 114 = .ok (.aload_n 0, 1) := by decide +kernel
theorem dX7_climb_115 : decode cX7_climb 115 = .ok (.getfield 15, 3) := by decide +kernel
theorem dX7_climb_118 : decode cX7_climb 118 = .ok (.iload 13, 2) := by decide +kernel
theorem dX7_climb_120 : decode cX7_climb 120 = .ok (.invokestatic 41, 3) := by decide +kernel
theorem dX7_climb_123 : decode cX7_climb 123 = .ok (.isub, 1) := by decide +kernel
theorem dX7_climb_124 : decode cX7_climb 124 = .ok (.istore 6, 2) := by decide +kernel
theorem dX7_climb_126 : decode cX7_climb 126 = .ok (.lload 7, 2) := by decide +kernel
theorem dX7_climb_128 : decode cX7_climb 128 = .ok (.lconst 1, 1) := by decide +kernel
theorem dX7_climb_129 : decode cX7_climb 129 = .ok (.iload 13, 2) := by decide +kernel
theorem dX7_climb_131 : decode cX7_climb 131 = .ok (.iload_n 3, 1) := by decide +kernel
theorem dX7_climb_132 : decode cX7_climb 132 = .ok (.isub, 1) := by decide +kernel
theorem dX7_climb_133 : decode cX7_climb 133 = .ok (.lshl, 1) := by decide +kernel
theorem dX7_climb_134 : decode cX7_climb 134 = .ok (.lxor, 1) := by decide +kernel
theorem dX7_climb_135 : decode cX7_climb 135 = .ok (.lstore 7, 2) := by decide +kernel
theorem dX7_climb_137 : decode cX7_climb 137 = .ok (.iload 5, 2) := by decide +kernel
theorem dX7_climb_139 : decode cX7_climb 139 = .ok (.iload 11, 2) := by decide +kernel
theorem dX7_climb_141 : decode cX7_climb 141 = .ok (.iconst (-1), 1) := by decide +kernel
theorem dX7_climb_142 : decode cX7_climb 142 = .ok (.ixor, 1) := by decide +kernel
theorem dX7_climb_143 : decode cX7_climb 143 = .ok (.iand, 1) := by decide +kernel
theorem dX7_climb_144 : decode cX7_climb 144 = .ok (.istore 5, 2) := by decide +kernel
theorem dX7_climb_146 : decode cX7_climb 146 = .ok (.aload_n 0, 1) := by decide +kernel
theorem dX7_climb_147 : decode cX7_climb 147 = .ok (.getfield 18, 3) := by decide +kernel
theorem dX7_climb_150 : decode cX7_climb 150 = .ok (.iload 10, 2) := by decide +kernel
theorem dX7_climb_152 : decode cX7_climb 152 = .ok (.iload 9, 2) := by decide +kernel
theorem dX7_climb_154 : decode cX7_climb 154 = .ok (.iastore, 1) := by decide +kernel
theorem dX7_climb_155 : decode cX7_climb 155 = .ok (.iload 6, 2) := by decide +kernel
theorem dX7_climb_157 : decode cX7_climb 157 = .ok (.aload_n 0, 1) := by decide +kernel
theorem dX7_climb_158 : decode cX7_climb 158 = .ok (.getfield 15, 3) := by decide +kernel
theorem dX7_climb_161 : decode cX7_climb 161 = .ok (.iload 9, 2) := by decide +kernel
theorem dX7_climb_163 : decode cX7_climb 163 = .ok (.invokestatic 41, 3) := by decide +kernel
theorem dX7_climb_166 : decode cX7_climb 166 = .ok (.iadd, 1) := by decide +kernel
theorem dX7_climb_167 : decode cX7_climb 167 = .ok (.istore 6, 2) := by decide +kernel
theorem dX7_climb_169 : decode cX7_climb 169 = .ok (.lload 7, 2) := by decide +kernel
theorem dX7_climb_171 : decode cX7_climb 171 = .ok (.lconst 1, 1) := by decide +kernel
theorem dX7_climb_172 : decode cX7_climb 172 = .ok (.iload 9, 2) := by decide +kernel
theorem dX7_climb_174 : decode cX7_climb 174 = .ok (.iload_n 3, 1) := by decide +kernel
theorem dX7_climb_175 : decode cX7_climb 175 = .ok (.isub, 1) := by decide +kernel
theorem dX7_climb_176 : decode cX7_climb 176 = .ok (.lshl, 1) := by decide +kernel
theorem dX7_climb_177 : decode cX7_climb 177 = .ok (.lor, 1) := by decide +kernel
theorem dX7_climb_178 : decode cX7_climb 178 = .ok (.lstore 7, 2) := by decide +kernel
theorem dX7_climb_180 : decode cX7_climb 180 = .ok (.iload 5, 2) := by decide +kernel
theorem dX7_climb_182 : decode cX7_climb 182 = .ok (.ifCond .ne 16, 3) := by decide +kernel
theorem dX7_climb_185 : decode cX7_climb 185 = .ok (.aload_n 0, 1) := by decide +kernel
theorem dX7_climb_186 : decode cX7_climb 186 = .ok (.lload 7, 2) := by decide +kernel
theorem dX7_climb_188 : decode cX7_climb 188 = .ok (.iload 9, 2) := by decide +kernel
theorem dX7_climb_190 : decode cX7_climb 190 = .ok (.iload_n 2, 1) := by decide +kernel
theorem dX7_climb_191 : decode cX7_climb 191 = .ok (.isub, 1) := by decide +kernel
theorem dX7_climb_192 : decode cX7_climb 192 = .ok (.iload 6, 2) := by decide +kernel
theorem dX7_climb_194 : decode cX7_climb 194 = .ok (.iadd, 1) := by decide +kernel
theorem dX7_climb_195 : decode cX7_climb 195 = .ok (.invokevirtual 54, 3) := by decide +kernel
theorem dX7_climb_198 : decode cX7_climb 198 = .ok (.iinc 9 1, 3) := by decide +kernel
theorem dX7_climb_201 : decode cX7_climb 201 = .ok (.goto (-189), 3) := by decide +kernel
theorem dX7_climb_204 : decode cX7_climb 204 = .ok (.return_, 1) := by decide +kernel
theorem dX7_offer_0 : decode cX7_offer 0 = .ok (.aload_n 0, 1) := by decide +kernel
theorem dX7_offer_1 : decode cX7_offer 1 = .ok (.getfield 29, 3) := by decide +kernel
theorem dX7_offer_4 : decode cX7_offer 4 = .ok (.lconst 0, 1) := by decide +kernel
theorem dX7_offer_5 : decode cX7_offer 5 = .ok (.lcmp, 1) := by decide +kernel
theorem dX7_offer_6 : decode cX7_offer 6 = .ok (.ifCond .eq 11, 3) := by decide +kernel
theorem dX7_offer_9 : decode cX7_offer 9 = .ok (.iload_n 3, 1) := by decide +kernel
theorem dX7_offer_10 : decode cX7_offer 10 = .ok (.aload_n 0, 1) := by decide +kernel
theorem dX7_offer_11 : decode cX7_offer 11 = .ok (.getfield 58, 3) := by decide +kernel
theorem dX7_offer_14 : decode cX7_offer 14 = .ok (.if_icmp .ge 13, 3) := by decide +kernel
theorem dX7_offer_17 : decode cX7_offer 17 = .ok (.aload_n 0, 1) := by decide +kernel
theorem dX7_offer_18 : decode cX7_offer 18 = .ok (.lload_n 1, 1) := by decide +kernel
theorem dX7_offer_19 : decode cX7_offer 19 = .ok (.putfield 29, 3) := by decide +kernel
theorem dX7_offer_22 : decode cX7_offer 22 = .ok (.aload_n 0, 1) := by decide +kernel
theorem dX7_offer_23 : decode cX7_offer 23 = .ok (.iload_n 3, 1) := by decide +kernel
theorem dX7_offer_24 : decode cX7_offer 24 = .ok (.putfield 58, 3) := by decide +kernel
theorem dX7_offer_27 : decode cX7_offer 27 = .ok (.return_, 1) := by decide +kernel
theorem dX7_take_0 : decode cX7_take 0 = .ok (.aload_n 0, 1) := by decide +kernel
theorem dX7_take_1 : decode cX7_take 1 = .ok (.iconst 0, 1) := by decide +kernel
theorem dX7_take_2 : decode cX7_take 2 = .ok (.putfield 21, 3) := by decide +kernel
theorem dX7_take_5 : decode cX7_take 5 = .ok (.iload_n 1, 1) := by decide +kernel
theorem dX7_take_6 : decode cX7_take 6 = .ok (.istore_n 3, 1) := by decide +kernel
theorem dX7_take_7 : decode cX7_take 7 = .ok (.iload_n 3, 1) := by decide +kernel
theorem dX7_take_8 : decode cX7_take 8 = .ok (.iload_n 2, 1) := by decide +kernel
theorem dX7_take_9 : decode cX7_take 9 = .ok (.if_icmp .gt 56, 3) := by decide +kernel
theorem dX7_take_12 : decode cX7_take 12 = .ok (.aload_n 0, 1) := by decide +kernel
theorem dX7_take_13 : decode cX7_take 13 = .ok (.getfield 29, 3) := by decide +kernel
theorem dX7_take_16 : decode cX7_take 16 = .ok (.iload_n 3, 1) := by decide +kernel
theorem dX7_take_17 : decode cX7_take 17 = .ok (.iload_n 1, 1) := by decide +kernel
theorem dX7_take_18 : decode cX7_take 18 = .ok (.isub, 1) := by decide +kernel
theorem dX7_take_19 : decode cX7_take 19 = .ok (.lshr, 1) := by decide +kernel
theorem dX7_take_20 : decode cX7_take 20 = .ok (.lconst 1, 1) := by decide +kernel
theorem dX7_take_21 : decode cX7_take 21 = .ok (.land, 1) := by decide +kernel
theorem dX7_take_22 : decode cX7_take 22 = .ok (.lconst 0, 1) := by decide +kernel
theorem dX7_take_23 : decode cX7_take 23 = .ok (.lcmp, 1) := by decide +kernel
theorem dX7_take_24 : decode cX7_take 24 = .ok (.ifCond .eq 35, 3) := by decide +kernel
theorem dX7_take_27 : decode cX7_take 27 = .ok (.aload_n 0, 1) := by decide +kernel
theorem dX7_take_28 : decode cX7_take 28 = .ok (.getfield 21, 3) := by decide +kernel
theorem dX7_take_31 : decode cX7_take 31 = .ok (.aload_n 0, 1) := by decide +kernel
theorem dX7_take_32 : decode cX7_take 32 = .ok (.getfield 9, 3) := by decide +kernel
theorem dX7_take_35 : decode cX7_take 35 = .ok (.arraylength, 1) := by decide +kernel
theorem dX7_take_36 : decode cX7_take 36 = .ok (.if_icmp .ge 23, 3) := by decide +kernel
theorem dX7_take_39 : decode cX7_take 39 = .ok (.aload_n 0, 1) := by decide +kernel
theorem dX7_take_40 : decode cX7_take 40 = .ok (.getfield 9, 3) := by decide +kernel
theorem dX7_take_43 : decode cX7_take 43 = .ok (.aload_n 0, 1) := by decide +kernel
theorem dX7_take_44 : decode cX7_take 44 = .ok (.getfield 21, 3) := by decide +kernel
theorem dX7_take_47 : decode cX7_take 47 = .ok (.iload_n 3, 1) := by decide +kernel
theorem dX7_take_48 : decode cX7_take 48 = .ok (.iastore, 1) := by decide +kernel
theorem dX7_take_49 : decode cX7_take 49 = .ok (.aload_n 0, 1) := by decide +kernel
theorem dX7_take_50 : decode cX7_take 50 = .ok (.dup, 1) := by decide +kernel
theorem dX7_take_51 : decode cX7_take 51 = .ok (.getfield 21, 3) := by decide +kernel
theorem dX7_take_54 : decode cX7_take 54 = .ok (.iconst 1, 1) := by decide +kernel
theorem dX7_take_55 : decode cX7_take 55 = .ok (.iadd, 1) := by decide +kernel
theorem dX7_take_56 : decode cX7_take 56 = .ok (.putfield 21, 3) := by decide +kernel
theorem dX7_take_59 : decode cX7_take 59 = .ok (.iinc 3 1, 3) := by decide +kernel
theorem dX7_take_62 : decode cX7_take 62 = .ok (.goto (-55), 3) := by decide +kernel
theorem dX7_take_65 : decode cX7_take 65 = .ok (.return_, 1) := by decide +kernel
set_option maxRecDepth 20000 in
theorem ggX8_init_X5_init : GoodIn wsX8_init wsX5_init := goodIn_r _ [23, 24, 2, 3, 25, 26, 62, 63, 64, 65] (by decide +kernel) (by decide +kernel)
set_option maxRecDepth 20000 in
theorem gX8_init_X5_init_n9 : GoodIn wsX8_init (wsX5_init) := ggX8_init_X5_init
set_option maxRecDepth 20000 in
theorem ggX8_init_X2_init : GoodIn wsX8_init wsX2_init := goodIn_r _ [29, 30, 2, 3, 25, 31, 32, 33, 34, 35, 36, 37, 38, 39, 40, 41, 42, 43, 44, 45, 46, 47, 48, 49, 50, 51, 72, 73, 74, 75] (by decide +kernel) (by decide +kernel)
set_option maxRecDepth 20000 in
theorem gX8_init_X2_init : GoodIn wsX8_init (wsX2_init) := ggX8_init_X2_init
set_option maxRecDepth 20000 in
theorem ggX8_init_X7_init : GoodIn wsX8_init wsX7_init := goodIn_r _ [53, 54, 2, 3, 25, 55, 56, 57, 76, 77, 78, 79, 80, 81] (by decide +kernel) (by decide +kernel)
set_option maxRecDepth 20000 in
theorem gX8_init_X7_init_n31 : GoodIn wsX8_init (wsX7_init) := ggX8_init_X7_init
set_option maxRecDepth 20000 in
theorem ggX8_init_X6_init : GoodIn wsX8_init wsX6_init := goodIn_r _ [59, 60, 2, 3, 25, 61, 82, 83] (by decide +kernel) (by decide +kernel)
set_option maxRecDepth 20000 in
theorem gX8_init_X6_init_n38 : GoodIn wsX8_init (wsX6_init) := ggX8_init_X6_init
theorem dX8_init_0 : decode cX8_init 0 = .ok (.aload_n 0, 1) := by decide +kernel
theorem dX8_init_1 : decode cX8_init 1 = .ok (.invokespecial 1, 3) := by decide +kernel
theorem dX8_init_4 : decode cX8_init 4 = .ok (.aload_n 0, 1) := by decide +kernel
theorem dX8_init_5 : decode cX8_init 5 = .ok (.new 7, 3) := by decide +kernel
theorem dX8_init_8 : decode cX8_init 8 = .ok (.dup, 1) := by decide +kernel
theorem dX8_init_9 : decode cX8_init 9 = .ok (.invokespecial 9, 3) := by decide +kernel
theorem dX8_init_12 : decode cX8_init 12 = .ok (.putfield 10, 3) := by decide +kernel
theorem dX8_init_15 : decode cX8_init 15 = .ok (.aload_n 0, 1) := by decide +kernel
theorem dX8_init_16 : decode cX8_init 16 = .ok (.bipush 100, 2) := by decide +kernel
theorem dX8_init_18 : decode cX8_init 18 = .ok (.anewarray 16, 3) := by decide +kernel
theorem dX8_init_21 : decode cX8_init 21 = .ok (.putfield 18, 3) := by decide +kernel
theorem dX8_init_24 : decode cX8_init 24 = .ok (.aload_n 0, 1) := by decide +kernel
theorem dX8_init_25 : decode cX8_init 25 = .ok (.new 22, 3) := by decide +kernel
theorem dX8_init_28 : decode cX8_init 28 = .ok (.dup, 1) := by decide +kernel
theorem dX8_init_29 : decode cX8_init 29 = .ok (.invokespecial 24, 3) := by decide +kernel
theorem dX8_init_32 : decode cX8_init 32 = .ok (.putfield 25, 3) := by decide +kernel
theorem dX8_init_35 : decode cX8_init 35 = .ok (.aload_n 0, 1) := by decide +kernel
theorem dX8_init_36 : decode cX8_init 36 = .ok (.new 29, 3) := by decide +kernel
theorem dX8_init_39 : decode cX8_init 39 = .ok (.dup, 1) := by decide +kernel
theorem dX8_init_40 : decode cX8_init 40 = .ok (.invokespecial 31, 3) := by decide +kernel
theorem dX8_init_43 : decode cX8_init 43 = .ok (.putfield 32, 3) := by decide +kernel
theorem dX8_init_46 : decode cX8_init 46 = .ok (.aload_n 0, 1) := by decide +kernel
theorem dX8_init_47 : decode cX8_init 47 = .ok (.new 36, 3) := by decide +kernel
theorem dX8_init_50 : decode cX8_init 50 = .ok (.dup, 1) := by decide +kernel
theorem dX8_init_51 : decode cX8_init 51 = .ok (.invokespecial 38, 3) := by decide +kernel
theorem dX8_init_54 : decode cX8_init 54 = .ok (.putfield 39, 3) := by decide +kernel
theorem dX8_init_57 : decode cX8_init 57 = .ok (.return_, 1) := by decide +kernel
set_option maxRecDepth 20000 in
theorem ggX8_feed_X5_add : GoodIn wsX8_feed wsX5_add := goodIn_r _ [6, 7, 8, 15, 16, 17, 18] (by decide +kernel) (by decide +kernel)
set_option maxRecDepth 20000 in
theorem gX8_feed_X5_add : GoodIn wsX8_feed (wsV RX8 43 RX5 yX5_add wsX5_add) := goodIn_app (goodIn_of _ (by decide +kernel)) ggX8_feed_X5_add
theorem dX8_feed_0 : decode cX8_feed 0 = .ok (.aload_n 0, 1) := by decide +kernel
theorem dX8_feed_1 : decode cX8_feed 1 = .ok (.getfield 10, 3) := by decide +kernel
theorem dX8_feed_4 : decode cX8_feed 4 = .ok (.iload_n 1, 1) := by decide +kernel
theorem dX8_feed_5 : decode cX8_feed 5 = .ok (.lload_n 2, 1) := by decide +kernel
theorem dX8_feed_6 : decode cX8_feed 6 = .ok (.invokevirtual 43, 3) := by decide +kernel
theorem dX8_feed_9 : decode cX8_feed 9 = .ok (.ireturn, 1) := by decide +kernel
set_option maxRecDepth 20000 in
theorem ggX8_chord_X5_read : GoodIn wsX8_chord wsX5_read := goodIn_r _ [6, 7, 8, 9, 10, 11, 12, 13, 14, 15, 5, 16, 17, 18, 19, 20, 21, 22, 23, 24, 25, 26, 27, 28, 29, 30, 31, 32, 33, 34, 35, 36, 37, 38, 39, 40, 41, 42, 43, 44, 45, 46, 47, 48, 49, 50, 51, 52, 53, 54, 55, 56, 57, 58, 59, 60, 61, 62, 63, 64, 65, 66, 67, 68, 69, 70, 71, 72, 73, 74, 75, 76, 77, 78, 79, 80, 81, 82, 83, 84, 85, 86, 87, 88, 89, 90, 91, 92, 93, 94, 95, 96, 97, 98, 99, 100, 101, 102, 103, 104, 105, 106, 107, 108, 109, 110, 111, 112, 113, 114, 115, 116, 133, 134, 135, 136, 137, 138, 139, 140] (by decide +kernel) (by decide +kernel)
set_option maxRecDepth 20000 in
theorem gX8_chord_X5_read : GoodIn wsX8_chord (wsV RX8 47 RX5 yX5_read wsX5_read) := goodIn_app (goodIn_of _ (by decide +kernel)) ggX8_chord_X5_read
set_option maxRecDepth 20000 in
theorem ggX8_chord_X5_clear : GoodIn wsX8_chord wsX5_clear := goodIn_r _ [120, 9, 133, 134, 135, 136] (by decide +kernel) (by decide +kernel)
set_option maxRecDepth 20000 in
theorem gX8_chord_X5_clear : GoodIn wsX8_chord (wsV RX8 55 RX5 yX5_clear wsX5_clear) := goodIn_app (goodIn_of _ (by decide +kernel)) ggX8_chord_X5_clear
set_option maxRecDepth 20000 in
theorem ggX8_chord_X8_keep : GoodIn wsX8_chord wsX8_keep := goodIn_r _ [124, 125, 126, 127, 128, 129, 130, 131, 132] (by decide +kernel) (by decide +kernel)
set_option maxRecDepth 20000 in
theorem gX8_chord_X8_keep : GoodIn wsX8_chord (wsV RX8 58 RX8 yX8_keep wsX8_keep) := goodIn_app (goodIn_of _ (by decide +kernel)) ggX8_chord_X8_keep
theorem dX8_chord_0 : decode cX8_chord 0 = .ok (.aload_n 0, 1) := by decide +kernel
theorem dX8_chord_1 : decode cX8_chord 1 = .ok (.getfield 10, 3) := by decide +kernel
theorem dX8_chord_4 : decode cX8_chord 4 = .ok (.invokevirtual 47, 3) := by decide +kernel
theorem dX8_chord_7 : decode cX8_chord 7 = .ok (.astore_n 1, 1) := by decide +kernel
theorem dX8_chord_8 : decode cX8_chord 8 = .ok (.aload_n 0, 1) := by decide +kernel
theorem dX8_chord_9 : decode cX8_chord 9 = .ok (.getfield 10, 3) := by decide +kernel
theorem dX8_chord_12 : decode cX8_chord 12 = .ok (.getfield 51, 3) := by decide +kernel
theorem dX8_chord_15 : decode cX8_chord 15 = .ok (.istore_n 2, 1) := by decide +kernel
theorem dX8_chord_16 : decode cX8_chord 16 = .ok (.aload_n 0, 1) := by decide +kernel
theorem dX8_chord_17 : decode cX8_chord 17 = .ok (.getfield 10, 3) := by decide +kernel
theorem dX8_chord_20 : decode cX8_chord 20 = .ok (.invokevirtual 55, 3) := by decide +kernel
theorem dX8_chord_23 : decode cX8_chord 23 = .ok (.aload_n 1, 1) := by decide +kernel
theorem dX8_chord_24 : decode cX8_chord 24 = .ok (.ifnonnull 8, 3) := by decide +kernel
theorem dX8_chord_27 : decode cX8_chord 27 = .ok (.bipush (-10), 2) := by decide +kernel
theorem dX8_chord_29 : decode cX8_chord 29 = .ok (.iload_n 2, 1) := by decide +kernel
theorem dX8_chord_30 : decode cX8_chord 30 = .ok (.isub, 1) := by decide +kernel
theorem dX8_chord_31 : decode cX8_chord 31 = .ok (.ireturn, 1) := by decide +kernel
theorem dX8_chord_32 : decode cX8_chord 32 = .ok (.aload_n 0, 1) := by decide +kernel
theorem dX8_chord_33 : decode cX8_chord 33 = .ok (.aload_n 1, 1) := by decide +kernel
theorem dX8_chord_34 : decode cX8_chord 34 = .ok (.invokevirtual 58, 3) := by decide +kernel
theorem dX8_chord_37 : decode cX8_chord 37 = .ok (.ireturn, 1) := by decide +kernel
set_option maxRecDepth 20000 in
theorem ggX8_of_X8_chordAt : GoodIn wsX8_of wsX8_chordAt := goodIn_r _ [9, 10, 11, 94, 95, 96, 97, 98, 99] (by decide +kernel) (by decide +kernel)
set_option maxRecDepth 20000 in
theorem gX8_of_X8_chordAt : GoodIn wsX8_of (wsV RX8 62 RX8 yX8_chordAt wsX8_chordAt) := goodIn_app (goodIn_of _ (by decide +kernel)) ggX8_of_X8_chordAt
set_option maxRecDepth 20000 in
theorem ggX8_of_X3_pitch : GoodIn wsX8_of wsX3_pitch := goodIn_r _ [15, 16, 17, 14, 18, 19, 20, 21, 22, 23, 8, 24, 25, 26, 27, 28, 29, 30, 31] (by decide +kernel) (by decide +kernel)
set_option maxRecDepth 20000 in
theorem gX8_of_X3_pitch : GoodIn wsX8_of (va_wsS RX8 69 yX3_pitch wsX3_pitch) := goodIn_app (goodIn_of _ (by decide +kernel)) ggX8_of_X3_pitch
set_option maxRecDepth 20000 in
theorem ggX8_of_J6_bitCount_0f7a4 : GoodIn wsX8_of wsJ6_bitCount_0f7a4 := goodIn_r _ [35, 36, 37, 38] (by decide +kernel) (by decide +kernel)
set_option maxRecDepth 20000 in
theorem gX8_of_J6_bitCount_0f7a4 : GoodIn wsX8_of (va_wsS RX8 81 yJ6_bitCount_0f7a4 wsJ6_bitCount_0f7a4) := goodIn_app (goodIn_of _ (by decide +kernel)) ggX8_of_J6_bitCount_0f7a4
set_option maxRecDepth 20000 in
theorem ggX8_of_X1_pitches : GoodIn wsX8_of wsX1_pitches := goodIn_r _ [43, 44, 45, 46, 47, 13, 14, 15, 16, 17, 18, 19, 20, 21, 22, 23, 8, 24, 25, 26, 27, 28, 29, 30, 31, 48, 49, 50, 51, 52, 53, 54, 55, 56, 57, 58, 90, 91, 92, 93] (by decide +kernel) (by decide +kernel)
set_option maxRecDepth 20000 in
theorem gX8_of_X1_pitches : GoodIn wsX8_of (wsV RX8 86 RX1 yX1_pitches wsX1_pitches) := goodIn_app (goodIn_of _ (by decide +kernel)) ggX8_of_X1_pitches
set_option maxRecDepth 20000 in
theorem ggX8_of_X4_weight : GoodIn wsX8_of wsX4_weight := goodIn_r _ [61, 62, 63, 64, 65, 66, 17, 14, 18, 67, 13, 15, 16, 19, 20, 21, 22, 23, 8, 24, 25, 26, 27, 28, 29, 30, 31, 68, 52, 53, 50, 54, 69, 70, 71, 72, 73, 74, 75, 76, 77, 78, 79, 55, 56, 57, 58, 80] (by decide +kernel) (by decide +kernel)
set_option maxRecDepth 20000 in
theorem gX8_of_X4_weight : GoodIn wsX8_of (va_wsS RX8 90 yX4_weight wsX4_weight) := goodIn_app (goodIn_of _ (by decide +kernel)) ggX8_of_X4_weight
set_option maxRecDepth 20000 in
theorem ggX8_of_X1_body : GoodIn wsX8_of wsX1_body := goodIn_r _ [84, 45, 85, 86, 87, 88, 89, 23, 8, 24, 90, 91, 92, 93] (by decide +kernel) (by decide +kernel)
set_option maxRecDepth 20000 in
theorem gX8_of_X1_body : GoodIn wsX8_of (wsV RX8 96 RX1 yX1_body wsX1_body) := goodIn_app (goodIn_of _ (by decide +kernel)) ggX8_of_X1_body
theorem dX8_of_0 : decode cX8_of 0 = .ok (.aload_n 0, 1) := by decide +kernel
theorem dX8_of_1 : decode cX8_of 1 = .ok (.iload_n 1, 1) := by decide +kernel
theorem dX8_of_2 : decode cX8_of 2 = .ok (.invokevirtual 62, 3) := by decide +kernel
theorem dX8_of_5 : decode cX8_of 5 = .ok (.astore_n 3, 1) := by decide +kernel
theorem dX8_of_6 : decode cX8_of 6 = .ok (.aload_n 3, 1) := by decide +kernel
theorem dX8_of_7 : decode cX8_of 7 = .ok (.ifnonnull 5, 3) := by decide +kernel
theorem dX8_of_10 : decode cX8_of 10 = .ok (.iconst (-1), 1) := by decide +kernel
theorem dX8_of_11 : decode cX8_of 11 = .ok (.ireturn, 1) := by decide +kernel
theorem dX8_of_12 : decode cX8_of 12 = .ok (.iload_n 2, 1) := by decide +kernel
theorem dX8_of_13 : decode cX8_of 13 = .ok (.tableswitch 120 0 6 #[43, 51, 59, 67, 72, 88, 107], 43) := by decide +kernel
theorem dX8_of_56 : decode cX8_of 56 = .ok (.aload_n 3, 1) := by decide +kernel
theorem dX8_of_57 : decode cX8_of 57 = .ok (.getfield 66, 3) := by decide +kernel
theorem dX8_of_60 : decode cX8_of 60 = .ok (.invokestatic 69, 3) := by decide +kernel
theorem dX8_of_63 : decode cX8_of 63 = .ok (.ireturn, 1) := by decide +kernel
theorem dX8_of_64 : decode cX8_of 64 = .ok (.aload_n 3, 1) := by decide +kernel
theorem dX8_of_65 : decode cX8_of 65 = .ok (.getfield 75, 3) := by decide +kernel
theorem dX8_of_68 : decode cX8_of 68 = .ok (.invokestatic 69, 3) := by decide +kernel
theorem dX8_of_71 : decode cX8_of 71 = .ok (.ireturn, 1) := by decide +kernel
theorem dX8_of_72 : decode cX8_of 72 = .ok (.aload_n 3, 1) := by decide +kernel
theorem dX8_of_73 : decode cX8_of 73 = .ok (.getfield 78, 3) := by decide +kernel
theorem dX8_of_76 : decode cX8_of 76 = .ok (.invokestatic 81, 3) := by decide +kernel
theorem dX8_of_79 : decode cX8_of 79 = .ok (.ireturn, 1) := by decide +kernel
theorem dX8_of_80 : decode cX8_of 80 = .ok (.aload_n 3, 1) := by decide +kernel
theorem dX8_of_81 : decode cX8_of 81 = .ok (.invokevirtual 86, 3) := by decide +kernel
theorem dX8_of_84 : decode cX8_of 84 = .ok (.ireturn, 1) := by decide +kernel
theorem dX8_of_85 : decode cX8_of 85 = .ok (.aload_n 3, 1) := by decide +kernel
theorem dX8_of_86 : decode cX8_of 86 = .ok (.getfield 66, 3) := by decide +kernel
theorem dX8_of_89 : decode cX8_of 89 = .ok (.aload_n 3, 1) := by decide +kernel
theorem dX8_of_90 : decode cX8_of 90 = .ok (.getfield 78, 3) := by decide +kernel
theorem dX8_of_93 : decode cX8_of 93 = .ok (.aload_n 3, 1) := by decide +kernel
theorem dX8_of_94 : decode cX8_of 94 = .ok (.getfield 75, 3) := by decide +kernel
theorem dX8_of_97 : decode cX8_of 97 = .ok (.invokestatic 90, 3) := by decide +kernel
theorem dX8_of_100 : decode cX8_of 100 = .ok (.ireturn, 1) := by decide +kernel
theorem dX8_of_101 : decode cX8_of 101 = .ok (.aload_n 3, 1) := by decide +kernel
theorem dX8_of_102 : decode cX8_of 102 = .ok (.invokevirtual 96, 3) := by decide +kernel
theorem dX8_of_105 : decode cX8_of 105 = .ok (.bipush 20, 2) := by decide +kernel
theorem dX8_of_107 : decode cX8_of 107 = .ok (.if_icmp .ne 8, 3) := by decide +kernel
theorem dX8_of_110 : decode cX8_of 110 = .ok (.bipush (-2), 2) := by decide +kernel
theorem dX8_of_112 : decode cX8_of 112 = .ok (.goto 7, 3) := by decide +kernel
theorem dX8_of_115 : decode cX8_of 115 = .ok (.aload_n 3, 1) := by decide +kernel
theorem dX8_of_116 : decode cX8_of 116 = .ok (.invokevirtual 96, 3) := by decide +kernel
theorem dX8_of_119 : decode cX8_of 119 = .ok (.ireturn, 1) := by decide +kernel
theorem dX8_of_120 : decode cX8_of 120 = .ok (.aload_n 3, 1) := by decide +kernel
theorem dX8_of_121 : decode cX8_of 121 = .ok (.getfield 101, 3) := by decide +kernel
theorem dX8_of_124 : decode cX8_of 124 = .ok (.ifCond .eq 7, 3) := by decide +kernel
theorem dX8_of_127 : decode cX8_of 127 = .ok (.iconst 1, 1) := by decide +kernel
theorem dX8_of_128 : decode cX8_of 128 = .ok (.goto 4, 3) := by decide +kernel
theorem dX8_of_131 : decode cX8_of 131 = .ok (.iconst 0, 1) := by decide +kernel
theorem dX8_of_132 : decode cX8_of 132 = .ok (.ireturn, 1) := by decide +kernel
theorem dX8_of_133 : decode cX8_of 133 = .ok (.iconst (-1), 1) := by decide +kernel
theorem dX8_of_134 : decode cX8_of 134 = .ok (.ireturn, 1) := by decide +kernel
set_option maxRecDepth 20000 in
theorem ggX8_step_X8_chordAt : GoodIn wsX8_step wsX8_chordAt := goodIn_r _ [8, 9, 10, 79, 80, 81, 82, 83, 84] (by decide +kernel) (by decide +kernel)
set_option maxRecDepth 20000 in
theorem gX8_step_X8_chordAt : GoodIn wsX8_step (wsV RX8 62 RX8 yX8_chordAt wsX8_chordAt) := goodIn_app (goodIn_of _ (by decide +kernel)) ggX8_step_X8_chordAt
set_option maxRecDepth 20000 in
theorem ggX8_step_X8_bassPart : GoodIn wsX8_step wsX8_bassPart := goodIn_r _ [13, 14, 15, 16, 17, 18, 19, 20, 21, 22, 23, 24, 25, 26, 27, 28, 29, 7, 30, 31, 32, 33, 34, 35] (by decide +kernel) (by decide +kernel)
set_option maxRecDepth 20000 in
theorem gX8_step_X8_bassPart : GoodIn wsX8_step (va_wsS RX8 105 yX8_bassPart wsX8_bassPart) := goodIn_app (goodIn_of _ (by decide +kernel)) ggX8_step_X8_bassPart
set_option maxRecDepth 20000 in
theorem ggX8_step_X4_nth : GoodIn wsX8_step wsX4_nth := goodIn_r _ [39, 40, 41, 38, 42] (by decide +kernel) (by decide +kernel)
set_option maxRecDepth 20000 in
theorem gX8_step_X4_nth : GoodIn wsX8_step (va_wsS RX8 109 yX4_nth wsX4_nth) := goodIn_app (goodIn_of _ (by decide +kernel)) ggX8_step_X4_nth
set_option maxRecDepth 20000 in
theorem ggX8_step_X8_stepPart : GoodIn wsX8_step wsX8_stepPart := goodIn_r _ [45, 46, 47, 38, 48, 49, 29, 7, 30, 50, 51, 52, 53, 54, 55, 56, 57, 15, 16, 17, 58, 59, 60, 61, 62, 63, 64, 65, 22, 23, 24, 25, 26, 27, 28, 31, 19, 20, 32, 33, 34, 35, 66, 67, 68, 69, 70, 71, 72, 73, 74] (by decide +kernel) (by decide +kernel)
set_option maxRecDepth 20000 in
theorem gX8_step_X8_stepPart : GoodIn wsX8_step (va_wsS RX8 112 yX8_stepPart wsX8_stepPart) := goodIn_app (goodIn_of _ (by decide +kernel)) ggX8_step_X8_stepPart
theorem dX8_step_0 : decode cX8_step 0 = .ok (.aload_n 0, 1) := by decide +kernel
theorem dX8_step_1 : decode cX8_step 1 = .ok (.iload_n 1, 1) := by decide +kernel
theorem dX8_step_2 : decode cX8_step 2 = .ok (.invokevirtual 62, 3) := by decide +kernel
theorem dX8_step_5 : decode cX8_step 5 = .ok (.astore 4, 2) := by decide +kernel
theorem dX8_step_7 : decode cX8_step 7 = .ok (.aload 4, 2) := by decide +kernel
theorem dX8_step_9 : decode cX8_step 9 = .ok (.ifnonnull 5, 3) := by decide +kernel
theorem dX8_step_12 : decode cX8_step 12 = .ok (.iconst (-1), 1) := by decide +kernel
theorem dX8_step_13 : decode cX8_step 13 = .ok (.ireturn, 1) := by decide +kernel
theorem dX8_step_14 : decode cX8_step 14 = .ok (.iload_n 2, 1) := by decide +kernel
theorem dX8_step_15 : decode cX8_step 15 = .ok (.iconst (-1), 1) := by decide +kernel
theorem dX8_step_16 : decode cX8_step 16 = .ok (.if_icmp .ne 13, 3) := by decide +kernel
theorem dX8_step_19 : decode cX8_step 19 = .ok (.aload 4, 2) := by decide +kernel
theorem dX8_step_21 : decode cX8_step 21 = .ok (.getfield 75, 3) := by decide +kernel
theorem dX8_step_24 : decode cX8_step 24 = .ok (.iload_n 3, 1) := by decide +kernel
theorem dX8_step_25 : decode cX8_step 25 = .ok (.invokestatic 105, 3) := by decide +kernel
theorem dX8_step_28 : decode cX8_step 28 = .ok (.ireturn, 1) := by decide +kernel
theorem dX8_step_29 : decode cX8_step 29 = .ok (.aload 4, 2) := by decide +kernel
theorem dX8_step_31 : decode cX8_step 31 = .ok (.getfield 78, 3) := by decide +kernel
theorem dX8_step_34 : decode cX8_step 34 = .ok (.iload_n 2, 1) := by decide +kernel
theorem dX8_step_35 : decode cX8_step 35 = .ok (.invokestatic 109, 3) := by decide +kernel
theorem dX8_step_38 : decode cX8_step 38 = .ok (.istore 5, 2) := by decide +kernel
theorem dX8_step_40 : decode cX8_step 40 = .ok (.iload 5, 2) := by decide +kernel
theorem dX8_step_42 : decode cX8_step 42 = .ok (.iconst (-1), 1) := by decide +kernel
theorem dX8_step_43 : decode cX8_step 43 = .ok (.if_icmp .ne 7, 3) := by decide +kernel
theorem dX8_step_46 : decode cX8_step 46 = .ok (.iconst (-1), 1) := by decide +kernel
theorem dX8_step_47 : decode cX8_step 47 = .ok (.goto 14, 3) := by decide +kernel
theorem dX8_step_50 : decode cX8_step 50 = .ok (.aload 4, 2) := by decide +kernel
theorem dX8_step_52 : decode cX8_step 52 = .ok (.getfield 66, 3) := by decide +kernel
theorem dX8_step_55 : decode cX8_step 55 = .ok (.iload 5, 2) := by decide +kernel
theorem dX8_step_57 : decode cX8_step 57 = .ok (.iload_n 3, 1) := by decide +kernel
theorem dX8_step_58 : decode cX8_step 58 = .ok (.invokestatic 112, 3) := by decide +kernel
