theorem dX9_stands_47 : decode cX9_stands 47 = .ok (.iload 5, 2) := by decide +kernel
theorem dX9_stands_49 : decode cX9_stands 49 = .ok (.iadd, 1) := by decide +kernel
theorem dX9_stands_50 : decode cX9_stands 50 = .ok (.baload, 1) := by decide +kernel
theorem dX9_stands_51 : decode cX9_stands 51 = .ok (.lload_n 1, 1) := by decide +kernel
theorem dX9_stands_52 : decode cX9_stands 52 = .ok (.iload 5, 2) := by decide +kernel
theorem dX9_stands_54 : decode cX9_stands 54 = .ok (.invokestatic 198, 3) := by decide +kernel
theorem dX9_stands_57 : decode cX9_stands 57 = .ok (.if_icmp .ne 7, 3) := by decide +kernel
theorem dX9_stands_60 : decode cX9_stands 60 = .ok (.iconst 1, 1) := by decide +kernel
theorem dX9_stands_61 : decode cX9_stands 61 = .ok (.goto 4, 3) := by decide +kernel
theorem dX9_stands_64 : decode cX9_stands 64 = .ok (.iconst 0, 1) := by decide +kernel
theorem dX9_stands_65 : decode cX9_stands 65 = .ok (.istore 4, 2) := by decide +kernel
theorem dX9_stands_67 : decode cX9_stands 67 = .ok (.iinc 5 1, 3) := by decide +kernel
theorem dX9_stands_70 : decode cX9_stands 70 = .ok (.goto (-42), 3) := by decide +kernel
theorem dX9_stands_73 : decode cX9_stands 73 = .ok (.iload 4, 2) := by decide +kernel
theorem dX9_stands_75 : decode cX9_stands 75 = .ok (.ireturn, 1) := by decide +kernel
set_option maxRecDepth 20000 in
theorem ggX9_word_X9_stands : GoodIn wsX9_word wsX9_stands := goodIn_r _ [5, 6, 7, 8, 9, 10, 4, 11, 12, 13, 14, 15, 16, 17, 18, 19, 20, 21, 22, 23, 24, 25, 26, 27, 28, 29, 30, 31, 32, 33, 34, 35, 36, 37, 38, 39, 40, 41, 42, 43, 44, 45, 46, 47, 48, 49, 50] (by decide +kernel) (by decide +kernel)
set_option maxRecDepth 20000 in
theorem gX9_word_X9_stands : GoodIn wsX9_word (wsV RX9 222 RX9 yX9_stands wsX9_stands) := goodIn_app (goodIn_of _ (by decide +kernel)) ggX9_word_X9_stands
set_option maxRecDepth 20000 in
theorem ggX9_word_X9_lengthOf : GoodIn wsX9_word wsX9_lengthOf := goodIn_r _ [11] (by decide +kernel) (by decide +kernel)
set_option maxRecDepth 20000 in
theorem gX9_word_X9_lengthOf : GoodIn wsX9_word (va_wsS RX9 190 yX9_lengthOf wsX9_lengthOf) := goodIn_app (goodIn_of _ (by decide +kernel)) ggX9_word_X9_lengthOf
theorem dX9_word_0 : decode cX9_word 0 = .ok (.bipush (-2), 2) := by decide +kernel
theorem dX9_word_2 : decode cX9_word 2 = .ok (.istore_n 2, 1) := by decide +kernel
theorem dX9_word_3 : decode cX9_word 3 = .ok (.iconst 0, 1) := by decide +kernel
theorem dX9_word_4 : decode cX9_word 4 = .ok (.istore_n 3, 1) := by decide +kernel
theorem dX9_word_5 : decode cX9_word 5 = .ok (.iload_n 3, 1) := by decide +kernel
theorem dX9_word_6 : decode cX9_word 6 = .ok (.aload_n 1, 1) := by decide +kernel
theorem dX9_word_7 : decode cX9_word 7 = .ok (.arraylength, 1) := by decide +kernel
theorem dX9_word_8 : decode cX9_word 8 = .ok (.if_icmp .ge 46, 3) := by decide +kernel
theorem dX9_word_11 : decode cX9_word 11 = .ok (.aload_n 0, 1) := by decide +kernel
theorem dX9_word_12 : decode cX9_word 12 = .ok (.aload_n 1, 1) := by decide +kernel
theorem dX9_word_13 : decode cX9_word 13 = .ok (.iload_n 3, 1) := by decide +kernel
theorem dX9_word_14 : decode cX9_word 14 = .ok (.laload, 1) := by decide +kernel
theorem dX9_word_15 : decode cX9_word 15 = .ok (.invokevirtual 222, 3) := by decide +kernel
theorem dX9_word_18 : decode cX9_word 18 = .ok (.ifCond .eq 28, 3) := by decide +kernel
theorem dX9_word_21 : decode cX9_word 21 = .ok (.iload_n 2, 1) := by decide +kernel
theorem dX9_word_22 : decode cX9_word 22 = .ok (.bipush (-2), 2) := by decide +kernel
theorem dX9_word_24 : decode cX9_word 24 = .ok (.if_icmp .eq 18, 3) := by decide +kernel
theorem dX9_word_27 : decode cX9_word 27 = .ok (.aload_n 1, 1) := by decide +kernel
theorem dX9_word_28 : decode cX9_word 28 = .ok (.iload_n 3, 1) := by decide +kernel
theorem dX9_word_29 : decode cX9_word 29 = .ok (.laload, 1) := by decide +kernel
theorem dX9_word_30 : decode cX9_word 30 = .ok (.invokestatic 190, 3) := by decide +kernel
theorem dX9_word_33 : decode cX9_word 33 = .ok (.aload_n 1, 1) := by decide +kernel
theorem dX9_word_34 : decode cX9_word 34 = .ok (.iload_n 2, 1) := by decide +kernel
theorem dX9_word_35 : decode cX9_word 35 = .ok (.laload, 1) := by decide +kernel
theorem dX9_word_36 : decode cX9_word 36 = .ok (.invokestatic 190, 3) := by decide +kernel
theorem dX9_word_39 : decode cX9_word 39 = .ok (.if_icmp .le 7, 3) := by decide +kernel
theorem dX9_word_42 : decode cX9_word 42 = .ok (.iload_n 3, 1) := by decide +kernel
theorem dX9_word_43 : decode cX9_word 43 = .ok (.goto 4, 3) := by decide +kernel
theorem dX9_word_46 : decode cX9_word 46 = .ok (.iload_n 2, 1) := by decide +kernel
theorem dX9_word_47 : decode cX9_word 47 = .ok (.istore_n 2, 1) := by decide +kernel
theorem dX9_word_48 : decode cX9_word 48 = .ok (.iinc 3 1, 3) := by decide +kernel
theorem dX9_word_51 : decode cX9_word 51 = .ok (.goto (-46), 3) := by decide +kernel
theorem dX9_word_54 : decode cX9_word 54 = .ok (.iload_n 2, 1) := by decide +kernel
theorem dX9_word_55 : decode cX9_word 55 = .ok (.ireturn, 1) := by decide +kernel
theorem dX9_placeOfDegree_0 : decode cX9_placeOfDegree 0 = .ok (.iconst 0, 1) := by decide +kernel
theorem dX9_placeOfDegree_1 : decode cX9_placeOfDegree 1 = .ok (.istore_n 2, 1) := by decide +kernel
theorem dX9_placeOfDegree_2 : decode cX9_placeOfDegree 2 = .ok (.iload_n 2, 1) := by decide +kernel
theorem dX9_placeOfDegree_3 : decode cX9_placeOfDegree 3 = .ok (.aload_n 0, 1) := by decide +kernel
theorem dX9_placeOfDegree_4 : decode cX9_placeOfDegree 4 = .ok (.getfield 212, 3) := by decide +kernel
theorem dX9_placeOfDegree_7 : decode cX9_placeOfDegree 7 = .ok (.if_icmp .ge 21, 3) := by decide +kernel
theorem dX9_placeOfDegree_10 : decode cX9_placeOfDegree 10 = .ok (.aload_n 0, 1) := by decide +kernel
theorem dX9_placeOfDegree_11 : decode cX9_placeOfDegree 11 = .ok (.getfield 172, 3) := by decide +kernel
theorem dX9_placeOfDegree_14 : decode cX9_placeOfDegree 14 = .ok (.iload_n 2, 1) := by decide +kernel
theorem dX9_placeOfDegree_15 : decode cX9_placeOfDegree 15 = .ok (.iaload, 1) := by decide +kernel
theorem dX9_placeOfDegree_16 : decode cX9_placeOfDegree 16 = .ok (.iload_n 1, 1) := by decide +kernel
theorem dX9_placeOfDegree_17 : decode cX9_placeOfDegree 17 = .ok (.if_icmp .ne 5, 3) := by decide +kernel
theorem dX9_placeOfDegree_20 : decode cX9_placeOfDegree 20 = .ok (.iload_n 2, 1) := by decide +kernel
theorem dX9_placeOfDegree_21 : decode cX9_placeOfDegree 21 = .ok (.ireturn, 1) := by decide +kernel
theorem dX9_placeOfDegree_22 : decode cX9_placeOfDegree 22 = .ok (.iinc 2 1, 3) := by decide +kernel
theorem dX9_placeOfDegree_25 : decode cX9_placeOfDegree 25 = .ok (.goto (-23), 3) := by decide +kernel
theorem dX9_placeOfDegree_28 : decode cX9_placeOfDegree 28 = .ok (.bipush (-2), 2) := by decide +kernel
theorem dX9_placeOfDegree_30 : decode cX9_placeOfDegree 30 = .ok (.ireturn, 1) := by decide +kernel
theorem dX9_placeOf_0 : decode cX9_placeOf 0 = .ok (.iconst 0, 1) := by decide +kernel
theorem dX9_placeOf_1 : decode cX9_placeOf 1 = .ok (.istore_n 3, 1) := by decide +kernel
theorem dX9_placeOf_2 : decode cX9_placeOf 2 = .ok (.iload_n 3, 1) := by decide +kernel
theorem dX9_placeOf_3 : decode cX9_placeOf 3 = .ok (.aload_n 0, 1) := by decide +kernel
theorem dX9_placeOf_4 : decode cX9_placeOf 4 = .ok (.getfield 212, 3) := by decide +kernel
theorem dX9_placeOf_7 : decode cX9_placeOf 7 = .ok (.if_icmp .ge 31, 3) := by decide +kernel
theorem dX9_placeOf_10 : decode cX9_placeOf 10 = .ok (.aload_n 0, 1) := by decide +kernel
theorem dX9_placeOf_11 : decode cX9_placeOf 11 = .ok (.getfield 172, 3) := by decide +kernel
theorem dX9_placeOf_14 : decode cX9_placeOf 14 = .ok (.iload_n 3, 1) := by decide +kernel
theorem dX9_placeOf_15 : decode cX9_placeOf 15 = .ok (.iaload, 1) := by decide +kernel
theorem dX9_placeOf_16 : decode cX9_placeOf 16 = .ok (.iload_n 1, 1) := by decide +kernel
theorem dX9_placeOf_17 : decode cX9_placeOf 17 = .ok (.if_icmp .ne 15, 3) := by decide +kernel
theorem dX9_placeOf_20 : decode cX9_placeOf 20 = .ok (.aload_n 0, 1) := by decide +kernel
theorem dX9_placeOf_21 : decode cX9_placeOf 21 = .ok (.getfield 169, 3) := by decide +kernel
theorem dX9_placeOf_24 : decode cX9_placeOf 24 = .ok (.iload_n 3, 1) := by decide +kernel
theorem dX9_placeOf_25 : decode cX9_placeOf 25 = .ok (.iaload, 1) := by decide +kernel
theorem dX9_placeOf_26 : decode cX9_placeOf 26 = .ok (.iload_n 2, 1) := by decide +kernel
theorem dX9_placeOf_27 : decode cX9_placeOf 27 = .ok (.if_icmp .ne 5, 3) := by decide +kernel
theorem dX9_placeOf_30 : decode cX9_placeOf 30 = .ok (.iload_n 3, 1) := by decide +kernel
theorem dX9_placeOf_31 : decode cX9_placeOf 31 = .ok (.ireturn, 1) := by decide +kernel
theorem dX9_placeOf_32 : decode cX9_placeOf 32 = .ok (.iinc 3 1, 3) := by decide +kernel
theorem dX9_placeOf_35 : decode cX9_placeOf 35 = .ok (.goto (-33), 3) := by decide +kernel
theorem dX9_placeOf_38 : decode cX9_placeOf 38 = .ok (.bipush (-2), 2) := by decide +kernel
theorem dX9_placeOf_40 : decode cX9_placeOf 40 = .ok (.ireturn, 1) := by decide +kernel
theorem dX9_comes_0 : decode cX9_comes 0 = .ok (.aload_n 0, 1) := by decide +kernel
theorem dX9_comes_1 : decode cX9_comes 1 = .ok (.getfield 172, 3) := by decide +kernel
theorem dX9_comes_4 : decode cX9_comes 4 = .ok (.aload_n 0, 1) := by decide +kernel
theorem dX9_comes_5 : decode cX9_comes 5 = .ok (.getfield 212, 3) := by decide +kernel
theorem dX9_comes_8 : decode cX9_comes 8 = .ok (.iload_n 1, 1) := by decide +kernel
theorem dX9_comes_9 : decode cX9_comes 9 = .ok (.iastore, 1) := by decide +kernel
theorem dX9_comes_10 : decode cX9_comes 10 = .ok (.aload_n 0, 1) := by decide +kernel
theorem dX9_comes_11 : decode cX9_comes 11 = .ok (.getfield 169, 3) := by decide +kernel
theorem dX9_comes_14 : decode cX9_comes 14 = .ok (.aload_n 0, 1) := by decide +kernel
theorem dX9_comes_15 : decode cX9_comes 15 = .ok (.getfield 212, 3) := by decide +kernel
theorem dX9_comes_18 : decode cX9_comes 18 = .ok (.iload_n 2, 1) := by decide +kernel
theorem dX9_comes_19 : decode cX9_comes 19 = .ok (.iastore, 1) := by decide +kernel
theorem dX9_comes_20 : decode cX9_comes 20 = .ok (.aload_n 0, 1) := by decide +kernel
theorem dX9_comes_21 : decode cX9_comes 21 = .ok (.dup, 1) := by decide +kernel
theorem dX9_comes_22 : decode cX9_comes 22 = .ok (.getfield 212, 3) := by decide +kernel
theorem dX9_comes_25 : decode cX9_comes 25 = .ok (.iconst 1, 1) := by decide +kernel
theorem dX9_comes_26 : decode cX9_comes 26 = .ok (.iadd, 1) := by decide +kernel
theorem dX9_comes_27 : decode cX9_comes 27 = .ok (.putfield 212, 3) := by decide +kernel
theorem dX9_comes_30 : decode cX9_comes 30 = .ok (.return_, 1) := by decide +kernel
theorem dX9_goes_0 : decode cX9_goes 0 = .ok (.aload_n 0, 1) := by decide +kernel
theorem dX9_goes_1 : decode cX9_goes 1 = .ok (.dup, 1) := by decide +kernel
theorem dX9_goes_2 : decode cX9_goes 2 = .ok (.getfield 212, 3) := by decide +kernel
theorem dX9_goes_5 : decode cX9_goes 5 = .ok (.iconst 1, 1) := by decide +kernel
theorem dX9_goes_6 : decode cX9_goes 6 = .ok (.isub, 1) := by decide +kernel
theorem dX9_goes_7 : decode cX9_goes 7 = .ok (.putfield 212, 3) := by decide +kernel
theorem dX9_goes_10 : decode cX9_goes 10 = .ok (.aload_n 0, 1) := by decide +kernel
theorem dX9_goes_11 : decode cX9_goes 11 = .ok (.getfield 172, 3) := by decide +kernel
theorem dX9_goes_14 : decode cX9_goes 14 = .ok (.iload_n 1, 1) := by decide +kernel
theorem dX9_goes_15 : decode cX9_goes 15 = .ok (.aload_n 0, 1) := by decide +kernel
theorem dX9_goes_16 : decode cX9_goes 16 = .ok (.getfield 172, 3) := by decide +kernel
theorem dX9_goes_19 : decode cX9_goes 19 = .ok (.aload_n 0, 1) := by decide +kernel
theorem dX9_goes_20 : decode cX9_goes 20 = .ok (.getfield 212, 3) := by decide +kernel
theorem dX9_goes_23 : decode cX9_goes 23 = .ok (.iaload, 1) := by decide +kernel
theorem dX9_goes_24 : decode cX9_goes 24 = .ok (.iastore, 1) := by decide +kernel
theorem dX9_goes_25 : decode cX9_goes 25 = .ok (.aload_n 0, 1) := by decide +kernel
theorem dX9_goes_26 : decode cX9_goes 26 = .ok (.getfield 169, 3) := by decide +kernel
theorem dX9_goes_29 : decode cX9_goes 29 = .ok (.iload_n 1, 1) := by decide +kernel
theorem dX9_goes_30 : decode cX9_goes 30 = .ok (.aload_n 0, 1) := by decide +kernel
theorem dX9_goes_31 : decode cX9_goes 31 = .ok (.getfield 169, 3) := by decide +kernel
theorem dX9_goes_34 : decode cX9_goes 34 = .ok (.aload_n 0, 1) := by decide +kernel
theorem dX9_goes_35 : decode cX9_goes 35 = .ok (.getfield 212, 3) := by decide +kernel
theorem dX9_goes_38 : decode cX9_goes 38 = .ok (.iaload, 1) := by decide +kernel
theorem dX9_goes_39 : decode cX9_goes 39 = .ok (.iastore, 1) := by decide +kernel
theorem dX9_goes_40 : decode cX9_goes 40 = .ok (.return_, 1) := by decide +kernel
set_option maxRecDepth 20000 in
theorem ggX9_readBody_X9_comes : GoodIn wsX9_readBody wsX9_comes := goodIn_r _ [12, 13, 1, 14, 56, 57, 58, 59, 60, 61, 62, 63, 64, 65, 66, 67, 68, 69, 70, 71, 72, 73, 74, 75, 76, 77, 78, 79, 80, 81, 82, 83, 84, 85, 86, 87, 88, 89, 90, 91] (by decide +kernel) (by decide +kernel)
set_option maxRecDepth 20000 in
theorem gX9_readBody_X9_comes : GoodIn wsX9_readBody (wsV RX9 226 RX9 yX9_comes wsX9_comes) := goodIn_app (goodIn_of _ (by decide +kernel)) ggX9_readBody_X9_comes
set_option maxRecDepth 20000 in
theorem ggX9_readBody_X9_word : GoodIn wsX9_readBody wsX9_word := goodIn_r _ [18, 19, 20, 21, 11, 22, 3, 4, 5, 23, 24, 25, 26, 27, 28, 56, 57, 58, 59, 60, 61, 62, 63, 64, 65, 66, 67, 68, 69, 70, 71, 72, 73, 74, 75, 76, 77, 78, 79, 80, 81, 82, 83, 84, 85, 86, 87, 88, 89, 90, 91] (by decide +kernel) (by decide +kernel)
set_option maxRecDepth 20000 in
theorem gX9_readBody_X9_word : GoodIn wsX9_readBody (wsV RX9 230 RX9 yX9_word wsX9_word) := goodIn_app (goodIn_of _ (by decide +kernel)) ggX9_readBody_X9_word
set_option maxRecDepth 20000 in
theorem ggX9_readBody_X9_lengthOf : GoodIn wsX9_readBody wsX9_lengthOf := goodIn_r _ [25] (by decide +kernel) (by decide +kernel)
set_option maxRecDepth 20000 in
theorem gX9_readBody_X9_lengthOf : GoodIn wsX9_readBody (va_wsS RX9 190 yX9_lengthOf wsX9_lengthOf) := goodIn_app (goodIn_of _ (by decide +kernel)) ggX9_readBody_X9_lengthOf
set_option maxRecDepth 20000 in
theorem ggX9_readBody_X9_isIn : GoodIn wsX9_readBody wsX9_isIn := goodIn_r _ [31] (by decide +kernel) (by decide +kernel)
set_option maxRecDepth 20000 in
theorem gX9_readBody_X9_isIn : GoodIn wsX9_readBody (va_wsS RX9 215 yX9_isIn wsX9_isIn) := goodIn_app (goodIn_of _ (by decide +kernel)) ggX9_readBody_X9_isIn
set_option maxRecDepth 20000 in
theorem ggX9_readBody_X9_changes : GoodIn wsX9_readBody wsX9_changes := goodIn_r _ [35, 36, 37, 38, 11, 39, 13, 14, 40, 41, 42, 43, 1, 44, 45, 46, 47, 48, 49, 50, 51, 52, 53, 54, 55, 8, 9, 10, 12, 56, 57, 58, 59, 60, 61, 62, 63, 64, 65, 66, 67, 68, 69, 70, 71, 72, 73, 74, 75, 76, 77, 78, 79, 80, 81, 82, 83, 84, 85, 86, 87, 88, 89, 90, 91] (by decide +kernel) (by decide +kernel)
set_option maxRecDepth 20000 in
theorem gX9_readBody_X9_changes : GoodIn wsX9_readBody (wsV RX9 234 RX9 yX9_changes wsX9_changes) := goodIn_app (goodIn_of _ (by decide +kernel)) ggX9_readBody_X9_changes
theorem dX9_readBody_0 : decode cX9_readBody 0 = .ok (.aload_n 0, 1) := by decide +kernel
theorem dX9_readBody_1 : decode cX9_readBody 1 = .ok (.iconst 0, 1) := by decide +kernel
theorem dX9_readBody_2 : decode cX9_readBody 2 = .ok (.putfield 212, 3) := by decide +kernel
theorem dX9_readBody_5 : decode cX9_readBody 5 = .ok (.aload_n 0, 1) := by decide +kernel
theorem dX9_readBody_6 : decode cX9_readBody 6 = .ok (.iconst 1, 1) := by decide +kernel
theorem dX9_readBody_7 : decode cX9_readBody 7 = .ok (.iconst 0, 1) := by decide +kernel
theorem dX9_readBody_8 : decode cX9_readBody 8 = .ok (.invokevirtual 226, 3) := by decide +kernel
theorem dX9_readBody_11 : decode cX9_readBody 11 = .ok (.aload_n 0, 1) := by decide +kernel
theorem dX9_readBody_12 : decode cX9_readBody 12 = .ok (.aload_n 0, 1) := by decide +kernel
theorem dX9_readBody_13 : decode cX9_readBody 13 = .ok (.getfield 58, 3) := by decide +kernel
theorem dX9_readBody_16 : decode cX9_readBody 16 = .ok (.invokevirtual 230, 3) := by decide +kernel
theorem dX9_readBody_19 : decode cX9_readBody 19 = .ok (.istore_n 1, 1) := by decide +kernel
theorem dX9_readBody_20 : decode cX9_readBody 20 = .ok (.iload_n 1, 1) := by decide +kernel
theorem dX9_readBody_21 : decode cX9_readBody 21 = .ok (.ifCond .ne 51, 3) := by decide +kernel
theorem dX9_readBody_24 : decode cX9_readBody 24 = .ok (.aload_n 0, 1) := by decide +kernel
theorem dX9_readBody_25 : decode cX9_readBody 25 = .ok (.getfield 202, 3) := by decide +kernel
theorem dX9_readBody_28 : decode cX9_readBody 28 = .ok (.iconst 2, 1) := by decide +kernel
theorem dX9_readBody_29 : decode cX9_readBody 29 = .ok (.iadd, 1) := by decide +kernel
theorem dX9_readBody_30 : decode cX9_readBody 30 = .ok (.aload_n 0, 1) := by decide +kernel
theorem dX9_readBody_31 : decode cX9_readBody 31 = .ok (.getfield 194, 3) := by decide +kernel
theorem dX9_readBody_34 : decode cX9_readBody 34 = .ok (.if_icmp .ge 38, 3) := by decide +kernel
theorem dX9_readBody_37 : decode cX9_readBody 37 = .ok (.aload_n 0, 1) := by decide +kernel
theorem dX9_readBody_38 : decode cX9_readBody 38 = .ok (.getfield 166, 3) := by decide +kernel
theorem dX9_readBody_41 : decode cX9_readBody 41 = .ok (.aload_n 0, 1) := by decide +kernel
theorem dX9_readBody_42 : decode cX9_readBody 42 = .ok (.getfield 202, 3) := by decide +kernel
theorem dX9_readBody_45 : decode cX9_readBody 45 = .ok (.iconst 1, 1) := by decide +kernel
theorem dX9_readBody_46 : decode cX9_readBody 46 = .ok (.iadd, 1) := by decide +kernel
theorem dX9_readBody_47 : decode cX9_readBody 47 = .ok (.baload, 1) := by decide +kernel
theorem dX9_readBody_48 : decode cX9_readBody 48 = .ok (.bipush 97, 2) := by decide +kernel
theorem dX9_readBody_50 : decode cX9_readBody 50 = .ok (.if_icmp .ne 22, 3) := by decide +kernel
theorem dX9_readBody_53 : decode cX9_readBody 53 = .ok (.aload_n 0, 1) := by decide +kernel
theorem dX9_readBody_54 : decode cX9_readBody 54 = .ok (.getfield 166, 3) := by decide +kernel
theorem dX9_readBody_57 : decode cX9_readBody 57 = .ok (.aload_n 0, 1) := by decide +kernel
theorem dX9_readBody_58 : decode cX9_readBody 58 = .ok (.getfield 202, 3) := by decide +kernel
theorem dX9_readBody_61 : decode cX9_readBody 61 = .ok (.iconst 2, 1) := by decide +kernel
theorem dX9_readBody_62 : decode cX9_readBody 62 = .ok (.iadd, 1) := by decide +kernel
theorem dX9_readBody_63 : decode cX9_readBody 63 = .ok (.baload, 1) := by decide +kernel
theorem dX9_readBody_64 : decode cX9_readBody 64 = .ok (.bipush 106, 2) := by decide +kernel
theorem dX9_readBody_66 : decode cX9_readBody 66 = .ok (.if_icmp .ne 6, 3) := by decide +kernel
theorem dX9_readBody_69 : decode cX9_readBody 69 = .ok (.bipush (-2), 2) := by decide +kernel
theorem dX9_readBody_71 : decode cX9_readBody 71 = .ok (.istore_n 1, 1) := by decide +kernel
theorem dX9_readBody_72 : decode cX9_readBody 72 = .ok (.aload_n 0, 1) := by decide +kernel
theorem dX9_readBody_73 : decode cX9_readBody 73 = .ok (.dup, 1) := by decide +kernel
theorem dX9_readBody_74 : decode cX9_readBody 74 = .ok (.getfield 202, 3) := by decide +kernel
theorem dX9_readBody_77 : decode cX9_readBody 77 = .ok (.iload_n 1, 1) := by decide +kernel
theorem dX9_readBody_78 : decode cX9_readBody 78 = .ok (.bipush (-2), 2) := by decide +kernel
theorem dX9_readBody_80 : decode cX9_readBody 80 = .ok (.if_icmp .ne 7, 3) := by decide +kernel
theorem dX9_readBody_83 : decode cX9_readBody 83 = .ok (.iconst 0, 1) := by decide +kernel
theorem dX9_readBody_84 : decode cX9_readBody 84 = .ok (.goto 12, 3) := by decide +kernel
theorem dX9_readBody_87 : decode cX9_readBody 87 = .ok (.aload_n 0, 1) := by decide +kernel
theorem dX9_readBody_88 : decode cX9_readBody 88 = .ok (.getfield 58, 3) := by decide +kernel
theorem dX9_readBody_91 : decode cX9_readBody 91 = .ok (.iload_n 1, 1) := by decide +kernel
theorem dX9_readBody_92 : decode cX9_readBody 92 = .ok (.laload, 1) := by decide +kernel
theorem dX9_readBody_93 : decode cX9_readBody 93 = .ok (.invokestatic 190, 3) := by decide +kernel
theorem dX9_readBody_96 : decode cX9_readBody 96 = .ok (.iadd, 1) := by decide +kernel
theorem dX9_readBody_97 : decode cX9_readBody 97 = .ok (.putfield 202, 3) := by decide +kernel
theorem dX9_readBody_100 : decode cX9_readBody 100 = .ok (.iload_n 1, 1) := by decide +kernel
theorem dX9_readBody_101 : decode cX9_readBody 101 = .ok (.iconst 0, 1) := by decide +kernel
theorem dX9_readBody_102 : decode cX9_readBody 102 = .ok (.iconst 3, 1) := by decide +kernel
theorem dX9_readBody_103 : decode cX9_readBody 103 = .ok (.invokestatic 215, 3) := by decide +kernel
theorem dX9_readBody_106 : decode cX9_readBody 106 = .ok (.istore_n 2, 1) := by decide +kernel
theorem dX9_readBody_107 : decode cX9_readBody 107 = .ok (.iload_n 1, 1) := by decide +kernel
theorem dX9_readBody_108 : decode cX9_readBody 108 = .ok (.bipush 6, 2) := by decide +kernel
theorem dX9_readBody_110 : decode cX9_readBody 110 = .ok (.if_icmp .eq 17, 3) := by decide +kernel
theorem dX9_readBody_113 : decode cX9_readBody 113 = .ok (.aload_n 0, 1) := by decide +kernel
theorem dX9_readBody_114 : decode cX9_readBody 114 = .ok (.iconst 3, 1) := by decide +kernel
theorem dX9_readBody_115 : decode cX9_readBody 115 = .ok (.iload_n 2, 1) := by decide +kernel
theorem dX9_readBody_116 : decode cX9_readBody 116 = .ok (.ifCond .eq 7, 3) := by decide +kernel
theorem dX9_readBody_119 : decode cX9_readBody 119 = .ok (.iconst 3, 1) := by decide +kernel
theorem dX9_readBody_120 : decode cX9_readBody 120 = .ok (.goto 4, 3) := by decide +kernel
theorem dX9_readBody_123 : decode cX9_readBody 123 = .ok (.iconst 4, 1) := by decide +kernel
theorem dX9_readBody_124 : decode cX9_readBody 124 = .ok (.invokevirtual 226, 3) := by decide +kernel
theorem dX9_readBody_127 : decode cX9_readBody 127 = .ok (.iload_n 1, 1) := by decide +kernel
theorem dX9_readBody_128 : decode cX9_readBody 128 = .ok (.iconst 2, 1) := by decide +kernel
theorem dX9_readBody_129 : decode cX9_readBody 129 = .ok (.if_icmp .eq 8, 3) := by decide +kernel
theorem dX9_readBody_132 : decode cX9_readBody 132 = .ok (.iload_n 1, 1) := by decide +kernel
theorem dX9_readBody_133 : decode cX9_readBody 133 = .ok (.iconst 3, 1) := by decide +kernel
theorem dX9_readBody_134 : decode cX9_readBody 134 = .ok (.if_icmp .ne 7, 3) := by decide +kernel
theorem dX9_readBody_137 : decode cX9_readBody 137 = .ok (.iconst 1, 1) := by decide +kernel
theorem dX9_readBody_138 : decode cX9_readBody 138 = .ok (.goto 4, 3) := by decide +kernel
theorem dX9_readBody_141 : decode cX9_readBody 141 = .ok (.iconst 0, 1) := by decide +kernel
theorem dX9_readBody_142 : decode cX9_readBody 142 = .ok (.istore_n 3, 1) := by decide +kernel
theorem dX9_readBody_143 : decode cX9_readBody 143 = .ok (.aload_n 0, 1) := by decide +kernel
theorem dX9_readBody_144 : decode cX9_readBody 144 = .ok (.iconst 5, 1) := by decide +kernel
theorem dX9_readBody_145 : decode cX9_readBody 145 = .ok (.iload_n 3, 1) := by decide +kernel
theorem dX9_readBody_146 : decode cX9_readBody 146 = .ok (.ifCond .eq 8, 3) := by decide +kernel
theorem dX9_readBody_149 : decode cX9_readBody 149 = .ok (.bipush 6, 2) := by decide +kernel
theorem dX9_readBody_151 : decode cX9_readBody 151 = .ok (.goto 20, 3) := by decide +kernel
theorem dX9_readBody_154 : decode cX9_readBody 154 = .ok (.iload_n 1, 1) := by decide +kernel
theorem dX9_readBody_155 : decode cX9_readBody 155 = .ok (.iconst 4, 1) := by decide +kernel
theorem dX9_readBody_156 : decode cX9_readBody 156 = .ok (.if_icmp .eq 8, 3) := by decide +kernel
theorem dX9_readBody_159 : decode cX9_readBody 159 = .ok (.iload_n 1, 1) := by decide +kernel
theorem dX9_readBody_160 : decode cX9_readBody 160 = .ok (.iconst 5, 1) := by decide +kernel
theorem dX9_readBody_161 : decode cX9_readBody 161 = .ok (.if_icmp .ne 8, 3) := by decide +kernel
theorem dX9_readBody_164 : decode cX9_readBody 164 = .ok (.bipush 8, 2) := by decide +kernel
theorem dX9_readBody_166 : decode cX9_readBody 166 = .ok (.goto 5, 3) := by decide +kernel
theorem dX9_readBody_169 : decode cX9_readBody 169 = .ok (.bipush 7, 2) := by decide +kernel
theorem dX9_readBody_171 : decode cX9_readBody 171 = .ok (.invokevirtual 226, 3) := by decide +kernel
theorem dX9_readBody_174 : decode cX9_readBody 174 = .ok (.iload_n 1, 1) := by decide +kernel
theorem dX9_readBody_175 : decode cX9_readBody 175 = .ok (.bipush 6, 2) := by decide +kernel
theorem dX9_readBody_177 : decode cX9_readBody 177 = .ok (.if_icmp .ne 8, 3) := by decide +kernel
theorem dX9_readBody_180 : decode cX9_readBody 180 = .ok (.bipush (-2), 2) := by decide +kernel
theorem dX9_readBody_182 : decode cX9_readBody 182 = .ok (.goto 11, 3) := by decide +kernel
theorem dX9_readBody_185 : decode cX9_readBody 185 = .ok (.aload_n 0, 1) := by decide +kernel
theorem dX9_readBody_186 : decode cX9_readBody 186 = .ok (.aload_n 0, 1) := by decide +kernel
theorem dX9_readBody_187 : decode cX9_readBody 187 = .ok (.getfield 90, 3) := by decide +kernel
theorem dX9_readBody_190 : decode cX9_readBody 190 = .ok (.invokevirtual 230, 3) := by decide +kernel
theorem dX9_readBody_193 : decode cX9_readBody 193 = .ok (.istore 4, 2) := by decide +kernel
theorem dX9_readBody_195 : decode cX9_readBody 195 = .ok (.iload 4, 2) := by decide +kernel
theorem dX9_readBody_197 : decode cX9_readBody 197 = .ok (.bipush (-2), 2) := by decide +kernel
theorem dX9_readBody_199 : decode cX9_readBody 199 = .ok (.if_icmp .eq 132, 3) := by decide +kernel
theorem dX9_readBody_202 : decode cX9_readBody 202 = .ok (.aload_n 0, 1) := by decide +kernel
theorem dX9_readBody_203 : decode cX9_readBody 203 = .ok (.dup, 1) := by decide +kernel
theorem dX9_readBody_204 : decode cX9_readBody 204 = .ok (.getfield 202, 3) := by decide +kernel
theorem dX9_readBody_207 : decode cX9_readBody 207 = .ok (.aload_n 0, 1) := by decide +kernel
theorem dX9_readBody_208 : decode cX9_readBody 208 = .ok (.getfield 90, 3) := by decide +kernel
theorem dX9_readBody_211 : decode cX9_readBody 211 = .ok (.iload 4, 2) := by decide +kernel
theorem dX9_readBody_213 : decode cX9_readBody 213 = .ok (.laload, 1) := by decide +kernel
theorem dX9_readBody_214 : decode cX9_readBody 214 = .ok (.invokestatic 190, 3) := by decide +kernel
theorem dX9_readBody_217 : decode cX9_readBody 217 = .ok (.iadd, 1) := by decide +kernel
theorem dX9_readBody_218 : decode cX9_readBody 218 = .ok (.putfield 202, 3) := by decide +kernel
theorem dX9_readBody_221 : decode cX9_readBody 221 = .ok (.iload 4, 2) := by decide +kernel
theorem dX9_readBody_223 : decode cX9_readBody 223 = .ok (.iconst 2, 1) := by decide +kernel
theorem dX9_readBody_224 : decode cX9_readBody 224 = .ok (.if_icmp .ge 27, 3) := by decide +kernel
theorem dX9_readBody_227 : decode cX9_readBody 227 = .ok (.aload_n 0, 1) := by decide +kernel
theorem dX9_readBody_228 : decode cX9_readBody 228 = .ok (.bipush 6, 2) := by decide +kernel
theorem dX9_readBody_230 : decode cX9_readBody 230 = .ok (.bipush 9, 2) := by decide +kernel
theorem dX9_readBody_232 : decode cX9_readBody 232 = .ok (.invokevirtual 226, 3) := by decide +kernel
theorem dX9_readBody_235 : decode cX9_readBody 235 = .ok (.iload 4, 2) := by decide +kernel
theorem dX9_readBody_237 : decode cX9_readBody 237 = .ok (.ifCond .ne 94, 3) := by decide +kernel
theorem dX9_readBody_240 : decode cX9_readBody 240 = .ok (.aload_n 0, 1) := by decide +kernel
theorem dX9_readBody_241 : decode cX9_readBody 241 = .ok (.bipush 9, 2) := by decide +kernel
theorem dX9_readBody_243 : decode cX9_readBody 243 = .ok (.bipush 14, 2) := by decide +kernel
theorem dX9_readBody_245 : decode cX9_readBody 245 = .ok (.invokevirtual 226, 3) := by decide +kernel
theorem dX9_readBody_248 : decode cX9_readBody 248 = .ok (.goto 83, 3) := by decide +kernel
theorem dX9_readBody_251 : decode cX9_readBody 251 = .ok (.iload 4, 2) := by decide +kernel
theorem dX9_readBody_253 : decode cX9_readBody 253 = .ok (.iconst 2, 1) := by decide +kernel
theorem dX9_readBody_254 : decode cX9_readBody 254 = .ok (.isub, 1) := by decide +kernel
theorem dX9_readBody_255 : decode cX9_readBody 255 = .ok (.iconst 3, 1) := by decide +kernel
theorem dX9_readBody_256 : decode cX9_readBody 256 = .ok (.idiv, 1) := by decide +kernel
theorem dX9_readBody_257 : decode cX9_readBody 257 = .ok (.istore 5, 2) := by decide +kernel
theorem dX9_readBody_259 : decode cX9_readBody 259 = .ok (.aload_n 0, 1) := by decide +kernel
theorem dX9_readBody_260 : decode cX9_readBody 260 = .ok (.bipush 7, 2) := by decide +kernel
theorem dX9_readBody_262 : decode cX9_readBody 262 = .ok (.iload 4, 2) := by decide +kernel
theorem dX9_readBody_264 : decode cX9_readBody 264 = .ok (.iconst 2, 1) := by decide +kernel
theorem dX9_readBody_265 : decode cX9_readBody 265 = .ok (.isub, 1) := by decide +kernel
theorem dX9_readBody_266 : decode cX9_readBody 266 = .ok (.iconst 3, 1) := by decide +kernel
theorem dX9_readBody_267 : decode cX9_readBody 267 = .ok (.irem, 1) := by decide +kernel
theorem dX9_readBody_268 : decode cX9_readBody 268 = .ok (.ifCond .le 8, 3) := by decide +kernel
theorem dX9_readBody_271 : decode cX9_readBody 271 = .ok (.bipush 11, 2) := by decide +kernel
theorem dX9_readBody_273 : decode cX9_readBody 273 = .ok (.goto 14, 3) := by decide +kernel
theorem dX9_readBody_276 : decode cX9_readBody 276 = .ok (.iload_n 3, 1) := by decide +kernel
theorem dX9_readBody_277 : decode cX9_readBody 277 = .ok (.ifCond .eq 8, 3) := by decide +kernel
theorem dX9_readBody_280 : decode cX9_readBody 280 = .ok (.bipush 9, 2) := by decide +kernel
theorem dX9_readBody_282 : decode cX9_readBody 282 = .ok (.goto 5, 3) := by decide +kernel
theorem dX9_readBody_285 : decode cX9_readBody 285 = .ok (.bipush 10, 2) := by decide +kernel
theorem dX9_readBody_287 : decode cX9_readBody 287 = .ok (.invokevirtual 226, 3) := by decide +kernel
theorem dX9_readBody_290 : decode cX9_readBody 290 = .ok (.iload 5, 2) := by decide +kernel
theorem dX9_readBody_292 : decode cX9_readBody 292 = .ok (.ifCond .le 11, 3) := by decide +kernel
theorem dX9_readBody_295 : decode cX9_readBody 295 = .ok (.aload_n 0, 1) := by decide +kernel
theorem dX9_readBody_296 : decode cX9_readBody 296 = .ok (.bipush 9, 2) := by decide +kernel
theorem dX9_readBody_298 : decode cX9_readBody 298 = .ok (.bipush 14, 2) := by decide +kernel
theorem dX9_readBody_300 : decode cX9_readBody 300 = .ok (.invokevirtual 226, 3) := by decide +kernel
theorem dX9_readBody_303 : decode cX9_readBody 303 = .ok (.iload 5, 2) := by decide +kernel
theorem dX9_readBody_305 : decode cX9_readBody 305 = .ok (.iconst 1, 1) := by decide +kernel
theorem dX9_readBody_306 : decode cX9_readBody 306 = .ok (.if_icmp .le 11, 3) := by decide +kernel
theorem dX9_readBody_309 : decode cX9_readBody 309 = .ok (.aload_n 0, 1) := by decide +kernel
theorem dX9_readBody_310 : decode cX9_readBody 310 = .ok (.bipush 11, 2) := by decide +kernel
theorem dX9_readBody_312 : decode cX9_readBody 312 = .ok (.bipush 17, 2) := by decide +kernel
theorem dX9_readBody_314 : decode cX9_readBody 314 = .ok (.invokevirtual 226, 3) := by decide +kernel
theorem dX9_readBody_317 : decode cX9_readBody 317 = .ok (.iload 5, 2) := by decide +kernel
theorem dX9_readBody_319 : decode cX9_readBody 319 = .ok (.iconst 2, 1) := by decide +kernel
theorem dX9_readBody_320 : decode cX9_readBody 320 = .ok (.if_icmp .le 11, 3) := by decide +kernel
theorem dX9_readBody_323 : decode cX9_readBody 323 = .ok (.aload_n 0, 1) := by decide +kernel
theorem dX9_readBody_324 : decode cX9_readBody 324 = .ok (.bipush 13, 2) := by decide +kernel
theorem dX9_readBody_326 : decode cX9_readBody 326 = .ok (.bipush 21, 2) := by decide +kernel
theorem dX9_readBody_328 : decode cX9_readBody 328 = .ok (.invokevirtual 226, 3) := by decide +kernel
theorem dX9_readBody_331 : decode cX9_readBody 331 = .ok (.aload_n 0, 1) := by decide +kernel
theorem dX9_readBody_332 : decode cX9_readBody 332 = .ok (.aload_n 0, 1) := by decide +kernel
theorem dX9_readBody_333 : decode cX9_readBody 333 = .ok (.getfield 119, 3) := by decide +kernel
theorem dX9_readBody_336 : decode cX9_readBody 336 = .ok (.invokevirtual 230, 3) := by decide +kernel
theorem dX9_readBody_339 : decode cX9_readBody 339 = .ok (.istore 5, 2) := by decide +kernel
theorem dX9_readBody_341 : decode cX9_readBody 341 = .ok (.iload 5, 2) := by decide +kernel
theorem dX9_readBody_343 : decode cX9_readBody 343 = .ok (.bipush (-2), 2) := by decide +kernel
theorem dX9_readBody_345 : decode cX9_readBody 345 = .ok (.if_icmp .eq 49, 3) := by decide +kernel
theorem dX9_readBody_348 : decode cX9_readBody 348 = .ok (.aload_n 0, 1) := by decide +kernel
theorem dX9_readBody_349 : decode cX9_readBody 349 = .ok (.iload 5, 2) := by decide +kernel
theorem dX9_readBody_351 : decode cX9_readBody 351 = .ok (.invokevirtual 234, 3) := by decide +kernel
theorem dX9_readBody_354 : decode cX9_readBody 354 = .ok (.ifCond .ne 8, 3) := by decide +kernel
theorem dX9_readBody_357 : decode cX9_readBody 357 = .ok (.aload_n 0, 1) := by decide +kernel
theorem dX9_readBody_358 : decode cX9_readBody 358 = .ok (.getfield 202, 3) := by decide +kernel
theorem dX9_readBody_361 : decode cX9_readBody 361 = .ok (.ireturn, 1) := by decide +kernel
theorem dX9_readBody_362 : decode cX9_readBody 362 = .ok (.aload_n 0, 1) := by decide +kernel
theorem dX9_readBody_363 : decode cX9_readBody 363 = .ok (.dup, 1) := by decide +kernel
theorem dX9_readBody_364 : decode cX9_readBody 364 = .ok (.getfield 202, 3) := by decide +kernel
theorem dX9_readBody_367 : decode cX9_readBody 367 = .ok (.aload_n 0, 1) := by decide +kernel
theorem dX9_readBody_368 : decode cX9_readBody 368 = .ok (.getfield 119, 3) := by decide +kernel
theorem dX9_readBody_371 : decode cX9_readBody 371 = .ok (.iload 5, 2) := by decide +kernel
theorem dX9_readBody_373 : decode cX9_readBody 373 = .ok (.laload, 1) := by decide +kernel
theorem dX9_readBody_374 : decode cX9_readBody 374 = .ok (.invokestatic 190, 3) := by decide +kernel
theorem dX9_readBody_377 : decode cX9_readBody 377 = .ok (.iadd, 1) := by decide +kernel
theorem dX9_readBody_378 : decode cX9_readBody 378 = .ok (.putfield 202, 3) := by decide +kernel
theorem dX9_readBody_381 : decode cX9_readBody 381 = .ok (.aload_n 0, 1) := by decide +kernel
theorem dX9_readBody_382 : decode cX9_readBody 382 = .ok (.aload_n 0, 1) := by decide +kernel
theorem dX9_readBody_383 : decode cX9_readBody 383 = .ok (.getfield 119, 3) := by decide +kernel
theorem dX9_readBody_386 : decode cX9_readBody 386 = .ok (.invokevirtual 230, 3) := by decide +kernel
theorem dX9_readBody_389 : decode cX9_readBody 389 = .ok (.istore 5, 2) := by decide +kernel
theorem dX9_readBody_391 : decode cX9_readBody 391 = .ok (.goto (-50), 3) := by decide +kernel
theorem dX9_readBody_394 : decode cX9_readBody 394 = .ok (.bipush (-2), 2) := by decide +kernel
theorem dX9_readBody_396 : decode cX9_readBody 396 = .ok (.ireturn, 1) := by decide +kernel
set_option maxRecDepth 20000 in
theorem ggX9_changes_X9_becomes : GoodIn wsX9_changes wsX9_becomes := goodIn_r _ [5, 6, 7, 8, 9, 10, 4, 11, 12, 13, 14, 15, 16, 29, 30, 31, 32, 33, 34, 35, 36, 37, 38, 39, 40, 41, 42, 43, 44, 45, 46, 47, 48, 49, 50, 51, 52, 53, 54, 55, 56, 57, 58, 59, 60, 61, 62, 63, 64] (by decide +kernel) (by decide +kernel)
set_option maxRecDepth 20000 in
theorem gX9_changes_X9_becomes : GoodIn wsX9_changes (wsV RX9 237 RX9 yX9_becomes wsX9_becomes) := goodIn_app (goodIn_of _ (by decide +kernel)) ggX9_changes_X9_becomes
set_option maxRecDepth 20000 in
theorem ggX9_changes_X9_brings : GoodIn wsX9_changes wsX9_brings := goodIn_r _ [20, 13, 14, 15, 4, 16, 12, 6, 7, 21, 22, 23, 24, 25, 26, 27, 28, 29, 30, 31, 32, 33, 34, 35, 36, 37, 38, 39, 40, 41, 42, 43, 44, 45, 46, 47, 48, 49, 50, 51, 52, 53, 54, 55, 56, 57, 58, 59, 60, 61, 62, 63, 64] (by decide +kernel) (by decide +kernel)
set_option maxRecDepth 20000 in
theorem gX9_changes_X9_brings : GoodIn wsX9_changes (wsV RX9 240 RX9 yX9_brings wsX9_brings) := goodIn_app (goodIn_of _ (by decide +kernel)) ggX9_changes_X9_brings
set_option maxRecDepth 20000 in
theorem ggX9_changes_X9_placeOfDegree : GoodIn wsX9_changes wsX9_placeOfDegree := goodIn_r _ [11, 12, 6, 29, 30, 31, 32, 33, 34, 35, 36, 37, 38, 39, 40, 41, 42, 43, 44, 45, 46, 47, 48, 49, 50, 51, 52, 53, 54, 55, 56, 57, 58, 59, 60, 61, 62, 63, 64] (by decide +kernel) (by decide +kernel)
set_option maxRecDepth 20000 in
theorem gX9_changes_X9_placeOfDegree : GoodIn wsX9_changes (wsV RX9 243 RX9 yX9_placeOfDegree wsX9_placeOfDegree) := goodIn_app (goodIn_of _ (by decide +kernel)) ggX9_changes_X9_placeOfDegree
set_option maxRecDepth 20000 in
theorem ggX9_changes_X9_goes : GoodIn wsX9_changes wsX9_goes := goodIn_r _ [24, 12, 6, 7, 29, 30, 31, 32, 33, 34, 35, 36, 37, 38, 39, 40, 41, 42, 43, 44, 45, 46, 47, 48, 49, 50, 51, 52, 53, 54, 55, 56, 57, 58, 59, 60, 61, 62, 63, 64] (by decide +kernel) (by decide +kernel)
set_option maxRecDepth 20000 in
theorem gX9_changes_X9_goes : GoodIn wsX9_changes (wsV RX9 247 RX9 yX9_goes wsX9_goes) := goodIn_app (goodIn_of _ (by decide +kernel)) ggX9_changes_X9_goes
theorem dX9_changes_0 : decode cX9_changes 0 = .ok (.iload_n 1, 1) := by decide +kernel
theorem dX9_changes_1 : decode cX9_changes 1 = .ok (.iconst 3, 1) := by decide +kernel
theorem dX9_changes_2 : decode cX9_changes 2 = .ok (.if_icmp .ge 27, 3) := by decide +kernel
theorem dX9_changes_5 : decode cX9_changes 5 = .ok (.aload_n 0, 1) := by decide +kernel
theorem dX9_changes_6 : decode cX9_changes 6 = .ok (.iconst 3, 1) := by decide +kernel
theorem dX9_changes_7 : decode cX9_changes 7 = .ok (.iload_n 1, 1) := by decide +kernel
theorem dX9_changes_8 : decode cX9_changes 8 = .ok (.ifCond .ne 7, 3) := by decide +kernel
theorem dX9_changes_11 : decode cX9_changes 11 = .ok (.iconst 2, 1) := by decide +kernel
theorem dX9_changes_12 : decode cX9_changes 12 = .ok (.goto 4, 3) := by decide +kernel
theorem dX9_changes_15 : decode cX9_changes 15 = .ok (.iconst 4, 1) := by decide +kernel
theorem dX9_changes_16 : decode cX9_changes 16 = .ok (.iload_n 1, 1) := by decide +kernel
theorem dX9_changes_17 : decode cX9_changes 17 = .ok (.ifCond .ne 7, 3) := by decide +kernel
theorem dX9_changes_20 : decode cX9_changes 20 = .ok (.iconst 2, 1) := by decide +kernel
theorem dX9_changes_21 : decode cX9_changes 21 = .ok (.goto 4, 3) := by decide +kernel
theorem dX9_changes_24 : decode cX9_changes 24 = .ok (.iconst 5, 1) := by decide +kernel
theorem dX9_changes_25 : decode cX9_changes 25 = .ok (.invokevirtual 237, 3) := by decide +kernel
theorem dX9_changes_28 : decode cX9_changes 28 = .ok (.ireturn, 1) := by decide +kernel
theorem dX9_changes_29 : decode cX9_changes 29 = .ok (.iload_n 1, 1) := by decide +kernel
theorem dX9_changes_30 : decode cX9_changes 30 = .ok (.iconst 5, 1) := by decide +kernel
theorem dX9_changes_31 : decode cX9_changes 31 = .ok (.if_icmp .ge 22, 3) := by decide +kernel
theorem dX9_changes_34 : decode cX9_changes 34 = .ok (.aload_n 0, 1) := by decide +kernel
theorem dX9_changes_35 : decode cX9_changes 35 = .ok (.iconst 5, 1) := by decide +kernel
theorem dX9_changes_36 : decode cX9_changes 36 = .ok (.iconst 5, 1) := by decide +kernel
theorem dX9_changes_37 : decode cX9_changes 37 = .ok (.iload_n 1, 1) := by decide +kernel
theorem dX9_changes_38 : decode cX9_changes 38 = .ok (.iconst 3, 1) := by decide +kernel
theorem dX9_changes_39 : decode cX9_changes 39 = .ok (.if_icmp .ne 8, 3) := by decide +kernel
theorem dX9_changes_42 : decode cX9_changes 42 = .ok (.bipush 6, 2) := by decide +kernel
theorem dX9_changes_44 : decode cX9_changes 44 = .ok (.goto 5, 3) := by decide +kernel
theorem dX9_changes_47 : decode cX9_changes 47 = .ok (.bipush 8, 2) := by decide +kernel
theorem dX9_changes_49 : decode cX9_changes 49 = .ok (.invokevirtual 237, 3) := by decide +kernel
theorem dX9_changes_52 : decode cX9_changes 52 = .ok (.ireturn, 1) := by decide +kernel
theorem dX9_changes_53 : decode cX9_changes 53 = .ok (.iload_n 1, 1) := by decide +kernel
theorem dX9_changes_54 : decode cX9_changes 54 = .ok (.bipush 7, 2) := by decide +kernel
theorem dX9_changes_56 : decode cX9_changes 56 = .ok (.if_icmp .ge 24, 3) := by decide +kernel
theorem dX9_changes_59 : decode cX9_changes 59 = .ok (.aload_n 0, 1) := by decide +kernel
theorem dX9_changes_60 : decode cX9_changes 60 = .ok (.bipush 9, 2) := by decide +kernel
theorem dX9_changes_62 : decode cX9_changes 62 = .ok (.iload_n 1, 1) := by decide +kernel
theorem dX9_changes_63 : decode cX9_changes 63 = .ok (.iconst 5, 1) := by decide +kernel
theorem dX9_changes_64 : decode cX9_changes 64 = .ok (.if_icmp .ne 8, 3) := by decide +kernel
theorem dX9_changes_67 : decode cX9_changes 67 = .ok (.bipush 13, 2) := by decide +kernel
theorem dX9_changes_69 : decode cX9_changes 69 = .ok (.goto 5, 3) := by decide +kernel
theorem dX9_changes_72 : decode cX9_changes 72 = .ok (.bipush 15, 2) := by decide +kernel
theorem dX9_changes_74 : decode cX9_changes 74 = .ok (.bipush 14, 2) := by decide +kernel
theorem dX9_changes_76 : decode cX9_changes 76 = .ok (.invokevirtual 240, 3) := by decide +kernel
theorem dX9_changes_79 : decode cX9_changes 79 = .ok (.ireturn, 1) := by decide +kernel
theorem dX9_changes_80 : decode cX9_changes 80 = .ok (.iload_n 1, 1) := by decide +kernel
theorem dX9_changes_81 : decode cX9_changes 81 = .ok (.bipush 9, 2) := by decide +kernel
theorem dX9_changes_83 : decode cX9_changes 83 = .ok (.if_icmp .ge 33, 3) := by decide +kernel
theorem dX9_changes_86 : decode cX9_changes 86 = .ok (.iload_n 1, 1) := by decide +kernel
theorem dX9_changes_87 : decode cX9_changes 87 = .ok (.bipush 7, 2) := by decide +kernel
theorem dX9_changes_89 : decode cX9_changes 89 = .ok (.if_icmp .ne 16, 3) := by decide +kernel
theorem dX9_changes_92 : decode cX9_changes 92 = .ok (.aload_n 0, 1) := by decide +kernel
theorem dX9_changes_93 : decode cX9_changes 93 = .ok (.bipush 11, 2) := by decide +kernel
theorem dX9_changes_95 : decode cX9_changes 95 = .ok (.bipush 18, 2) := by decide +kernel
theorem dX9_changes_97 : decode cX9_changes 97 = .ok (.bipush 17, 2) := by decide +kernel
theorem dX9_changes_99 : decode cX9_changes 99 = .ok (.invokevirtual 240, 3) := by decide +kernel
theorem dX9_changes_102 : decode cX9_changes 102 = .ok (.goto 13, 3) := by decide +kernel
theorem dX9_changes_105 : decode cX9_changes 105 = .ok (.aload_n 0, 1) := by decide +kernel
theorem dX9_changes_106 : decode cX9_changes 106 = .ok (.bipush 13, 2) := by decide +kernel
theorem dX9_changes_108 : decode cX9_changes 108 = .ok (.bipush 20, 2) := by decide +kernel
theorem dX9_changes_110 : decode cX9_changes 110 = .ok (.bipush 21, 2) := by decide +kernel
theorem dX9_changes_112 : decode cX9_changes 112 = .ok (.invokevirtual 240, 3) := by decide +kernel
theorem dX9_changes_115 : decode cX9_changes 115 = .ok (.ireturn, 1) := by decide +kernel
theorem dX9_changes_116 : decode cX9_changes 116 = .ok (.iload_n 1, 1) := by decide +kernel
theorem dX9_changes_117 : decode cX9_changes 117 = .ok (.bipush 11, 2) := by decide +kernel
theorem dX9_changes_119 : decode cX9_changes 119 = .ok (.if_icmp .ge 33, 3) := by decide +kernel
theorem dX9_changes_122 : decode cX9_changes 122 = .ok (.iload_n 1, 1) := by decide +kernel
theorem dX9_changes_123 : decode cX9_changes 123 = .ok (.bipush 9, 2) := by decide +kernel
theorem dX9_changes_125 : decode cX9_changes 125 = .ok (.if_icmp .ne 16, 3) := by decide +kernel
theorem dX9_changes_128 : decode cX9_changes 128 = .ok (.aload_n 0, 1) := by decide +kernel
theorem dX9_changes_129 : decode cX9_changes 129 = .ok (.bipush 9, 2) := by decide +kernel
theorem dX9_changes_131 : decode cX9_changes 131 = .ok (.bipush 14, 2) := by decide +kernel
theorem dX9_changes_133 : decode cX9_changes 133 = .ok (.bipush (-2), 2) := by decide +kernel
theorem dX9_changes_135 : decode cX9_changes 135 = .ok (.invokevirtual 240, 3) := by decide +kernel
theorem dX9_changes_138 : decode cX9_changes 138 = .ok (.goto 13, 3) := by decide +kernel
theorem dX9_changes_141 : decode cX9_changes 141 = .ok (.aload_n 0, 1) := by decide +kernel
theorem dX9_changes_142 : decode cX9_changes 142 = .ok (.bipush 11, 2) := by decide +kernel
theorem dX9_changes_144 : decode cX9_changes 144 = .ok (.bipush 17, 2) := by decide +kernel
theorem dX9_changes_146 : decode cX9_changes 146 = .ok (.bipush (-2), 2) := by decide +kernel
theorem dX9_changes_148 : decode cX9_changes 148 = .ok (.invokevirtual 240, 3) := by decide +kernel
theorem dX9_changes_151 : decode cX9_changes 151 = .ok (.ireturn, 1) := by decide +kernel
theorem dX9_changes_152 : decode cX9_changes 152 = .ok (.aload_n 0, 1) := by decide +kernel
theorem dX9_changes_153 : decode cX9_changes 153 = .ok (.iload_n 1, 1) := by decide +kernel
theorem dX9_changes_154 : decode cX9_changes 154 = .ok (.bipush 11, 2) := by decide +kernel
theorem dX9_changes_156 : decode cX9_changes 156 = .ok (.if_icmp .ne 7, 3) := by decide +kernel
theorem dX9_changes_159 : decode cX9_changes 159 = .ok (.iconst 3, 1) := by decide +kernel
theorem dX9_changes_160 : decode cX9_changes 160 = .ok (.goto 4, 3) := by decide +kernel
theorem dX9_changes_163 : decode cX9_changes 163 = .ok (.iconst 5, 1) := by decide +kernel
theorem dX9_changes_164 : decode cX9_changes 164 = .ok (.invokevirtual 243, 3) := by decide +kernel
theorem dX9_changes_167 : decode cX9_changes 167 = .ok (.istore_n 2, 1) := by decide +kernel
theorem dX9_changes_168 : decode cX9_changes 168 = .ok (.iload_n 2, 1) := by decide +kernel
theorem dX9_changes_169 : decode cX9_changes 169 = .ok (.bipush (-2), 2) := by decide +kernel
theorem dX9_changes_171 : decode cX9_changes 171 = .ok (.if_icmp .eq 8, 3) := by decide +kernel
theorem dX9_changes_174 : decode cX9_changes 174 = .ok (.aload_n 0, 1) := by decide +kernel
theorem dX9_changes_175 : decode cX9_changes 175 = .ok (.iload_n 2, 1) := by decide +kernel
theorem dX9_changes_176 : decode cX9_changes 176 = .ok (.invokevirtual 247, 3) := by decide +kernel
theorem dX9_changes_179 : decode cX9_changes 179 = .ok (.iload_n 2, 1) := by decide +kernel
theorem dX9_changes_180 : decode cX9_changes 180 = .ok (.bipush (-2), 2) := by decide +kernel
theorem dX9_changes_182 : decode cX9_changes 182 = .ok (.if_icmp .eq 7, 3) := by decide +kernel
theorem dX9_changes_185 : decode cX9_changes 185 = .ok (.iconst 1, 1) := by decide +kernel
theorem dX9_changes_186 : decode cX9_changes 186 = .ok (.goto 4, 3) := by decide +kernel
theorem dX9_changes_189 : decode cX9_changes 189 = .ok (.iconst 0, 1) := by decide +kernel
theorem dX9_changes_190 : decode cX9_changes 190 = .ok (.ireturn, 1) := by decide +kernel
set_option maxRecDepth 20000 in
theorem ggX9_becomes_X9_placeOfDegree : GoodIn wsX9_becomes wsX9_placeOfDegree := goodIn_r _ [7, 8, 1, 13, 14, 15, 16, 17, 18, 19, 20, 21, 22, 23, 24, 25, 26, 27, 28, 29, 30, 31, 32, 33, 34, 35, 36, 37, 38, 39, 40, 41, 42, 43, 44, 45, 46, 47, 48] (by decide +kernel) (by decide +kernel)
set_option maxRecDepth 20000 in
theorem gX9_becomes_X9_placeOfDegree : GoodIn wsX9_becomes (wsV RX9 243 RX9 yX9_placeOfDegree wsX9_placeOfDegree) := goodIn_app (goodIn_of _ (by decide +kernel)) ggX9_becomes_X9_placeOfDegree
set_option maxRecDepth 20000 in
theorem ggX9_becomes_X9_placeOf : GoodIn wsX9_becomes wsX9_placeOf := goodIn_r _ [12, 8, 1, 2, 13, 14, 15, 16, 17, 18, 19, 20, 21, 22, 23, 24, 25, 26, 27, 28, 29, 30, 31, 32, 33, 34, 35, 36, 37, 38, 39, 40, 41, 42, 43, 44, 45, 46, 47, 48] (by decide +kernel) (by decide +kernel)
set_option maxRecDepth 20000 in
theorem gX9_becomes_X9_placeOf : GoodIn wsX9_becomes (wsV RX9 251 RX9 yX9_placeOf wsX9_placeOf) := goodIn_app (goodIn_of _ (by decide +kernel)) ggX9_becomes_X9_placeOf
theorem dX9_becomes_0 : decode cX9_becomes 0 = .ok (.aload_n 0, 1) := by decide +kernel
theorem dX9_becomes_1 : decode cX9_becomes 1 = .ok (.iload_n 1, 1) := by decide +kernel
theorem dX9_becomes_2 : decode cX9_becomes 2 = .ok (.invokevirtual 243, 3) := by decide +kernel
theorem dX9_becomes_5 : decode cX9_becomes 5 = .ok (.istore 4, 2) := by decide +kernel
theorem dX9_becomes_7 : decode cX9_becomes 7 = .ok (.iload 4, 2) := by decide +kernel
theorem dX9_becomes_9 : decode cX9_becomes 9 = .ok (.bipush (-2), 2) := by decide +kernel
theorem dX9_becomes_11 : decode cX9_becomes 11 = .ok (.if_icmp .eq 14, 3) := by decide +kernel
theorem dX9_becomes_14 : decode cX9_becomes 14 = .ok (.aload_n 0, 1) := by decide +kernel
theorem dX9_becomes_15 : decode cX9_becomes 15 = .ok (.iload_n 2, 1) := by decide +kernel
theorem dX9_becomes_16 : decode cX9_becomes 16 = .ok (.iload_n 3, 1) := by decide +kernel
theorem dX9_becomes_17 : decode cX9_becomes 17 = .ok (.invokevirtual 251, 3) := by decide +kernel
theorem dX9_becomes_20 : decode cX9_becomes 20 = .ok (.bipush (-2), 2) := by decide +kernel
theorem dX9_becomes_22 : decode cX9_becomes 22 = .ok (.if_icmp .eq 5, 3) := by decide +kernel
theorem dX9_becomes_25 : decode cX9_becomes 25 = .ok (.iconst 0, 1) := by decide +kernel
theorem dX9_becomes_26 : decode cX9_becomes 26 = .ok (.ireturn, 1) := by decide +kernel
theorem dX9_becomes_27 : decode cX9_becomes 27 = .ok (.aload_n 0, 1) := by decide +kernel
theorem dX9_becomes_28 : decode cX9_becomes 28 = .ok (.getfield 172, 3) := by decide +kernel
theorem dX9_becomes_31 : decode cX9_becomes 31 = .ok (.iload 4, 2) := by decide +kernel
theorem dX9_becomes_33 : decode cX9_becomes 33 = .ok (.iload_n 2, 1) := by decide +kernel
theorem dX9_becomes_34 : decode cX9_becomes 34 = .ok (.iastore, 1) := by decide +kernel
theorem dX9_becomes_35 : decode cX9_becomes 35 = .ok (.aload_n 0, 1) := by decide +kernel
theorem dX9_becomes_36 : decode cX9_becomes 36 = .ok (.getfield 169, 3) := by decide +kernel
theorem dX9_becomes_39 : decode cX9_becomes 39 = .ok (.iload 4, 2) := by decide +kernel
theorem dX9_becomes_41 : decode cX9_becomes 41 = .ok (.iload_n 3, 1) := by decide +kernel
theorem dX9_becomes_42 : decode cX9_becomes 42 = .ok (.iastore, 1) := by decide +kernel
theorem dX9_becomes_43 : decode cX9_becomes 43 = .ok (.iconst 1, 1) := by decide +kernel
theorem dX9_becomes_44 : decode cX9_becomes 44 = .ok (.ireturn, 1) := by decide +kernel
set_option maxRecDepth 20000 in
theorem ggX9_brings_X9_placeOf : GoodIn wsX9_brings wsX9_placeOf := goodIn_r _ [5, 6, 7, 8, 17, 18, 19, 20, 21, 22, 23, 24, 25, 26, 27, 28, 29, 30, 31, 32, 33, 34, 35, 36, 37, 38, 39, 40, 41, 42, 43, 44, 45, 46, 47, 48, 49, 50, 51, 52] (by decide +kernel) (by decide +kernel)
set_option maxRecDepth 20000 in
theorem gX9_brings_X9_placeOf : GoodIn wsX9_brings (wsV RX9 251 RX9 yX9_placeOf wsX9_placeOf) := goodIn_app (goodIn_of _ (by decide +kernel)) ggX9_brings_X9_placeOf
set_option maxRecDepth 20000 in
theorem ggX9_brings_X9_goes : GoodIn wsX9_brings wsX9_goes := goodIn_r _ [12, 6, 7, 8, 17, 18, 19, 20, 21, 22, 23, 24, 25, 26, 27, 28, 29, 30, 31, 32, 33, 34, 35, 36, 37, 38, 39, 40, 41, 42, 43, 44, 45, 46, 47, 48, 49, 50, 51, 52] (by decide +kernel) (by decide +kernel)
set_option maxRecDepth 20000 in
theorem gX9_brings_X9_goes : GoodIn wsX9_brings (wsV RX9 247 RX9 yX9_goes wsX9_goes) := goodIn_app (goodIn_of _ (by decide +kernel)) ggX9_brings_X9_goes
set_option maxRecDepth 20000 in
theorem ggX9_brings_X9_comes : GoodIn wsX9_brings wsX9_comes := goodIn_r _ [16, 7, 6, 8, 17, 18, 19, 20, 21, 22, 23, 24, 25, 26, 27, 28, 29, 30, 31, 32, 33, 34, 35, 36, 37, 38, 39, 40, 41, 42, 43, 44, 45, 46, 47, 48, 49, 50, 51, 52] (by decide +kernel) (by decide +kernel)
set_option maxRecDepth 20000 in
theorem gX9_brings_X9_comes : GoodIn wsX9_brings (wsV RX9 226 RX9 yX9_comes wsX9_comes) := goodIn_app (goodIn_of _ (by decide +kernel)) ggX9_brings_X9_comes
theorem dX9_brings_0 : decode cX9_brings 0 = .ok (.aload_n 0, 1) := by decide +kernel
theorem dX9_brings_1 : decode cX9_brings 1 = .ok (.iload_n 1, 1) := by decide +kernel
theorem dX9_brings_2 : decode cX9_brings 2 = .ok (.iload_n 2, 1) := by decide +kernel
theorem dX9_brings_3 : decode cX9_brings 3 = .ok (.invokevirtual 251, 3) := by decide +kernel
theorem dX9_brings_6 : decode cX9_brings 6 = .ok (.bipush (-2), 2) := by decide +kernel
theorem dX9_brings_8 : decode cX9_brings 8 = .ok (.if_icmp .eq 5, 3) := by decide +kernel
theorem dX9_brings_11 : decode cX9_brings 11 = .ok (.iconst 0, 1) := by decide +kernel
theorem dX9_brings_12 : decode cX9_brings 12 = .ok (.ireturn, 1) := by decide +kernel
theorem dX9_brings_13 : decode cX9_brings 13 = .ok (.aload_n 0, 1) := by decide +kernel
theorem dX9_brings_14 : decode cX9_brings 14 = .ok (.iload_n 1, 1) := by decide +kernel
theorem dX9_brings_15 : decode cX9_brings 15 = .ok (.iload_n 3, 1) := by decide +kernel
theorem dX9_brings_16 : decode cX9_brings 16 = .ok (.invokevirtual 251, 3) := by decide +kernel
theorem dX9_brings_19 : decode cX9_brings 19 = .ok (.istore 4, 2) := by decide +kernel
theorem dX9_brings_21 : decode cX9_brings 21 = .ok (.iload 4, 2) := by decide +kernel
theorem dX9_brings_23 : decode cX9_brings 23 = .ok (.bipush (-2), 2) := by decide +kernel
theorem dX9_brings_25 : decode cX9_brings 25 = .ok (.if_icmp .eq 9, 3) := by decide +kernel
theorem dX9_brings_28 : decode cX9_brings 28 = .ok (.aload_n 0, 1) := by decide +kernel
theorem dX9_brings_29 : decode cX9_brings 29 = .ok (.iload 4, 2) := by decide +kernel
theorem dX9_brings_31 : decode cX9_brings 31 = .ok (.invokevirtual 247, 3) := by decide +kernel
theorem dX9_brings_34 : decode cX9_brings 34 = .ok (.aload_n 0, 1) := by decide +kernel
theorem dX9_brings_35 : decode cX9_brings 35 = .ok (.iload_n 1, 1) := by decide +kernel
theorem dX9_brings_36 : decode cX9_brings 36 = .ok (.iload_n 2, 1) := by decide +kernel
theorem dX9_brings_37 : decode cX9_brings 37 = .ok (.invokevirtual 226, 3) := by decide +kernel
theorem dX9_brings_40 : decode cX9_brings 40 = .ok (.iconst 1, 1) := by decide +kernel
theorem dX9_brings_41 : decode cX9_brings 41 = .ok (.ireturn, 1) := by decide +kernel
theorem dX9_sort_0 : decode cX9_sort 0 = .ok (.iconst 1, 1) := by decide +kernel
theorem dX9_sort_1 : decode cX9_sort 1 = .ok (.istore_n 1, 1) := by decide +kernel
theorem dX9_sort_2 : decode cX9_sort 2 = .ok (.iload_n 1, 1) := by decide +kernel
theorem dX9_sort_3 : decode cX9_sort 3 = .ok (.aload_n 0, 1) := by decide +kernel
theorem dX9_sort_4 : decode cX9_sort 4 = .ok (.getfield 212, 3) := by decide +kernel
theorem dX9_sort_7 : decode cX9_sort 7 = .ok (.if_icmp .ge 124, 3) := by decide +kernel
theorem dX9_sort_10 : decode cX9_sort 10 = .ok (.aload_n 0, 1) := by decide +kernel
theorem dX9_sort_11 : decode cX9_sort 11 = .ok (.getfield 169, 3) := by decide +kernel
theorem dX9_sort_14 : decode cX9_sort 14 = .ok (.iload_n 1, 1) := by decide +kernel
theorem dX9_sort_15 : decode cX9_sort 15 = .ok (.iaload, 1) := by decide +kernel
theorem dX9_sort_16 : decode cX9_sort 16 = .ok (.istore_n 2, 1) := by decide +kernel
theorem dX9_sort_17 : decode cX9_sort 17 = .ok (.aload_n 0, 1) := by decide +kernel
theorem dX9_sort_18 : decode cX9_sort 18 = .ok (.getfield 172, 3) := by decide +kernel
theorem dX9_sort_21 : decode cX9_sort 21 = .ok (.iload_n 1, 1) := by decide +kernel
theorem dX9_sort_22 : decode cX9_sort 22 = .ok (.iaload, 1) := by decide +kernel
theorem dX9_sort_23 : decode cX9_sort 23 = .ok (.istore_n 3, 1) := by decide +kernel
theorem dX9_sort_24 : decode cX9_sort 24 = .ok (.iload_n 1, 1) := by decide +kernel
theorem dX9_sort_25 : decode cX9_sort 25 = .ok (.istore 4, 2) := by decide +kernel
theorem dX9_sort_27 : decode cX9_sort 27 = .ok (.iload 4, 2) := by decide +kernel
theorem dX9_sort_29 : decode cX9_sort 29 = .ok (.ifCond .le 80, 3) := by decide +kernel
theorem dX9_sort_32 : decode cX9_sort 32 = .ok (.aload_n 0, 1) := by decide +kernel
theorem dX9_sort_33 : decode cX9_sort 33 = .ok (.getfield 169, 3) := by decide +kernel
theorem dX9_sort_36 : decode cX9_sort 36 = .ok (.iload 4, 2) := by decide +kernel
theorem dX9_sort_38 : decode cX9_sort 38 = .ok (.iconst 1, 1) := by decide +kernel
theorem dX9_sort_39 : decode cX9_sort 39 = .ok (.isub, 1) := by decide +kernel
theorem dX9_sort_40 : decode cX9_sort 40 = .ok (.iaload, 1) := by decide +kernel
theorem dX9_sort_41 : decode cX9_sort 41 = .ok (.iload_n 2, 1) := by decide +kernel
theorem dX9_sort_42 : decode cX9_sort 42 = .ok (.if_icmp .gt 29, 3) := by decide +kernel
theorem dX9_sort_45 : decode cX9_sort 45 = .ok (.aload_n 0, 1) := by decide +kernel
theorem dX9_sort_46 : decode cX9_sort 46 = .ok (.getfield 169, 3) := by decide +kernel
theorem dX9_sort_49 : decode cX9_sort 49 = .ok (.iload 4, 2) := by decide +kernel
theorem dX9_sort_51 : decode cX9_sort 51 = .ok (.iconst 1, 1) := by decide +kernel
theorem dX9_sort_52 : decode cX9_sort 52 = .ok (.isub, 1) := by decide +kernel
theorem dX9_sort_53 : decode cX9_sort 53 = .ok (.iaload, 1) := by decide +kernel
theorem dX9_sort_54 : decode cX9_sort 54 = .ok (.iload_n 2, 1) := by decide +kernel
theorem dX9_sort_55 : decode cX9_sort 55 = .ok (.if_icmp .ne 54, 3) := by decide +kernel
theorem dX9_sort_58 : decode cX9_sort 58 = .ok (.aload_n 0, 1) := by decide +kernel
theorem dX9_sort_59 : decode cX9_sort 59 = .ok (.getfield 172, 3) := by decide +kernel
theorem dX9_sort_62 : decode cX9_sort 62 = .ok (.iload 4, 2) := by decide +kernel
theorem dX9_sort_64 : decode cX9_sort 64 = .ok (.iconst 1, 1) := by decide +kernel
theorem dX9_sort_65 : decode cX9_sort 65 = .ok (.isub, 1) := by decide +kernel
theorem dX9_sort_66 : decode cX9_sort 66 = .ok (.iaload, 1) := by decide +kernel
theorem dX9_sort_67 : decode cX9_sort 67 = .ok (.iload_n 3, 1) := by decide +kernel
theorem dX9_sort_68 : decode cX9_sort 68 = .ok (.if_icmp .le 41, 3) := by decide +kernel
theorem dX9_sort_71 : decode cX9_sort 71 = .ok (.aload_n 0, 1) := by decide +kernel
theorem dX9_sort_72 : decode cX9_sort 72 = .ok (.getfield 169, 3) := by decide +kernel
theorem dX9_sort_75 : decode cX9_sort 75 = .ok (.iload 4, 2) := by decide +kernel
theorem dX9_sort_77 : decode cX9_sort 77 = .ok (.aload_n 0, 1) := by decide +kernel
theorem dX9_sort_78 : decode cX9_sort 78 = .ok (.getfield 169, 3) := by decide +kernel
theorem dX9_sort_81 : decode cX9_sort 81 = .ok (.iload 4, 2) := by decide +kernel
theorem dX9_sort_83 : decode cX9_sort 83 = .ok (.iconst 1, 1) := by decide +kernel
theorem dX9_sort_84 : decode cX9_sort 84 = .ok (.isub, 1) := by decide +kernel
theorem dX9_sort_85 : decode cX9_sort 85 = .ok (.iaload, 1) := by decide +kernel
theorem dX9_sort_86 : decode cX9_sort 86 = .ok (.iastore, 1) := by decide +kernel
theorem dX9_sort_87 : decode cX9_sort 87 = .ok (.aload_n 0, 1) := by decide +kernel
theorem dX9_sort_88 : decode cX9_sort 88 = .ok (.getfield 172, 3) := by decide +kernel
theorem dX9_sort_91 : decode cX9_sort 91 = .ok (.iload 4, 2) := by decide +kernel
theorem dX9_sort_93 : decode cX9_sort 93 = .ok (.aload_n 0, 1) := by decide +kernel
theorem dX9_sort_94 : decode cX9_sort 94 = .ok (.getfield 172, 3) := by decide +kernel
theorem dX9_sort_97 : decode cX9_sort 97 = .ok (.iload 4, 2) := by decide +kernel
