theorem dX4_signs_9 : decode cX4_signs 9 = .ok (.invokestatic 42, 3) := by decide +kernel
theorem dX4_signs_12 : decode cX4_signs 12 = .ok (.ireturn, 1) := by decide +kernel
set_option maxRecDepth 20000 in
theorem ggX4_letterAbove_X4_degree : GoodIn wsX4_letterAbove wsX4_degree := goodIn_r _ [4, 5, 6, 7, 8] (by decide +kernel) (by decide +kernel)
set_option maxRecDepth 20000 in
theorem gX4_letterAbove_X4_degree : GoodIn wsX4_letterAbove (va_wsS RX4 46 yX4_degree wsX4_degree) := goodIn_app (goodIn_of _ (by decide +kernel)) ggX4_letterAbove_X4_degree
theorem dX4_letterAbove_0 : decode cX4_letterAbove 0 = .ok (.iload_n 0, 1) := by decide +kernel
theorem dX4_letterAbove_1 : decode cX4_letterAbove 1 = .ok (.iload_n 1, 1) := by decide +kernel
theorem dX4_letterAbove_2 : decode cX4_letterAbove 2 = .ok (.invokestatic 46, 3) := by decide +kernel
theorem dX4_letterAbove_5 : decode cX4_letterAbove 5 = .ok (.iadd, 1) := by decide +kernel
theorem dX4_letterAbove_6 : decode cX4_letterAbove 6 = .ok (.iconst 1, 1) := by decide +kernel
theorem dX4_letterAbove_7 : decode cX4_letterAbove 7 = .ok (.isub, 1) := by decide +kernel
theorem dX4_letterAbove_8 : decode cX4_letterAbove 8 = .ok (.bipush 7, 2) := by decide +kernel
theorem dX4_letterAbove_10 : decode cX4_letterAbove 10 = .ok (.irem, 1) := by decide +kernel
theorem dX4_letterAbove_11 : decode cX4_letterAbove 11 = .ok (.ireturn, 1) := by decide +kernel
set_option maxRecDepth 20000 in
theorem ggX4_signsAbove_X4_letterAbove : GoodIn wsX4_signsAbove wsX4_letterAbove := goodIn_r _ [4, 5, 6, 3, 7, 8, 9, 10, 11] (by decide +kernel) (by decide +kernel)
set_option maxRecDepth 20000 in
theorem gX4_signsAbove_X4_letterAbove : GoodIn wsX4_signsAbove (va_wsS RX4 32 yX4_letterAbove wsX4_letterAbove) := goodIn_app (goodIn_of _ (by decide +kernel)) ggX4_signsAbove_X4_letterAbove
set_option maxRecDepth 20000 in
theorem ggX4_signsAbove_X3_letterPitch : GoodIn wsX4_signsAbove wsX3_letterPitch := goodIn_r _ [15, 16, 9, 10, 11] (by decide +kernel) (by decide +kernel)
set_option maxRecDepth 20000 in
theorem gX4_signsAbove_X3_letterPitch : GoodIn wsX4_signsAbove (va_wsS RX4 49 yX3_letterPitch wsX3_letterPitch) := goodIn_app (goodIn_of _ (by decide +kernel)) ggX4_signsAbove_X3_letterPitch
set_option maxRecDepth 20000 in
theorem ggX4_signsAbove_X4_halfTones : GoodIn wsX4_signsAbove wsX4_halfTones := goodIn_r _ [19, 20, 9, 10, 11] (by decide +kernel) (by decide +kernel)
set_option maxRecDepth 20000 in
theorem gX4_signsAbove_X4_halfTones : GoodIn wsX4_signsAbove (va_wsS RX4 39 yX4_halfTones wsX4_halfTones) := goodIn_app (goodIn_of _ (by decide +kernel)) ggX4_signsAbove_X4_halfTones
set_option maxRecDepth 20000 in
theorem ggX4_signsAbove_J9_floorMod_7cf53 : GoodIn wsX4_signsAbove wsJ9_floorMod_7cf53 := goodIn_r _ [24] (by decide +kernel) (by decide +kernel)
set_option maxRecDepth 20000 in
theorem gX4_signsAbove_J9_floorMod_7cf53 : GoodIn wsX4_signsAbove (va_wsS RX4 52 yJ9_floorMod_7cf53 wsJ9_floorMod_7cf53) := goodIn_app (goodIn_of _ (by decide +kernel)) ggX4_signsAbove_J9_floorMod_7cf53
theorem dX4_signsAbove_0 : decode cX4_signsAbove 0 = .ok (.iload_n 0, 1) := by decide +kernel
theorem dX4_signsAbove_1 : decode cX4_signsAbove 1 = .ok (.iload_n 2, 1) := by decide +kernel
theorem dX4_signsAbove_2 : decode cX4_signsAbove 2 = .ok (.invokestatic 32, 3) := by decide +kernel
theorem dX4_signsAbove_5 : decode cX4_signsAbove 5 = .ok (.invokestatic 49, 3) := by decide +kernel
theorem dX4_signsAbove_8 : decode cX4_signsAbove 8 = .ok (.istore_n 3, 1) := by decide +kernel
theorem dX4_signsAbove_9 : decode cX4_signsAbove 9 = .ok (.iload_n 1, 1) := by decide +kernel
theorem dX4_signsAbove_10 : decode cX4_signsAbove 10 = .ok (.iload_n 2, 1) := by decide +kernel
theorem dX4_signsAbove_11 : decode cX4_signsAbove 11 = .ok (.invokestatic 39, 3) := by decide +kernel
theorem dX4_signsAbove_14 : decode cX4_signsAbove 14 = .ok (.iadd, 1) := by decide +kernel
theorem dX4_signsAbove_15 : decode cX4_signsAbove 15 = .ok (.iload_n 3, 1) := by decide +kernel
theorem dX4_signsAbove_16 : decode cX4_signsAbove 16 = .ok (.isub, 1) := by decide +kernel
theorem dX4_signsAbove_17 : decode cX4_signsAbove 17 = .ok (.bipush 6, 2) := by decide +kernel
theorem dX4_signsAbove_19 : decode cX4_signsAbove 19 = .ok (.iadd, 1) := by decide +kernel
theorem dX4_signsAbove_20 : decode cX4_signsAbove 20 = .ok (.bipush 12, 2) := by decide +kernel
theorem dX4_signsAbove_22 : decode cX4_signsAbove 22 = .ok (.invokestatic 52, 3) := by decide +kernel
theorem dX4_signsAbove_25 : decode cX4_signsAbove 25 = .ok (.bipush 6, 2) := by decide +kernel
theorem dX4_signsAbove_27 : decode cX4_signsAbove 27 = .ok (.isub, 1) := by decide +kernel
theorem dX4_signsAbove_28 : decode cX4_signsAbove 28 = .ok (.ireturn, 1) := by decide +kernel
set_option maxRecDepth 20000 in
theorem ggX4_set_X4_isIn : GoodIn wsX4_set wsX4_isIn := goodIn_r _ [4] (by decide +kernel) (by decide +kernel)
set_option maxRecDepth 20000 in
theorem gX4_set_X4_isIn : GoodIn wsX4_set (va_wsS RX4 11 yX4_isIn wsX4_isIn) := goodIn_app (goodIn_of _ (by decide +kernel)) ggX4_set_X4_isIn
set_option maxRecDepth 20000 in
theorem ggX4_set_X4_halfTones : GoodIn wsX4_set wsX4_halfTones := goodIn_r _ [7, 8, 9, 10, 11] (by decide +kernel) (by decide +kernel)
set_option maxRecDepth 20000 in
theorem gX4_set_X4_halfTones : GoodIn wsX4_set (va_wsS RX4 39 yX4_halfTones wsX4_halfTones) := goodIn_app (goodIn_of _ (by decide +kernel)) ggX4_set_X4_halfTones
theorem dX4_set_0 : decode cX4_set 0 = .ok (.iconst 0, 1) := by decide +kernel
theorem dX4_set_1 : decode cX4_set 1 = .ok (.istore_n 2, 1) := by decide +kernel
theorem dX4_set_2 : decode cX4_set 2 = .ok (.iconst 0, 1) := by decide +kernel
theorem dX4_set_3 : decode cX4_set 3 = .ok (.istore_n 3, 1) := by decide +kernel
theorem dX4_set_4 : decode cX4_set 4 = .ok (.iload_n 3, 1) := by decide +kernel
theorem dX4_set_5 : decode cX4_set 5 = .ok (.bipush 19, 2) := by decide +kernel
theorem dX4_set_7 : decode cX4_set 7 = .ok (.if_icmp .ge 31, 3) := by decide +kernel
theorem dX4_set_10 : decode cX4_set 10 = .ok (.iload_n 1, 1) := by decide +kernel
theorem dX4_set_11 : decode cX4_set 11 = .ok (.iload_n 3, 1) := by decide +kernel
theorem dX4_set_12 : decode cX4_set 12 = .ok (.invokestatic 11, 3) := by decide +kernel
theorem dX4_set_15 : decode cX4_set 15 = .ok (.ifCond .eq 17, 3) := by decide +kernel
theorem dX4_set_18 : decode cX4_set 18 = .ok (.iload_n 2, 1) := by decide +kernel
theorem dX4_set_19 : decode cX4_set 19 = .ok (.iconst 1, 1) := by decide +kernel
theorem dX4_set_20 : decode cX4_set 20 = .ok (.iload_n 0, 1) := by decide +kernel
theorem dX4_set_21 : decode cX4_set 21 = .ok (.iload_n 3, 1) := by decide +kernel
theorem dX4_set_22 : decode cX4_set 22 = .ok (.invokestatic 39, 3) := by decide +kernel
theorem dX4_set_25 : decode cX4_set 25 = .ok (.iadd, 1) := by decide +kernel
theorem dX4_set_26 : decode cX4_set 26 = .ok (.bipush 12, 2) := by decide +kernel
theorem dX4_set_28 : decode cX4_set 28 = .ok (.irem, 1) := by decide +kernel
theorem dX4_set_29 : decode cX4_set 29 = .ok (.ishl, 1) := by decide +kernel
theorem dX4_set_30 : decode cX4_set 30 = .ok (.ior, 1) := by decide +kernel
theorem dX4_set_31 : decode cX4_set 31 = .ok (.istore_n 2, 1) := by decide +kernel
theorem dX4_set_32 : decode cX4_set 32 = .ok (.iinc 3 1, 3) := by decide +kernel
theorem dX4_set_35 : decode cX4_set 35 = .ok (.goto (-31), 3) := by decide +kernel
theorem dX4_set_38 : decode cX4_set 38 = .ok (.iload_n 2, 1) := by decide +kernel
theorem dX4_set_39 : decode cX4_set 39 = .ok (.ireturn, 1) := by decide +kernel
set_option maxRecDepth 20000 in
theorem ggX4_weight_X3_letter : GoodIn wsX4_weight wsX3_letter := goodIn_r _ [8] (by decide +kernel) (by decide +kernel)
set_option maxRecDepth 20000 in
theorem gX4_weight_X3_letter : GoodIn wsX4_weight (va_wsS RX4 26 yX3_letter wsX3_letter) := goodIn_app (goodIn_of _ (by decide +kernel)) ggX4_weight_X3_letter
set_option maxRecDepth 20000 in
theorem ggX4_weight_X3_pitch : GoodIn wsX4_weight wsX3_pitch := goodIn_r _ [11, 12, 6, 7, 8, 13, 14, 15, 16, 17, 18, 19, 20, 21, 22, 23, 24, 25, 26] (by decide +kernel) (by decide +kernel)
set_option maxRecDepth 20000 in
theorem gX4_weight_X3_pitch : GoodIn wsX4_weight (va_wsS RX4 36 yX3_pitch wsX3_pitch) := goodIn_app (goodIn_of _ (by decide +kernel)) ggX4_weight_X3_pitch
set_option maxRecDepth 20000 in
theorem ggX4_weight_X3_signs : GoodIn wsX4_weight wsX3_signs := goodIn_r _ [22] (by decide +kernel) (by decide +kernel)
set_option maxRecDepth 20000 in
theorem gX4_weight_X3_signs : GoodIn wsX4_weight (va_wsS RX4 57 yX3_signs wsX3_signs) := goodIn_app (goodIn_of _ (by decide +kernel)) ggX4_weight_X3_signs
set_option maxRecDepth 20000 in
theorem ggX4_weight_X4_isIn : GoodIn wsX4_weight wsX4_isIn := goodIn_r _ [31] (by decide +kernel) (by decide +kernel)
set_option maxRecDepth 20000 in
theorem gX4_weight_X4_isIn : GoodIn wsX4_weight (va_wsS RX4 11 yX4_isIn wsX4_isIn) := goodIn_app (goodIn_of _ (by decide +kernel)) ggX4_weight_X4_isIn
set_option maxRecDepth 20000 in
theorem ggX4_weight_X4_signsAbove : GoodIn wsX4_weight wsX4_signsAbove := goodIn_r _ [34, 35, 36, 30, 37, 38, 39, 40, 41, 17, 18, 19, 42, 14, 7, 15, 16, 43, 44, 45, 46, 47, 24, 25, 26] (by decide +kernel) (by decide +kernel)
set_option maxRecDepth 20000 in
theorem gX4_weight_X4_signsAbove : GoodIn wsX4_weight (va_wsS RX4 42 yX4_signsAbove wsX4_signsAbove) := goodIn_app (goodIn_of _ (by decide +kernel)) ggX4_weight_X4_signsAbove
theorem dX4_weight_0 : decode cX4_weight 0 = .ok (.iload_n 0, 1) := by decide +kernel
theorem dX4_weight_1 : decode cX4_weight 1 = .ok (.invokestatic 26, 3) := by decide +kernel
theorem dX4_weight_4 : decode cX4_weight 4 = .ok (.istore_n 3, 1) := by decide +kernel
theorem dX4_weight_5 : decode cX4_weight 5 = .ok (.iload_n 0, 1) := by decide +kernel
theorem dX4_weight_6 : decode cX4_weight 6 = .ok (.invokestatic 36, 3) := by decide +kernel
theorem dX4_weight_9 : decode cX4_weight 9 = .ok (.istore 4, 2) := by decide +kernel
theorem dX4_weight_11 : decode cX4_weight 11 = .ok (.iload_n 2, 1) := by decide +kernel
theorem dX4_weight_12 : decode cX4_weight 12 = .ok (.invokestatic 57, 3) := by decide +kernel
theorem dX4_weight_15 : decode cX4_weight 15 = .ok (.invokestatic 60, 3) := by decide +kernel
theorem dX4_weight_18 : decode cX4_weight 18 = .ok (.istore 5, 2) := by decide +kernel
theorem dX4_weight_20 : decode cX4_weight 20 = .ok (.iconst 0, 1) := by decide +kernel
theorem dX4_weight_21 : decode cX4_weight 21 = .ok (.istore 6, 2) := by decide +kernel
theorem dX4_weight_23 : decode cX4_weight 23 = .ok (.iload 6, 2) := by decide +kernel
theorem dX4_weight_25 : decode cX4_weight 25 = .ok (.bipush 19, 2) := by decide +kernel
theorem dX4_weight_27 : decode cX4_weight 27 = .ok (.if_icmp .ge 34, 3) := by decide +kernel
theorem dX4_weight_30 : decode cX4_weight 30 = .ok (.iload_n 1, 1) := by decide +kernel
theorem dX4_weight_31 : decode cX4_weight 31 = .ok (.iload 6, 2) := by decide +kernel
theorem dX4_weight_33 : decode cX4_weight 33 = .ok (.invokestatic 11, 3) := by decide +kernel
theorem dX4_weight_36 : decode cX4_weight 36 = .ok (.ifCond .eq 19, 3) := by decide +kernel
theorem dX4_weight_39 : decode cX4_weight 39 = .ok (.iload 5, 2) := by decide +kernel
theorem dX4_weight_41 : decode cX4_weight 41 = .ok (.iload_n 3, 1) := by decide +kernel
theorem dX4_weight_42 : decode cX4_weight 42 = .ok (.iload 4, 2) := by decide +kernel
theorem dX4_weight_44 : decode cX4_weight 44 = .ok (.iload 6, 2) := by decide +kernel
theorem dX4_weight_46 : decode cX4_weight 46 = .ok (.invokestatic 42, 3) := by decide +kernel
theorem dX4_weight_49 : decode cX4_weight 49 = .ok (.invokestatic 60, 3) := by decide +kernel
theorem dX4_weight_52 : decode cX4_weight 52 = .ok (.iadd, 1) := by decide +kernel
theorem dX4_weight_53 : decode cX4_weight 53 = .ok (.istore 5, 2) := by decide +kernel
theorem dX4_weight_55 : decode cX4_weight 55 = .ok (.iinc 6 1, 3) := by decide +kernel
theorem dX4_weight_58 : decode cX4_weight 58 = .ok (.goto (-35), 3) := by decide +kernel
theorem dX4_weight_61 : decode cX4_weight 61 = .ok (.iload 5, 2) := by decide +kernel
theorem dX4_weight_63 : decode cX4_weight 63 = .ok (.ireturn, 1) := by decide +kernel
theorem dX5_init_0 : decode cX5_init 0 = .ok (.aload_n 0, 1) := by decide +kernel
theorem dX5_init_1 : decode cX5_init 1 = .ok (.invokespecial 7, 3) := by decide +kernel
theorem dX5_init_4 : decode cX5_init 4 = .ok (.aload_n 0, 1) := by decide +kernel
theorem dX5_init_5 : decode cX5_init 5 = .ok (.bipush 40, 2) := by decide +kernel
theorem dX5_init_7 : decode cX5_init 7 = .ok (.newarray .int, 2) := by decide +kernel
theorem dX5_init_9 : decode cX5_init 9 = .ok (.putfield 13, 3) := by decide +kernel
theorem dX5_init_12 : decode cX5_init 12 = .ok (.return_, 1) := by decide +kernel
theorem dX5_add_0 : decode cX5_add 0 = .ok (.iload_n 1, 1) := by decide +kernel
theorem dX5_add_1 : decode cX5_add 1 = .ok (.iconst 1, 1) := by decide +kernel
theorem dX5_add_2 : decode cX5_add 2 = .ok (.if_icmp .lt 9, 3) := by decide +kernel
theorem dX5_add_5 : decode cX5_add 5 = .ok (.iload_n 1, 1) := by decide +kernel
theorem dX5_add_6 : decode cX5_add 6 = .ok (.bipush 8, 2) := by decide +kernel
theorem dX5_add_8 : decode cX5_add 8 = .ok (.if_icmp .le 5, 3) := by decide +kernel
theorem dX5_add_11 : decode cX5_add 11 = .ok (.iconst (-1), 1) := by decide +kernel
theorem dX5_add_12 : decode cX5_add 12 = .ok (.ireturn, 1) := by decide +kernel
theorem dX5_add_13 : decode cX5_add 13 = .ok (.aload_n 0, 1) := by decide +kernel
theorem dX5_add_14 : decode cX5_add 14 = .ok (.getfield 17, 3) := by decide +kernel
theorem dX5_add_17 : decode cX5_add 17 = .ok (.iload_n 1, 1) := by decide +kernel
theorem dX5_add_18 : decode cX5_add 18 = .ok (.iadd, 1) := by decide +kernel
theorem dX5_add_19 : decode cX5_add 19 = .ok (.aload_n 0, 1) := by decide +kernel
theorem dX5_add_20 : decode cX5_add 20 = .ok (.getfield 13, 3) := by decide +kernel
theorem dX5_add_23 : decode cX5_add 23 = .ok (.arraylength, 1) := by decide +kernel
theorem dX5_add_24 : decode cX5_add 24 = .ok (.if_icmp .le 6, 3) := by decide +kernel
theorem dX5_add_27 : decode cX5_add 27 = .ok (.bipush (-3), 2) := by decide +kernel
theorem dX5_add_29 : decode cX5_add 29 = .ok (.ireturn, 1) := by decide +kernel
theorem dX5_add_30 : decode cX5_add 30 = .ok (.iconst 0, 1) := by decide +kernel
theorem dX5_add_31 : decode cX5_add 31 = .ok (.istore 4, 2) := by decide +kernel
theorem dX5_add_33 : decode cX5_add 33 = .ok (.iload 4, 2) := by decide +kernel
theorem dX5_add_35 : decode cX5_add 35 = .ok (.iload_n 1, 1) := by decide +kernel
theorem dX5_add_36 : decode cX5_add 36 = .ok (.if_icmp .ge 33, 3) := by decide +kernel
theorem dX5_add_39 : decode cX5_add 39 = .ok (.aload_n 0, 1) := by decide +kernel
theorem dX5_add_40 : decode cX5_add 40 = .ok (.getfield 13, 3) := by decide +kernel
theorem dX5_add_43 : decode cX5_add 43 = .ok (.aload_n 0, 1) := by decide +kernel
theorem dX5_add_44 : decode cX5_add 44 = .ok (.getfield 17, 3) := by decide +kernel
theorem dX5_add_47 : decode cX5_add 47 = .ok (.iload 4, 2) := by decide +kernel
theorem dX5_add_49 : decode cX5_add 49 = .ok (.iadd, 1) := by decide +kernel
theorem dX5_add_50 : decode cX5_add 50 = .ok (.lload_n 2, 1) := by decide +kernel
theorem dX5_add_51 : decode cX5_add 51 = .ok (.bipush 8, 2) := by decide +kernel
theorem dX5_add_53 : decode cX5_add 53 = .ok (.iload 4, 2) := by decide +kernel
theorem dX5_add_55 : decode cX5_add 55 = .ok (.imul, 1) := by decide +kernel
theorem dX5_add_56 : decode cX5_add 56 = .ok (.lushr, 1) := by decide +kernel
theorem dX5_add_57 : decode cX5_add 57 = .ok (.l2i, 1) := by decide +kernel
theorem dX5_add_58 : decode cX5_add 58 = .ok (.sipush 255, 3) := by decide +kernel
theorem dX5_add_61 : decode cX5_add 61 = .ok (.iand, 1) := by decide +kernel
theorem dX5_add_62 : decode cX5_add 62 = .ok (.iastore, 1) := by decide +kernel
theorem dX5_add_63 : decode cX5_add 63 = .ok (.iinc 4 1, 3) := by decide +kernel
theorem dX5_add_66 : decode cX5_add 66 = .ok (.goto (-33), 3) := by decide +kernel
theorem dX5_add_69 : decode cX5_add 69 = .ok (.aload_n 0, 1) := by decide +kernel
theorem dX5_add_70 : decode cX5_add 70 = .ok (.dup, 1) := by decide +kernel
theorem dX5_add_71 : decode cX5_add 71 = .ok (.getfield 17, 3) := by decide +kernel
theorem dX5_add_74 : decode cX5_add 74 = .ok (.iload_n 1, 1) := by decide +kernel
theorem dX5_add_75 : decode cX5_add 75 = .ok (.iadd, 1) := by decide +kernel
theorem dX5_add_76 : decode cX5_add 76 = .ok (.putfield 17, 3) := by decide +kernel
theorem dX5_add_79 : decode cX5_add 79 = .ok (.aload_n 0, 1) := by decide +kernel
theorem dX5_add_80 : decode cX5_add 80 = .ok (.getfield 17, 3) := by decide +kernel
theorem dX5_add_83 : decode cX5_add 83 = .ok (.ireturn, 1) := by decide +kernel
theorem dX5_clear_0 : decode cX5_clear 0 = .ok (.aload_n 0, 1) := by decide +kernel
theorem dX5_clear_1 : decode cX5_clear 1 = .ok (.iconst 0, 1) := by decide +kernel
theorem dX5_clear_2 : decode cX5_clear 2 = .ok (.putfield 17, 3) := by decide +kernel
theorem dX5_clear_5 : decode cX5_clear 5 = .ok (.return_, 1) := by decide +kernel
set_option maxRecDepth 20000 in
theorem ggX5_read_X5_readNote : GoodIn wsX5_read wsX5_readNote := goodIn_r _ [11, 1, 12, 13, 14, 10, 15, 3, 16, 17, 18, 19, 20, 21, 22, 23, 24, 25, 26, 27, 28, 29, 30, 31, 32, 33, 34, 35, 36, 37, 38, 39, 40, 41, 42, 43, 44, 45, 46, 47, 48, 49, 50, 51, 52, 53, 54, 55, 56, 57, 58, 59, 60, 61, 62, 63, 64, 65, 66, 67, 68, 69, 70, 71, 72, 73, 74, 75, 76, 77, 112, 113, 114, 115] (by decide +kernel) (by decide +kernel)
set_option maxRecDepth 20000 in
theorem gX5_read_X5_readNote : GoodIn wsX5_read (wsV RX5 24 RX5 yX5_readNote wsX5_readNote) := goodIn_app (goodIn_of _ (by decide +kernel)) ggX5_read_X5_readNote
set_option maxRecDepth 20000 in
theorem ggX5_read_X5_readKindAndSize : GoodIn wsX5_read wsX5_readKindAndSize := goodIn_r _ [81, 82, 83, 84, 85, 86, 10, 87, 1, 17, 18, 19, 20, 21, 22, 23, 24, 25, 26, 27, 28, 29, 30, 31, 32, 33, 34, 35, 36, 37, 38, 39, 40, 41, 42, 43, 44, 45, 46, 47, 48, 49, 50, 51, 52, 53, 54, 55, 56, 57, 58, 59, 60, 61, 62, 63, 64, 65, 66, 67, 68, 69, 70, 71, 72, 73, 12, 13, 14, 15, 3, 16, 88, 89, 90, 112, 113, 114, 115] (by decide +kernel) (by decide +kernel)
set_option maxRecDepth 20000 in
theorem gX5_read_X5_readKindAndSize : GoodIn wsX5_read (wsV RX5 28 RX5 yX5_readKindAndSize wsX5_readKindAndSize) := goodIn_app (goodIn_of _ (by decide +kernel)) ggX5_read_X5_readKindAndSize
set_option maxRecDepth 20000 in
theorem ggX5_read_X5_readChanges : GoodIn wsX5_read wsX5_readChanges := goodIn_r _ [94, 16, 1, 2, 95, 96, 17, 18, 19, 10, 20, 21, 22, 23, 24, 25, 26, 27, 28, 29, 30, 31, 32, 33, 34, 35, 36, 37, 38, 39, 40, 41, 42, 43, 44, 45, 46, 47, 48, 49, 50, 51, 52, 53, 54, 55, 56, 57, 58, 59, 60, 61, 62, 63, 64, 65, 66, 67, 68, 69, 70, 71, 72, 73, 12, 13, 14, 15, 3, 97, 98, 99, 100, 101, 88, 89, 90, 112, 113, 114, 115] (by decide +kernel) (by decide +kernel)
set_option maxRecDepth 20000 in
theorem gX5_read_X5_readChanges : GoodIn wsX5_read (wsV RX5 34 RX5 yX5_readChanges wsX5_readChanges) := goodIn_app (goodIn_of _ (by decide +kernel)) ggX5_read_X5_readChanges
set_option maxRecDepth 20000 in
theorem ggX5_read_X1_init : GoodIn wsX5_read wsX1_init := goodIn_r _ [104, 105, 106, 107, 108, 109, 110, 111, 116, 117, 118, 119] (by decide +kernel) (by decide +kernel)
set_option maxRecDepth 20000 in
theorem gX5_read_X1_init : GoodIn wsX5_read (wsX1_init) := ggX5_read_X1_init
set_option maxRecDepth 20000 in
theorem ggX5_read_X5_byteAt : GoodIn wsX5_read wsX5_byteAt := goodIn_r _ [15, 3, 16, 112, 113, 114, 115] (by decide +kernel) (by decide +kernel)
set_option maxRecDepth 20000 in
theorem gX5_read_X5_byteAt : GoodIn wsX5_read (wsV RX5 43 RX5 yX5_byteAt wsX5_byteAt) := goodIn_app (goodIn_of _ (by decide +kernel)) ggX5_read_X5_byteAt
theorem dX5_read_0 : decode cX5_read 0 = .ok (.aload_n 0, 1) := by decide +kernel
theorem dX5_read_1 : decode cX5_read 1 = .ok (.iconst 0, 1) := by decide +kernel
theorem dX5_read_2 : decode cX5_read 2 = .ok (.putfield 21, 3) := by decide +kernel
theorem dX5_read_5 : decode cX5_read 5 = .ok (.aload_n 0, 1) := by decide +kernel
theorem dX5_read_6 : decode cX5_read 6 = .ok (.invokevirtual 24, 3) := by decide +kernel
theorem dX5_read_9 : decode cX5_read 9 = .ok (.istore_n 1, 1) := by decide +kernel
theorem dX5_read_10 : decode cX5_read 10 = .ok (.iload_n 1, 1) := by decide +kernel
theorem dX5_read_11 : decode cX5_read 11 = .ok (.iconst (-1), 1) := by decide +kernel
theorem dX5_read_12 : decode cX5_read 12 = .ok (.if_icmp .ne 5, 3) := by decide +kernel
theorem dX5_read_15 : decode cX5_read 15 = .ok (.aconst_null, 1) := by decide +kernel
theorem dX5_read_16 : decode cX5_read 16 = .ok (.areturn, 1) := by decide +kernel
theorem dX5_read_17 : decode cX5_read 17 = .ok (.aload_n 0, 1) := by decide +kernel
theorem dX5_read_18 : decode cX5_read 18 = .ok (.aload_n 0, 1) := by decide +kernel
theorem dX5_read_19 : decode cX5_read 19 = .ok (.invokevirtual 28, 3) := by decide +kernel
theorem dX5_read_22 : decode cX5_read 22 = .ok (.putfield 31, 3) := by decide +kernel
theorem dX5_read_25 : decode cX5_read 25 = .ok (.aload_n 0, 1) := by decide +kernel
theorem dX5_read_26 : decode cX5_read 26 = .ok (.invokevirtual 34, 3) := by decide +kernel
theorem dX5_read_29 : decode cX5_read 29 = .ok (.ifCond .ne 5, 3) := by decide +kernel
theorem dX5_read_32 : decode cX5_read 32 = .ok (.aconst_null, 1) := by decide +kernel
theorem dX5_read_33 : decode cX5_read 33 = .ok (.areturn, 1) := by decide +kernel
theorem dX5_read_34 : decode cX5_read 34 = .ok (.aload_n 0, 1) := by decide +kernel
theorem dX5_read_35 : decode cX5_read 35 = .ok (.getfield 21, 3) := by decide +kernel
theorem dX5_read_38 : decode cX5_read 38 = .ok (.aload_n 0, 1) := by decide +kernel
theorem dX5_read_39 : decode cX5_read 39 = .ok (.getfield 17, 3) := by decide +kernel
theorem dX5_read_42 : decode cX5_read 42 = .ok (.if_icmp .ne 18, 3) := by decide +kernel
theorem dX5_read_45 : decode cX5_read 45 = .ok (.new 38, 3) := by decide +kernel
theorem dX5_read_48 : decode cX5_read 48 = .ok (.dup, 1) := by decide +kernel
theorem dX5_read_49 : decode cX5_read 49 = .ok (.iload_n 1, 1) := by decide +kernel
theorem dX5_read_50 : decode cX5_read 50 = .ok (.aload_n 0, 1) := by decide +kernel
theorem dX5_read_51 : decode cX5_read 51 = .ok (.getfield 31, 3) := by decide +kernel
theorem dX5_read_54 : decode cX5_read 54 = .ok (.iload_n 1, 1) := by decide +kernel
theorem dX5_read_55 : decode cX5_read 55 = .ok (.iconst 0, 1) := by decide +kernel
theorem dX5_read_56 : decode cX5_read 56 = .ok (.invokespecial 40, 3) := by decide +kernel
theorem dX5_read_59 : decode cX5_read 59 = .ok (.areturn, 1) := by decide +kernel
theorem dX5_read_60 : decode cX5_read 60 = .ok (.aload_n 0, 1) := by decide +kernel
theorem dX5_read_61 : decode cX5_read 61 = .ok (.aload_n 0, 1) := by decide +kernel
theorem dX5_read_62 : decode cX5_read 62 = .ok (.getfield 21, 3) := by decide +kernel
theorem dX5_read_65 : decode cX5_read 65 = .ok (.invokevirtual 43, 3) := by decide +kernel
theorem dX5_read_68 : decode cX5_read 68 = .ok (.bipush 47, 2) := by decide +kernel
theorem dX5_read_70 : decode cX5_read 70 = .ok (.if_icmp .eq 5, 3) := by decide +kernel
theorem dX5_read_73 : decode cX5_read 73 = .ok (.aconst_null, 1) := by decide +kernel
theorem dX5_read_74 : decode cX5_read 74 = .ok (.areturn, 1) := by decide +kernel
theorem dX5_read_75 : decode cX5_read 75 = .ok (.aload_n 0, 1) := by decide +kernel
theorem dX5_read_76 : decode cX5_read 76 = .ok (.dup, 1) := by decide +kernel
theorem dX5_read_77 : decode cX5_read 77 = .ok (.getfield 21, 3) := by decide +kernel
theorem dX5_read_80 : decode cX5_read 80 = .ok (.iconst 1, 1) := by decide +kernel
theorem dX5_read_81 : decode cX5_read 81 = .ok (.iadd, 1) := by decide +kernel
theorem dX5_read_82 : decode cX5_read 82 = .ok (.putfield 21, 3) := by decide +kernel
theorem dX5_read_85 : decode cX5_read 85 = .ok (.aload_n 0, 1) := by decide +kernel
theorem dX5_read_86 : decode cX5_read 86 = .ok (.invokevirtual 24, 3) := by decide +kernel
theorem dX5_read_89 : decode cX5_read 89 = .ok (.istore_n 2, 1) := by decide +kernel
theorem dX5_read_90 : decode cX5_read 90 = .ok (.iload_n 2, 1) := by decide +kernel
theorem dX5_read_91 : decode cX5_read 91 = .ok (.iconst (-1), 1) := by decide +kernel
theorem dX5_read_92 : decode cX5_read 92 = .ok (.if_icmp .eq 14, 3) := by decide +kernel
theorem dX5_read_95 : decode cX5_read 95 = .ok (.aload_n 0, 1) := by decide +kernel
theorem dX5_read_96 : decode cX5_read 96 = .ok (.getfield 21, 3) := by decide +kernel
theorem dX5_read_99 : decode cX5_read 99 = .ok (.aload_n 0, 1) := by decide +kernel
theorem dX5_read_100 : decode cX5_read 100 = .ok (.getfield 17, 3) := by decide +kernel
theorem dX5_read_103 : decode cX5_read 103 = .ok (.if_icmp .ge 7, 3) := by decide +kernel
theorem dX5_read_106 : decode cX5_read 106 = .ok (.aconst_null, 1) := by decide +kernel
theorem dX5_read_107 : decode cX5_read 107 = .ok (.goto 17, 3) := by decide +kernel
theorem dX5_read_110 : decode cX5_read 110 = .ok (.new 38, 3) := by decide +kernel
theorem dX5_read_113 : decode cX5_read 113 = .ok (.dup, 1) := by decide +kernel
theorem dX5_read_114 : decode cX5_read 114 = .ok (.iload_n 1, 1) := by decide +kernel
theorem dX5_read_115 : decode cX5_read 115 = .ok (.aload_n 0, 1) := by decide +kernel
theorem dX5_read_116 : decode cX5_read 116 = .ok (.getfield 31, 3) := by decide +kernel
theorem dX5_read_119 : decode cX5_read 119 = .ok (.iload_n 2, 1) := by decide +kernel
theorem dX5_read_120 : decode cX5_read 120 = .ok (.iconst 1, 1) := by decide +kernel
theorem dX5_read_121 : decode cX5_read 121 = .ok (.invokespecial 40, 3) := by decide +kernel
theorem dX5_read_124 : decode cX5_read 124 = .ok (.areturn, 1) := by decide +kernel
set_option maxRecDepth 20000 in
theorem ggX5_readNote_X5_byteAt : GoodIn wsX5_readNote wsX5_byteAt := goodIn_r _ [6, 7, 8, 70, 71, 72, 73] (by decide +kernel) (by decide +kernel)
set_option maxRecDepth 20000 in
theorem gX5_readNote_X5_byteAt : GoodIn wsX5_readNote (wsV RX5 43 RX5 yX5_byteAt wsX5_byteAt) := goodIn_app (goodIn_of _ (by decide +kernel)) ggX5_readNote_X5_byteAt
set_option maxRecDepth 20000 in
theorem ggX5_readNote_X5_readLongest : GoodIn wsX5_readNote wsX5_readLongest := goodIn_r _ [12, 1, 13, 14, 15, 16, 17, 18, 19, 20, 21, 22, 23, 24, 25, 26, 27, 28, 29, 30, 31, 32, 33, 34, 35, 36, 37, 38, 39, 40, 41, 42, 43, 44, 45, 46, 47, 48, 49, 50, 51, 52, 53, 54, 55, 56, 57, 58, 59, 60, 61, 62, 63, 64, 5, 65, 2, 3, 4, 6, 7, 8, 70, 71, 72, 73] (by decide +kernel) (by decide +kernel)
set_option maxRecDepth 20000 in
theorem gX5_readNote_X5_readLongest : GoodIn wsX5_readNote (wsV RX5 51 RX5 yX5_readLongest wsX5_readLongest) := goodIn_app (goodIn_of _ (by decide +kernel)) ggX5_readNote_X5_readLongest
set_option maxRecDepth 20000 in
theorem ggX5_readNote_X3_note : GoodIn wsX5_readNote wsX3_note := goodIn_r _ [69] (by decide +kernel) (by decide +kernel)
set_option maxRecDepth 20000 in
theorem gX5_readNote_X3_note : GoodIn wsX5_readNote (va_wsS RX5 57 yX3_note wsX3_note) := goodIn_app (goodIn_of _ (by decide +kernel)) ggX5_readNote_X3_note
theorem dX5_readNote_0 : decode cX5_readNote 0 = .ok (.aload_n 0, 1) := by decide +kernel
theorem dX5_readNote_1 : decode cX5_readNote 1 = .ok (.aload_n 0, 1) := by decide +kernel
theorem dX5_readNote_2 : decode cX5_readNote 2 = .ok (.getfield 21, 3) := by decide +kernel
theorem dX5_readNote_5 : decode cX5_readNote 5 = .ok (.invokevirtual 43, 3) := by decide +kernel
theorem dX5_readNote_8 : decode cX5_readNote 8 = .ok (.istore_n 1, 1) := by decide +kernel
theorem dX5_readNote_9 : decode cX5_readNote 9 = .ok (.iload_n 1, 1) := by decide +kernel
theorem dX5_readNote_10 : decode cX5_readNote 10 = .ok (.bipush 65, 2) := by decide +kernel
theorem dX5_readNote_12 : decode cX5_readNote 12 = .ok (.if_icmp .lt 9, 3) := by decide +kernel
theorem dX5_readNote_15 : decode cX5_readNote 15 = .ok (.iload_n 1, 1) := by decide +kernel
theorem dX5_readNote_16 : decode cX5_readNote 16 = .ok (.bipush 71, 2) := by decide +kernel
theorem dX5_readNote_18 : decode cX5_readNote 18 = .ok (.if_icmp .le 5, 3) := by decide +kernel
theorem dX5_readNote_21 : decode cX5_readNote 21 = .ok (.iconst (-1), 1) := by decide +kernel
theorem dX5_readNote_22 : decode cX5_readNote 22 = .ok (.ireturn, 1) := by decide +kernel
theorem dX5_readNote_23 : decode cX5_readNote 23 = .ok (.aload_n 0, 1) := by decide +kernel
theorem dX5_readNote_24 : decode cX5_readNote 24 = .ok (.dup, 1) := by decide +kernel
theorem dX5_readNote_25 : decode cX5_readNote 25 = .ok (.getfield 21, 3) := by decide +kernel
theorem dX5_readNote_28 : decode cX5_readNote 28 = .ok (.iconst 1, 1) := by decide +kernel
theorem dX5_readNote_29 : decode cX5_readNote 29 = .ok (.iadd, 1) := by decide +kernel
theorem dX5_readNote_30 : decode cX5_readNote 30 = .ok (.putfield 21, 3) := by decide +kernel
theorem dX5_readNote_33 : decode cX5_readNote 33 = .ok (.aload_n 0, 1) := by decide +kernel
theorem dX5_readNote_34 : decode cX5_readNote 34 = .ok (.ldc 49, 2) := by decide +kernel
theorem dX5_readNote_36 : decode cX5_readNote 36 = .ok (.invokevirtual 51, 3) := by decide +kernel
theorem dX5_readNote_39 : decode cX5_readNote 39 = .ok (.istore_n 2, 1) := by decide +kernel
theorem dX5_readNote_40 : decode cX5_readNote 40 = .ok (.iload_n 1, 1) := by decide +kernel
theorem dX5_readNote_41 : decode cX5_readNote 41 = .ok (.bipush 65, 2) := by decide +kernel
theorem dX5_readNote_43 : decode cX5_readNote 43 = .ok (.isub, 1) := by decide +kernel
theorem dX5_readNote_44 : decode cX5_readNote 44 = .ok (.iconst 5, 1) := by decide +kernel
theorem dX5_readNote_45 : decode cX5_readNote 45 = .ok (.iadd, 1) := by decide +kernel
theorem dX5_readNote_46 : decode cX5_readNote 46 = .ok (.bipush 7, 2) := by decide +kernel
theorem dX5_readNote_48 : decode cX5_readNote 48 = .ok (.irem, 1) := by decide +kernel
theorem dX5_readNote_49 : decode cX5_readNote 49 = .ok (.iload_n 2, 1) := by decide +kernel
theorem dX5_readNote_50 : decode cX5_readNote 50 = .ok (.iconst (-1), 1) := by decide +kernel
theorem dX5_readNote_51 : decode cX5_readNote 51 = .ok (.if_icmp .ne 7, 3) := by decide +kernel
theorem dX5_readNote_54 : decode cX5_readNote 54 = .ok (.iconst 0, 1) := by decide +kernel
theorem dX5_readNote_55 : decode cX5_readNote 55 = .ok (.goto 6, 3) := by decide +kernel
theorem dX5_readNote_58 : decode cX5_readNote 58 = .ok (.iload_n 2, 1) := by decide +kernel
theorem dX5_readNote_59 : decode cX5_readNote 59 = .ok (.iconst 2, 1) := by decide +kernel
theorem dX5_readNote_60 : decode cX5_readNote 60 = .ok (.isub, 1) := by decide +kernel
theorem dX5_readNote_61 : decode cX5_readNote 61 = .ok (.invokestatic 57, 3) := by decide +kernel
theorem dX5_readNote_64 : decode cX5_readNote 64 = .ok (.ireturn, 1) := by decide +kernel
set_option maxRecDepth 20000 in
theorem ggX5_readKindAndSize_X5_readKind : GoodIn wsX5_readKindAndSize wsX5_readKind := goodIn_r _ [7, 8, 9, 10, 11, 6, 12, 13, 14, 15, 16, 17, 18, 19, 20, 21, 22, 23, 24, 25, 26, 27, 28, 29, 30, 31, 32, 33, 34, 35, 36, 37, 38, 39, 40, 41, 42, 43, 44, 45, 46, 47, 48, 49, 50, 51, 52, 53, 54, 55, 56, 57, 58, 59, 60, 61, 62, 63, 64, 65, 66, 67, 68, 69, 70, 71, 75, 76, 77, 78] (by decide +kernel) (by decide +kernel)
set_option maxRecDepth 20000 in
theorem gX5_readKindAndSize_X5_readKind : GoodIn wsX5_readKindAndSize (wsV RX5 61 RX5 yX5_readKind wsX5_readKind) := goodIn_app (goodIn_of _ (by decide +kernel)) ggX5_readKindAndSize_X5_readKind
set_option maxRecDepth 20000 in
theorem ggX5_readKindAndSize_X8_entry : GoodIn wsX5_readKindAndSize wsX8_entry := goodIn_r _ [74] (by decide +kernel) (by decide +kernel)
set_option maxRecDepth 20000 in
theorem gX5_readKindAndSize_X8_entry_n69 : GoodIn wsX5_readKindAndSize (wsX8_entry) := ggX5_readKindAndSize_X8_entry
set_option maxRecDepth 20000 in
theorem ggX5_readKindAndSize_X5_readLongest : GoodIn wsX5_readKindAndSize wsX5_readLongest := goodIn_r _ [12, 8, 13, 14, 15, 16, 17, 18, 19, 20, 21, 22, 23, 24, 25, 26, 27, 28, 29, 30, 31, 32, 33, 34, 35, 36, 37, 38, 39, 40, 41, 42, 43, 44, 45, 46, 47, 48, 49, 50, 51, 52, 53, 54, 55, 56, 57, 58, 59, 60, 61, 62, 63, 64, 6, 65, 66, 67, 68, 69, 70, 71, 75, 76, 77, 78] (by decide +kernel) (by decide +kernel)
set_option maxRecDepth 20000 in
theorem gX5_readKindAndSize_X5_readLongest : GoodIn wsX5_readKindAndSize (wsV RX5 51 RX5 yX5_readLongest wsX5_readLongest) := goodIn_app (goodIn_of _ (by decide +kernel)) ggX5_readKindAndSize_X5_readLongest
theorem dX5_readKindAndSize_0 : decode cX5_readKindAndSize 0 = .ok (.aload_n 0, 1) := by decide +kernel
theorem dX5_readKindAndSize_1 : decode cX5_readKindAndSize 1 = .ok (.invokevirtual 61, 3) := by decide +kernel
theorem dX5_readKindAndSize_4 : decode cX5_readKindAndSize 4 = .ok (.istore_n 1, 1) := by decide +kernel
theorem dX5_readKindAndSize_5 : decode cX5_readKindAndSize 5 = .ok (.iload_n 1, 1) := by decide +kernel
theorem dX5_readKindAndSize_6 : decode cX5_readKindAndSize 6 = .ok (.iconst (-1), 1) := by decide +kernel
theorem dX5_readKindAndSize_7 : decode cX5_readKindAndSize 7 = .ok (.if_icmp .ne 8, 3) := by decide +kernel
theorem dX5_readKindAndSize_10 : decode cX5_readKindAndSize 10 = .ok (.bipush 73, 2) := by decide +kernel
theorem dX5_readKindAndSize_12 : decode cX5_readKindAndSize 12 = .ok (.goto 10, 3) := by decide +kernel
theorem dX5_readKindAndSize_15 : decode cX5_readKindAndSize 15 = .ok (.getstatic 66, 3) := by decide +kernel
theorem dX5_readKindAndSize_18 : decode cX5_readKindAndSize 18 = .ok (.iload_n 1, 1) := by decide +kernel
theorem dX5_readKindAndSize_19 : decode cX5_readKindAndSize 19 = .ok (.invokestatic 69, 3) := by decide +kernel
theorem dX5_readKindAndSize_22 : decode cX5_readKindAndSize 22 = .ok (.istore_n 2, 1) := by decide +kernel
theorem dX5_readKindAndSize_23 : decode cX5_readKindAndSize 23 = .ok (.iload_n 1, 1) := by decide +kernel
theorem dX5_readKindAndSize_24 : decode cX5_readKindAndSize 24 = .ok (.bipush 6, 2) := by decide +kernel
theorem dX5_readKindAndSize_26 : decode cX5_readKindAndSize 26 = .ok (.if_icmp .ne 5, 3) := by decide +kernel
theorem dX5_readKindAndSize_29 : decode cX5_readKindAndSize 29 = .ok (.iload_n 2, 1) := by decide +kernel
theorem dX5_readKindAndSize_30 : decode cX5_readKindAndSize 30 = .ok (.ireturn, 1) := by decide +kernel
theorem dX5_readKindAndSize_31 : decode cX5_readKindAndSize 31 = .ok (.getstatic 73, 3) := by decide +kernel
theorem dX5_readKindAndSize_34 : decode cX5_readKindAndSize 34 = .ok (.aload_n 0, 1) := by decide +kernel
theorem dX5_readKindAndSize_35 : decode cX5_readKindAndSize 35 = .ok (.ldc 76, 2) := by decide +kernel
theorem dX5_readKindAndSize_37 : decode cX5_readKindAndSize 37 = .ok (.invokevirtual 51, 3) := by decide +kernel
theorem dX5_readKindAndSize_40 : decode cX5_readKindAndSize 40 = .ok (.invokestatic 69, 3) := by decide +kernel
theorem dX5_readKindAndSize_43 : decode cX5_readKindAndSize 43 = .ok (.istore_n 3, 1) := by decide +kernel
theorem dX5_readKindAndSize_44 : decode cX5_readKindAndSize 44 = .ok (.iload_n 1, 1) := by decide +kernel
theorem dX5_readKindAndSize_45 : decode cX5_readKindAndSize 45 = .ok (.iconst 2, 1) := by decide +kernel
theorem dX5_readKindAndSize_46 : decode cX5_readKindAndSize 46 = .ok (.if_icmp .eq 8, 3) := by decide +kernel
theorem dX5_readKindAndSize_49 : decode cX5_readKindAndSize 49 = .ok (.iload_n 1, 1) := by decide +kernel
theorem dX5_readKindAndSize_50 : decode cX5_readKindAndSize 50 = .ok (.iconst 3, 1) := by decide +kernel
theorem dX5_readKindAndSize_51 : decode cX5_readKindAndSize 51 = .ok (.if_icmp .ne 7, 3) := by decide +kernel
theorem dX5_readKindAndSize_54 : decode cX5_readKindAndSize 54 = .ok (.iconst 1, 1) := by decide +kernel
theorem dX5_readKindAndSize_55 : decode cX5_readKindAndSize 55 = .ok (.goto 4, 3) := by decide +kernel
theorem dX5_readKindAndSize_58 : decode cX5_readKindAndSize 58 = .ok (.iconst 0, 1) := by decide +kernel
theorem dX5_readKindAndSize_59 : decode cX5_readKindAndSize 59 = .ok (.istore 4, 2) := by decide +kernel
theorem dX5_readKindAndSize_61 : decode cX5_readKindAndSize 61 = .ok (.iload 4, 2) := by decide +kernel
theorem dX5_readKindAndSize_63 : decode cX5_readKindAndSize 63 = .ok (.ifCond .eq 17, 3) := by decide +kernel
theorem dX5_readKindAndSize_66 : decode cX5_readKindAndSize 66 = .ok (.iload_n 3, 1) := by decide +kernel
theorem dX5_readKindAndSize_67 : decode cX5_readKindAndSize 67 = .ok (.sipush 1024, 3) := by decide +kernel
theorem dX5_readKindAndSize_70 : decode cX5_readKindAndSize 70 = .ok (.iand, 1) := by decide +kernel
theorem dX5_readKindAndSize_71 : decode cX5_readKindAndSize 71 = .ok (.ifCond .eq 9, 3) := by decide +kernel
theorem dX5_readKindAndSize_74 : decode cX5_readKindAndSize 74 = .ok (.iload_n 3, 1) := by decide +kernel
theorem dX5_readKindAndSize_75 : decode cX5_readKindAndSize 75 = .ok (.sipush 1536, 3) := by decide +kernel
theorem dX5_readKindAndSize_78 : decode cX5_readKindAndSize 78 = .ok (.ixor, 1) := by decide +kernel
theorem dX5_readKindAndSize_79 : decode cX5_readKindAndSize 79 = .ok (.istore_n 3, 1) := by decide +kernel
theorem dX5_readKindAndSize_80 : decode cX5_readKindAndSize 80 = .ok (.iload_n 2, 1) := by decide +kernel
theorem dX5_readKindAndSize_81 : decode cX5_readKindAndSize 81 = .ok (.iload_n 3, 1) := by decide +kernel
theorem dX5_readKindAndSize_82 : decode cX5_readKindAndSize 82 = .ok (.ior, 1) := by decide +kernel
theorem dX5_readKindAndSize_83 : decode cX5_readKindAndSize 83 = .ok (.ireturn, 1) := by decide +kernel
set_option maxRecDepth 20000 in
theorem ggX5_readKind_X5_readLongest : GoodIn wsX5_readKind wsX5_readLongest := goodIn_r _ [6, 1, 7, 8, 9, 10, 11, 12, 13, 14, 15, 16, 17, 18, 19, 20, 21, 22, 23, 24, 25, 26, 27, 28, 29, 30, 31, 32, 33, 34, 35, 36, 37, 38, 39, 40, 41, 42, 43, 44, 45, 46, 47, 48, 49, 50, 51, 52, 53, 54, 55, 56, 57, 58, 5, 59, 60, 61, 62, 63, 64, 65, 66, 67, 68, 69] (by decide +kernel) (by decide +kernel)
set_option maxRecDepth 20000 in
theorem gX5_readKind_X5_readLongest : GoodIn wsX5_readKind (wsV RX5 51 RX5 yX5_readLongest wsX5_readLongest) := goodIn_app (goodIn_of _ (by decide +kernel)) ggX5_readKind_X5_readLongest
set_option maxRecDepth 20000 in
theorem ggX5_readKind_X5_byteAt : GoodIn wsX5_readKind wsX5_byteAt := goodIn_r _ [63, 64, 65, 66, 67, 68, 69] (by decide +kernel) (by decide +kernel)
set_option maxRecDepth 20000 in
theorem gX5_readKind_X5_byteAt : GoodIn wsX5_readKind (wsV RX5 43 RX5 yX5_byteAt wsX5_byteAt) := goodIn_app (goodIn_of _ (by decide +kernel)) ggX5_readKind_X5_byteAt
theorem dX5_readKind_0 : decode cX5_readKind 0 = .ok (.aload_n 0, 1) := by decide +kernel
theorem dX5_readKind_1 : decode cX5_readKind 1 = .ok (.getfield 21, 3) := by decide +kernel
theorem dX5_readKind_4 : decode cX5_readKind 4 = .ok (.istore_n 1, 1) := by decide +kernel
theorem dX5_readKind_5 : decode cX5_readKind 5 = .ok (.aload_n 0, 1) := by decide +kernel
theorem dX5_readKind_6 : decode cX5_readKind 6 = .ok (.ldc 78, 2) := by decide +kernel
theorem dX5_readKind_8 : decode cX5_readKind 8 = .ok (.invokevirtual 51, 3) := by decide +kernel
theorem dX5_readKind_11 : decode cX5_readKind 11 = .ok (.istore_n 2, 1) := by decide +kernel
theorem dX5_readKind_12 : decode cX5_readKind 12 = .ok (.iload_n 2, 1) := by decide +kernel
theorem dX5_readKind_13 : decode cX5_readKind 13 = .ok (.ifCond .ne 38, 3) := by decide +kernel
theorem dX5_readKind_16 : decode cX5_readKind 16 = .ok (.aload_n 0, 1) := by decide +kernel
theorem dX5_readKind_17 : decode cX5_readKind 17 = .ok (.aload_n 0, 1) := by decide +kernel
theorem dX5_readKind_18 : decode cX5_readKind 18 = .ok (.getfield 21, 3) := by decide +kernel
theorem dX5_readKind_21 : decode cX5_readKind 21 = .ok (.invokevirtual 43, 3) := by decide +kernel
theorem dX5_readKind_24 : decode cX5_readKind 24 = .ok (.bipush 97, 2) := by decide +kernel
theorem dX5_readKind_26 : decode cX5_readKind 26 = .ok (.if_icmp .ne 25, 3) := by decide +kernel
theorem dX5_readKind_29 : decode cX5_readKind 29 = .ok (.aload_n 0, 1) := by decide +kernel
theorem dX5_readKind_30 : decode cX5_readKind 30 = .ok (.aload_n 0, 1) := by decide +kernel
theorem dX5_readKind_31 : decode cX5_readKind 31 = .ok (.getfield 21, 3) := by decide +kernel
theorem dX5_readKind_34 : decode cX5_readKind 34 = .ok (.iconst 1, 1) := by decide +kernel
theorem dX5_readKind_35 : decode cX5_readKind 35 = .ok (.iadd, 1) := by decide +kernel
theorem dX5_readKind_36 : decode cX5_readKind 36 = .ok (.invokevirtual 43, 3) := by decide +kernel
theorem dX5_readKind_39 : decode cX5_readKind 39 = .ok (.bipush 106, 2) := by decide +kernel
theorem dX5_readKind_41 : decode cX5_readKind 41 = .ok (.if_icmp .ne 10, 3) := by decide +kernel
theorem dX5_readKind_44 : decode cX5_readKind 44 = .ok (.aload_n 0, 1) := by decide +kernel
theorem dX5_readKind_45 : decode cX5_readKind 45 = .ok (.iload_n 1, 1) := by decide +kernel
theorem dX5_readKind_46 : decode cX5_readKind 46 = .ok (.putfield 21, 3) := by decide +kernel
theorem dX5_readKind_49 : decode cX5_readKind 49 = .ok (.iconst (-1), 1) := by decide +kernel
theorem dX5_readKind_50 : decode cX5_readKind 50 = .ok (.ireturn, 1) := by decide +kernel
theorem dX5_readKind_51 : decode cX5_readKind 51 = .ok (.iload_n 2, 1) := by decide +kernel
theorem dX5_readKind_52 : decode cX5_readKind 52 = .ok (.ireturn, 1) := by decide +kernel
set_option maxRecDepth 20000 in
theorem ggX5_readChanges_X5_readLongest : GoodIn wsX5_readChanges wsX5_readLongest := goodIn_r _ [10, 2, 11, 12, 13, 14, 15, 16, 17, 18, 19, 20, 21, 22, 23, 24, 25, 26, 27, 28, 29, 30, 31, 32, 33, 34, 35, 36, 37, 38, 39, 40, 41, 42, 43, 44, 45, 46, 47, 48, 49, 50, 51, 52, 53, 54, 55, 56, 57, 58, 59, 60, 61, 62, 9, 63, 64, 65, 66, 67, 68, 1, 77, 78, 79, 80] (by decide +kernel) (by decide +kernel)
set_option maxRecDepth 20000 in
theorem gX5_readChanges_X5_readLongest : GoodIn wsX5_readChanges (wsV RX5 51 RX5 yX5_readLongest wsX5_readLongest) := goodIn_app (goodIn_of _ (by decide +kernel)) ggX5_readChanges_X5_readLongest
set_option maxRecDepth 20000 in
theorem ggX5_readChanges_X5_isWrong : GoodIn wsX5_readChanges wsX5_isWrong := goodIn_r _ [72, 73, 3, 5, 74, 75, 76, 77, 78, 79, 80] (by decide +kernel) (by decide +kernel)
set_option maxRecDepth 20000 in
theorem gX5_readChanges_X5_isWrong : GoodIn wsX5_readChanges (wsV RX5 82 RX5 yX5_isWrong wsX5_isWrong) := goodIn_app (goodIn_of _ (by decide +kernel)) ggX5_readChanges_X5_isWrong
set_option maxRecDepth 20000 in
theorem ggX5_readChanges_X8_entry : GoodIn wsX5_readChanges wsX8_entry := goodIn_r _ [76] (by decide +kernel) (by decide +kernel)
set_option maxRecDepth 20000 in
theorem gX5_readChanges_X8_entry_n69 : GoodIn wsX5_readChanges (wsX8_entry) := ggX5_readChanges_X8_entry
theorem dX5_readChanges_0 : decode cX5_readChanges 0 = .ok (.iconst 0, 1) := by decide +kernel
theorem dX5_readChanges_1 : decode cX5_readChanges 1 = .ok (.istore_n 1, 1) := by decide +kernel
theorem dX5_readChanges_2 : decode cX5_readChanges 2 = .ok (.iload_n 1, 1) := by decide +kernel
theorem dX5_readChanges_3 : decode cX5_readChanges 3 = .ok (.aload_n 0, 1) := by decide +kernel
theorem dX5_readChanges_4 : decode cX5_readChanges 4 = .ok (.getfield 13, 3) := by decide +kernel
theorem dX5_readChanges_7 : decode cX5_readChanges 7 = .ok (.arraylength, 1) := by decide +kernel
theorem dX5_readChanges_8 : decode cX5_readChanges 8 = .ok (.if_icmp .ge 69, 3) := by decide +kernel
theorem dX5_readChanges_11 : decode cX5_readChanges 11 = .ok (.aload_n 0, 1) := by decide +kernel
theorem dX5_readChanges_12 : decode cX5_readChanges 12 = .ok (.getfield 21, 3) := by decide +kernel
theorem dX5_readChanges_15 : decode cX5_readChanges 15 = .ok (.istore_n 2, 1) := by decide +kernel
theorem dX5_readChanges_16 : decode cX5_readChanges 16 = .ok (.aload_n 0, 1) := by decide +kernel
theorem dX5_readChanges_17 : decode cX5_readChanges 17 = .ok (.ldc 80, 2) := by decide +kernel
theorem dX5_readChanges_19 : decode cX5_readChanges 19 = .ok (.invokevirtual 51, 3) := by decide +kernel
theorem dX5_readChanges_22 : decode cX5_readChanges 22 = .ok (.istore_n 3, 1) := by decide +kernel
theorem dX5_readChanges_23 : decode cX5_readChanges 23 = .ok (.iload_n 3, 1) := by decide +kernel
theorem dX5_readChanges_24 : decode cX5_readChanges 24 = .ok (.iconst (-1), 1) := by decide +kernel
theorem dX5_readChanges_25 : decode cX5_readChanges 25 = .ok (.if_icmp .ne 5, 3) := by decide +kernel
theorem dX5_readChanges_28 : decode cX5_readChanges 28 = .ok (.iconst 1, 1) := by decide +kernel
theorem dX5_readChanges_29 : decode cX5_readChanges 29 = .ok (.ireturn, 1) := by decide +kernel
theorem dX5_readChanges_30 : decode cX5_readChanges 30 = .ok (.aload_n 0, 1) := by decide +kernel
theorem dX5_readChanges_31 : decode cX5_readChanges 31 = .ok (.iload_n 3, 1) := by decide +kernel
theorem dX5_readChanges_32 : decode cX5_readChanges 32 = .ok (.invokevirtual 82, 3) := by decide +kernel
theorem dX5_readChanges_35 : decode cX5_readChanges 35 = .ok (.ifCond .eq 10, 3) := by decide +kernel
theorem dX5_readChanges_38 : decode cX5_readChanges 38 = .ok (.aload_n 0, 1) := by decide +kernel
theorem dX5_readChanges_39 : decode cX5_readChanges 39 = .ok (.iload_n 2, 1) := by decide +kernel
theorem dX5_readChanges_40 : decode cX5_readChanges 40 = .ok (.putfield 21, 3) := by decide +kernel
theorem dX5_readChanges_43 : decode cX5_readChanges 43 = .ok (.iconst 0, 1) := by decide +kernel
theorem dX5_readChanges_44 : decode cX5_readChanges 44 = .ok (.ireturn, 1) := by decide +kernel
theorem dX5_readChanges_45 : decode cX5_readChanges 45 = .ok (.aload_n 0, 1) := by decide +kernel
theorem dX5_readChanges_46 : decode cX5_readChanges 46 = .ok (.aload_n 0, 1) := by decide +kernel
theorem dX5_readChanges_47 : decode cX5_readChanges 47 = .ok (.getfield 31, 3) := by decide +kernel
theorem dX5_readChanges_50 : decode cX5_readChanges 50 = .ok (.getstatic 86, 3) := by decide +kernel
theorem dX5_readChanges_53 : decode cX5_readChanges 53 = .ok (.iload_n 3, 1) := by decide +kernel
theorem dX5_readChanges_54 : decode cX5_readChanges 54 = .ok (.invokestatic 69, 3) := by decide +kernel
theorem dX5_readChanges_57 : decode cX5_readChanges 57 = .ok (.iconst (-1), 1) := by decide +kernel
theorem dX5_readChanges_58 : decode cX5_readChanges 58 = .ok (.ixor, 1) := by decide +kernel
theorem dX5_readChanges_59 : decode cX5_readChanges 59 = .ok (.iand, 1) := by decide +kernel
theorem dX5_readChanges_60 : decode cX5_readChanges 60 = .ok (.getstatic 89, 3) := by decide +kernel
theorem dX5_readChanges_63 : decode cX5_readChanges 63 = .ok (.iload_n 3, 1) := by decide +kernel
theorem dX5_readChanges_64 : decode cX5_readChanges 64 = .ok (.invokestatic 69, 3) := by decide +kernel
theorem dX5_readChanges_67 : decode cX5_readChanges 67 = .ok (.ior, 1) := by decide +kernel
theorem dX5_readChanges_68 : decode cX5_readChanges 68 = .ok (.putfield 31, 3) := by decide +kernel
theorem dX5_readChanges_71 : decode cX5_readChanges 71 = .ok (.iinc 1 1, 3) := by decide +kernel
theorem dX5_readChanges_74 : decode cX5_readChanges 74 = .ok (.goto (-72), 3) := by decide +kernel
theorem dX5_readChanges_77 : decode cX5_readChanges 77 = .ok (.iconst 1, 1) := by decide +kernel
theorem dX5_readChanges_78 : decode cX5_readChanges 78 = .ok (.ireturn, 1) := by decide +kernel
set_option maxRecDepth 20000 in
theorem ggX5_isWrong_X8_entry : GoodIn wsX5_isWrong wsX8_entry := goodIn_r _ [6] (by decide +kernel) (by decide +kernel)
set_option maxRecDepth 20000 in
theorem gX5_isWrong_X8_entry_n69 : GoodIn wsX5_isWrong (wsX8_entry) := ggX5_isWrong_X8_entry
theorem dX5_isWrong_0 : decode cX5_isWrong 0 = .ok (.getstatic 92, 3) := by decide +kernel
theorem dX5_isWrong_3 : decode cX5_isWrong 3 = .ok (.iload_n 1, 1) := by decide +kernel
theorem dX5_isWrong_4 : decode cX5_isWrong 4 = .ok (.invokestatic 69, 3) := by decide +kernel
theorem dX5_isWrong_7 : decode cX5_isWrong 7 = .ok (.istore_n 2, 1) := by decide +kernel
theorem dX5_isWrong_8 : decode cX5_isWrong 8 = .ok (.iload_n 2, 1) := by decide +kernel
theorem dX5_isWrong_9 : decode cX5_isWrong 9 = .ok (.ifCond .eq 16, 3) := by decide +kernel
theorem dX5_isWrong_12 : decode cX5_isWrong 12 = .ok (.aload_n 0, 1) := by decide +kernel
theorem dX5_isWrong_13 : decode cX5_isWrong 13 = .ok (.getfield 31, 3) := by decide +kernel
theorem dX5_isWrong_16 : decode cX5_isWrong 16 = .ok (.iload_n 2, 1) := by decide +kernel
theorem dX5_isWrong_17 : decode cX5_isWrong 17 = .ok (.iand, 1) := by decide +kernel
theorem dX5_isWrong_18 : decode cX5_isWrong 18 = .ok (.ifCond .ne 7, 3) := by decide +kernel
theorem dX5_isWrong_21 : decode cX5_isWrong 21 = .ok (.iconst 1, 1) := by decide +kernel
theorem dX5_isWrong_22 : decode cX5_isWrong 22 = .ok (.goto 4, 3) := by decide +kernel
theorem dX5_isWrong_25 : decode cX5_isWrong 25 = .ok (.iconst 0, 1) := by decide +kernel
theorem dX5_isWrong_26 : decode cX5_isWrong 26 = .ok (.istore_n 3, 1) := by decide +kernel
theorem dX5_isWrong_27 : decode cX5_isWrong 27 = .ok (.iload_n 3, 1) := by decide +kernel
theorem dX5_isWrong_28 : decode cX5_isWrong 28 = .ok (.ifCond .ne 18, 3) := by decide +kernel
theorem dX5_isWrong_31 : decode cX5_isWrong 31 = .ok (.aload_n 0, 1) := by decide +kernel
theorem dX5_isWrong_32 : decode cX5_isWrong 32 = .ok (.getfield 31, 3) := by decide +kernel
theorem dX5_isWrong_35 : decode cX5_isWrong 35 = .ok (.getstatic 89, 3) := by decide +kernel
theorem dX5_isWrong_38 : decode cX5_isWrong 38 = .ok (.iload_n 1, 1) := by decide +kernel
theorem dX5_isWrong_39 : decode cX5_isWrong 39 = .ok (.invokestatic 69, 3) := by decide +kernel
theorem dX5_isWrong_42 : decode cX5_isWrong 42 = .ok (.iand, 1) := by decide +kernel
theorem dX5_isWrong_43 : decode cX5_isWrong 43 = .ok (.ifCond .eq 7, 3) := by decide +kernel
theorem dX5_isWrong_46 : decode cX5_isWrong 46 = .ok (.iconst 1, 1) := by decide +kernel
theorem dX5_isWrong_47 : decode cX5_isWrong 47 = .ok (.goto 4, 3) := by decide +kernel
theorem dX5_isWrong_50 : decode cX5_isWrong 50 = .ok (.iconst 0, 1) := by decide +kernel
theorem dX5_isWrong_51 : decode cX5_isWrong 51 = .ok (.ireturn, 1) := by decide +kernel
set_option maxRecDepth 20000 in
theorem ggX5_readLongest_J0_length_8abf5 : GoodIn wsX5_readLongest wsJ0_length_8abf5 := goodIn_r _ [6, 7, 8, 9, 10, 5, 11, 12, 13] (by decide +kernel) (by decide +kernel)
set_option maxRecDepth 20000 in
theorem gX5_readLongest_J0_length_8abf5 : GoodIn wsX5_readLongest (wsV RX5 95 RJ0 yJ0_length_8abf5 wsJ0_length_8abf5) := goodIn_app (goodIn_of _ (by decide +kernel)) ggX5_readLongest_J0_length_8abf5
set_option maxRecDepth 20000 in
theorem ggX5_readLongest_J0_charAt_5068e : GoodIn wsX5_readLongest wsJ0_charAt_5068e := goodIn_r _ [17, 7, 18, 19, 20, 5, 21, 12, 13, 22, 23, 24, 25, 26, 27, 28, 29, 30, 31, 32, 33, 34, 35, 36, 37, 38, 39, 40, 41, 42, 43, 44, 45, 46, 47, 48, 49, 50] (by decide +kernel) (by decide +kernel)
set_option maxRecDepth 20000 in
theorem gX5_readLongest_J0_charAt_5068e : GoodIn wsX5_readLongest (wsV RX5 99 RJ0 yJ0_charAt_5068e wsJ0_charAt_5068e) := goodIn_app (goodIn_of _ (by decide +kernel)) ggX5_readLongest_J0_charAt_5068e
set_option maxRecDepth 20000 in
theorem ggX5_readLongest_X5_stands : GoodIn wsX5_readLongest wsX5_stands := goodIn_r _ [55, 1, 56, 57, 58, 54, 59, 60, 61, 14, 15, 16, 5, 17, 7, 18, 19, 20, 21, 12, 13, 22, 23, 24, 25, 26, 27, 28, 29, 30, 31, 32, 33, 34, 35, 36, 37, 38, 39, 40, 41, 42, 43, 44, 45, 46, 47, 48, 49, 50, 62, 63, 64, 65] (by decide +kernel) (by decide +kernel)
set_option maxRecDepth 20000 in
theorem gX5_readLongest_X5_stands : GoodIn wsX5_readLongest (wsV RX5 103 RX5 yX5_stands wsX5_stands) := goodIn_app (goodIn_of _ (by decide +kernel)) ggX5_readLongest_X5_stands
theorem dX5_readLongest_0 : decode cX5_readLongest 0 = .ok (.iconst (-1), 1) := by decide +kernel
theorem dX5_readLongest_1 : decode cX5_readLongest 1 = .ok (.istore_n 2, 1) := by decide +kernel
theorem dX5_readLongest_2 : decode cX5_readLongest 2 = .ok (.iconst 0, 1) := by decide +kernel
theorem dX5_readLongest_3 : decode cX5_readLongest 3 = .ok (.istore_n 3, 1) := by decide +kernel
theorem dX5_readLongest_4 : decode cX5_readLongest 4 = .ok (.iconst 0, 1) := by decide +kernel
theorem dX5_readLongest_5 : decode cX5_readLongest 5 = .ok (.istore 4, 2) := by decide +kernel
theorem dX5_readLongest_7 : decode cX5_readLongest 7 = .ok (.iconst 0, 1) := by decide +kernel
theorem dX5_readLongest_8 : decode cX5_readLongest 8 = .ok (.istore 5, 2) := by decide +kernel
theorem dX5_readLongest_10 : decode cX5_readLongest 10 = .ok (.iconst 0, 1) := by decide +kernel
theorem dX5_readLongest_11 : decode cX5_readLongest 11 = .ok (.istore 6, 2) := by decide +kernel
theorem dX5_readLongest_13 : decode cX5_readLongest 13 = .ok (.iload 6, 2) := by decide +kernel
theorem dX5_readLongest_15 : decode cX5_readLongest 15 = .ok (.aload_n 1, 1) := by decide +kernel
theorem dX5_readLongest_16 : decode cX5_readLongest 16 = .ok (.invokevirtual 95, 3) := by decide +kernel
theorem dX5_readLongest_19 : decode cX5_readLongest 19 = .ok (.if_icmp .gt 71, 3) := by decide +kernel
theorem dX5_readLongest_22 : decode cX5_readLongest 22 = .ok (.iload 6, 2) := by decide +kernel
theorem dX5_readLongest_24 : decode cX5_readLongest 24 = .ok (.aload_n 1, 1) := by decide +kernel
theorem dX5_readLongest_25 : decode cX5_readLongest 25 = .ok (.invokevirtual 95, 3) := by decide +kernel
theorem dX5_readLongest_28 : decode cX5_readLongest 28 = .ok (.if_icmp .ge 17, 3) := by decide +kernel
theorem dX5_readLongest_31 : decode cX5_readLongest 31 = .ok (.aload_n 1, 1) := by decide +kernel
theorem dX5_readLongest_32 : decode cX5_readLongest 32 = .ok (.iload 6, 2) := by decide +kernel
theorem dX5_readLongest_34 : decode cX5_readLongest 34 = .ok (.invokevirtual 99, 3) := by decide +kernel
theorem dX5_readLongest_37 : decode cX5_readLongest 37 = .ok (.bipush 32, 2) := by decide +kernel
theorem dX5_readLongest_39 : decode cX5_readLongest 39 = .ok (.if_icmp .eq 6, 3) := by decide +kernel
theorem dX5_readLongest_42 : decode cX5_readLongest 42 = .ok (.goto 42, 3) := by decide +kernel
theorem dX5_readLongest_45 : decode cX5_readLongest 45 = .ok (.iload 6, 2) := by decide +kernel
theorem dX5_readLongest_47 : decode cX5_readLongest 47 = .ok (.iload 5, 2) := by decide +kernel
theorem dX5_readLongest_49 : decode cX5_readLongest 49 = .ok (.isub, 1) := by decide +kernel
theorem dX5_readLongest_50 : decode cX5_readLongest 50 = .ok (.iload_n 3, 1) := by decide +kernel
theorem dX5_readLongest_51 : decode cX5_readLongest 51 = .ok (.if_icmp .le 24, 3) := by decide +kernel
theorem dX5_readLongest_54 : decode cX5_readLongest 54 = .ok (.aload_n 0, 1) := by decide +kernel
theorem dX5_readLongest_55 : decode cX5_readLongest 55 = .ok (.aload_n 1, 1) := by decide +kernel
theorem dX5_readLongest_56 : decode cX5_readLongest 56 = .ok (.iload 5, 2) := by decide +kernel
theorem dX5_readLongest_58 : decode cX5_readLongest 58 = .ok (.iload 6, 2) := by decide +kernel
theorem dX5_readLongest_60 : decode cX5_readLongest 60 = .ok (.invokevirtual 103, 3) := by decide +kernel
theorem dX5_readLongest_63 : decode cX5_readLongest 63 = .ok (.ifCond .eq 12, 3) := by decide +kernel
theorem dX5_readLongest_66 : decode cX5_readLongest 66 = .ok (.iload 4, 2) := by decide +kernel
theorem dX5_readLongest_68 : decode cX5_readLongest 68 = .ok (.istore_n 2, 1) := by decide +kernel
theorem dX5_readLongest_69 : decode cX5_readLongest 69 = .ok (.iload 6, 2) := by decide +kernel
theorem dX5_readLongest_71 : decode cX5_readLongest 71 = .ok (.iload 5, 2) := by decide +kernel
theorem dX5_readLongest_73 : decode cX5_readLongest 73 = .ok (.isub, 1) := by decide +kernel
theorem dX5_readLongest_74 : decode cX5_readLongest 74 = .ok (.istore_n 3, 1) := by decide +kernel
theorem dX5_readLongest_75 : decode cX5_readLongest 75 = .ok (.iinc 4 1, 3) := by decide +kernel
theorem dX5_readLongest_78 : decode cX5_readLongest 78 = .ok (.iload 6, 2) := by decide +kernel
theorem dX5_readLongest_80 : decode cX5_readLongest 80 = .ok (.iconst 1, 1) := by decide +kernel
theorem dX5_readLongest_81 : decode cX5_readLongest 81 = .ok (.iadd, 1) := by decide +kernel
theorem dX5_readLongest_82 : decode cX5_readLongest 82 = .ok (.istore 5, 2) := by decide +kernel
theorem dX5_readLongest_84 : decode cX5_readLongest 84 = .ok (.iinc 6 1, 3) := by decide +kernel
theorem dX5_readLongest_87 : decode cX5_readLongest 87 = .ok (.goto (-74), 3) := by decide +kernel
theorem dX5_readLongest_90 : decode cX5_readLongest 90 = .ok (.aload_n 0, 1) := by decide +kernel
theorem dX5_readLongest_91 : decode cX5_readLongest 91 = .ok (.dup, 1) := by decide +kernel
theorem dX5_readLongest_92 : decode cX5_readLongest 92 = .ok (.getfield 21, 3) := by decide +kernel
theorem dX5_readLongest_95 : decode cX5_readLongest 95 = .ok (.iload_n 3, 1) := by decide +kernel
theorem dX5_readLongest_96 : decode cX5_readLongest 96 = .ok (.iadd, 1) := by decide +kernel
theorem dX5_readLongest_97 : decode cX5_readLongest 97 = .ok (.putfield 21, 3) := by decide +kernel
theorem dX5_readLongest_100 : decode cX5_readLongest 100 = .ok (.iload_n 2, 1) := by decide +kernel
theorem dX5_readLongest_101 : decode cX5_readLongest 101 = .ok (.ireturn, 1) := by decide +kernel
set_option maxRecDepth 20000 in
theorem ggX5_stands_X5_byteAt : GoodIn wsX5_stands wsX5_byteAt := goodIn_r _ [6, 7, 8, 50, 51, 52, 53] (by decide +kernel) (by decide +kernel)
set_option maxRecDepth 20000 in
theorem gX5_stands_X5_byteAt : GoodIn wsX5_stands (wsV RX5 43 RX5 yX5_byteAt wsX5_byteAt) := goodIn_app (goodIn_of _ (by decide +kernel)) ggX5_stands_X5_byteAt
set_option maxRecDepth 20000 in
theorem ggX5_stands_J0_charAt_5068e : GoodIn wsX5_stands wsJ0_charAt_5068e := goodIn_r _ [13, 14, 15, 16, 17, 12, 18, 19, 20, 21, 22, 23, 24, 25, 26, 27, 28, 29, 30, 31, 32, 33, 34, 35, 36, 37, 38, 39, 40, 41, 42, 43, 44, 45, 46, 47, 48, 49] (by decide +kernel) (by decide +kernel)
set_option maxRecDepth 20000 in
theorem gX5_stands_J0_charAt_5068e : GoodIn wsX5_stands (wsV RX5 99 RJ0 yJ0_charAt_5068e wsJ0_charAt_5068e) := goodIn_app (goodIn_of _ (by decide +kernel)) ggX5_stands_J0_charAt_5068e
theorem dX5_stands_0 : decode cX5_stands 0 = .ok (.iload_n 2, 1) := by decide +kernel
theorem dX5_stands_1 : decode cX5_stands 1 = .ok (.istore 4, 2) := by decide +kernel
theorem dX5_stands_3 : decode cX5_stands 3 = .ok (.iload 4, 2) := by decide +kernel
theorem dX5_stands_5 : decode cX5_stands 5 = .ok (.iload_n 3, 1) := by decide +kernel
theorem dX5_stands_6 : decode cX5_stands 6 = .ok (.if_icmp .ge 33, 3) := by decide +kernel
theorem dX5_stands_9 : decode cX5_stands 9 = .ok (.aload_n 0, 1) := by decide +kernel
theorem dX5_stands_10 : decode cX5_stands 10 = .ok (.aload_n 0, 1) := by decide +kernel
theorem dX5_stands_11 : decode cX5_stands 11 = .ok (.getfield 21, 3) := by decide +kernel
theorem dX5_stands_14 : decode cX5_stands 14 = .ok (.iload 4, 2) := by decide +kernel
theorem dX5_stands_16 : decode cX5_stands 16 = .ok (.iadd, 1) := by decide +kernel
theorem dX5_stands_17 : decode cX5_stands 17 = .ok (.iload_n 2, 1) := by decide +kernel
theorem dX5_stands_18 : decode cX5_stands 18 = .ok (.isub, 1) := by decide +kernel
theorem dX5_stands_19 : decode cX5_stands 19 = .ok (.invokevirtual 43, 3) := by decide +kernel
theorem dX5_stands_22 : decode cX5_stands 22 = .ok (.aload_n 1, 1) := by decide +kernel
theorem dX5_stands_23 : decode cX5_stands 23 = .ok (.iload 4, 2) := by decide +kernel
theorem dX5_stands_25 : decode cX5_stands 25 = .ok (.invokevirtual 99, 3) := by decide +kernel
theorem dX5_stands_28 : decode cX5_stands 28 = .ok (.if_icmp .eq 5, 3) := by decide +kernel
theorem dX5_stands_31 : decode cX5_stands 31 = .ok (.iconst 0, 1) := by decide +kernel
theorem dX5_stands_32 : decode cX5_stands 32 = .ok (.ireturn, 1) := by decide +kernel
theorem dX5_stands_33 : decode cX5_stands 33 = .ok (.iinc 4 1, 3) := by decide +kernel
theorem dX5_stands_36 : decode cX5_stands 36 = .ok (.goto (-33), 3) := by decide +kernel
theorem dX5_stands_39 : decode cX5_stands 39 = .ok (.iconst 1, 1) := by decide +kernel
theorem dX5_stands_40 : decode cX5_stands 40 = .ok (.ireturn, 1) := by decide +kernel
theorem dX5_byteAt_0 : decode cX5_byteAt 0 = .ok (.iload_n 1, 1) := by decide +kernel
theorem dX5_byteAt_1 : decode cX5_byteAt 1 = .ok (.ifCond .lt 29, 3) := by decide +kernel
theorem dX5_byteAt_4 : decode cX5_byteAt 4 = .ok (.iload_n 1, 1) := by decide +kernel
theorem dX5_byteAt_5 : decode cX5_byteAt 5 = .ok (.aload_n 0, 1) := by decide +kernel
theorem dX5_byteAt_6 : decode cX5_byteAt 6 = .ok (.getfield 17, 3) := by decide +kernel
theorem dX5_byteAt_9 : decode cX5_byteAt 9 = .ok (.if_icmp .ge 21, 3) := by decide +kernel
theorem dX5_byteAt_12 : decode cX5_byteAt 12 = .ok (.iload_n 1, 1) := by decide +kernel
theorem dX5_byteAt_13 : decode cX5_byteAt 13 = .ok (.aload_n 0, 1) := by decide +kernel
theorem dX5_byteAt_14 : decode cX5_byteAt 14 = .ok (.getfield 13, 3) := by decide +kernel
theorem dX5_byteAt_17 : decode cX5_byteAt 17 = .ok (.arraylength, 1) := by decide +kernel
theorem dX5_byteAt_18 : decode cX5_byteAt 18 = .ok (.if_icmp .ge 12, 3) := by decide +kernel
theorem dX5_byteAt_21 : decode cX5_byteAt 21 = .ok (.aload_n 0, 1) := by decide +kernel
theorem dX5_byteAt_22 : decode cX5_byteAt 22 = .ok (.getfield 13, 3) := by decide +kernel
theorem dX5_byteAt_25 : decode cX5_byteAt 25 = .ok (.iload_n 1, 1) := by decide +kernel
theorem dX5_byteAt_26 : decode cX5_byteAt 26 = .ok (.iaload, 1) := by decide +kernel
theorem dX5_byteAt_27 : decode cX5_byteAt 27 = .ok (.goto 4, 3) := by decide +kernel
theorem dX5_byteAt_30 : decode cX5_byteAt 30 = .ok (.iconst (-1), 1) := by decide +kernel
theorem dX5_byteAt_31 : decode cX5_byteAt 31 = .ok (.ireturn, 1) := by decide +kernel
theorem dX6_init_0 : decode cX6_init 0 = .ok (.aload_n 0, 1) := by decide +kernel
theorem dX6_init_1 : decode cX6_init 1 = .ok (.invokespecial 3, 3) := by decide +kernel
theorem dX6_init_4 : decode cX6_init 4 = .ok (.aload_n 0, 1) := by decide +kernel
theorem dX6_init_5 : decode cX6_init 5 = .ok (.bipush 12, 2) := by decide +kernel
