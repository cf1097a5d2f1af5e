set_option maxRecDepth 20000 in
theorem ggX0_steps_X8_entry : GoodIn wsX0_steps wsX8_entry := goodIn_r _ [4] (by decide +kernel) (by decide +kernel)
set_option maxRecDepth 20000 in
theorem gX0_steps_X8_entry_n15 : GoodIn wsX0_steps (wsX8_entry) := ggX0_steps_X8_entry
theorem dX0_steps_0 : decode cX0_steps 0 = .ok (.getstatic 9, 3) := by decide +kernel
theorem dX0_steps_3 : decode cX0_steps 3 = .ok (.iload_n 0, 1) := by decide +kernel
theorem dX0_steps_4 : decode cX0_steps 4 = .ok (.invokestatic 15, 3) := by decide +kernel
theorem dX0_steps_7 : decode cX0_steps 7 = .ok (.ireturn, 1) := by decide +kernel
set_option maxRecDepth 20000 in
theorem ggX0_withSteps_X8_entry : GoodIn wsX0_withSteps wsX8_entry := goodIn_r _ [4] (by decide +kernel) (by decide +kernel)
set_option maxRecDepth 20000 in
theorem gX0_withSteps_X8_entry_n15 : GoodIn wsX0_withSteps (wsX8_entry) := ggX0_withSteps_X8_entry
theorem dX0_withSteps_0 : decode cX0_withSteps 0 = .ok (.iconst 0, 1) := by decide +kernel
theorem dX0_withSteps_1 : decode cX0_withSteps 1 = .ok (.istore_n 1, 1) := by decide +kernel
theorem dX0_withSteps_2 : decode cX0_withSteps 2 = .ok (.iload_n 1, 1) := by decide +kernel
theorem dX0_withSteps_3 : decode cX0_withSteps 3 = .ok (.bipush 20, 2) := by decide +kernel
theorem dX0_withSteps_5 : decode cX0_withSteps 5 = .ok (.if_icmp .ge 22, 3) := by decide +kernel
theorem dX0_withSteps_8 : decode cX0_withSteps 8 = .ok (.getstatic 9, 3) := by decide +kernel
theorem dX0_withSteps_11 : decode cX0_withSteps 11 = .ok (.iload_n 1, 1) := by decide +kernel
theorem dX0_withSteps_12 : decode cX0_withSteps 12 = .ok (.invokestatic 15, 3) := by decide +kernel
theorem dX0_withSteps_15 : decode cX0_withSteps 15 = .ok (.iload_n 0, 1) := by decide +kernel
theorem dX0_withSteps_16 : decode cX0_withSteps 16 = .ok (.if_icmp .ne 5, 3) := by decide +kernel
theorem dX0_withSteps_19 : decode cX0_withSteps 19 = .ok (.iload_n 1, 1) := by decide +kernel
theorem dX0_withSteps_20 : decode cX0_withSteps 20 = .ok (.ireturn, 1) := by decide +kernel
theorem dX0_withSteps_21 : decode cX0_withSteps 21 = .ok (.iinc 1 1, 3) := by decide +kernel
theorem dX0_withSteps_24 : decode cX0_withSteps 24 = .ok (.goto (-22), 3) := by decide +kernel
theorem dX0_withSteps_27 : decode cX0_withSteps 27 = .ok (.bipush 20, 2) := by decide +kernel
theorem dX0_withSteps_29 : decode cX0_withSteps 29 = .ok (.ireturn, 1) := by decide +kernel
theorem dX1_init_0 : decode cX1_init 0 = .ok (.aload_n 0, 1) := by decide +kernel
theorem dX1_init_1 : decode cX1_init 1 = .ok (.invokespecial 3, 3) := by decide +kernel
theorem dX1_init_4 : decode cX1_init 4 = .ok (.aload_n 0, 1) := by decide +kernel
theorem dX1_init_5 : decode cX1_init 5 = .ok (.iload_n 1, 1) := by decide +kernel
theorem dX1_init_6 : decode cX1_init 6 = .ok (.putfield 9, 3) := by decide +kernel
theorem dX1_init_9 : decode cX1_init 9 = .ok (.aload_n 0, 1) := by decide +kernel
theorem dX1_init_10 : decode cX1_init 10 = .ok (.iload_n 2, 1) := by decide +kernel
theorem dX1_init_11 : decode cX1_init 11 = .ok (.putfield 15, 3) := by decide +kernel
theorem dX1_init_14 : decode cX1_init 14 = .ok (.aload_n 0, 1) := by decide +kernel
theorem dX1_init_15 : decode cX1_init 15 = .ok (.iload_n 3, 1) := by decide +kernel
theorem dX1_init_16 : decode cX1_init 16 = .ok (.putfield 18, 3) := by decide +kernel
theorem dX1_init_19 : decode cX1_init 19 = .ok (.aload_n 0, 1) := by decide +kernel
theorem dX1_init_20 : decode cX1_init 20 = .ok (.iload 4, 2) := by decide +kernel
theorem dX1_init_22 : decode cX1_init 22 = .ok (.putfield 21, 3) := by decide +kernel
theorem dX1_init_25 : decode cX1_init 25 = .ok (.return_, 1) := by decide +kernel
theorem dX1_has_0 : decode cX1_has 0 = .ok (.aload_n 0, 1) := by decide +kernel
theorem dX1_has_1 : decode cX1_has 1 = .ok (.getfield 15, 3) := by decide +kernel
theorem dX1_has_4 : decode cX1_has 4 = .ok (.iload_n 1, 1) := by decide +kernel
theorem dX1_has_5 : decode cX1_has 5 = .ok (.iand, 1) := by decide +kernel
theorem dX1_has_6 : decode cX1_has 6 = .ok (.ifCond .eq 7, 3) := by decide +kernel
theorem dX1_has_9 : decode cX1_has 9 = .ok (.iconst 1, 1) := by decide +kernel
theorem dX1_has_10 : decode cX1_has 10 = .ok (.goto 4, 3) := by decide +kernel
theorem dX1_has_13 : decode cX1_has 13 = .ok (.iconst 0, 1) := by decide +kernel
theorem dX1_has_14 : decode cX1_has 14 = .ok (.ireturn, 1) := by decide +kernel
set_option maxRecDepth 20000 in
theorem ggX1_body_X0_withSteps : GoodIn wsX1_body wsX0_withSteps := goodIn_r _ [5, 6, 7, 8, 9] (by decide +kernel) (by decide +kernel)
set_option maxRecDepth 20000 in
theorem gX1_body_X0_withSteps : GoodIn wsX1_body (va_wsS RX1 25 yX0_withSteps wsX0_withSteps) := goodIn_app (goodIn_of _ (by decide +kernel)) ggX1_body_X0_withSteps
theorem dX1_body_0 : decode cX1_body 0 = .ok (.aload_n 0, 1) := by decide +kernel
theorem dX1_body_1 : decode cX1_body 1 = .ok (.getfield 15, 3) := by decide +kernel
theorem dX1_body_4 : decode cX1_body 4 = .ok (.invokestatic 25, 3) := by decide +kernel
theorem dX1_body_7 : decode cX1_body 7 = .ok (.ireturn, 1) := by decide +kernel
set_option maxRecDepth 20000 in
theorem ggX1_pitches_X3_pitch : GoodIn wsX1_pitches wsX3_pitch := goodIn_r _ [7, 8, 9, 6, 10, 11, 12, 13, 14, 15, 16, 17, 18, 19, 20, 21, 22, 23, 24] (by decide +kernel) (by decide +kernel)
set_option maxRecDepth 20000 in
theorem gX1_pitches_X3_pitch : GoodIn wsX1_pitches (va_wsS RX1 31 yX3_pitch wsX3_pitch) := goodIn_app (goodIn_of _ (by decide +kernel)) ggX1_pitches_X3_pitch
set_option maxRecDepth 20000 in
theorem ggX1_pitches_X4_set : GoodIn wsX1_pitches wsX4_set := goodIn_r _ [28, 29, 30, 27, 31, 32, 33, 34, 35, 15, 16, 17] (by decide +kernel) (by decide +kernel)
set_option maxRecDepth 20000 in
theorem gX1_pitches_X4_set : GoodIn wsX1_pitches (va_wsS RX1 36 yX4_set wsX4_set) := goodIn_app (goodIn_of _ (by decide +kernel)) ggX1_pitches_X4_set
theorem dX1_pitches_0 : decode cX1_pitches 0 = .ok (.aload_n 0, 1) := by decide +kernel
theorem dX1_pitches_1 : decode cX1_pitches 1 = .ok (.getfield 9, 3) := by decide +kernel
theorem dX1_pitches_4 : decode cX1_pitches 4 = .ok (.invokestatic 31, 3) := by decide +kernel
theorem dX1_pitches_7 : decode cX1_pitches 7 = .ok (.aload_n 0, 1) := by decide +kernel
theorem dX1_pitches_8 : decode cX1_pitches 8 = .ok (.getfield 15, 3) := by decide +kernel
theorem dX1_pitches_11 : decode cX1_pitches 11 = .ok (.invokestatic 36, 3) := by decide +kernel
theorem dX1_pitches_14 : decode cX1_pitches 14 = .ok (.iconst 1, 1) := by decide +kernel
theorem dX1_pitches_15 : decode cX1_pitches 15 = .ok (.aload_n 0, 1) := by decide +kernel
theorem dX1_pitches_16 : decode cX1_pitches 16 = .ok (.getfield 18, 3) := by decide +kernel
theorem dX1_pitches_19 : decode cX1_pitches 19 = .ok (.invokestatic 31, 3) := by decide +kernel
theorem dX1_pitches_22 : decode cX1_pitches 22 = .ok (.ishl, 1) := by decide +kernel
theorem dX1_pitches_23 : decode cX1_pitches 23 = .ok (.ior, 1) := by decide +kernel
theorem dX1_pitches_24 : decode cX1_pitches 24 = .ok (.ireturn, 1) := by decide +kernel
set_option maxRecDepth 20000 in
theorem ggX1_degreeOfBass_X4_isIn : GoodIn wsX1_degreeOfBass wsX4_isIn := goodIn_r _ [7] (by decide +kernel) (by decide +kernel)
set_option maxRecDepth 20000 in
theorem gX1_degreeOfBass_X4_isIn : GoodIn wsX1_degreeOfBass (va_wsS RX1 42 yX4_isIn wsX4_isIn) := goodIn_app (goodIn_of _ (by decide +kernel)) ggX1_degreeOfBass_X4_isIn
set_option maxRecDepth 20000 in
theorem ggX1_degreeOfBass_X4_pitch : GoodIn wsX1_degreeOfBass wsX4_pitch := goodIn_r _ [10, 11, 12, 13, 14, 15, 16, 17, 18, 19, 20, 21, 22, 23, 24, 25, 26, 27, 28, 29, 30, 31, 32, 33, 6, 34, 35] (by decide +kernel) (by decide +kernel)
set_option maxRecDepth 20000 in
theorem gX1_degreeOfBass_X4_pitch : GoodIn wsX1_degreeOfBass (va_wsS RX1 46 yX4_pitch wsX4_pitch) := goodIn_app (goodIn_of _ (by decide +kernel)) ggX1_degreeOfBass_X4_pitch
set_option maxRecDepth 20000 in
theorem ggX1_degreeOfBass_X3_pitch : GoodIn wsX1_degreeOfBass wsX3_pitch := goodIn_r _ [14, 15, 16, 13, 17, 18, 19, 20, 21, 22, 23, 24, 25, 26, 27, 28, 29, 30, 31] (by decide +kernel) (by decide +kernel)
set_option maxRecDepth 20000 in
theorem gX1_degreeOfBass_X3_pitch : GoodIn wsX1_degreeOfBass (va_wsS RX1 31 yX3_pitch wsX3_pitch) := goodIn_app (goodIn_of _ (by decide +kernel)) ggX1_degreeOfBass_X3_pitch
set_option maxRecDepth 20000 in
theorem ggX1_degreeOfBass_X4_degree : GoodIn wsX1_degreeOfBass wsX4_degree := goodIn_r _ [39, 40, 22, 23, 24] (by decide +kernel) (by decide +kernel)
set_option maxRecDepth 20000 in
theorem gX1_degreeOfBass_X4_degree : GoodIn wsX1_degreeOfBass (va_wsS RX1 48 yX4_degree wsX4_degree) := goodIn_app (goodIn_of _ (by decide +kernel)) ggX1_degreeOfBass_X4_degree
theorem dX1_degreeOfBass_0 : decode cX1_degreeOfBass 0 = .ok (.iconst 0, 1) := by decide +kernel
theorem dX1_degreeOfBass_1 : decode cX1_degreeOfBass 1 = .ok (.istore_n 1, 1) := by decide +kernel
theorem dX1_degreeOfBass_2 : decode cX1_degreeOfBass 2 = .ok (.iload_n 1, 1) := by decide +kernel
theorem dX1_degreeOfBass_3 : decode cX1_degreeOfBass 3 = .ok (.bipush 19, 2) := by decide +kernel
theorem dX1_degreeOfBass_5 : decode cX1_degreeOfBass 5 = .ok (.if_icmp .ge 43, 3) := by decide +kernel
theorem dX1_degreeOfBass_8 : decode cX1_degreeOfBass 8 = .ok (.aload_n 0, 1) := by decide +kernel
theorem dX1_degreeOfBass_9 : decode cX1_degreeOfBass 9 = .ok (.getfield 15, 3) := by decide +kernel
theorem dX1_degreeOfBass_12 : decode cX1_degreeOfBass 12 = .ok (.iload_n 1, 1) := by decide +kernel
theorem dX1_degreeOfBass_13 : decode cX1_degreeOfBass 13 = .ok (.invokestatic 42, 3) := by decide +kernel
theorem dX1_degreeOfBass_16 : decode cX1_degreeOfBass 16 = .ok (.ifCond .eq 26, 3) := by decide +kernel
theorem dX1_degreeOfBass_19 : decode cX1_degreeOfBass 19 = .ok (.aload_n 0, 1) := by decide +kernel
theorem dX1_degreeOfBass_20 : decode cX1_degreeOfBass 20 = .ok (.getfield 9, 3) := by decide +kernel
theorem dX1_degreeOfBass_23 : decode cX1_degreeOfBass 23 = .ok (.iload_n 1, 1) := by decide +kernel
theorem dX1_degreeOfBass_24 : decode cX1_degreeOfBass 24 = .ok (.invokestatic 46, 3) := by decide +kernel
theorem dX1_degreeOfBass_27 : decode cX1_degreeOfBass 27 = .ok (.aload_n 0, 1) := by decide +kernel
theorem dX1_degreeOfBass_28 : decode cX1_degreeOfBass 28 = .ok (.getfield 18, 3) := by decide +kernel
theorem dX1_degreeOfBass_31 : decode cX1_degreeOfBass 31 = .ok (.invokestatic 31, 3) := by decide +kernel
theorem dX1_degreeOfBass_34 : decode cX1_degreeOfBass 34 = .ok (.if_icmp .ne 8, 3) := by decide +kernel
theorem dX1_degreeOfBass_37 : decode cX1_degreeOfBass 37 = .ok (.iload_n 1, 1) := by decide +kernel
theorem dX1_degreeOfBass_38 : decode cX1_degreeOfBass 38 = .ok (.invokestatic 48, 3) := by decide +kernel
theorem dX1_degreeOfBass_41 : decode cX1_degreeOfBass 41 = .ok (.ireturn, 1) := by decide +kernel
theorem dX1_degreeOfBass_42 : decode cX1_degreeOfBass 42 = .ok (.iinc 1 1, 3) := by decide +kernel
theorem dX1_degreeOfBass_45 : decode cX1_degreeOfBass 45 = .ok (.goto (-43), 3) := by decide +kernel
theorem dX1_degreeOfBass_48 : decode cX1_degreeOfBass 48 = .ok (.iconst 0, 1) := by decide +kernel
theorem dX1_degreeOfBass_49 : decode cX1_degreeOfBass 49 = .ok (.ireturn, 1) := by decide +kernel
set_option maxRecDepth 20000 in
theorem ggX1_movedBy_X3_pitch : GoodIn wsX1_movedBy wsX3_pitch := goodIn_r _ [11, 12, 13, 10, 14, 15, 16, 17, 18, 19, 20, 21, 22, 23, 24, 25, 26, 27, 28] (by decide +kernel) (by decide +kernel)
set_option maxRecDepth 20000 in
theorem gX1_movedBy_X3_pitch : GoodIn wsX1_movedBy (va_wsS RX1 31 yX3_pitch wsX3_pitch) := goodIn_app (goodIn_of _ (by decide +kernel)) ggX1_movedBy_X3_pitch
set_option maxRecDepth 20000 in
theorem ggX1_movedBy_X3_spelt : GoodIn wsX1_movedBy wsX3_spelt := goodIn_r _ [31, 32, 33, 10, 34, 25, 26, 27, 28, 15, 16, 17, 18, 19, 20, 21, 35, 36, 37, 38, 39, 40, 41, 42, 43, 44, 45, 46, 13, 14, 47, 9, 11, 12, 22, 23, 24, 48, 49, 50, 51, 52, 53, 54, 55, 56, 57, 58, 59, 60, 61, 62, 63, 64, 65, 66, 67] (by decide +kernel) (by decide +kernel)
set_option maxRecDepth 20000 in
theorem gX1_movedBy_X3_spelt : GoodIn wsX1_movedBy (va_wsS RX1 51 yX3_spelt wsX3_spelt) := goodIn_app (goodIn_of _ (by decide +kernel)) ggX1_movedBy_X3_spelt
set_option maxRecDepth 20000 in
theorem ggX1_movedBy_X1_init : GoodIn wsX1_movedBy wsX1_init := goodIn_r _ [70, 71, 72, 73, 1, 4, 2, 3, 76, 77, 78, 79] (by decide +kernel) (by decide +kernel)
set_option maxRecDepth 20000 in
theorem gX1_movedBy_X1_init : GoodIn wsX1_movedBy (wsX1_init) := ggX1_movedBy_X1_init
set_option maxRecDepth 20000 in
theorem ggX1_movedBy_X3_withSigns : GoodIn wsX1_movedBy wsX3_withSigns := goodIn_r _ [34, 25, 26, 27, 28, 15, 16, 10, 17, 18, 19, 20, 21, 35, 36, 37] (by decide +kernel) (by decide +kernel)
set_option maxRecDepth 20000 in
theorem gX1_movedBy_X3_withSigns : GoodIn wsX1_movedBy (va_wsS RX1 57 yX3_withSigns wsX3_withSigns) := goodIn_app (goodIn_of _ (by decide +kernel)) ggX1_movedBy_X3_withSigns
set_option maxRecDepth 20000 in
theorem ggX1_movedBy_X4_weight : GoodIn wsX1_movedBy wsX4_weight := goodIn_r _ [41, 42, 43, 44, 45, 46, 13, 10, 14, 47, 9, 11, 12, 15, 16, 17, 18, 19, 20, 21, 22, 23, 24, 25, 26, 27, 28, 48, 49, 50, 40, 51, 52, 53, 54, 55, 56, 57, 58, 59, 60, 61, 62, 63, 64, 65, 66, 67] (by decide +kernel) (by decide +kernel)
set_option maxRecDepth 20000 in
theorem gX1_movedBy_X4_weight : GoodIn wsX1_movedBy (va_wsS RX1 60 yX4_weight wsX4_weight) := goodIn_app (goodIn_of _ (by decide +kernel)) ggX1_movedBy_X4_weight
theorem dX1_movedBy_0 : decode cX1_movedBy 0 = .ok (.aload_n 0, 1) := by decide +kernel
theorem dX1_movedBy_1 : decode cX1_movedBy 1 = .ok (.getfield 9, 3) := by decide +kernel
theorem dX1_movedBy_4 : decode cX1_movedBy 4 = .ok (.invokestatic 31, 3) := by decide +kernel
theorem dX1_movedBy_7 : decode cX1_movedBy 7 = .ok (.iload_n 1, 1) := by decide +kernel
theorem dX1_movedBy_8 : decode cX1_movedBy 8 = .ok (.iadd, 1) := by decide +kernel
theorem dX1_movedBy_9 : decode cX1_movedBy 9 = .ok (.bipush 12, 2) := by decide +kernel
theorem dX1_movedBy_11 : decode cX1_movedBy 11 = .ok (.irem, 1) := by decide +kernel
theorem dX1_movedBy_12 : decode cX1_movedBy 12 = .ok (.istore_n 2, 1) := by decide +kernel
theorem dX1_movedBy_13 : decode cX1_movedBy 13 = .ok (.aload_n 0, 1) := by decide +kernel
theorem dX1_movedBy_14 : decode cX1_movedBy 14 = .ok (.getfield 18, 3) := by decide +kernel
theorem dX1_movedBy_17 : decode cX1_movedBy 17 = .ok (.invokestatic 31, 3) := by decide +kernel
theorem dX1_movedBy_20 : decode cX1_movedBy 20 = .ok (.iload_n 1, 1) := by decide +kernel
theorem dX1_movedBy_21 : decode cX1_movedBy 21 = .ok (.iadd, 1) := by decide +kernel
theorem dX1_movedBy_22 : decode cX1_movedBy 22 = .ok (.bipush 12, 2) := by decide +kernel
theorem dX1_movedBy_24 : decode cX1_movedBy 24 = .ok (.irem, 1) := by decide +kernel
theorem dX1_movedBy_25 : decode cX1_movedBy 25 = .ok (.istore_n 3, 1) := by decide +kernel
theorem dX1_movedBy_26 : decode cX1_movedBy 26 = .ok (.aload_n 0, 1) := by decide +kernel
theorem dX1_movedBy_27 : decode cX1_movedBy 27 = .ok (.getfield 21, 3) := by decide +kernel
theorem dX1_movedBy_30 : decode cX1_movedBy 30 = .ok (.ifCond .ne 30, 3) := by decide +kernel
theorem dX1_movedBy_33 : decode cX1_movedBy 33 = .ok (.iload_n 2, 1) := by decide +kernel
theorem dX1_movedBy_34 : decode cX1_movedBy 34 = .ok (.aload_n 0, 1) := by decide +kernel
theorem dX1_movedBy_35 : decode cX1_movedBy 35 = .ok (.getfield 15, 3) := by decide +kernel
theorem dX1_movedBy_38 : decode cX1_movedBy 38 = .ok (.invokestatic 51, 3) := by decide +kernel
theorem dX1_movedBy_41 : decode cX1_movedBy 41 = .ok (.istore 4, 2) := by decide +kernel
theorem dX1_movedBy_43 : decode cX1_movedBy 43 = .ok (.new 10, 3) := by decide +kernel
theorem dX1_movedBy_46 : decode cX1_movedBy 46 = .ok (.dup, 1) := by decide +kernel
theorem dX1_movedBy_47 : decode cX1_movedBy 47 = .ok (.iload 4, 2) := by decide +kernel
theorem dX1_movedBy_49 : decode cX1_movedBy 49 = .ok (.aload_n 0, 1) := by decide +kernel
theorem dX1_movedBy_50 : decode cX1_movedBy 50 = .ok (.getfield 15, 3) := by decide +kernel
theorem dX1_movedBy_53 : decode cX1_movedBy 53 = .ok (.iload 4, 2) := by decide +kernel
theorem dX1_movedBy_55 : decode cX1_movedBy 55 = .ok (.iconst 0, 1) := by decide +kernel
theorem dX1_movedBy_56 : decode cX1_movedBy 56 = .ok (.invokespecial 54, 3) := by decide +kernel
theorem dX1_movedBy_59 : decode cX1_movedBy 59 = .ok (.areturn, 1) := by decide +kernel
theorem dX1_movedBy_60 : decode cX1_movedBy 60 = .ok (.iconst (-1), 1) := by decide +kernel
theorem dX1_movedBy_61 : decode cX1_movedBy 61 = .ok (.istore 4, 2) := by decide +kernel
theorem dX1_movedBy_63 : decode cX1_movedBy 63 = .ok (.iconst (-1), 1) := by decide +kernel
theorem dX1_movedBy_64 : decode cX1_movedBy 64 = .ok (.istore 5, 2) := by decide +kernel
theorem dX1_movedBy_66 : decode cX1_movedBy 66 = .ok (.iconst 0, 1) := by decide +kernel
theorem dX1_movedBy_67 : decode cX1_movedBy 67 = .ok (.istore 6, 2) := by decide +kernel
theorem dX1_movedBy_69 : decode cX1_movedBy 69 = .ok (.iconst 0, 1) := by decide +kernel
theorem dX1_movedBy_70 : decode cX1_movedBy 70 = .ok (.istore 7, 2) := by decide +kernel
theorem dX1_movedBy_72 : decode cX1_movedBy 72 = .ok (.iload 7, 2) := by decide +kernel
theorem dX1_movedBy_74 : decode cX1_movedBy 74 = .ok (.bipush 9, 2) := by decide +kernel
theorem dX1_movedBy_76 : decode cX1_movedBy 76 = .ok (.if_icmp .ge 86, 3) := by decide +kernel
theorem dX1_movedBy_79 : decode cX1_movedBy 79 = .ok (.iload_n 2, 1) := by decide +kernel
theorem dX1_movedBy_80 : decode cX1_movedBy 80 = .ok (.iload 7, 2) := by decide +kernel
theorem dX1_movedBy_82 : decode cX1_movedBy 82 = .ok (.iconst 3, 1) := by decide +kernel
theorem dX1_movedBy_83 : decode cX1_movedBy 83 = .ok (.idiv, 1) := by decide +kernel
theorem dX1_movedBy_84 : decode cX1_movedBy 84 = .ok (.iconst 1, 1) := by decide +kernel
theorem dX1_movedBy_85 : decode cX1_movedBy 85 = .ok (.isub, 1) := by decide +kernel
theorem dX1_movedBy_86 : decode cX1_movedBy 86 = .ok (.invokestatic 57, 3) := by decide +kernel
theorem dX1_movedBy_89 : decode cX1_movedBy 89 = .ok (.istore 8, 2) := by decide +kernel
theorem dX1_movedBy_91 : decode cX1_movedBy 91 = .ok (.iload_n 3, 1) := by decide +kernel
theorem dX1_movedBy_92 : decode cX1_movedBy 92 = .ok (.iload 7, 2) := by decide +kernel
theorem dX1_movedBy_94 : decode cX1_movedBy 94 = .ok (.iconst 3, 1) := by decide +kernel
theorem dX1_movedBy_95 : decode cX1_movedBy 95 = .ok (.irem, 1) := by decide +kernel
theorem dX1_movedBy_96 : decode cX1_movedBy 96 = .ok (.iconst 1, 1) := by decide +kernel
theorem dX1_movedBy_97 : decode cX1_movedBy 97 = .ok (.isub, 1) := by decide +kernel
theorem dX1_movedBy_98 : decode cX1_movedBy 98 = .ok (.invokestatic 57, 3) := by decide +kernel
theorem dX1_movedBy_101 : decode cX1_movedBy 101 = .ok (.istore 9, 2) := by decide +kernel
theorem dX1_movedBy_103 : decode cX1_movedBy 103 = .ok (.iload 8, 2) := by decide +kernel
theorem dX1_movedBy_105 : decode cX1_movedBy 105 = .ok (.iconst (-1), 1) := by decide +kernel
theorem dX1_movedBy_106 : decode cX1_movedBy 106 = .ok (.if_icmp .eq 50, 3) := by decide +kernel
theorem dX1_movedBy_109 : decode cX1_movedBy 109 = .ok (.iload 9, 2) := by decide +kernel
theorem dX1_movedBy_111 : decode cX1_movedBy 111 = .ok (.iconst (-1), 1) := by decide +kernel
theorem dX1_movedBy_112 : decode cX1_movedBy 112 = .ok (.if_icmp .ne 6, 3) := by decide +kernel
theorem dX1_movedBy_115 : decode cX1_movedBy 115 = .ok (.goto 41, 3) := by decide +kernel
theorem dX1_movedBy_118 : decode cX1_movedBy 118 = .ok (.iload 8, 2) := by decide +kernel
theorem dX1_movedBy_120 : decode cX1_movedBy 120 = .ok (.aload_n 0, 1) := by decide +kernel
theorem dX1_movedBy_121 : decode cX1_movedBy 121 = .ok (.getfield 15, 3) := by decide +kernel
theorem dX1_movedBy_124 : decode cX1_movedBy 124 = .ok (.iload 9, 2) := by decide +kernel
theorem dX1_movedBy_126 : decode cX1_movedBy 126 = .ok (.invokestatic 60, 3) := by decide +kernel
theorem dX1_movedBy_129 : decode cX1_movedBy 129 = .ok (.istore 10, 2) := by decide +kernel
theorem dX1_movedBy_131 : decode cX1_movedBy 131 = .ok (.iload 4, 2) := by decide +kernel
theorem dX1_movedBy_133 : decode cX1_movedBy 133 = .ok (.iconst (-1), 1) := by decide +kernel
theorem dX1_movedBy_134 : decode cX1_movedBy 134 = .ok (.if_icmp .eq 10, 3) := by decide +kernel
theorem dX1_movedBy_137 : decode cX1_movedBy 137 = .ok (.iload 10, 2) := by decide +kernel
theorem dX1_movedBy_139 : decode cX1_movedBy 139 = .ok (.iload 6, 2) := by decide +kernel
theorem dX1_movedBy_141 : decode cX1_movedBy 141 = .ok (.if_icmp .ge 15, 3) := by decide +kernel
theorem dX1_movedBy_144 : decode cX1_movedBy 144 = .ok (.iload 8, 2) := by decide +kernel
theorem dX1_movedBy_146 : decode cX1_movedBy 146 = .ok (.istore 4, 2) := by decide +kernel
theorem dX1_movedBy_148 : decode cX1_movedBy 148 = .ok (.iload 9, 2) := by decide +kernel
theorem dX1_movedBy_150 : decode cX1_movedBy 150 = .ok (.istore 5, 2) := by decide +kernel
theorem dX1_movedBy_152 : decode cX1_movedBy 152 = .ok (.iload 10, 2) := by decide +kernel
theorem dX1_movedBy_154 : decode cX1_movedBy 154 = .ok (.istore 6, 2) := by decide +kernel
theorem dX1_movedBy_156 : decode cX1_movedBy 156 = .ok (.iinc 7 1, 3) := by decide +kernel
theorem dX1_movedBy_159 : decode cX1_movedBy 159 = .ok (.goto (-87), 3) := by decide +kernel
theorem dX1_movedBy_162 : decode cX1_movedBy 162 = .ok (.new 10, 3) := by decide +kernel
theorem dX1_movedBy_165 : decode cX1_movedBy 165 = .ok (.dup, 1) := by decide +kernel
theorem dX1_movedBy_166 : decode cX1_movedBy 166 = .ok (.iload 4, 2) := by decide +kernel
theorem dX1_movedBy_168 : decode cX1_movedBy 168 = .ok (.aload_n 0, 1) := by decide +kernel
theorem dX1_movedBy_169 : decode cX1_movedBy 169 = .ok (.getfield 15, 3) := by decide +kernel
theorem dX1_movedBy_172 : decode cX1_movedBy 172 = .ok (.iload 5, 2) := by decide +kernel
theorem dX1_movedBy_174 : decode cX1_movedBy 174 = .ok (.iconst 1, 1) := by decide +kernel
theorem dX1_movedBy_175 : decode cX1_movedBy 175 = .ok (.invokespecial 54, 3) := by decide +kernel
theorem dX1_movedBy_178 : decode cX1_movedBy 178 = .ok (.areturn, 1) := by decide +kernel
set_option maxRecDepth 20000 in
theorem ggX2_init_X0_steps : GoodIn wsX2_init wsX0_steps := goodIn_r _ [10, 11, 12, 13, 14] (by decide +kernel) (by decide +kernel)
set_option maxRecDepth 20000 in
theorem gX2_init_X0_steps : GoodIn wsX2_init (va_wsS RX2 20 yX0_steps wsX0_steps) := goodIn_app (goodIn_of _ (by decide +kernel)) ggX2_init_X0_steps
set_option maxRecDepth 20000 in
theorem ggX2_init_X4_set : GoodIn wsX2_init wsX4_set := goodIn_r _ [18, 19, 20, 17, 21, 22, 23, 24, 25, 12, 13, 14] (by decide +kernel) (by decide +kernel)
set_option maxRecDepth 20000 in
theorem gX2_init_X4_set : GoodIn wsX2_init (va_wsS RX2 24 yX4_set wsX4_set) := goodIn_app (goodIn_of _ (by decide +kernel)) ggX2_init_X4_set
theorem dX2_init_0 : decode cX2_init 0 = .ok (.aload_n 0, 1) := by decide +kernel
theorem dX2_init_1 : decode cX2_init 1 = .ok (.invokespecial 5, 3) := by decide +kernel
theorem dX2_init_4 : decode cX2_init 4 = .ok (.aload_n 0, 1) := by decide +kernel
theorem dX2_init_5 : decode cX2_init 5 = .ok (.bipush 20, 2) := by decide +kernel
theorem dX2_init_7 : decode cX2_init 7 = .ok (.newarray .int, 2) := by decide +kernel
theorem dX2_init_9 : decode cX2_init 9 = .ok (.putfield 11, 3) := by decide +kernel
theorem dX2_init_12 : decode cX2_init 12 = .ok (.aload_n 0, 1) := by decide +kernel
theorem dX2_init_13 : decode cX2_init 13 = .ok (.sipush 240, 3) := by decide +kernel
theorem dX2_init_16 : decode cX2_init 16 = .ok (.newarray .int, 2) := by decide +kernel
theorem dX2_init_18 : decode cX2_init 18 = .ok (.putfield 17, 3) := by decide +kernel
theorem dX2_init_21 : decode cX2_init 21 = .ok (.iconst 0, 1) := by decide +kernel
theorem dX2_init_22 : decode cX2_init 22 = .ok (.istore_n 1, 1) := by decide +kernel
theorem dX2_init_23 : decode cX2_init 23 = .ok (.iload_n 1, 1) := by decide +kernel
theorem dX2_init_24 : decode cX2_init 24 = .ok (.bipush 20, 2) := by decide +kernel
theorem dX2_init_26 : decode cX2_init 26 = .ok (.if_icmp .ge 23, 3) := by decide +kernel
theorem dX2_init_29 : decode cX2_init 29 = .ok (.aload_n 0, 1) := by decide +kernel
theorem dX2_init_30 : decode cX2_init 30 = .ok (.getfield 11, 3) := by decide +kernel
theorem dX2_init_33 : decode cX2_init 33 = .ok (.iload_n 1, 1) := by decide +kernel
theorem dX2_init_34 : decode cX2_init 34 = .ok (.iconst 0, 1) := by decide +kernel
theorem dX2_init_35 : decode cX2_init 35 = .ok (.iload_n 1, 1) := by decide +kernel
theorem dX2_init_36 : decode cX2_init 36 = .ok (.invokestatic 20, 3) := by decide +kernel
theorem dX2_init_39 : decode cX2_init 39 = .ok (.invokestatic 24, 3) := by decide +kernel
theorem dX2_init_42 : decode cX2_init 42 = .ok (.iastore, 1) := by decide +kernel
theorem dX2_init_43 : decode cX2_init 43 = .ok (.iinc 1 1, 3) := by decide +kernel
theorem dX2_init_46 : decode cX2_init 46 = .ok (.goto (-23), 3) := by decide +kernel
theorem dX2_init_49 : decode cX2_init 49 = .ok (.return_, 1) := by decide +kernel
theorem dX2_bodyOf_0 : decode cX2_bodyOf 0 = .ok (.iload_n 0, 1) := by decide +kernel
theorem dX2_bodyOf_1 : decode cX2_bodyOf 1 = .ok (.bipush 20, 2) := by decide +kernel
theorem dX2_bodyOf_3 : decode cX2_bodyOf 3 = .ok (.irem, 1) := by decide +kernel
theorem dX2_bodyOf_4 : decode cX2_bodyOf 4 = .ok (.ireturn, 1) := by decide +kernel
set_option maxRecDepth 20000 in
theorem ggX2_rootOf_X2_bodyOf : GoodIn wsX2_rootOf wsX2_bodyOf := goodIn_r _ [4] (by decide +kernel) (by decide +kernel)
set_option maxRecDepth 20000 in
theorem gX2_rootOf_X2_bodyOf : GoodIn wsX2_rootOf (va_wsS RX2 30 yX2_bodyOf wsX2_bodyOf) := goodIn_app (goodIn_of _ (by decide +kernel)) ggX2_rootOf_X2_bodyOf
set_option maxRecDepth 20000 in
theorem ggX2_rootOf_X0_steps : GoodIn wsX2_rootOf wsX0_steps := goodIn_r _ [8, 9, 10, 11, 12] (by decide +kernel) (by decide +kernel)
set_option maxRecDepth 20000 in
theorem gX2_rootOf_X0_steps : GoodIn wsX2_rootOf (va_wsS RX2 20 yX0_steps wsX0_steps) := goodIn_app (goodIn_of _ (by decide +kernel)) ggX2_rootOf_X0_steps
set_option maxRecDepth 20000 in
theorem ggX2_rootOf_X3_spelt : GoodIn wsX2_rootOf wsX3_spelt := goodIn_r _ [16, 17, 18, 15, 19, 20, 21, 22, 23, 24, 25, 26, 27, 10, 11, 12, 28, 29, 30, 31, 32, 33, 34, 35, 36, 37, 38, 39, 40, 41, 42, 43, 44, 45, 46, 47, 48, 49, 50, 51, 52, 53, 54, 55, 56, 57, 58, 59, 60, 61, 62, 63, 64, 65, 66, 67, 68] (by decide +kernel) (by decide +kernel)
set_option maxRecDepth 20000 in
theorem gX2_rootOf_X3_spelt : GoodIn wsX2_rootOf (va_wsS RX2 33 yX3_spelt wsX3_spelt) := goodIn_app (goodIn_of _ (by decide +kernel)) ggX2_rootOf_X3_spelt
theorem dX2_rootOf_0 : decode cX2_rootOf 0 = .ok (.iload_n 0, 1) := by decide +kernel
theorem dX2_rootOf_1 : decode cX2_rootOf 1 = .ok (.iload_n 1, 1) := by decide +kernel
theorem dX2_rootOf_2 : decode cX2_rootOf 2 = .ok (.bipush 20, 2) := by decide +kernel
theorem dX2_rootOf_4 : decode cX2_rootOf 4 = .ok (.idiv, 1) := by decide +kernel
theorem dX2_rootOf_5 : decode cX2_rootOf 5 = .ok (.iadd, 1) := by decide +kernel
theorem dX2_rootOf_6 : decode cX2_rootOf 6 = .ok (.bipush 12, 2) := by decide +kernel
theorem dX2_rootOf_8 : decode cX2_rootOf 8 = .ok (.irem, 1) := by decide +kernel
theorem dX2_rootOf_9 : decode cX2_rootOf 9 = .ok (.iload_n 1, 1) := by decide +kernel
theorem dX2_rootOf_10 : decode cX2_rootOf 10 = .ok (.invokestatic 30, 3) := by decide +kernel
theorem dX2_rootOf_13 : decode cX2_rootOf 13 = .ok (.invokestatic 20, 3) := by decide +kernel
theorem dX2_rootOf_16 : decode cX2_rootOf 16 = .ok (.invokestatic 33, 3) := by decide +kernel
theorem dX2_rootOf_19 : decode cX2_rootOf 19 = .ok (.ireturn, 1) := by decide +kernel
set_option maxRecDepth 20000 in
theorem ggX2_bassNote_X0_steps : GoodIn wsX2_bassNote wsX0_steps := goodIn_r _ [4, 5, 6, 7, 8] (by decide +kernel) (by decide +kernel)
set_option maxRecDepth 20000 in
theorem gX2_bassNote_X0_steps : GoodIn wsX2_bassNote (va_wsS RX2 20 yX0_steps wsX0_steps) := goodIn_app (goodIn_of _ (by decide +kernel)) ggX2_bassNote_X0_steps
set_option maxRecDepth 20000 in
theorem ggX2_bassNote_X3_spelt : GoodIn wsX2_bassNote wsX3_spelt := goodIn_r _ [12, 13, 14, 11, 15, 16, 17, 18, 19, 20, 21, 22, 23, 6, 7, 8, 24, 25, 26, 27, 28, 29, 30, 31, 32, 33, 34, 35, 36, 37, 38, 39, 40, 41, 42, 43, 44, 45, 46, 47, 48, 49, 50, 51, 52, 53, 54, 55, 56, 57, 58, 59, 60, 61, 62, 63, 64] (by decide +kernel) (by decide +kernel)
set_option maxRecDepth 20000 in
theorem gX2_bassNote_X3_spelt : GoodIn wsX2_bassNote (va_wsS RX2 33 yX3_spelt wsX3_spelt) := goodIn_app (goodIn_of _ (by decide +kernel)) ggX2_bassNote_X3_spelt
theorem dX2_bassNote_0 : decode cX2_bassNote 0 = .ok (.iload_n 0, 1) := by decide +kernel
theorem dX2_bassNote_1 : decode cX2_bassNote 1 = .ok (.iconst 0, 1) := by decide +kernel
theorem dX2_bassNote_2 : decode cX2_bassNote 2 = .ok (.invokestatic 20, 3) := by decide +kernel
theorem dX2_bassNote_5 : decode cX2_bassNote 5 = .ok (.invokestatic 33, 3) := by decide +kernel
theorem dX2_bassNote_8 : decode cX2_bassNote 8 = .ok (.ireturn, 1) := by decide +kernel
set_option maxRecDepth 20000 in
theorem ggX2_find_X2_means : GoodIn wsX2_find wsX2_means := goodIn_r _ [8, 9, 10, 11, 7, 12, 13, 14, 15, 16, 17, 18, 19] (by decide +kernel) (by decide +kernel)
set_option maxRecDepth 20000 in
theorem gX2_find_X2_means : GoodIn wsX2_find (wsV RX2 45 RX2 yX2_means wsX2_means) := goodIn_app (goodIn_of _ (by decide +kernel)) ggX2_find_X2_means
theorem dX2_find_0 : decode cX2_find 0 = .ok (.aload_n 0, 1) := by decide +kernel
theorem dX2_find_1 : decode cX2_find 1 = .ok (.iload_n 2, 1) := by decide +kernel
theorem dX2_find_2 : decode cX2_find 2 = .ok (.putfield 38, 3) := by decide +kernel
theorem dX2_find_5 : decode cX2_find 5 = .ok (.aload_n 0, 1) := by decide +kernel
theorem dX2_find_6 : decode cX2_find 6 = .ok (.iconst 0, 1) := by decide +kernel
theorem dX2_find_7 : decode cX2_find 7 = .ok (.putfield 42, 3) := by decide +kernel
theorem dX2_find_10 : decode cX2_find 10 = .ok (.iconst 0, 1) := by decide +kernel
theorem dX2_find_11 : decode cX2_find 11 = .ok (.istore_n 3, 1) := by decide +kernel
theorem dX2_find_12 : decode cX2_find 12 = .ok (.iload_n 3, 1) := by decide +kernel
theorem dX2_find_13 : decode cX2_find 13 = .ok (.sipush 240, 3) := by decide +kernel
theorem dX2_find_16 : decode cX2_find 16 = .ok (.if_icmp .ge 51, 3) := by decide +kernel
theorem dX2_find_19 : decode cX2_find 19 = .ok (.aload_n 0, 1) := by decide +kernel
theorem dX2_find_20 : decode cX2_find 20 = .ok (.iload_n 3, 1) := by decide +kernel
theorem dX2_find_21 : decode cX2_find 21 = .ok (.iload_n 1, 1) := by decide +kernel
theorem dX2_find_22 : decode cX2_find 22 = .ok (.iload_n 2, 1) := by decide +kernel
theorem dX2_find_23 : decode cX2_find 23 = .ok (.invokevirtual 45, 3) := by decide +kernel
theorem dX2_find_26 : decode cX2_find 26 = .ok (.ifCond .eq 35, 3) := by decide +kernel
theorem dX2_find_29 : decode cX2_find 29 = .ok (.aload_n 0, 1) := by decide +kernel
theorem dX2_find_30 : decode cX2_find 30 = .ok (.getfield 42, 3) := by decide +kernel
theorem dX2_find_33 : decode cX2_find 33 = .ok (.aload_n 0, 1) := by decide +kernel
theorem dX2_find_34 : decode cX2_find 34 = .ok (.getfield 17, 3) := by decide +kernel
theorem dX2_find_37 : decode cX2_find 37 = .ok (.arraylength, 1) := by decide +kernel
theorem dX2_find_38 : decode cX2_find 38 = .ok (.if_icmp .ge 23, 3) := by decide +kernel
theorem dX2_find_41 : decode cX2_find 41 = .ok (.aload_n 0, 1) := by decide +kernel
theorem dX2_find_42 : decode cX2_find 42 = .ok (.getfield 17, 3) := by decide +kernel
theorem dX2_find_45 : decode cX2_find 45 = .ok (.aload_n 0, 1) := by decide +kernel
theorem dX2_find_46 : decode cX2_find 46 = .ok (.getfield 42, 3) := by decide +kernel
theorem dX2_find_49 : decode cX2_find 49 = .ok (.iload_n 3, 1) := by decide +kernel
theorem dX2_find_50 : decode cX2_find 50 = .ok (.iastore, 1) := by decide +kernel
theorem dX2_find_51 : decode cX2_find 51 = .ok (.aload_n 0, 1) := by decide +kernel
theorem dX2_find_52 : decode cX2_find 52 = .ok (.dup, 1) := by decide +kernel
theorem dX2_find_53 : decode cX2_find 53 = .ok (.getfield 42, 3) := by decide +kernel
theorem dX2_find_56 : decode cX2_find 56 = .ok (.iconst 1, 1) := by decide +kernel
theorem dX2_find_57 : decode cX2_find 57 = .ok (.iadd, 1) := by decide +kernel
theorem dX2_find_58 : decode cX2_find 58 = .ok (.putfield 42, 3) := by decide +kernel
theorem dX2_find_61 : decode cX2_find 61 = .ok (.iinc 3 1, 3) := by decide +kernel
theorem dX2_find_64 : decode cX2_find 64 = .ok (.goto (-52), 3) := by decide +kernel
theorem dX2_find_67 : decode cX2_find 67 = .ok (.aload_n 0, 1) := by decide +kernel
theorem dX2_find_68 : decode cX2_find 68 = .ok (.getfield 42, 3) := by decide +kernel
theorem dX2_find_71 : decode cX2_find 71 = .ok (.ireturn, 1) := by decide +kernel
set_option maxRecDepth 20000 in
theorem ggX2_first_X2_means : GoodIn wsX2_first wsX2_means := goodIn_r _ [5, 6, 7, 8, 4, 9, 10, 11, 12, 13, 14, 15, 16] (by decide +kernel) (by decide +kernel)
set_option maxRecDepth 20000 in
theorem gX2_first_X2_means : GoodIn wsX2_first (wsV RX2 45 RX2 yX2_means wsX2_means) := goodIn_app (goodIn_of _ (by decide +kernel)) ggX2_first_X2_means
theorem dX2_first_0 : decode cX2_first 0 = .ok (.iconst 0, 1) := by decide +kernel
theorem dX2_first_1 : decode cX2_first 1 = .ok (.istore_n 3, 1) := by decide +kernel
theorem dX2_first_2 : decode cX2_first 2 = .ok (.iload_n 3, 1) := by decide +kernel
theorem dX2_first_3 : decode cX2_first 3 = .ok (.sipush 240, 3) := by decide +kernel
theorem dX2_first_6 : decode cX2_first 6 = .ok (.if_icmp .ge 21, 3) := by decide +kernel
theorem dX2_first_9 : decode cX2_first 9 = .ok (.aload_n 0, 1) := by decide +kernel
theorem dX2_first_10 : decode cX2_first 10 = .ok (.iload_n 3, 1) := by decide +kernel
theorem dX2_first_11 : decode cX2_first 11 = .ok (.iload_n 1, 1) := by decide +kernel
theorem dX2_first_12 : decode cX2_first 12 = .ok (.iload_n 2, 1) := by decide +kernel
theorem dX2_first_13 : decode cX2_first 13 = .ok (.invokevirtual 45, 3) := by decide +kernel
theorem dX2_first_16 : decode cX2_first 16 = .ok (.ifCond .eq 5, 3) := by decide +kernel
theorem dX2_first_19 : decode cX2_first 19 = .ok (.iload_n 3, 1) := by decide +kernel
theorem dX2_first_20 : decode cX2_first 20 = .ok (.ireturn, 1) := by decide +kernel
theorem dX2_first_21 : decode cX2_first 21 = .ok (.iinc 3 1, 3) := by decide +kernel
theorem dX2_first_24 : decode cX2_first 24 = .ok (.goto (-22), 3) := by decide +kernel
theorem dX2_first_27 : decode cX2_first 27 = .ok (.iconst (-1), 1) := by decide +kernel
theorem dX2_first_28 : decode cX2_first 28 = .ok (.ireturn, 1) := by decide +kernel
theorem dX2_placeOf_0 : decode cX2_placeOf 0 = .ok (.iload_n 1, 1) := by decide +kernel
theorem dX2_placeOf_1 : decode cX2_placeOf 1 = .ok (.ifCond .lt 29, 3) := by decide +kernel
theorem dX2_placeOf_4 : decode cX2_placeOf 4 = .ok (.iload_n 1, 1) := by decide +kernel
theorem dX2_placeOf_5 : decode cX2_placeOf 5 = .ok (.aload_n 0, 1) := by decide +kernel
theorem dX2_placeOf_6 : decode cX2_placeOf 6 = .ok (.getfield 42, 3) := by decide +kernel
theorem dX2_placeOf_9 : decode cX2_placeOf 9 = .ok (.if_icmp .ge 21, 3) := by decide +kernel
theorem dX2_placeOf_12 : decode cX2_placeOf 12 = .ok (.iload_n 1, 1) := by decide +kernel
theorem dX2_placeOf_13 : decode cX2_placeOf 13 = .ok (.aload_n 0, 1) := by decide +kernel
theorem dX2_placeOf_14 : decode cX2_placeOf 14 = .ok (.getfield 17, 3) := by decide +kernel
theorem dX2_placeOf_17 : decode cX2_placeOf 17 = .ok (.arraylength, 1) := by decide +kernel
theorem dX2_placeOf_18 : decode cX2_placeOf 18 = .ok (.if_icmp .ge 12, 3) := by decide +kernel
theorem dX2_placeOf_21 : decode cX2_placeOf 21 = .ok (.aload_n 0, 1) := by decide +kernel
theorem dX2_placeOf_22 : decode cX2_placeOf 22 = .ok (.getfield 17, 3) := by decide +kernel
theorem dX2_placeOf_25 : decode cX2_placeOf 25 = .ok (.iload_n 1, 1) := by decide +kernel
theorem dX2_placeOf_26 : decode cX2_placeOf 26 = .ok (.iaload, 1) := by decide +kernel
theorem dX2_placeOf_27 : decode cX2_placeOf 27 = .ok (.goto 4, 3) := by decide +kernel
theorem dX2_placeOf_30 : decode cX2_placeOf 30 = .ok (.iconst (-1), 1) := by decide +kernel
theorem dX2_placeOf_31 : decode cX2_placeOf 31 = .ok (.ireturn, 1) := by decide +kernel
set_option maxRecDepth 20000 in
theorem ggX2_means_X2_bodyOf : GoodIn wsX2_means wsX2_bodyOf := goodIn_r _ [5] (by decide +kernel) (by decide +kernel)
set_option maxRecDepth 20000 in
theorem gX2_means_X2_bodyOf : GoodIn wsX2_means (va_wsS RX2 30 yX2_bodyOf wsX2_bodyOf) := goodIn_app (goodIn_of _ (by decide +kernel)) ggX2_means_X2_bodyOf
set_option maxRecDepth 20000 in
theorem ggX2_means_X8_entry : GoodIn wsX2_means wsX8_entry := goodIn_r _ [8] (by decide +kernel) (by decide +kernel)
set_option maxRecDepth 20000 in
theorem gX2_means_X8_entry_n49 : GoodIn wsX2_means (wsX8_entry) := ggX2_means_X8_entry
theorem dX2_means_0 : decode cX2_means 0 = .ok (.iload_n 3, 1) := by decide +kernel
theorem dX2_means_1 : decode cX2_means 1 = .ok (.iload_n 1, 1) := by decide +kernel
theorem dX2_means_2 : decode cX2_means 2 = .ok (.bipush 20, 2) := by decide +kernel
theorem dX2_means_4 : decode cX2_means 4 = .ok (.idiv, 1) := by decide +kernel
theorem dX2_means_5 : decode cX2_means 5 = .ok (.iadd, 1) := by decide +kernel
theorem dX2_means_6 : decode cX2_means 6 = .ok (.bipush 12, 2) := by decide +kernel
theorem dX2_means_8 : decode cX2_means 8 = .ok (.irem, 1) := by decide +kernel
theorem dX2_means_9 : decode cX2_means 9 = .ok (.istore 4, 2) := by decide +kernel
theorem dX2_means_11 : decode cX2_means 11 = .ok (.aload_n 0, 1) := by decide +kernel
theorem dX2_means_12 : decode cX2_means 12 = .ok (.getfield 11, 3) := by decide +kernel
theorem dX2_means_15 : decode cX2_means 15 = .ok (.iload_n 1, 1) := by decide +kernel
theorem dX2_means_16 : decode cX2_means 16 = .ok (.invokestatic 30, 3) := by decide +kernel
theorem dX2_means_19 : decode cX2_means 19 = .ok (.invokestatic 49, 3) := by decide +kernel
theorem dX2_means_22 : decode cX2_means 22 = .ok (.iload 4, 2) := by decide +kernel
theorem dX2_means_24 : decode cX2_means 24 = .ok (.ishl, 1) := by decide +kernel
theorem dX2_means_25 : decode cX2_means 25 = .ok (.istore 5, 2) := by decide +kernel
theorem dX2_means_27 : decode cX2_means 27 = .ok (.iload 5, 2) := by decide +kernel
theorem dX2_means_29 : decode cX2_means 29 = .ok (.iload 5, 2) := by decide +kernel
theorem dX2_means_31 : decode cX2_means 31 = .ok (.bipush 12, 2) := by decide +kernel
theorem dX2_means_33 : decode cX2_means 33 = .ok (.ishr, 1) := by decide +kernel
theorem dX2_means_34 : decode cX2_means 34 = .ok (.ior, 1) := by decide +kernel
theorem dX2_means_35 : decode cX2_means 35 = .ok (.sipush 4095, 3) := by decide +kernel
theorem dX2_means_38 : decode cX2_means 38 = .ok (.iand, 1) := by decide +kernel
theorem dX2_means_39 : decode cX2_means 39 = .ok (.istore 6, 2) := by decide +kernel
theorem dX2_means_41 : decode cX2_means 41 = .ok (.iload 6, 2) := by decide +kernel
theorem dX2_means_43 : decode cX2_means 43 = .ok (.iconst 1, 1) := by decide +kernel
theorem dX2_means_44 : decode cX2_means 44 = .ok (.iload_n 3, 1) := by decide +kernel
theorem dX2_means_45 : decode cX2_means 45 = .ok (.ishl, 1) := by decide +kernel
theorem dX2_means_46 : decode cX2_means 46 = .ok (.ior, 1) := by decide +kernel
theorem dX2_means_47 : decode cX2_means 47 = .ok (.iload_n 2, 1) := by decide +kernel
theorem dX2_means_48 : decode cX2_means 48 = .ok (.if_icmp .ne 7, 3) := by decide +kernel
theorem dX2_means_51 : decode cX2_means 51 = .ok (.iconst 1, 1) := by decide +kernel
theorem dX2_means_52 : decode cX2_means 52 = .ok (.goto 4, 3) := by decide +kernel
theorem dX2_means_55 : decode cX2_means 55 = .ok (.iconst 0, 1) := by decide +kernel
theorem dX2_means_56 : decode cX2_means 56 = .ok (.ireturn, 1) := by decide +kernel
theorem dX3_note_0 : decode cX3_note 0 = .ok (.iload_n 0, 1) := by decide +kernel
theorem dX3_note_1 : decode cX3_note 1 = .ok (.iconst 5, 1) := by decide +kernel
theorem dX3_note_2 : decode cX3_note 2 = .ok (.imul, 1) := by decide +kernel
theorem dX3_note_3 : decode cX3_note 3 = .ok (.iload_n 1, 1) := by decide +kernel
theorem dX3_note_4 : decode cX3_note 4 = .ok (.iadd, 1) := by decide +kernel
theorem dX3_note_5 : decode cX3_note 5 = .ok (.iconst 2, 1) := by decide +kernel
theorem dX3_note_6 : decode cX3_note 6 = .ok (.iadd, 1) := by decide +kernel
theorem dX3_note_7 : decode cX3_note 7 = .ok (.ireturn, 1) := by decide +kernel
theorem dX3_letter_0 : decode cX3_letter 0 = .ok (.iload_n 0, 1) := by decide +kernel
theorem dX3_letter_1 : decode cX3_letter 1 = .ok (.iconst 5, 1) := by decide +kernel
theorem dX3_letter_2 : decode cX3_letter 2 = .ok (.idiv, 1) := by decide +kernel
theorem dX3_letter_3 : decode cX3_letter 3 = .ok (.ireturn, 1) := by decide +kernel
theorem dX3_signs_0 : decode cX3_signs 0 = .ok (.iload_n 0, 1) := by decide +kernel
theorem dX3_signs_1 : decode cX3_signs 1 = .ok (.iconst 5, 1) := by decide +kernel
theorem dX3_signs_2 : decode cX3_signs 2 = .ok (.irem, 1) := by decide +kernel
theorem dX3_signs_3 : decode cX3_signs 3 = .ok (.iconst 2, 1) := by decide +kernel
theorem dX3_signs_4 : decode cX3_signs 4 = .ok (.isub, 1) := by decide +kernel
theorem dX3_signs_5 : decode cX3_signs 5 = .ok (.ireturn, 1) := by decide +kernel
set_option maxRecDepth 20000 in
theorem ggX3_pitch_X3_letter : GoodIn wsX3_pitch wsX3_letter := goodIn_r _ [4] (by decide +kernel) (by decide +kernel)
set_option maxRecDepth 20000 in
theorem gX3_pitch_X3_letter : GoodIn wsX3_pitch (va_wsS RX3 9 yX3_letter wsX3_letter) := goodIn_app (goodIn_of _ (by decide +kernel)) ggX3_pitch_X3_letter
set_option maxRecDepth 20000 in
theorem ggX3_pitch_X3_letterPitch : GoodIn wsX3_pitch wsX3_letterPitch := goodIn_r _ [7, 8, 9, 10, 11] (by decide +kernel) (by decide +kernel)
set_option maxRecDepth 20000 in
theorem gX3_pitch_X3_letterPitch : GoodIn wsX3_pitch (va_wsS RX3 15 yX3_letterPitch wsX3_letterPitch) := goodIn_app (goodIn_of _ (by decide +kernel)) ggX3_pitch_X3_letterPitch
set_option maxRecDepth 20000 in
theorem ggX3_pitch_X3_signs : GoodIn wsX3_pitch wsX3_signs := goodIn_r _ [14] (by decide +kernel) (by decide +kernel)
set_option maxRecDepth 20000 in
theorem gX3_pitch_X3_signs : GoodIn wsX3_pitch (va_wsS RX3 18 yX3_signs wsX3_signs) := goodIn_app (goodIn_of _ (by decide +kernel)) ggX3_pitch_X3_signs
set_option maxRecDepth 20000 in
theorem ggX3_pitch_J9_floorMod_7cf53 : GoodIn wsX3_pitch wsJ9_floorMod_7cf53 := goodIn_r _ [18] (by decide +kernel) (by decide +kernel)
set_option maxRecDepth 20000 in
theorem gX3_pitch_J9_floorMod_7cf53 : GoodIn wsX3_pitch (va_wsS RX3 21 yJ9_floorMod_7cf53 wsJ9_floorMod_7cf53) := goodIn_app (goodIn_of _ (by decide +kernel)) ggX3_pitch_J9_floorMod_7cf53
theorem dX3_pitch_0 : decode cX3_pitch 0 = .ok (.iload_n 0, 1) := by decide +kernel
theorem dX3_pitch_1 : decode cX3_pitch 1 = .ok (.invokestatic 9, 3) := by decide +kernel
theorem dX3_pitch_4 : decode cX3_pitch 4 = .ok (.invokestatic 15, 3) := by decide +kernel
theorem dX3_pitch_7 : decode cX3_pitch 7 = .ok (.iload_n 0, 1) := by decide +kernel
theorem dX3_pitch_8 : decode cX3_pitch 8 = .ok (.invokestatic 18, 3) := by decide +kernel
theorem dX3_pitch_11 : decode cX3_pitch 11 = .ok (.iadd, 1) := by decide +kernel
theorem dX3_pitch_12 : decode cX3_pitch 12 = .ok (.bipush 12, 2) := by decide +kernel
theorem dX3_pitch_14 : decode cX3_pitch 14 = .ok (.invokestatic 21, 3) := by decide +kernel
theorem dX3_pitch_17 : decode cX3_pitch 17 = .ok (.ireturn, 1) := by decide +kernel
set_option maxRecDepth 20000 in
theorem ggX3_letterPitch_X8_entry : GoodIn wsX3_letterPitch wsX8_entry := goodIn_r _ [4] (by decide +kernel) (by decide +kernel)
set_option maxRecDepth 20000 in
theorem gX3_letterPitch_X8_entry_n31 : GoodIn wsX3_letterPitch (wsX8_entry) := ggX3_letterPitch_X8_entry
theorem dX3_letterPitch_0 : decode cX3_letterPitch 0 = .ok (.getstatic 27, 3) := by decide +kernel
theorem dX3_letterPitch_3 : decode cX3_letterPitch 3 = .ok (.iload_n 0, 1) := by decide +kernel
theorem dX3_letterPitch_4 : decode cX3_letterPitch 4 = .ok (.invokestatic 31, 3) := by decide +kernel
theorem dX3_letterPitch_7 : decode cX3_letterPitch 7 = .ok (.ireturn, 1) := by decide +kernel
set_option maxRecDepth 20000 in
theorem ggX3_withSigns_J9_floorMod_7cf53 : GoodIn wsX3_withSigns wsJ9_floorMod_7cf53 := goodIn_r _ [4] (by decide +kernel) (by decide +kernel)
set_option maxRecDepth 20000 in
theorem gX3_withSigns_J9_floorMod_7cf53 : GoodIn wsX3_withSigns (va_wsS RX3 21 yJ9_floorMod_7cf53 wsJ9_floorMod_7cf53) := goodIn_app (goodIn_of _ (by decide +kernel)) ggX3_withSigns_J9_floorMod_7cf53
set_option maxRecDepth 20000 in
theorem ggX3_withSigns_X3_letterPitch : GoodIn wsX3_withSigns wsX3_letterPitch := goodIn_r _ [8, 9, 10, 11, 12] (by decide +kernel) (by decide +kernel)
set_option maxRecDepth 20000 in
theorem gX3_withSigns_X3_letterPitch : GoodIn wsX3_withSigns (va_wsS RX3 15 yX3_letterPitch wsX3_letterPitch) := goodIn_app (goodIn_of _ (by decide +kernel)) ggX3_withSigns_X3_letterPitch
set_option maxRecDepth 20000 in
theorem ggX3_withSigns_X3_note : GoodIn wsX3_withSigns wsX3_note := goodIn_r _ [15] (by decide +kernel) (by decide +kernel)
set_option maxRecDepth 20000 in
theorem gX3_withSigns_X3_note : GoodIn wsX3_withSigns (va_wsS RX3 35 yX3_note wsX3_note) := goodIn_app (goodIn_of _ (by decide +kernel)) ggX3_withSigns_X3_note
theorem dX3_withSigns_0 : decode cX3_withSigns 0 = .ok (.iload_n 0, 1) := by decide +kernel
theorem dX3_withSigns_1 : decode cX3_withSigns 1 = .ok (.iload_n 1, 1) := by decide +kernel
theorem dX3_withSigns_2 : decode cX3_withSigns 2 = .ok (.isub, 1) := by decide +kernel
theorem dX3_withSigns_3 : decode cX3_withSigns 3 = .ok (.bipush 12, 2) := by decide +kernel
theorem dX3_withSigns_5 : decode cX3_withSigns 5 = .ok (.invokestatic 21, 3) := by decide +kernel
theorem dX3_withSigns_8 : decode cX3_withSigns 8 = .ok (.istore_n 2, 1) := by decide +kernel
theorem dX3_withSigns_9 : decode cX3_withSigns 9 = .ok (.iconst 0, 1) := by decide +kernel
theorem dX3_withSigns_10 : decode cX3_withSigns 10 = .ok (.istore_n 3, 1) := by decide +kernel
theorem dX3_withSigns_11 : decode cX3_withSigns 11 = .ok (.iload_n 3, 1) := by decide +kernel
theorem dX3_withSigns_12 : decode cX3_withSigns 12 = .ok (.bipush 7, 2) := by decide +kernel
theorem dX3_withSigns_14 : decode cX3_withSigns 14 = .ok (.if_icmp .ge 23, 3) := by decide +kernel
theorem dX3_withSigns_17 : decode cX3_withSigns 17 = .ok (.iload_n 3, 1) := by decide +kernel
theorem dX3_withSigns_18 : decode cX3_withSigns 18 = .ok (.invokestatic 15, 3) := by decide +kernel
theorem dX3_withSigns_21 : decode cX3_withSigns 21 = .ok (.iload_n 2, 1) := by decide +kernel
theorem dX3_withSigns_22 : decode cX3_withSigns 22 = .ok (.if_icmp .ne 9, 3) := by decide +kernel
theorem dX3_withSigns_25 : decode cX3_withSigns 25 = .ok (.iload_n 3, 1) := by decide +kernel
theorem dX3_withSigns_26 : decode cX3_withSigns 26 = .ok (.iload_n 1, 1) := by decide +kernel
theorem dX3_withSigns_27 : decode cX3_withSigns 27 = .ok (.invokestatic 35, 3) := by decide +kernel
theorem dX3_withSigns_30 : decode cX3_withSigns 30 = .ok (.ireturn, 1) := by decide +kernel
theorem dX3_withSigns_31 : decode cX3_withSigns 31 = .ok (.iinc 3 1, 3) := by decide +kernel
theorem dX3_withSigns_34 : decode cX3_withSigns 34 = .ok (.goto (-23), 3) := by decide +kernel
theorem dX3_withSigns_37 : decode cX3_withSigns 37 = .ok (.iconst (-1), 1) := by decide +kernel
theorem dX3_withSigns_38 : decode cX3_withSigns 38 = .ok (.ireturn, 1) := by decide +kernel
set_option maxRecDepth 20000 in
theorem ggX3_spelt_X3_withSigns : GoodIn wsX3_spelt wsX3_withSigns := goodIn_r _ [4, 5, 6, 7, 8, 9, 10, 3, 11, 12, 13, 14, 15, 16, 17, 18] (by decide +kernel) (by decide +kernel)
set_option maxRecDepth 20000 in
theorem gX3_spelt_X3_withSigns : GoodIn wsX3_spelt (va_wsS RX3 38 yX3_withSigns wsX3_withSigns) := goodIn_app (goodIn_of _ (by decide +kernel)) ggX3_spelt_X3_withSigns
set_option maxRecDepth 20000 in
theorem ggX3_spelt_X4_weight : GoodIn wsX3_spelt wsX4_weight := goodIn_r _ [22, 23, 24, 25, 26, 27, 28, 3, 29, 30, 31, 32, 33, 9, 10, 11, 12, 13, 14, 15, 34, 35, 36, 5, 6, 7, 8, 37, 38, 39, 21, 40, 41, 42, 43, 44, 45, 46, 47, 48, 49, 50, 51, 52, 53, 54, 55, 56] (by decide +kernel) (by decide +kernel)
set_option maxRecDepth 20000 in
theorem gX3_spelt_X4_weight : GoodIn wsX3_spelt (va_wsS RX3 41 yX4_weight wsX4_weight) := goodIn_app (goodIn_of _ (by decide +kernel)) ggX3_spelt_X4_weight
theorem dX3_spelt_0 : decode cX3_spelt 0 = .ok (.iconst (-1), 1) := by decide +kernel
theorem dX3_spelt_1 : decode cX3_spelt 1 = .ok (.istore_n 2, 1) := by decide +kernel
theorem dX3_spelt_2 : decode cX3_spelt 2 = .ok (.iconst 0, 1) := by decide +kernel
theorem dX3_spelt_3 : decode cX3_spelt 3 = .ok (.istore_n 3, 1) := by decide +kernel
theorem dX3_spelt_4 : decode cX3_spelt 4 = .ok (.iconst (-1), 1) := by decide +kernel
theorem dX3_spelt_5 : decode cX3_spelt 5 = .ok (.istore 4, 2) := by decide +kernel
theorem dX3_spelt_7 : decode cX3_spelt 7 = .ok (.iload 4, 2) := by decide +kernel
theorem dX3_spelt_9 : decode cX3_spelt 9 = .ok (.iconst 1, 1) := by decide +kernel
theorem dX3_spelt_10 : decode cX3_spelt 10 = .ok (.if_icmp .gt 53, 3) := by decide +kernel
theorem dX3_spelt_13 : decode cX3_spelt 13 = .ok (.iload_n 0, 1) := by decide +kernel
theorem dX3_spelt_14 : decode cX3_spelt 14 = .ok (.iload 4, 2) := by decide +kernel
theorem dX3_spelt_16 : decode cX3_spelt 16 = .ok (.invokestatic 38, 3) := by decide +kernel
theorem dX3_spelt_19 : decode cX3_spelt 19 = .ok (.istore 5, 2) := by decide +kernel
theorem dX3_spelt_21 : decode cX3_spelt 21 = .ok (.iload 5, 2) := by decide +kernel
theorem dX3_spelt_23 : decode cX3_spelt 23 = .ok (.iconst (-1), 1) := by decide +kernel
theorem dX3_spelt_24 : decode cX3_spelt 24 = .ok (.if_icmp .ne 6, 3) := by decide +kernel
theorem dX3_spelt_27 : decode cX3_spelt 27 = .ok (.goto 30, 3) := by decide +kernel
theorem dX3_spelt_30 : decode cX3_spelt 30 = .ok (.iload 5, 2) := by decide +kernel
theorem dX3_spelt_32 : decode cX3_spelt 32 = .ok (.iload_n 1, 1) := by decide +kernel
theorem dX3_spelt_33 : decode cX3_spelt 33 = .ok (.iload 5, 2) := by decide +kernel
theorem dX3_spelt_35 : decode cX3_spelt 35 = .ok (.invokestatic 41, 3) := by decide +kernel
theorem dX3_spelt_38 : decode cX3_spelt 38 = .ok (.istore 6, 2) := by decide +kernel
theorem dX3_spelt_40 : decode cX3_spelt 40 = .ok (.iload_n 2, 1) := by decide +kernel
theorem dX3_spelt_41 : decode cX3_spelt 41 = .ok (.iconst (-1), 1) := by decide +kernel
theorem dX3_spelt_42 : decode cX3_spelt 42 = .ok (.if_icmp .eq 9, 3) := by decide +kernel
theorem dX3_spelt_45 : decode cX3_spelt 45 = .ok (.iload 6, 2) := by decide +kernel
theorem dX3_spelt_47 : decode cX3_spelt 47 = .ok (.iload_n 3, 1) := by decide +kernel
theorem dX3_spelt_48 : decode cX3_spelt 48 = .ok (.if_icmp .ge 9, 3) := by decide +kernel
theorem dX3_spelt_51 : decode cX3_spelt 51 = .ok (.iload 5, 2) := by decide +kernel
theorem dX3_spelt_53 : decode cX3_spelt 53 = .ok (.istore_n 2, 1) := by decide +kernel
theorem dX3_spelt_54 : decode cX3_spelt 54 = .ok (.iload 6, 2) := by decide +kernel
theorem dX3_spelt_56 : decode cX3_spelt 56 = .ok (.istore_n 3, 1) := by decide +kernel
theorem dX3_spelt_57 : decode cX3_spelt 57 = .ok (.iinc 4 1, 3) := by decide +kernel
theorem dX3_spelt_60 : decode cX3_spelt 60 = .ok (.goto (-53), 3) := by decide +kernel
theorem dX3_spelt_63 : decode cX3_spelt 63 = .ok (.iload_n 2, 1) := by decide +kernel
theorem dX3_spelt_64 : decode cX3_spelt 64 = .ok (.ireturn, 1) := by decide +kernel
theorem dX4_isIn_0 : decode cX4_isIn 0 = .ok (.iload_n 0, 1) := by decide +kernel
theorem dX4_isIn_1 : decode cX4_isIn 1 = .ok (.iload_n 1, 1) := by decide +kernel
theorem dX4_isIn_2 : decode cX4_isIn 2 = .ok (.ishr, 1) := by decide +kernel
theorem dX4_isIn_3 : decode cX4_isIn 3 = .ok (.iconst 1, 1) := by decide +kernel
theorem dX4_isIn_4 : decode cX4_isIn 4 = .ok (.iand, 1) := by decide +kernel
theorem dX4_isIn_5 : decode cX4_isIn 5 = .ok (.ifCond .eq 7, 3) := by decide +kernel
theorem dX4_isIn_8 : decode cX4_isIn 8 = .ok (.iconst 1, 1) := by decide +kernel
theorem dX4_isIn_9 : decode cX4_isIn 9 = .ok (.goto 4, 3) := by decide +kernel
theorem dX4_isIn_12 : decode cX4_isIn 12 = .ok (.iconst 0, 1) := by decide +kernel
theorem dX4_isIn_13 : decode cX4_isIn 13 = .ok (.ireturn, 1) := by decide +kernel
set_option maxRecDepth 20000 in
theorem ggX4_nth_X4_isIn : GoodIn wsX4_nth wsX4_isIn := goodIn_r _ [4] (by decide +kernel) (by decide +kernel)
set_option maxRecDepth 20000 in
theorem gX4_nth_X4_isIn : GoodIn wsX4_nth (va_wsS RX4 11 yX4_isIn wsX4_isIn) := goodIn_app (goodIn_of _ (by decide +kernel)) ggX4_nth_X4_isIn
theorem dX4_nth_0 : decode cX4_nth 0 = .ok (.iconst 0, 1) := by decide +kernel
theorem dX4_nth_1 : decode cX4_nth 1 = .ok (.istore_n 2, 1) := by decide +kernel
theorem dX4_nth_2 : decode cX4_nth 2 = .ok (.iconst 0, 1) := by decide +kernel
theorem dX4_nth_3 : decode cX4_nth 3 = .ok (.istore_n 3, 1) := by decide +kernel
theorem dX4_nth_4 : decode cX4_nth 4 = .ok (.iload_n 3, 1) := by decide +kernel
theorem dX4_nth_5 : decode cX4_nth 5 = .ok (.bipush 19, 2) := by decide +kernel
theorem dX4_nth_7 : decode cX4_nth 7 = .ok (.if_icmp .ge 27, 3) := by decide +kernel
theorem dX4_nth_10 : decode cX4_nth 10 = .ok (.iload_n 0, 1) := by decide +kernel
theorem dX4_nth_11 : decode cX4_nth 11 = .ok (.iload_n 3, 1) := by decide +kernel
theorem dX4_nth_12 : decode cX4_nth 12 = .ok (.invokestatic 11, 3) := by decide +kernel
theorem dX4_nth_15 : decode cX4_nth 15 = .ok (.ifCond .eq 13, 3) := by decide +kernel
theorem dX4_nth_18 : decode cX4_nth 18 = .ok (.iload_n 2, 1) := by decide +kernel
theorem dX4_nth_19 : decode cX4_nth 19 = .ok (.iload_n 1, 1) := by decide +kernel
theorem dX4_nth_20 : decode cX4_nth 20 = .ok (.if_icmp .ne 5, 3) := by decide +kernel
theorem dX4_nth_23 : decode cX4_nth 23 = .ok (.iload_n 3, 1) := by decide +kernel
theorem dX4_nth_24 : decode cX4_nth 24 = .ok (.ireturn, 1) := by decide +kernel
theorem dX4_nth_25 : decode cX4_nth 25 = .ok (.iinc 2 1, 3) := by decide +kernel
theorem dX4_nth_28 : decode cX4_nth 28 = .ok (.iinc 3 1, 3) := by decide +kernel
theorem dX4_nth_31 : decode cX4_nth 31 = .ok (.goto (-27), 3) := by decide +kernel
theorem dX4_nth_34 : decode cX4_nth 34 = .ok (.iconst (-1), 1) := by decide +kernel
theorem dX4_nth_35 : decode cX4_nth 35 = .ok (.ireturn, 1) := by decide +kernel
set_option maxRecDepth 20000 in
theorem ggX4_halfTones_X8_entry : GoodIn wsX4_halfTones wsX8_entry := goodIn_r _ [4] (by decide +kernel) (by decide +kernel)
set_option maxRecDepth 20000 in
theorem gX4_halfTones_X8_entry_n19 : GoodIn wsX4_halfTones (wsX8_entry) := ggX4_halfTones_X8_entry
theorem dX4_halfTones_0 : decode cX4_halfTones 0 = .ok (.getstatic 15, 3) := by decide +kernel
theorem dX4_halfTones_3 : decode cX4_halfTones 3 = .ok (.iload_n 0, 1) := by decide +kernel
theorem dX4_halfTones_4 : decode cX4_halfTones 4 = .ok (.invokestatic 19, 3) := by decide +kernel
theorem dX4_halfTones_7 : decode cX4_halfTones 7 = .ok (.ireturn, 1) := by decide +kernel
set_option maxRecDepth 20000 in
theorem ggX4_degree_X8_entry : GoodIn wsX4_degree wsX8_entry := goodIn_r _ [4] (by decide +kernel) (by decide +kernel)
set_option maxRecDepth 20000 in
theorem gX4_degree_X8_entry_n19 : GoodIn wsX4_degree (wsX8_entry) := ggX4_degree_X8_entry
theorem dX4_degree_0 : decode cX4_degree 0 = .ok (.getstatic 23, 3) := by decide +kernel
theorem dX4_degree_3 : decode cX4_degree 3 = .ok (.iload_n 0, 1) := by decide +kernel
theorem dX4_degree_4 : decode cX4_degree 4 = .ok (.invokestatic 19, 3) := by decide +kernel
theorem dX4_degree_7 : decode cX4_degree 7 = .ok (.ireturn, 1) := by decide +kernel
set_option maxRecDepth 20000 in
theorem ggX4_letter_X3_letter : GoodIn wsX4_letter wsX3_letter := goodIn_r _ [4] (by decide +kernel) (by decide +kernel)
set_option maxRecDepth 20000 in
theorem gX4_letter_X3_letter : GoodIn wsX4_letter (va_wsS RX4 26 yX3_letter wsX3_letter) := goodIn_app (goodIn_of _ (by decide +kernel)) ggX4_letter_X3_letter
set_option maxRecDepth 20000 in
theorem ggX4_letter_X4_letterAbove : GoodIn wsX4_letter wsX4_letterAbove := goodIn_r _ [8, 9, 10, 7, 11, 12, 13, 14, 15] (by decide +kernel) (by decide +kernel)
set_option maxRecDepth 20000 in
theorem gX4_letter_X4_letterAbove : GoodIn wsX4_letter (va_wsS RX4 32 yX4_letterAbove wsX4_letterAbove) := goodIn_app (goodIn_of _ (by decide +kernel)) ggX4_letter_X4_letterAbove
theorem dX4_letter_0 : decode cX4_letter 0 = .ok (.iload_n 0, 1) := by decide +kernel
theorem dX4_letter_1 : decode cX4_letter 1 = .ok (.invokestatic 26, 3) := by decide +kernel
theorem dX4_letter_4 : decode cX4_letter 4 = .ok (.iload_n 1, 1) := by decide +kernel
theorem dX4_letter_5 : decode cX4_letter 5 = .ok (.invokestatic 32, 3) := by decide +kernel
theorem dX4_letter_8 : decode cX4_letter 8 = .ok (.ireturn, 1) := by decide +kernel
set_option maxRecDepth 20000 in
theorem ggX4_pitch_X3_pitch : GoodIn wsX4_pitch wsX3_pitch := goodIn_r _ [4, 5, 6, 3, 7, 8, 9, 10, 11, 12, 13, 14, 15, 16, 17, 18, 19, 20, 21] (by decide +kernel) (by decide +kernel)
set_option maxRecDepth 20000 in
theorem gX4_pitch_X3_pitch : GoodIn wsX4_pitch (va_wsS RX4 36 yX3_pitch wsX3_pitch) := goodIn_app (goodIn_of _ (by decide +kernel)) ggX4_pitch_X3_pitch
set_option maxRecDepth 20000 in
theorem ggX4_pitch_X4_halfTones : GoodIn wsX4_pitch wsX4_halfTones := goodIn_r _ [25, 26, 12, 13, 14] (by decide +kernel) (by decide +kernel)
set_option maxRecDepth 20000 in
theorem gX4_pitch_X4_halfTones : GoodIn wsX4_pitch (va_wsS RX4 39 yX4_halfTones wsX4_halfTones) := goodIn_app (goodIn_of _ (by decide +kernel)) ggX4_pitch_X4_halfTones
theorem dX4_pitch_0 : decode cX4_pitch 0 = .ok (.iload_n 0, 1) := by decide +kernel
theorem dX4_pitch_1 : decode cX4_pitch 1 = .ok (.invokestatic 36, 3) := by decide +kernel
theorem dX4_pitch_4 : decode cX4_pitch 4 = .ok (.iload_n 1, 1) := by decide +kernel
theorem dX4_pitch_5 : decode cX4_pitch 5 = .ok (.invokestatic 39, 3) := by decide +kernel
theorem dX4_pitch_8 : decode cX4_pitch 8 = .ok (.iadd, 1) := by decide +kernel
theorem dX4_pitch_9 : decode cX4_pitch 9 = .ok (.bipush 12, 2) := by decide +kernel
theorem dX4_pitch_11 : decode cX4_pitch 11 = .ok (.irem, 1) := by decide +kernel
theorem dX4_pitch_12 : decode cX4_pitch 12 = .ok (.ireturn, 1) := by decide +kernel
set_option maxRecDepth 20000 in
theorem ggX4_signs_X3_letter : GoodIn wsX4_signs wsX3_letter := goodIn_r _ [4] (by decide +kernel) (by decide +kernel)
set_option maxRecDepth 20000 in
theorem gX4_signs_X3_letter : GoodIn wsX4_signs (va_wsS RX4 26 yX3_letter wsX3_letter) := goodIn_app (goodIn_of _ (by decide +kernel)) ggX4_signs_X3_letter
set_option maxRecDepth 20000 in
theorem ggX4_signs_X3_pitch : GoodIn wsX4_signs wsX3_pitch := goodIn_r _ [7, 8, 2, 3, 4, 9, 10, 11, 12, 13, 14, 15, 16, 17, 18, 19, 20, 21, 22] (by decide +kernel) (by decide +kernel)
set_option maxRecDepth 20000 in
theorem gX4_signs_X3_pitch : GoodIn wsX4_signs (va_wsS RX4 36 yX3_pitch wsX3_pitch) := goodIn_app (goodIn_of _ (by decide +kernel)) ggX4_signs_X3_pitch
set_option maxRecDepth 20000 in
theorem ggX4_signs_X4_signsAbove : GoodIn wsX4_signs wsX4_signsAbove := goodIn_r _ [26, 27, 28, 25, 29, 30, 31, 32, 33, 13, 14, 15, 34, 10, 3, 11, 12, 35, 36, 37, 38, 39, 20, 21, 22] (by decide +kernel) (by decide +kernel)
set_option maxRecDepth 20000 in
theorem gX4_signs_X4_signsAbove : GoodIn wsX4_signs (va_wsS RX4 42 yX4_signsAbove wsX4_signsAbove) := goodIn_app (goodIn_of _ (by decide +kernel)) ggX4_signs_X4_signsAbove
theorem dX4_signs_0 : decode cX4_signs 0 = .ok (.iload_n 0, 1) := by decide +kernel
theorem dX4_signs_1 : decode cX4_signs 1 = .ok (.invokestatic 26, 3) := by decide +kernel
theorem dX4_signs_4 : decode cX4_signs 4 = .ok (.iload_n 0, 1) := by decide +kernel
theorem dX4_signs_5 : decode cX4_signs 5 = .ok (.invokestatic 36, 3) := by decide +kernel
theorem dX4_signs_8 : decode cX4_signs 8 = .ok (.iload_n 1, 1) := by decide +kernel
