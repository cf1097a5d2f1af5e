theorem lwn : ∀ w ∈ ([] : List Cond), w ∈ lw_tbl := fun _ h => absurd h List.not_mem_nil
theorem lwc {c : Cond} {a : List Cond} (hc : c ∈ lw_tbl) (ha : ∀ w ∈ a, w ∈ lw_tbl) : ∀ w ∈ c :: a, w ∈ lw_tbl := List.forall_mem_cons.mpr ⟨hc, ha⟩
theorem lwa {a b : List Cond} (ha : ∀ w ∈ a, w ∈ lw_tbl) (hb : ∀ w ∈ b, w ∈ lw_tbl) : ∀ w ∈ a ++ b, w ∈ lw_tbl := fun w h => (List.mem_append.mp h).elim (ha w) (hb w)
set_option maxRecDepth 20000 in
theorem lwm_0 : Cond.code yX8_init cX8_init 1 none ∈ lw_tbl := List.mem_of_getElem? (i := 70) rfl
set_option maxRecDepth 20000 in
theorem lwm_1 : Cond.methodLink RX5 7 objectInit ∈ lw_tbl := by decide +kernel
set_option maxRecDepth 20000 in
theorem lwm_2 : Cond.code yX5_init cX5_init 1 none ∈ lw_tbl := List.mem_of_getElem? (i := 78) rfl
set_option maxRecDepth 20000 in
theorem lwm_3 : Cond.instanceMethod yX5_init ∈ lw_tbl := by decide +kernel
set_option maxRecDepth 20000 in
theorem lwm_4 : Cond.fieldLink RX8 39 "LeadSheets" "text" "LLeadSheets$Text;" ∈ lw_tbl := by decide +kernel
set_option maxRecDepth 20000 in
theorem lwm_5 : Cond.initialized RX6 ∈ lw_tbl := by decide +kernel
set_option maxRecDepth 20000 in
theorem lwm_6 : Cond.instantiable RX6 2 ∈ lw_tbl := by decide +kernel
set_option maxRecDepth 20000 in
theorem lwm_7 : Cond.classLink RX8 36 RX6 ∈ lw_tbl := by decide +kernel
set_option maxRecDepth 20000 in
theorem lwm_8 : Cond.fieldLink RX8 32 "LeadSheets" "voicing" "LLeadSheets$Voicing;" ∈ lw_tbl := by decide +kernel
set_option maxRecDepth 20000 in
theorem lwm_9 : Cond.initialized RX7 ∈ lw_tbl := by decide +kernel
set_option maxRecDepth 20000 in
theorem lwm_10 : Cond.instantiable RX7 6 ∈ lw_tbl := by decide +kernel
set_option maxRecDepth 20000 in
theorem lwm_11 : Cond.classLink RX8 29 RX7 ∈ lw_tbl := by decide +kernel
set_option maxRecDepth 20000 in
theorem lwm_12 : Cond.fieldLink RX8 25 "LeadSheets" "names" "LLeadSheets$Names;" ∈ lw_tbl := by decide +kernel
set_option maxRecDepth 20000 in
theorem lwm_13 : Cond.initialized RX2 ∈ lw_tbl := by decide +kernel
set_option maxRecDepth 20000 in
theorem lwm_14 : Cond.instantiable RX2 4 ∈ lw_tbl := by decide +kernel
set_option maxRecDepth 20000 in
theorem lwm_15 : Cond.classLink RX8 22 RX2 ∈ lw_tbl := by decide +kernel
set_option maxRecDepth 20000 in
theorem lwm_16 : Cond.fieldLink RX8 18 "LeadSheets" "chords" "[LLeadSheets$Chord;" ∈ lw_tbl := by decide +kernel
set_option maxRecDepth 20000 in
theorem lwm_17 : Cond.classLink RX8 16 RX1 ∈ lw_tbl := by decide +kernel
set_option maxRecDepth 20000 in
theorem lwm_18 : Cond.fieldLink RX8 10 "LeadSheets" "tape" "LLeadSheets$Tape;" ∈ lw_tbl := by decide +kernel
set_option maxRecDepth 20000 in
theorem lwm_19 : Cond.initialized RX5 ∈ lw_tbl := by decide +kernel
set_option maxRecDepth 20000 in
theorem lwm_20 : Cond.instantiable RX5 4 ∈ lw_tbl := by decide +kernel
set_option maxRecDepth 20000 in
theorem lwm_21 : Cond.classLink RX8 7 RX5 ∈ lw_tbl := by decide +kernel
set_option maxRecDepth 20000 in
theorem lwm_22 : Cond.code objectInit ⟨#[0xb1]⟩ 1 none ∈ lw_tbl := List.mem_of_getElem? (i := 73) rfl
set_option maxRecDepth 20000 in
theorem lwm_23 : Cond.instanceMethod objectInit ∈ lw_tbl := by decide +kernel
set_option maxRecDepth 20000 in
theorem lwm_24 : Cond.methodLink RX8 1 objectInit ∈ lw_tbl := by decide +kernel
set_option maxRecDepth 20000 in
theorem lwm_25 : Cond.methodLink RX4 39 yX4_halfTones ∈ lw_tbl := by decide +kernel
set_option maxRecDepth 20000 in
theorem lwm_26 : Cond.code yX4_isIn cX4_isIn 2 (some .boolean) ∈ lw_tbl := List.mem_of_getElem? (i := 117) rfl
set_option maxRecDepth 20000 in
theorem lwm_27 : Cond.static yX4_isIn ∈ lw_tbl := by decide +kernel
set_option maxRecDepth 20000 in
theorem lwm_28 : Cond.methodLink RX4 11 yX4_isIn ∈ lw_tbl := by decide +kernel
set_option maxRecDepth 20000 in
theorem lwm_29 : Cond.code yX4_set cX4_set 4 (some .int) ∈ lw_tbl := List.mem_of_getElem? (i := 114) rfl
set_option maxRecDepth 20000 in
theorem lwm_30 : Cond.initialized RX4 ∈ lw_tbl := by decide +kernel
set_option maxRecDepth 20000 in
theorem lwm_31 : Cond.static yX4_set ∈ lw_tbl := by decide +kernel
set_option maxRecDepth 20000 in
theorem lwm_32 : Cond.methodLink RX2 24 yX4_set ∈ lw_tbl := by decide +kernel
set_option maxRecDepth 20000 in
theorem lwm_33 : Cond.code yX8_entry cX8_entry 2 (some .int) ∈ lw_tbl := List.mem_of_getElem? (i := 111) rfl
set_option maxRecDepth 20000 in
theorem lwm_34 : Cond.initialized RX8 ∈ lw_tbl := by decide +kernel
set_option maxRecDepth 20000 in
theorem lwm_35 : Cond.static yX8_entry ∈ lw_tbl := by decide +kernel
set_option maxRecDepth 20000 in
theorem lwm_36 : Cond.fieldLink RX0 9 "LeadSheets$Bodies" "STEPS" "[I" ∈ lw_tbl := by decide +kernel
set_option maxRecDepth 20000 in
theorem lwm_37 : Cond.code yX0_steps cX0_steps 1 (some .int) ∈ lw_tbl := List.mem_of_getElem? (i := 106) rfl
set_option maxRecDepth 20000 in
theorem lwm_38 : Cond.initialized RX0 ∈ lw_tbl := by decide +kernel
set_option maxRecDepth 20000 in
theorem lwm_39 : Cond.static yX0_steps ∈ lw_tbl := by decide +kernel
set_option maxRecDepth 20000 in
theorem lwm_40 : Cond.methodLink RX2 20 yX0_steps ∈ lw_tbl := by decide +kernel
set_option maxRecDepth 20000 in
theorem lwm_41 : Cond.fieldLink RX2 17 "LeadSheets$Names" "found" "[I" ∈ lw_tbl := by decide +kernel
set_option maxRecDepth 20000 in
theorem lwm_42 : Cond.fieldLink RX2 11 "LeadSheets$Names" "bodySets" "[I" ∈ lw_tbl := by decide +kernel
set_option maxRecDepth 20000 in
theorem lwm_43 : Cond.methodLink RX2 5 objectInit ∈ lw_tbl := by decide +kernel
set_option maxRecDepth 20000 in
theorem lwm_44 : Cond.code yX2_init cX2_init 2 none ∈ lw_tbl := List.mem_of_getElem? (i := 102) rfl
set_option maxRecDepth 20000 in
theorem lwm_45 : Cond.instanceMethod yX2_init ∈ lw_tbl := by decide +kernel
set_option maxRecDepth 20000 in
theorem lwm_46 : Cond.methodLink RX8 24 yX2_init ∈ lw_tbl := by decide +kernel
set_option maxRecDepth 20000 in
theorem lwm_47 : Cond.fieldLink RX5 13 "LeadSheets$Tape" "bytes" "[I" ∈ lw_tbl := by decide +kernel
set_option maxRecDepth 20000 in
theorem lwm_48 : Cond.arrayClass .int ∈ lw_tbl := by decide +kernel
set_option maxRecDepth 20000 in
theorem lwm_49 : Cond.fieldLink RX6 9 "LeadSheets$Text" "bytes" "[I" ∈ lw_tbl := by decide +kernel
set_option maxRecDepth 20000 in
theorem lwm_50 : Cond.methodLink RX6 3 objectInit ∈ lw_tbl := by decide +kernel
set_option maxRecDepth 20000 in
theorem lwm_51 : Cond.code yX6_init cX6_init 1 none ∈ lw_tbl := List.mem_of_getElem? (i := 169) rfl
set_option maxRecDepth 20000 in
theorem lwm_52 : Cond.instanceMethod yX6_init ∈ lw_tbl := by decide +kernel
set_option maxRecDepth 20000 in
theorem lwm_53 : Cond.fieldLink RX7 18 "LeadSheets$Voicing" "chosen" "[I" ∈ lw_tbl := by decide +kernel
set_option maxRecDepth 20000 in
theorem lwm_54 : Cond.fieldLink RX7 15 "LeadSheets$Voicing" "away" "[I" ∈ lw_tbl := by decide +kernel
set_option maxRecDepth 20000 in
theorem lwm_55 : Cond.fieldLink RX7 9 "LeadSheets$Voicing" "keys" "[I" ∈ lw_tbl := by decide +kernel
set_option maxRecDepth 20000 in
theorem lwm_56 : Cond.methodLink RX7 3 objectInit ∈ lw_tbl := by decide +kernel
set_option maxRecDepth 20000 in
theorem lwm_57 : Cond.code yX7_init cX7_init 1 none ∈ lw_tbl := List.mem_of_getElem? (i := 143) rfl
set_option maxRecDepth 20000 in
theorem lwm_58 : Cond.instanceMethod yX7_init ∈ lw_tbl := by decide +kernel
set_option maxRecDepth 20000 in
theorem lwm_59 : Cond.fieldLink RX4 15 "LeadSheets$Steps" "HALF_TONES" "[I" ∈ lw_tbl := by decide +kernel
set_option maxRecDepth 20000 in
theorem lwm_60 : Cond.code yX4_halfTones cX4_halfTones 1 (some .int) ∈ lw_tbl := List.mem_of_getElem? (i := 120) rfl
set_option maxRecDepth 20000 in
theorem lwm_61 : Cond.static yX4_halfTones ∈ lw_tbl := by decide +kernel
set_option maxRecDepth 20000 in
theorem lwm_62 : Cond.code yX9_init cX9_init 4 none ∈ lw_tbl := List.mem_of_getElem? (i := 624) rfl
set_option maxRecDepth 20000 in
theorem lwm_63 : Cond.constantLong RX9 56 (53) ∈ lw_tbl := by decide +kernel
set_option maxRecDepth 20000 in
theorem lwm_64 : Cond.constantLong RX9 54 (43) ∈ lw_tbl := by decide +kernel
set_option maxRecDepth 20000 in
theorem lwm_65 : Cond.constantLong RX9 52 (6387047) ∈ lw_tbl := by decide +kernel
set_option maxRecDepth 20000 in
theorem lwm_66 : Cond.constantLong RX9 50 (111) ∈ lw_tbl := by decide +kernel
set_option maxRecDepth 20000 in
theorem lwm_67 : Cond.constantLong RX9 48 (6580589) ∈ lw_tbl := by decide +kernel
set_option maxRecDepth 20000 in
theorem lwm_68 : Cond.constantLong RX9 46 (45) ∈ lw_tbl := by decide +kernel
set_option maxRecDepth 20000 in
theorem lwm_69 : Cond.constantLong RX9 44 (109) ∈ lw_tbl := by decide +kernel
set_option maxRecDepth 20000 in
theorem lwm_70 : Cond.arrayClass .long ∈ lw_tbl := by decide +kernel
set_option maxRecDepth 20000 in
theorem lwm_71 : Cond.fieldLink RX9 41 "LeadSheetsModel" "bodyMany" "[I" ∈ lw_tbl := by decide +kernel
set_option maxRecDepth 20000 in
theorem lwm_72 : Cond.fieldLink RX9 38 "LeadSheetsModel" "bodyDegrees" "[I" ∈ lw_tbl := by decide +kernel
set_option maxRecDepth 20000 in
theorem lwm_73 : Cond.fieldLink RX9 35 "LeadSheetsModel" "bodyHalves" "[I" ∈ lw_tbl := by decide +kernel
set_option maxRecDepth 20000 in
theorem lwm_74 : Cond.fieldLink RX9 32 "LeadSheetsModel" "keys" "[I" ∈ lw_tbl := by decide +kernel
set_option maxRecDepth 20000 in
theorem lwm_75 : Cond.fieldLink RX9 29 "LeadSheetsModel" "found" "[I" ∈ lw_tbl := by decide +kernel
set_option maxRecDepth 20000 in
theorem lwm_76 : Cond.fieldLink RX9 26 "LeadSheetsModel" "shown" "[B" ∈ lw_tbl := by decide +kernel
set_option maxRecDepth 20000 in
theorem lwm_77 : Cond.fieldLink RX9 23 "LeadSheetsModel" "stepMany" "[I" ∈ lw_tbl := by decide +kernel
set_option maxRecDepth 20000 in
theorem lwm_78 : Cond.fieldLink RX9 20 "LeadSheetsModel" "degrees" "[I" ∈ lw_tbl := by decide +kernel
set_option maxRecDepth 20000 in
theorem lwm_79 : Cond.fieldLink RX9 17 "LeadSheetsModel" "halves" "[I" ∈ lw_tbl := by decide +kernel
set_option maxRecDepth 20000 in
theorem lwm_80 : Cond.fieldLink RX9 13 "LeadSheetsModel" "heads" "[I" ∈ lw_tbl := by decide +kernel
set_option maxRecDepth 20000 in
theorem lwm_81 : Cond.fieldLink RX9 7 "LeadSheetsModel" "tape" "[B" ∈ lw_tbl := by decide +kernel
set_option maxRecDepth 20000 in
theorem lwm_82 : Cond.arrayClass .byte ∈ lw_tbl := by decide +kernel
set_option maxRecDepth 20000 in
theorem lwm_83 : Cond.methodLink RX9 1 objectInit ∈ lw_tbl := by decide +kernel
set_option maxRecDepth 20000 in
theorem lwm_84 : Cond.constantLong RX9 107 (2306353) ∈ lw_tbl := by decide +kernel
set_option maxRecDepth 20000 in
theorem lwm_85 : Cond.constantLong RX9 105 (9017) ∈ lw_tbl := by decide +kernel
set_option maxRecDepth 20000 in
theorem lwm_86 : Cond.constantLong RX9 103 (25145) ∈ lw_tbl := by decide +kernel
set_option maxRecDepth 20000 in
theorem lwm_87 : Cond.constantLong RX9 101 (9013) ∈ lw_tbl := by decide +kernel
set_option maxRecDepth 20000 in
theorem lwm_88 : Cond.constantLong RX9 99 (25141) ∈ lw_tbl := by decide +kernel
set_option maxRecDepth 20000 in
theorem lwm_89 : Cond.constantLong RX9 97 (7566707) ∈ lw_tbl := by decide +kernel
set_option maxRecDepth 20000 in
theorem lwm_90 : Cond.constantLong RX9 95 (1937077044) ∈ lw_tbl := by decide +kernel
set_option maxRecDepth 20000 in
theorem lwm_91 : Cond.constantLong RX9 93 (1937077042) ∈ lw_tbl := by decide +kernel
set_option maxRecDepth 20000 in
theorem lwm_92 : Cond.fieldLink RX9 90 "LeadSheetsModel" "sizes" "[J" ∈ lw_tbl := by decide +kernel
set_option maxRecDepth 20000 in
theorem lwm_93 : Cond.constantLong RX9 88 (5058867) ∈ lw_tbl := by decide +kernel
set_option maxRecDepth 20000 in
theorem lwm_94 : Cond.constantLong RX9 86 (469785784627) ∈ lw_tbl := by decide +kernel
set_option maxRecDepth 20000 in
theorem lwm_95 : Cond.constantLong RX9 84 (12595) ∈ lw_tbl := by decide +kernel
set_option maxRecDepth 20000 in
theorem lwm_96 : Cond.constantLong RX9 82 (5058865) ∈ lw_tbl := by decide +kernel
set_option maxRecDepth 20000 in
theorem lwm_97 : Cond.constantLong RX9 80 (469785784625) ∈ lw_tbl := by decide +kernel
set_option maxRecDepth 20000 in
theorem lwm_98 : Cond.constantLong RX9 78 (12593) ∈ lw_tbl := by decide +kernel
set_option maxRecDepth 20000 in
theorem lwm_99 : Cond.constantLong RX9 76 (19769) ∈ lw_tbl := by decide +kernel
set_option maxRecDepth 20000 in
theorem lwm_100 : Cond.constantLong RX9 74 (1835100729) ∈ lw_tbl := by decide +kernel
set_option maxRecDepth 20000 in
theorem lwm_101 : Cond.constantLong RX9 72 (57) ∈ lw_tbl := by decide +kernel
set_option maxRecDepth 20000 in
theorem lwm_102 : Cond.constantLong RX9 70 (19767) ∈ lw_tbl := by decide +kernel
set_option maxRecDepth 20000 in
theorem lwm_103 : Cond.constantLong RX9 68 (1835100727) ∈ lw_tbl := by decide +kernel
set_option maxRecDepth 20000 in
theorem lwm_104 : Cond.constantLong RX9 66 (55) ∈ lw_tbl := by decide +kernel
set_option maxRecDepth 20000 in
theorem lwm_105 : Cond.constantLong RX9 64 (54) ∈ lw_tbl := by decide +kernel
set_option maxRecDepth 20000 in
theorem lwm_106 : Cond.constantLong RX9 62 (13881) ∈ lw_tbl := by decide +kernel
set_option maxRecDepth 20000 in
theorem lwm_107 : Cond.fieldLink RX9 58 "LeadSheetsModel" "kinds" "[J" ∈ lw_tbl := by decide +kernel
set_option maxRecDepth 20000 in
theorem lwm_108 : Cond.constantLong RX9 157 (22089) ∈ lw_tbl := by decide +kernel
set_option maxRecDepth 20000 in
theorem lwm_109 : Cond.constantLong RX9 155 (6444617) ∈ lw_tbl := by decide +kernel
set_option maxRecDepth 20000 in
theorem lwm_110 : Cond.constantLong RX9 153 (86) ∈ lw_tbl := by decide +kernel
set_option maxRecDepth 20000 in
theorem lwm_111 : Cond.constantLong RX9 151 (25174) ∈ lw_tbl := by decide +kernel
set_option maxRecDepth 20000 in
theorem lwm_112 : Cond.constantLong RX9 149 (18774) ∈ lw_tbl := by decide +kernel
set_option maxRecDepth 20000 in
theorem lwm_113 : Cond.constantLong RX9 147 (4802889) ∈ lw_tbl := by decide +kernel
set_option maxRecDepth 20000 in
theorem lwm_114 : Cond.constantLong RX9 145 (1648970057) ∈ lw_tbl := by decide +kernel
set_option maxRecDepth 20000 in
theorem lwm_115 : Cond.constantLong RX9 143 (18761) ∈ lw_tbl := by decide +kernel
set_option maxRecDepth 20000 in
theorem lwm_116 : Cond.constantLong RX9 141 (6441289) ∈ lw_tbl := by decide +kernel
set_option maxRecDepth 20000 in
theorem lwm_117 : Cond.constantLong RX9 139 (73) ∈ lw_tbl := by decide +kernel
set_option maxRecDepth 20000 in
theorem lwm_118 : Cond.fieldLink RX9 136 "LeadSheetsModel" "bodies" "[J" ∈ lw_tbl := by decide +kernel
set_option maxRecDepth 20000 in
theorem lwm_119 : Cond.constantLong RX9 134 (469986535991) ∈ lw_tbl := by decide +kernel
set_option maxRecDepth 20000 in
theorem lwm_120 : Cond.constantLong RX9 132 (238160278324) ∈ lw_tbl := by decide +kernel
set_option maxRecDepth 20000 in
theorem lwm_121 : Cond.constantLong RX9 130 (27961) ∈ lw_tbl := by decide +kernel
set_option maxRecDepth 20000 in
theorem lwm_122 : Cond.constantLong RX9 128 (27958) ∈ lw_tbl := by decide +kernel
set_option maxRecDepth 20000 in
theorem lwm_123 : Cond.constantLong RX9 126 (1832346165) ∈ lw_tbl := by decide +kernel
set_option maxRecDepth 20000 in
theorem lwm_124 : Cond.constantLong RX9 124 (1684630839) ∈ lw_tbl := by decide +kernel
set_option maxRecDepth 20000 in
theorem lwm_125 : Cond.constantLong RX9 122 (27959) ∈ lw_tbl := by decide +kernel
set_option maxRecDepth 20000 in
theorem lwm_126 : Cond.fieldLink RX9 119 "LeadSheetsModel" "changes" "[J" ∈ lw_tbl := by decide +kernel
set_option maxRecDepth 20000 in
theorem lwm_127 : Cond.constantLong RX9 117 (7237429) ∈ lw_tbl := by decide +kernel
set_option maxRecDepth 20000 in
theorem lwm_128 : Cond.constantLong RX9 115 (7237427) ∈ lw_tbl := by decide +kernel
set_option maxRecDepth 20000 in
theorem lwm_129 : Cond.constantLong RX9 113 (418296115505) ∈ lw_tbl := by decide +kernel
set_option maxRecDepth 20000 in
theorem lwm_130 : Cond.constantLong RX9 111 (1633969209) ∈ lw_tbl := by decide +kernel
set_option maxRecDepth 20000 in
theorem lwm_131 : Cond.constantLong RX9 109 (6435123) ∈ lw_tbl := by decide +kernel
set_option maxRecDepth 20000 in
theorem lwm_132 : Cond.selects RX9 yX9_readBody yX9_readBody ∈ lw_tbl := by decide +kernel
set_option maxRecDepth 20000 in
theorem lwm_133 : Cond.instanceMethod yX9_readBody ∈ lw_tbl := by decide +kernel
set_option maxRecDepth 20000 in
theorem lwm_134 : Cond.methodLink RX9 205 yX9_readBody ∈ lw_tbl := by decide +kernel
set_option maxRecDepth 20000 in
theorem lwm_135 : Cond.code yX9_byteOf cX9_byteOf 3 (some .int) ∈ lw_tbl := List.mem_of_getElem? (i := 684) rfl
set_option maxRecDepth 20000 in
theorem lwm_136 : Cond.static yX9_byteOf ∈ lw_tbl := by decide +kernel
set_option maxRecDepth 20000 in
theorem lwm_137 : Cond.methodLink RX9 198 yX9_byteOf ∈ lw_tbl := by decide +kernel
set_option maxRecDepth 20000 in
theorem lwm_138 : Cond.code yX9_lengthOf cX9_lengthOf 3 (some .int) ∈ lw_tbl := List.mem_of_getElem? (i := 681) rfl
set_option maxRecDepth 20000 in
theorem lwm_139 : Cond.initialized RX9 ∈ lw_tbl := by decide +kernel
set_option maxRecDepth 20000 in
theorem lwm_140 : Cond.static yX9_lengthOf ∈ lw_tbl := by decide +kernel
set_option maxRecDepth 20000 in
theorem lwm_141 : Cond.methodLink RX9 190 yX9_lengthOf ∈ lw_tbl := by decide +kernel
set_option maxRecDepth 20000 in
theorem lwm_142 : Cond.fieldLink RX9 212 "LeadSheetsModel" "many" "I" ∈ lw_tbl := by decide +kernel
set_option maxRecDepth 20000 in
theorem lwm_143 : Cond.fieldLink RX9 202 "LeadSheetsModel" "p" "I" ∈ lw_tbl := by decide +kernel
set_option maxRecDepth 20000 in
theorem lwm_144 : Cond.fieldLink RX9 194 "LeadSheetsModel" "textSize" "I" ∈ lw_tbl := by decide +kernel
set_option maxRecDepth 20000 in
theorem lwm_145 : Cond.fieldLink RX9 187 "LeadSheetsModel" "made" "[I" ∈ lw_tbl := by decide +kernel
set_option maxRecDepth 20000 in
theorem lwm_146 : Cond.fieldLink RX9 184 "LeadSheetsModel" "near" "[I" ∈ lw_tbl := by decide +kernel
set_option maxRecDepth 20000 in
theorem lwm_147 : Cond.fieldLink RX9 181 "LeadSheetsModel" "other" "[B" ∈ lw_tbl := by decide +kernel
set_option maxRecDepth 20000 in
theorem lwm_148 : Cond.fieldLink RX9 178 "LeadSheetsModel" "aside" "[B" ∈ lw_tbl := by decide +kernel
set_option maxRecDepth 20000 in
theorem lwm_149 : Cond.fieldLink RX9 175 "LeadSheetsModel" "names" "[I" ∈ lw_tbl := by decide +kernel
set_option maxRecDepth 20000 in
theorem lwm_150 : Cond.fieldLink RX9 172 "LeadSheetsModel" "degree" "[I" ∈ lw_tbl := by decide +kernel
set_option maxRecDepth 20000 in
theorem lwm_151 : Cond.fieldLink RX9 169 "LeadSheetsModel" "half" "[I" ∈ lw_tbl := by decide +kernel
set_option maxRecDepth 20000 in
theorem lwm_152 : Cond.fieldLink RX9 166 "LeadSheetsModel" "text" "[B" ∈ lw_tbl := by decide +kernel
set_option maxRecDepth 20000 in
theorem lwm_153 : Cond.fieldLink RX9 163 "LeadSheetsModel" "numerals" "[J" ∈ lw_tbl := by decide +kernel
set_option maxRecDepth 20000 in
theorem lwm_154 : Cond.constantLong RX9 161 (5654857) ∈ lw_tbl := by decide +kernel
set_option maxRecDepth 20000 in
theorem lwm_155 : Cond.constantLong RX9 159 (1649822025) ∈ lw_tbl := by decide +kernel
set_option maxRecDepth 20000 in
theorem lwm_156 : Cond.code yX9_becomes cX9_becomes 5 (some .boolean) ∈ lw_tbl := List.mem_of_getElem? (i := 711) rfl
set_option maxRecDepth 20000 in
theorem lwm_157 : Cond.selects RX9 yX9_becomes yX9_becomes ∈ lw_tbl := by decide +kernel
set_option maxRecDepth 20000 in
theorem lwm_158 : Cond.instanceMethod yX9_becomes ∈ lw_tbl := by decide +kernel
set_option maxRecDepth 20000 in
theorem lwm_159 : Cond.methodLink RX9 237 yX9_becomes ∈ lw_tbl := by decide +kernel
set_option maxRecDepth 20000 in
theorem lwm_160 : Cond.code yX9_changes cX9_changes 3 (some .boolean) ∈ lw_tbl := List.mem_of_getElem? (i := 707) rfl
set_option maxRecDepth 20000 in
theorem lwm_161 : Cond.selects RX9 yX9_changes yX9_changes ∈ lw_tbl := by decide +kernel
set_option maxRecDepth 20000 in
theorem lwm_162 : Cond.instanceMethod yX9_changes ∈ lw_tbl := by decide +kernel
set_option maxRecDepth 20000 in
theorem lwm_163 : Cond.methodLink RX9 234 yX9_changes ∈ lw_tbl := by decide +kernel
set_option maxRecDepth 20000 in
theorem lwm_164 : Cond.code yX9_isIn cX9_isIn 3 (some .boolean) ∈ lw_tbl := List.mem_of_getElem? (i := 703) rfl
set_option maxRecDepth 20000 in
theorem lwm_165 : Cond.static yX9_isIn ∈ lw_tbl := by decide +kernel
set_option maxRecDepth 20000 in
theorem lwm_166 : Cond.methodLink RX9 215 yX9_isIn ∈ lw_tbl := by decide +kernel
set_option maxRecDepth 20000 in
theorem lwm_167 : Cond.code yX9_stands cX9_stands 6 (some .boolean) ∈ lw_tbl := List.mem_of_getElem? (i := 700) rfl
set_option maxRecDepth 20000 in
theorem lwm_168 : Cond.selects RX9 yX9_stands yX9_stands ∈ lw_tbl := by decide +kernel
set_option maxRecDepth 20000 in
theorem lwm_169 : Cond.instanceMethod yX9_stands ∈ lw_tbl := by decide +kernel
set_option maxRecDepth 20000 in
theorem lwm_170 : Cond.methodLink RX9 222 yX9_stands ∈ lw_tbl := by decide +kernel
set_option maxRecDepth 20000 in
theorem lwm_171 : Cond.code yX9_word cX9_word 4 (some .int) ∈ lw_tbl := List.mem_of_getElem? (i := 696) rfl
set_option maxRecDepth 20000 in
theorem lwm_172 : Cond.selects RX9 yX9_word yX9_word ∈ lw_tbl := by decide +kernel
set_option maxRecDepth 20000 in
theorem lwm_173 : Cond.instanceMethod yX9_word ∈ lw_tbl := by decide +kernel
set_option maxRecDepth 20000 in
theorem lwm_174 : Cond.methodLink RX9 230 yX9_word ∈ lw_tbl := by decide +kernel
set_option maxRecDepth 20000 in
theorem lwm_175 : Cond.code yX9_comes cX9_comes 3 none ∈ lw_tbl := List.mem_of_getElem? (i := 692) rfl
set_option maxRecDepth 20000 in
theorem lwm_176 : Cond.selects RX9 yX9_comes yX9_comes ∈ lw_tbl := by decide +kernel
set_option maxRecDepth 20000 in
theorem lwm_177 : Cond.instanceMethod yX9_comes ∈ lw_tbl := by decide +kernel
set_option maxRecDepth 20000 in
theorem lwm_178 : Cond.methodLink RX9 226 yX9_comes ∈ lw_tbl := by decide +kernel
set_option maxRecDepth 20000 in
theorem lwm_179 : Cond.code yX9_readBody cX9_readBody 6 (some .int) ∈ lw_tbl := List.mem_of_getElem? (i := 688) rfl
set_option maxRecDepth 20000 in
theorem lwm_180 : Cond.code yX9_sort cX9_sort 5 none ∈ lw_tbl := List.mem_of_getElem? (i := 731) rfl
set_option maxRecDepth 20000 in
theorem lwm_181 : Cond.selects RX9 yX9_sort yX9_sort ∈ lw_tbl := by decide +kernel
set_option maxRecDepth 20000 in
theorem lwm_182 : Cond.instanceMethod yX9_sort ∈ lw_tbl := by decide +kernel
set_option maxRecDepth 20000 in
theorem lwm_183 : Cond.methodLink RX9 209 yX9_sort ∈ lw_tbl := by decide +kernel
set_option maxRecDepth 20000 in
theorem lwm_184 : Cond.code yX9_goes cX9_goes 2 none ∈ lw_tbl := List.mem_of_getElem? (i := 727) rfl
set_option maxRecDepth 20000 in
theorem lwm_185 : Cond.selects RX9 yX9_goes yX9_goes ∈ lw_tbl := by decide +kernel
set_option maxRecDepth 20000 in
theorem lwm_186 : Cond.instanceMethod yX9_goes ∈ lw_tbl := by decide +kernel
set_option maxRecDepth 20000 in
theorem lwm_187 : Cond.methodLink RX9 247 yX9_goes ∈ lw_tbl := by decide +kernel
set_option maxRecDepth 20000 in
theorem lwm_188 : Cond.code yX9_brings cX9_brings 5 (some .boolean) ∈ lw_tbl := List.mem_of_getElem? (i := 723) rfl
set_option maxRecDepth 20000 in
theorem lwm_189 : Cond.selects RX9 yX9_brings yX9_brings ∈ lw_tbl := by decide +kernel
set_option maxRecDepth 20000 in
theorem lwm_190 : Cond.instanceMethod yX9_brings ∈ lw_tbl := by decide +kernel
set_option maxRecDepth 20000 in
theorem lwm_191 : Cond.methodLink RX9 240 yX9_brings ∈ lw_tbl := by decide +kernel
set_option maxRecDepth 20000 in
theorem lwm_192 : Cond.code yX9_placeOf cX9_placeOf 4 (some .int) ∈ lw_tbl := List.mem_of_getElem? (i := 719) rfl
