set_option maxRecDepth 20000 in
theorem lwm_579 : Cond.methodLink RX9 322 yX9_letterOf ∈ lw_tbl := by decide +kernel
set_option maxRecDepth 20000 in
theorem lwm_580 : Cond.code yX9_spelt cX9_spelt 9 (some .int) ∈ lw_tbl := List.mem_of_getElem? (i := 942) rfl
set_option maxRecDepth 20000 in
theorem lwm_581 : Cond.selects RX9 yX9_spelt yX9_spelt ∈ lw_tbl := by decide +kernel
set_option maxRecDepth 20000 in
theorem lwm_582 : Cond.instanceMethod yX9_spelt ∈ lw_tbl := by decide +kernel
set_option maxRecDepth 20000 in
theorem lwm_583 : Cond.methodLink RX9 331 yX9_spelt ∈ lw_tbl := by decide +kernel
set_option maxRecDepth 20000 in
theorem lwm_584 : Cond.code yX9_setOfBody cX9_setOfBody 5 (some .int) ∈ lw_tbl := List.mem_of_getElem? (i := 938) rfl
set_option maxRecDepth 20000 in
theorem lwm_585 : Cond.selects RX9 yX9_setOfBody yX9_setOfBody ∈ lw_tbl := by decide +kernel
set_option maxRecDepth 20000 in
theorem lwm_586 : Cond.instanceMethod yX9_setOfBody ∈ lw_tbl := by decide +kernel
set_option maxRecDepth 20000 in
theorem lwm_587 : Cond.methodLink RX9 328 yX9_setOfBody ∈ lw_tbl := by decide +kernel
set_option maxRecDepth 20000 in
theorem lwm_588 : Cond.code yX9_finds cX9_finds 10 none ∈ lw_tbl := List.mem_of_getElem? (i := 934) rfl
set_option maxRecDepth 20000 in
theorem lwm_589 : Cond.selects RX9 yX9_finds yX9_finds ∈ lw_tbl := by decide +kernel
set_option maxRecDepth 20000 in
theorem lwm_590 : Cond.instanceMethod yX9_finds ∈ lw_tbl := by decide +kernel
set_option maxRecDepth 20000 in
theorem lwm_591 : Cond.methodLink RX9 334 yX9_finds ∈ lw_tbl := by decide +kernel
set_option maxRecDepth 20000 in
theorem lwm_592 : Cond.fieldLink RX9 337 "LeadSheetsModel" "foundMany" "I" ∈ lw_tbl := by decide +kernel
set_option maxRecDepth 20000 in
theorem lwm_593 : Cond.fieldLink RX9 325 "LeadSheetsModel" "nameMany" "I" ∈ lw_tbl := by decide +kernel
set_option maxRecDepth 20000 in
theorem lwm_594 : Cond.code yX9_letterOf cX9_letterOf 3 (some .int) ∈ lw_tbl := List.mem_of_getElem? (i := 945) rfl
set_option maxRecDepth 20000 in
theorem lwm_595 : Cond.static yX9_letterOf ∈ lw_tbl := by decide +kernel
set_option maxRecDepth 20000 in
theorem lwm_596 : Cond.methodLink RL 48 yX8_name ∈ lw_tbl := by decide +kernel
set_option maxRecDepth 20000 in
theorem lwm_597 : Cond.instanceMethod yX8_name ∈ lw_tbl := by decide +kernel
set_option maxRecDepth 20000 in
theorem lwm_598 : Cond.selects RX8 yX8_name yX8_name ∈ lw_tbl := by decide +kernel
set_option maxRecDepth 20000 in
theorem lwm_599 : Cond.code yX8_name cX8_name 4 (some .int) ∈ lw_tbl := List.mem_of_getElem? (i := 500) rfl
set_option maxRecDepth 20000 in
theorem lwm_600 : Cond.static yX3_spelt ∈ lw_tbl := by decide +kernel
set_option maxRecDepth 20000 in
theorem lwm_601 : Cond.methodLink RX2 33 yX3_spelt ∈ lw_tbl := by decide +kernel
set_option maxRecDepth 20000 in
theorem lwm_602 : Cond.code yX2_rootOf cX2_rootOf 2 (some .int) ∈ lw_tbl := List.mem_of_getElem? (i := 507) rfl
set_option maxRecDepth 20000 in
theorem lwm_603 : Cond.static yX2_rootOf ∈ lw_tbl := by decide +kernel
set_option maxRecDepth 20000 in
theorem lwm_604 : Cond.methodLink RX8 134 yX2_rootOf ∈ lw_tbl := by decide +kernel
set_option maxRecDepth 20000 in
theorem lwm_605 : Cond.code yX2_placeOf cX2_placeOf 2 (some .int) ∈ lw_tbl := List.mem_of_getElem? (i := 504) rfl
set_option maxRecDepth 20000 in
theorem lwm_606 : Cond.selects RX2 yX2_placeOf yX2_placeOf ∈ lw_tbl := by decide +kernel
set_option maxRecDepth 20000 in
theorem lwm_607 : Cond.instanceMethod yX2_placeOf ∈ lw_tbl := by decide +kernel
set_option maxRecDepth 20000 in
theorem lwm_608 : Cond.methodLink RX8 128 yX2_placeOf ∈ lw_tbl := by decide +kernel
set_option maxRecDepth 20000 in
theorem lwm_609 : Cond.methodLink RX3 41 yX4_weight ∈ lw_tbl := by decide +kernel
set_option maxRecDepth 20000 in
theorem lwm_610 : Cond.methodLink RX3 35 yX3_note ∈ lw_tbl := by decide +kernel
set_option maxRecDepth 20000 in
theorem lwm_611 : Cond.code yX3_withSigns cX3_withSigns 4 (some .int) ∈ lw_tbl := List.mem_of_getElem? (i := 513) rfl
set_option maxRecDepth 20000 in
theorem lwm_612 : Cond.static yX3_withSigns ∈ lw_tbl := by decide +kernel
set_option maxRecDepth 20000 in
theorem lwm_613 : Cond.methodLink RX3 38 yX3_withSigns ∈ lw_tbl := by decide +kernel
set_option maxRecDepth 20000 in
theorem lwm_614 : Cond.code yX3_spelt cX3_spelt 7 (some .int) ∈ lw_tbl := List.mem_of_getElem? (i := 510) rfl
set_option maxRecDepth 20000 in
theorem lwm_615 : Cond.code yX2_bassNote cX2_bassNote 1 (some .int) ∈ lw_tbl := List.mem_of_getElem? (i := 519) rfl
set_option maxRecDepth 20000 in
theorem lwm_616 : Cond.static yX2_bassNote ∈ lw_tbl := by decide +kernel
set_option maxRecDepth 20000 in
theorem lwm_617 : Cond.methodLink RX8 140 yX2_bassNote ∈ lw_tbl := by decide +kernel
set_option maxRecDepth 20000 in
theorem lwm_618 : Cond.methodLink RX8 137 yX2_bodyOf ∈ lw_tbl := by decide +kernel
set_option maxRecDepth 20000 in
theorem lwm_619 : Cond.methodLink RL 51 yX9_name ∈ lw_tbl := by decide +kernel
set_option maxRecDepth 20000 in
theorem lwm_620 : Cond.instanceMethod yX9_name ∈ lw_tbl := by decide +kernel
set_option maxRecDepth 20000 in
theorem lwm_621 : Cond.selects RX9 yX9_name yX9_name ∈ lw_tbl := by decide +kernel
set_option maxRecDepth 20000 in
theorem lwm_622 : Cond.code yX9_name cX9_name 2 (some .int) ∈ lw_tbl := List.mem_of_getElem? (i := 949) rfl
set_option maxRecDepth 20000 in
theorem lwm_623 : Cond.code yX9_showsName cX9_showsName 3 none ∈ lw_tbl := List.mem_of_getElem? (i := 953) rfl
set_option maxRecDepth 20000 in
theorem lwm_624 : Cond.selects RX9 yX9_showsName yX9_showsName ∈ lw_tbl := by decide +kernel
set_option maxRecDepth 20000 in
theorem lwm_625 : Cond.instanceMethod yX9_showsName ∈ lw_tbl := by decide +kernel
set_option maxRecDepth 20000 in
theorem lwm_626 : Cond.methodLink RX9 340 yX9_showsName ∈ lw_tbl := by decide +kernel
set_option maxRecDepth 20000 in
theorem lwm_627 : Cond.methodLink RL 52 yX8_normal ∈ lw_tbl := by decide +kernel
set_option maxRecDepth 20000 in
theorem lwm_628 : Cond.instanceMethod yX8_normal ∈ lw_tbl := by decide +kernel
set_option maxRecDepth 20000 in
theorem lwm_629 : Cond.selects RX8 yX8_normal yX8_normal ∈ lw_tbl := by decide +kernel
set_option maxRecDepth 20000 in
theorem lwm_630 : Cond.code yX8_normal cX8_normal 5 (some .int) ∈ lw_tbl := List.mem_of_getElem? (i := 523) rfl
set_option maxRecDepth 20000 in
theorem lwm_631 : Cond.code yX2_first cX2_first 4 (some .int) ∈ lw_tbl := List.mem_of_getElem? (i := 527) rfl
set_option maxRecDepth 20000 in
theorem lwm_632 : Cond.selects RX2 yX2_first yX2_first ∈ lw_tbl := by decide +kernel
set_option maxRecDepth 20000 in
theorem lwm_633 : Cond.instanceMethod yX2_first ∈ lw_tbl := by decide +kernel
set_option maxRecDepth 20000 in
theorem lwm_634 : Cond.methodLink RX8 143 yX2_first ∈ lw_tbl := by decide +kernel
set_option maxRecDepth 20000 in
theorem lwm_635 : Cond.methodLink RL 55 yX9_normal ∈ lw_tbl := by decide +kernel
set_option maxRecDepth 20000 in
theorem lwm_636 : Cond.instanceMethod yX9_normal ∈ lw_tbl := by decide +kernel
set_option maxRecDepth 20000 in
theorem lwm_637 : Cond.selects RX9 yX9_normal yX9_normal ∈ lw_tbl := by decide +kernel
set_option maxRecDepth 20000 in
theorem lwm_638 : Cond.code yX9_normal cX9_normal 6 (some .int) ∈ lw_tbl := List.mem_of_getElem? (i := 957) rfl
set_option maxRecDepth 20000 in
theorem lwm_639 : Cond.methodLink RL 56 yX8_move ∈ lw_tbl := by decide +kernel
set_option maxRecDepth 20000 in
theorem lwm_640 : Cond.instanceMethod yX8_move ∈ lw_tbl := by decide +kernel
set_option maxRecDepth 20000 in
theorem lwm_641 : Cond.selects RX8 yX8_move yX8_move ∈ lw_tbl := by decide +kernel
set_option maxRecDepth 20000 in
theorem lwm_642 : Cond.code yX8_move cX8_move 4 (some .int) ∈ lw_tbl := List.mem_of_getElem? (i := 531) rfl
set_option maxRecDepth 20000 in
theorem lwm_643 : Cond.classLink RX1 10 RX1 ∈ lw_tbl := by decide +kernel
set_option maxRecDepth 20000 in
theorem lwm_644 : Cond.code yX1_movedBy cX1_movedBy 11 (some (.object "LeadSheets$Chord")) ∈ lw_tbl := List.mem_of_getElem? (i := 536) rfl
set_option maxRecDepth 20000 in
theorem lwm_645 : Cond.selects RX1 yX1_movedBy yX1_movedBy ∈ lw_tbl := by decide +kernel
set_option maxRecDepth 20000 in
theorem lwm_646 : Cond.instanceMethod yX1_movedBy ∈ lw_tbl := by decide +kernel
set_option maxRecDepth 20000 in
theorem lwm_647 : Cond.methodLink RX8 154 yX1_movedBy ∈ lw_tbl := by decide +kernel
set_option maxRecDepth 20000 in
theorem lwm_648 : Cond.methodLink RX8 149 yJ9_floorMod_7cf53 ∈ lw_tbl := by decide +kernel
set_option maxRecDepth 20000 in
theorem lwm_649 : Cond.methodLink RX1 51 yX3_spelt ∈ lw_tbl := by decide +kernel
set_option maxRecDepth 20000 in
theorem lwm_650 : Cond.methodLink RX1 60 yX4_weight ∈ lw_tbl := by decide +kernel
set_option maxRecDepth 20000 in
theorem lwm_651 : Cond.methodLink RX1 57 yX3_withSigns ∈ lw_tbl := by decide +kernel
set_option maxRecDepth 20000 in
theorem lwm_652 : Cond.methodLink RX1 54 yX1_init ∈ lw_tbl := by decide +kernel
set_option maxRecDepth 20000 in
theorem lwm_653 : Cond.methodLink RL 59 yX9_move ∈ lw_tbl := by decide +kernel
set_option maxRecDepth 20000 in
theorem lwm_654 : Cond.instanceMethod yX9_move ∈ lw_tbl := by decide +kernel
set_option maxRecDepth 20000 in
theorem lwm_655 : Cond.selects RX9 yX9_move yX9_move ∈ lw_tbl := by decide +kernel
set_option maxRecDepth 20000 in
theorem lwm_656 : Cond.code yX9_move cX9_move 14 (some .int) ∈ lw_tbl := List.mem_of_getElem? (i := 961) rfl
set_option maxRecDepth 20000 in
theorem lwm_657 : Cond.methodLink RL 60 yX8_voice ∈ lw_tbl := by decide +kernel
set_option maxRecDepth 20000 in
theorem lwm_658 : Cond.instanceMethod yX8_voice ∈ lw_tbl := by decide +kernel
set_option maxRecDepth 20000 in
theorem lwm_659 : Cond.selects RX8 yX8_voice yX8_voice ∈ lw_tbl := by decide +kernel
set_option maxRecDepth 20000 in
theorem lwm_660 : Cond.code yX8_voice cX8_voice 5 (some .int) ∈ lw_tbl := List.mem_of_getElem? (i := 545) rfl
set_option maxRecDepth 20000 in
theorem lwm_661 : Cond.code yX8_isKey cX8_isKey 1 (some .boolean) ∈ lw_tbl := List.mem_of_getElem? (i := 548) rfl
set_option maxRecDepth 20000 in
theorem lwm_662 : Cond.static yX8_isKey ∈ lw_tbl := by decide +kernel
set_option maxRecDepth 20000 in
theorem lwm_663 : Cond.methodLink RX8 157 yX8_isKey ∈ lw_tbl := by decide +kernel
set_option maxRecDepth 20000 in
theorem lwm_664 : Cond.code Lib.Math.min.name Lib.Math.min.code 2 (some .int) ∈ lw_tbl := List.mem_of_getElem? (i := 561) rfl
set_option maxRecDepth 20000 in
theorem lwm_665 : Cond.static Lib.Math.min.name ∈ lw_tbl := by decide +kernel
set_option maxRecDepth 20000 in
theorem lwm_666 : Cond.methodLink RX7 50 Lib.Math.min.name ∈ lw_tbl := by decide +kernel
set_option maxRecDepth 20000 in
theorem lwm_667 : Cond.methodLink RX7 45 Lib.Math.abs.name ∈ lw_tbl := by decide +kernel
set_option maxRecDepth 20000 in
theorem lwm_668 : Cond.fieldLink RX7 21 "LeadSheets$Voicing" "size" "I" ∈ lw_tbl := by decide +kernel
set_option maxRecDepth 20000 in
theorem lwm_669 : Cond.code yX7_nearest cX7_nearest 4 (some .int) ∈ lw_tbl := List.mem_of_getElem? (i := 556) rfl
set_option maxRecDepth 20000 in
theorem lwm_670 : Cond.selects RX7 yX7_nearest yX7_nearest ∈ lw_tbl := by decide +kernel
set_option maxRecDepth 20000 in
theorem lwm_671 : Cond.instanceMethod yX7_nearest ∈ lw_tbl := by decide +kernel
set_option maxRecDepth 20000 in
theorem lwm_672 : Cond.methodLink RX7 25 yX7_nearest ∈ lw_tbl := by decide +kernel
set_option maxRecDepth 20000 in
theorem lwm_673 : Cond.fieldLink RX7 29 "LeadSheets$Voicing" "best" "J" ∈ lw_tbl := by decide +kernel
set_option maxRecDepth 20000 in
theorem lwm_674 : Cond.code yX7_find cX7_find 6 (some .boolean) ∈ lw_tbl := List.mem_of_getElem? (i := 552) rfl
set_option maxRecDepth 20000 in
theorem lwm_675 : Cond.selects RX7 yX7_find yX7_find ∈ lw_tbl := by decide +kernel
set_option maxRecDepth 20000 in
theorem lwm_676 : Cond.instanceMethod yX7_find ∈ lw_tbl := by decide +kernel
set_option maxRecDepth 20000 in
theorem lwm_677 : Cond.methodLink RX8 160 yX7_find ∈ lw_tbl := by decide +kernel
set_option maxRecDepth 20000 in
theorem lwm_678 : Cond.code yX7_take cX7_take 4 none ∈ lw_tbl := List.mem_of_getElem? (i := 573) rfl
set_option maxRecDepth 20000 in
theorem lwm_679 : Cond.selects RX7 yX7_take yX7_take ∈ lw_tbl := by decide +kernel
set_option maxRecDepth 20000 in
theorem lwm_680 : Cond.instanceMethod yX7_take ∈ lw_tbl := by decide +kernel
set_option maxRecDepth 20000 in
theorem lwm_681 : Cond.methodLink RX7 37 yX7_take ∈ lw_tbl := by decide +kernel
set_option maxRecDepth 20000 in
theorem lwm_682 : Cond.fieldLink RX7 58 "LeadSheets$Voicing" "bestCost" "I" ∈ lw_tbl := by decide +kernel
set_option maxRecDepth 20000 in
theorem lwm_683 : Cond.code yX7_offer cX7_offer 4 none ∈ lw_tbl := List.mem_of_getElem? (i := 569) rfl
set_option maxRecDepth 20000 in
theorem lwm_684 : Cond.selects RX7 yX7_offer yX7_offer ∈ lw_tbl := by decide +kernel
set_option maxRecDepth 20000 in
theorem lwm_685 : Cond.instanceMethod yX7_offer ∈ lw_tbl := by decide +kernel
set_option maxRecDepth 20000 in
theorem lwm_686 : Cond.methodLink RX7 54 yX7_offer ∈ lw_tbl := by decide +kernel
set_option maxRecDepth 20000 in
theorem lwm_687 : Cond.code yX7_climb cX7_climb 14 none ∈ lw_tbl := List.mem_of_getElem? (i := 565) rfl
set_option maxRecDepth 20000 in
theorem lwm_688 : Cond.selects RX7 yX7_climb yX7_climb ∈ lw_tbl := by decide +kernel
set_option maxRecDepth 20000 in
theorem lwm_689 : Cond.instanceMethod yX7_climb ∈ lw_tbl := by decide +kernel
set_option maxRecDepth 20000 in
theorem lwm_690 : Cond.methodLink RX7 33 yX7_climb ∈ lw_tbl := by decide +kernel
set_option maxRecDepth 20000 in
theorem lwm_691 : Cond.methodLink RL 63 yX9_voice ∈ lw_tbl := by decide +kernel
set_option maxRecDepth 20000 in
theorem lwm_692 : Cond.instanceMethod yX9_voice ∈ lw_tbl := by decide +kernel
set_option maxRecDepth 20000 in
theorem lwm_693 : Cond.selects RX9 yX9_voice yX9_voice ∈ lw_tbl := by decide +kernel
set_option maxRecDepth 20000 in
theorem lwm_694 : Cond.code yX9_voice cX9_voice 12 (some .int) ∈ lw_tbl := List.mem_of_getElem? (i := 965) rfl
set_option maxRecDepth 20000 in
theorem lwm_695 : Cond.fieldLink RX9 344 "LeadSheetsModel" "keyMany" "I" ∈ lw_tbl := by decide +kernel
set_option maxRecDepth 20000 in
theorem lwm_696 : Cond.fieldLink RX9 347 "LeadSheetsModel" "madeMany" "I" ∈ lw_tbl := by decide +kernel
set_option maxRecDepth 20000 in
theorem lwm_697 : Cond.code yX9_rest cX9_rest 12 (some .int) ∈ lw_tbl := List.mem_of_getElem? (i := 973) rfl
set_option maxRecDepth 20000 in
theorem lwm_698 : Cond.selects RX9 yX9_rest yX9_rest ∈ lw_tbl := by decide +kernel
set_option maxRecDepth 20000 in
theorem lwm_699 : Cond.instanceMethod yX9_rest ∈ lw_tbl := by decide +kernel
set_option maxRecDepth 20000 in
theorem lwm_700 : Cond.methodLink RX9 353 yX9_rest ∈ lw_tbl := by decide +kernel
set_option maxRecDepth 20000 in
theorem lwm_701 : Cond.code yX9_nearest cX9_nearest 5 (some .int) ∈ lw_tbl := List.mem_of_getElem? (i := 969) rfl
set_option maxRecDepth 20000 in
theorem lwm_702 : Cond.selects RX9 yX9_nearest yX9_nearest ∈ lw_tbl := by decide +kernel
set_option maxRecDepth 20000 in
theorem lwm_703 : Cond.instanceMethod yX9_nearest ∈ lw_tbl := by decide +kernel
set_option maxRecDepth 20000 in
theorem lwm_704 : Cond.methodLink RX9 350 yX9_nearest ∈ lw_tbl := by decide +kernel
set_option maxRecDepth 20000 in
theorem lwm_705 : Cond.methodLink RL 64 yX8_key ∈ lw_tbl := by decide +kernel
set_option maxRecDepth 20000 in
theorem lwm_706 : Cond.instanceMethod yX8_key ∈ lw_tbl := by decide +kernel
set_option maxRecDepth 20000 in
theorem lwm_707 : Cond.selects RX8 yX8_key yX8_key ∈ lw_tbl := by decide +kernel
set_option maxRecDepth 20000 in
theorem lwm_708 : Cond.code yX8_key cX8_key 2 (some .int) ∈ lw_tbl := List.mem_of_getElem? (i := 577) rfl
set_option maxRecDepth 20000 in
theorem lwm_709 : Cond.code yX7_keyAt cX7_keyAt 2 (some .int) ∈ lw_tbl := List.mem_of_getElem? (i := 581) rfl
set_option maxRecDepth 20000 in
theorem lwm_710 : Cond.selects RX7 yX7_keyAt yX7_keyAt ∈ lw_tbl := by decide +kernel
set_option maxRecDepth 20000 in
theorem lwm_711 : Cond.instanceMethod yX7_keyAt ∈ lw_tbl := by decide +kernel
set_option maxRecDepth 20000 in
theorem lwm_712 : Cond.methodLink RX8 166 yX7_keyAt ∈ lw_tbl := by decide +kernel
set_option maxRecDepth 20000 in
theorem lwm_713 : Cond.methodLink RL 67 yX9_key ∈ lw_tbl := by decide +kernel
set_option maxRecDepth 20000 in
theorem lwm_714 : Cond.instanceMethod yX9_key ∈ lw_tbl := by decide +kernel
set_option maxRecDepth 20000 in
theorem lwm_715 : Cond.selects RX9 yX9_key yX9_key ∈ lw_tbl := by decide +kernel
set_option maxRecDepth 20000 in
theorem lwm_716 : Cond.code yX9_key cX9_key 2 (some .int) ∈ lw_tbl := List.mem_of_getElem? (i := 977) rfl
set_option maxRecDepth 20000 in
theorem lwm_717 : Cond.methodLink RL 68 yX8_rest ∈ lw_tbl := by decide +kernel
set_option maxRecDepth 20000 in
theorem lwm_718 : Cond.instanceMethod yX8_rest ∈ lw_tbl := by decide +kernel
set_option maxRecDepth 20000 in
theorem lwm_719 : Cond.selects RX8 yX8_rest yX8_rest ∈ lw_tbl := by decide +kernel
set_option maxRecDepth 20000 in
theorem lwm_720 : Cond.code yX8_rest cX8_rest 1 (some .int) ∈ lw_tbl := List.mem_of_getElem? (i := 585) rfl
set_option maxRecDepth 20000 in
theorem lwm_721 : Cond.code yX7_drop cX7_drop 2 (some .int) ∈ lw_tbl := List.mem_of_getElem? (i := 589) rfl
set_option maxRecDepth 20000 in
theorem lwm_722 : Cond.selects RX7 yX7_drop yX7_drop ∈ lw_tbl := by decide +kernel
set_option maxRecDepth 20000 in
theorem lwm_723 : Cond.instanceMethod yX7_drop ∈ lw_tbl := by decide +kernel
set_option maxRecDepth 20000 in
theorem lwm_724 : Cond.methodLink RX8 169 yX7_drop ∈ lw_tbl := by decide +kernel
set_option maxRecDepth 20000 in
theorem lwm_725 : Cond.methodLink RL 71 yX9_rest_ ∈ lw_tbl := by decide +kernel
set_option maxRecDepth 20000 in
theorem lwm_726 : Cond.instanceMethod yX9_rest_ ∈ lw_tbl := by decide +kernel
set_option maxRecDepth 20000 in
theorem lwm_727 : Cond.selects RX9 yX9_rest_ yX9_rest_ ∈ lw_tbl := by decide +kernel
set_option maxRecDepth 20000 in
theorem lwm_728 : Cond.code yX9_rest_ cX9_rest_ 2 (some .int) ∈ lw_tbl := List.mem_of_getElem? (i := 981) rfl
set_option maxRecDepth 20000 in
theorem lwm_729 : Cond.methodLink RL 72 yX8_figure ∈ lw_tbl := by decide +kernel
set_option maxRecDepth 20000 in
theorem lwm_730 : Cond.instanceMethod yX8_figure ∈ lw_tbl := by decide +kernel
set_option maxRecDepth 20000 in
theorem lwm_731 : Cond.selects RX8 yX8_figure yX8_figure ∈ lw_tbl := by decide +kernel
set_option maxRecDepth 20000 in
theorem lwm_732 : Cond.code yX8_figure cX8_figure 5 (some .int) ∈ lw_tbl := List.mem_of_getElem? (i := 593) rfl
set_option maxRecDepth 20000 in
theorem lwm_733 : Cond.code yX1_has cX1_has 2 (some .boolean) ∈ lw_tbl := List.mem_of_getElem? (i := 597) rfl
set_option maxRecDepth 20000 in
theorem lwm_734 : Cond.selects RX1 yX1_has yX1_has ∈ lw_tbl := by decide +kernel
set_option maxRecDepth 20000 in
theorem lwm_735 : Cond.instanceMethod yX1_has ∈ lw_tbl := by decide +kernel
set_option maxRecDepth 20000 in
theorem lwm_736 : Cond.methodLink RX8 173 yX1_has ∈ lw_tbl := by decide +kernel
set_option maxRecDepth 20000 in
theorem lwm_737 : Cond.code yX8_addNumeral cX8_addNumeral 3 none ∈ lw_tbl := List.mem_of_getElem? (i := 601) rfl
set_option maxRecDepth 20000 in
theorem lwm_738 : Cond.selects RX8 yX8_addNumeral yX8_addNumeral ∈ lw_tbl := by decide +kernel
set_option maxRecDepth 20000 in
theorem lwm_739 : Cond.instanceMethod yX8_addNumeral ∈ lw_tbl := by decide +kernel
set_option maxRecDepth 20000 in
theorem lwm_740 : Cond.methodLink RX8 176 yX8_addNumeral ∈ lw_tbl := by decide +kernel
set_option maxRecDepth 20000 in
theorem lwm_741 : Cond.methodLink RX1 42 yX4_isIn ∈ lw_tbl := by decide +kernel
set_option maxRecDepth 20000 in
theorem lwm_742 : Cond.code yX1_degreeOfBass cX1_degreeOfBass 2 (some .int) ∈ lw_tbl := List.mem_of_getElem? (i := 610) rfl
set_option maxRecDepth 20000 in
theorem lwm_743 : Cond.selects RX1 yX1_degreeOfBass yX1_degreeOfBass ∈ lw_tbl := by decide +kernel
set_option maxRecDepth 20000 in
theorem lwm_744 : Cond.instanceMethod yX1_degreeOfBass ∈ lw_tbl := by decide +kernel
set_option maxRecDepth 20000 in
theorem lwm_745 : Cond.methodLink RX8 222 yX1_degreeOfBass ∈ lw_tbl := by decide +kernel
set_option maxRecDepth 20000 in
theorem lwm_746 : Cond.code yX8_addInversion cX8_addInversion 5 none ∈ lw_tbl := List.mem_of_getElem? (i := 606) rfl
set_option maxRecDepth 20000 in
theorem lwm_747 : Cond.selects RX8 yX8_addInversion yX8_addInversion ∈ lw_tbl := by decide +kernel
set_option maxRecDepth 20000 in
theorem lwm_748 : Cond.instanceMethod yX8_addInversion ∈ lw_tbl := by decide +kernel
set_option maxRecDepth 20000 in
theorem lwm_749 : Cond.methodLink RX8 183 yX8_addInversion ∈ lw_tbl := by decide +kernel
set_option maxRecDepth 20000 in
theorem lwm_750 : Cond.methodLink RX1 48 yX4_degree ∈ lw_tbl := by decide +kernel
set_option maxRecDepth 20000 in
theorem lwm_751 : Cond.methodLink RX1 46 yX4_pitch ∈ lw_tbl := by decide +kernel
set_option maxRecDepth 20000 in
theorem lwm_752 : Cond.methodLink RL 75 yX9_figure ∈ lw_tbl := by decide +kernel
set_option maxRecDepth 20000 in
theorem lwm_753 : Cond.instanceMethod yX9_figure ∈ lw_tbl := by decide +kernel
set_option maxRecDepth 20000 in
theorem lwm_754 : Cond.selects RX9 yX9_figure yX9_figure ∈ lw_tbl := by decide +kernel
set_option maxRecDepth 20000 in
theorem lwm_755 : Cond.code yX9_figure cX9_figure 7 (some .int) ∈ lw_tbl := List.mem_of_getElem? (i := 985) rfl
set_option maxRecDepth 20000 in
theorem lwm_756 : Cond.code yX9_hasHalf cX9_hasHalf 5 (some .boolean) ∈ lw_tbl := List.mem_of_getElem? (i := 989) rfl
set_option maxRecDepth 20000 in
theorem lwm_757 : Cond.selects RX9 yX9_hasHalf yX9_hasHalf ∈ lw_tbl := by decide +kernel
set_option maxRecDepth 20000 in
theorem lwm_758 : Cond.instanceMethod yX9_hasHalf ∈ lw_tbl := by decide +kernel
set_option maxRecDepth 20000 in
theorem lwm_759 : Cond.methodLink RX9 356 yX9_hasHalf ∈ lw_tbl := by decide +kernel
set_option maxRecDepth 20000 in
theorem lwm_760 : Cond.code yX9_showsNumeral cX9_showsNumeral 6 none ∈ lw_tbl := List.mem_of_getElem? (i := 993) rfl
set_option maxRecDepth 20000 in
theorem lwm_761 : Cond.selects RX9 yX9_showsNumeral yX9_showsNumeral ∈ lw_tbl := by decide +kernel
set_option maxRecDepth 20000 in
theorem lwm_762 : Cond.instanceMethod yX9_showsNumeral ∈ lw_tbl := by decide +kernel
set_option maxRecDepth 20000 in
theorem lwm_763 : Cond.methodLink RX9 360 yX9_showsNumeral ∈ lw_tbl := by decide +kernel
set_option maxRecDepth 20000 in
theorem lwm_764 : Cond.methodLink RL 76 yX8_count ∈ lw_tbl := by decide +kernel
set_option maxRecDepth 20000 in
theorem lwm_765 : Cond.instanceMethod yX8_count ∈ lw_tbl := by decide +kernel
set_option maxRecDepth 20000 in
theorem lwm_766 : Cond.selects RX8 yX8_count yX8_count ∈ lw_tbl := by decide +kernel
set_option maxRecDepth 20000 in
theorem lwm_767 : Cond.code yX8_count cX8_count 2 (some .int) ∈ lw_tbl := List.mem_of_getElem? (i := 619) rfl
set_option maxRecDepth 20000 in
theorem lwm_768 : Cond.methodLink RL 79 yX9_count ∈ lw_tbl := by decide +kernel
set_option maxRecDepth 20000 in
theorem lwm_769 : Cond.instanceMethod yX9_count ∈ lw_tbl := by decide +kernel
set_option maxRecDepth 20000 in
theorem lwm_770 : Cond.selects RX9 yX9_count yX9_count ∈ lw_tbl := by decide +kernel
set_option maxRecDepth 20000 in
theorem lwm_771 : Cond.code yX9_count cX9_count 2 (some .int) ∈ lw_tbl := List.mem_of_getElem? (i := 997) rfl
