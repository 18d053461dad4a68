theorem kw_634 : .codeWith y_Law_begin b_Law_begin 3 (some .int) [(0, 8, 11, 13)] ∈ WS := List.mem_filter.mpr ⟨List.mem_append_right _ (List.mem_of_getElem? (i := 215) (by decide +kernel)), by decide +kernel⟩
theorem kw_635 : .initialized R_Law ∈ WS := List.mem_filter.mpr ⟨List.mem_append_right _ (List.mem_of_getElem? (i := 0) (by decide +kernel)), by decide +kernel⟩
theorem kw_636 : .methodLink R_Law 83 y_Law_begin ∈ WS := List.mem_filter.mpr ⟨List.mem_append_right _ (List.mem_of_getElem? (i := 213) (by decide +kernel)), by decide +kernel⟩
theorem kw_637 : .static y_Law_begin ∈ WS := List.mem_filter.mpr ⟨List.mem_append_right _ (List.mem_of_getElem? (i := 214) (by decide +kernel)), by decide +kernel⟩
theorem kw_638 : .code y_Mo_begin b_Mo_begin 1 (some .int) ∈ WS := List.mem_filter.mpr ⟨List.mem_append_right _ (List.mem_of_getElem? (i := 1001) (by decide +kernel)), by decide +kernel⟩
theorem kw_639 : .methodLink R_Law 86 y_Mo_begin ∈ WS := List.mem_filter.mpr ⟨List.mem_append_right _ (List.mem_of_getElem? (i := 998) (by decide +kernel)), by decide +kernel⟩
theorem kw_640 : .instanceMethod y_Mo_begin ∈ WS := List.mem_filter.mpr ⟨List.mem_append_right _ (List.mem_of_getElem? (i := 999) (by decide +kernel)), by decide +kernel⟩
theorem kw_641 : .selects R_Mo y_Mo_begin y_Mo_begin ∈ WS := List.mem_filter.mpr ⟨List.mem_append_right _ (List.mem_of_getElem? (i := 1000) (by decide +kernel)), by decide +kernel⟩
theorem kw_642 : .code y_Mo_thrown b_Mo_thrown 1 (some .int) ∈ WS := List.mem_filter.mpr ⟨List.mem_append_right _ (List.mem_of_getElem? (i := 997) (by decide +kernel)), by decide +kernel⟩
theorem kw_643 : .methodLink R_Law 87 y_Mo_thrown ∈ WS := List.mem_filter.mpr ⟨List.mem_append_right _ (List.mem_of_getElem? (i := 994) (by decide +kernel)), by decide +kernel⟩
theorem kw_644 : .instanceMethod y_Mo_thrown ∈ WS := List.mem_filter.mpr ⟨List.mem_append_right _ (List.mem_of_getElem? (i := 995) (by decide +kernel)), by decide +kernel⟩
theorem kw_645 : .selects R_Mo y_Mo_thrown y_Mo_thrown ∈ WS := List.mem_filter.mpr ⟨List.mem_append_right _ (List.mem_of_getElem? (i := 996) (by decide +kernel)), by decide +kernel⟩
theorem kw_646 : .codeWith y_Law_write b_Law_write 7 (some .int) [(0, 14, 17, 19), (0, 14, 21, 21), (0, 14, 25, 13), (0, 14, 29, 23)] ∈ WS := List.mem_filter.mpr ⟨List.mem_append_right _ (List.mem_of_getElem? (i := 293) (by decide +kernel)), by decide +kernel⟩
theorem kw_647 : .methodLink R_Law 90 y_Law_write ∈ WS := List.mem_filter.mpr ⟨List.mem_append_right _ (List.mem_of_getElem? (i := 291) (by decide +kernel)), by decide +kernel⟩
theorem kw_648 : .static y_Law_write ∈ WS := List.mem_filter.mpr ⟨List.mem_append_right _ (List.mem_of_getElem? (i := 292) (by decide +kernel)), by decide +kernel⟩
theorem kw_649 : .code y_Mo_write b_Mo_write 7 (some .int) ∈ WS := List.mem_filter.mpr ⟨List.mem_append_right _ (List.mem_of_getElem? (i := 1009) (by decide +kernel)), by decide +kernel⟩
theorem kw_650 : .methodLink R_Law 93 y_Mo_write ∈ WS := List.mem_filter.mpr ⟨List.mem_append_right _ (List.mem_of_getElem? (i := 1006) (by decide +kernel)), by decide +kernel⟩
theorem kw_651 : .instanceMethod y_Mo_write ∈ WS := List.mem_filter.mpr ⟨List.mem_append_right _ (List.mem_of_getElem? (i := 1007) (by decide +kernel)), by decide +kernel⟩
theorem kw_652 : .selects R_Mo y_Mo_write y_Mo_write ∈ WS := List.mem_filter.mpr ⟨List.mem_append_right _ (List.mem_of_getElem? (i := 1008) (by decide +kernel)), by decide +kernel⟩
theorem kw_653 : .codeWith y_Law_request b_Law_request 4 (some .int) [(0, 9, 12, 19), (0, 9, 15, 21), (0, 9, 18, 13), (0, 9, 21, 23)] ∈ WS := List.mem_filter.mpr ⟨List.mem_append_right _ (List.mem_of_getElem? (i := 393) (by decide +kernel)), by decide +kernel⟩
theorem kw_654 : .methodLink R_Law 94 y_Law_request ∈ WS := List.mem_filter.mpr ⟨List.mem_append_right _ (List.mem_of_getElem? (i := 391) (by decide +kernel)), by decide +kernel⟩
theorem kw_655 : .static y_Law_request ∈ WS := List.mem_filter.mpr ⟨List.mem_append_right _ (List.mem_of_getElem? (i := 392) (by decide +kernel)), by decide +kernel⟩
theorem kw_656 : .code y_Mo_request b_Mo_request 4 (some .int) ∈ WS := List.mem_filter.mpr ⟨List.mem_append_right _ (List.mem_of_getElem? (i := 1021) (by decide +kernel)), by decide +kernel⟩
theorem kw_657 : .methodLink R_Law 97 y_Mo_request ∈ WS := List.mem_filter.mpr ⟨List.mem_append_right _ (List.mem_of_getElem? (i := 1018) (by decide +kernel)), by decide +kernel⟩
theorem kw_658 : .instanceMethod y_Mo_request ∈ WS := List.mem_filter.mpr ⟨List.mem_append_right _ (List.mem_of_getElem? (i := 1019) (by decide +kernel)), by decide +kernel⟩
theorem kw_659 : .selects R_Mo y_Mo_request y_Mo_request ∈ WS := List.mem_filter.mpr ⟨List.mem_append_right _ (List.mem_of_getElem? (i := 1020) (by decide +kernel)), by decide +kernel⟩
theorem kw_660 : .codeWith y_Law_refuse b_Law_refuse 5 (some .int) [(0, 10, 13, 19), (0, 10, 17, 21), (0, 10, 21, 13), (0, 10, 25, 23)] ∈ WS := List.mem_filter.mpr ⟨List.mem_append_right _ (List.mem_of_getElem? (i := 427) (by decide +kernel)), by decide +kernel⟩
theorem kw_661 : .methodLink R_Law 98 y_Law_refuse ∈ WS := List.mem_filter.mpr ⟨List.mem_append_right _ (List.mem_of_getElem? (i := 425) (by decide +kernel)), by decide +kernel⟩
theorem kw_662 : .static y_Law_refuse ∈ WS := List.mem_filter.mpr ⟨List.mem_append_right _ (List.mem_of_getElem? (i := 426) (by decide +kernel)), by decide +kernel⟩
theorem kw_663 : .code y_Mo_refuse b_Mo_refuse 3 (some .int) ∈ WS := List.mem_filter.mpr ⟨List.mem_append_right _ (List.mem_of_getElem? (i := 1033) (by decide +kernel)), by decide +kernel⟩
theorem kw_664 : .methodLink R_Law 101 y_Mo_refuse ∈ WS := List.mem_filter.mpr ⟨List.mem_append_right _ (List.mem_of_getElem? (i := 1030) (by decide +kernel)), by decide +kernel⟩
theorem kw_665 : .instanceMethod y_Mo_refuse ∈ WS := List.mem_filter.mpr ⟨List.mem_append_right _ (List.mem_of_getElem? (i := 1031) (by decide +kernel)), by decide +kernel⟩
theorem kw_666 : .selects R_Mo y_Mo_refuse y_Mo_refuse ∈ WS := List.mem_filter.mpr ⟨List.mem_append_right _ (List.mem_of_getElem? (i := 1032) (by decide +kernel)), by decide +kernel⟩
theorem kw_667 : .codeWith y_Law_take b_Law_take 5 (some .int) [(0, 10, 13, 19), (0, 10, 17, 21), (0, 10, 21, 13), (0, 10, 25, 23)] ∈ WS := List.mem_filter.mpr ⟨List.mem_append_right _ (List.mem_of_getElem? (i := 447) (by decide +kernel)), by decide +kernel⟩
theorem kw_668 : .methodLink R_Law 102 y_Law_take ∈ WS := List.mem_filter.mpr ⟨List.mem_append_right _ (List.mem_of_getElem? (i := 445) (by decide +kernel)), by decide +kernel⟩
theorem kw_669 : .static y_Law_take ∈ WS := List.mem_filter.mpr ⟨List.mem_append_right _ (List.mem_of_getElem? (i := 446) (by decide +kernel)), by decide +kernel⟩
theorem kw_670 : .code y_Mo_take b_Mo_take 7 (some .int) ∈ WS := List.mem_filter.mpr ⟨List.mem_append_right _ (List.mem_of_getElem? (i := 1049) (by decide +kernel)), by decide +kernel⟩
theorem kw_671 : .methodLink R_Law 104 y_Mo_take ∈ WS := List.mem_filter.mpr ⟨List.mem_append_right _ (List.mem_of_getElem? (i := 1046) (by decide +kernel)), by decide +kernel⟩
theorem kw_672 : .instanceMethod y_Mo_take ∈ WS := List.mem_filter.mpr ⟨List.mem_append_right _ (List.mem_of_getElem? (i := 1047) (by decide +kernel)), by decide +kernel⟩
theorem kw_673 : .selects R_Mo y_Mo_take y_Mo_take ∈ WS := List.mem_filter.mpr ⟨List.mem_append_right _ (List.mem_of_getElem? (i := 1048) (by decide +kernel)), by decide +kernel⟩
theorem kw_674 : .codeWith y_Law_deliver b_Law_deliver 5 (some .int) [(0, 10, 13, 40)] ∈ WS := List.mem_filter.mpr ⟨List.mem_append_right _ (List.mem_of_getElem? (i := 474) (by decide +kernel)), by decide +kernel⟩
theorem kw_675 : .methodLink R_Law 105 y_Law_deliver ∈ WS := List.mem_filter.mpr ⟨List.mem_append_right _ (List.mem_of_getElem? (i := 472) (by decide +kernel)), by decide +kernel⟩
theorem kw_676 : .static y_Law_deliver ∈ WS := List.mem_filter.mpr ⟨List.mem_append_right _ (List.mem_of_getElem? (i := 473) (by decide +kernel)), by decide +kernel⟩
theorem kw_677 : .code y_Mo_deliver b_Mo_deliver 3 (some .int) ∈ WS := List.mem_filter.mpr ⟨List.mem_append_right _ (List.mem_of_getElem? (i := 1053) (by decide +kernel)), by decide +kernel⟩
theorem kw_678 : .methodLink R_Law 108 y_Mo_deliver ∈ WS := List.mem_filter.mpr ⟨List.mem_append_right _ (List.mem_of_getElem? (i := 1050) (by decide +kernel)), by decide +kernel⟩
theorem kw_679 : .instanceMethod y_Mo_deliver ∈ WS := List.mem_filter.mpr ⟨List.mem_append_right _ (List.mem_of_getElem? (i := 1051) (by decide +kernel)), by decide +kernel⟩
theorem kw_680 : .selects R_Mo y_Mo_deliver y_Mo_deliver ∈ WS := List.mem_filter.mpr ⟨List.mem_append_right _ (List.mem_of_getElem? (i := 1052) (by decide +kernel)), by decide +kernel⟩
theorem kw_681 : .codeWith y_Law_lose b_Law_lose 4 (some .int) [(0, 9, 12, 40)] ∈ WS := List.mem_filter.mpr ⟨List.mem_append_right _ (List.mem_of_getElem? (i := 613) (by decide +kernel)), by decide +kernel⟩
theorem kw_682 : .methodLink R_Law 109 y_Law_lose ∈ WS := List.mem_filter.mpr ⟨List.mem_append_right _ (List.mem_of_getElem? (i := 611) (by decide +kernel)), by decide +kernel⟩
theorem kw_683 : .static y_Law_lose ∈ WS := List.mem_filter.mpr ⟨List.mem_append_right _ (List.mem_of_getElem? (i := 612) (by decide +kernel)), by decide +kernel⟩
theorem kw_684 : .code y_Mo_lose b_Mo_lose 2 (some .int) ∈ WS := List.mem_filter.mpr ⟨List.mem_append_right _ (List.mem_of_getElem? (i := 1101) (by decide +kernel)), by decide +kernel⟩
theorem kw_685 : .methodLink R_Law 111 y_Mo_lose ∈ WS := List.mem_filter.mpr ⟨List.mem_append_right _ (List.mem_of_getElem? (i := 1098) (by decide +kernel)), by decide +kernel⟩
theorem kw_686 : .instanceMethod y_Mo_lose ∈ WS := List.mem_filter.mpr ⟨List.mem_append_right _ (List.mem_of_getElem? (i := 1099) (by decide +kernel)), by decide +kernel⟩
theorem kw_687 : .selects R_Mo y_Mo_lose y_Mo_lose ∈ WS := List.mem_filter.mpr ⟨List.mem_append_right _ (List.mem_of_getElem? (i := 1100) (by decide +kernel)), by decide +kernel⟩
theorem kw_688 : .codeWith y_Law_up b_Law_up 6 (some .int) [(0, 19, 22, 19)] ∈ WS := List.mem_filter.mpr ⟨List.mem_append_right _ (List.mem_of_getElem? (i := 620) (by decide +kernel)), by decide +kernel⟩
theorem kw_689 : .methodLink R_Law 112 y_Law_up ∈ WS := List.mem_filter.mpr ⟨List.mem_append_right _ (List.mem_of_getElem? (i := 618) (by decide +kernel)), by decide +kernel⟩
theorem kw_690 : .static y_Law_up ∈ WS := List.mem_filter.mpr ⟨List.mem_append_right _ (List.mem_of_getElem? (i := 619) (by decide +kernel)), by decide +kernel⟩
theorem kw_691 : .code y_Mo_up b_Mo_up 6 (some .boolean) ∈ WS := List.mem_filter.mpr ⟨List.mem_append_right _ (List.mem_of_getElem? (i := 1105) (by decide +kernel)), by decide +kernel⟩
theorem kw_692 : .methodLink R_Law 115 y_Mo_up ∈ WS := List.mem_filter.mpr ⟨List.mem_append_right _ (List.mem_of_getElem? (i := 1102) (by decide +kernel)), by decide +kernel⟩
theorem kw_693 : .instanceMethod y_Mo_up ∈ WS := List.mem_filter.mpr ⟨List.mem_append_right _ (List.mem_of_getElem? (i := 1103) (by decide +kernel)), by decide +kernel⟩
theorem kw_694 : .selects R_Mo y_Mo_up y_Mo_up ∈ WS := List.mem_filter.mpr ⟨List.mem_append_right _ (List.mem_of_getElem? (i := 1104) (by decide +kernel)), by decide +kernel⟩
theorem kw_695 : .codeWith y_Law_text b_Law_text 5 (some .int) [(0, 10, 13, 19), (0, 10, 17, 40)] ∈ WS := List.mem_filter.mpr ⟨List.mem_append_right _ (List.mem_of_getElem? (i := 647) (by decide +kernel)), by decide +kernel⟩
theorem kw_696 : .methodLink R_Law 116 y_Law_text ∈ WS := List.mem_filter.mpr ⟨List.mem_append_right _ (List.mem_of_getElem? (i := 645) (by decide +kernel)), by decide +kernel⟩
theorem kw_697 : .static y_Law_text ∈ WS := List.mem_filter.mpr ⟨List.mem_append_right _ (List.mem_of_getElem? (i := 646) (by decide +kernel)), by decide +kernel⟩
theorem kw_698 : .code y_Mo_text b_Mo_text 7 (some .int) ∈ WS := List.mem_filter.mpr ⟨List.mem_append_right _ (List.mem_of_getElem? (i := 1109) (by decide +kernel)), by decide +kernel⟩
theorem kw_699 : .methodLink R_Law 118 y_Mo_text ∈ WS := List.mem_filter.mpr ⟨List.mem_append_right _ (List.mem_of_getElem? (i := 1106) (by decide +kernel)), by decide +kernel⟩
theorem kw_700 : .instanceMethod y_Mo_text ∈ WS := List.mem_filter.mpr ⟨List.mem_append_right _ (List.mem_of_getElem? (i := 1107) (by decide +kernel)), by decide +kernel⟩
theorem kw_701 : .selects R_Mo y_Mo_text y_Mo_text ∈ WS := List.mem_filter.mpr ⟨List.mem_append_right _ (List.mem_of_getElem? (i := 1108) (by decide +kernel)), by decide +kernel⟩
theorem kw_702 : .codeWith y_Law_value b_Law_value 5 (some .int) [(0, 10, 13, 19)] ∈ WS := List.mem_filter.mpr ⟨List.mem_append_right _ (List.mem_of_getElem? (i := 861) (by decide +kernel)), by decide +kernel⟩
theorem kw_703 : .methodLink R_Law 119 y_Law_value ∈ WS := List.mem_filter.mpr ⟨List.mem_append_right _ (List.mem_of_getElem? (i := 859) (by decide +kernel)), by decide +kernel⟩
theorem kw_704 : .static y_Law_value ∈ WS := List.mem_filter.mpr ⟨List.mem_append_right _ (List.mem_of_getElem? (i := 860) (by decide +kernel)), by decide +kernel⟩
theorem kw_705 : .code y_Mo_value b_Mo_value 3 (some .int) ∈ WS := List.mem_filter.mpr ⟨List.mem_append_right _ (List.mem_of_getElem? (i := 1129) (by decide +kernel)), by decide +kernel⟩
theorem kw_706 : .methodLink R_Law 121 y_Mo_value ∈ WS := List.mem_filter.mpr ⟨List.mem_append_right _ (List.mem_of_getElem? (i := 1126) (by decide +kernel)), by decide +kernel⟩
theorem kw_707 : .instanceMethod y_Mo_value ∈ WS := List.mem_filter.mpr ⟨List.mem_append_right _ (List.mem_of_getElem? (i := 1127) (by decide +kernel)), by decide +kernel⟩
theorem kw_708 : .selects R_Mo y_Mo_value y_Mo_value ∈ WS := List.mem_filter.mpr ⟨List.mem_append_right _ (List.mem_of_getElem? (i := 1128) (by decide +kernel)), by decide +kernel⟩
theorem kw_709 : .codeWith y_Law_lock b_Law_lock 5 (some .int) [(0, 10, 13, 19)] ∈ WS := List.mem_filter.mpr ⟨List.mem_append_right _ (List.mem_of_getElem? (i := 868) (by decide +kernel)), by decide +kernel⟩
theorem kw_710 : .methodLink R_Law 122 y_Law_lock ∈ WS := List.mem_filter.mpr ⟨List.mem_append_right _ (List.mem_of_getElem? (i := 866) (by decide +kernel)), by decide +kernel⟩
theorem kw_711 : .static y_Law_lock ∈ WS := List.mem_filter.mpr ⟨List.mem_append_right _ (List.mem_of_getElem? (i := 867) (by decide +kernel)), by decide +kernel⟩
theorem kw_712 : .code y_Mo_lock b_Mo_lock 3 (some .int) ∈ WS := List.mem_filter.mpr ⟨List.mem_append_right _ (List.mem_of_getElem? (i := 1133) (by decide +kernel)), by decide +kernel⟩
theorem kw_713 : .methodLink R_Law 124 y_Mo_lock ∈ WS := List.mem_filter.mpr ⟨List.mem_append_right _ (List.mem_of_getElem? (i := 1130) (by decide +kernel)), by decide +kernel⟩
theorem kw_714 : .instanceMethod y_Mo_lock ∈ WS := List.mem_filter.mpr ⟨List.mem_append_right _ (List.mem_of_getElem? (i := 1131) (by decide +kernel)), by decide +kernel⟩
theorem kw_715 : .selects R_Mo y_Mo_lock y_Mo_lock ∈ WS := List.mem_filter.mpr ⟨List.mem_append_right _ (List.mem_of_getElem? (i := 1132) (by decide +kernel)), by decide +kernel⟩
theorem kw_716 : .codeWith y_Law_state b_Law_state 5 (some .int) [(0, 10, 13, 19), (0, 10, 17, 21)] ∈ WS := List.mem_filter.mpr ⟨List.mem_append_right _ (List.mem_of_getElem? (i := 875) (by decide +kernel)), by decide +kernel⟩
theorem kw_717 : .methodLink R_Law 125 y_Law_state ∈ WS := List.mem_filter.mpr ⟨List.mem_append_right _ (List.mem_of_getElem? (i := 873) (by decide +kernel)), by decide +kernel⟩
theorem kw_718 : .static y_Law_state ∈ WS := List.mem_filter.mpr ⟨List.mem_append_right _ (List.mem_of_getElem? (i := 874) (by decide +kernel)), by decide +kernel⟩
theorem kw_719 : .code y_Mo_state b_Mo_state 3 (some .int) ∈ WS := List.mem_filter.mpr ⟨List.mem_append_right _ (List.mem_of_getElem? (i := 1137) (by decide +kernel)), by decide +kernel⟩
theorem kw_720 : .methodLink R_Law 127 y_Mo_state ∈ WS := List.mem_filter.mpr ⟨List.mem_append_right _ (List.mem_of_getElem? (i := 1134) (by decide +kernel)), by decide +kernel⟩
theorem kw_721 : .instanceMethod y_Mo_state ∈ WS := List.mem_filter.mpr ⟨List.mem_append_right _ (List.mem_of_getElem? (i := 1135) (by decide +kernel)), by decide +kernel⟩
theorem kw_722 : .selects R_Mo y_Mo_state y_Mo_state ∈ WS := List.mem_filter.mpr ⟨List.mem_append_right _ (List.mem_of_getElem? (i := 1136) (by decide +kernel)), by decide +kernel⟩
theorem kw_723 : .codeWith y_Law_outcome b_Law_outcome 5 (some .int) [(0, 10, 13, 19), (0, 10, 17, 21), (0, 10, 21, 13)] ∈ WS := List.mem_filter.mpr ⟨List.mem_append_right _ (List.mem_of_getElem? (i := 882) (by decide +kernel)), by decide +kernel⟩
theorem kw_724 : .methodLink R_Law 128 y_Law_outcome ∈ WS := List.mem_filter.mpr ⟨List.mem_append_right _ (List.mem_of_getElem? (i := 880) (by decide +kernel)), by decide +kernel⟩
theorem kw_725 : .static y_Law_outcome ∈ WS := List.mem_filter.mpr ⟨List.mem_append_right _ (List.mem_of_getElem? (i := 881) (by decide +kernel)), by decide +kernel⟩
theorem kw_726 : .code y_Mo_outcome b_Mo_outcome 4 (some .int) ∈ WS := List.mem_filter.mpr ⟨List.mem_append_right _ (List.mem_of_getElem? (i := 1141) (by decide +kernel)), by decide +kernel⟩
theorem kw_727 : .methodLink R_Law 130 y_Mo_outcome ∈ WS := List.mem_filter.mpr ⟨List.mem_append_right _ (List.mem_of_getElem? (i := 1138) (by decide +kernel)), by decide +kernel⟩
theorem kw_728 : .instanceMethod y_Mo_outcome ∈ WS := List.mem_filter.mpr ⟨List.mem_append_right _ (List.mem_of_getElem? (i := 1139) (by decide +kernel)), by decide +kernel⟩
theorem kw_729 : .selects R_Mo y_Mo_outcome y_Mo_outcome ∈ WS := List.mem_filter.mpr ⟨List.mem_append_right _ (List.mem_of_getElem? (i := 1140) (by decide +kernel)), by decide +kernel⟩
theorem kw_730 : .codeWith y_Law_taken b_Law_taken 7 (some .int) [(0, 14, 17, 19), (0, 14, 21, 21)] ∈ WS := List.mem_filter.mpr ⟨List.mem_append_right _ (List.mem_of_getElem? (i := 890) (by decide +kernel)), by decide +kernel⟩
theorem kw_731 : .methodLink R_Law 131 y_Law_taken ∈ WS := List.mem_filter.mpr ⟨List.mem_append_right _ (List.mem_of_getElem? (i := 888) (by decide +kernel)), by decide +kernel⟩
theorem kw_732 : .static y_Law_taken ∈ WS := List.mem_filter.mpr ⟨List.mem_append_right _ (List.mem_of_getElem? (i := 889) (by decide +kernel)), by decide +kernel⟩
theorem kw_733 : .code y_Mo_taken b_Mo_taken 6 (some .int) ∈ WS := List.mem_filter.mpr ⟨List.mem_append_right _ (List.mem_of_getElem? (i := 1145) (by decide +kernel)), by decide +kernel⟩
theorem kw_734 : .methodLink R_Law 134 y_Mo_taken ∈ WS := List.mem_filter.mpr ⟨List.mem_append_right _ (List.mem_of_getElem? (i := 1142) (by decide +kernel)), by decide +kernel⟩
theorem kw_735 : .instanceMethod y_Mo_taken ∈ WS := List.mem_filter.mpr ⟨List.mem_append_right _ (List.mem_of_getElem? (i := 1143) (by decide +kernel)), by decide +kernel⟩
theorem kw_736 : .selects R_Mo y_Mo_taken y_Mo_taken ∈ WS := List.mem_filter.mpr ⟨List.mem_append_right _ (List.mem_of_getElem? (i := 1144) (by decide +kernel)), by decide +kernel⟩
theorem kw_737 : .codeWith y_Law_count b_Law_count 4 (some .int) [(0, 9, 12, 19)] ∈ WS := List.mem_filter.mpr ⟨List.mem_append_right _ (List.mem_of_getElem? (i := 897) (by decide +kernel)), by decide +kernel⟩
theorem kw_738 : .methodLink R_Law 135 y_Law_count ∈ WS := List.mem_filter.mpr ⟨List.mem_append_right _ (List.mem_of_getElem? (i := 895) (by decide +kernel)), by decide +kernel⟩
theorem kw_739 : .static y_Law_count ∈ WS := List.mem_filter.mpr ⟨List.mem_append_right _ (List.mem_of_getElem? (i := 896) (by decide +kernel)), by decide +kernel⟩
theorem kw_740 : .code y_Mo_count b_Mo_count 2 (some .int) ∈ WS := List.mem_filter.mpr ⟨List.mem_append_right _ (List.mem_of_getElem? (i := 1149) (by decide +kernel)), by decide +kernel⟩
theorem kw_741 : .methodLink R_Law 137 y_Mo_count ∈ WS := List.mem_filter.mpr ⟨List.mem_append_right _ (List.mem_of_getElem? (i := 1146) (by decide +kernel)), by decide +kernel⟩
theorem kw_742 : .instanceMethod y_Mo_count ∈ WS := List.mem_filter.mpr ⟨List.mem_append_right _ (List.mem_of_getElem? (i := 1147) (by decide +kernel)), by decide +kernel⟩
theorem kw_743 : .selects R_Mo y_Mo_count y_Mo_count ∈ WS := List.mem_filter.mpr ⟨List.mem_append_right _ (List.mem_of_getElem? (i := 1148) (by decide +kernel)), by decide +kernel⟩
theorem hd_Law_begin : y_Law_begin.cls ≠ "java/lang/invoke/MethodHandle" ∧ y_Law_begin.cls ≠ "java/lang/invoke/VarHandle" ∧ (parseMethodDescriptor y_Law_begin.desc).map (fun d => d.parameters.length) = some 2 := by decide +kernel
theorem hd_Mo_begin : y_Mo_begin.cls ≠ "java/lang/invoke/MethodHandle" ∧ y_Mo_begin.cls ≠ "java/lang/invoke/VarHandle" ∧ (parseMethodDescriptor y_Mo_begin.desc).map (fun d => d.parameters.length) = some 0 := by decide +kernel
theorem hd_Mo_thrown : y_Mo_thrown.cls ≠ "java/lang/invoke/MethodHandle" ∧ y_Mo_thrown.cls ≠ "java/lang/invoke/VarHandle" ∧ (parseMethodDescriptor y_Mo_thrown.desc).map (fun d => d.parameters.length) = some 0 := by decide +kernel
theorem hd_Law_write : y_Law_write.cls ≠ "java/lang/invoke/MethodHandle" ∧ y_Law_write.cls ≠ "java/lang/invoke/VarHandle" ∧ (parseMethodDescriptor y_Law_write.desc).map (fun d => d.parameters.length) = some 6 := by decide +kernel
theorem hd_Mo_write : y_Mo_write.cls ≠ "java/lang/invoke/MethodHandle" ∧ y_Mo_write.cls ≠ "java/lang/invoke/VarHandle" ∧ (parseMethodDescriptor y_Mo_write.desc).map (fun d => d.parameters.length) = some 4 := by decide +kernel
theorem hd_Law_request : y_Law_request.cls ≠ "java/lang/invoke/MethodHandle" ∧ y_Law_request.cls ≠ "java/lang/invoke/VarHandle" ∧ (parseMethodDescriptor y_Law_request.desc).map (fun d => d.parameters.length) = some 3 := by decide +kernel
theorem hd_Mo_request : y_Mo_request.cls ≠ "java/lang/invoke/MethodHandle" ∧ y_Mo_request.cls ≠ "java/lang/invoke/VarHandle" ∧ (parseMethodDescriptor y_Mo_request.desc).map (fun d => d.parameters.length) = some 1 := by decide +kernel
theorem hd_Law_refuse : y_Law_refuse.cls ≠ "java/lang/invoke/MethodHandle" ∧ y_Law_refuse.cls ≠ "java/lang/invoke/VarHandle" ∧ (parseMethodDescriptor y_Law_refuse.desc).map (fun d => d.parameters.length) = some 4 := by decide +kernel
theorem hd_Mo_refuse : y_Mo_refuse.cls ≠ "java/lang/invoke/MethodHandle" ∧ y_Mo_refuse.cls ≠ "java/lang/invoke/VarHandle" ∧ (parseMethodDescriptor y_Mo_refuse.desc).map (fun d => d.parameters.length) = some 2 := by decide +kernel
theorem hd_Law_take : y_Law_take.cls ≠ "java/lang/invoke/MethodHandle" ∧ y_Law_take.cls ≠ "java/lang/invoke/VarHandle" ∧ (parseMethodDescriptor y_Law_take.desc).map (fun d => d.parameters.length) = some 4 := by decide +kernel
theorem hd_Mo_take : y_Mo_take.cls ≠ "java/lang/invoke/MethodHandle" ∧ y_Mo_take.cls ≠ "java/lang/invoke/VarHandle" ∧ (parseMethodDescriptor y_Mo_take.desc).map (fun d => d.parameters.length) = some 2 := by decide +kernel
theorem hd_Law_deliver : y_Law_deliver.cls ≠ "java/lang/invoke/MethodHandle" ∧ y_Law_deliver.cls ≠ "java/lang/invoke/VarHandle" ∧ (parseMethodDescriptor y_Law_deliver.desc).map (fun d => d.parameters.length) = some 4 := by decide +kernel
theorem hd_Mo_deliver : y_Mo_deliver.cls ≠ "java/lang/invoke/MethodHandle" ∧ y_Mo_deliver.cls ≠ "java/lang/invoke/VarHandle" ∧ (parseMethodDescriptor y_Mo_deliver.desc).map (fun d => d.parameters.length) = some 2 := by decide +kernel
theorem hd_Law_lose : y_Law_lose.cls ≠ "java/lang/invoke/MethodHandle" ∧ y_Law_lose.cls ≠ "java/lang/invoke/VarHandle" ∧ (parseMethodDescriptor y_Law_lose.desc).map (fun d => d.parameters.length) = some 3 := by decide +kernel
theorem hd_Mo_lose : y_Mo_lose.cls ≠ "java/lang/invoke/MethodHandle" ∧ y_Mo_lose.cls ≠ "java/lang/invoke/VarHandle" ∧ (parseMethodDescriptor y_Mo_lose.desc).map (fun d => d.parameters.length) = some 1 := by decide +kernel
theorem hd_Law_up : y_Law_up.cls ≠ "java/lang/invoke/MethodHandle" ∧ y_Law_up.cls ≠ "java/lang/invoke/VarHandle" ∧ (parseMethodDescriptor y_Law_up.desc).map (fun d => d.parameters.length) = some 5 := by decide +kernel
theorem hd_Mo_up : y_Mo_up.cls ≠ "java/lang/invoke/MethodHandle" ∧ y_Mo_up.cls ≠ "java/lang/invoke/VarHandle" ∧ (parseMethodDescriptor y_Mo_up.desc).map (fun d => d.parameters.length) = some 3 := by decide +kernel
theorem hd_Law_text : y_Law_text.cls ≠ "java/lang/invoke/MethodHandle" ∧ y_Law_text.cls ≠ "java/lang/invoke/VarHandle" ∧ (parseMethodDescriptor y_Law_text.desc).map (fun d => d.parameters.length) = some 4 := by decide +kernel
theorem hd_Mo_text : y_Mo_text.cls ≠ "java/lang/invoke/MethodHandle" ∧ y_Mo_text.cls ≠ "java/lang/invoke/VarHandle" ∧ (parseMethodDescriptor y_Mo_text.desc).map (fun d => d.parameters.length) = some 2 := by decide +kernel
theorem hd_Law_value : y_Law_value.cls ≠ "java/lang/invoke/MethodHandle" ∧ y_Law_value.cls ≠ "java/lang/invoke/VarHandle" ∧ (parseMethodDescriptor y_Law_value.desc).map (fun d => d.parameters.length) = some 4 := by decide +kernel
theorem hd_Mo_value : y_Mo_value.cls ≠ "java/lang/invoke/MethodHandle" ∧ y_Mo_value.cls ≠ "java/lang/invoke/VarHandle" ∧ (parseMethodDescriptor y_Mo_value.desc).map (fun d => d.parameters.length) = some 2 := by decide +kernel
theorem hd_Law_lock : y_Law_lock.cls ≠ "java/lang/invoke/MethodHandle" ∧ y_Law_lock.cls ≠ "java/lang/invoke/VarHandle" ∧ (parseMethodDescriptor y_Law_lock.desc).map (fun d => d.parameters.length) = some 4 := by decide +kernel
theorem hd_Mo_lock : y_Mo_lock.cls ≠ "java/lang/invoke/MethodHandle" ∧ y_Mo_lock.cls ≠ "java/lang/invoke/VarHandle" ∧ (parseMethodDescriptor y_Mo_lock.desc).map (fun d => d.parameters.length) = some 2 := by decide +kernel
theorem hd_Law_state : y_Law_state.cls ≠ "java/lang/invoke/MethodHandle" ∧ y_Law_state.cls ≠ "java/lang/invoke/VarHandle" ∧ (parseMethodDescriptor y_Law_state.desc).map (fun d => d.parameters.length) = some 4 := by decide +kernel
theorem hd_Mo_state : y_Mo_state.cls ≠ "java/lang/invoke/MethodHandle" ∧ y_Mo_state.cls ≠ "java/lang/invoke/VarHandle" ∧ (parseMethodDescriptor y_Mo_state.desc).map (fun d => d.parameters.length) = some 2 := by decide +kernel
theorem hd_Law_outcome : y_Law_outcome.cls ≠ "java/lang/invoke/MethodHandle" ∧ y_Law_outcome.cls ≠ "java/lang/invoke/VarHandle" ∧ (parseMethodDescriptor y_Law_outcome.desc).map (fun d => d.parameters.length) = some 4 := by decide +kernel
theorem hd_Mo_outcome : y_Mo_outcome.cls ≠ "java/lang/invoke/MethodHandle" ∧ y_Mo_outcome.cls ≠ "java/lang/invoke/VarHandle" ∧ (parseMethodDescriptor y_Mo_outcome.desc).map (fun d => d.parameters.length) = some 2 := by decide +kernel
theorem hd_Law_taken : y_Law_taken.cls ≠ "java/lang/invoke/MethodHandle" ∧ y_Law_taken.cls ≠ "java/lang/invoke/VarHandle" ∧ (parseMethodDescriptor y_Law_taken.desc).map (fun d => d.parameters.length) = some 6 := by decide +kernel
theorem hd_Mo_taken : y_Mo_taken.cls ≠ "java/lang/invoke/MethodHandle" ∧ y_Mo_taken.cls ≠ "java/lang/invoke/VarHandle" ∧ (parseMethodDescriptor y_Mo_taken.desc).map (fun d => d.parameters.length) = some 4 := by decide +kernel
theorem hd_Law_count : y_Law_count.cls ≠ "java/lang/invoke/MethodHandle" ∧ y_Law_count.cls ≠ "java/lang/invoke/VarHandle" ∧ (parseMethodDescriptor y_Law_count.desc).map (fun d => d.parameters.length) = some 3 := by decide +kernel
theorem hd_Mo_count : y_Mo_count.cls ≠ "java/lang/invoke/MethodHandle" ∧ y_Mo_count.cls ≠ "java/lang/invoke/VarHandle" ∧ (parseMethodDescriptor y_Mo_count.desc).map (fun d => d.parameters.length) = some 1 := by decide +kernel
set_option maxHeartbeats 4000000 in
set_option maxRecDepth 100000 in
theorem lc_begin {p : Program} {l : Launch} {e : Env} {s : State} {m : MethodId} {below : List Frame} {meth : Method} {c : Code} {Q : State → Prop} {G : GT} {b L : Nat} {xs : Nat → Int32} (X : LX l G b L xs p s m meth c) {D : DD} {H : Heap} {locs : List Loc} {ls : Array Slot} {i B C S : Nat} (hW : WD G s.heap D H locs) (hCR : CR (gn G) B D D) (hB9 : B < 9999) (hi : i + 5 ≤ L) (hl : lv_has ls 7 (LV G b i)) (hC : C + 21 ≤ 601024) (hS : S + 638 ≤ 7293000)
    (K : ∀ (H : Heap) (locs : List Loc) (ls : Array Slot) (D : DD), WD G s.heap D H locs → CR (gn G) (B + 2) D D → lv_has ls 7 (LV G b i) → W p l e room_1 s m #[Value.ref b] below meth c H locs (C + 21) (S + 638) Q (F0 m 1199 ls [])) : W p l e room_1 s m #[Value.ref b] below meth c H locs C S Q (F0 m 124 ls []) := by
  obtain ⟨hx, hb, hml, hown, hts, hE, hbs, hX, hbl, hbA, hG, h9, hst, hL⟩ := X
  have hK := hE.1
  have hl : lv_has ls 7 [(4, .int (nI i)), (3, .ref (gad G 9)), (2, .ref (gad G 600)), (1, .ref (gad G 0)), (0, .ref b)] := hl
  refine lv_aload_n hx hb d_Law_law_124 rfl (lv_at hl 3 rfl) ?_
  refine lv_aload_n hx hb d_Law_law_125 rfl (lv_at hl 1 rfl) ?_
  refine e_ci (e_runSW hx hb hml hown hts hE hbs hW (c_L_begin l hst G hG h9 D  ) kw_636 kw_637 kw_635 kw_634 rfl rfl hd_Law_begin ⟨Nat.le_of_ble_eq_true rfl, Nat.le_of_ble_eq_true rfl⟩ (As := [.ref (gad G 0), .ref (gad G 9)]) (rest := []) rfl hl.1 rfl (Nat.le_of_ble_eq_true rfl) d_Law_law_126 ⟨by show C + 1 ≤ 601024; omega, by show S + 6 ≤ 7293000; omega⟩) hW (fun k D1 H locs hw hW => ?_)
  have hC1 := C1_begin hCR hw
  refine lv_istore (lv' := [(5, .int (k)), (4, .int (nI i)), (3, .ref (gad G (9))), (2, .ref (gad G (600))), (1, .ref (gad G (0))), (0, .ref b)]) hx hb d_Law_law_129 hl (by decide) rfl (fun ls hl => ?_)
  refine lv_aload_n hx hb d_Law_law_131 rfl (lv_at hl 3 rfl) ?_
  refine e_ci (e_runV hx hb hml hown hts hE hbs hW (F_Mo G hG) rfl (c_M_begin l G hG D1  ) kw_639 kw_640 kw_641 kw_412 kw_638 rfl rfl hd_Mo_begin ⟨Nat.le_of_ble_eq_true rfl, Nat.le_of_ble_eq_true rfl⟩ (As := []) (rest := []) rfl hl.1 rfl (Nat.le_of_ble_eq_true rfl) d_Law_law_132 ⟨by show C + 1 + 0 ≤ 601024; omega, by show S + 6 + 0 ≤ 7293000; omega⟩) hW (fun r u H locs hm hW => ?_)
  obtain ⟨hs1, hs2, hs3⟩ := St_begin hCR hw hm
  refine lv_istore (lv' := [(6, .int (r)), (5, .int (k)), (4, .int (nI i)), (3, .ref (gad G (9))), (2, .ref (gad G (600))), (1, .ref (gad G (0))), (0, .ref b)]) hx hb d_Law_law_135 hl (by decide) rfl (fun ls hl => ?_)
  refine lv_aload_n hx hb d_Law_law_137 rfl (lv_at hl 4 rfl) ?_
  refine e_ci (e_runV hx hb hml hown hts hE hbs hW (F_Mo G hG) rfl (c_M_thrown l G hG u  ) kw_643 kw_644 kw_645 kw_412 kw_642 rfl rfl hd_Mo_thrown ⟨Nat.le_of_ble_eq_true rfl, Nat.le_of_ble_eq_true rfl⟩ (As := []) (rest := []) rfl hl.1 rfl (Nat.le_of_ble_eq_true rfl) d_Law_law_138 ⟨by show C + 1 + 0 + 0 ≤ 601024; omega, by show S + 6 + 0 + 0 ≤ 7293000; omega⟩) hW (fun r9 u9 H locs hp hW => ?_)
  obtain ⟨hp1, hp2⟩ := hp
  have hp1 := hp1.symm; subst hp1
  have hp2 := hp2.symm; subst hp2
  refine lv_iload hx hb d_Law_law_141 (lv_at hl 1 rfl) ?_
  refine lv_icmp_eq (tgt := 148) hx hb d_Law_law_143 (by decide) (fun c_1 => ?_) (fun c_1 => ?_)
  · skip
    refine lv_iload hx hb d_Law_law_148 (lv_at hl 1 rfl) ?_
    refine lv_if_ne (tgt := 165) hx hb d_Law_law_150 (by decide) (fun c_2 => ?_) (fun c_2 => ?_)
    · skip
      refine lv_goto (tgt := 1199) hx hb d_Law_law_165 (by decide) ?_
      refine W.widen (show C + 1 + 0 + 0 ≤ C + 21 by omega) (show S + 6 + 0 + 0 ≤ S + 638 by omega) ?_
      exact K _ _ _ _ hW (CR_m (by omega) hs3) (lv_sub hl [2, 3, 4, 5, 6] rfl)
    · skip
      refine lv_aload_n hx hb d_Law_law_153 rfl (lv_at hl 3 rfl) ?_
      refine lv_iconst (v := 0) hx hb d_Law_law_154 (by decide) ?_
      refine e_jald hx hb hK hW (F_Out G hG h9) (j := 0) (by decide) rfl d_Law_law_155 ?_
      refine lv_iload hx hb d_Law_law_156 (lv_at hl 0 rfl) ?_
      refine lv_i2l hx hb d_Law_law_158 rfl ?_
      refine W.lcmp hx hb d_Law_law_159 ?_
      refine lv_if_eq (tgt := 165) hx hb d_Law_law_160 (by decide) (fun c_3 => ?_) (fun c_3 => ?_)
      · skip
        refine lv_goto (tgt := 1199) hx hb d_Law_law_165 (by decide) ?_
        refine W.widen (show C + 1 + 0 + 0 ≤ C + 21 by omega) (show S + 6 + 0 + 0 ≤ S + 638 by omega) ?_
        exact K _ _ _ _ hW (CR_m (by omega) hs3) (lv_sub hl [2, 3, 4, 5, 6] rfl)
      · skip
        exact (lc_dead (hs2 c_2) c_3).elim
  · skip
    exact absurd hs1 c_1
set_option maxHeartbeats 4000000 in
set_option maxRecDepth 100000 in
theorem lc_write {p : Program} {l : Launch} {e : Env} {s : State} {m : MethodId} {below : List Frame} {meth : Method} {c : Code} {Q : State → Prop} {G : GT} {b L : Nat} {xs : Nat → Int32} (X : LX l G b L xs p s m meth c) {D : DD} {H : Heap} {locs : List Loc} {ls : Array Slot} {i B C S : Nat} (hW : WD G s.heap D H locs) (hCR : CR (gn G) B D D) (hB9 : B < 9999) (hi : i + 5 ≤ L) (hl : lv_has ls 7 (LV G b i)) (hC : C + 21 ≤ 601024) (hS : S + 638 ≤ 7293000)
    (K : ∀ (H : Heap) (locs : List Loc) (ls : Array Slot) (D : DD), WD G s.heap D H locs → CR (gn G) (B + 2) D D → lv_has ls 7 (LV G b i) → W p l e room_1 s m #[Value.ref b] below meth c H locs (C + 21) (S + 638) Q (F0 m 1199 ls [])) : W p l e room_1 s m #[Value.ref b] below meth c H locs C S Q (F0 m 168 ls []) := by
  obtain ⟨hx, hb, hml, hown, hts, hE, hbs, hX, hbl, hbA, hG, h9, hst, hL⟩ := X
  have hK := hE.1
  have hl : lv_has ls 7 [(4, .int (nI i)), (3, .ref (gad G 9)), (2, .ref (gad G 600)), (1, .ref (gad G 0)), (0, .ref b)] := hl
  refine lv_aload_n hx hb d_Law_law_168 rfl (lv_at hl 3 rfl) ?_
  refine lv_aload_n hx hb d_Law_law_169 rfl (lv_at hl 4 rfl) ?_
  refine lv_iload hx hb d_Law_law_170 (lv_at hl 0 rfl) ?_
  refine lv_iconst (v := 1) hx hb d_Law_law_172 (by decide) ?_
  refine lv_iadd hx hb d_Law_law_173 ?_
  refine e_top (v := nI (i + 1)) (nI_add (i) (1)) ?_
  refine va_sld hx hb hX hbl hbA hW.2.2 (vp_in_nI (n := i + 1) (show i + 1 < L by omega) (by omega)) d_Law_law_174 ?_
  refine e_top (v := xs (i + 1)) (by rw [nI_clamp (show i + 1 < 2 ^ 31 by omega)]) ?_
  refine lv_aload_n hx hb d_Law_law_175 rfl (lv_at hl 4 rfl) ?_
  refine lv_iload hx hb d_Law_law_176 (lv_at hl 0 rfl) ?_
  refine lv_iconst (v := 2) hx hb d_Law_law_178 (by decide) ?_
  refine lv_iadd hx hb d_Law_law_179 ?_
  refine e_top (v := nI (i + 2)) (nI_add (i) (2)) ?_
  refine va_sld hx hb hX hbl hbA hW.2.2 (vp_in_nI (n := i + 2) (show i + 2 < L by omega) (by omega)) d_Law_law_180 ?_
  refine e_top (v := xs (i + 2)) (by rw [nI_clamp (show i + 2 < 2 ^ 31 by omega)]) ?_
  refine lv_aload_n hx hb d_Law_law_181 rfl (lv_at hl 4 rfl) ?_
  refine lv_iload hx hb d_Law_law_182 (lv_at hl 0 rfl) ?_
  refine lv_iconst (v := 3) hx hb d_Law_law_184 (by decide) ?_
  refine lv_iadd hx hb d_Law_law_185 ?_
  refine e_top (v := nI (i + 3)) (nI_add (i) (3)) ?_
  refine va_sld hx hb hX hbl hbA hW.2.2 (vp_in_nI (n := i + 3) (show i + 3 < L by omega) (by omega)) d_Law_law_186 ?_
  refine e_top (v := xs (i + 3)) (by rw [nI_clamp (show i + 3 < 2 ^ 31 by omega)]) ?_
  refine lv_aload_n hx hb d_Law_law_187 rfl (lv_at hl 4 rfl) ?_
  refine lv_iload hx hb d_Law_law_188 (lv_at hl 0 rfl) ?_
  refine lv_iconst (v := 4) hx hb d_Law_law_190 (by decide) ?_
  refine lv_iadd hx hb d_Law_law_191 ?_
  refine e_top (v := nI (i + 4)) (nI_add (i) (4)) ?_
  refine va_sld hx hb hX hbl hbA hW.2.2 (vp_in_nI (n := i + 4) (show i + 4 < L by omega) (by omega)) d_Law_law_192 ?_
  refine e_top (v := xs (i + 4)) (by rw [nI_clamp (show i + 4 < 2 ^ 31 by omega)]) ?_
  refine lv_aload_n hx hb d_Law_law_193 rfl (lv_at hl 1 rfl) ?_
  refine e_ci (e_runSW hx hb hml hown hts hE hbs hW (c_L_write l hst G hG h9 D (xs (i + 1)) (xs (i + 2)) (xs (i + 3)) (xs (i + 4)) ) kw_647 kw_648 kw_635 kw_646 rfl rfl hd_Law_write ⟨Nat.le_of_ble_eq_true rfl, Nat.le_of_ble_eq_true rfl⟩ (As := [.ref (gad G 0), .int (xs (i + 1)), .int (xs (i + 2)), .int (xs (i + 3)), .int (xs (i + 4)), .ref (gad G 9)]) (rest := []) rfl hl.1 rfl (Nat.le_of_ble_eq_true rfl) d_Law_law_194 ⟨by show C + 6 ≤ 601024; omega, by show S + 36 ≤ 7293000; omega⟩) hW (fun k D1 H locs hw hW => ?_)
  have hC1 := C1_write hCR hw
  refine lv_istore (lv' := [(5, .int (k)), (4, .int (nI i)), (3, .ref (gad G (9))), (2, .ref (gad G (600))), (1, .ref (gad G (0))), (0, .ref b)]) hx hb d_Law_law_197 hl (by decide) rfl (fun ls hl => ?_)
  refine lv_aload_n hx hb d_Law_law_199 rfl (lv_at hl 3 rfl) ?_
  refine lv_aload_n hx hb d_Law_law_200 rfl (lv_at hl 5 rfl) ?_
  refine lv_iload hx hb d_Law_law_201 (lv_at hl 1 rfl) ?_
  refine lv_iconst (v := 1) hx hb d_Law_law_203 (by decide) ?_
  refine lv_iadd hx hb d_Law_law_204 ?_
  refine e_top (v := nI (i + 1)) (nI_add (i) (1)) ?_
  refine va_sld hx hb hX hbl hbA hW.2.2 (vp_in_nI (n := i + 1) (show i + 1 < L by omega) (by omega)) d_Law_law_205 ?_
  refine e_top (v := xs (i + 1)) (by rw [nI_clamp (show i + 1 < 2 ^ 31 by omega)]) ?_
  refine lv_aload_n hx hb d_Law_law_206 rfl (lv_at hl 5 rfl) ?_
  refine lv_iload hx hb d_Law_law_207 (lv_at hl 1 rfl) ?_
  refine lv_iconst (v := 2) hx hb d_Law_law_209 (by decide) ?_
  refine lv_iadd hx hb d_Law_law_210 ?_
  refine e_top (v := nI (i + 2)) (nI_add (i) (2)) ?_
  refine va_sld hx hb hX hbl hbA hW.2.2 (vp_in_nI (n := i + 2) (show i + 2 < L by omega) (by omega)) d_Law_law_211 ?_
  refine e_top (v := xs (i + 2)) (by rw [nI_clamp (show i + 2 < 2 ^ 31 by omega)]) ?_
  refine lv_aload_n hx hb d_Law_law_212 rfl (lv_at hl 5 rfl) ?_
  refine lv_iload hx hb d_Law_law_213 (lv_at hl 1 rfl) ?_
  refine lv_iconst (v := 3) hx hb d_Law_law_215 (by decide) ?_
  refine lv_iadd hx hb d_Law_law_216 ?_
  refine e_top (v := nI (i + 3)) (nI_add (i) (3)) ?_
  refine va_sld hx hb hX hbl hbA hW.2.2 (vp_in_nI (n := i + 3) (show i + 3 < L by omega) (by omega)) d_Law_law_217 ?_
  refine e_top (v := xs (i + 3)) (by rw [nI_clamp (show i + 3 < 2 ^ 31 by omega)]) ?_
  refine lv_aload_n hx hb d_Law_law_218 rfl (lv_at hl 5 rfl) ?_
  refine lv_iload hx hb d_Law_law_219 (lv_at hl 1 rfl) ?_
  refine lv_iconst (v := 4) hx hb d_Law_law_221 (by decide) ?_
  refine lv_iadd hx hb d_Law_law_222 ?_
  refine e_top (v := nI (i + 4)) (nI_add (i) (4)) ?_
  refine va_sld hx hb hX hbl hbA hW.2.2 (vp_in_nI (n := i + 4) (show i + 4 < L by omega) (by omega)) d_Law_law_223 ?_
  refine e_top (v := xs (i + 4)) (by rw [nI_clamp (show i + 4 < 2 ^ 31 by omega)]) ?_
  refine e_ci (e_runV hx hb hml hown hts hE hbs hW (F_Mo G hG) rfl (c_M_write l G hG D1 (xs (i + 1)) (xs (i + 2)) (xs (i + 3)) (xs (i + 4)) ) kw_650 kw_651 kw_652 kw_412 kw_649 rfl rfl hd_Mo_write ⟨Nat.le_of_ble_eq_true rfl, Nat.le_of_ble_eq_true rfl⟩ (As := [.int (xs (i + 1)), .int (xs (i + 2)), .int (xs (i + 3)), .int (xs (i + 4))]) (rest := []) rfl hl.1 rfl (Nat.le_of_ble_eq_true rfl) d_Law_law_224 ⟨by show C + 6 + 0 ≤ 601024; omega, by show S + 36 + 0 ≤ 7293000; omega⟩) hW (fun r u H locs hm hW => ?_)
  obtain ⟨hs1, hs2, hs3⟩ := St_write hCR hw hm
  refine lv_istore (lv' := [(6, .int (r)), (5, .int (k)), (4, .int (nI i)), (3, .ref (gad G (9))), (2, .ref (gad G (600))), (1, .ref (gad G (0))), (0, .ref b)]) hx hb d_Law_law_227 hl (by decide) rfl (fun ls hl => ?_)
  refine lv_aload_n hx hb d_Law_law_229 rfl (lv_at hl 4 rfl) ?_
  refine e_ci (e_runV hx hb hml hown hts hE hbs hW (F_Mo G hG) rfl (c_M_thrown l G hG u  ) kw_643 kw_644 kw_645 kw_412 kw_642 rfl rfl hd_Mo_thrown ⟨Nat.le_of_ble_eq_true rfl, Nat.le_of_ble_eq_true rfl⟩ (As := []) (rest := []) rfl hl.1 rfl (Nat.le_of_ble_eq_true rfl) d_Law_law_230 ⟨by show C + 6 + 0 + 0 ≤ 601024; omega, by show S + 36 + 0 + 0 ≤ 7293000; omega⟩) hW (fun r9 u9 H locs hp hW => ?_)
  obtain ⟨hp1, hp2⟩ := hp
  have hp1 := hp1.symm; subst hp1
  have hp2 := hp2.symm; subst hp2
  refine lv_iload hx hb d_Law_law_233 (lv_at hl 1 rfl) ?_
  refine lv_icmp_eq (tgt := 240) hx hb d_Law_law_235 (by decide) (fun c_1 => ?_) (fun c_1 => ?_)
  · skip
    refine lv_iload hx hb d_Law_law_240 (lv_at hl 1 rfl) ?_
    refine lv_if_ne (tgt := 257) hx hb d_Law_law_242 (by decide) (fun c_2 => ?_) (fun c_2 => ?_)
    · skip
      refine lv_goto (tgt := 1199) hx hb d_Law_law_257 (by decide) ?_
      refine W.widen (show C + 6 + 0 + 0 ≤ C + 21 by omega) (show S + 36 + 0 + 0 ≤ S + 638 by omega) ?_
      exact K _ _ _ _ hW (CR_m (by omega) hs3) (lv_sub hl [2, 3, 4, 5, 6] rfl)
    · skip
      refine lv_aload_n hx hb d_Law_law_245 rfl (lv_at hl 3 rfl) ?_
      refine lv_iconst (v := 0) hx hb d_Law_law_246 (by decide) ?_
      refine e_jald hx hb hK hW (F_Out G hG h9) (j := 0) (by decide) rfl d_Law_law_247 ?_
      refine lv_iload hx hb d_Law_law_248 (lv_at hl 0 rfl) ?_
      refine lv_i2l hx hb d_Law_law_250 rfl ?_
      refine W.lcmp hx hb d_Law_law_251 ?_
      refine lv_if_eq (tgt := 257) hx hb d_Law_law_252 (by decide) (fun c_3 => ?_) (fun c_3 => ?_)
      · skip
        refine lv_goto (tgt := 1199) hx hb d_Law_law_257 (by decide) ?_
        refine W.widen (show C + 6 + 0 + 0 ≤ C + 21 by omega) (show S + 36 + 0 + 0 ≤ S + 638 by omega) ?_
        exact K _ _ _ _ hW (CR_m (by omega) hs3) (lv_sub hl [2, 3, 4, 5, 6] rfl)
      · skip
        exact (lc_dead (hs2 c_2) c_3).elim
  · skip
    exact absurd hs1 c_1
set_option maxHeartbeats 4000000 in
set_option maxRecDepth 100000 in
theorem lc_request {p : Program} {l : Launch} {e : Env} {s : State} {m : MethodId} {below : List Frame} {meth : Method} {c : Code} {Q : State → Prop} {G : GT} {b L : Nat} {xs : Nat → Int32} (X : LX l G b L xs p s m meth c) {D : DD} {H : Heap} {locs : List Loc} {ls : Array Slot} {i B C S : Nat} (hW : WD G s.heap D H locs) (hCR : CR (gn G) B D D) (hB9 : B < 9999) (hi : i + 5 ≤ L) (hl : lv_has ls 7 (LV G b i)) (hC : C + 21 ≤ 601024) (hS : S + 638 ≤ 7293000)
    (K : ∀ (H : Heap) (locs : List Loc) (ls : Array Slot) (D : DD), WD G s.heap D H locs → CR (gn G) (B + 2) D D → lv_has ls 7 (LV G b i) → W p l e room_1 s m #[Value.ref b] below meth c H locs (C + 21) (S + 638) Q (F0 m 1199 ls [])) : W p l e room_1 s m #[Value.ref b] below meth c H locs C S Q (F0 m 260 ls []) := by
  obtain ⟨hx, hb, hml, hown, hts, hE, hbs, hX, hbl, hbA, hG, h9, hst, hL⟩ := X
  have hK := hE.1
  have hl : lv_has ls 7 [(4, .int (nI i)), (3, .ref (gad G 9)), (2, .ref (gad G 600)), (1, .ref (gad G 0)), (0, .ref b)] := hl
  refine lv_aload_n hx hb d_Law_law_260 rfl (lv_at hl 3 rfl) ?_
  refine lv_aload_n hx hb d_Law_law_261 rfl (lv_at hl 4 rfl) ?_
  refine lv_iload hx hb d_Law_law_262 (lv_at hl 0 rfl) ?_
  refine lv_iconst (v := 1) hx hb d_Law_law_264 (by decide) ?_
  refine lv_iadd hx hb d_Law_law_265 ?_
  refine e_top (v := nI (i + 1)) (nI_add (i) (1)) ?_
  refine va_sld hx hb hX hbl hbA hW.2.2 (vp_in_nI (n := i + 1) (show i + 1 < L by omega) (by omega)) d_Law_law_266 ?_
  refine e_top (v := xs (i + 1)) (by rw [nI_clamp (show i + 1 < 2 ^ 31 by omega)]) ?_
  refine lv_aload_n hx hb d_Law_law_267 rfl (lv_at hl 1 rfl) ?_
  refine e_ci (e_runSW hx hb hml hown hts hE hbs hW (c_L_request l hst G hG h9 D (xs (i + 1)) (CR_net hCR)) kw_654 kw_655 kw_635 kw_653 rfl rfl hd_Law_request ⟨Nat.le_of_ble_eq_true rfl, Nat.le_of_ble_eq_true rfl⟩ (As := [.ref (gad G 0), .int (xs (i + 1)), .ref (gad G 9)]) (rest := []) rfl hl.1 rfl (Nat.le_of_ble_eq_true rfl) d_Law_law_268 ⟨by show C + 3 ≤ 601024; omega, by show S + 18 ≤ 7293000; omega⟩) hW (fun k D1 H locs hw hW => ?_)
  have hC1 := C1_request hCR hw
  refine lv_istore (lv' := [(5, .int (k)), (4, .int (nI i)), (3, .ref (gad G (9))), (2, .ref (gad G (600))), (1, .ref (gad G (0))), (0, .ref b)]) hx hb d_Law_law_271 hl (by decide) rfl (fun ls hl => ?_)
  refine lv_aload_n hx hb d_Law_law_273 rfl (lv_at hl 3 rfl) ?_
  refine lv_aload_n hx hb d_Law_law_274 rfl (lv_at hl 5 rfl) ?_
  refine lv_iload hx hb d_Law_law_275 (lv_at hl 1 rfl) ?_
  refine lv_iconst (v := 1) hx hb d_Law_law_277 (by decide) ?_
  refine lv_iadd hx hb d_Law_law_278 ?_
  refine e_top (v := nI (i + 1)) (nI_add (i) (1)) ?_
  refine va_sld hx hb hX hbl hbA hW.2.2 (vp_in_nI (n := i + 1) (show i + 1 < L by omega) (by omega)) d_Law_law_279 ?_
  refine e_top (v := xs (i + 1)) (by rw [nI_clamp (show i + 1 < 2 ^ 31 by omega)]) ?_
  refine e_ci (e_runV hx hb hml hown hts hE hbs hW (F_Mo G hG) rfl (c_M_request l G hG D1 (xs (i + 1)) (CR_MN hC1)) kw_657 kw_658 kw_659 kw_412 kw_656 rfl rfl hd_Mo_request ⟨Nat.le_of_ble_eq_true rfl, Nat.le_of_ble_eq_true rfl⟩ (As := [.int (xs (i + 1))]) (rest := []) rfl hl.1 rfl (Nat.le_of_ble_eq_true rfl) d_Law_law_280 ⟨by show C + 3 + 0 ≤ 601024; omega, by show S + 18 + 0 ≤ 7293000; omega⟩) hW (fun r u H locs hm hW => ?_)
  obtain ⟨hs1, hs2, hs3⟩ := St_request hCR hw hm
  refine lv_istore (lv' := [(6, .int (r)), (5, .int (k)), (4, .int (nI i)), (3, .ref (gad G (9))), (2, .ref (gad G (600))), (1, .ref (gad G (0))), (0, .ref b)]) hx hb d_Law_law_283 hl (by decide) rfl (fun ls hl => ?_)
  refine lv_aload_n hx hb d_Law_law_285 rfl (lv_at hl 4 rfl) ?_
  refine e_ci (e_runV hx hb hml hown hts hE hbs hW (F_Mo G hG) rfl (c_M_thrown l G hG u  ) kw_643 kw_644 kw_645 kw_412 kw_642 rfl rfl hd_Mo_thrown ⟨Nat.le_of_ble_eq_true rfl, Nat.le_of_ble_eq_true rfl⟩ (As := []) (rest := []) rfl hl.1 rfl (Nat.le_of_ble_eq_true rfl) d_Law_law_286 ⟨by show C + 3 + 0 + 0 ≤ 601024; omega, by show S + 18 + 0 + 0 ≤ 7293000; omega⟩) hW (fun r9 u9 H locs hp hW => ?_)
  obtain ⟨hp1, hp2⟩ := hp
  have hp1 := hp1.symm; subst hp1
  have hp2 := hp2.symm; subst hp2
  refine lv_iload hx hb d_Law_law_289 (lv_at hl 1 rfl) ?_
  refine lv_icmp_eq (tgt := 296) hx hb d_Law_law_291 (by decide) (fun c_1 => ?_) (fun c_1 => ?_)
  · skip
    refine lv_iload hx hb d_Law_law_296 (lv_at hl 1 rfl) ?_
    refine lv_if_ne (tgt := 313) hx hb d_Law_law_298 (by decide) (fun c_2 => ?_) (fun c_2 => ?_)
    · skip
      refine lv_goto (tgt := 1199) hx hb d_Law_law_313 (by decide) ?_
      refine W.widen (show C + 3 + 0 + 0 ≤ C + 21 by omega) (show S + 18 + 0 + 0 ≤ S + 638 by omega) ?_
      exact K _ _ _ _ hW (CR_m (by omega) hs3) (lv_sub hl [2, 3, 4, 5, 6] rfl)
    · skip
      refine lv_aload_n hx hb d_Law_law_301 rfl (lv_at hl 3 rfl) ?_
      refine lv_iconst (v := 0) hx hb d_Law_law_302 (by decide) ?_
      refine e_jald hx hb hK hW (F_Out G hG h9) (j := 0) (by decide) rfl d_Law_law_303 ?_
      refine lv_iload hx hb d_Law_law_304 (lv_at hl 0 rfl) ?_
      refine lv_i2l hx hb d_Law_law_306 rfl ?_
      refine W.lcmp hx hb d_Law_law_307 ?_
      refine lv_if_eq (tgt := 313) hx hb d_Law_law_308 (by decide) (fun c_3 => ?_) (fun c_3 => ?_)
      · skip
        refine lv_goto (tgt := 1199) hx hb d_Law_law_313 (by decide) ?_
        refine W.widen (show C + 3 + 0 + 0 ≤ C + 21 by omega) (show S + 18 + 0 + 0 ≤ S + 638 by omega) ?_
        exact K _ _ _ _ hW (CR_m (by omega) hs3) (lv_sub hl [2, 3, 4, 5, 6] rfl)
      · skip
        exact (lc_dead (hs2 c_2) c_3).elim
  · skip
    exact absurd hs1 c_1
set_option maxHeartbeats 4000000 in
set_option maxRecDepth 100000 in
theorem lc_refuse {p : Program} {l : Launch} {e : Env} {s : State} {m : MethodId} {below : List Frame} {meth : Method} {c : Code} {Q : State → Prop} {G : GT} {b L : Nat} {xs : Nat → Int32} (X : LX l G b L xs p s m meth c) {D : DD} {H : Heap} {locs : List Loc} {ls : Array Slot} {i B C S : Nat} (hW : WD G s.heap D H locs) (hCR : CR (gn G) B D D) (hB9 : B < 9999) (hi : i + 5 ≤ L) (hl : lv_has ls 7 (LV G b i)) (hC : C + 21 ≤ 601024) (hS : S + 638 ≤ 7293000)
    (K : ∀ (H : Heap) (locs : List Loc) (ls : Array Slot) (D : DD), WD G s.heap D H locs → CR (gn G) (B + 2) D D → lv_has ls 7 (LV G b i) → W p l e room_1 s m #[Value.ref b] below meth c H locs (C + 21) (S + 638) Q (F0 m 1199 ls [])) : W p l e room_1 s m #[Value.ref b] below meth c H locs C S Q (F0 m 316 ls []) := by
  obtain ⟨hx, hb, hml, hown, hts, hE, hbs, hX, hbl, hbA, hG, h9, hst, hL⟩ := X
  have hK := hE.1
  have hl : lv_has ls 7 [(4, .int (nI i)), (3, .ref (gad G 9)), (2, .ref (gad G 600)), (1, .ref (gad G 0)), (0, .ref b)] := hl
  refine lv_aload_n hx hb d_Law_law_316 rfl (lv_at hl 3 rfl) ?_
  refine lv_aload_n hx hb d_Law_law_317 rfl (lv_at hl 4 rfl) ?_
  refine lv_iload hx hb d_Law_law_318 (lv_at hl 0 rfl) ?_
  refine lv_iconst (v := 1) hx hb d_Law_law_320 (by decide) ?_
  refine lv_iadd hx hb d_Law_law_321 ?_
  refine e_top (v := nI (i + 1)) (nI_add (i) (1)) ?_
  refine va_sld hx hb hX hbl hbA hW.2.2 (vp_in_nI (n := i + 1) (show i + 1 < L by omega) (by omega)) d_Law_law_322 ?_
  refine e_top (v := xs (i + 1)) (by rw [nI_clamp (show i + 1 < 2 ^ 31 by omega)]) ?_
  refine lv_aload_n hx hb d_Law_law_323 rfl (lv_at hl 4 rfl) ?_
  refine lv_iload hx hb d_Law_law_324 (lv_at hl 0 rfl) ?_
  refine lv_iconst (v := 2) hx hb d_Law_law_326 (by decide) ?_
  refine lv_iadd hx hb d_Law_law_327 ?_
  refine e_top (v := nI (i + 2)) (nI_add (i) (2)) ?_
  refine va_sld hx hb hX hbl hbA hW.2.2 (vp_in_nI (n := i + 2) (show i + 2 < L by omega) (by omega)) d_Law_law_328 ?_
  refine e_top (v := xs (i + 2)) (by rw [nI_clamp (show i + 2 < 2 ^ 31 by omega)]) ?_
  refine lv_aload_n hx hb d_Law_law_329 rfl (lv_at hl 1 rfl) ?_
  refine e_ci (e_runSW hx hb hml hown hts hE hbs hW (c_L_refuse l hst G hG h9 D (xs (i + 1)) (xs (i + 2)) (CR_net hCR)) kw_661 kw_662 kw_635 kw_660 rfl rfl hd_Law_refuse ⟨Nat.le_of_ble_eq_true rfl, Nat.le_of_ble_eq_true rfl⟩ (As := [.ref (gad G 0), .int (xs (i + 1)), .int (xs (i + 2)), .ref (gad G 9)]) (rest := []) rfl hl.1 rfl (Nat.le_of_ble_eq_true rfl) d_Law_law_330 ⟨by show C + 5 ≤ 601024; omega, by show S + 30 ≤ 7293000; omega⟩) hW (fun k D1 H locs hw hW => ?_)
  have hC1 := C1_refuse hCR hw
  refine lv_istore (lv' := [(5, .int (k)), (4, .int (nI i)), (3, .ref (gad G (9))), (2, .ref (gad G (600))), (1, .ref (gad G (0))), (0, .ref b)]) hx hb d_Law_law_333 hl (by decide) rfl (fun ls hl => ?_)
  refine lv_aload_n hx hb d_Law_law_335 rfl (lv_at hl 3 rfl) ?_
  refine lv_aload_n hx hb d_Law_law_336 rfl (lv_at hl 5 rfl) ?_
  refine lv_iload hx hb d_Law_law_337 (lv_at hl 1 rfl) ?_
  refine lv_iconst (v := 1) hx hb d_Law_law_339 (by decide) ?_
  refine lv_iadd hx hb d_Law_law_340 ?_
  refine e_top (v := nI (i + 1)) (nI_add (i) (1)) ?_
  refine va_sld hx hb hX hbl hbA hW.2.2 (vp_in_nI (n := i + 1) (show i + 1 < L by omega) (by omega)) d_Law_law_341 ?_
  refine e_top (v := xs (i + 1)) (by rw [nI_clamp (show i + 1 < 2 ^ 31 by omega)]) ?_
  refine lv_aload_n hx hb d_Law_law_342 rfl (lv_at hl 5 rfl) ?_
  refine lv_iload hx hb d_Law_law_343 (lv_at hl 1 rfl) ?_
  refine lv_iconst (v := 2) hx hb d_Law_law_345 (by decide) ?_
  refine lv_iadd hx hb d_Law_law_346 ?_
  refine e_top (v := nI (i + 2)) (nI_add (i) (2)) ?_
  refine va_sld hx hb hX hbl hbA hW.2.2 (vp_in_nI (n := i + 2) (show i + 2 < L by omega) (by omega)) d_Law_law_347 ?_
  refine e_top (v := xs (i + 2)) (by rw [nI_clamp (show i + 2 < 2 ^ 31 by omega)]) ?_
  refine e_ci (e_runV hx hb hml hown hts hE hbs hW (F_Mo G hG) rfl (c_M_refuse l G hG D1 (xs (i + 1)) (xs (i + 2)) (CR_MN hC1) (CK_num hC1).2.1) kw_664 kw_665 kw_666 kw_412 kw_663 rfl rfl hd_Mo_refuse ⟨Nat.le_of_ble_eq_true rfl, Nat.le_of_ble_eq_true rfl⟩ (As := [.int (xs (i + 1)), .int (xs (i + 2))]) (rest := []) rfl hl.1 rfl (Nat.le_of_ble_eq_true rfl) d_Law_law_348 ⟨by show C + 5 + 0 ≤ 601024; omega, by show S + 30 + 0 ≤ 7293000; omega⟩) hW (fun r u H locs hm hW => ?_)
  obtain ⟨hs1, hs2, hs3⟩ := St_refuse hCR hw hm
  refine lv_istore (lv' := [(6, .int (r)), (5, .int (k)), (4, .int (nI i)), (3, .ref (gad G (9))), (2, .ref (gad G (600))), (1, .ref (gad G (0))), (0, .ref b)]) hx hb d_Law_law_351 hl (by decide) rfl (fun ls hl => ?_)
  refine lv_aload_n hx hb d_Law_law_353 rfl (lv_at hl 4 rfl) ?_
  refine e_ci (e_runV hx hb hml hown hts hE hbs hW (F_Mo G hG) rfl (c_M_thrown l G hG u  ) kw_643 kw_644 kw_645 kw_412 kw_642 rfl rfl hd_Mo_thrown ⟨Nat.le_of_ble_eq_true rfl, Nat.le_of_ble_eq_true rfl⟩ (As := []) (rest := []) rfl hl.1 rfl (Nat.le_of_ble_eq_true rfl) d_Law_law_354 ⟨by show C + 5 + 0 + 0 ≤ 601024; omega, by show S + 30 + 0 + 0 ≤ 7293000; omega⟩) hW (fun r9 u9 H locs hp hW => ?_)
  obtain ⟨hp1, hp2⟩ := hp
  have hp1 := hp1.symm; subst hp1
  have hp2 := hp2.symm; subst hp2
  refine lv_iload hx hb d_Law_law_357 (lv_at hl 1 rfl) ?_
  refine lv_icmp_eq (tgt := 364) hx hb d_Law_law_359 (by decide) (fun c_1 => ?_) (fun c_1 => ?_)
  · skip
    refine lv_iload hx hb d_Law_law_364 (lv_at hl 1 rfl) ?_
    refine lv_if_ne (tgt := 381) hx hb d_Law_law_366 (by decide) (fun c_2 => ?_) (fun c_2 => ?_)
    · skip
      refine lv_goto (tgt := 1199) hx hb d_Law_law_381 (by decide) ?_
      refine W.widen (show C + 5 + 0 + 0 ≤ C + 21 by omega) (show S + 30 + 0 + 0 ≤ S + 638 by omega) ?_
      exact K _ _ _ _ hW (CR_m (by omega) hs3) (lv_sub hl [2, 3, 4, 5, 6] rfl)
    · skip
      refine lv_aload_n hx hb d_Law_law_369 rfl (lv_at hl 3 rfl) ?_
      refine lv_iconst (v := 0) hx hb d_Law_law_370 (by decide) ?_
      refine e_jald hx hb hK hW (F_Out G hG h9) (j := 0) (by decide) rfl d_Law_law_371 ?_
      refine lv_iload hx hb d_Law_law_372 (lv_at hl 0 rfl) ?_
      refine lv_i2l hx hb d_Law_law_374 rfl ?_
      refine W.lcmp hx hb d_Law_law_375 ?_
      refine lv_if_eq (tgt := 381) hx hb d_Law_law_376 (by decide) (fun c_3 => ?_) (fun c_3 => ?_)
      · skip
        refine lv_goto (tgt := 1199) hx hb d_Law_law_381 (by decide) ?_
        refine W.widen (show C + 5 + 0 + 0 ≤ C + 21 by omega) (show S + 30 + 0 + 0 ≤ S + 638 by omega) ?_
        exact K _ _ _ _ hW (CR_m (by omega) hs3) (lv_sub hl [2, 3, 4, 5, 6] rfl)
      · skip
        exact (lc_dead (hs2 c_2) c_3).elim
  · skip
    exact absurd hs1 c_1
set_option maxHeartbeats 4000000 in
set_option maxRecDepth 100000 in
theorem lc_take {p : Program} {l : Launch} {e : Env} {s : State} {m : MethodId} {below : List Frame} {meth : Method} {c : Code} {Q : State → Prop} {G : GT} {b L : Nat} {xs : Nat → Int32} (X : LX l G b L xs p s m meth c) {D : DD} {H : Heap} {locs : List Loc} {ls : Array Slot} {i B C S : Nat} (hW : WD G s.heap D H locs) (hCR : CR (gn G) B D D) (hB9 : B < 9999) (hi : i + 5 ≤ L) (hl : lv_has ls 7 (LV G b i)) (hC : C + 21 ≤ 601024) (hS : S + 638 ≤ 7293000)
    (K : ∀ (H : Heap) (locs : List Loc) (ls : Array Slot) (D : DD), WD G s.heap D H locs → CR (gn G) (B + 2) D D → lv_has ls 7 (LV G b i) → W p l e room_1 s m #[Value.ref b] below meth c H locs (C + 21) (S + 638) Q (F0 m 1199 ls [])) : W p l e room_1 s m #[Value.ref b] below meth c H locs C S Q (F0 m 384 ls []) := by
  obtain ⟨hx, hb, hml, hown, hts, hE, hbs, hX, hbl, hbA, hG, h9, hst, hL⟩ := X
  have hK := hE.1
  have hl : lv_has ls 7 [(4, .int (nI i)), (3, .ref (gad G 9)), (2, .ref (gad G 600)), (1, .ref (gad G 0)), (0, .ref b)] := hl
  refine lv_aload_n hx hb d_Law_law_384 rfl (lv_at hl 3 rfl) ?_
  refine lv_aload_n hx hb d_Law_law_385 rfl (lv_at hl 4 rfl) ?_
  refine lv_iload hx hb d_Law_law_386 (lv_at hl 0 rfl) ?_
  refine lv_iconst (v := 1) hx hb d_Law_law_388 (by decide) ?_
  refine lv_iadd hx hb d_Law_law_389 ?_
  refine e_top (v := nI (i + 1)) (nI_add (i) (1)) ?_
  refine va_sld hx hb hX hbl hbA hW.2.2 (vp_in_nI (n := i + 1) (show i + 1 < L by omega) (by omega)) d_Law_law_390 ?_
  refine e_top (v := xs (i + 1)) (by rw [nI_clamp (show i + 1 < 2 ^ 31 by omega)]) ?_
  refine lv_aload_n hx hb d_Law_law_391 rfl (lv_at hl 4 rfl) ?_
  refine lv_iload hx hb d_Law_law_392 (lv_at hl 0 rfl) ?_
  refine lv_iconst (v := 2) hx hb d_Law_law_394 (by decide) ?_
  refine lv_iadd hx hb d_Law_law_395 ?_
  refine e_top (v := nI (i + 2)) (nI_add (i) (2)) ?_
  refine va_sld hx hb hX hbl hbA hW.2.2 (vp_in_nI (n := i + 2) (show i + 2 < L by omega) (by omega)) d_Law_law_396 ?_
  refine e_top (v := xs (i + 2)) (by rw [nI_clamp (show i + 2 < 2 ^ 31 by omega)]) ?_
  refine lv_aload_n hx hb d_Law_law_397 rfl (lv_at hl 1 rfl) ?_
  refine e_ci (e_runSW hx hb hml hown hts hE hbs hW (c_L_take l hst G hG h9 D (xs (i + 1)) (xs (i + 2)) (CR_net hCR)) kw_668 kw_669 kw_635 kw_667 rfl rfl hd_Law_take ⟨Nat.le_of_ble_eq_true rfl, Nat.le_of_ble_eq_true rfl⟩ (As := [.ref (gad G 0), .int (xs (i + 1)), .int (xs (i + 2)), .ref (gad G 9)]) (rest := []) rfl hl.1 rfl (Nat.le_of_ble_eq_true rfl) d_Law_law_398 ⟨by show C + 5 ≤ 601024; omega, by show S + 30 ≤ 7293000; omega⟩) hW (fun k D1 H locs hw hW => ?_)
  have hC1 := C1_take hCR hw
  refine lv_istore (lv' := [(5, .int (k)), (4, .int (nI i)), (3, .ref (gad G (9))), (2, .ref (gad G (600))), (1, .ref (gad G (0))), (0, .ref b)]) hx hb d_Law_law_401 hl (by decide) rfl (fun ls hl => ?_)
  refine lv_aload_n hx hb d_Law_law_403 rfl (lv_at hl 3 rfl) ?_
  refine lv_aload_n hx hb d_Law_law_404 rfl (lv_at hl 5 rfl) ?_
  refine lv_iload hx hb d_Law_law_405 (lv_at hl 1 rfl) ?_
  refine lv_iconst (v := 1) hx hb d_Law_law_407 (by decide) ?_
  refine lv_iadd hx hb d_Law_law_408 ?_
  refine e_top (v := nI (i + 1)) (nI_add (i) (1)) ?_
  refine va_sld hx hb hX hbl hbA hW.2.2 (vp_in_nI (n := i + 1) (show i + 1 < L by omega) (by omega)) d_Law_law_409 ?_
  refine e_top (v := xs (i + 1)) (by rw [nI_clamp (show i + 1 < 2 ^ 31 by omega)]) ?_
  refine lv_aload_n hx hb d_Law_law_410 rfl (lv_at hl 5 rfl) ?_
  refine lv_iload hx hb d_Law_law_411 (lv_at hl 1 rfl) ?_
  refine lv_iconst (v := 2) hx hb d_Law_law_413 (by decide) ?_
  refine lv_iadd hx hb d_Law_law_414 ?_
  refine e_top (v := nI (i + 2)) (nI_add (i) (2)) ?_
  refine va_sld hx hb hX hbl hbA hW.2.2 (vp_in_nI (n := i + 2) (show i + 2 < L by omega) (by omega)) d_Law_law_415 ?_
  refine e_top (v := xs (i + 2)) (by rw [nI_clamp (show i + 2 < 2 ^ 31 by omega)]) ?_
  refine e_ci (e_runV hx hb hml hown hts hE hbs hW (F_Mo G hG) rfl (c_M_take l G hG D1 (xs (i + 1)) (xs (i + 2)) (CR_MN hC1) (CK_num hC1).2.1) kw_671 kw_672 kw_673 kw_412 kw_670 rfl rfl hd_Mo_take ⟨Nat.le_of_ble_eq_true rfl, Nat.le_of_ble_eq_true rfl⟩ (As := [.int (xs (i + 1)), .int (xs (i + 2))]) (rest := []) rfl hl.1 rfl (Nat.le_of_ble_eq_true rfl) d_Law_law_416 ⟨by show C + 5 + 0 ≤ 601024; omega, by show S + 30 + 0 ≤ 7293000; omega⟩) hW (fun r u H locs hm hW => ?_)
  obtain ⟨hs1, hs2, hs3⟩ := St_take (by omega) hCR hw hm
  refine lv_istore (lv' := [(6, .int (r)), (5, .int (k)), (4, .int (nI i)), (3, .ref (gad G (9))), (2, .ref (gad G (600))), (1, .ref (gad G (0))), (0, .ref b)]) hx hb d_Law_law_419 hl (by decide) rfl (fun ls hl => ?_)
  refine lv_aload_n hx hb d_Law_law_421 rfl (lv_at hl 4 rfl) ?_
  refine e_ci (e_runV hx hb hml hown hts hE hbs hW (F_Mo G hG) rfl (c_M_thrown l G hG u  ) kw_643 kw_644 kw_645 kw_412 kw_642 rfl rfl hd_Mo_thrown ⟨Nat.le_of_ble_eq_true rfl, Nat.le_of_ble_eq_true rfl⟩ (As := []) (rest := []) rfl hl.1 rfl (Nat.le_of_ble_eq_true rfl) d_Law_law_422 ⟨by show C + 5 + 0 + 0 ≤ 601024; omega, by show S + 30 + 0 + 0 ≤ 7293000; omega⟩) hW (fun r9 u9 H locs hp hW => ?_)
  obtain ⟨hp1, hp2⟩ := hp
  have hp1 := hp1.symm; subst hp1
  have hp2 := hp2.symm; subst hp2
  refine lv_iload hx hb d_Law_law_425 (lv_at hl 1 rfl) ?_
  refine lv_icmp_eq (tgt := 432) hx hb d_Law_law_427 (by decide) (fun c_1 => ?_) (fun c_1 => ?_)
  · skip
    refine lv_iload hx hb d_Law_law_432 (lv_at hl 1 rfl) ?_
    refine lv_if_ne (tgt := 449) hx hb d_Law_law_434 (by decide) (fun c_2 => ?_) (fun c_2 => ?_)
    · skip
      refine lv_goto (tgt := 1199) hx hb d_Law_law_449 (by decide) ?_
      refine W.widen (show C + 5 + 0 + 0 ≤ C + 21 by omega) (show S + 30 + 0 + 0 ≤ S + 638 by omega) ?_
      exact K _ _ _ _ hW hs3 (lv_sub hl [2, 3, 4, 5, 6] rfl)
    · skip
      refine lv_aload_n hx hb d_Law_law_437 rfl (lv_at hl 3 rfl) ?_
      refine lv_iconst (v := 0) hx hb d_Law_law_438 (by decide) ?_
      refine e_jald hx hb hK hW (F_Out G hG h9) (j := 0) (by decide) rfl d_Law_law_439 ?_
      refine lv_iload hx hb d_Law_law_440 (lv_at hl 0 rfl) ?_
      refine lv_i2l hx hb d_Law_law_442 rfl ?_
      refine W.lcmp hx hb d_Law_law_443 ?_
      refine lv_if_eq (tgt := 449) hx hb d_Law_law_444 (by decide) (fun c_3 => ?_) (fun c_3 => ?_)
      · skip
        refine lv_goto (tgt := 1199) hx hb d_Law_law_449 (by decide) ?_
        refine W.widen (show C + 5 + 0 + 0 ≤ C + 21 by omega) (show S + 30 + 0 + 0 ≤ S + 638 by omega) ?_
        exact K _ _ _ _ hW hs3 (lv_sub hl [2, 3, 4, 5, 6] rfl)
      · skip
        exact (lc_dead (hs2 c_2) c_3).elim
  · skip
    exact absurd hs1 c_1
set_option maxHeartbeats 4000000 in
set_option maxRecDepth 100000 in
theorem lc_deliver {p : Program} {l : Launch} {e : Env} {s : State} {m : MethodId} {below : List Frame} {meth : Method} {c : Code} {Q : State → Prop} {G : GT} {b L : Nat} {xs : Nat → Int32} (X : LX l G b L xs p s m meth c) {D : DD} {H : Heap} {locs : List Loc} {ls : Array Slot} {i B C S : Nat} (hW : WD G s.heap D H locs) (hCR : CR (gn G) B D D) (hB9 : B < 9999) (hi : i + 5 ≤ L) (hl : lv_has ls 7 (LV G b i)) (hC : C + 21 ≤ 601024) (hS : S + 638 ≤ 7293000)
    (K : ∀ (H : Heap) (locs : List Loc) (ls : Array Slot) (D : DD), WD G s.heap D H locs → CR (gn G) (B + 2) D D → lv_has ls 7 (LV G b i) → W p l e room_1 s m #[Value.ref b] below meth c H locs (C + 21) (S + 638) Q (F0 m 1199 ls [])) : W p l e room_1 s m #[Value.ref b] below meth c H locs C S Q (F0 m 452 ls []) := by
  obtain ⟨hx, hb, hml, hown, hts, hE, hbs, hX, hbl, hbA, hG, h9, hst, hL⟩ := X
  have hK := hE.1
  have hl : lv_has ls 7 [(4, .int (nI i)), (3, .ref (gad G 9)), (2, .ref (gad G 600)), (1, .ref (gad G 0)), (0, .ref b)] := hl
  refine lv_aload_n hx hb d_Law_law_452 rfl (lv_at hl 3 rfl) ?_
  refine lv_aload_n hx hb d_Law_law_453 rfl (lv_at hl 4 rfl) ?_
  refine lv_iload hx hb d_Law_law_454 (lv_at hl 0 rfl) ?_
  refine lv_iconst (v := 1) hx hb d_Law_law_456 (by decide) ?_
  refine lv_iadd hx hb d_Law_law_457 ?_
  refine e_top (v := nI (i + 1)) (nI_add (i) (1)) ?_
  refine va_sld hx hb hX hbl hbA hW.2.2 (vp_in_nI (n := i + 1) (show i + 1 < L by omega) (by omega)) d_Law_law_458 ?_
  refine e_top (v := xs (i + 1)) (by rw [nI_clamp (show i + 1 < 2 ^ 31 by omega)]) ?_
  refine lv_aload_n hx hb d_Law_law_459 rfl (lv_at hl 4 rfl) ?_
  refine lv_iload hx hb d_Law_law_460 (lv_at hl 0 rfl) ?_
  refine lv_iconst (v := 2) hx hb d_Law_law_462 (by decide) ?_
  refine lv_iadd hx hb d_Law_law_463 ?_
  refine e_top (v := nI (i + 2)) (nI_add (i) (2)) ?_
  refine va_sld hx hb hX hbl hbA hW.2.2 (vp_in_nI (n := i + 2) (show i + 2 < L by omega) (by omega)) d_Law_law_464 ?_
  refine e_top (v := xs (i + 2)) (by rw [nI_clamp (show i + 2 < 2 ^ 31 by omega)]) ?_
  refine lv_if_eq (tgt := 472) hx hb d_Law_law_465 (by decide) (fun c_1 => ?_) (fun c_1 => ?_)
  · skip
    refine lv_iconst (v := 0) hx hb d_Law_law_472 (by decide) ?_
    refine lv_aload_n hx hb d_Law_law_473 rfl (lv_at hl 1 rfl) ?_
    refine e_ci (e_runSW hx hb hml hown hts hE hbs hW (c_L_deliver l hst G hG h9 D (xs (i + 1)) (0) (D 0 3) (CR_net hCR) (CR_msgs hCR) rfl) kw_675 kw_676 kw_635 kw_674 rfl rfl hd_Law_deliver ⟨Nat.le_of_ble_eq_true rfl, Nat.le_of_ble_eq_true rfl⟩ (As := [.ref (gad G 0), .int (xs (i + 1)), .int (0), .ref (gad G 9)]) (rest := []) rfl hl.1 rfl (Nat.le_of_ble_eq_true rfl) d_Law_law_474 ⟨by show C + 1 ≤ 601024; omega, by show S + 6 ≤ 7293000; omega⟩) hW (fun k D1 H locs hw hW => ?_)
    have hC1 := C1_deliver hCR hw
    refine lv_istore (lv' := [(5, .int (k)), (4, .int (nI i)), (3, .ref (gad G (9))), (2, .ref (gad G (600))), (1, .ref (gad G (0))), (0, .ref b)]) hx hb d_Law_law_477 hl (by decide) rfl (fun ls hl => ?_)
    refine lv_aload_n hx hb d_Law_law_479 rfl (lv_at hl 3 rfl) ?_
    refine lv_aload_n hx hb d_Law_law_480 rfl (lv_at hl 5 rfl) ?_
    refine lv_iload hx hb d_Law_law_481 (lv_at hl 1 rfl) ?_
    refine lv_iconst (v := 1) hx hb d_Law_law_483 (by decide) ?_
    refine lv_iadd hx hb d_Law_law_484 ?_
    refine e_top (v := nI (i + 1)) (nI_add (i) (1)) ?_
    refine va_sld hx hb hX hbl hbA hW.2.2 (vp_in_nI (n := i + 1) (show i + 1 < L by omega) (by omega)) d_Law_law_485 ?_
    refine e_top (v := xs (i + 1)) (by rw [nI_clamp (show i + 1 < 2 ^ 31 by omega)]) ?_
    refine lv_aload_n hx hb d_Law_law_486 rfl (lv_at hl 5 rfl) ?_
    refine lv_iload hx hb d_Law_law_487 (lv_at hl 1 rfl) ?_
    refine lv_iconst (v := 2) hx hb d_Law_law_489 (by decide) ?_
    refine lv_iadd hx hb d_Law_law_490 ?_
    refine e_top (v := nI (i + 2)) (nI_add (i) (2)) ?_
    refine va_sld hx hb hX hbl hbA hW.2.2 (vp_in_nI (n := i + 2) (show i + 2 < L by omega) (by omega)) d_Law_law_491 ?_
    refine e_top (v := xs (i + 2)) (by rw [nI_clamp (show i + 2 < 2 ^ 31 by omega)]) ?_
    refine lv_if_eq (tgt := 499) hx hb d_Law_law_492 (by decide) (fun c_2 => ?_) (fun c_2 => ?_)
    · skip
      refine lv_iconst (v := 0) hx hb d_Law_law_499 (by decide) ?_
      refine e_ci (e_runV hx hb hml hown hts hE hbs hW (F_Mo G hG) rfl (c_M_deliver l G hG D1 (xs (i + 1)) (0) (CR_MN hC1) (CK_num hC1).2.1 (CR_Mm hC1)) kw_678 kw_679 kw_680 kw_412 kw_677 rfl rfl hd_Mo_deliver ⟨Nat.le_of_ble_eq_true rfl, Nat.le_of_ble_eq_true rfl⟩ (As := [.int (xs (i + 1)), .int (0)]) (rest := []) rfl hl.1 rfl (Nat.le_of_ble_eq_true rfl) d_Law_law_500 ⟨by show C + 1 + 0 ≤ 601024; omega, by show S + 6 + 0 ≤ 7293000; omega⟩) hW (fun r u H locs hm hW => ?_)
      obtain ⟨hs1, hs2, hs3⟩ := St_deliver (by omega) rfl hCR hw hm
      refine lv_istore (lv' := [(6, .int (r)), (5, .int (k)), (4, .int (nI i)), (3, .ref (gad G (9))), (2, .ref (gad G (600))), (1, .ref (gad G (0))), (0, .ref b)]) hx hb d_Law_law_503 hl (by decide) rfl (fun ls hl => ?_)
      refine lv_aload_n hx hb d_Law_law_505 rfl (lv_at hl 4 rfl) ?_
      refine e_ci (e_runV hx hb hml hown hts hE hbs hW (F_Mo G hG) rfl (c_M_thrown l G hG u  ) kw_643 kw_644 kw_645 kw_412 kw_642 rfl rfl hd_Mo_thrown ⟨Nat.le_of_ble_eq_true rfl, Nat.le_of_ble_eq_true rfl⟩ (As := []) (rest := []) rfl hl.1 rfl (Nat.le_of_ble_eq_true rfl) d_Law_law_506 ⟨by show C + 1 + 0 + 0 ≤ 601024; omega, by show S + 6 + 0 + 0 ≤ 7293000; omega⟩) hW (fun r9 u9 H locs hp hW => ?_)
      obtain ⟨hp1, hp2⟩ := hp
      have hp1 := hp1.symm; subst hp1
      have hp2 := hp2.symm; subst hp2
      refine lv_iload hx hb d_Law_law_509 (lv_at hl 1 rfl) ?_
      refine lv_icmp_eq (tgt := 516) hx hb d_Law_law_511 (by decide) (fun c_3 => ?_) (fun c_3 => ?_)
      · skip
        refine lv_iload hx hb d_Law_law_516 (lv_at hl 1 rfl) ?_
        refine lv_if_ne (tgt := 533) hx hb d_Law_law_518 (by decide) (fun c_4 => ?_) (fun c_4 => ?_)
        · skip
          refine lv_goto (tgt := 1199) hx hb d_Law_law_533 (by decide) ?_
          refine W.widen (show C + 1 + 0 + 0 ≤ C + 21 by omega) (show S + 6 + 0 + 0 ≤ S + 638 by omega) ?_
          exact K _ _ _ _ hW (CR_m (by omega) hs3) (lv_sub hl [2, 3, 4, 5, 6] rfl)
        · skip
          refine lv_aload_n hx hb d_Law_law_521 rfl (lv_at hl 3 rfl) ?_
          refine lv_iconst (v := 0) hx hb d_Law_law_522 (by decide) ?_
          refine e_jald hx hb hK hW (F_Out G hG h9) (j := 0) (by decide) rfl d_Law_law_523 ?_
          refine lv_iload hx hb d_Law_law_524 (lv_at hl 0 rfl) ?_
          refine lv_i2l hx hb d_Law_law_526 rfl ?_
          refine W.lcmp hx hb d_Law_law_527 ?_
          refine lv_if_eq (tgt := 533) hx hb d_Law_law_528 (by decide) (fun c_5 => ?_) (fun c_5 => ?_)
          · skip
            refine lv_goto (tgt := 1199) hx hb d_Law_law_533 (by decide) ?_
            refine W.widen (show C + 1 + 0 + 0 ≤ C + 21 by omega) (show S + 6 + 0 + 0 ≤ S + 638 by omega) ?_
            exact K _ _ _ _ hW (CR_m (by omega) hs3) (lv_sub hl [2, 3, 4, 5, 6] rfl)
          · skip
            exact (lc_dead (hs2 c_4) c_5).elim
      · skip
        exact absurd hs1 c_3
    · skip
      exact absurd c_1 c_2
  · skip
    refine lv_iconst (v := 1) hx hb d_Law_law_468 (by decide) ?_
    refine lv_goto (tgt := 473) hx hb d_Law_law_469 (by decide) ?_
    refine lv_aload_n hx hb d_Law_law_473 rfl (lv_at hl 1 rfl) ?_
    refine e_ci (e_runSW hx hb hml hown hts hE hbs hW (c_L_deliver l hst G hG h9 D (xs (i + 1)) (1) (D 0 3) (CR_net hCR) (CR_msgs hCR) rfl) kw_675 kw_676 kw_635 kw_674 rfl rfl hd_Law_deliver ⟨Nat.le_of_ble_eq_true rfl, Nat.le_of_ble_eq_true rfl⟩ (As := [.ref (gad G 0), .int (xs (i + 1)), .int (1), .ref (gad G 9)]) (rest := []) rfl hl.1 rfl (Nat.le_of_ble_eq_true rfl) d_Law_law_474 ⟨by show C + 1 ≤ 601024; omega, by show S + 6 ≤ 7293000; omega⟩) hW (fun k D1 H locs hw hW => ?_)
    have hC1 := C1_deliver hCR hw
    refine lv_istore (lv' := [(5, .int (k)), (4, .int (nI i)), (3, .ref (gad G (9))), (2, .ref (gad G (600))), (1, .ref (gad G (0))), (0, .ref b)]) hx hb d_Law_law_477 hl (by decide) rfl (fun ls hl => ?_)
    refine lv_aload_n hx hb d_Law_law_479 rfl (lv_at hl 3 rfl) ?_
    refine lv_aload_n hx hb d_Law_law_480 rfl (lv_at hl 5 rfl) ?_
    refine lv_iload hx hb d_Law_law_481 (lv_at hl 1 rfl) ?_
    refine lv_iconst (v := 1) hx hb d_Law_law_483 (by decide) ?_
    refine lv_iadd hx hb d_Law_law_484 ?_
    refine e_top (v := nI (i + 1)) (nI_add (i) (1)) ?_
    refine va_sld hx hb hX hbl hbA hW.2.2 (vp_in_nI (n := i + 1) (show i + 1 < L by omega) (by omega)) d_Law_law_485 ?_
    refine e_top (v := xs (i + 1)) (by rw [nI_clamp (show i + 1 < 2 ^ 31 by omega)]) ?_
    refine lv_aload_n hx hb d_Law_law_486 rfl (lv_at hl 5 rfl) ?_
    refine lv_iload hx hb d_Law_law_487 (lv_at hl 1 rfl) ?_
    refine lv_iconst (v := 2) hx hb d_Law_law_489 (by decide) ?_
    refine lv_iadd hx hb d_Law_law_490 ?_
    refine e_top (v := nI (i + 2)) (nI_add (i) (2)) ?_
    refine va_sld hx hb hX hbl hbA hW.2.2 (vp_in_nI (n := i + 2) (show i + 2 < L by omega) (by omega)) d_Law_law_491 ?_
    refine e_top (v := xs (i + 2)) (by rw [nI_clamp (show i + 2 < 2 ^ 31 by omega)]) ?_
    refine lv_if_eq (tgt := 499) hx hb d_Law_law_492 (by decide) (fun c_6 => ?_) (fun c_6 => ?_)
    · skip
      exact absurd c_6 c_1
    · skip
      refine lv_iconst (v := 1) hx hb d_Law_law_495 (by decide) ?_
      refine lv_goto (tgt := 500) hx hb d_Law_law_496 (by decide) ?_
      refine e_ci (e_runV hx hb hml hown hts hE hbs hW (F_Mo G hG) rfl (c_M_deliver l G hG D1 (xs (i + 1)) (1) (CR_MN hC1) (CK_num hC1).2.1 (CR_Mm hC1)) kw_678 kw_679 kw_680 kw_412 kw_677 rfl rfl hd_Mo_deliver ⟨Nat.le_of_ble_eq_true rfl, Nat.le_of_ble_eq_true rfl⟩ (As := [.int (xs (i + 1)), .int (1)]) (rest := []) rfl hl.1 rfl (Nat.le_of_ble_eq_true rfl) d_Law_law_500 ⟨by show C + 1 + 0 ≤ 601024; omega, by show S + 6 + 0 ≤ 7293000; omega⟩) hW (fun r u H locs hm hW => ?_)
      obtain ⟨hs1, hs2, hs3⟩ := St_deliver (by omega) rfl hCR hw hm
      refine lv_istore (lv' := [(6, .int (r)), (5, .int (k)), (4, .int (nI i)), (3, .ref (gad G (9))), (2, .ref (gad G (600))), (1, .ref (gad G (0))), (0, .ref b)]) hx hb d_Law_law_503 hl (by decide) rfl (fun ls hl => ?_)
      refine lv_aload_n hx hb d_Law_law_505 rfl (lv_at hl 4 rfl) ?_
      refine e_ci (e_runV hx hb hml hown hts hE hbs hW (F_Mo G hG) rfl (c_M_thrown l G hG u  ) kw_643 kw_644 kw_645 kw_412 kw_642 rfl rfl hd_Mo_thrown ⟨Nat.le_of_ble_eq_true rfl, Nat.le_of_ble_eq_true rfl⟩ (As := []) (rest := []) rfl hl.1 rfl (Nat.le_of_ble_eq_true rfl) d_Law_law_506 ⟨by show C + 1 + 0 + 0 ≤ 601024; omega, by show S + 6 + 0 + 0 ≤ 7293000; omega⟩) hW (fun r9 u9 H locs hp hW => ?_)
      obtain ⟨hp1, hp2⟩ := hp
      have hp1 := hp1.symm; subst hp1
      have hp2 := hp2.symm; subst hp2
      refine lv_iload hx hb d_Law_law_509 (lv_at hl 1 rfl) ?_
      refine lv_icmp_eq (tgt := 516) hx hb d_Law_law_511 (by decide) (fun c_7 => ?_) (fun c_7 => ?_)
      · skip
        refine lv_iload hx hb d_Law_law_516 (lv_at hl 1 rfl) ?_
        refine lv_if_ne (tgt := 533) hx hb d_Law_law_518 (by decide) (fun c_8 => ?_) (fun c_8 => ?_)
        · skip
          refine lv_goto (tgt := 1199) hx hb d_Law_law_533 (by decide) ?_
          refine W.widen (show C + 1 + 0 + 0 ≤ C + 21 by omega) (show S + 6 + 0 + 0 ≤ S + 638 by omega) ?_
          exact K _ _ _ _ hW (CR_m (by omega) hs3) (lv_sub hl [2, 3, 4, 5, 6] rfl)
        · skip
          refine lv_aload_n hx hb d_Law_law_521 rfl (lv_at hl 3 rfl) ?_
          refine lv_iconst (v := 0) hx hb d_Law_law_522 (by decide) ?_
          refine e_jald hx hb hK hW (F_Out G hG h9) (j := 0) (by decide) rfl d_Law_law_523 ?_
          refine lv_iload hx hb d_Law_law_524 (lv_at hl 0 rfl) ?_
          refine lv_i2l hx hb d_Law_law_526 rfl ?_
          refine W.lcmp hx hb d_Law_law_527 ?_
          refine lv_if_eq (tgt := 533) hx hb d_Law_law_528 (by decide) (fun c_9 => ?_) (fun c_9 => ?_)
          · skip
            refine lv_goto (tgt := 1199) hx hb d_Law_law_533 (by decide) ?_
            refine W.widen (show C + 1 + 0 + 0 ≤ C + 21 by omega) (show S + 6 + 0 + 0 ≤ S + 638 by omega) ?_
            exact K _ _ _ _ hW (CR_m (by omega) hs3) (lv_sub hl [2, 3, 4, 5, 6] rfl)
          · skip
            exact (lc_dead (hs2 c_8) c_9).elim
      · skip
        exact absurd hs1 c_7
set_option maxHeartbeats 4000000 in
set_option maxRecDepth 100000 in
theorem lc_lose {p : Program} {l : Launch} {e : Env} {s : State} {m : MethodId} {below : List Frame} {meth : Method} {c : Code} {Q : State → Prop} {G : GT} {b L : Nat} {xs : Nat → Int32} (X : LX l G b L xs p s m meth c) {D : DD} {H : Heap} {locs : List Loc} {ls : Array Slot} {i B C S : Nat} (hW : WD G s.heap D H locs) (hCR : CR (gn G) B D D) (hB9 : B < 9999) (hi : i + 5 ≤ L) (hl : lv_has ls 7 (LV G b i)) (hC : C + 21 ≤ 601024) (hS : S + 638 ≤ 7293000)
    (K : ∀ (H : Heap) (locs : List Loc) (ls : Array Slot) (D : DD), WD G s.heap D H locs → CR (gn G) (B + 2) D D → lv_has ls 7 (LV G b i) → W p l e room_1 s m #[Value.ref b] below meth c H locs (C + 21) (S + 638) Q (F0 m 1199 ls [])) : W p l e room_1 s m #[Value.ref b] below meth c H locs C S Q (F0 m 536 ls []) := by
  obtain ⟨hx, hb, hml, hown, hts, hE, hbs, hX, hbl, hbA, hG, h9, hst, hL⟩ := X
  have hK := hE.1
  have hl : lv_has ls 7 [(4, .int (nI i)), (3, .ref (gad G 9)), (2, .ref (gad G 600)), (1, .ref (gad G 0)), (0, .ref b)] := hl
  refine lv_aload_n hx hb d_Law_law_536 rfl (lv_at hl 3 rfl) ?_
  refine lv_aload_n hx hb d_Law_law_537 rfl (lv_at hl 4 rfl) ?_
  refine lv_iload hx hb d_Law_law_538 (lv_at hl 0 rfl) ?_
  refine lv_iconst (v := 1) hx hb d_Law_law_540 (by decide) ?_
  refine lv_iadd hx hb d_Law_law_541 ?_
  refine e_top (v := nI (i + 1)) (nI_add (i) (1)) ?_
  refine va_sld hx hb hX hbl hbA hW.2.2 (vp_in_nI (n := i + 1) (show i + 1 < L by omega) (by omega)) d_Law_law_542 ?_
  refine e_top (v := xs (i + 1)) (by rw [nI_clamp (show i + 1 < 2 ^ 31 by omega)]) ?_
  refine lv_aload_n hx hb d_Law_law_543 rfl (lv_at hl 1 rfl) ?_
  refine e_ci (e_runSW hx hb hml hown hts hE hbs hW (c_L_lose l hst G hG h9 D (xs (i + 1)) (CR_net hCR)) kw_682 kw_683 kw_635 kw_681 rfl rfl hd_Law_lose ⟨Nat.le_of_ble_eq_true rfl, Nat.le_of_ble_eq_true rfl⟩ (As := [.ref (gad G 0), .int (xs (i + 1)), .ref (gad G 9)]) (rest := []) rfl hl.1 rfl (Nat.le_of_ble_eq_true rfl) d_Law_law_544 ⟨by show C + 1 ≤ 601024; omega, by show S + 6 ≤ 7293000; omega⟩) hW (fun k D1 H locs hw hW => ?_)
  have hC1 := C1_lose hCR hw
  refine lv_istore (lv' := [(5, .int (k)), (4, .int (nI i)), (3, .ref (gad G (9))), (2, .ref (gad G (600))), (1, .ref (gad G (0))), (0, .ref b)]) hx hb d_Law_law_547 hl (by decide) rfl (fun ls hl => ?_)
  refine lv_aload_n hx hb d_Law_law_549 rfl (lv_at hl 3 rfl) ?_
  refine lv_aload_n hx hb d_Law_law_550 rfl (lv_at hl 5 rfl) ?_
  refine lv_iload hx hb d_Law_law_551 (lv_at hl 1 rfl) ?_
  refine lv_iconst (v := 1) hx hb d_Law_law_553 (by decide) ?_
  refine lv_iadd hx hb d_Law_law_554 ?_
  refine e_top (v := nI (i + 1)) (nI_add (i) (1)) ?_
  refine va_sld hx hb hX hbl hbA hW.2.2 (vp_in_nI (n := i + 1) (show i + 1 < L by omega) (by omega)) d_Law_law_555 ?_
  refine e_top (v := xs (i + 1)) (by rw [nI_clamp (show i + 1 < 2 ^ 31 by omega)]) ?_
  refine e_ci (e_runV hx hb hml hown hts hE hbs hW (F_Mo G hG) rfl (c_M_lose l G hG D1 (xs (i + 1)) (CR_MN hC1)) kw_685 kw_686 kw_687 kw_412 kw_684 rfl rfl hd_Mo_lose ⟨Nat.le_of_ble_eq_true rfl, Nat.le_of_ble_eq_true rfl⟩ (As := [.int (xs (i + 1))]) (rest := []) rfl hl.1 rfl (Nat.le_of_ble_eq_true rfl) d_Law_law_556 ⟨by show C + 1 + 0 ≤ 601024; omega, by show S + 6 + 0 ≤ 7293000; omega⟩) hW (fun r u H locs hm hW => ?_)
  obtain ⟨hs1, hs2, hs3⟩ := St_lose hCR hw hm
  refine lv_istore (lv' := [(6, .int (r)), (5, .int (k)), (4, .int (nI i)), (3, .ref (gad G (9))), (2, .ref (gad G (600))), (1, .ref (gad G (0))), (0, .ref b)]) hx hb d_Law_law_559 hl (by decide) rfl (fun ls hl => ?_)
  refine lv_aload_n hx hb d_Law_law_561 rfl (lv_at hl 4 rfl) ?_
  refine e_ci (e_runV hx hb hml hown hts hE hbs hW (F_Mo G hG) rfl (c_M_thrown l G hG u  ) kw_643 kw_644 kw_645 kw_412 kw_642 rfl rfl hd_Mo_thrown ⟨Nat.le_of_ble_eq_true rfl, Nat.le_of_ble_eq_true rfl⟩ (As := []) (rest := []) rfl hl.1 rfl (Nat.le_of_ble_eq_true rfl) d_Law_law_562 ⟨by show C + 1 + 0 + 0 ≤ 601024; omega, by show S + 6 + 0 + 0 ≤ 7293000; omega⟩) hW (fun r9 u9 H locs hp hW => ?_)
  obtain ⟨hp1, hp2⟩ := hp
  have hp1 := hp1.symm; subst hp1
  have hp2 := hp2.symm; subst hp2
  refine lv_iload hx hb d_Law_law_565 (lv_at hl 1 rfl) ?_
  refine lv_icmp_eq (tgt := 572) hx hb d_Law_law_567 (by decide) (fun c_1 => ?_) (fun c_1 => ?_)
  · skip
    refine lv_iload hx hb d_Law_law_572 (lv_at hl 1 rfl) ?_
    refine lv_if_ne (tgt := 589) hx hb d_Law_law_574 (by decide) (fun c_2 => ?_) (fun c_2 => ?_)
    · skip
      refine lv_goto (tgt := 1199) hx hb d_Law_law_589 (by decide) ?_
      refine W.widen (show C + 1 + 0 + 0 ≤ C + 21 by omega) (show S + 6 + 0 + 0 ≤ S + 638 by omega) ?_
      exact K _ _ _ _ hW (CR_m (by omega) hs3) (lv_sub hl [2, 3, 4, 5, 6] rfl)
    · skip
      refine lv_aload_n hx hb d_Law_law_577 rfl (lv_at hl 3 rfl) ?_
      refine lv_iconst (v := 0) hx hb d_Law_law_578 (by decide) ?_
      refine e_jald hx hb hK hW (F_Out G hG h9) (j := 0) (by decide) rfl d_Law_law_579 ?_
      refine lv_iload hx hb d_Law_law_580 (lv_at hl 0 rfl) ?_
      refine lv_i2l hx hb d_Law_law_582 rfl ?_
      refine W.lcmp hx hb d_Law_law_583 ?_
      refine lv_if_eq (tgt := 589) hx hb d_Law_law_584 (by decide) (fun c_3 => ?_) (fun c_3 => ?_)
      · skip
        refine lv_goto (tgt := 1199) hx hb d_Law_law_589 (by decide) ?_
        refine W.widen (show C + 1 + 0 + 0 ≤ C + 21 by omega) (show S + 6 + 0 + 0 ≤ S + 638 by omega) ?_
        exact K _ _ _ _ hW (CR_m (by omega) hs3) (lv_sub hl [2, 3, 4, 5, 6] rfl)
      · skip
        exact (lc_dead (hs2 c_2) c_3).elim
  · skip
    exact absurd hs1 c_1
set_option maxHeartbeats 4000000 in
set_option maxRecDepth 100000 in
theorem lc_up {p : Program} {l : Launch} {e : Env} {s : State} {m : MethodId} {below : List Frame} {meth : Method} {c : Code} {Q : State → Prop} {G : GT} {b L : Nat} {xs : Nat → Int32} (X : LX l G b L xs p s m meth c) {D : DD} {H : Heap} {locs : List Loc} {ls : Array Slot} {i B C S : Nat} (hW : WD G s.heap D H locs) (hCR : CR (gn G) B D D) (hB9 : B < 9999) (hi : i + 5 ≤ L) (hl : lv_has ls 7 (LV G b i)) (hC : C + 21 ≤ 601024) (hS : S + 638 ≤ 7293000)
    (K : ∀ (H : Heap) (locs : List Loc) (ls : Array Slot) (D : DD), WD G s.heap D H locs → CR (gn G) (B + 2) D D → lv_has ls 7 (LV G b i) → W p l e room_1 s m #[Value.ref b] below meth c H locs (C + 21) (S + 638) Q (F0 m 1199 ls [])) : W p l e room_1 s m #[Value.ref b] below meth c H locs C S Q (F0 m 592 ls []) := by
  obtain ⟨hx, hb, hml, hown, hts, hE, hbs, hX, hbl, hbA, hG, h9, hst, hL⟩ := X
  have hK := hE.1
  have hl : lv_has ls 7 [(4, .int (nI i)), (3, .ref (gad G 9)), (2, .ref (gad G 600)), (1, .ref (gad G 0)), (0, .ref b)] := hl
  refine lv_aload_n hx hb d_Law_law_592 rfl (lv_at hl 3 rfl) ?_
  refine lv_aload_n hx hb d_Law_law_593 rfl (lv_at hl 4 rfl) ?_
  refine lv_iload hx hb d_Law_law_594 (lv_at hl 0 rfl) ?_
  refine lv_iconst (v := 1) hx hb d_Law_law_596 (by decide) ?_
  refine lv_iadd hx hb d_Law_law_597 ?_
  refine e_top (v := nI (i + 1)) (nI_add (i) (1)) ?_
  refine va_sld hx hb hX hbl hbA hW.2.2 (vp_in_nI (n := i + 1) (show i + 1 < L by omega) (by omega)) d_Law_law_598 ?_
  refine e_top (v := xs (i + 1)) (by rw [nI_clamp (show i + 1 < 2 ^ 31 by omega)]) ?_
  refine lv_aload_n hx hb d_Law_law_599 rfl (lv_at hl 4 rfl) ?_
  refine lv_iload hx hb d_Law_law_600 (lv_at hl 0 rfl) ?_
  refine lv_iconst (v := 2) hx hb d_Law_law_602 (by decide) ?_
  refine lv_iadd hx hb d_Law_law_603 ?_
  refine e_top (v := nI (i + 2)) (nI_add (i) (2)) ?_
  refine va_sld hx hb hX hbl hbA hW.2.2 (vp_in_nI (n := i + 2) (show i + 2 < L by omega) (by omega)) d_Law_law_604 ?_
  refine e_top (v := xs (i + 2)) (by rw [nI_clamp (show i + 2 < 2 ^ 31 by omega)]) ?_
  refine lv_aload_n hx hb d_Law_law_605 rfl (lv_at hl 4 rfl) ?_
  refine lv_iload hx hb d_Law_law_606 (lv_at hl 0 rfl) ?_
  refine lv_iconst (v := 3) hx hb d_Law_law_608 (by decide) ?_
  refine lv_iadd hx hb d_Law_law_609 ?_
  refine e_top (v := nI (i + 3)) (nI_add (i) (3)) ?_
  refine va_sld hx hb hX hbl hbA hW.2.2 (vp_in_nI (n := i + 3) (show i + 3 < L by omega) (by omega)) d_Law_law_610 ?_
  refine e_top (v := xs (i + 3)) (by rw [nI_clamp (show i + 3 < 2 ^ 31 by omega)]) ?_
  refine lv_if_eq (tgt := 618) hx hb d_Law_law_611 (by decide) (fun c_1 => ?_) (fun c_1 => ?_)
  · skip
    refine lv_iconst (v := 0) hx hb d_Law_law_618 (by decide) ?_
    refine lv_aload_n hx hb d_Law_law_619 rfl (lv_at hl 1 rfl) ?_
    refine e_ci (e_runSW hx hb hml hown hts hE hbs hW (c_L_up l hst G hG h9 D (xs (i + 1)) (xs (i + 2)) (0) ) kw_689 kw_690 kw_635 kw_688 rfl rfl hd_Law_up ⟨Nat.le_of_ble_eq_true rfl, Nat.le_of_ble_eq_true rfl⟩ (As := [.ref (gad G 0), .int (xs (i + 1)), .int (xs (i + 2)), .int (0), .ref (gad G 9)]) (rest := []) rfl hl.1 rfl (Nat.le_of_ble_eq_true rfl) d_Law_law_620 ⟨by show C + 2 ≤ 601024; omega, by show S + 12 ≤ 7293000; omega⟩) hW (fun k D1 H locs hw hW => ?_)
    have hC1 := C1_up hCR hw
    refine lv_istore (lv' := [(5, .int (k)), (4, .int (nI i)), (3, .ref (gad G (9))), (2, .ref (gad G (600))), (1, .ref (gad G (0))), (0, .ref b)]) hx hb d_Law_law_623 hl (by decide) rfl (fun ls hl => ?_)
    refine lv_aload_n hx hb d_Law_law_625 rfl (lv_at hl 3 rfl) ?_
    refine lv_aload_n hx hb d_Law_law_626 rfl (lv_at hl 5 rfl) ?_
    refine lv_iload hx hb d_Law_law_627 (lv_at hl 1 rfl) ?_
    refine lv_iconst (v := 1) hx hb d_Law_law_629 (by decide) ?_
    refine lv_iadd hx hb d_Law_law_630 ?_
    refine e_top (v := nI (i + 1)) (nI_add (i) (1)) ?_
    refine va_sld hx hb hX hbl hbA hW.2.2 (vp_in_nI (n := i + 1) (show i + 1 < L by omega) (by omega)) d_Law_law_631 ?_
    refine e_top (v := xs (i + 1)) (by rw [nI_clamp (show i + 1 < 2 ^ 31 by omega)]) ?_
    refine lv_aload_n hx hb d_Law_law_632 rfl (lv_at hl 5 rfl) ?_
    refine lv_iload hx hb d_Law_law_633 (lv_at hl 1 rfl) ?_
    refine lv_iconst (v := 2) hx hb d_Law_law_635 (by decide) ?_
    refine lv_iadd hx hb d_Law_law_636 ?_
    refine e_top (v := nI (i + 2)) (nI_add (i) (2)) ?_
    refine va_sld hx hb hX hbl hbA hW.2.2 (vp_in_nI (n := i + 2) (show i + 2 < L by omega) (by omega)) d_Law_law_637 ?_
    refine e_top (v := xs (i + 2)) (by rw [nI_clamp (show i + 2 < 2 ^ 31 by omega)]) ?_
    refine lv_aload_n hx hb d_Law_law_638 rfl (lv_at hl 5 rfl) ?_
    refine lv_iload hx hb d_Law_law_639 (lv_at hl 1 rfl) ?_
    refine lv_iconst (v := 3) hx hb d_Law_law_641 (by decide) ?_
    refine lv_iadd hx hb d_Law_law_642 ?_
    refine e_top (v := nI (i + 3)) (nI_add (i) (3)) ?_
    refine va_sld hx hb hX hbl hbA hW.2.2 (vp_in_nI (n := i + 3) (show i + 3 < L by omega) (by omega)) d_Law_law_643 ?_
    refine e_top (v := xs (i + 3)) (by rw [nI_clamp (show i + 3 < 2 ^ 31 by omega)]) ?_
    refine lv_if_eq (tgt := 651) hx hb d_Law_law_644 (by decide) (fun c_2 => ?_) (fun c_2 => ?_)
    · skip
      refine lv_iconst (v := 0) hx hb d_Law_law_651 (by decide) ?_
      refine e_ci (e_runV hx hb hml hown hts hE hbs hW (F_Mo G hG) rfl (c_M_up l G hG D1 (xs (i + 1)) (xs (i + 2)) (0) (CK_num hC1).2.1) kw_692 kw_693 kw_694 kw_412 kw_691 rfl rfl hd_Mo_up ⟨Nat.le_of_ble_eq_true rfl, Nat.le_of_ble_eq_true rfl⟩ (As := [.int (xs (i + 1)), .int (xs (i + 2)), .int (0)]) (rest := []) rfl hl.1 rfl (Nat.le_of_ble_eq_true rfl) d_Law_law_652 ⟨by show C + 2 + 0 ≤ 601024; omega, by show S + 12 + 0 ≤ 7293000; omega⟩) hW (fun r u H locs hm hW => ?_)
      obtain ⟨hs1, hs2, hs3⟩ := St_up hCR hw hm
      have hr01 := up01 hs1 hm
      refine lv_istore (lv' := [(6, .int (r)), (5, .int (k)), (4, .int (nI i)), (3, .ref (gad G (9))), (2, .ref (gad G (600))), (1, .ref (gad G (0))), (0, .ref b)]) hx hb d_Law_law_655 hl (by decide) rfl (fun ls hl => ?_)
      refine lv_aload_n hx hb d_Law_law_657 rfl (lv_at hl 4 rfl) ?_
      refine e_ci (e_runV hx hb hml hown hts hE hbs hW (F_Mo G hG) rfl (c_M_thrown l G hG u  ) kw_643 kw_644 kw_645 kw_412 kw_642 rfl rfl hd_Mo_thrown ⟨Nat.le_of_ble_eq_true rfl, Nat.le_of_ble_eq_true rfl⟩ (As := []) (rest := []) rfl hl.1 rfl (Nat.le_of_ble_eq_true rfl) d_Law_law_658 ⟨by show C + 2 + 0 + 0 ≤ 601024; omega, by show S + 12 + 0 + 0 ≤ 7293000; omega⟩) hW (fun r9 u9 H locs hp hW => ?_)
      obtain ⟨hp1, hp2⟩ := hp
      have hp1 := hp1.symm; subst hp1
      have hp2 := hp2.symm; subst hp2
      refine lv_iload hx hb d_Law_law_661 (lv_at hl 1 rfl) ?_
      refine lv_icmp_eq (tgt := 668) hx hb d_Law_law_663 (by decide) (fun c_3 => ?_) (fun c_3 => ?_)
      · skip
        refine lv_iload hx hb d_Law_law_668 (lv_at hl 1 rfl) ?_
        refine lv_if_ne (tgt := 692) hx hb d_Law_law_670 (by decide) (fun c_4 => ?_) (fun c_4 => ?_)
        · skip
          refine lv_goto (tgt := 1199) hx hb d_Law_law_692 (by decide) ?_
          refine W.widen (show C + 2 + 0 + 0 ≤ C + 21 by omega) (show S + 12 + 0 + 0 ≤ S + 638 by omega) ?_
          exact K _ _ _ _ hW (CR_m (by omega) hs3) (lv_sub hl [2, 3, 4, 5, 6] rfl)
        · skip
          refine lv_aload_n hx hb d_Law_law_673 rfl (lv_at hl 3 rfl) ?_
          refine lv_iconst (v := 0) hx hb d_Law_law_674 (by decide) ?_
          refine e_jald hx hb hK hW (F_Out G hG h9) (j := 0) (by decide) rfl d_Law_law_675 ?_
          refine lv_iload hx hb d_Law_law_676 (lv_at hl 0 rfl) ?_
          refine lv_if_eq (tgt := 685) hx hb d_Law_law_678 (by decide) (fun c_5 => ?_) (fun c_5 => ?_)
          · skip
            refine lv_lconst (v := 0) hx hb d_Law_law_685 (by decide) ?_
            refine W.lcmp hx hb d_Law_law_686 ?_
            refine lv_if_eq (tgt := 692) hx hb d_Law_law_687 (by decide) (fun c_6 => ?_) (fun c_6 => ?_)
            · skip
              refine lv_goto (tgt := 1199) hx hb d_Law_law_692 (by decide) ?_
              refine W.widen (show C + 2 + 0 + 0 ≤ C + 21 by omega) (show S + 12 + 0 + 0 ≤ S + 638 by omega) ?_
              exact K _ _ _ _ hW (CR_m (by omega) hs3) (lv_sub hl [2, 3, 4, 5, 6] rfl)
            · skip
              exact (lc_deadz (hs2 c_4) (by rw [c_5]; rfl) c_6).elim
          · skip
            refine lv_lconst (v := 1) hx hb d_Law_law_681 (by decide) ?_
            refine lv_goto (tgt := 686) hx hb d_Law_law_682 (by decide) ?_
            refine W.lcmp hx hb d_Law_law_686 ?_
            refine lv_if_eq (tgt := 692) hx hb d_Law_law_687 (by decide) (fun c_7 => ?_) (fun c_7 => ?_)
            · skip
              refine lv_goto (tgt := 1199) hx hb d_Law_law_692 (by decide) ?_
              refine W.widen (show C + 2 + 0 + 0 ≤ C + 21 by omega) (show S + 12 + 0 + 0 ≤ S + 638 by omega) ?_
              exact K _ _ _ _ hW (CR_m (by omega) hs3) (lv_sub hl [2, 3, 4, 5, 6] rfl)
            · skip
              exact (lc_deadz (hs2 c_4) (by rw [(hr01 c_4).resolve_left c_5]; rfl) c_7).elim
      · skip
        exact absurd hs1 c_3
    · skip
      exact absurd c_1 c_2
  · skip
    refine lv_iconst (v := 1) hx hb d_Law_law_614 (by decide) ?_
    refine lv_goto (tgt := 619) hx hb d_Law_law_615 (by decide) ?_
    refine lv_aload_n hx hb d_Law_law_619 rfl (lv_at hl 1 rfl) ?_
    refine e_ci (e_runSW hx hb hml hown hts hE hbs hW (c_L_up l hst G hG h9 D (xs (i + 1)) (xs (i + 2)) (1) ) kw_689 kw_690 kw_635 kw_688 rfl rfl hd_Law_up ⟨Nat.le_of_ble_eq_true rfl, Nat.le_of_ble_eq_true rfl⟩ (As := [.ref (gad G 0), .int (xs (i + 1)), .int (xs (i + 2)), .int (1), .ref (gad G 9)]) (rest := []) rfl hl.1 rfl (Nat.le_of_ble_eq_true rfl) d_Law_law_620 ⟨by show C + 2 ≤ 601024; omega, by show S + 12 ≤ 7293000; omega⟩) hW (fun k D1 H locs hw hW => ?_)
    have hC1 := C1_up hCR hw
    refine lv_istore (lv' := [(5, .int (k)), (4, .int (nI i)), (3, .ref (gad G (9))), (2, .ref (gad G (600))), (1, .ref (gad G (0))), (0, .ref b)]) hx hb d_Law_law_623 hl (by decide) rfl (fun ls hl => ?_)
    refine lv_aload_n hx hb d_Law_law_625 rfl (lv_at hl 3 rfl) ?_
    refine lv_aload_n hx hb d_Law_law_626 rfl (lv_at hl 5 rfl) ?_
    refine lv_iload hx hb d_Law_law_627 (lv_at hl 1 rfl) ?_
    refine lv_iconst (v := 1) hx hb d_Law_law_629 (by decide) ?_
    refine lv_iadd hx hb d_Law_law_630 ?_
    refine e_top (v := nI (i + 1)) (nI_add (i) (1)) ?_
    refine va_sld hx hb hX hbl hbA hW.2.2 (vp_in_nI (n := i + 1) (show i + 1 < L by omega) (by omega)) d_Law_law_631 ?_
    refine e_top (v := xs (i + 1)) (by rw [nI_clamp (show i + 1 < 2 ^ 31 by omega)]) ?_
    refine lv_aload_n hx hb d_Law_law_632 rfl (lv_at hl 5 rfl) ?_
    refine lv_iload hx hb d_Law_law_633 (lv_at hl 1 rfl) ?_
    refine lv_iconst (v := 2) hx hb d_Law_law_635 (by decide) ?_
    refine lv_iadd hx hb d_Law_law_636 ?_
    refine e_top (v := nI (i + 2)) (nI_add (i) (2)) ?_
    refine va_sld hx hb hX hbl hbA hW.2.2 (vp_in_nI (n := i + 2) (show i + 2 < L by omega) (by omega)) d_Law_law_637 ?_
    refine e_top (v := xs (i + 2)) (by rw [nI_clamp (show i + 2 < 2 ^ 31 by omega)]) ?_
    refine lv_aload_n hx hb d_Law_law_638 rfl (lv_at hl 5 rfl) ?_
    refine lv_iload hx hb d_Law_law_639 (lv_at hl 1 rfl) ?_
    refine lv_iconst (v := 3) hx hb d_Law_law_641 (by decide) ?_
    refine lv_iadd hx hb d_Law_law_642 ?_
    refine e_top (v := nI (i + 3)) (nI_add (i) (3)) ?_
    refine va_sld hx hb hX hbl hbA hW.2.2 (vp_in_nI (n := i + 3) (show i + 3 < L by omega) (by omega)) d_Law_law_643 ?_
    refine e_top (v := xs (i + 3)) (by rw [nI_clamp (show i + 3 < 2 ^ 31 by omega)]) ?_
    refine lv_if_eq (tgt := 651) hx hb d_Law_law_644 (by decide) (fun c_8 => ?_) (fun c_8 => ?_)
    · skip
      exact absurd c_8 c_1
    · skip
      refine lv_iconst (v := 1) hx hb d_Law_law_647 (by decide) ?_
      refine lv_goto (tgt := 652) hx hb d_Law_law_648 (by decide) ?_
      refine e_ci (e_runV hx hb hml hown hts hE hbs hW (F_Mo G hG) rfl (c_M_up l G hG D1 (xs (i + 1)) (xs (i + 2)) (1) (CK_num hC1).2.1) kw_692 kw_693 kw_694 kw_412 kw_691 rfl rfl hd_Mo_up ⟨Nat.le_of_ble_eq_true rfl, Nat.le_of_ble_eq_true rfl⟩ (As := [.int (xs (i + 1)), .int (xs (i + 2)), .int (1)]) (rest := []) rfl hl.1 rfl (Nat.le_of_ble_eq_true rfl) d_Law_law_652 ⟨by show C + 2 + 0 ≤ 601024; omega, by show S + 12 + 0 ≤ 7293000; omega⟩) hW (fun r u H locs hm hW => ?_)
      obtain ⟨hs1, hs2, hs3⟩ := St_up hCR hw hm
      have hr01 := up01 hs1 hm
      refine lv_istore (lv' := [(6, .int (r)), (5, .int (k)), (4, .int (nI i)), (3, .ref (gad G (9))), (2, .ref (gad G (600))), (1, .ref (gad G (0))), (0, .ref b)]) hx hb d_Law_law_655 hl (by decide) rfl (fun ls hl => ?_)
      refine lv_aload_n hx hb d_Law_law_657 rfl (lv_at hl 4 rfl) ?_
      refine e_ci (e_runV hx hb hml hown hts hE hbs hW (F_Mo G hG) rfl (c_M_thrown l G hG u  ) kw_643 kw_644 kw_645 kw_412 kw_642 rfl rfl hd_Mo_thrown ⟨Nat.le_of_ble_eq_true rfl, Nat.le_of_ble_eq_true rfl⟩ (As := []) (rest := []) rfl hl.1 rfl (Nat.le_of_ble_eq_true rfl) d_Law_law_658 ⟨by show C + 2 + 0 + 0 ≤ 601024; omega, by show S + 12 + 0 + 0 ≤ 7293000; omega⟩) hW (fun r9 u9 H locs hp hW => ?_)
      obtain ⟨hp1, hp2⟩ := hp
      have hp1 := hp1.symm; subst hp1
      have hp2 := hp2.symm; subst hp2
      refine lv_iload hx hb d_Law_law_661 (lv_at hl 1 rfl) ?_
      refine lv_icmp_eq (tgt := 668) hx hb d_Law_law_663 (by decide) (fun c_9 => ?_) (fun c_9 => ?_)
      · skip
        refine lv_iload hx hb d_Law_law_668 (lv_at hl 1 rfl) ?_
        refine lv_if_ne (tgt := 692) hx hb d_Law_law_670 (by decide) (fun c_10 => ?_) (fun c_10 => ?_)
        · skip
          refine lv_goto (tgt := 1199) hx hb d_Law_law_692 (by decide) ?_
          refine W.widen (show C + 2 + 0 + 0 ≤ C + 21 by omega) (show S + 12 + 0 + 0 ≤ S + 638 by omega) ?_
          exact K _ _ _ _ hW (CR_m (by omega) hs3) (lv_sub hl [2, 3, 4, 5, 6] rfl)
        · skip
          refine lv_aload_n hx hb d_Law_law_673 rfl (lv_at hl 3 rfl) ?_
          refine lv_iconst (v := 0) hx hb d_Law_law_674 (by decide) ?_
          refine e_jald hx hb hK hW (F_Out G hG h9) (j := 0) (by decide) rfl d_Law_law_675 ?_
          refine lv_iload hx hb d_Law_law_676 (lv_at hl 0 rfl) ?_
          refine lv_if_eq (tgt := 685) hx hb d_Law_law_678 (by decide) (fun c_11 => ?_) (fun c_11 => ?_)
          · skip
            refine lv_lconst (v := 0) hx hb d_Law_law_685 (by decide) ?_
            refine W.lcmp hx hb d_Law_law_686 ?_
            refine lv_if_eq (tgt := 692) hx hb d_Law_law_687 (by decide) (fun c_12 => ?_) (fun c_12 => ?_)
            · skip
              refine lv_goto (tgt := 1199) hx hb d_Law_law_692 (by decide) ?_
              refine W.widen (show C + 2 + 0 + 0 ≤ C + 21 by omega) (show S + 12 + 0 + 0 ≤ S + 638 by omega) ?_
              exact K _ _ _ _ hW (CR_m (by omega) hs3) (lv_sub hl [2, 3, 4, 5, 6] rfl)
            · skip
              exact (lc_deadz (hs2 c_10) (by rw [c_11]; rfl) c_12).elim
          · skip
            refine lv_lconst (v := 1) hx hb d_Law_law_681 (by decide) ?_
            refine lv_goto (tgt := 686) hx hb d_Law_law_682 (by decide) ?_
            refine W.lcmp hx hb d_Law_law_686 ?_
            refine lv_if_eq (tgt := 692) hx hb d_Law_law_687 (by decide) (fun c_13 => ?_) (fun c_13 => ?_)
            · skip
              refine lv_goto (tgt := 1199) hx hb d_Law_law_692 (by decide) ?_
              refine W.widen (show C + 2 + 0 + 0 ≤ C + 21 by omega) (show S + 12 + 0 + 0 ≤ S + 638 by omega) ?_
              exact K _ _ _ _ hW (CR_m (by omega) hs3) (lv_sub hl [2, 3, 4, 5, 6] rfl)
            · skip
              exact (lc_deadz (hs2 c_10) (by rw [(hr01 c_10).resolve_left c_11]; rfl) c_13).elim
      · skip
        exact absurd hs1 c_9
set_option maxHeartbeats 4000000 in
set_option maxRecDepth 100000 in
theorem lc_text {p : Program} {l : Launch} {e : Env} {s : State} {m : MethodId} {below : List Frame} {meth : Method} {c : Code} {Q : State → Prop} {G : GT} {b L : Nat} {xs : Nat → Int32} (X : LX l G b L xs p s m meth c) {D : DD} {H : Heap} {locs : List Loc} {ls : Array Slot} {i B C S : Nat} (hW : WD G s.heap D H locs) (hCR : CR (gn G) B D D) (hB9 : B < 9999) (hi : i + 5 ≤ L) (hl : lv_has ls 7 (LV G b i)) (hC : C + 21 ≤ 601024) (hS : S + 638 ≤ 7293000)
    (K : ∀ (H : Heap) (locs : List Loc) (ls : Array Slot) (D : DD), WD G s.heap D H locs → CR (gn G) (B + 2) D D → lv_has ls 7 (LV G b i) → W p l e room_1 s m #[Value.ref b] below meth c H locs (C + 21) (S + 638) Q (F0 m 1199 ls [])) : W p l e room_1 s m #[Value.ref b] below meth c H locs C S Q (F0 m 695 ls []) := by
  obtain ⟨hx, hb, hml, hown, hts, hE, hbs, hX, hbl, hbA, hG, h9, hst, hL⟩ := X
  have hK := hE.1
  have hl : lv_has ls 7 [(4, .int (nI i)), (3, .ref (gad G 9)), (2, .ref (gad G 600)), (1, .ref (gad G 0)), (0, .ref b)] := hl
  refine lv_aload_n hx hb d_Law_law_695 rfl (lv_at hl 3 rfl) ?_
  refine lv_aload_n hx hb d_Law_law_696 rfl (lv_at hl 4 rfl) ?_
  refine lv_iload hx hb d_Law_law_697 (lv_at hl 0 rfl) ?_
  refine lv_iconst (v := 1) hx hb d_Law_law_699 (by decide) ?_
  refine lv_iadd hx hb d_Law_law_700 ?_
  refine e_top (v := nI (i + 1)) (nI_add (i) (1)) ?_
  refine va_sld hx hb hX hbl hbA hW.2.2 (vp_in_nI (n := i + 1) (show i + 1 < L by omega) (by omega)) d_Law_law_701 ?_
  refine e_top (v := xs (i + 1)) (by rw [nI_clamp (show i + 1 < 2 ^ 31 by omega)]) ?_
  refine lv_aload_n hx hb d_Law_law_702 rfl (lv_at hl 4 rfl) ?_
  refine lv_iload hx hb d_Law_law_703 (lv_at hl 0 rfl) ?_
  refine lv_iconst (v := 2) hx hb d_Law_law_705 (by decide) ?_
  refine lv_iadd hx hb d_Law_law_706 ?_
  refine e_top (v := nI (i + 2)) (nI_add (i) (2)) ?_
  refine va_sld hx hb hX hbl hbA hW.2.2 (vp_in_nI (n := i + 2) (show i + 2 < L by omega) (by omega)) d_Law_law_707 ?_
  refine e_top (v := xs (i + 2)) (by rw [nI_clamp (show i + 2 < 2 ^ 31 by omega)]) ?_
  refine lv_aload_n hx hb d_Law_law_708 rfl (lv_at hl 1 rfl) ?_
  refine e_ci (e_runSW hx hb hml hown hts hE hbs hW (c_L_text l hst G hG h9 D (xs (i + 1)) (xs (i + 2)) (CR_net hCR) (CR_tx hB9 hCR)) kw_696 kw_697 kw_635 kw_695 rfl rfl hd_Law_text ⟨Nat.le_of_ble_eq_true rfl, Nat.le_of_ble_eq_true rfl⟩ (As := [.ref (gad G 0), .int (xs (i + 1)), .int (xs (i + 2)), .ref (gad G 9)]) (rest := []) rfl hl.1 rfl (Nat.le_of_ble_eq_true rfl) d_Law_law_709 ⟨by show C + 21 ≤ 601024; omega, by show S + 638 ≤ 7293000; omega⟩) hW (fun k D1 H locs hw hW => ?_)
  have hC1 := C1_ro (xc := xcT) hCR hw
  refine lv_istore (lv' := [(5, .int (k)), (4, .int (nI i)), (3, .ref (gad G (9))), (2, .ref (gad G (600))), (1, .ref (gad G (0))), (0, .ref b)]) hx hb d_Law_law_712 hl (by decide) rfl (fun ls hl => ?_)
  refine lv_aload_n hx hb d_Law_law_714 rfl (lv_at hl 3 rfl) ?_
  refine lv_aload_n hx hb d_Law_law_715 rfl (lv_at hl 5 rfl) ?_
  refine lv_iload hx hb d_Law_law_716 (lv_at hl 1 rfl) ?_
  refine lv_iconst (v := 1) hx hb d_Law_law_718 (by decide) ?_
  refine lv_iadd hx hb d_Law_law_719 ?_
  refine e_top (v := nI (i + 1)) (nI_add (i) (1)) ?_
  refine va_sld hx hb hX hbl hbA hW.2.2 (vp_in_nI (n := i + 1) (show i + 1 < L by omega) (by omega)) d_Law_law_720 ?_
  refine e_top (v := xs (i + 1)) (by rw [nI_clamp (show i + 1 < 2 ^ 31 by omega)]) ?_
  refine lv_aload_n hx hb d_Law_law_721 rfl (lv_at hl 5 rfl) ?_
  refine lv_iload hx hb d_Law_law_722 (lv_at hl 1 rfl) ?_
  refine lv_iconst (v := 2) hx hb d_Law_law_724 (by decide) ?_
  refine lv_iadd hx hb d_Law_law_725 ?_
  refine e_top (v := nI (i + 2)) (nI_add (i) (2)) ?_
  refine va_sld hx hb hX hbl hbA hW.2.2 (vp_in_nI (n := i + 2) (show i + 2 < L by omega) (by omega)) d_Law_law_726 ?_
  refine e_top (v := xs (i + 2)) (by rw [nI_clamp (show i + 2 < 2 ^ 31 by omega)]) ?_
  refine e_ci (e_runV hx hb hml hown hts hE hbs hW (F_Mo G hG) rfl (c_M_text l G hG D1 (xs (i + 1)) (xs (i + 2)) (CR_MN hC1) (CR_mtx hB9 hC1)) kw_699 kw_700 kw_701 kw_412 kw_698 rfl rfl hd_Mo_text ⟨Nat.le_of_ble_eq_true rfl, Nat.le_of_ble_eq_true rfl⟩ (As := [.int (xs (i + 1)), .int (xs (i + 2))]) (rest := []) rfl hl.1 rfl (Nat.le_of_ble_eq_true rfl) d_Law_law_727 ⟨by show C + 21 + 0 ≤ 601024; omega, by show S + 638 + 0 ≤ 7293000; omega⟩) hW (fun r u H locs hm hW => ?_)
  obtain ⟨hs1, hs2, hs3⟩ := St_ro (xc := xcT) hCR rfl xcT_s hw (fun q => ⟨(A_text hB9 q (xs (i + 1)) (xs (i + 2))).1, fun h0 => ((A_text hB9 q (xs (i + 1)) (xs (i + 2))).2 h0)⟩) hm
  refine lv_istore (lv' := [(6, .int (r)), (5, .int (k)), (4, .int (nI i)), (3, .ref (gad G (9))), (2, .ref (gad G (600))), (1, .ref (gad G (0))), (0, .ref b)]) hx hb d_Law_law_730 hl (by decide) rfl (fun ls hl => ?_)
  refine lv_aload_n hx hb d_Law_law_732 rfl (lv_at hl 4 rfl) ?_
  refine e_ci (e_runV hx hb hml hown hts hE hbs hW (F_Mo G hG) rfl (c_M_thrown l G hG u  ) kw_643 kw_644 kw_645 kw_412 kw_642 rfl rfl hd_Mo_thrown ⟨Nat.le_of_ble_eq_true rfl, Nat.le_of_ble_eq_true rfl⟩ (As := []) (rest := []) rfl hl.1 rfl (Nat.le_of_ble_eq_true rfl) d_Law_law_733 ⟨by show C + 21 + 0 + 0 ≤ 601024; omega, by show S + 638 + 0 + 0 ≤ 7293000; omega⟩) hW (fun r9 u9 H locs hp hW => ?_)
  obtain ⟨hp1, hp2⟩ := hp
  have hp1 := hp1.symm; subst hp1
  have hp2 := hp2.symm; subst hp2
  refine lv_iload hx hb d_Law_law_736 (lv_at hl 1 rfl) ?_
  refine lv_icmp_eq (tgt := 743) hx hb d_Law_law_738 (by decide) (fun c_1 => ?_) (fun c_1 => ?_)
  · skip
    refine lv_iload hx hb d_Law_law_743 (lv_at hl 1 rfl) ?_
    refine lv_if_ne (tgt := 760) hx hb d_Law_law_745 (by decide) (fun c_2 => ?_) (fun c_2 => ?_)
    · skip
      refine lv_goto (tgt := 1199) hx hb d_Law_law_760 (by decide) ?_
      refine W.widen (show C + 21 + 0 + 0 ≤ C + 21 by omega) (show S + 638 + 0 + 0 ≤ S + 638 by omega) ?_
      exact K _ _ _ _ hW (CR_m (by omega) hs3) (lv_sub hl [2, 3, 4, 5, 6] rfl)
    · skip
      refine lv_aload_n hx hb d_Law_law_748 rfl (lv_at hl 3 rfl) ?_
      refine lv_iconst (v := 0) hx hb d_Law_law_749 (by decide) ?_
      refine e_jald hx hb hK hW (F_Out G hG h9) (j := 0) (by decide) rfl d_Law_law_750 ?_
      refine lv_iload hx hb d_Law_law_751 (lv_at hl 0 rfl) ?_
      refine lv_i2l hx hb d_Law_law_753 rfl ?_
      refine W.lcmp hx hb d_Law_law_754 ?_
      refine lv_if_eq (tgt := 760) hx hb d_Law_law_755 (by decide) (fun c_3 => ?_) (fun c_3 => ?_)
      · skip
        refine lv_goto (tgt := 1199) hx hb d_Law_law_760 (by decide) ?_
        refine W.widen (show C + 21 + 0 + 0 ≤ C + 21 by omega) (show S + 638 + 0 + 0 ≤ S + 638 by omega) ?_
        exact K _ _ _ _ hW (CR_m (by omega) hs3) (lv_sub hl [2, 3, 4, 5, 6] rfl)
      · skip
        exact (lc_dead (hs2 c_2) c_3).elim
  · skip
    exact absurd hs1 c_1
set_option maxHeartbeats 4000000 in
set_option maxRecDepth 100000 in
theorem lc_value {p : Program} {l : Launch} {e : Env} {s : State} {m : MethodId} {below : List Frame} {meth : Method} {c : Code} {Q : State → Prop} {G : GT} {b L : Nat} {xs : Nat → Int32} (X : LX l G b L xs p s m meth c) {D : DD} {H : Heap} {locs : List Loc} {ls : Array Slot} {i B C S : Nat} (hW : WD G s.heap D H locs) (hCR : CR (gn G) B D D) (hB9 : B < 9999) (hi : i + 5 ≤ L) (hl : lv_has ls 7 (LV G b i)) (hC : C + 21 ≤ 601024) (hS : S + 638 ≤ 7293000)
    (K : ∀ (H : Heap) (locs : List Loc) (ls : Array Slot) (D : DD), WD G s.heap D H locs → CR (gn G) (B + 2) D D → lv_has ls 7 (LV G b i) → W p l e room_1 s m #[Value.ref b] below meth c H locs (C + 21) (S + 638) Q (F0 m 1199 ls [])) : W p l e room_1 s m #[Value.ref b] below meth c H locs C S Q (F0 m 763 ls []) := by
  obtain ⟨hx, hb, hml, hown, hts, hE, hbs, hX, hbl, hbA, hG, h9, hst, hL⟩ := X
  have hK := hE.1
  have hl : lv_has ls 7 [(4, .int (nI i)), (3, .ref (gad G 9)), (2, .ref (gad G 600)), (1, .ref (gad G 0)), (0, .ref b)] := hl
  refine lv_aload_n hx hb d_Law_law_763 rfl (lv_at hl 3 rfl) ?_
  refine lv_aload_n hx hb d_Law_law_764 rfl (lv_at hl 4 rfl) ?_
  refine lv_iload hx hb d_Law_law_765 (lv_at hl 0 rfl) ?_
  refine lv_iconst (v := 1) hx hb d_Law_law_767 (by decide) ?_
  refine lv_iadd hx hb d_Law_law_768 ?_
  refine e_top (v := nI (i + 1)) (nI_add (i) (1)) ?_
  refine va_sld hx hb hX hbl hbA hW.2.2 (vp_in_nI (n := i + 1) (show i + 1 < L by omega) (by omega)) d_Law_law_769 ?_
  refine e_top (v := xs (i + 1)) (by rw [nI_clamp (show i + 1 < 2 ^ 31 by omega)]) ?_
  refine lv_aload_n hx hb d_Law_law_770 rfl (lv_at hl 4 rfl) ?_
  refine lv_iload hx hb d_Law_law_771 (lv_at hl 0 rfl) ?_
  refine lv_iconst (v := 2) hx hb d_Law_law_773 (by decide) ?_
  refine lv_iadd hx hb d_Law_law_774 ?_
  refine e_top (v := nI (i + 2)) (nI_add (i) (2)) ?_
  refine va_sld hx hb hX hbl hbA hW.2.2 (vp_in_nI (n := i + 2) (show i + 2 < L by omega) (by omega)) d_Law_law_775 ?_
  refine e_top (v := xs (i + 2)) (by rw [nI_clamp (show i + 2 < 2 ^ 31 by omega)]) ?_
  refine lv_aload_n hx hb d_Law_law_776 rfl (lv_at hl 1 rfl) ?_
  refine e_ci (e_runSW hx hb hml hown hts hE hbs hW (c_L_value l hst G hG h9 D (xs (i + 1)) (xs (i + 2)) ) kw_703 kw_704 kw_635 kw_702 rfl rfl hd_Law_value ⟨Nat.le_of_ble_eq_true rfl, Nat.le_of_ble_eq_true rfl⟩ (As := [.ref (gad G 0), .int (xs (i + 1)), .int (xs (i + 2)), .ref (gad G 9)]) (rest := []) rfl hl.1 rfl (Nat.le_of_ble_eq_true rfl) d_Law_law_777 ⟨by show C + 2 ≤ 601024; omega, by show S + 12 ≤ 7293000; omega⟩) hW (fun k D1 H locs hw hW => ?_)
  have hC1 := C1_ro (xc := xc1) hCR hw
  refine lv_istore (lv' := [(5, .int (k)), (4, .int (nI i)), (3, .ref (gad G (9))), (2, .ref (gad G (600))), (1, .ref (gad G (0))), (0, .ref b)]) hx hb d_Law_law_780 hl (by decide) rfl (fun ls hl => ?_)
  refine lv_aload_n hx hb d_Law_law_782 rfl (lv_at hl 3 rfl) ?_
  refine lv_aload_n hx hb d_Law_law_783 rfl (lv_at hl 5 rfl) ?_
  refine lv_iload hx hb d_Law_law_784 (lv_at hl 1 rfl) ?_
  refine lv_iconst (v := 1) hx hb d_Law_law_786 (by decide) ?_
  refine lv_iadd hx hb d_Law_law_787 ?_
  refine e_top (v := nI (i + 1)) (nI_add (i) (1)) ?_
  refine va_sld hx hb hX hbl hbA hW.2.2 (vp_in_nI (n := i + 1) (show i + 1 < L by omega) (by omega)) d_Law_law_788 ?_
  refine e_top (v := xs (i + 1)) (by rw [nI_clamp (show i + 1 < 2 ^ 31 by omega)]) ?_
  refine lv_aload_n hx hb d_Law_law_789 rfl (lv_at hl 5 rfl) ?_
  refine lv_iload hx hb d_Law_law_790 (lv_at hl 1 rfl) ?_
  refine lv_iconst (v := 2) hx hb d_Law_law_792 (by decide) ?_
  refine lv_iadd hx hb d_Law_law_793 ?_
  refine e_top (v := nI (i + 2)) (nI_add (i) (2)) ?_
  refine va_sld hx hb hX hbl hbA hW.2.2 (vp_in_nI (n := i + 2) (show i + 2 < L by omega) (by omega)) d_Law_law_794 ?_
  refine e_top (v := xs (i + 2)) (by rw [nI_clamp (show i + 2 < 2 ^ 31 by omega)]) ?_
  refine e_ci (e_runV hx hb hml hown hts hE hbs hW (F_Mo G hG) rfl (c_M_value l G hG D1 (xs (i + 1)) (xs (i + 2)) ) kw_706 kw_707 kw_708 kw_412 kw_705 rfl rfl hd_Mo_value ⟨Nat.le_of_ble_eq_true rfl, Nat.le_of_ble_eq_true rfl⟩ (As := [.int (xs (i + 1)), .int (xs (i + 2))]) (rest := []) rfl hl.1 rfl (Nat.le_of_ble_eq_true rfl) d_Law_law_795 ⟨by show C + 2 + 0 ≤ 601024; omega, by show S + 12 + 0 ≤ 7293000; omega⟩) hW (fun r u H locs hm hW => ?_)
  obtain ⟨hs1, hs2, hs3⟩ := St_ro (xc := xc1) hCR rfl xc1_s hw (fun q => ⟨(A_value q (xs (i + 1)) (xs (i + 2))).1, fun h0 => ((A_value q (xs (i + 1)) (xs (i + 2))).2 h0).1⟩) hm
  refine lv_istore (lv' := [(6, .int (r)), (5, .int (k)), (4, .int (nI i)), (3, .ref (gad G (9))), (2, .ref (gad G (600))), (1, .ref (gad G (0))), (0, .ref b)]) hx hb d_Law_law_798 hl (by decide) rfl (fun ls hl => ?_)
  refine lv_aload_n hx hb d_Law_law_800 rfl (lv_at hl 4 rfl) ?_
  refine e_ci (e_runV hx hb hml hown hts hE hbs hW (F_Mo G hG) rfl (c_M_thrown l G hG u  ) kw_643 kw_644 kw_645 kw_412 kw_642 rfl rfl hd_Mo_thrown ⟨Nat.le_of_ble_eq_true rfl, Nat.le_of_ble_eq_true rfl⟩ (As := []) (rest := []) rfl hl.1 rfl (Nat.le_of_ble_eq_true rfl) d_Law_law_801 ⟨by show C + 2 + 0 + 0 ≤ 601024; omega, by show S + 12 + 0 + 0 ≤ 7293000; omega⟩) hW (fun r9 u9 H locs hp hW => ?_)
  obtain ⟨hp1, hp2⟩ := hp
  have hp1 := hp1.symm; subst hp1
  have hp2 := hp2.symm; subst hp2
  refine lv_iload hx hb d_Law_law_804 (lv_at hl 1 rfl) ?_
  refine lv_icmp_eq (tgt := 811) hx hb d_Law_law_806 (by decide) (fun c_1 => ?_) (fun c_1 => ?_)
  · skip
    refine lv_iload hx hb d_Law_law_811 (lv_at hl 1 rfl) ?_
    refine lv_if_ne (tgt := 828) hx hb d_Law_law_813 (by decide) (fun c_2 => ?_) (fun c_2 => ?_)
    · skip
      refine lv_goto (tgt := 1199) hx hb d_Law_law_828 (by decide) ?_
      refine W.widen (show C + 2 + 0 + 0 ≤ C + 21 by omega) (show S + 12 + 0 + 0 ≤ S + 638 by omega) ?_
      exact K _ _ _ _ hW (CR_m (by omega) hs3) (lv_sub hl [2, 3, 4, 5, 6] rfl)
    · skip
      refine lv_aload_n hx hb d_Law_law_816 rfl (lv_at hl 3 rfl) ?_
      refine lv_iconst (v := 0) hx hb d_Law_law_817 (by decide) ?_
      refine e_jald hx hb hK hW (F_Out G hG h9) (j := 0) (by decide) rfl d_Law_law_818 ?_
      refine lv_iload hx hb d_Law_law_819 (lv_at hl 0 rfl) ?_
      refine lv_i2l hx hb d_Law_law_821 rfl ?_
      refine W.lcmp hx hb d_Law_law_822 ?_
      refine lv_if_eq (tgt := 828) hx hb d_Law_law_823 (by decide) (fun c_3 => ?_) (fun c_3 => ?_)
      · skip
        refine lv_goto (tgt := 1199) hx hb d_Law_law_828 (by decide) ?_
        refine W.widen (show C + 2 + 0 + 0 ≤ C + 21 by omega) (show S + 12 + 0 + 0 ≤ S + 638 by omega) ?_
        exact K _ _ _ _ hW (CR_m (by omega) hs3) (lv_sub hl [2, 3, 4, 5, 6] rfl)
      · skip
        exact (lc_dead (hs2 c_2) c_3).elim
  · skip
    exact absurd hs1 c_1
set_option maxHeartbeats 4000000 in
set_option maxRecDepth 100000 in
theorem lc_lock {p : Program} {l : Launch} {e : Env} {s : State} {m : MethodId} {below : List Frame} {meth : Method} {c : Code} {Q : State → Prop} {G : GT} {b L : Nat} {xs : Nat → Int32} (X : LX l G b L xs p s m meth c) {D : DD} {H : Heap} {locs : List Loc} {ls : Array Slot} {i B C S : Nat} (hW : WD G s.heap D H locs) (hCR : CR (gn G) B D D) (hB9 : B < 9999) (hi : i + 5 ≤ L) (hl : lv_has ls 7 (LV G b i)) (hC : C + 21 ≤ 601024) (hS : S + 638 ≤ 7293000)
    (K : ∀ (H : Heap) (locs : List Loc) (ls : Array Slot) (D : DD), WD G s.heap D H locs → CR (gn G) (B + 2) D D → lv_has ls 7 (LV G b i) → W p l e room_1 s m #[Value.ref b] below meth c H locs (C + 21) (S + 638) Q (F0 m 1199 ls [])) : W p l e room_1 s m #[Value.ref b] below meth c H locs C S Q (F0 m 831 ls []) := by
  obtain ⟨hx, hb, hml, hown, hts, hE, hbs, hX, hbl, hbA, hG, h9, hst, hL⟩ := X
  have hK := hE.1
  have hl : lv_has ls 7 [(4, .int (nI i)), (3, .ref (gad G 9)), (2, .ref (gad G 600)), (1, .ref (gad G 0)), (0, .ref b)] := hl
  refine lv_aload_n hx hb d_Law_law_831 rfl (lv_at hl 3 rfl) ?_
  refine lv_aload_n hx hb d_Law_law_832 rfl (lv_at hl 4 rfl) ?_
  refine lv_iload hx hb d_Law_law_833 (lv_at hl 0 rfl) ?_
  refine lv_iconst (v := 1) hx hb d_Law_law_835 (by decide) ?_
  refine lv_iadd hx hb d_Law_law_836 ?_
  refine e_top (v := nI (i + 1)) (nI_add (i) (1)) ?_
  refine va_sld hx hb hX hbl hbA hW.2.2 (vp_in_nI (n := i + 1) (show i + 1 < L by omega) (by omega)) d_Law_law_837 ?_
  refine e_top (v := xs (i + 1)) (by rw [nI_clamp (show i + 1 < 2 ^ 31 by omega)]) ?_
  refine lv_aload_n hx hb d_Law_law_838 rfl (lv_at hl 4 rfl) ?_
  refine lv_iload hx hb d_Law_law_839 (lv_at hl 0 rfl) ?_
  refine lv_iconst (v := 2) hx hb d_Law_law_841 (by decide) ?_
  refine lv_iadd hx hb d_Law_law_842 ?_
  refine e_top (v := nI (i + 2)) (nI_add (i) (2)) ?_
  refine va_sld hx hb hX hbl hbA hW.2.2 (vp_in_nI (n := i + 2) (show i + 2 < L by omega) (by omega)) d_Law_law_843 ?_
  refine e_top (v := xs (i + 2)) (by rw [nI_clamp (show i + 2 < 2 ^ 31 by omega)]) ?_
  refine lv_aload_n hx hb d_Law_law_844 rfl (lv_at hl 1 rfl) ?_
  refine e_ci (e_runSW hx hb hml hown hts hE hbs hW (c_L_lock l hst G hG h9 D (xs (i + 1)) (xs (i + 2)) ) kw_710 kw_711 kw_635 kw_709 rfl rfl hd_Law_lock ⟨Nat.le_of_ble_eq_true rfl, Nat.le_of_ble_eq_true rfl⟩ (As := [.ref (gad G 0), .int (xs (i + 1)), .int (xs (i + 2)), .ref (gad G 9)]) (rest := []) rfl hl.1 rfl (Nat.le_of_ble_eq_true rfl) d_Law_law_845 ⟨by show C + 2 ≤ 601024; omega, by show S + 12 ≤ 7293000; omega⟩) hW (fun k D1 H locs hw hW => ?_)
  have hC1 := C1_ro (xc := xc1) hCR hw
  refine lv_istore (lv' := [(5, .int (k)), (4, .int (nI i)), (3, .ref (gad G (9))), (2, .ref (gad G (600))), (1, .ref (gad G (0))), (0, .ref b)]) hx hb d_Law_law_848 hl (by decide) rfl (fun ls hl => ?_)
  refine lv_aload_n hx hb d_Law_law_850 rfl (lv_at hl 3 rfl) ?_
  refine lv_aload_n hx hb d_Law_law_851 rfl (lv_at hl 5 rfl) ?_
  refine lv_iload hx hb d_Law_law_852 (lv_at hl 1 rfl) ?_
  refine lv_iconst (v := 1) hx hb d_Law_law_854 (by decide) ?_
  refine lv_iadd hx hb d_Law_law_855 ?_
  refine e_top (v := nI (i + 1)) (nI_add (i) (1)) ?_
  refine va_sld hx hb hX hbl hbA hW.2.2 (vp_in_nI (n := i + 1) (show i + 1 < L by omega) (by omega)) d_Law_law_856 ?_
  refine e_top (v := xs (i + 1)) (by rw [nI_clamp (show i + 1 < 2 ^ 31 by omega)]) ?_
  refine lv_aload_n hx hb d_Law_law_857 rfl (lv_at hl 5 rfl) ?_
  refine lv_iload hx hb d_Law_law_858 (lv_at hl 1 rfl) ?_
  refine lv_iconst (v := 2) hx hb d_Law_law_860 (by decide) ?_
  refine lv_iadd hx hb d_Law_law_861 ?_
  refine e_top (v := nI (i + 2)) (nI_add (i) (2)) ?_
  refine va_sld hx hb hX hbl hbA hW.2.2 (vp_in_nI (n := i + 2) (show i + 2 < L by omega) (by omega)) d_Law_law_862 ?_
  refine e_top (v := xs (i + 2)) (by rw [nI_clamp (show i + 2 < 2 ^ 31 by omega)]) ?_
  refine e_ci (e_runV hx hb hml hown hts hE hbs hW (F_Mo G hG) rfl (c_M_lock l G hG D1 (xs (i + 1)) (xs (i + 2)) ) kw_713 kw_714 kw_715 kw_412 kw_712 rfl rfl hd_Mo_lock ⟨Nat.le_of_ble_eq_true rfl, Nat.le_of_ble_eq_true rfl⟩ (As := [.int (xs (i + 1)), .int (xs (i + 2))]) (rest := []) rfl hl.1 rfl (Nat.le_of_ble_eq_true rfl) d_Law_law_863 ⟨by show C + 2 + 0 ≤ 601024; omega, by show S + 12 + 0 ≤ 7293000; omega⟩) hW (fun r u H locs hm hW => ?_)
  obtain ⟨hs1, hs2, hs3⟩ := St_ro (xc := xc1) hCR rfl xc1_s hw (fun q => ⟨(A_value q (xs (i + 1)) (xs (i + 2))).1, fun h0 => ((A_value q (xs (i + 1)) (xs (i + 2))).2 h0).2⟩) hm
  refine lv_istore (lv' := [(6, .int (r)), (5, .int (k)), (4, .int (nI i)), (3, .ref (gad G (9))), (2, .ref (gad G (600))), (1, .ref (gad G (0))), (0, .ref b)]) hx hb d_Law_law_866 hl (by decide) rfl (fun ls hl => ?_)
  refine lv_aload_n hx hb d_Law_law_868 rfl (lv_at hl 4 rfl) ?_
  refine e_ci (e_runV hx hb hml hown hts hE hbs hW (F_Mo G hG) rfl (c_M_thrown l G hG u  ) kw_643 kw_644 kw_645 kw_412 kw_642 rfl rfl hd_Mo_thrown ⟨Nat.le_of_ble_eq_true rfl, Nat.le_of_ble_eq_true rfl⟩ (As := []) (rest := []) rfl hl.1 rfl (Nat.le_of_ble_eq_true rfl) d_Law_law_869 ⟨by show C + 2 + 0 + 0 ≤ 601024; omega, by show S + 12 + 0 + 0 ≤ 7293000; omega⟩) hW (fun r9 u9 H locs hp hW => ?_)
  obtain ⟨hp1, hp2⟩ := hp
  have hp1 := hp1.symm; subst hp1
  have hp2 := hp2.symm; subst hp2
  refine lv_iload hx hb d_Law_law_872 (lv_at hl 1 rfl) ?_
  refine lv_icmp_eq (tgt := 879) hx hb d_Law_law_874 (by decide) (fun c_1 => ?_) (fun c_1 => ?_)
  · skip
    refine lv_iload hx hb d_Law_law_879 (lv_at hl 1 rfl) ?_
    refine lv_if_ne (tgt := 896) hx hb d_Law_law_881 (by decide) (fun c_2 => ?_) (fun c_2 => ?_)
    · skip
      refine lv_goto (tgt := 1199) hx hb d_Law_law_896 (by decide) ?_
      refine W.widen (show C + 2 + 0 + 0 ≤ C + 21 by omega) (show S + 12 + 0 + 0 ≤ S + 638 by omega) ?_
      exact K _ _ _ _ hW (CR_m (by omega) hs3) (lv_sub hl [2, 3, 4, 5, 6] rfl)
    · skip
      refine lv_aload_n hx hb d_Law_law_884 rfl (lv_at hl 3 rfl) ?_
      refine lv_iconst (v := 0) hx hb d_Law_law_885 (by decide) ?_
      refine e_jald hx hb hK hW (F_Out G hG h9) (j := 0) (by decide) rfl d_Law_law_886 ?_
      refine lv_iload hx hb d_Law_law_887 (lv_at hl 0 rfl) ?_
      refine lv_i2l hx hb d_Law_law_889 rfl ?_
      refine W.lcmp hx hb d_Law_law_890 ?_
      refine lv_if_eq (tgt := 896) hx hb d_Law_law_891 (by decide) (fun c_3 => ?_) (fun c_3 => ?_)
      · skip
        refine lv_goto (tgt := 1199) hx hb d_Law_law_896 (by decide) ?_
        refine W.widen (show C + 2 + 0 + 0 ≤ C + 21 by omega) (show S + 12 + 0 + 0 ≤ S + 638 by omega) ?_
        exact K _ _ _ _ hW (CR_m (by omega) hs3) (lv_sub hl [2, 3, 4, 5, 6] rfl)
      · skip
        exact (lc_dead (hs2 c_2) c_3).elim
  · skip
    exact absurd hs1 c_1
set_option maxHeartbeats 4000000 in
set_option maxRecDepth 100000 in
theorem lc_state {p : Program} {l : Launch} {e : Env} {s : State} {m : MethodId} {below : List Frame} {meth : Method} {c : Code} {Q : State → Prop} {G : GT} {b L : Nat} {xs : Nat → Int32} (X : LX l G b L xs p s m meth c) {D : DD} {H : Heap} {locs : List Loc} {ls : Array Slot} {i B C S : Nat} (hW : WD G s.heap D H locs) (hCR : CR (gn G) B D D) (hB9 : B < 9999) (hi : i + 5 ≤ L) (hl : lv_has ls 7 (LV G b i)) (hC : C + 21 ≤ 601024) (hS : S + 638 ≤ 7293000)
    (K : ∀ (H : Heap) (locs : List Loc) (ls : Array Slot) (D : DD), WD G s.heap D H locs → CR (gn G) (B + 2) D D → lv_has ls 7 (LV G b i) → W p l e room_1 s m #[Value.ref b] below meth c H locs (C + 21) (S + 638) Q (F0 m 1199 ls [])) : W p l e room_1 s m #[Value.ref b] below meth c H locs C S Q (F0 m 899 ls []) := by
  obtain ⟨hx, hb, hml, hown, hts, hE, hbs, hX, hbl, hbA, hG, h9, hst, hL⟩ := X
  have hK := hE.1
  have hl : lv_has ls 7 [(4, .int (nI i)), (3, .ref (gad G 9)), (2, .ref (gad G 600)), (1, .ref (gad G 0)), (0, .ref b)] := hl
  refine lv_aload_n hx hb d_Law_law_899 rfl (lv_at hl 3 rfl) ?_
  refine lv_aload_n hx hb d_Law_law_900 rfl (lv_at hl 4 rfl) ?_
  refine lv_iload hx hb d_Law_law_901 (lv_at hl 0 rfl) ?_
  refine lv_iconst (v := 1) hx hb d_Law_law_903 (by decide) ?_
  refine lv_iadd hx hb d_Law_law_904 ?_
  refine e_top (v := nI (i + 1)) (nI_add (i) (1)) ?_
  refine va_sld hx hb hX hbl hbA hW.2.2 (vp_in_nI (n := i + 1) (show i + 1 < L by omega) (by omega)) d_Law_law_905 ?_
  refine e_top (v := xs (i + 1)) (by rw [nI_clamp (show i + 1 < 2 ^ 31 by omega)]) ?_
  refine lv_aload_n hx hb d_Law_law_906 rfl (lv_at hl 4 rfl) ?_
  refine lv_iload hx hb d_Law_law_907 (lv_at hl 0 rfl) ?_
  refine lv_iconst (v := 2) hx hb d_Law_law_909 (by decide) ?_
  refine lv_iadd hx hb d_Law_law_910 ?_
  refine e_top (v := nI (i + 2)) (nI_add (i) (2)) ?_
  refine va_sld hx hb hX hbl hbA hW.2.2 (vp_in_nI (n := i + 2) (show i + 2 < L by omega) (by omega)) d_Law_law_911 ?_
  refine e_top (v := xs (i + 2)) (by rw [nI_clamp (show i + 2 < 2 ^ 31 by omega)]) ?_
  refine lv_aload_n hx hb d_Law_law_912 rfl (lv_at hl 1 rfl) ?_
  refine e_ci (e_runSW hx hb hml hown hts hE hbs hW (c_L_state l hst G hG h9 D (xs (i + 1)) (xs (i + 2)) ) kw_717 kw_718 kw_635 kw_716 rfl rfl hd_Law_state ⟨Nat.le_of_ble_eq_true rfl, Nat.le_of_ble_eq_true rfl⟩ (As := [.ref (gad G 0), .int (xs (i + 1)), .int (xs (i + 2)), .ref (gad G 9)]) (rest := []) rfl hl.1 rfl (Nat.le_of_ble_eq_true rfl) d_Law_law_913 ⟨by show C + 3 ≤ 601024; omega, by show S + 18 ≤ 7293000; omega⟩) hW (fun k D1 H locs hw hW => ?_)
  have hC1 := C1_ro (xc := xc4) hCR hw
  refine lv_istore (lv' := [(5, .int (k)), (4, .int (nI i)), (3, .ref (gad G (9))), (2, .ref (gad G (600))), (1, .ref (gad G (0))), (0, .ref b)]) hx hb d_Law_law_916 hl (by decide) rfl (fun ls hl => ?_)
  refine lv_aload_n hx hb d_Law_law_918 rfl (lv_at hl 3 rfl) ?_
  refine lv_aload_n hx hb d_Law_law_919 rfl (lv_at hl 5 rfl) ?_
  refine lv_iload hx hb d_Law_law_920 (lv_at hl 1 rfl) ?_
  refine lv_iconst (v := 1) hx hb d_Law_law_922 (by decide) ?_
  refine lv_iadd hx hb d_Law_law_923 ?_
  refine e_top (v := nI (i + 1)) (nI_add (i) (1)) ?_
  refine va_sld hx hb hX hbl hbA hW.2.2 (vp_in_nI (n := i + 1) (show i + 1 < L by omega) (by omega)) d_Law_law_924 ?_
  refine e_top (v := xs (i + 1)) (by rw [nI_clamp (show i + 1 < 2 ^ 31 by omega)]) ?_
  refine lv_aload_n hx hb d_Law_law_925 rfl (lv_at hl 5 rfl) ?_
  refine lv_iload hx hb d_Law_law_926 (lv_at hl 1 rfl) ?_
  refine lv_iconst (v := 2) hx hb d_Law_law_928 (by decide) ?_
  refine lv_iadd hx hb d_Law_law_929 ?_
  refine e_top (v := nI (i + 2)) (nI_add (i) (2)) ?_
  refine va_sld hx hb hX hbl hbA hW.2.2 (vp_in_nI (n := i + 2) (show i + 2 < L by omega) (by omega)) d_Law_law_930 ?_
  refine e_top (v := xs (i + 2)) (by rw [nI_clamp (show i + 2 < 2 ^ 31 by omega)]) ?_
  refine e_ci (e_runV hx hb hml hown hts hE hbs hW (F_Mo G hG) rfl (c_M_state l G hG D1 (xs (i + 1)) (xs (i + 2)) ) kw_720 kw_721 kw_722 kw_412 kw_719 rfl rfl hd_Mo_state ⟨Nat.le_of_ble_eq_true rfl, Nat.le_of_ble_eq_true rfl⟩ (As := [.int (xs (i + 1)), .int (xs (i + 2))]) (rest := []) rfl hl.1 rfl (Nat.le_of_ble_eq_true rfl) d_Law_law_931 ⟨by show C + 3 + 0 ≤ 601024; omega, by show S + 18 + 0 ≤ 7293000; omega⟩) hW (fun r u H locs hm hW => ?_)
  obtain ⟨hs1, hs2, hs3⟩ := St_ro (xc := xc4) hCR rfl xc4_s hw (fun q => ⟨(A_state q (xs (i + 1)) (xs (i + 2))).1, fun h0 => ((A_state q (xs (i + 1)) (xs (i + 2))).2 h0)⟩) hm
  refine lv_istore (lv' := [(6, .int (r)), (5, .int (k)), (4, .int (nI i)), (3, .ref (gad G (9))), (2, .ref (gad G (600))), (1, .ref (gad G (0))), (0, .ref b)]) hx hb d_Law_law_934 hl (by decide) rfl (fun ls hl => ?_)
  refine lv_aload_n hx hb d_Law_law_936 rfl (lv_at hl 4 rfl) ?_
  refine e_ci (e_runV hx hb hml hown hts hE hbs hW (F_Mo G hG) rfl (c_M_thrown l G hG u  ) kw_643 kw_644 kw_645 kw_412 kw_642 rfl rfl hd_Mo_thrown ⟨Nat.le_of_ble_eq_true rfl, Nat.le_of_ble_eq_true rfl⟩ (As := []) (rest := []) rfl hl.1 rfl (Nat.le_of_ble_eq_true rfl) d_Law_law_937 ⟨by show C + 3 + 0 + 0 ≤ 601024; omega, by show S + 18 + 0 + 0 ≤ 7293000; omega⟩) hW (fun r9 u9 H locs hp hW => ?_)
  obtain ⟨hp1, hp2⟩ := hp
  have hp1 := hp1.symm; subst hp1
  have hp2 := hp2.symm; subst hp2
  refine lv_iload hx hb d_Law_law_940 (lv_at hl 1 rfl) ?_
  refine lv_icmp_eq (tgt := 947) hx hb d_Law_law_942 (by decide) (fun c_1 => ?_) (fun c_1 => ?_)
  · skip
    refine lv_iload hx hb d_Law_law_947 (lv_at hl 1 rfl) ?_
    refine lv_if_ne (tgt := 964) hx hb d_Law_law_949 (by decide) (fun c_2 => ?_) (fun c_2 => ?_)
    · skip
      refine lv_goto (tgt := 1199) hx hb d_Law_law_964 (by decide) ?_
      refine W.widen (show C + 3 + 0 + 0 ≤ C + 21 by omega) (show S + 18 + 0 + 0 ≤ S + 638 by omega) ?_
      exact K _ _ _ _ hW (CR_m (by omega) hs3) (lv_sub hl [2, 3, 4, 5, 6] rfl)
    · skip
      refine lv_aload_n hx hb d_Law_law_952 rfl (lv_at hl 3 rfl) ?_
      refine lv_iconst (v := 0) hx hb d_Law_law_953 (by decide) ?_
      refine e_jald hx hb hK hW (F_Out G hG h9) (j := 0) (by decide) rfl d_Law_law_954 ?_
      refine lv_iload hx hb d_Law_law_955 (lv_at hl 0 rfl) ?_
      refine lv_i2l hx hb d_Law_law_957 rfl ?_
      refine W.lcmp hx hb d_Law_law_958 ?_
      refine lv_if_eq (tgt := 964) hx hb d_Law_law_959 (by decide) (fun c_3 => ?_) (fun c_3 => ?_)
      · skip
        refine lv_goto (tgt := 1199) hx hb d_Law_law_964 (by decide) ?_
        refine W.widen (show C + 3 + 0 + 0 ≤ C + 21 by omega) (show S + 18 + 0 + 0 ≤ S + 638 by omega) ?_
        exact K _ _ _ _ hW (CR_m (by omega) hs3) (lv_sub hl [2, 3, 4, 5, 6] rfl)
      · skip
        exact (lc_dead (hs2 c_2) c_3).elim
  · skip
    exact absurd hs1 c_1
set_option maxHeartbeats 4000000 in
set_option maxRecDepth 100000 in
theorem lc_outcome {p : Program} {l : Launch} {e : Env} {s : State} {m : MethodId} {below : List Frame} {meth : Method} {c : Code} {Q : State → Prop} {G : GT} {b L : Nat} {xs : Nat → Int32} (X : LX l G b L xs p s m meth c) {D : DD} {H : Heap} {locs : List Loc} {ls : Array Slot} {i B C S : Nat} (hW : WD G s.heap D H locs) (hCR : CR (gn G) B D D) (hB9 : B < 9999) (hi : i + 5 ≤ L) (hl : lv_has ls 7 (LV G b i)) (hC : C + 21 ≤ 601024) (hS : S + 638 ≤ 7293000)
    (K : ∀ (H : Heap) (locs : List Loc) (ls : Array Slot) (D : DD), WD G s.heap D H locs → CR (gn G) (B + 2) D D → lv_has ls 7 (LV G b i) → W p l e room_1 s m #[Value.ref b] below meth c H locs (C + 21) (S + 638) Q (F0 m 1199 ls [])) : W p l e room_1 s m #[Value.ref b] below meth c H locs C S Q (F0 m 967 ls []) := by
  obtain ⟨hx, hb, hml, hown, hts, hE, hbs, hX, hbl, hbA, hG, h9, hst, hL⟩ := X
  have hK := hE.1
  have hl : lv_has ls 7 [(4, .int (nI i)), (3, .ref (gad G 9)), (2, .ref (gad G 600)), (1, .ref (gad G 0)), (0, .ref b)] := hl
  refine lv_aload_n hx hb d_Law_law_967 rfl (lv_at hl 3 rfl) ?_
  refine lv_aload_n hx hb d_Law_law_968 rfl (lv_at hl 4 rfl) ?_
  refine lv_iload hx hb d_Law_law_969 (lv_at hl 0 rfl) ?_
  refine lv_iconst (v := 1) hx hb d_Law_law_971 (by decide) ?_
  refine lv_iadd hx hb d_Law_law_972 ?_
  refine e_top (v := nI (i + 1)) (nI_add (i) (1)) ?_
  refine va_sld hx hb hX hbl hbA hW.2.2 (vp_in_nI (n := i + 1) (show i + 1 < L by omega) (by omega)) d_Law_law_973 ?_
  refine e_top (v := xs (i + 1)) (by rw [nI_clamp (show i + 1 < 2 ^ 31 by omega)]) ?_
  refine lv_aload_n hx hb d_Law_law_974 rfl (lv_at hl 4 rfl) ?_
  refine lv_iload hx hb d_Law_law_975 (lv_at hl 0 rfl) ?_
  refine lv_iconst (v := 2) hx hb d_Law_law_977 (by decide) ?_
  refine lv_iadd hx hb d_Law_law_978 ?_
  refine e_top (v := nI (i + 2)) (nI_add (i) (2)) ?_
  refine va_sld hx hb hX hbl hbA hW.2.2 (vp_in_nI (n := i + 2) (show i + 2 < L by omega) (by omega)) d_Law_law_979 ?_
  refine e_top (v := xs (i + 2)) (by rw [nI_clamp (show i + 2 < 2 ^ 31 by omega)]) ?_
  refine lv_aload_n hx hb d_Law_law_980 rfl (lv_at hl 1 rfl) ?_
  refine e_ci (e_runSW hx hb hml hown hts hE hbs hW (c_L_outcome l hst G hG h9 D (xs (i + 1)) (xs (i + 2)) ) kw_724 kw_725 kw_635 kw_723 rfl rfl hd_Law_outcome ⟨Nat.le_of_ble_eq_true rfl, Nat.le_of_ble_eq_true rfl⟩ (As := [.ref (gad G 0), .int (xs (i + 1)), .int (xs (i + 2)), .ref (gad G 9)]) (rest := []) rfl hl.1 rfl (Nat.le_of_ble_eq_true rfl) d_Law_law_981 ⟨by show C + 4 ≤ 601024; omega, by show S + 24 ≤ 7293000; omega⟩) hW (fun k D1 H locs hw hW => ?_)
  have hC1 := C1_ro (xc := xc4) hCR hw
  refine lv_istore (lv' := [(5, .int (k)), (4, .int (nI i)), (3, .ref (gad G (9))), (2, .ref (gad G (600))), (1, .ref (gad G (0))), (0, .ref b)]) hx hb d_Law_law_984 hl (by decide) rfl (fun ls hl => ?_)
  refine lv_aload_n hx hb d_Law_law_986 rfl (lv_at hl 3 rfl) ?_
  refine lv_aload_n hx hb d_Law_law_987 rfl (lv_at hl 5 rfl) ?_
  refine lv_iload hx hb d_Law_law_988 (lv_at hl 1 rfl) ?_
  refine lv_iconst (v := 1) hx hb d_Law_law_990 (by decide) ?_
  refine lv_iadd hx hb d_Law_law_991 ?_
  refine e_top (v := nI (i + 1)) (nI_add (i) (1)) ?_
  refine va_sld hx hb hX hbl hbA hW.2.2 (vp_in_nI (n := i + 1) (show i + 1 < L by omega) (by omega)) d_Law_law_992 ?_
  refine e_top (v := xs (i + 1)) (by rw [nI_clamp (show i + 1 < 2 ^ 31 by omega)]) ?_
  refine lv_aload_n hx hb d_Law_law_993 rfl (lv_at hl 5 rfl) ?_
  refine lv_iload hx hb d_Law_law_994 (lv_at hl 1 rfl) ?_
  refine lv_iconst (v := 2) hx hb d_Law_law_996 (by decide) ?_
  refine lv_iadd hx hb d_Law_law_997 ?_
  refine e_top (v := nI (i + 2)) (nI_add (i) (2)) ?_
  refine va_sld hx hb hX hbl hbA hW.2.2 (vp_in_nI (n := i + 2) (show i + 2 < L by omega) (by omega)) d_Law_law_998 ?_
  refine e_top (v := xs (i + 2)) (by rw [nI_clamp (show i + 2 < 2 ^ 31 by omega)]) ?_
  refine e_ci (e_runV hx hb hml hown hts hE hbs hW (F_Mo G hG) rfl (c_M_outcome l G hG D1 (xs (i + 1)) (xs (i + 2)) ) kw_727 kw_728 kw_729 kw_412 kw_726 rfl rfl hd_Mo_outcome ⟨Nat.le_of_ble_eq_true rfl, Nat.le_of_ble_eq_true rfl⟩ (As := [.int (xs (i + 1)), .int (xs (i + 2))]) (rest := []) rfl hl.1 rfl (Nat.le_of_ble_eq_true rfl) d_Law_law_999 ⟨by show C + 4 + 0 ≤ 601024; omega, by show S + 24 + 0 ≤ 7293000; omega⟩) hW (fun r u H locs hm hW => ?_)
  obtain ⟨hs1, hs2, hs3⟩ := St_ro (xc := xc4) hCR rfl xc4_s hw (fun q => ⟨(A_outcome q (xs (i + 1)) (xs (i + 2))).1, fun h0 => ((A_outcome q (xs (i + 1)) (xs (i + 2))).2 h0)⟩) hm
  refine lv_istore (lv' := [(6, .int (r)), (5, .int (k)), (4, .int (nI i)), (3, .ref (gad G (9))), (2, .ref (gad G (600))), (1, .ref (gad G (0))), (0, .ref b)]) hx hb d_Law_law_1002 hl (by decide) rfl (fun ls hl => ?_)
  refine lv_aload_n hx hb d_Law_law_1004 rfl (lv_at hl 4 rfl) ?_
  refine e_ci (e_runV hx hb hml hown hts hE hbs hW (F_Mo G hG) rfl (c_M_thrown l G hG u  ) kw_643 kw_644 kw_645 kw_412 kw_642 rfl rfl hd_Mo_thrown ⟨Nat.le_of_ble_eq_true rfl, Nat.le_of_ble_eq_true rfl⟩ (As := []) (rest := []) rfl hl.1 rfl (Nat.le_of_ble_eq_true rfl) d_Law_law_1005 ⟨by show C + 4 + 0 + 0 ≤ 601024; omega, by show S + 24 + 0 + 0 ≤ 7293000; omega⟩) hW (fun r9 u9 H locs hp hW => ?_)
  obtain ⟨hp1, hp2⟩ := hp
  have hp1 := hp1.symm; subst hp1
  have hp2 := hp2.symm; subst hp2
  refine lv_iload hx hb d_Law_law_1008 (lv_at hl 1 rfl) ?_
  refine lv_icmp_eq (tgt := 1015) hx hb d_Law_law_1010 (by decide) (fun c_1 => ?_) (fun c_1 => ?_)
  · skip
    refine lv_iload hx hb d_Law_law_1015 (lv_at hl 1 rfl) ?_
    refine lv_if_ne (tgt := 1032) hx hb d_Law_law_1017 (by decide) (fun c_2 => ?_) (fun c_2 => ?_)
    · skip
      refine lv_goto (tgt := 1199) hx hb d_Law_law_1032 (by decide) ?_
      refine W.widen (show C + 4 + 0 + 0 ≤ C + 21 by omega) (show S + 24 + 0 + 0 ≤ S + 638 by omega) ?_
      exact K _ _ _ _ hW (CR_m (by omega) hs3) (lv_sub hl [2, 3, 4, 5, 6] rfl)
    · skip
      refine lv_aload_n hx hb d_Law_law_1020 rfl (lv_at hl 3 rfl) ?_
      refine lv_iconst (v := 0) hx hb d_Law_law_1021 (by decide) ?_
      refine e_jald hx hb hK hW (F_Out G hG h9) (j := 0) (by decide) rfl d_Law_law_1022 ?_
      refine lv_iload hx hb d_Law_law_1023 (lv_at hl 0 rfl) ?_
      refine lv_i2l hx hb d_Law_law_1025 rfl ?_
      refine W.lcmp hx hb d_Law_law_1026 ?_
      refine lv_if_eq (tgt := 1032) hx hb d_Law_law_1027 (by decide) (fun c_3 => ?_) (fun c_3 => ?_)
      · skip
        refine lv_goto (tgt := 1199) hx hb d_Law_law_1032 (by decide) ?_
        refine W.widen (show C + 4 + 0 + 0 ≤ C + 21 by omega) (show S + 24 + 0 + 0 ≤ S + 638 by omega) ?_
        exact K _ _ _ _ hW (CR_m (by omega) hs3) (lv_sub hl [2, 3, 4, 5, 6] rfl)
      · skip
        exact (lc_dead (hs2 c_2) c_3).elim
  · skip
    exact absurd hs1 c_1
set_option maxHeartbeats 4000000 in
set_option maxRecDepth 100000 in
theorem lc_taken {p : Program} {l : Launch} {e : Env} {s : State} {m : MethodId} {below : List Frame} {meth : Method} {c : Code} {Q : State → Prop} {G : GT} {b L : Nat} {xs : Nat → Int32} (X : LX l G b L xs p s m meth c) {D : DD} {H : Heap} {locs : List Loc} {ls : Array Slot} {i B C S : Nat} (hW : WD G s.heap D H locs) (hCR : CR (gn G) B D D) (hB9 : B < 9999) (hi : i + 5 ≤ L) (hl : lv_has ls 7 (LV G b i)) (hC : C + 21 ≤ 601024) (hS : S + 638 ≤ 7293000)
    (K : ∀ (H : Heap) (locs : List Loc) (ls : Array Slot) (D : DD), WD G s.heap D H locs → CR (gn G) (B + 2) D D → lv_has ls 7 (LV G b i) → W p l e room_1 s m #[Value.ref b] below meth c H locs (C + 21) (S + 638) Q (F0 m 1199 ls [])) : W p l e room_1 s m #[Value.ref b] below meth c H locs C S Q (F0 m 1035 ls []) := by
  obtain ⟨hx, hb, hml, hown, hts, hE, hbs, hX, hbl, hbA, hG, h9, hst, hL⟩ := X
  have hK := hE.1
  have hl : lv_has ls 7 [(4, .int (nI i)), (3, .ref (gad G 9)), (2, .ref (gad G 600)), (1, .ref (gad G 0)), (0, .ref b)] := hl
  refine lv_aload_n hx hb d_Law_law_1035 rfl (lv_at hl 3 rfl) ?_
  refine lv_aload_n hx hb d_Law_law_1036 rfl (lv_at hl 4 rfl) ?_
  refine lv_iload hx hb d_Law_law_1037 (lv_at hl 0 rfl) ?_
  refine lv_iconst (v := 1) hx hb d_Law_law_1039 (by decide) ?_
  refine lv_iadd hx hb d_Law_law_1040 ?_
  refine e_top (v := nI (i + 1)) (nI_add (i) (1)) ?_
  refine va_sld hx hb hX hbl hbA hW.2.2 (vp_in_nI (n := i + 1) (show i + 1 < L by omega) (by omega)) d_Law_law_1041 ?_
  refine e_top (v := xs (i + 1)) (by rw [nI_clamp (show i + 1 < 2 ^ 31 by omega)]) ?_
  refine lv_aload_n hx hb d_Law_law_1042 rfl (lv_at hl 4 rfl) ?_
  refine lv_iload hx hb d_Law_law_1043 (lv_at hl 0 rfl) ?_
  refine lv_iconst (v := 2) hx hb d_Law_law_1045 (by decide) ?_
  refine lv_iadd hx hb d_Law_law_1046 ?_
  refine e_top (v := nI (i + 2)) (nI_add (i) (2)) ?_
  refine va_sld hx hb hX hbl hbA hW.2.2 (vp_in_nI (n := i + 2) (show i + 2 < L by omega) (by omega)) d_Law_law_1047 ?_
  refine e_top (v := xs (i + 2)) (by rw [nI_clamp (show i + 2 < 2 ^ 31 by omega)]) ?_
  refine lv_aload_n hx hb d_Law_law_1048 rfl (lv_at hl 4 rfl) ?_
  refine lv_iload hx hb d_Law_law_1049 (lv_at hl 0 rfl) ?_
  refine lv_iconst (v := 3) hx hb d_Law_law_1051 (by decide) ?_
  refine lv_iadd hx hb d_Law_law_1052 ?_
  refine e_top (v := nI (i + 3)) (nI_add (i) (3)) ?_
  refine va_sld hx hb hX hbl hbA hW.2.2 (vp_in_nI (n := i + 3) (show i + 3 < L by omega) (by omega)) d_Law_law_1053 ?_
  refine e_top (v := xs (i + 3)) (by rw [nI_clamp (show i + 3 < 2 ^ 31 by omega)]) ?_
  refine lv_aload_n hx hb d_Law_law_1054 rfl (lv_at hl 4 rfl) ?_
  refine lv_iload hx hb d_Law_law_1055 (lv_at hl 0 rfl) ?_
  refine lv_iconst (v := 4) hx hb d_Law_law_1057 (by decide) ?_
  refine lv_iadd hx hb d_Law_law_1058 ?_
  refine e_top (v := nI (i + 4)) (nI_add (i) (4)) ?_
  refine va_sld hx hb hX hbl hbA hW.2.2 (vp_in_nI (n := i + 4) (show i + 4 < L by omega) (by omega)) d_Law_law_1059 ?_
  refine e_top (v := xs (i + 4)) (by rw [nI_clamp (show i + 4 < 2 ^ 31 by omega)]) ?_
  refine lv_if_eq (tgt := 1067) hx hb d_Law_law_1060 (by decide) (fun c_1 => ?_) (fun c_1 => ?_)
  · skip
    refine lv_iconst (v := 0) hx hb d_Law_law_1067 (by decide) ?_
    refine lv_aload_n hx hb d_Law_law_1068 rfl (lv_at hl 1 rfl) ?_
    refine e_ci (e_runSW hx hb hml hown hts hE hbs hW (c_L_taken l hst G hG h9 D (xs (i + 1)) (xs (i + 2)) (xs (i + 3)) (0) ) kw_731 kw_732 kw_635 kw_730 rfl rfl hd_Law_taken ⟨Nat.le_of_ble_eq_true rfl, Nat.le_of_ble_eq_true rfl⟩ (As := [.ref (gad G 0), .int (xs (i + 1)), .int (xs (i + 2)), .int (xs (i + 3)), .int (0), .ref (gad G 9)]) (rest := []) rfl hl.1 rfl (Nat.le_of_ble_eq_true rfl) d_Law_law_1069 ⟨by show C + 4 ≤ 601024; omega, by show S + 24 ≤ 7293000; omega⟩) hW (fun k D1 H locs hw hW => ?_)
    have hC1 := C1_ro (xc := xc4) hCR hw
    refine lv_istore (lv' := [(5, .int (k)), (4, .int (nI i)), (3, .ref (gad G (9))), (2, .ref (gad G (600))), (1, .ref (gad G (0))), (0, .ref b)]) hx hb d_Law_law_1072 hl (by decide) rfl (fun ls hl => ?_)
    refine lv_aload_n hx hb d_Law_law_1074 rfl (lv_at hl 3 rfl) ?_
    refine lv_aload_n hx hb d_Law_law_1075 rfl (lv_at hl 5 rfl) ?_
    refine lv_iload hx hb d_Law_law_1076 (lv_at hl 1 rfl) ?_
    refine lv_iconst (v := 1) hx hb d_Law_law_1078 (by decide) ?_
    refine lv_iadd hx hb d_Law_law_1079 ?_
    refine e_top (v := nI (i + 1)) (nI_add (i) (1)) ?_
    refine va_sld hx hb hX hbl hbA hW.2.2 (vp_in_nI (n := i + 1) (show i + 1 < L by omega) (by omega)) d_Law_law_1080 ?_
    refine e_top (v := xs (i + 1)) (by rw [nI_clamp (show i + 1 < 2 ^ 31 by omega)]) ?_
    refine lv_aload_n hx hb d_Law_law_1081 rfl (lv_at hl 5 rfl) ?_
    refine lv_iload hx hb d_Law_law_1082 (lv_at hl 1 rfl) ?_
    refine lv_iconst (v := 2) hx hb d_Law_law_1084 (by decide) ?_
    refine lv_iadd hx hb d_Law_law_1085 ?_
    refine e_top (v := nI (i + 2)) (nI_add (i) (2)) ?_
    refine va_sld hx hb hX hbl hbA hW.2.2 (vp_in_nI (n := i + 2) (show i + 2 < L by omega) (by omega)) d_Law_law_1086 ?_
    refine e_top (v := xs (i + 2)) (by rw [nI_clamp (show i + 2 < 2 ^ 31 by omega)]) ?_
    refine lv_aload_n hx hb d_Law_law_1087 rfl (lv_at hl 5 rfl) ?_
    refine lv_iload hx hb d_Law_law_1088 (lv_at hl 1 rfl) ?_
    refine lv_iconst (v := 3) hx hb d_Law_law_1090 (by decide) ?_
    refine lv_iadd hx hb d_Law_law_1091 ?_
    refine e_top (v := nI (i + 3)) (nI_add (i) (3)) ?_
    refine va_sld hx hb hX hbl hbA hW.2.2 (vp_in_nI (n := i + 3) (show i + 3 < L by omega) (by omega)) d_Law_law_1092 ?_
    refine e_top (v := xs (i + 3)) (by rw [nI_clamp (show i + 3 < 2 ^ 31 by omega)]) ?_
    refine lv_aload_n hx hb d_Law_law_1093 rfl (lv_at hl 5 rfl) ?_
    refine lv_iload hx hb d_Law_law_1094 (lv_at hl 1 rfl) ?_
    refine lv_iconst (v := 4) hx hb d_Law_law_1096 (by decide) ?_
    refine lv_iadd hx hb d_Law_law_1097 ?_
    refine e_top (v := nI (i + 4)) (nI_add (i) (4)) ?_
    refine va_sld hx hb hX hbl hbA hW.2.2 (vp_in_nI (n := i + 4) (show i + 4 < L by omega) (by omega)) d_Law_law_1098 ?_
    refine e_top (v := xs (i + 4)) (by rw [nI_clamp (show i + 4 < 2 ^ 31 by omega)]) ?_
    refine lv_if_eq (tgt := 1106) hx hb d_Law_law_1099 (by decide) (fun c_2 => ?_) (fun c_2 => ?_)
    · skip
      refine lv_iconst (v := 0) hx hb d_Law_law_1106 (by decide) ?_
      refine e_ci (e_runV hx hb hml hown hts hE hbs hW (F_Mo G hG) rfl (c_M_taken l G hG D1 (xs (i + 1)) (xs (i + 2)) (xs (i + 3)) (0) (CK_num hC1).2.1) kw_734 kw_735 kw_736 kw_412 kw_733 rfl rfl hd_Mo_taken ⟨Nat.le_of_ble_eq_true rfl, Nat.le_of_ble_eq_true rfl⟩ (As := [.int (xs (i + 1)), .int (xs (i + 2)), .int (xs (i + 3)), .int (0)]) (rest := []) rfl hl.1 rfl (Nat.le_of_ble_eq_true rfl) d_Law_law_1107 ⟨by show C + 4 + 0 ≤ 601024; omega, by show S + 24 + 0 ≤ 7293000; omega⟩) hW (fun r u H locs hm hW => ?_)
      obtain ⟨hs1, hs2, hs3⟩ := St_ro (xc := xc4) hCR rfl xc4_s hw (fun q => ⟨(A_taken (by omega) q (xs (i + 1)) (xs (i + 2)) (xs (i + 3)) (0)).1, fun h0 => ((A_taken (by omega) q (xs (i + 1)) (xs (i + 2)) (xs (i + 3)) (0)).2 h0)⟩) hm
      refine lv_istore (lv' := [(6, .int (r)), (5, .int (k)), (4, .int (nI i)), (3, .ref (gad G (9))), (2, .ref (gad G (600))), (1, .ref (gad G (0))), (0, .ref b)]) hx hb d_Law_law_1110 hl (by decide) rfl (fun ls hl => ?_)
      refine lv_aload_n hx hb d_Law_law_1112 rfl (lv_at hl 4 rfl) ?_
      refine e_ci (e_runV hx hb hml hown hts hE hbs hW (F_Mo G hG) rfl (c_M_thrown l G hG u  ) kw_643 kw_644 kw_645 kw_412 kw_642 rfl rfl hd_Mo_thrown ⟨Nat.le_of_ble_eq_true rfl, Nat.le_of_ble_eq_true rfl⟩ (As := []) (rest := []) rfl hl.1 rfl (Nat.le_of_ble_eq_true rfl) d_Law_law_1113 ⟨by show C + 4 + 0 + 0 ≤ 601024; omega, by show S + 24 + 0 + 0 ≤ 7293000; omega⟩) hW (fun r9 u9 H locs hp hW => ?_)
      obtain ⟨hp1, hp2⟩ := hp
      have hp1 := hp1.symm; subst hp1
      have hp2 := hp2.symm; subst hp2
      refine lv_iload hx hb d_Law_law_1116 (lv_at hl 1 rfl) ?_
      refine lv_icmp_eq (tgt := 1123) hx hb d_Law_law_1118 (by decide) (fun c_3 => ?_) (fun c_3 => ?_)
      · skip
        refine lv_iload hx hb d_Law_law_1123 (lv_at hl 1 rfl) ?_
        refine lv_if_ne (tgt := 1140) hx hb d_Law_law_1125 (by decide) (fun c_4 => ?_) (fun c_4 => ?_)
        · skip
          refine lv_goto (tgt := 1199) hx hb d_Law_law_1140 (by decide) ?_
          refine W.widen (show C + 4 + 0 + 0 ≤ C + 21 by omega) (show S + 24 + 0 + 0 ≤ S + 638 by omega) ?_
          exact K _ _ _ _ hW (CR_m (by omega) hs3) (lv_sub hl [2, 3, 4, 5, 6] rfl)
        · skip
          refine lv_aload_n hx hb d_Law_law_1128 rfl (lv_at hl 3 rfl) ?_
          refine lv_iconst (v := 0) hx hb d_Law_law_1129 (by decide) ?_
          refine e_jald hx hb hK hW (F_Out G hG h9) (j := 0) (by decide) rfl d_Law_law_1130 ?_
          refine lv_iload hx hb d_Law_law_1131 (lv_at hl 0 rfl) ?_
          refine lv_i2l hx hb d_Law_law_1133 rfl ?_
          refine W.lcmp hx hb d_Law_law_1134 ?_
          refine lv_if_eq (tgt := 1140) hx hb d_Law_law_1135 (by decide) (fun c_5 => ?_) (fun c_5 => ?_)
          · skip
            refine lv_goto (tgt := 1199) hx hb d_Law_law_1140 (by decide) ?_
            refine W.widen (show C + 4 + 0 + 0 ≤ C + 21 by omega) (show S + 24 + 0 + 0 ≤ S + 638 by omega) ?_
            exact K _ _ _ _ hW (CR_m (by omega) hs3) (lv_sub hl [2, 3, 4, 5, 6] rfl)
          · skip
            exact (lc_dead (hs2 c_4) c_5).elim
      · skip
        exact absurd hs1 c_3
    · skip
      exact absurd c_1 c_2
  · skip
    refine lv_iconst (v := 1) hx hb d_Law_law_1063 (by decide) ?_
    refine lv_goto (tgt := 1068) hx hb d_Law_law_1064 (by decide) ?_
    refine lv_aload_n hx hb d_Law_law_1068 rfl (lv_at hl 1 rfl) ?_
    refine e_ci (e_runSW hx hb hml hown hts hE hbs hW (c_L_taken l hst G hG h9 D (xs (i + 1)) (xs (i + 2)) (xs (i + 3)) (1) ) kw_731 kw_732 kw_635 kw_730 rfl rfl hd_Law_taken ⟨Nat.le_of_ble_eq_true rfl, Nat.le_of_ble_eq_true rfl⟩ (As := [.ref (gad G 0), .int (xs (i + 1)), .int (xs (i + 2)), .int (xs (i + 3)), .int (1), .ref (gad G 9)]) (rest := []) rfl hl.1 rfl (Nat.le_of_ble_eq_true rfl) d_Law_law_1069 ⟨by show C + 4 ≤ 601024; omega, by show S + 24 ≤ 7293000; omega⟩) hW (fun k D1 H locs hw hW => ?_)
    have hC1 := C1_ro (xc := xc4) hCR hw
    refine lv_istore (lv' := [(5, .int (k)), (4, .int (nI i)), (3, .ref (gad G (9))), (2, .ref (gad G (600))), (1, .ref (gad G (0))), (0, .ref b)]) hx hb d_Law_law_1072 hl (by decide) rfl (fun ls hl => ?_)
    refine lv_aload_n hx hb d_Law_law_1074 rfl (lv_at hl 3 rfl) ?_
    refine lv_aload_n hx hb d_Law_law_1075 rfl (lv_at hl 5 rfl) ?_
    refine lv_iload hx hb d_Law_law_1076 (lv_at hl 1 rfl) ?_
    refine lv_iconst (v := 1) hx hb d_Law_law_1078 (by decide) ?_
    refine lv_iadd hx hb d_Law_law_1079 ?_
    refine e_top (v := nI (i + 1)) (nI_add (i) (1)) ?_
    refine va_sld hx hb hX hbl hbA hW.2.2 (vp_in_nI (n := i + 1) (show i + 1 < L by omega) (by omega)) d_Law_law_1080 ?_
    refine e_top (v := xs (i + 1)) (by rw [nI_clamp (show i + 1 < 2 ^ 31 by omega)]) ?_
    refine lv_aload_n hx hb d_Law_law_1081 rfl (lv_at hl 5 rfl) ?_
    refine lv_iload hx hb d_Law_law_1082 (lv_at hl 1 rfl) ?_
    refine lv_iconst (v := 2) hx hb d_Law_law_1084 (by decide) ?_
    refine lv_iadd hx hb d_Law_law_1085 ?_
    refine e_top (v := nI (i + 2)) (nI_add (i) (2)) ?_
    refine va_sld hx hb hX hbl hbA hW.2.2 (vp_in_nI (n := i + 2) (show i + 2 < L by omega) (by omega)) d_Law_law_1086 ?_
    refine e_top (v := xs (i + 2)) (by rw [nI_clamp (show i + 2 < 2 ^ 31 by omega)]) ?_
    refine lv_aload_n hx hb d_Law_law_1087 rfl (lv_at hl 5 rfl) ?_
    refine lv_iload hx hb d_Law_law_1088 (lv_at hl 1 rfl) ?_
    refine lv_iconst (v := 3) hx hb d_Law_law_1090 (by decide) ?_
    refine lv_iadd hx hb d_Law_law_1091 ?_
    refine e_top (v := nI (i + 3)) (nI_add (i) (3)) ?_
    refine va_sld hx hb hX hbl hbA hW.2.2 (vp_in_nI (n := i + 3) (show i + 3 < L by omega) (by omega)) d_Law_law_1092 ?_
    refine e_top (v := xs (i + 3)) (by rw [nI_clamp (show i + 3 < 2 ^ 31 by omega)]) ?_
    refine lv_aload_n hx hb d_Law_law_1093 rfl (lv_at hl 5 rfl) ?_
    refine lv_iload hx hb d_Law_law_1094 (lv_at hl 1 rfl) ?_
    refine lv_iconst (v := 4) hx hb d_Law_law_1096 (by decide) ?_
    refine lv_iadd hx hb d_Law_law_1097 ?_
    refine e_top (v := nI (i + 4)) (nI_add (i) (4)) ?_
    refine va_sld hx hb hX hbl hbA hW.2.2 (vp_in_nI (n := i + 4) (show i + 4 < L by omega) (by omega)) d_Law_law_1098 ?_
    refine e_top (v := xs (i + 4)) (by rw [nI_clamp (show i + 4 < 2 ^ 31 by omega)]) ?_
    refine lv_if_eq (tgt := 1106) hx hb d_Law_law_1099 (by decide) (fun c_6 => ?_) (fun c_6 => ?_)
    · skip
      exact absurd c_6 c_1
    · skip
      refine lv_iconst (v := 1) hx hb d_Law_law_1102 (by decide) ?_
      refine lv_goto (tgt := 1107) hx hb d_Law_law_1103 (by decide) ?_
      refine e_ci (e_runV hx hb hml hown hts hE hbs hW (F_Mo G hG) rfl (c_M_taken l G hG D1 (xs (i + 1)) (xs (i + 2)) (xs (i + 3)) (1) (CK_num hC1).2.1) kw_734 kw_735 kw_736 kw_412 kw_733 rfl rfl hd_Mo_taken ⟨Nat.le_of_ble_eq_true rfl, Nat.le_of_ble_eq_true rfl⟩ (As := [.int (xs (i + 1)), .int (xs (i + 2)), .int (xs (i + 3)), .int (1)]) (rest := []) rfl hl.1 rfl (Nat.le_of_ble_eq_true rfl) d_Law_law_1107 ⟨by show C + 4 + 0 ≤ 601024; omega, by show S + 24 + 0 ≤ 7293000; omega⟩) hW (fun r u H locs hm hW => ?_)
      obtain ⟨hs1, hs2, hs3⟩ := St_ro (xc := xc4) hCR rfl xc4_s hw (fun q => ⟨(A_taken (by omega) q (xs (i + 1)) (xs (i + 2)) (xs (i + 3)) (1)).1, fun h0 => ((A_taken (by omega) q (xs (i + 1)) (xs (i + 2)) (xs (i + 3)) (1)).2 h0)⟩) hm
      refine lv_istore (lv' := [(6, .int (r)), (5, .int (k)), (4, .int (nI i)), (3, .ref (gad G (9))), (2, .ref (gad G (600))), (1, .ref (gad G (0))), (0, .ref b)]) hx hb d_Law_law_1110 hl (by decide) rfl (fun ls hl => ?_)
      refine lv_aload_n hx hb d_Law_law_1112 rfl (lv_at hl 4 rfl) ?_
      refine e_ci (e_runV hx hb hml hown hts hE hbs hW (F_Mo G hG) rfl (c_M_thrown l G hG u  ) kw_643 kw_644 kw_645 kw_412 kw_642 rfl rfl hd_Mo_thrown ⟨Nat.le_of_ble_eq_true rfl, Nat.le_of_ble_eq_true rfl⟩ (As := []) (rest := []) rfl hl.1 rfl (Nat.le_of_ble_eq_true rfl) d_Law_law_1113 ⟨by show C + 4 + 0 + 0 ≤ 601024; omega, by show S + 24 + 0 + 0 ≤ 7293000; omega⟩) hW (fun r9 u9 H locs hp hW => ?_)
      obtain ⟨hp1, hp2⟩ := hp
      have hp1 := hp1.symm; subst hp1
      have hp2 := hp2.symm; subst hp2
      refine lv_iload hx hb d_Law_law_1116 (lv_at hl 1 rfl) ?_
      refine lv_icmp_eq (tgt := 1123) hx hb d_Law_law_1118 (by decide) (fun c_7 => ?_) (fun c_7 => ?_)
      · skip
        refine lv_iload hx hb d_Law_law_1123 (lv_at hl 1 rfl) ?_
        refine lv_if_ne (tgt := 1140) hx hb d_Law_law_1125 (by decide) (fun c_8 => ?_) (fun c_8 => ?_)
        · skip
          refine lv_goto (tgt := 1199) hx hb d_Law_law_1140 (by decide) ?_
          refine W.widen (show C + 4 + 0 + 0 ≤ C + 21 by omega) (show S + 24 + 0 + 0 ≤ S + 638 by omega) ?_
          exact K _ _ _ _ hW (CR_m (by omega) hs3) (lv_sub hl [2, 3, 4, 5, 6] rfl)
        · skip
          refine lv_aload_n hx hb d_Law_law_1128 rfl (lv_at hl 3 rfl) ?_
          refine lv_iconst (v := 0) hx hb d_Law_law_1129 (by decide) ?_
          refine e_jald hx hb hK hW (F_Out G hG h9) (j := 0) (by decide) rfl d_Law_law_1130 ?_
          refine lv_iload hx hb d_Law_law_1131 (lv_at hl 0 rfl) ?_
          refine lv_i2l hx hb d_Law_law_1133 rfl ?_
          refine W.lcmp hx hb d_Law_law_1134 ?_
          refine lv_if_eq (tgt := 1140) hx hb d_Law_law_1135 (by decide) (fun c_9 => ?_) (fun c_9 => ?_)
          · skip
            refine lv_goto (tgt := 1199) hx hb d_Law_law_1140 (by decide) ?_
            refine W.widen (show C + 4 + 0 + 0 ≤ C + 21 by omega) (show S + 24 + 0 + 0 ≤ S + 638 by omega) ?_
            exact K _ _ _ _ hW (CR_m (by omega) hs3) (lv_sub hl [2, 3, 4, 5, 6] rfl)
          · skip
            exact (lc_dead (hs2 c_8) c_9).elim
      · skip
        exact absurd hs1 c_7
set_option maxHeartbeats 4000000 in
set_option maxRecDepth 100000 in
theorem lc_count {p : Program} {l : Launch} {e : Env} {s : State} {m : MethodId} {below : List Frame} {meth : Method} {c : Code} {Q : State → Prop} {G : GT} {b L : Nat} {xs : Nat → Int32} (X : LX l G b L xs p s m meth c) {D : DD} {H : Heap} {locs : List Loc} {ls : Array Slot} {i B C S : Nat} (hW : WD G s.heap D H locs) (hCR : CR (gn G) B D D) (hB9 : B < 9999) (hi : i + 5 ≤ L) (hl : lv_has ls 7 (LV G b i)) (hC : C + 21 ≤ 601024) (hS : S + 638 ≤ 7293000)
    (K : ∀ (H : Heap) (locs : List Loc) (ls : Array Slot) (D : DD), WD G s.heap D H locs → CR (gn G) (B + 2) D D → lv_has ls 7 (LV G b i) → W p l e room_1 s m #[Value.ref b] below meth c H locs (C + 21) (S + 638) Q (F0 m 1199 ls [])) : W p l e room_1 s m #[Value.ref b] below meth c H locs C S Q (F0 m 1143 ls []) := by
  obtain ⟨hx, hb, hml, hown, hts, hE, hbs, hX, hbl, hbA, hG, h9, hst, hL⟩ := X
  have hK := hE.1
  have hl : lv_has ls 7 [(4, .int (nI i)), (3, .ref (gad G 9)), (2, .ref (gad G 600)), (1, .ref (gad G 0)), (0, .ref b)] := hl
  refine lv_aload_n hx hb d_Law_law_1143 rfl (lv_at hl 3 rfl) ?_
  refine lv_aload_n hx hb d_Law_law_1144 rfl (lv_at hl 4 rfl) ?_
  refine lv_iload hx hb d_Law_law_1145 (lv_at hl 0 rfl) ?_
  refine lv_iconst (v := 1) hx hb d_Law_law_1147 (by decide) ?_
  refine lv_iadd hx hb d_Law_law_1148 ?_
  refine e_top (v := nI (i + 1)) (nI_add (i) (1)) ?_
  refine va_sld hx hb hX hbl hbA hW.2.2 (vp_in_nI (n := i + 1) (show i + 1 < L by omega) (by omega)) d_Law_law_1149 ?_
  refine e_top (v := xs (i + 1)) (by rw [nI_clamp (show i + 1 < 2 ^ 31 by omega)]) ?_
  refine lv_aload_n hx hb d_Law_law_1150 rfl (lv_at hl 1 rfl) ?_
  refine e_ci (e_runSW hx hb hml hown hts hE hbs hW (c_L_count l hst G hG h9 D (xs (i + 1)) ) kw_738 kw_739 kw_635 kw_737 rfl rfl hd_Law_count ⟨Nat.le_of_ble_eq_true rfl, Nat.le_of_ble_eq_true rfl⟩ (As := [.ref (gad G 0), .int (xs (i + 1)), .ref (gad G 9)]) (rest := []) rfl hl.1 rfl (Nat.le_of_ble_eq_true rfl) d_Law_law_1151 ⟨by show C + 1 ≤ 601024; omega, by show S + 6 ≤ 7293000; omega⟩) hW (fun k D1 H locs hw hW => ?_)
  have hC1 := C1_ro (xc := xc1) hCR hw
  refine lv_istore (lv' := [(5, .int (k)), (4, .int (nI i)), (3, .ref (gad G (9))), (2, .ref (gad G (600))), (1, .ref (gad G (0))), (0, .ref b)]) hx hb d_Law_law_1154 hl (by decide) rfl (fun ls hl => ?_)
  refine lv_aload_n hx hb d_Law_law_1156 rfl (lv_at hl 3 rfl) ?_
  refine lv_aload_n hx hb d_Law_law_1157 rfl (lv_at hl 5 rfl) ?_
  refine lv_iload hx hb d_Law_law_1158 (lv_at hl 1 rfl) ?_
  refine lv_iconst (v := 1) hx hb d_Law_law_1160 (by decide) ?_
  refine lv_iadd hx hb d_Law_law_1161 ?_
  refine e_top (v := nI (i + 1)) (nI_add (i) (1)) ?_
  refine va_sld hx hb hX hbl hbA hW.2.2 (vp_in_nI (n := i + 1) (show i + 1 < L by omega) (by omega)) d_Law_law_1162 ?_
  refine e_top (v := xs (i + 1)) (by rw [nI_clamp (show i + 1 < 2 ^ 31 by omega)]) ?_
  refine e_ci (e_runV hx hb hml hown hts hE hbs hW (F_Mo G hG) rfl (c_M_count l G hG D1 (xs (i + 1)) (CK_num hC1).2.1) kw_741 kw_742 kw_743 kw_412 kw_740 rfl rfl hd_Mo_count ⟨Nat.le_of_ble_eq_true rfl, Nat.le_of_ble_eq_true rfl⟩ (As := [.int (xs (i + 1))]) (rest := []) rfl hl.1 rfl (Nat.le_of_ble_eq_true rfl) d_Law_law_1163 ⟨by show C + 1 + 0 ≤ 601024; omega, by show S + 6 + 0 ≤ 7293000; omega⟩) hW (fun r u H locs hm hW => ?_)
  obtain ⟨hs1, hs2, hs3⟩ := St_ro (xc := xc1) hCR rfl xc1_s hw (fun q => ⟨(A_count q (xs (i + 1))).1, fun h0 => ((A_count q (xs (i + 1))).2 h0)⟩) hm
  refine lv_istore (lv' := [(6, .int (r)), (5, .int (k)), (4, .int (nI i)), (3, .ref (gad G (9))), (2, .ref (gad G (600))), (1, .ref (gad G (0))), (0, .ref b)]) hx hb d_Law_law_1166 hl (by decide) rfl (fun ls hl => ?_)
  refine lv_aload_n hx hb d_Law_law_1168 rfl (lv_at hl 4 rfl) ?_
  refine e_ci (e_runV hx hb hml hown hts hE hbs hW (F_Mo G hG) rfl (c_M_thrown l G hG u  ) kw_643 kw_644 kw_645 kw_412 kw_642 rfl rfl hd_Mo_thrown ⟨Nat.le_of_ble_eq_true rfl, Nat.le_of_ble_eq_true rfl⟩ (As := []) (rest := []) rfl hl.1 rfl (Nat.le_of_ble_eq_true rfl) d_Law_law_1169 ⟨by show C + 1 + 0 + 0 ≤ 601024; omega, by show S + 6 + 0 + 0 ≤ 7293000; omega⟩) hW (fun r9 u9 H locs hp hW => ?_)
  obtain ⟨hp1, hp2⟩ := hp
  have hp1 := hp1.symm; subst hp1
  have hp2 := hp2.symm; subst hp2
  refine lv_iload hx hb d_Law_law_1172 (lv_at hl 1 rfl) ?_
  refine lv_icmp_eq (tgt := 1179) hx hb d_Law_law_1174 (by decide) (fun c_1 => ?_) (fun c_1 => ?_)
  · skip
    refine lv_iload hx hb d_Law_law_1179 (lv_at hl 1 rfl) ?_
    refine lv_if_ne (tgt := 1196) hx hb d_Law_law_1181 (by decide) (fun c_2 => ?_) (fun c_2 => ?_)
    · skip
      refine lv_goto (tgt := 1199) hx hb d_Law_law_1196 (by decide) ?_
      refine W.widen (show C + 1 + 0 + 0 ≤ C + 21 by omega) (show S + 6 + 0 + 0 ≤ S + 638 by omega) ?_
      exact K _ _ _ _ hW (CR_m (by omega) hs3) (lv_sub hl [2, 3, 4, 5, 6] rfl)
    · skip
      refine lv_aload_n hx hb d_Law_law_1184 rfl (lv_at hl 3 rfl) ?_
      refine lv_iconst (v := 0) hx hb d_Law_law_1185 (by decide) ?_
      refine e_jald hx hb hK hW (F_Out G hG h9) (j := 0) (by decide) rfl d_Law_law_1186 ?_
      refine lv_iload hx hb d_Law_law_1187 (lv_at hl 0 rfl) ?_
      refine lv_i2l hx hb d_Law_law_1189 rfl ?_
      refine W.lcmp hx hb d_Law_law_1190 ?_
      refine lv_if_eq (tgt := 1196) hx hb d_Law_law_1191 (by decide) (fun c_3 => ?_) (fun c_3 => ?_)
      · skip
        refine lv_goto (tgt := 1199) hx hb d_Law_law_1196 (by decide) ?_
        refine W.widen (show C + 1 + 0 + 0 ≤ C + 21 by omega) (show S + 6 + 0 + 0 ≤ S + 638 by omega) ?_
        exact K _ _ _ _ hW (CR_m (by omega) hs3) (lv_sub hl [2, 3, 4, 5, 6] rfl)
      · skip
        exact (lc_dead (hs2 c_2) c_3).elim
  · skip
    exact absurd hs1 c_1
