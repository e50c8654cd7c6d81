set_option maxRecDepth 100000 in
theorem qw_623 : GW lw_tbl (.instanceMethod yX2_readRecipe) := gw_s (gt_t3 (List.mem_of_getElem? (i := 66) (by exact rfl))) (by decide +kernel)
set_option maxRecDepth 100000 in
theorem qw_624 : GW lw_tbl (.selects RX2 yX2_readRecipe yX2_readRecipe) := gw_s (gt_t3 (List.mem_of_getElem? (i := 67) (by exact rfl))) (by decide +kernel)
set_option maxRecDepth 100000 in
theorem qw_625 : GW lw_tbl (.code yX2_readRecipe cX2_readRecipe 3 (some (.object "VatHouse$Step"))) := gw_s (gt_t3 (List.mem_of_getElem? (i := 68) (by exact rfl))) (by decide +kernel)
set_option maxRecDepth 100000 in
theorem qw_626 : GW lw_tbl (.methodLink RX2 24 yX6_split) := gw_s (gt_t3 (List.mem_of_getElem? (i := 69) (by exact rfl))) (by decide +kernel)
set_option maxRecDepth 100000 in
theorem qw_627 : GW lw_tbl (.instanceMethod yX6_split) := gw_s (gt_t3 (List.mem_of_getElem? (i := 70) (by exact rfl))) (by decide +kernel)
set_option maxRecDepth 100000 in
theorem qw_628 : GW lw_tbl (.selects RX6 yX6_split yX6_split) := gw_s (gt_t3 (List.mem_of_getElem? (i := 71) (by exact rfl))) (by decide +kernel)
set_option maxRecDepth 100000 in
theorem qw_629 : GW lw_tbl (.code yX6_split cX6_split 3 none) := gw_s (gt_t3 (List.mem_of_getElem? (i := 72) (by exact rfl))) (by decide +kernel)
set_option maxRecDepth 100000 in
theorem qw_630 : GW lw_tbl (.methodLink RX6 25 Lib.Math.min.name) := gw_s (gt_t3 (List.mem_of_getElem? (i := 73) (by exact rfl))) (by decide +kernel)
set_option maxRecDepth 100000 in
theorem qw_631 : GW lw_tbl (.methodLink RX6 31 Lib.Math.max.name) := gw_s (gt_t3 (List.mem_of_getElem? (i := 74) (by exact rfl))) (by decide +kernel)
set_option maxRecDepth 100000 in
theorem qw_632 : GW lw_tbl (.methodLink RX6 44 yX6_byteAt) := gw_s (gt_t3 (List.mem_of_getElem? (i := 75) (by exact rfl))) (by decide +kernel)
set_option maxRecDepth 100000 in
theorem qw_634 : GW lw_tbl (.instanceMethod yX6_byteAt) := gw_s (gt_t3 (List.mem_of_getElem? (i := 77) (by exact rfl))) (by decide +kernel)
set_option maxRecDepth 100000 in
theorem qw_635 : GW lw_tbl (.code yX6_byteAt cX6_byteAt 2 (some .int)) := gw_s (gt_t3 (List.mem_of_getElem? (i := 78) (by exact rfl))) (by decide +kernel)
set_option maxRecDepth 100000 in
theorem qw_636 : GW lw_tbl (.methodLink RX6 48 yX6_isBlank) := gw_s (gt_t3 (List.mem_of_getElem? (i := 79) (by exact rfl))) (by decide +kernel)
set_option maxRecDepth 100000 in
theorem qw_637 : GW lw_tbl (.static yX6_isBlank) := gw_s (gt_t3 (List.mem_of_getElem? (i := 80) (by exact rfl))) (by decide +kernel)
set_option maxRecDepth 100000 in
theorem qw_638 : GW lw_tbl (.code yX6_isBlank cX6_isBlank 1 (some .boolean)) := gw_s (gt_t3 (List.mem_of_getElem? (i := 81) (by exact rfl))) (by decide +kernel)
set_option maxRecDepth 100000 in
theorem qw_639 : GW lw_tbl (.methodLink RX6 52 yX6_addToken) := gw_s (gt_t3 (List.mem_of_getElem? (i := 82) (by exact rfl))) (by decide +kernel)
set_option maxRecDepth 100000 in
theorem qw_641 : GW lw_tbl (.instanceMethod yX6_addToken) := gw_s (gt_t3 (List.mem_of_getElem? (i := 84) (by exact rfl))) (by decide +kernel)
set_option maxRecDepth 100000 in
theorem qw_642 : GW lw_tbl (.code yX6_addToken cX6_addToken 2 none) := gw_s (gt_t3 (List.mem_of_getElem? (i := 85) (by exact rfl))) (by decide +kernel)
set_option maxRecDepth 100000 in
theorem qw_643 : GW lw_tbl (.methodLink RX6 59 yX6_isLetter) := gw_s (gt_t3 (List.mem_of_getElem? (i := 86) (by exact rfl))) (by decide +kernel)
set_option maxRecDepth 100000 in
theorem qw_644 : GW lw_tbl (.static yX6_isLetter) := gw_s (gt_t3 (List.mem_of_getElem? (i := 87) (by exact rfl))) (by decide +kernel)
set_option maxRecDepth 100000 in
theorem qw_645 : GW lw_tbl (.code yX6_isLetter cX6_isLetter 1 (some .boolean)) := gw_s (gt_t3 (List.mem_of_getElem? (i := 88) (by exact rfl))) (by decide +kernel)
set_option maxRecDepth 100000 in
theorem qw_646 : GW lw_tbl (.methodLink RX6 62 yX6_addLetters) := gw_s (gt_t3 (List.mem_of_getElem? (i := 89) (by exact rfl))) (by decide +kernel)
set_option maxRecDepth 100000 in
theorem qw_648 : GW lw_tbl (.instanceMethod yX6_addLetters) := gw_s (gt_t3 (List.mem_of_getElem? (i := 91) (by exact rfl))) (by decide +kernel)
set_option maxRecDepth 100000 in
theorem qw_649 : GW lw_tbl (.code yX6_addLetters cX6_addLetters 2 none) := gw_s (gt_t3 (List.mem_of_getElem? (i := 92) (by exact rfl))) (by decide +kernel)
set_option maxRecDepth 100000 in
theorem qw_650 : GW lw_tbl (.methodLink RX6 74 yX6_wordNumber) := gw_s (gt_t3 (List.mem_of_getElem? (i := 93) (by exact rfl))) (by decide +kernel)
set_option maxRecDepth 100000 in
theorem qw_652 : GW lw_tbl (.instanceMethod yX6_wordNumber) := gw_s (gt_t3 (List.mem_of_getElem? (i := 95) (by exact rfl))) (by decide +kernel)
set_option maxRecDepth 100000 in
theorem qw_653 : GW lw_tbl (.code yX6_wordNumber cX6_wordNumber 5 (some .int)) := gw_s (gt_t3 (List.mem_of_getElem? (i := 96) (by exact rfl))) (by decide +kernel)
set_option maxRecDepth 100000 in
theorem qw_655 : GW lw_tbl (.methodLink RX6 79 yJ0_length_8abf5) := gw_s (gt_t3 (List.mem_of_getElem? (i := 98) (by exact rfl))) (by decide +kernel)
set_option maxRecDepth 100000 in
theorem qw_656 : GW lw_tbl (.instanceMethod yJ0_length_8abf5) := gw_s (gt_t3 (List.mem_of_getElem? (i := 99) (by exact rfl))) (by decide +kernel)
set_option maxRecDepth 100000 in
theorem qw_657 : GW lw_tbl (.selects RJ0 yJ0_length_8abf5 yJ0_length_8abf5) := gw_s (gt_t3 (List.mem_of_getElem? (i := 100) (by exact rfl))) (by decide +kernel)
set_option maxRecDepth 100000 in
theorem qw_658 : GW lw_tbl (.code yJ0_length_8abf5 cJ0_length_8abf5 1 (some .int)) := gw_s (gt_t3 (List.mem_of_getElem? (i := 101) (by exact rfl))) (by decide +kernel)
set_option maxRecDepth 100000 in
theorem qw_659 : GW lw_tbl (.methodLink RJ0 335 yJ0_coder_7d493) := gw_s (gt_t3 (List.mem_of_getElem? (i := 102) (by exact rfl))) (by decide +kernel)
set_option maxRecDepth 100000 in
theorem qw_660 : GW lw_tbl (.instanceMethod yJ0_coder_7d493) := gw_s (gt_t3 (List.mem_of_getElem? (i := 103) (by exact rfl))) (by decide +kernel)
set_option maxRecDepth 100000 in
theorem qw_661 : GW lw_tbl (.selects RJ0 yJ0_coder_7d493 yJ0_coder_7d493) := gw_s (gt_t3 (List.mem_of_getElem? (i := 104) (by exact rfl))) (by decide +kernel)
set_option maxRecDepth 100000 in
theorem qw_662 : GW lw_tbl (.code yJ0_coder_7d493 cJ0_coder_7d493 1 (some .byte)) := gw_s (gt_t3 (List.mem_of_getElem? (i := 105) (by exact rfl))) (by decide +kernel)
set_option maxRecDepth 100000 in
theorem qw_663 : GW lw_tbl (.fieldLink RJ0 38 "java/lang/String" "COMPACT_STRINGS" "Z") := gw_s (gt_t3 (List.mem_of_getElem? (i := 106) (by exact rfl))) (by decide +kernel)
set_option maxRecDepth 100000 in
theorem qw_665 : GW lw_tbl (.methodLink RX6 84 yJ0_charAt_5068e) := gw_s (gt_t3 (List.mem_of_getElem? (i := 108) (by exact rfl))) (by decide +kernel)
set_option maxRecDepth 100000 in
theorem qw_666 : GW lw_tbl (.instanceMethod yJ0_charAt_5068e) := gw_s (gt_t3 (List.mem_of_getElem? (i := 109) (by exact rfl))) (by decide +kernel)
set_option maxRecDepth 100000 in
theorem qw_667 : GW lw_tbl (.selects RJ0 yJ0_charAt_5068e yJ0_charAt_5068e) := gw_s (gt_t3 (List.mem_of_getElem? (i := 110) (by exact rfl))) (by decide +kernel)
set_option maxRecDepth 100000 in
theorem qw_668 : GW lw_tbl (.code yJ0_charAt_5068e cJ0_charAt_5068e 2 (some .char)) := gw_s (gt_t3 (List.mem_of_getElem? (i := 111) (by exact rfl))) (by decide +kernel)
set_option maxRecDepth 100000 in
theorem qw_669 : GW lw_tbl (.methodLink RJ0 492 yJ0_isLatin1_aae02) := gw_s (gt_t3 (List.mem_of_getElem? (i := 112) (by exact rfl))) (by decide +kernel)
set_option maxRecDepth 100000 in
theorem qw_670 : GW lw_tbl (.instanceMethod yJ0_isLatin1_aae02) := gw_s (gt_t3 (List.mem_of_getElem? (i := 113) (by exact rfl))) (by decide +kernel)
set_option maxRecDepth 100000 in
theorem qw_671 : GW lw_tbl (.selects RJ0 yJ0_isLatin1_aae02 yJ0_isLatin1_aae02) := gw_s (gt_t3 (List.mem_of_getElem? (i := 114) (by exact rfl))) (by decide +kernel)
set_option maxRecDepth 100000 in
theorem qw_672 : GW lw_tbl (.code yJ0_isLatin1_aae02 cJ0_isLatin1_aae02 1 (some .boolean)) := gw_s (gt_t3 (List.mem_of_getElem? (i := 115) (by exact rfl))) (by decide +kernel)
set_option maxRecDepth 100000 in
theorem qw_673 : GW lw_tbl (.methodLink RJ0 495 yJ1_charAt_3b067) := gw_s (gt_t3 (List.mem_of_getElem? (i := 116) (by exact rfl))) (by decide +kernel)
set_option maxRecDepth 100000 in
theorem qw_674 : GW lw_tbl (.static yJ1_charAt_3b067) := gw_s (gt_t3 (List.mem_of_getElem? (i := 117) (by exact rfl))) (by decide +kernel)
set_option maxRecDepth 100000 in
theorem qw_675 : GW lw_tbl (.code yJ1_charAt_3b067 cJ1_charAt_3b067 2 (some .char)) := gw_s (gt_t3 (List.mem_of_getElem? (i := 118) (by exact rfl))) (by decide +kernel)
set_option maxRecDepth 100000 in
theorem qw_676 : GW lw_tbl (.methodLink RJ1 9 yJ0_checkIndex_df160) := gw_s (gt_t3 (List.mem_of_getElem? (i := 119) (by exact rfl))) (by decide +kernel)
set_option maxRecDepth 100000 in
theorem qw_677 : GW lw_tbl (.static yJ0_checkIndex_df160) := gw_s (gt_t3 (List.mem_of_getElem? (i := 120) (by exact rfl))) (by decide +kernel)
set_option maxRecDepth 100000 in
theorem qw_678 : GW lw_tbl (.code yJ0_checkIndex_df160 cJ0_checkIndex_df160 2 none) := gw_s (gt_t3 (List.mem_of_getElem? (i := 121) (by exact rfl))) (by decide +kernel)
set_option maxRecDepth 100000 in
theorem qw_679 : GW lw_tbl (.fieldLink RJ0 1053 "jdk/internal/util/Preconditions" "SIOOBE_FORMATTER" "Ljava/util/function/BiFunction;") := gw_s (gt_t3 (List.mem_of_getElem? (i := 122) (by exact rfl))) (by decide +kernel)
set_option maxRecDepth 100000 in
theorem qw_681 : GW lw_tbl (.methodLink RJ0 1059 yJ3_checkIndex_8e157) := gw_s (gt_t3 (List.mem_of_getElem? (i := 124) (by exact rfl))) (by decide +kernel)
set_option maxRecDepth 100000 in
theorem qw_682 : GW lw_tbl (.static yJ3_checkIndex_8e157) := gw_s (gt_t3 (List.mem_of_getElem? (i := 125) (by exact rfl))) (by decide +kernel)
set_option maxRecDepth 100000 in
theorem qw_683 : GW lw_tbl (.code yJ3_checkIndex_8e157 cJ3_checkIndex_8e157 3 (some .int)) := gw_s (gt_t3 (List.mem_of_getElem? (i := 126) (by exact rfl))) (by decide +kernel)
set_option maxRecDepth 100000 in
theorem qw_684 : GW lw_tbl (.methodLink RJ0 498 yJ2_charAt_3b067) := gw_s (gt_t3 (List.mem_of_getElem? (i := 127) (by exact rfl))) (by decide +kernel)
set_option maxRecDepth 100000 in
theorem qw_685 : GW lw_tbl (.static yJ2_charAt_3b067) := gw_s (gt_t3 (List.mem_of_getElem? (i := 128) (by exact rfl))) (by decide +kernel)
set_option maxRecDepth 100000 in
theorem qw_686 : GW lw_tbl (.code yJ2_charAt_3b067 cJ2_charAt_3b067 2 (some .char)) := gw_s (gt_t3 (List.mem_of_getElem? (i := 129) (by exact rfl))) (by decide +kernel)
set_option maxRecDepth 100000 in
theorem qw_687 : GW lw_tbl (.methodLink RJ2 67 yJ2_checkIndex_2214a) := gw_s (gt_t3 (List.mem_of_getElem? (i := 130) (by exact rfl))) (by decide +kernel)
set_option maxRecDepth 100000 in
theorem qw_688 : GW lw_tbl (.static yJ2_checkIndex_2214a) := gw_s (gt_t3 (List.mem_of_getElem? (i := 131) (by exact rfl))) (by decide +kernel)
set_option maxRecDepth 100000 in
theorem qw_689 : GW lw_tbl (.code yJ2_checkIndex_2214a cJ2_checkIndex_2214a 2 none) := gw_s (gt_t3 (List.mem_of_getElem? (i := 132) (by exact rfl))) (by decide +kernel)
set_option maxRecDepth 100000 in
theorem qw_690 : GW lw_tbl (.methodLink RJ2 48 yJ2_length_9d52b) := gw_s (gt_t3 (List.mem_of_getElem? (i := 133) (by exact rfl))) (by decide +kernel)
set_option maxRecDepth 100000 in
theorem qw_691 : GW lw_tbl (.static yJ2_length_9d52b) := gw_s (gt_t3 (List.mem_of_getElem? (i := 134) (by exact rfl))) (by decide +kernel)
set_option maxRecDepth 100000 in
theorem qw_692 : GW lw_tbl (.code yJ2_length_9d52b cJ2_length_9d52b 1 (some .int)) := gw_s (gt_t3 (List.mem_of_getElem? (i := 135) (by exact rfl))) (by decide +kernel)
set_option maxRecDepth 100000 in
theorem qw_693 : GW lw_tbl (.methodLink RJ2 414 yJ0_checkIndex_df160) := gw_s (gt_t3 (List.mem_of_getElem? (i := 136) (by exact rfl))) (by decide +kernel)
set_option maxRecDepth 100000 in
theorem qw_694 : GW lw_tbl (.methodLink RJ2 71 yJ2_getChar_3b067) := gw_s (gt_t3 (List.mem_of_getElem? (i := 137) (by exact rfl))) (by decide +kernel)
set_option maxRecDepth 100000 in
theorem qw_695 : GW lw_tbl (.static yJ2_getChar_3b067) := gw_s (gt_t3 (List.mem_of_getElem? (i := 138) (by exact rfl))) (by decide +kernel)
set_option maxRecDepth 100000 in
theorem qw_696 : GW lw_tbl (.code yJ2_getChar_3b067 cJ2_getChar_3b067 2 (some .char)) := gw_s (gt_t3 (List.mem_of_getElem? (i := 139) (by exact rfl))) (by decide +kernel)
set_option maxRecDepth 100000 in
theorem qw_697 : GW lw_tbl (.fieldLink RJ2 44 "java/lang/StringUTF16" "$assertionsDisabled" "Z") := gw_s (gt_t3 (List.mem_of_getElem? (i := 140) (by exact rfl))) (by decide +kernel)
set_option maxRecDepth 100000 in
theorem qw_699 : GW lw_tbl (.fieldLink RJ2 59 "java/lang/StringUTF16" "HI_BYTE_SHIFT" "I") := gw_s (gt_t3 (List.mem_of_getElem? (i := 142) (by exact rfl))) (by decide +kernel)
set_option maxRecDepth 100000 in
theorem qw_701 : GW lw_tbl (.fieldLink RJ2 63 "java/lang/StringUTF16" "LO_BYTE_SHIFT" "I") := gw_s (gt_t3 (List.mem_of_getElem? (i := 144) (by exact rfl))) (by decide +kernel)
set_option maxRecDepth 100000 in
theorem qw_703 : GW lw_tbl (.methodLink RX6 88 yX6_isWord) := gw_s (gt_t3 (List.mem_of_getElem? (i := 146) (by exact rfl))) (by decide +kernel)
set_option maxRecDepth 100000 in
theorem qw_705 : GW lw_tbl (.instanceMethod yX6_isWord) := gw_s (gt_t3 (List.mem_of_getElem? (i := 148) (by exact rfl))) (by decide +kernel)
set_option maxRecDepth 100000 in
theorem qw_706 : GW lw_tbl (.code yX6_isWord cX6_isWord 5 (some .boolean)) := gw_s (gt_t3 (List.mem_of_getElem? (i := 149) (by exact rfl))) (by decide +kernel)
set_option maxRecDepth 100000 in
theorem qw_707 : GW lw_tbl (.methodLink RX6 55 yX6_keep) := gw_s (gt_t3 (List.mem_of_getElem? (i := 150) (by exact rfl))) (by decide +kernel)
set_option maxRecDepth 100000 in
theorem qw_709 : GW lw_tbl (.instanceMethod yX6_keep) := gw_s (gt_t3 (List.mem_of_getElem? (i := 152) (by exact rfl))) (by decide +kernel)
set_option maxRecDepth 100000 in
theorem qw_710 : GW lw_tbl (.code yX6_keep cX6_keep 4 none) := gw_s (gt_t3 (List.mem_of_getElem? (i := 153) (by exact rfl))) (by decide +kernel)
set_option maxRecDepth 100000 in
theorem qw_711 : GW lw_tbl (.methodLink RX6 65 yX6_isDigit) := gw_s (gt_t3 (List.mem_of_getElem? (i := 154) (by exact rfl))) (by decide +kernel)
set_option maxRecDepth 100000 in
theorem qw_712 : GW lw_tbl (.static yX6_isDigit) := gw_s (gt_t3 (List.mem_of_getElem? (i := 155) (by exact rfl))) (by decide +kernel)
set_option maxRecDepth 100000 in
theorem qw_713 : GW lw_tbl (.code yX6_isDigit cX6_isDigit 1 (some .boolean)) := gw_s (gt_t3 (List.mem_of_getElem? (i := 156) (by exact rfl))) (by decide +kernel)
set_option maxRecDepth 100000 in
theorem qw_714 : GW lw_tbl (.methodLink RX6 68 yX6_addDigits) := gw_s (gt_t3 (List.mem_of_getElem? (i := 157) (by exact rfl))) (by decide +kernel)
set_option maxRecDepth 100000 in
theorem qw_716 : GW lw_tbl (.instanceMethod yX6_addDigits) := gw_s (gt_t3 (List.mem_of_getElem? (i := 159) (by exact rfl))) (by decide +kernel)
set_option maxRecDepth 100000 in
theorem qw_717 : GW lw_tbl (.code yX6_addDigits cX6_addDigits 3 none) := gw_s (gt_t3 (List.mem_of_getElem? (i := 160) (by exact rfl))) (by decide +kernel)
set_option maxRecDepth 100000 in
theorem qw_718 : GW lw_tbl (.methodLink RX6 71 yX6_isSign) := gw_s (gt_t3 (List.mem_of_getElem? (i := 161) (by exact rfl))) (by decide +kernel)
set_option maxRecDepth 100000 in
theorem qw_719 : GW lw_tbl (.static yX6_isSign) := gw_s (gt_t3 (List.mem_of_getElem? (i := 162) (by exact rfl))) (by decide +kernel)
set_option maxRecDepth 100000 in
theorem qw_720 : GW lw_tbl (.code yX6_isSign cX6_isSign 1 (some .boolean)) := gw_s (gt_t3 (List.mem_of_getElem? (i := 163) (by exact rfl))) (by decide +kernel)
set_option maxRecDepth 100000 in
theorem qw_721 : GW lw_tbl (.methodLink RX2 34 yX2_moveTo) := gw_s (gt_t3 (List.mem_of_getElem? (i := 164) (by exact rfl))) (by decide +kernel)
set_option maxRecDepth 100000 in
theorem qw_723 : GW lw_tbl (.instanceMethod yX2_moveTo) := gw_s (gt_t3 (List.mem_of_getElem? (i := 166) (by exact rfl))) (by decide +kernel)
set_option maxRecDepth 100000 in
theorem qw_724 : GW lw_tbl (.code yX2_moveTo cX2_moveTo 2 none) := gw_s (gt_t3 (List.mem_of_getElem? (i := 167) (by exact rfl))) (by decide +kernel)
set_option maxRecDepth 100000 in
theorem qw_725 : GW lw_tbl (.methodLink RX2 37 yX2_readSteps) := gw_s (gt_t3 (List.mem_of_getElem? (i := 168) (by exact rfl))) (by decide +kernel)
set_option maxRecDepth 100000 in
theorem qw_727 : GW lw_tbl (.instanceMethod yX2_readSteps) := gw_s (gt_t3 (List.mem_of_getElem? (i := 170) (by exact rfl))) (by decide +kernel)
set_option maxRecDepth 100000 in
theorem qw_728 : GW lw_tbl (.code yX2_readSteps cX2_readSteps 6 (some (.object "VatHouse$Step"))) := gw_s (gt_t3 (List.mem_of_getElem? (i := 171) (by exact rfl))) (by decide +kernel)
set_option maxRecDepth 100000 in
theorem qw_729 : GW lw_tbl (.methodLink RX2 47 yX2_readStep) := gw_s (gt_t3 (List.mem_of_getElem? (i := 172) (by exact rfl))) (by decide +kernel)
set_option maxRecDepth 100000 in
theorem qw_731 : GW lw_tbl (.instanceMethod yX2_readStep) := gw_s (gt_t3 (List.mem_of_getElem? (i := 174) (by exact rfl))) (by decide +kernel)
set_option maxRecDepth 100000 in
theorem qw_732 : GW lw_tbl (.code yX2_readStep cX2_readStep 3 (some (.object "VatHouse$Step"))) := gw_s (gt_t3 (List.mem_of_getElem? (i := 175) (by exact rfl))) (by decide +kernel)
set_option maxRecDepth 100000 in
theorem qw_733 : GW lw_tbl (.classLink RX2 51 RX5) := gw_s (gt_t3 (List.mem_of_getElem? (i := 176) (by exact rfl))) (by decide +kernel)
set_option maxRecDepth 100000 in
theorem qw_734 : GW lw_tbl (.instantiable RX5 8) := gw_s (gt_t3 (List.mem_of_getElem? (i := 177) (by exact rfl))) (by decide +kernel)
set_option maxRecDepth 100000 in
theorem qw_735 : GW lw_tbl (.methodLink RX2 56 yX5_init) := gw_s (gt_t3 (List.mem_of_getElem? (i := 178) (by exact rfl))) (by decide +kernel)
set_option maxRecDepth 100000 in
theorem qw_736 : GW lw_tbl (.instanceMethod yX5_init) := gw_s (gt_t3 (List.mem_of_getElem? (i := 179) (by exact rfl))) (by decide +kernel)
set_option maxRecDepth 100000 in
theorem qw_737 : GW lw_tbl (.code yX5_init cX5_init 2 none) := gw_s (gt_t3 (List.mem_of_getElem? (i := 180) (by exact rfl))) (by decide +kernel)
set_option maxRecDepth 100000 in
theorem qw_738 : GW lw_tbl (.methodLink RX5 1 objectInit) := gw_s (gt_t3 (List.mem_of_getElem? (i := 181) (by exact rfl))) (by decide +kernel)
set_option maxRecDepth 100000 in
theorem qw_739 : GW lw_tbl (.fieldLink RX5 7 "VatHouse$Step" "word" "I") := gw_s (gt_t3 (List.mem_of_getElem? (i := 182) (by exact rfl))) (by decide +kernel)
set_option maxRecDepth 100000 in
theorem qw_740 : GW lw_tbl (.fieldLink RX4 51 "VatHouse$Step" "word" "I") := gw_s (gt_t3 (List.mem_of_getElem? (i := 183) (by exact rfl))) (by decide +kernel)
set_option maxRecDepth 100000 in
theorem qw_741 : GW lw_tbl (.fieldLink RX2 61 "VatHouse$Step" "word" "I") := gw_s (gt_t3 (List.mem_of_getElem? (i := 184) (by exact rfl))) (by decide +kernel)
set_option maxRecDepth 100000 in
theorem qw_742 : GW lw_tbl (.fieldLink RX4 67 "VatHouse$Step" "vat" "I") := gw_s (gt_t3 (List.mem_of_getElem? (i := 185) (by exact rfl))) (by decide +kernel)
set_option maxRecDepth 100000 in
theorem qw_743 : GW lw_tbl (.fieldLink RX2 76 "VatHouse$Step" "vat" "I") := gw_s (gt_t3 (List.mem_of_getElem? (i := 186) (by exact rfl))) (by decide +kernel)
set_option maxRecDepth 100000 in
theorem qw_744 : GW lw_tbl (.fieldLink RX4 76 "VatHouse$Step" "number" "I") := gw_s (gt_t3 (List.mem_of_getElem? (i := 187) (by exact rfl))) (by decide +kernel)
set_option maxRecDepth 100000 in
theorem qw_745 : GW lw_tbl (.fieldLink RX2 79 "VatHouse$Step" "number" "I") := gw_s (gt_t3 (List.mem_of_getElem? (i := 188) (by exact rfl))) (by decide +kernel)
set_option maxRecDepth 100000 in
theorem qw_746 : GW lw_tbl (.fieldLink RX2 94 "VatHouse$Step" "look" "I") := gw_s (gt_t3 (List.mem_of_getElem? (i := 189) (by exact rfl))) (by decide +kernel)
set_option maxRecDepth 100000 in
theorem qw_747 : GW lw_tbl (.fieldLink RX4 162 "VatHouse$Step" "look" "I") := gw_s (gt_t3 (List.mem_of_getElem? (i := 190) (by exact rfl))) (by decide +kernel)
set_option maxRecDepth 100000 in
theorem qw_748 : GW lw_tbl (.fieldLink RX2 97 "VatHouse$Step" "below" "Z") := gw_s (gt_t3 (List.mem_of_getElem? (i := 191) (by exact rfl))) (by decide +kernel)
set_option maxRecDepth 100000 in
theorem qw_749 : GW lw_tbl (.fieldLink RX4 158 "VatHouse$Step" "below" "Z") := gw_s (gt_t3 (List.mem_of_getElem? (i := 192) (by exact rfl))) (by decide +kernel)
set_option maxRecDepth 100000 in
theorem qw_750 : GW lw_tbl (.fieldLink RX2 85 "VatHouse$Step" "block" "LVatHouse$Step;") := gw_s (gt_t3 (List.mem_of_getElem? (i := 193) (by exact rfl))) (by decide +kernel)
set_option maxRecDepth 100000 in
theorem qw_751 : GW lw_tbl (.fieldLink RX4 114 "VatHouse$Step" "block" "LVatHouse$Step;") := gw_s (gt_t3 (List.mem_of_getElem? (i := 194) (by exact rfl))) (by decide +kernel)
set_option maxRecDepth 100000 in
theorem qw_752 : GW lw_tbl (.fieldLink RX4 117 "VatHouse$Step" "other" "LVatHouse$Step;") := gw_s (gt_t3 (List.mem_of_getElem? (i := 195) (by exact rfl))) (by decide +kernel)
set_option maxRecDepth 100000 in
theorem qw_753 : GW lw_tbl (.fieldLink RX2 91 "VatHouse$Step" "other" "LVatHouse$Step;") := gw_s (gt_t3 (List.mem_of_getElem? (i := 196) (by exact rfl))) (by decide +kernel)
set_option maxRecDepth 100000 in
theorem qw_754 : GW lw_tbl (.fieldLink RX2 50 "VatHouse$Step" "next" "LVatHouse$Step;") := gw_s (gt_t3 (List.mem_of_getElem? (i := 197) (by exact rfl))) (by decide +kernel)
set_option maxRecDepth 100000 in
theorem qw_755 : GW lw_tbl (.fieldLink RX4 63 "VatHouse$Step" "next" "LVatHouse$Step;") := gw_s (gt_t3 (List.mem_of_getElem? (i := 198) (by exact rfl))) (by decide +kernel)
set_option maxRecDepth 100000 in
theorem qw_773 : GW lw_tbl (.methodLink RX2 58 yX2_refuse) := gw_s (gt_t3 (List.mem_of_getElem? (i := 216) (by exact rfl))) (by decide +kernel)
set_option maxRecDepth 100000 in
theorem qw_775 : GW lw_tbl (.instanceMethod yX2_refuse) := gw_s (gt_t3 (List.mem_of_getElem? (i := 218) (by exact rfl))) (by decide +kernel)
set_option maxRecDepth 100000 in
theorem qw_776 : GW lw_tbl (.code yX2_refuse cX2_refuse 2 none) := gw_s (gt_t3 (List.mem_of_getElem? (i := 219) (by exact rfl))) (by decide +kernel)
set_option maxRecDepth 100000 in
theorem qw_777 : GW lw_tbl (.methodLink RX2 41 yX2_pass) := gw_s (gt_t3 (List.mem_of_getElem? (i := 220) (by exact rfl))) (by decide +kernel)
set_option maxRecDepth 100000 in
theorem qw_779 : GW lw_tbl (.instanceMethod yX2_pass) := gw_s (gt_t3 (List.mem_of_getElem? (i := 222) (by exact rfl))) (by decide +kernel)
set_option maxRecDepth 100000 in
theorem qw_780 : GW lw_tbl (.code yX2_pass cX2_pass 2 none) := gw_s (gt_t3 (List.mem_of_getElem? (i := 223) (by exact rfl))) (by decide +kernel)
set_option maxRecDepth 100000 in
theorem qw_781 : GW lw_tbl (.methodLink RX2 64 yX2_readPlain) := gw_s (gt_t3 (List.mem_of_getElem? (i := 224) (by exact rfl))) (by decide +kernel)
set_option maxRecDepth 100000 in
theorem qw_783 : GW lw_tbl (.instanceMethod yX2_readPlain) := gw_s (gt_t3 (List.mem_of_getElem? (i := 226) (by exact rfl))) (by decide +kernel)
set_option maxRecDepth 100000 in
theorem qw_784 : GW lw_tbl (.code yX2_readPlain cX2_readPlain 2 none) := gw_s (gt_t3 (List.mem_of_getElem? (i := 227) (by exact rfl))) (by decide +kernel)
set_option maxRecDepth 100000 in
theorem qw_785 : GW lw_tbl (.methodLink RX2 72 yX2_readNumber) := gw_s (gt_t3 (List.mem_of_getElem? (i := 228) (by exact rfl))) (by decide +kernel)
set_option maxRecDepth 100000 in
theorem qw_787 : GW lw_tbl (.instanceMethod yX2_readNumber) := gw_s (gt_t3 (List.mem_of_getElem? (i := 230) (by exact rfl))) (by decide +kernel)
set_option maxRecDepth 100000 in
theorem qw_788 : GW lw_tbl (.code yX2_readNumber cX2_readNumber 4 (some .int)) := gw_s (gt_t3 (List.mem_of_getElem? (i := 231) (by exact rfl))) (by decide +kernel)
set_option maxRecDepth 100000 in
theorem qw_789 : GW lw_tbl (.methodLink RX2 68 yX2_readBuilt) := gw_s (gt_t3 (List.mem_of_getElem? (i := 232) (by exact rfl))) (by decide +kernel)
set_option maxRecDepth 100000 in
theorem qw_791 : GW lw_tbl (.instanceMethod yX2_readBuilt) := gw_s (gt_t3 (List.mem_of_getElem? (i := 234) (by exact rfl))) (by decide +kernel)
set_option maxRecDepth 100000 in
theorem qw_792 : GW lw_tbl (.code yX2_readBuilt cX2_readBuilt 3 none) := gw_s (gt_t3 (List.mem_of_getElem? (i := 235) (by exact rfl))) (by decide +kernel)
set_option maxRecDepth 100000 in
theorem qw_793 : GW lw_tbl (.methodLink RX2 82 yX2_readBlock) := gw_s (gt_t3 (List.mem_of_getElem? (i := 236) (by exact rfl))) (by decide +kernel)
set_option maxRecDepth 100000 in
theorem qw_795 : GW lw_tbl (.instanceMethod yX2_readBlock) := gw_s (gt_t3 (List.mem_of_getElem? (i := 238) (by exact rfl))) (by decide +kernel)
set_option maxRecDepth 100000 in
theorem qw_796 : GW lw_tbl (.code yX2_readBlock cX2_readBlock 3 (some (.object "VatHouse$Step"))) := gw_s (gt_t3 (List.mem_of_getElem? (i := 239) (by exact rfl))) (by decide +kernel)
set_option maxRecDepth 100000 in
theorem qw_797 : GW lw_tbl (.methodLink RX2 88 yX2_readTest) := gw_s (gt_t4 (List.mem_of_getElem? (i := 0) (by exact rfl))) (by decide +kernel)
set_option maxRecDepth 100000 in
theorem qw_799 : GW lw_tbl (.instanceMethod yX2_readTest) := gw_s (gt_t4 (List.mem_of_getElem? (i := 2) (by exact rfl))) (by decide +kernel)
set_option maxRecDepth 100000 in
theorem qw_800 : GW lw_tbl (.code yX2_readTest cX2_readTest 2 none) := gw_s (gt_t4 (List.mem_of_getElem? (i := 3) (by exact rfl))) (by decide +kernel)
set_option maxRecDepth 100000 in
theorem qw_801 : GW lw_tbl (.instantiable RX3 1) := gw_s (gt_t4 (List.mem_of_getElem? (i := 4) (by exact rfl))) (by decide +kernel)
set_option maxRecDepth 100000 in
theorem qw_802 : GW lw_tbl (.methodLink RX9 137 yX3_init) := gw_s (gt_t4 (List.mem_of_getElem? (i := 5) (by exact rfl))) (by decide +kernel)
set_option maxRecDepth 100000 in
theorem qw_803 : GW lw_tbl (.instanceMethod yX3_init) := gw_s (gt_t4 (List.mem_of_getElem? (i := 6) (by exact rfl))) (by decide +kernel)
set_option maxRecDepth 100000 in
theorem qw_804 : GW lw_tbl (.code yX3_init cX3_init 2 none) := gw_s (gt_t4 (List.mem_of_getElem? (i := 7) (by exact rfl))) (by decide +kernel)
set_option maxRecDepth 100000 in
theorem qw_805 : GW lw_tbl (.methodLink RX3 1 objectInit) := gw_s (gt_t4 (List.mem_of_getElem? (i := 8) (by exact rfl))) (by decide +kernel)
set_option maxRecDepth 100000 in
theorem qw_806 : GW lw_tbl (.fieldLink RX3 7 "VatHouse$Recipe" "first" "LVatHouse$Step;") := gw_s (gt_t4 (List.mem_of_getElem? (i := 9) (by exact rfl))) (by decide +kernel)
set_option maxRecDepth 100000 in
theorem qw_807 : GW lw_tbl (.fieldLink RX9 156 "VatHouse$Recipe" "first" "LVatHouse$Step;") := gw_s (gt_t4 (List.mem_of_getElem? (i := 10) (by exact rfl))) (by decide +kernel)
set_option maxRecDepth 100000 in
theorem qw_811 : GW lw_tbl (.methodLink RL 107 yL_fault) := gw_s (gt_t4 (List.mem_of_getElem? (i := 14) (by exact rfl))) (by decide +kernel)
set_option maxRecDepth 100000 in
theorem qw_812 : GW lw_tbl (.static yL_fault) := gw_s (gt_t4 (List.mem_of_getElem? (i := 15) (by exact rfl))) (by decide +kernel)
set_option maxRecDepth 100000 in
theorem qw_813 : GW lw_tbl (.codeWith yL_fault cL_fault 4 (some .int) [(0, 9, 12, 13)]) := gw_s (gt_t4 (List.mem_of_getElem? (i := 16) (by exact rfl))) (by decide +kernel)
set_option maxRecDepth 100000 in
theorem qw_814 : GW lw_tbl (.methodLink RL 37 yX9_fault) := gw_s (gt_t4 (List.mem_of_getElem? (i := 17) (by exact rfl))) (by decide +kernel)
set_option maxRecDepth 100000 in
theorem qw_815 : GW lw_tbl (.instanceMethod yX9_fault) := gw_s (gt_t4 (List.mem_of_getElem? (i := 18) (by exact rfl))) (by decide +kernel)
set_option maxRecDepth 100000 in
theorem qw_816 : GW lw_tbl (.selects RX9 yX9_fault yX9_fault) := gw_s (gt_t4 (List.mem_of_getElem? (i := 19) (by exact rfl))) (by decide +kernel)
set_option maxRecDepth 100000 in
theorem qw_817 : GW lw_tbl (.code yX9_fault cX9_fault 2 (some .int)) := gw_s (gt_t4 (List.mem_of_getElem? (i := 20) (by exact rfl))) (by decide +kernel)
set_option maxRecDepth 100000 in
theorem qw_819 : GW lw_tbl (.methodLink RL 110 yL_run) := gw_s (gt_t4 (List.mem_of_getElem? (i := 22) (by exact rfl))) (by decide +kernel)
set_option maxRecDepth 100000 in
theorem qw_820 : GW lw_tbl (.static yL_run) := gw_s (gt_t4 (List.mem_of_getElem? (i := 23) (by exact rfl))) (by decide +kernel)
set_option maxRecDepth 100000 in
theorem qw_821 : GW lw_tbl (.codeWith yL_run cL_run 6 (some .int) [(0, 12, 15, 13)]) := gw_s (gt_t4 (List.mem_of_getElem? (i := 24) (by exact rfl))) (by decide +kernel)
set_option maxRecDepth 100000 in
theorem qw_822 : GW lw_tbl (.methodLink RL 40 yX9_run) := gw_s (gt_t4 (List.mem_of_getElem? (i := 25) (by exact rfl))) (by decide +kernel)
set_option maxRecDepth 100000 in
theorem qw_823 : GW lw_tbl (.instanceMethod yX9_run) := gw_s (gt_t4 (List.mem_of_getElem? (i := 26) (by exact rfl))) (by decide +kernel)
set_option maxRecDepth 100000 in
theorem qw_824 : GW lw_tbl (.selects RX9 yX9_run yX9_run) := gw_s (gt_t4 (List.mem_of_getElem? (i := 27) (by exact rfl))) (by decide +kernel)
set_option maxRecDepth 100000 in
theorem qw_825 : GW lw_tbl (.code yX9_run cX9_run 6 (some .int)) := gw_s (gt_t4 (List.mem_of_getElem? (i := 28) (by exact rfl))) (by decide +kernel)
set_option maxRecDepth 100000 in
theorem qw_826 : GW lw_tbl (.methodLink RX9 160 yX4_follow) := gw_s (gt_t4 (List.mem_of_getElem? (i := 29) (by exact rfl))) (by decide +kernel)
set_option maxRecDepth 100000 in
theorem qw_827 : GW lw_tbl (.instanceMethod yX4_follow) := gw_s (gt_t4 (List.mem_of_getElem? (i := 30) (by exact rfl))) (by decide +kernel)
set_option maxRecDepth 100000 in
theorem qw_828 : GW lw_tbl (.selects RX4 yX4_follow yX4_follow) := gw_s (gt_t4 (List.mem_of_getElem? (i := 31) (by exact rfl))) (by decide +kernel)
set_option maxRecDepth 100000 in
theorem qw_829 : GW lw_tbl (.code yX4_follow cX4_follow 5 (some .int)) := gw_s (gt_t4 (List.mem_of_getElem? (i := 32) (by exact rfl))) (by decide +kernel)
set_option maxRecDepth 100000 in
theorem qw_830 : GW lw_tbl (.methodLink RX4 34 yX4_doSteps) := gw_s (gt_t4 (List.mem_of_getElem? (i := 33) (by exact rfl))) (by decide +kernel)
set_option maxRecDepth 100000 in
theorem qw_832 : GW lw_tbl (.instanceMethod yX4_doSteps) := gw_s (gt_t4 (List.mem_of_getElem? (i := 35) (by exact rfl))) (by decide +kernel)
set_option maxRecDepth 100000 in
theorem qw_833 : GW lw_tbl (.code yX4_doSteps cX4_doSteps 6 (some .int)) := gw_s (gt_t4 (List.mem_of_getElem? (i := 36) (by exact rfl))) (by decide +kernel)
set_option maxRecDepth 100000 in
theorem qw_834 : GW lw_tbl (.methodLink RX4 47 yX4_mayCount) := gw_s (gt_t4 (List.mem_of_getElem? (i := 37) (by exact rfl))) (by decide +kernel)
set_option maxRecDepth 100000 in
theorem qw_836 : GW lw_tbl (.instanceMethod yX4_mayCount) := gw_s (gt_t4 (List.mem_of_getElem? (i := 39) (by exact rfl))) (by decide +kernel)
set_option maxRecDepth 100000 in
theorem qw_837 : GW lw_tbl (.code yX4_mayCount cX4_mayCount 1 (some .boolean)) := gw_s (gt_t4 (List.mem_of_getElem? (i := 40) (by exact rfl))) (by decide +kernel)
set_option maxRecDepth 100000 in
theorem qw_838 : GW lw_tbl (.methodLink RX4 56 yX4_doPlain) := gw_s (gt_t4 (List.mem_of_getElem? (i := 41) (by exact rfl))) (by decide +kernel)
set_option maxRecDepth 100000 in
theorem qw_840 : GW lw_tbl (.instanceMethod yX4_doPlain) := gw_s (gt_t4 (List.mem_of_getElem? (i := 43) (by exact rfl))) (by decide +kernel)
set_option maxRecDepth 100000 in
theorem qw_841 : GW lw_tbl (.code yX4_doPlain cX4_doPlain 3 (some .int)) := gw_s (gt_t4 (List.mem_of_getElem? (i := 44) (by exact rfl))) (by decide +kernel)
set_option maxRecDepth 100000 in
theorem qw_842 : GW lw_tbl (.methodLink RX4 70 yX8_vatAt) := gw_s (gt_t4 (List.mem_of_getElem? (i := 45) (by exact rfl))) (by decide +kernel)
set_option maxRecDepth 100000 in
theorem qw_843 : GW lw_tbl (.methodLink RX4 79 yX4_doDip) := gw_s (gt_t4 (List.mem_of_getElem? (i := 46) (by exact rfl))) (by decide +kernel)
set_option maxRecDepth 100000 in
theorem qw_845 : GW lw_tbl (.instanceMethod yX4_doDip) := gw_s (gt_t4 (List.mem_of_getElem? (i := 48) (by exact rfl))) (by decide +kernel)
set_option maxRecDepth 100000 in
theorem qw_846 : GW lw_tbl (.code yX4_doDip cX4_doDip 5 (some .int)) := gw_s (gt_t4 (List.mem_of_getElem? (i := 49) (by exact rfl))) (by decide +kernel)
set_option maxRecDepth 100000 in
theorem qw_847 : GW lw_tbl (.methodLink RX4 129 yX7_givesTo) := gw_s (gt_t4 (List.mem_of_getElem? (i := 50) (by exact rfl))) (by decide +kernel)
set_option maxRecDepth 100000 in
theorem qw_848 : GW lw_tbl (.methodLink RX4 133 yX8_dipInto) := gw_s (gt_t4 (List.mem_of_getElem? (i := 51) (by exact rfl))) (by decide +kernel)
set_option maxRecDepth 100000 in
theorem qw_849 : GW lw_tbl (.methodLink RX4 83 yX4_doAir) := gw_s (gt_t4 (List.mem_of_getElem? (i := 52) (by exact rfl))) (by decide +kernel)
set_option maxRecDepth 100000 in
theorem qw_851 : GW lw_tbl (.instanceMethod yX4_doAir) := gw_s (gt_t4 (List.mem_of_getElem? (i := 54) (by exact rfl))) (by decide +kernel)
set_option maxRecDepth 100000 in
theorem qw_852 : GW lw_tbl (.code yX4_doAir cX4_doAir 2 (some .int)) := gw_s (gt_t4 (List.mem_of_getElem? (i := 55) (by exact rfl))) (by decide +kernel)
set_option maxRecDepth 100000 in
theorem qw_853 : GW lw_tbl (.methodLink RX4 142 yX8_airOut) := gw_s (gt_t4 (List.mem_of_getElem? (i := 56) (by exact rfl))) (by decide +kernel)
set_option maxRecDepth 100000 in
theorem qw_854 : GW lw_tbl (.methodLink RX4 87 yX8_washOut) := gw_s (gt_t4 (List.mem_of_getElem? (i := 57) (by exact rfl))) (by decide +kernel)
set_option maxRecDepth 100000 in
theorem qw_855 : GW lw_tbl (.methodLink RX4 90 yX4_doRest) := gw_s (gt_t4 (List.mem_of_getElem? (i := 58) (by exact rfl))) (by decide +kernel)
set_option maxRecDepth 100000 in
theorem qw_857 : GW lw_tbl (.instanceMethod yX4_doRest) := gw_s (gt_t4 (List.mem_of_getElem? (i := 60) (by exact rfl))) (by decide +kernel)
set_option maxRecDepth 100000 in
theorem qw_858 : GW lw_tbl (.code yX4_doRest cX4_doRest 3 (some .int)) := gw_s (gt_t4 (List.mem_of_getElem? (i := 61) (by exact rfl))) (by decide +kernel)
set_option maxRecDepth 100000 in
theorem qw_859 : GW lw_tbl (.methodLink RX4 145 yX8_passHour) := gw_s (gt_t4 (List.mem_of_getElem? (i := 62) (by exact rfl))) (by decide +kernel)
set_option maxRecDepth 100000 in
theorem qw_860 : GW lw_tbl (.methodLink RX4 94 yX7_takeFood) := gw_s (gt_t4 (List.mem_of_getElem? (i := 63) (by exact rfl))) (by decide +kernel)
set_option maxRecDepth 100000 in
theorem qw_861 : GW lw_tbl (.methodLink RX4 100 yX4_doLime) := gw_s (gt_t4 (List.mem_of_getElem? (i := 64) (by exact rfl))) (by decide +kernel)
set_option maxRecDepth 100000 in
theorem qw_863 : GW lw_tbl (.instanceMethod yX4_doLime) := gw_s (gt_t4 (List.mem_of_getElem? (i := 66) (by exact rfl))) (by decide +kernel)
set_option maxRecDepth 100000 in
theorem qw_864 : GW lw_tbl (.code yX4_doLime cX4_doLime 2 (some .int)) := gw_s (gt_t4 (List.mem_of_getElem? (i := 67) (by exact rfl))) (by decide +kernel)
set_option maxRecDepth 100000 in
theorem qw_865 : GW lw_tbl (.methodLink RX4 148 yX7_takeLime) := gw_s (gt_t4 (List.mem_of_getElem? (i := 68) (by exact rfl))) (by decide +kernel)
set_option maxRecDepth 100000 in
theorem qw_866 : GW lw_tbl (.methodLink RX4 60 yX4_doBuilt) := gw_s (gt_t4 (List.mem_of_getElem? (i := 69) (by exact rfl))) (by decide +kernel)
set_option maxRecDepth 100000 in
theorem qw_868 : GW lw_tbl (.instanceMethod yX4_doBuilt) := gw_s (gt_t4 (List.mem_of_getElem? (i := 71) (by exact rfl))) (by decide +kernel)
set_option maxRecDepth 100000 in
theorem qw_869 : GW lw_tbl (.code yX4_doBuilt cX4_doBuilt 4 (some .int)) := gw_s (gt_t4 (List.mem_of_getElem? (i := 72) (by exact rfl))) (by decide +kernel)
set_option maxRecDepth 100000 in
theorem qw_870 : GW lw_tbl (.methodLink RX4 104 yX4_doTimes) := gw_s (gt_t4 (List.mem_of_getElem? (i := 73) (by exact rfl))) (by decide +kernel)
set_option maxRecDepth 100000 in
theorem qw_872 : GW lw_tbl (.instanceMethod yX4_doTimes) := gw_s (gt_t4 (List.mem_of_getElem? (i := 75) (by exact rfl))) (by decide +kernel)
set_option maxRecDepth 100000 in
theorem qw_873 : GW lw_tbl (.code yX4_doTimes cX4_doTimes 6 (some .int)) := gw_s (gt_t4 (List.mem_of_getElem? (i := 76) (by exact rfl))) (by decide +kernel)
set_option maxRecDepth 100000 in
theorem qw_874 : GW lw_tbl (.methodLink RX4 107 yX4_doUntil) := gw_s (gt_t4 (List.mem_of_getElem? (i := 77) (by exact rfl))) (by decide +kernel)
set_option maxRecDepth 100000 in
theorem qw_876 : GW lw_tbl (.instanceMethod yX4_doUntil) := gw_s (gt_t4 (List.mem_of_getElem? (i := 79) (by exact rfl))) (by decide +kernel)
set_option maxRecDepth 100000 in
theorem qw_877 : GW lw_tbl (.code yX4_doUntil cX4_doUntil 6 (some .int)) := gw_s (gt_t4 (List.mem_of_getElem? (i := 80) (by exact rfl))) (by decide +kernel)
set_option maxRecDepth 100000 in
theorem qw_878 : GW lw_tbl (.methodLink RX4 151 yX0_shade) := gw_s (gt_t4 (List.mem_of_getElem? (i := 81) (by exact rfl))) (by decide +kernel)
set_option maxRecDepth 100000 in
theorem qw_879 : GW lw_tbl (.instanceMethod yX0_shade) := gw_s (gt_t4 (List.mem_of_getElem? (i := 82) (by exact rfl))) (by decide +kernel)
set_option maxRecDepth 100000 in
theorem qw_880 : GW lw_tbl (.selects RX0 yX0_shade yX0_shade) := gw_s (gt_t4 (List.mem_of_getElem? (i := 83) (by exact rfl))) (by decide +kernel)
set_option maxRecDepth 100000 in
theorem qw_881 : GW lw_tbl (.code yX0_shade cX0_shade 1 (some .int)) := gw_s (gt_t4 (List.mem_of_getElem? (i := 84) (by exact rfl))) (by decide +kernel)
set_option maxRecDepth 100000 in
theorem qw_882 : GW lw_tbl (.methodLink RX4 110 yX4_holds) := gw_s (gt_t4 (List.mem_of_getElem? (i := 85) (by exact rfl))) (by decide +kernel)
set_option maxRecDepth 100000 in
theorem qw_884 : GW lw_tbl (.instanceMethod yX4_holds) := gw_s (gt_t4 (List.mem_of_getElem? (i := 87) (by exact rfl))) (by decide +kernel)
set_option maxRecDepth 100000 in
theorem qw_885 : GW lw_tbl (.code yX4_holds cX4_holds 4 (some .boolean)) := gw_s (gt_t4 (List.mem_of_getElem? (i := 88) (by exact rfl))) (by decide +kernel)
set_option maxRecDepth 100000 in
theorem qw_886 : GW lw_tbl (.methodLink RX4 155 yX4_lookAt) := gw_s (gt_t4 (List.mem_of_getElem? (i := 89) (by exact rfl))) (by decide +kernel)
set_option maxRecDepth 100000 in
theorem qw_888 : GW lw_tbl (.instanceMethod yX4_lookAt) := gw_s (gt_t4 (List.mem_of_getElem? (i := 91) (by exact rfl))) (by decide +kernel)
set_option maxRecDepth 100000 in
theorem qw_889 : GW lw_tbl (.code yX4_lookAt cX4_lookAt 3 (some .int)) := gw_s (gt_t4 (List.mem_of_getElem? (i := 92) (by exact rfl))) (by decide +kernel)
set_option maxRecDepth 100000 in
theorem qw_890 : GW lw_tbl (.methodLink RX4 120 yX4_doTry) := gw_s (gt_t4 (List.mem_of_getElem? (i := 93) (by exact rfl))) (by decide +kernel)
set_option maxRecDepth 100000 in
theorem qw_892 : GW lw_tbl (.instanceMethod yX4_doTry) := gw_s (gt_t4 (List.mem_of_getElem? (i := 95) (by exact rfl))) (by decide +kernel)
set_option maxRecDepth 100000 in
theorem qw_893 : GW lw_tbl (.code yX4_doTry cX4_doTry 5 (some .int)) := gw_s (gt_t4 (List.mem_of_getElem? (i := 96) (by exact rfl))) (by decide +kernel)
set_option maxRecDepth 100000 in
theorem qw_894 : GW lw_tbl (.methodLink RX4 123 yX4_doWithLast) := gw_s (gt_t4 (List.mem_of_getElem? (i := 97) (by exact rfl))) (by decide +kernel)
set_option maxRecDepth 100000 in
theorem qw_896 : GW lw_tbl (.instanceMethod yX4_doWithLast) := gw_s (gt_t4 (List.mem_of_getElem? (i := 99) (by exact rfl))) (by decide +kernel)
set_option maxRecDepth 100000 in
theorem qw_897 : GW lw_tbl (.code yX4_doWithLast cX4_doWithLast 6 (some .int)) := gw_s (gt_t4 (List.mem_of_getElem? (i := 100) (by exact rfl))) (by decide +kernel)
set_option maxRecDepth 100000 in
theorem qw_898 : GW lw_tbl (.methodLink RX4 38 Lib.Math.max.name) := gw_s (gt_t4 (List.mem_of_getElem? (i := 101) (by exact rfl))) (by decide +kernel)
set_option maxRecDepth 100000 in
theorem qw_899 : GW lw_tbl (.methodLink RL 113 yL_ran) := gw_s (gt_t4 (List.mem_of_getElem? (i := 102) (by exact rfl))) (by decide +kernel)
set_option maxRecDepth 100000 in
theorem qw_900 : GW lw_tbl (.static yL_ran) := gw_s (gt_t4 (List.mem_of_getElem? (i := 103) (by exact rfl))) (by decide +kernel)
set_option maxRecDepth 100000 in
theorem qw_901 : GW lw_tbl (.codeWith yL_ran cL_ran 4 (some .int) [(0, 9, 12, 13)]) := gw_s (gt_t4 (List.mem_of_getElem? (i := 104) (by exact rfl))) (by decide +kernel)
set_option maxRecDepth 100000 in
theorem qw_902 : GW lw_tbl (.methodLink RL 43 yX9_ran) := gw_s (gt_t4 (List.mem_of_getElem? (i := 105) (by exact rfl))) (by decide +kernel)
set_option maxRecDepth 100000 in
theorem qw_903 : GW lw_tbl (.instanceMethod yX9_ran) := gw_s (gt_t4 (List.mem_of_getElem? (i := 106) (by exact rfl))) (by decide +kernel)
set_option maxRecDepth 100000 in
theorem qw_904 : GW lw_tbl (.selects RX9 yX9_ran yX9_ran) := gw_s (gt_t4 (List.mem_of_getElem? (i := 107) (by exact rfl))) (by decide +kernel)
set_option maxRecDepth 100000 in
theorem qw_905 : GW lw_tbl (.code yX9_ran cX9_ran 2 (some .int)) := gw_s (gt_t4 (List.mem_of_getElem? (i := 108) (by exact rfl))) (by decide +kernel)
set_option maxRecDepth 100000 in
theorem qw_906 : GW lw_tbl (.methodLink RL 116 yL_plan) := gw_s (gt_t4 (List.mem_of_getElem? (i := 109) (by exact rfl))) (by decide +kernel)
set_option maxRecDepth 100000 in
theorem qw_907 : GW lw_tbl (.static yL_plan) := gw_s (gt_t4 (List.mem_of_getElem? (i := 110) (by exact rfl))) (by decide +kernel)
set_option maxRecDepth 100000 in
theorem qw_908 : GW lw_tbl (.codeWith yL_plan cL_plan 7 (some .int) [(0, 14, 17, 13), (0, 14, 21, 18)]) := gw_s (gt_t4 (List.mem_of_getElem? (i := 111) (by exact rfl))) (by decide +kernel)
set_option maxRecDepth 100000 in
theorem qw_909 : GW lw_tbl (.methodLink RL 46 yX9_plan) := gw_s (gt_t4 (List.mem_of_getElem? (i := 112) (by exact rfl))) (by decide +kernel)
set_option maxRecDepth 100000 in
theorem qw_910 : GW lw_tbl (.instanceMethod yX9_plan) := gw_s (gt_t4 (List.mem_of_getElem? (i := 113) (by exact rfl))) (by decide +kernel)
set_option maxRecDepth 100000 in
theorem qw_911 : GW lw_tbl (.selects RX9 yX9_plan yX9_plan) := gw_s (gt_t4 (List.mem_of_getElem? (i := 114) (by exact rfl))) (by decide +kernel)
set_option maxRecDepth 100000 in
theorem qw_912 : GW lw_tbl (.code yX9_plan cX9_plan 6 (some .int)) := gw_s (gt_t4 (List.mem_of_getElem? (i := 115) (by exact rfl))) (by decide +kernel)
set_option maxRecDepth 100000 in
theorem qw_913 : GW lw_tbl (.methodLink RX9 182 yX1_fewest) := gw_s (gt_t4 (List.mem_of_getElem? (i := 116) (by exact rfl))) (by decide +kernel)
set_option maxRecDepth 100000 in
theorem qw_914 : GW lw_tbl (.instanceMethod yX1_fewest) := gw_s (gt_t4 (List.mem_of_getElem? (i := 117) (by exact rfl))) (by decide +kernel)
set_option maxRecDepth 100000 in
theorem qw_915 : GW lw_tbl (.selects RX1 yX1_fewest yX1_fewest) := gw_s (gt_t4 (List.mem_of_getElem? (i := 118) (by exact rfl))) (by decide +kernel)
set_option maxRecDepth 100000 in
theorem qw_916 : GW lw_tbl (.code yX1_fewest cX1_fewest 6 (some .int)) := gw_s (gt_t4 (List.mem_of_getElem? (i := 119) (by exact rfl))) (by decide +kernel)
set_option maxRecDepth 100000 in
theorem qw_917 : GW lw_tbl (.methodLink RX1 50 yX8_vatAt) := gw_s (gt_t4 (List.mem_of_getElem? (i := 120) (by exact rfl))) (by decide +kernel)
set_option maxRecDepth 100000 in
theorem qw_918 : GW lw_tbl (.methodLink RX1 56 yX7_copyFrom) := gw_s (gt_t4 (List.mem_of_getElem? (i := 121) (by exact rfl))) (by decide +kernel)
set_option maxRecDepth 100000 in
theorem qw_919 : GW lw_tbl (.instanceMethod yX7_copyFrom) := gw_s (gt_t4 (List.mem_of_getElem? (i := 122) (by exact rfl))) (by decide +kernel)
set_option maxRecDepth 100000 in
theorem qw_920 : GW lw_tbl (.selects RX7 yX7_copyFrom yX7_copyFrom) := gw_s (gt_t4 (List.mem_of_getElem? (i := 123) (by exact rfl))) (by decide +kernel)
set_option maxRecDepth 100000 in
theorem qw_921 : GW lw_tbl (.code yX7_copyFrom cX7_copyFrom 2 none) := gw_s (gt_t4 (List.mem_of_getElem? (i := 124) (by exact rfl))) (by decide +kernel)
set_option maxRecDepth 100000 in
theorem qw_922 : GW lw_tbl (.methodLink RX1 60 yX0_copyFrom) := gw_s (gt_t4 (List.mem_of_getElem? (i := 125) (by exact rfl))) (by decide +kernel)
set_option maxRecDepth 100000 in
theorem qw_923 : GW lw_tbl (.instanceMethod yX0_copyFrom) := gw_s (gt_t4 (List.mem_of_getElem? (i := 126) (by exact rfl))) (by decide +kernel)
set_option maxRecDepth 100000 in
theorem qw_924 : GW lw_tbl (.selects RX0 yX0_copyFrom yX0_copyFrom) := gw_s (gt_t4 (List.mem_of_getElem? (i := 127) (by exact rfl))) (by decide +kernel)
set_option maxRecDepth 100000 in
theorem qw_925 : GW lw_tbl (.code yX0_copyFrom cX0_copyFrom 2 none) := gw_s (gt_t4 (List.mem_of_getElem? (i := 128) (by exact rfl))) (by decide +kernel)
set_option maxRecDepth 100000 in
theorem qw_926 : GW lw_tbl (.methodLink RX1 63 yX1_reaches) := gw_s (gt_t4 (List.mem_of_getElem? (i := 129) (by exact rfl))) (by decide +kernel)
set_option maxRecDepth 100000 in
theorem qw_928 : GW lw_tbl (.instanceMethod yX1_reaches) := gw_s (gt_t4 (List.mem_of_getElem? (i := 131) (by exact rfl))) (by decide +kernel)
set_option maxRecDepth 100000 in
theorem qw_929 : GW lw_tbl (.code yX1_reaches cX1_reaches 5 (some .boolean)) := gw_s (gt_t4 (List.mem_of_getElem? (i := 132) (by exact rfl))) (by decide +kernel)
set_option maxRecDepth 100000 in
theorem qw_930 : GW lw_tbl (.methodLink RX1 73 yX0_shade) := gw_s (gt_t4 (List.mem_of_getElem? (i := 133) (by exact rfl))) (by decide +kernel)
set_option maxRecDepth 100000 in
theorem qw_931 : GW lw_tbl (.methodLink RX1 77 yX1_reachesBy) := gw_s (gt_t4 (List.mem_of_getElem? (i := 134) (by exact rfl))) (by decide +kernel)
set_option maxRecDepth 100000 in
theorem qw_933 : GW lw_tbl (.instanceMethod yX1_reachesBy) := gw_s (gt_t4 (List.mem_of_getElem? (i := 136) (by exact rfl))) (by decide +kernel)
set_option maxRecDepth 100000 in
theorem qw_934 : GW lw_tbl (.code yX1_reachesBy cX1_reachesBy 13 (some .boolean)) := gw_s (gt_t4 (List.mem_of_getElem? (i := 137) (by exact rfl))) (by decide +kernel)
set_option maxRecDepth 100000 in
theorem qw_935 : GW lw_tbl (.methodLink RX1 81 yX7_givesTo) := gw_s (gt_t4 (List.mem_of_getElem? (i := 138) (by exact rfl))) (by decide +kernel)
set_option maxRecDepth 100000 in
theorem qw_936 : GW lw_tbl (.methodLink RX1 100 yX7_soak) := gw_s (gt_t4 (List.mem_of_getElem? (i := 139) (by exact rfl))) (by decide +kernel)
set_option maxRecDepth 100000 in
theorem qw_937 : GW lw_tbl (.methodLink RX1 104 yX0_loseByAir) := gw_s (gt_t4 (List.mem_of_getElem? (i := 140) (by exact rfl))) (by decide +kernel)
set_option maxRecDepth 100000 in
theorem qw_938 : GW lw_tbl (.methodLink RL 120 yL_planned) := gw_s (gt_t4 (List.mem_of_getElem? (i := 141) (by exact rfl))) (by decide +kernel)
set_option maxRecDepth 100000 in
theorem qw_939 : GW lw_tbl (.static yL_planned) := gw_s (gt_t4 (List.mem_of_getElem? (i := 142) (by exact rfl))) (by decide +kernel)
set_option maxRecDepth 100000 in
theorem qw_940 : GW lw_tbl (.codeWith yL_planned cL_planned 5 (some .int) [(0, 10, 13, 13)]) := gw_s (gt_t4 (List.mem_of_getElem? (i := 143) (by exact rfl))) (by decide +kernel)
set_option maxRecDepth 100000 in
theorem qw_941 : GW lw_tbl (.methodLink RL 50 yX9_planned) := gw_s (gt_t4 (List.mem_of_getElem? (i := 144) (by exact rfl))) (by decide +kernel)
set_option maxRecDepth 100000 in
theorem qw_942 : GW lw_tbl (.instanceMethod yX9_planned) := gw_s (gt_t4 (List.mem_of_getElem? (i := 145) (by exact rfl))) (by decide +kernel)
set_option maxRecDepth 100000 in
theorem qw_943 : GW lw_tbl (.selects RX9 yX9_planned yX9_planned) := gw_s (gt_t4 (List.mem_of_getElem? (i := 146) (by exact rfl))) (by decide +kernel)
set_option maxRecDepth 100000 in
theorem qw_944 : GW lw_tbl (.code yX9_planned cX9_planned 3 (some .int)) := gw_s (gt_t4 (List.mem_of_getElem? (i := 147) (by exact rfl))) (by decide +kernel)
set_option maxRecDepth 100000 in
theorem qw_946 : GW lw_tbl (.methodLink RL 123 yL_vat) := gw_s (gt_t4 (List.mem_of_getElem? (i := 149) (by exact rfl))) (by decide +kernel)
set_option maxRecDepth 100000 in
theorem qw_947 : GW lw_tbl (.static yL_vat) := gw_s (gt_t4 (List.mem_of_getElem? (i := 150) (by exact rfl))) (by decide +kernel)
set_option maxRecDepth 100000 in
theorem qw_948 : GW lw_tbl (.codeWith yL_vat cL_vat 5 (some .int) [(0, 10, 13, 13)]) := gw_s (gt_t4 (List.mem_of_getElem? (i := 151) (by exact rfl))) (by decide +kernel)
set_option maxRecDepth 100000 in
theorem qw_949 : GW lw_tbl (.methodLink RL 53 yX9_vat) := gw_s (gt_t4 (List.mem_of_getElem? (i := 152) (by exact rfl))) (by decide +kernel)
set_option maxRecDepth 100000 in
theorem qw_950 : GW lw_tbl (.instanceMethod yX9_vat) := gw_s (gt_t4 (List.mem_of_getElem? (i := 153) (by exact rfl))) (by decide +kernel)
set_option maxRecDepth 100000 in
theorem qw_951 : GW lw_tbl (.selects RX9 yX9_vat yX9_vat) := gw_s (gt_t4 (List.mem_of_getElem? (i := 154) (by exact rfl))) (by decide +kernel)
set_option maxRecDepth 100000 in
theorem qw_952 : GW lw_tbl (.code yX9_vat cX9_vat 4 (some .int)) := gw_s (gt_t4 (List.mem_of_getElem? (i := 155) (by exact rfl))) (by decide +kernel)
set_option maxRecDepth 100000 in
theorem qw_953 : GW lw_tbl (.methodLink RL 126 yL_about) := gw_s (gt_t4 (List.mem_of_getElem? (i := 156) (by exact rfl))) (by decide +kernel)
set_option maxRecDepth 100000 in
theorem qw_954 : GW lw_tbl (.static yL_about) := gw_s (gt_t4 (List.mem_of_getElem? (i := 157) (by exact rfl))) (by decide +kernel)
set_option maxRecDepth 100000 in
theorem qw_955 : GW lw_tbl (.codeWith yL_about cL_about 5 (some .int) [(0, 10, 13, 13)]) := gw_s (gt_t4 (List.mem_of_getElem? (i := 158) (by exact rfl))) (by decide +kernel)
set_option maxRecDepth 100000 in
theorem qw_956 : GW lw_tbl (.methodLink RL 56 yX9_about) := gw_s (gt_t4 (List.mem_of_getElem? (i := 159) (by exact rfl))) (by decide +kernel)
set_option maxRecDepth 100000 in
theorem qw_957 : GW lw_tbl (.instanceMethod yX9_about) := gw_s (gt_t4 (List.mem_of_getElem? (i := 160) (by exact rfl))) (by decide +kernel)
set_option maxRecDepth 100000 in
theorem qw_958 : GW lw_tbl (.selects RX9 yX9_about yX9_about) := gw_s (gt_t4 (List.mem_of_getElem? (i := 161) (by exact rfl))) (by decide +kernel)
set_option maxRecDepth 100000 in
theorem qw_959 : GW lw_tbl (.code yX9_about cX9_about 4 (some .int)) := gw_s (gt_t4 (List.mem_of_getElem? (i := 162) (by exact rfl))) (by decide +kernel)
set_option maxRecDepth 100000 in
theorem qw_960 : GW lw_tbl (.methodLink RX9 222 yX0_shade) := gw_s (gt_t4 (List.mem_of_getElem? (i := 163) (by exact rfl))) (by decide +kernel)
set_option maxRecDepth 100000 in
theorem qw_961 : GW lw_tbl (.methodLink RL 129 yL_count) := gw_s (gt_t4 (List.mem_of_getElem? (i := 164) (by exact rfl))) (by decide +kernel)
set_option maxRecDepth 100000 in
theorem qw_962 : GW lw_tbl (.static yL_count) := gw_s (gt_t4 (List.mem_of_getElem? (i := 165) (by exact rfl))) (by decide +kernel)
set_option maxRecDepth 100000 in
theorem qw_963 : GW lw_tbl (.codeWith yL_count cL_count 4 (some .int) [(0, 9, 12, 13)]) := gw_s (gt_t4 (List.mem_of_getElem? (i := 166) (by exact rfl))) (by decide +kernel)
set_option maxRecDepth 100000 in
theorem qw_964 : GW lw_tbl (.methodLink RL 59 yX9_count) := gw_s (gt_t4 (List.mem_of_getElem? (i := 167) (by exact rfl))) (by decide +kernel)
set_option maxRecDepth 100000 in
theorem qw_965 : GW lw_tbl (.instanceMethod yX9_count) := gw_s (gt_t4 (List.mem_of_getElem? (i := 168) (by exact rfl))) (by decide +kernel)
set_option maxRecDepth 100000 in
theorem qw_966 : GW lw_tbl (.selects RX9 yX9_count yX9_count) := gw_s (gt_t4 (List.mem_of_getElem? (i := 169) (by exact rfl))) (by decide +kernel)
set_option maxRecDepth 100000 in
theorem qw_967 : GW lw_tbl (.code yX9_count cX9_count 2 (some .int)) := gw_s (gt_t4 (List.mem_of_getElem? (i := 170) (by exact rfl))) (by decide +kernel)
set_option maxRecDepth 100000 in
theorem qw_968 : GW lw_tbl (.methodLink RL 132 yL_faded) := gw_s (gt_t4 (List.mem_of_getElem? (i := 171) (by exact rfl))) (by decide +kernel)
set_option maxRecDepth 100000 in
theorem qw_969 : GW lw_tbl (.static yL_faded) := gw_s (gt_t4 (List.mem_of_getElem? (i := 172) (by exact rfl))) (by decide +kernel)
set_option maxRecDepth 100000 in
theorem qw_970 : GW lw_tbl (.codeWith yL_faded cL_faded 6 (some .int) [(0, 12, 15, 13), (0, 12, 19, 18)]) := gw_s (gt_t4 (List.mem_of_getElem? (i := 173) (by exact rfl))) (by decide +kernel)
set_option maxRecDepth 100000 in
theorem qw_971 : GW lw_tbl (.methodLink RL 62 yX9_faded) := gw_s (gt_t4 (List.mem_of_getElem? (i := 174) (by exact rfl))) (by decide +kernel)
set_option maxRecDepth 100000 in
theorem qw_972 : GW lw_tbl (.instanceMethod yX9_faded) := gw_s (gt_t4 (List.mem_of_getElem? (i := 175) (by exact rfl))) (by decide +kernel)
set_option maxRecDepth 100000 in
theorem qw_973 : GW lw_tbl (.selects RX9 yX9_faded yX9_faded) := gw_s (gt_t4 (List.mem_of_getElem? (i := 176) (by exact rfl))) (by decide +kernel)
set_option maxRecDepth 100000 in
theorem qw_974 : GW lw_tbl (.code yX9_faded cX9_faded 5 (some .int)) := gw_s (gt_t4 (List.mem_of_getElem? (i := 177) (by exact rfl))) (by decide +kernel)
set_option maxRecDepth 100000 in
theorem qw_975 : GW lw_tbl (.methodLink RX9 236 yX0_hasSpan) := gw_s (gt_t4 (List.mem_of_getElem? (i := 178) (by exact rfl))) (by decide +kernel)
set_option maxRecDepth 100000 in
theorem qw_976 : GW lw_tbl (.instanceMethod yX0_hasSpan) := gw_s (gt_t4 (List.mem_of_getElem? (i := 179) (by exact rfl))) (by decide +kernel)
set_option maxRecDepth 100000 in
theorem qw_977 : GW lw_tbl (.selects RX0 yX0_hasSpan yX0_hasSpan) := gw_s (gt_t4 (List.mem_of_getElem? (i := 180) (by exact rfl))) (by decide +kernel)
set_option maxRecDepth 100000 in
theorem qw_978 : GW lw_tbl (.code yX0_hasSpan cX0_hasSpan 2 (some .boolean)) := gw_s (gt_t4 (List.mem_of_getElem? (i := 181) (by exact rfl))) (by decide +kernel)
set_option maxRecDepth 100000 in
theorem qw_979 : GW lw_tbl (.methodLink RX9 239 yX0_leastShade) := gw_s (gt_t4 (List.mem_of_getElem? (i := 182) (by exact rfl))) (by decide +kernel)
set_option maxRecDepth 100000 in
theorem qw_980 : GW lw_tbl (.instanceMethod yX0_leastShade) := gw_s (gt_t4 (List.mem_of_getElem? (i := 183) (by exact rfl))) (by decide +kernel)
set_option maxRecDepth 100000 in
theorem qw_981 : GW lw_tbl (.selects RX0 yX0_leastShade yX0_leastShade) := gw_s (gt_t4 (List.mem_of_getElem? (i := 184) (by exact rfl))) (by decide +kernel)
set_option maxRecDepth 100000 in
theorem qw_982 : GW lw_tbl (.code yX0_leastShade cX0_leastShade 2 (some .int)) := gw_s (gt_t4 (List.mem_of_getElem? (i := 185) (by exact rfl))) (by decide +kernel)
set_option maxRecDepth 100000 in
theorem qw_983 : GW lw_tbl (.methodLink RX0 31 yX0_shade) := gw_s (gt_t4 (List.mem_of_getElem? (i := 186) (by exact rfl))) (by decide +kernel)
set_option maxRecDepth 100000 in
theorem qw_984 : GW lw_tbl (.methodLink RX0 35 Lib.Math.max.name) := gw_s (gt_t4 (List.mem_of_getElem? (i := 187) (by exact rfl))) (by decide +kernel)
set_option maxRecDepth 100000 in
theorem qw_985 : GW lw_tbl (.methodLink RX9 243 yX0_greatestShade) := gw_s (gt_t4 (List.mem_of_getElem? (i := 188) (by exact rfl))) (by decide +kernel)
set_option maxRecDepth 100000 in
theorem qw_986 : GW lw_tbl (.instanceMethod yX0_greatestShade) := gw_s (gt_t4 (List.mem_of_getElem? (i := 189) (by exact rfl))) (by decide +kernel)
set_option maxRecDepth 100000 in
theorem qw_987 : GW lw_tbl (.selects RX0 yX0_greatestShade yX0_greatestShade) := gw_s (gt_t4 (List.mem_of_getElem? (i := 190) (by exact rfl))) (by decide +kernel)
set_option maxRecDepth 100000 in
theorem qw_988 : GW lw_tbl (.code yX0_greatestShade cX0_greatestShade 2 (some .int)) := gw_s (gt_t4 (List.mem_of_getElem? (i := 191) (by exact rfl))) (by decide +kernel)
set_option maxRecDepth 100000 in
theorem qw_989 : GW lw_tbl (.methodLink RL 135 yL_matching) := gw_s (gt_t4 (List.mem_of_getElem? (i := 192) (by exact rfl))) (by decide +kernel)
set_option maxRecDepth 100000 in
theorem qw_990 : GW lw_tbl (.static yL_matching) := gw_s (gt_t4 (List.mem_of_getElem? (i := 193) (by exact rfl))) (by decide +kernel)
set_option maxRecDepth 100000 in
theorem qw_991 : GW lw_tbl (.codeWith yL_matching cL_matching 5 (some .int) [(0, 10, 13, 13), (0, 10, 17, 18)]) := gw_s (gt_t4 (List.mem_of_getElem? (i := 194) (by exact rfl))) (by decide +kernel)
set_option maxRecDepth 100000 in
theorem qw_992 : GW lw_tbl (.methodLink RL 65 yX9_matching) := gw_s (gt_t4 (List.mem_of_getElem? (i := 195) (by exact rfl))) (by decide +kernel)
set_option maxRecDepth 100000 in
theorem qw_993 : GW lw_tbl (.instanceMethod yX9_matching) := gw_s (gt_t4 (List.mem_of_getElem? (i := 196) (by exact rfl))) (by decide +kernel)
set_option maxRecDepth 100000 in
theorem qw_994 : GW lw_tbl (.selects RX9 yX9_matching yX9_matching) := gw_s (gt_t4 (List.mem_of_getElem? (i := 197) (by exact rfl))) (by decide +kernel)
set_option maxRecDepth 100000 in
theorem qw_995 : GW lw_tbl (.code yX9_matching cX9_matching 7 (some .int)) := gw_s (gt_t4 (List.mem_of_getElem? (i := 198) (by exact rfl))) (by decide +kernel)
set_option maxRecDepth 100000 in
theorem qw_996 : GW lw_tbl (.methodLink RX9 246 yX0_spanMeets) := gw_s (gt_t4 (List.mem_of_getElem? (i := 199) (by exact rfl))) (by decide +kernel)
set_option maxRecDepth 100000 in
theorem qw_997 : GW lw_tbl (.instanceMethod yX0_spanMeets) := gw_s (gt_t4 (List.mem_of_getElem? (i := 200) (by exact rfl))) (by decide +kernel)
set_option maxRecDepth 100000 in
theorem qw_998 : GW lw_tbl (.selects RX0 yX0_spanMeets yX0_spanMeets) := gw_s (gt_t4 (List.mem_of_getElem? (i := 201) (by exact rfl))) (by decide +kernel)
set_option maxRecDepth 100000 in
theorem qw_999 : GW lw_tbl (.code yX0_spanMeets cX0_spanMeets 3 (some .boolean)) := gw_s (gt_t4 (List.mem_of_getElem? (i := 202) (by exact rfl))) (by decide +kernel)
set_option maxRecDepth 100000 in
theorem qw_1000 : GW lw_tbl (.methodLink RX0 41 yX0_hasSpan) := gw_s (gt_t4 (List.mem_of_getElem? (i := 203) (by exact rfl))) (by decide +kernel)
set_option maxRecDepth 100000 in
theorem qw_1001 : GW lw_tbl (.methodLink RX0 45 yX0_leastShade) := gw_s (gt_t4 (List.mem_of_getElem? (i := 204) (by exact rfl))) (by decide +kernel)
set_option maxRecDepth 100000 in
theorem qw_1002 : GW lw_tbl (.methodLink RX0 49 yX0_greatestShade) := gw_s (gt_t4 (List.mem_of_getElem? (i := 205) (by exact rfl))) (by decide +kernel)
set_option maxRecDepth 100000 in
theorem qw_1007 : GW lw_tbl (.code yX10_init cX10_init 2 none) := gw_s (gt_t4 (List.mem_of_getElem? (i := 210) (by exact rfl))) (by decide +kernel)
set_option maxRecDepth 100000 in
theorem qw_1008 : GW lw_tbl (.methodLink RX10 1 objectInit) := gw_s (gt_t4 (List.mem_of_getElem? (i := 211) (by exact rfl))) (by decide +kernel)
set_option maxRecDepth 100000 in
theorem qw_1009 : GW lw_tbl (.fieldLink RX10 105 "VatHouseModel" "thrown" "I") := gw_s (gt_t4 (List.mem_of_getElem? (i := 212) (by exact rfl))) (by decide +kernel)
set_option maxRecDepth 100000 in
theorem qw_1010 : GW lw_tbl (.fieldLink RX10 131 "VatHouseModel" "hours" "I") := gw_s (gt_t4 (List.mem_of_getElem? (i := 213) (by exact rfl))) (by decide +kernel)
set_option maxRecDepth 100000 in
theorem qw_1011 : GW lw_tbl (.fieldLink RX10 149 "VatHouseModel" "drain" "I") := gw_s (gt_t4 (List.mem_of_getElem? (i := 214) (by exact rfl))) (by decide +kernel)
set_option maxRecDepth 100000 in
theorem qw_1012 : GW lw_tbl (.fieldLink RX10 120 "VatHouseModel" "put" "I") := gw_s (gt_t4 (List.mem_of_getElem? (i := 215) (by exact rfl))) (by decide +kernel)
set_option maxRecDepth 100000 in
theorem qw_1013 : GW lw_tbl (.fieldLink RX10 7 "VatHouseModel" "grains" "[I") := gw_s (gt_t4 (List.mem_of_getElem? (i := 216) (by exact rfl))) (by decide +kernel)
set_option maxRecDepth 100000 in
theorem qw_1014 : GW lw_tbl (.fieldLink RX10 13 "VatHouseModel" "food" "[I") := gw_s (gt_t4 (List.mem_of_getElem? (i := 217) (by exact rfl))) (by decide +kernel)
set_option maxRecDepth 100000 in
theorem qw_1015 : GW lw_tbl (.fieldLink RX10 16 "VatHouseModel" "minutes" "[I") := gw_s (gt_t4 (List.mem_of_getElem? (i := 218) (by exact rfl))) (by decide +kernel)
set_option maxRecDepth 100000 in
theorem qw_1016 : GW lw_tbl (.fieldLink RX10 19 "VatHouseModel" "state" "[I") := gw_s (gt_t4 (List.mem_of_getElem? (i := 219) (by exact rfl))) (by decide +kernel)
set_option maxRecDepth 100000 in
theorem qw_1017 : GW lw_tbl (.fieldLink RX10 22 "VatHouseModel" "dips" "[I") := gw_s (gt_t4 (List.mem_of_getElem? (i := 220) (by exact rfl))) (by decide +kernel)
set_option maxRecDepth 100000 in
theorem qw_1018 : GW lw_tbl (.fieldLink RX10 25 "VatHouseModel" "dyed" "[I") := gw_s (gt_t4 (List.mem_of_getElem? (i := 221) (by exact rfl))) (by decide +kernel)
set_option maxRecDepth 100000 in
theorem qw_1019 : GW lw_tbl (.fieldLink RX10 28 "VatHouseModel" "isDipped" "[Z") := gw_s (gt_t4 (List.mem_of_getElem? (i := 222) (by exact rfl))) (by decide +kernel)
set_option maxRecDepth 100000 in
theorem qw_1020 : GW lw_tbl (.fieldLink RX10 32 "VatHouseModel" "wasDipped" "[Z") := gw_s (gt_t4 (List.mem_of_getElem? (i := 223) (by exact rfl))) (by decide +kernel)
set_option maxRecDepth 100000 in
theorem qw_1021 : GW lw_tbl (.fieldLink RX10 112 "VatHouseModel" "cloths" "I") := gw_s (gt_t4 (List.mem_of_getElem? (i := 224) (by exact rfl))) (by decide +kernel)
set_option maxRecDepth 100000 in
theorem qw_1022 : GW lw_tbl (.fieldLink RX10 35 "VatHouseModel" "weight" "[I") := gw_s (gt_t4 (List.mem_of_getElem? (i := 225) (by exact rfl))) (by decide +kernel)
set_option maxRecDepth 100000 in
theorem qw_1023 : GW lw_tbl (.fieldLink RX10 38 "VatHouseModel" "loose" "[I") := gw_s (gt_t4 (List.mem_of_getElem? (i := 226) (by exact rfl))) (by decide +kernel)
set_option maxRecDepth 100000 in
theorem qw_1024 : GW lw_tbl (.fieldLink RX10 41 "VatHouseModel" "fast" "[I") := gw_s (gt_t4 (List.mem_of_getElem? (i := 227) (by exact rfl))) (by decide +kernel)
set_option maxRecDepth 100000 in
theorem qw_1025 : GW lw_tbl (.fieldLink RX10 44 "VatHouseModel" "day" "[I") := gw_s (gt_t4 (List.mem_of_getElem? (i := 228) (by exact rfl))) (by decide +kernel)
set_option maxRecDepth 100000 in
theorem qw_1026 : GW lw_tbl (.fieldLink RX10 47 "VatHouseModel" "vats" "[I") := gw_s (gt_t4 (List.mem_of_getElem? (i := 229) (by exact rfl))) (by decide +kernel)
set_option maxRecDepth 100000 in
theorem qw_1027 : GW lw_tbl (.fieldLink RX10 50 "VatHouseModel" "often" "[I") := gw_s (gt_t4 (List.mem_of_getElem? (i := 230) (by exact rfl))) (by decide +kernel)
set_option maxRecDepth 100000 in
theorem qw_1028 : GW lw_tbl (.fieldLink RX10 53 "VatHouseModel" "tape" "[I") := gw_s (gt_t4 (List.mem_of_getElem? (i := 231) (by exact rfl))) (by decide +kernel)
set_option maxRecDepth 100000 in
theorem qw_1029 : GW lw_tbl (.fieldLink RX10 159 "VatHouseModel" "taped" "I") := gw_s (gt_t4 (List.mem_of_getElem? (i := 232) (by exact rfl))) (by decide +kernel)
set_option maxRecDepth 100000 in
theorem qw_1030 : GW lw_tbl (.fieldLink RX10 171 "VatHouseModel" "size" "I") := gw_s (gt_t4 (List.mem_of_getElem? (i := 233) (by exact rfl))) (by decide +kernel)
set_option maxRecDepth 100000 in
theorem qw_1031 : GW lw_tbl (.fieldLink RX10 168 "VatHouseModel" "at" "I") := gw_s (gt_t4 (List.mem_of_getElem? (i := 234) (by exact rfl))) (by decide +kernel)
set_option maxRecDepth 100000 in
theorem qw_1032 : GW lw_tbl (.fieldLink RX10 165 "VatHouseModel" "faultKind" "I") := gw_s (gt_t4 (List.mem_of_getElem? (i := 235) (by exact rfl))) (by decide +kernel)
set_option maxRecDepth 100000 in
theorem qw_1033 : GW lw_tbl (.fieldLink RX10 56 "VatHouseModel" "faultPlace" "I") := gw_s (gt_t4 (List.mem_of_getElem? (i := 236) (by exact rfl))) (by decide +kernel)
set_option maxRecDepth 100000 in
theorem qw_1034 : GW lw_tbl (.fieldLink RX10 243 "VatHouseModel" "value" "I") := gw_s (gt_t4 (List.mem_of_getElem? (i := 237) (by exact rfl))) (by decide +kernel)
set_option maxRecDepth 100000 in
theorem qw_1035 : GW lw_tbl (.fieldLink RX10 60 "VatHouseModel" "kind" "[I") := gw_s (gt_t4 (List.mem_of_getElem? (i := 238) (by exact rfl))) (by decide +kernel)
set_option maxRecDepth 100000 in
theorem qw_1036 : GW lw_tbl (.fieldLink RX10 63 "VatHouseModel" "one" "[I") := gw_s (gt_t4 (List.mem_of_getElem? (i := 239) (by exact rfl))) (by decide +kernel)
set_option maxRecDepth 100000 in
theorem qw_1037 : GW lw_tbl (.fieldLink RX10 66 "VatHouseModel" "two" "[I") := gw_s (gt_t5 (List.mem_of_getElem? (i := 0) (by exact rfl))) (by decide +kernel)
set_option maxRecDepth 100000 in
theorem qw_1038 : GW lw_tbl (.fieldLink RX10 69 "VatHouseModel" "look" "[I") := gw_s (gt_t5 (List.mem_of_getElem? (i := 1) (by exact rfl))) (by decide +kernel)
set_option maxRecDepth 100000 in
theorem qw_1039 : GW lw_tbl (.fieldLink RX10 72 "VatHouseModel" "sign" "[I") := gw_s (gt_t5 (List.mem_of_getElem? (i := 2) (by exact rfl))) (by decide +kernel)
set_option maxRecDepth 100000 in
theorem qw_1040 : GW lw_tbl (.fieldLink RX10 75 "VatHouseModel" "inner" "[I") := gw_s (gt_t5 (List.mem_of_getElem? (i := 3) (by exact rfl))) (by decide +kernel)
set_option maxRecDepth 100000 in
theorem qw_1041 : GW lw_tbl (.fieldLink RX10 78 "VatHouseModel" "other" "[I") := gw_s (gt_t5 (List.mem_of_getElem? (i := 4) (by exact rfl))) (by decide +kernel)
set_option maxRecDepth 100000 in
theorem qw_1042 : GW lw_tbl (.fieldLink RX10 81 "VatHouseModel" "next" "[I") := gw_s (gt_t5 (List.mem_of_getElem? (i := 5) (by exact rfl))) (by decide +kernel)
set_option maxRecDepth 100000 in
theorem qw_1043 : GW lw_tbl (.fieldLink RX10 84 "VatHouseModel" "first" "[I") := gw_s (gt_t5 (List.mem_of_getElem? (i := 6) (by exact rfl))) (by decide +kernel)
set_option maxRecDepth 100000 in
theorem qw_1044 : GW lw_tbl (.fieldLink RX10 87 "VatHouseModel" "many" "[I") := gw_s (gt_t5 (List.mem_of_getElem? (i := 7) (by exact rfl))) (by decide +kernel)
set_option maxRecDepth 100000 in
theorem qw_1045 : GW lw_tbl (.fieldLink RX10 249 "VatHouseModel" "nodes" "I") := gw_s (gt_t5 (List.mem_of_getElem? (i := 8) (by exact rfl))) (by decide +kernel)
set_option maxRecDepth 100000 in
theorem qw_1046 : GW lw_tbl (.fieldLink RX10 284 "VatHouseModel" "latest" "I") := gw_s (gt_t5 (List.mem_of_getElem? (i := 9) (by exact rfl))) (by decide +kernel)
set_option maxRecDepth 100000 in
theorem qw_1047 : GW lw_tbl (.fieldLink RX10 277 "VatHouseModel" "blocks" "I") := gw_s (gt_t5 (List.mem_of_getElem? (i := 10) (by exact rfl))) (by decide +kernel)
set_option maxRecDepth 100000 in
theorem qw_1048 : GW lw_tbl (.fieldLink RX10 290 "VatHouseModel" "limit" "I") := gw_s (gt_t5 (List.mem_of_getElem? (i := 11) (by exact rfl))) (by decide +kernel)
set_option maxRecDepth 100000 in
theorem qw_1049 : GW lw_tbl (.fieldLink RX10 287 "VatHouseModel" "counted" "I") := gw_s (gt_t5 (List.mem_of_getElem? (i := 12) (by exact rfl))) (by decide +kernel)
set_option maxRecDepth 100000 in
theorem qw_1050 : GW lw_tbl (.fieldLink RX10 313 "VatHouseModel" "ranDips" "I") := gw_s (gt_t5 (List.mem_of_getElem? (i := 13) (by exact rfl))) (by decide +kernel)
set_option maxRecDepth 100000 in
theorem qw_1051 : GW lw_tbl (.fieldLink RX10 310 "VatHouseModel" "ranGrains" "I") := gw_s (gt_t5 (List.mem_of_getElem? (i := 14) (by exact rfl))) (by decide +kernel)
set_option maxRecDepth 100000 in
theorem qw_1052 : GW lw_tbl (.fieldLink RX10 316 "VatHouseModel" "ranHours" "I") := gw_s (gt_t5 (List.mem_of_getElem? (i := 15) (by exact rfl))) (by decide +kernel)
set_option maxRecDepth 100000 in
theorem qw_1053 : GW lw_tbl (.fieldLink RX10 90 "VatHouseModel" "ran" "I") := gw_s (gt_t5 (List.mem_of_getElem? (i := 16) (by exact rfl))) (by decide +kernel)
set_option maxRecDepth 100000 in
theorem qw_1054 : GW lw_tbl (.fieldLink RX10 328 "VatHouseModel" "failure" "I") := gw_s (gt_t5 (List.mem_of_getElem? (i := 17) (by exact rfl))) (by decide +kernel)
set_option maxRecDepth 100000 in
theorem qw_1055 : GW lw_tbl (.fieldLink RX10 346 "VatHouseModel" "kept" "I") := gw_s (gt_t5 (List.mem_of_getElem? (i := 18) (by exact rfl))) (by decide +kernel)
set_option maxRecDepth 100000 in
theorem qw_1056 : GW lw_tbl (.fieldLink RX10 93 "VatHouseModel" "keptVat" "[I") := gw_s (gt_t5 (List.mem_of_getElem? (i := 19) (by exact rfl))) (by decide +kernel)
set_option maxRecDepth 100000 in
theorem qw_1057 : GW lw_tbl (.fieldLink RX10 96 "VatHouseModel" "keptMinutes" "[I") := gw_s (gt_t5 (List.mem_of_getElem? (i := 20) (by exact rfl))) (by decide +kernel)
set_option maxRecDepth 100000 in
theorem qw_1058 : GW lw_tbl (.fieldLink RX10 99 "VatHouseModel" "keptShade" "[I") := gw_s (gt_t5 (List.mem_of_getElem? (i := 21) (by exact rfl))) (by decide +kernel)
set_option maxRecDepth 100000 in
theorem qw_1059 : GW lw_tbl (.fieldLink RX10 102 "VatHouseModel" "then" "[I") := gw_s (gt_t5 (List.mem_of_getElem? (i := 22) (by exact rfl))) (by decide +kernel)
set_option maxRecDepth 100000 in
theorem qw_1163 : GW lw_tbl (.arrayClass .boolean) := gw_s (gt_t5 (List.mem_of_getElem? (i := 126) (by exact rfl))) (by decide +kernel)
set_option maxRecDepth 100000 in
theorem qw_1164 : GW lw_tbl (.methodLink RL 138 yX10_thrown) := gw_s (gt_t5 (List.mem_of_getElem? (i := 127) (by exact rfl))) (by decide +kernel)
set_option maxRecDepth 100000 in
theorem qw_1165 : GW lw_tbl (.instanceMethod yX10_thrown) := gw_s (gt_t5 (List.mem_of_getElem? (i := 128) (by exact rfl))) (by decide +kernel)
set_option maxRecDepth 100000 in
theorem qw_1166 : GW lw_tbl (.selects RX10 yX10_thrown yX10_thrown) := gw_s (gt_t5 (List.mem_of_getElem? (i := 129) (by exact rfl))) (by decide +kernel)
set_option maxRecDepth 100000 in
theorem qw_1167 : GW lw_tbl (.code yX10_thrown cX10_thrown 1 (some .int)) := gw_s (gt_t5 (List.mem_of_getElem? (i := 130) (by exact rfl))) (by decide +kernel)
set_option maxRecDepth 100000 in
theorem qw_1168 : GW lw_tbl (.methodLink RL 77 yX10_charge) := gw_s (gt_t5 (List.mem_of_getElem? (i := 131) (by exact rfl))) (by decide +kernel)
set_option maxRecDepth 100000 in
theorem qw_1169 : GW lw_tbl (.instanceMethod yX10_charge) := gw_s (gt_t5 (List.mem_of_getElem? (i := 132) (by exact rfl))) (by decide +kernel)
set_option maxRecDepth 100000 in
theorem qw_1170 : GW lw_tbl (.selects RX10 yX10_charge yX10_charge) := gw_s (gt_t5 (List.mem_of_getElem? (i := 133) (by exact rfl))) (by decide +kernel)
set_option maxRecDepth 100000 in
theorem qw_1171 : GW lw_tbl (.code yX10_charge cX10_charge 3 (some .int)) := gw_s (gt_t5 (List.mem_of_getElem? (i := 134) (by exact rfl))) (by decide +kernel)
set_option maxRecDepth 100000 in
theorem qw_1172 : GW lw_tbl (.methodLink RX10 115 yX10_isVat) := gw_s (gt_t5 (List.mem_of_getElem? (i := 135) (by exact rfl))) (by decide +kernel)
set_option maxRecDepth 100000 in
theorem qw_1174 : GW lw_tbl (.instanceMethod yX10_isVat) := gw_s (gt_t5 (List.mem_of_getElem? (i := 137) (by exact rfl))) (by decide +kernel)
set_option maxRecDepth 100000 in
theorem qw_1175 : GW lw_tbl (.code yX10_isVat cX10_isVat 2 (some .boolean)) := gw_s (gt_t5 (List.mem_of_getElem? (i := 138) (by exact rfl))) (by decide +kernel)
set_option maxRecDepth 100000 in
theorem qw_1176 : GW lw_tbl (.methodLink RX10 108 yX10_right) := gw_s (gt_t5 (List.mem_of_getElem? (i := 139) (by exact rfl))) (by decide +kernel)
set_option maxRecDepth 100000 in
theorem qw_1178 : GW lw_tbl (.instanceMethod yX10_right) := gw_s (gt_t5 (List.mem_of_getElem? (i := 141) (by exact rfl))) (by decide +kernel)
set_option maxRecDepth 100000 in
theorem qw_1179 : GW lw_tbl (.code yX10_right cX10_right 3 (some .boolean)) := gw_s (gt_t5 (List.mem_of_getElem? (i := 142) (by exact rfl))) (by decide +kernel)
set_option maxRecDepth 100000 in
theorem qw_1180 : GW lw_tbl (.constant RX10 119 (1000000)) := gw_s (gt_t5 (List.mem_of_getElem? (i := 143) (by exact rfl))) (by decide +kernel)
set_option maxRecDepth 100000 in
theorem qw_1181 : GW lw_tbl (.methodLink RL 80 yX10_feed) := gw_s (gt_t5 (List.mem_of_getElem? (i := 144) (by exact rfl))) (by decide +kernel)
set_option maxRecDepth 100000 in
theorem qw_1182 : GW lw_tbl (.instanceMethod yX10_feed) := gw_s (gt_t5 (List.mem_of_getElem? (i := 145) (by exact rfl))) (by decide +kernel)
set_option maxRecDepth 100000 in
theorem qw_1183 : GW lw_tbl (.selects RX10 yX10_feed yX10_feed) := gw_s (gt_t5 (List.mem_of_getElem? (i := 146) (by exact rfl))) (by decide +kernel)
set_option maxRecDepth 100000 in
theorem qw_1184 : GW lw_tbl (.code yX10_feed cX10_feed 3 (some .int)) := gw_s (gt_t5 (List.mem_of_getElem? (i := 147) (by exact rfl))) (by decide +kernel)
set_option maxRecDepth 100000 in
theorem qw_1185 : GW lw_tbl (.methodLink RX10 123 yX10_feeds) := gw_s (gt_t5 (List.mem_of_getElem? (i := 148) (by exact rfl))) (by decide +kernel)
set_option maxRecDepth 100000 in
theorem qw_1187 : GW lw_tbl (.instanceMethod yX10_feeds) := gw_s (gt_t5 (List.mem_of_getElem? (i := 150) (by exact rfl))) (by decide +kernel)
set_option maxRecDepth 100000 in
theorem qw_1188 : GW lw_tbl (.code yX10_feeds cX10_feeds 3 (some .boolean)) := gw_s (gt_t5 (List.mem_of_getElem? (i := 151) (by exact rfl))) (by decide +kernel)
set_option maxRecDepth 100000 in
theorem qw_1189 : GW lw_tbl (.methodLink RL 84 yX10_lime) := gw_s (gt_t5 (List.mem_of_getElem? (i := 152) (by exact rfl))) (by decide +kernel)
set_option maxRecDepth 100000 in
theorem qw_1190 : GW lw_tbl (.instanceMethod yX10_lime) := gw_s (gt_t5 (List.mem_of_getElem? (i := 153) (by exact rfl))) (by decide +kernel)
set_option maxRecDepth 100000 in
theorem qw_1191 : GW lw_tbl (.selects RX10 yX10_lime yX10_lime) := gw_s (gt_t5 (List.mem_of_getElem? (i := 154) (by exact rfl))) (by decide +kernel)
set_option maxRecDepth 100000 in
theorem qw_1192 : GW lw_tbl (.code yX10_lime cX10_lime 2 (some .int)) := gw_s (gt_t5 (List.mem_of_getElem? (i := 155) (by exact rfl))) (by decide +kernel)
set_option maxRecDepth 100000 in
theorem qw_1193 : GW lw_tbl (.methodLink RX10 127 yX10_limes) := gw_s (gt_t5 (List.mem_of_getElem? (i := 156) (by exact rfl))) (by decide +kernel)
