theorem q669 : Cond.code yX3_addMate cX3_addMate 5 none ∈ lw_good := mg (List.mem_append_right _ (tp_3 (List.mem_of_getElem? (i := 189) rfl))) rfl
theorem q670 : Cond.methodLinkNest RX11 137 yX6_copyFrom "SpinStrip" ∈ lw_nest := mn (List.mem_append_right _ (tp_3 (List.mem_of_getElem? (i := 190) rfl))) rfl
theorem q672 : Cond.instanceMethod yX6_copyFrom ∈ lw_good := mg (List.mem_append_right _ (tp_3 (List.mem_of_getElem? (i := 192) rfl))) rfl
theorem q673 : Cond.code yX6_copyFrom cX6_copyFrom 2 none ∈ lw_good := mg (List.mem_append_right _ (tp_3 (List.mem_of_getElem? (i := 193) rfl))) rfl
theorem q677 : Cond.methodLinkNest RX11 147 yX5_forget "SpinStrip" ∈ lw_nest := mn (List.mem_append_right _ (tp_3 (List.mem_of_getElem? (i := 197) rfl))) rfl
theorem q679 : Cond.instanceMethod yX5_forget ∈ lw_good := mg (List.mem_append_right _ (tp_3 (List.mem_of_getElem? (i := 199) rfl))) rfl
theorem q680 : Cond.code yX5_forget cX5_forget 1 none ∈ lw_good := mg (List.mem_append_right _ (tp_3 (List.mem_of_getElem? (i := 200) rfl))) rfl
theorem q681 : Cond.methodLink RX11 154 yX11_stampTies ∈ lw_good := mg (List.mem_append_right _ (tp_3 (List.mem_of_getElem? (i := 201) rfl))) rfl
theorem q683 : Cond.instanceMethod yX11_stampTies ∈ lw_good := mg (List.mem_append_right _ (tp_3 (List.mem_of_getElem? (i := 203) rfl))) rfl
theorem q684 : Cond.code yX11_stampTies cX11_stampTies 1 none ∈ lw_good := mg (List.mem_append_right _ (tp_3 (List.mem_of_getElem? (i := 204) rfl))) rfl
theorem q685 : Cond.methodLink RL 28 yX11_place ∈ lw_good := mg (List.mem_append_right _ (tp_3 (List.mem_of_getElem? (i := 205) rfl))) rfl
theorem q686 : Cond.instanceMethod yX11_place ∈ lw_good := mg (List.mem_append_right _ (tp_3 (List.mem_of_getElem? (i := 206) rfl))) rfl
theorem q687 : Cond.selects RX11 yX11_place yX11_place ∈ lw_good := mg (List.mem_append_right _ (tp_3 (List.mem_of_getElem? (i := 207) rfl))) rfl
theorem q688 : Cond.code yX11_place cX11_place 1 (some .int) ∈ lw_good := mg (List.mem_append_right _ (tp_3 (List.mem_of_getElem? (i := 208) rfl))) rfl
theorem q689 : Cond.methodLink RL 32 yX11_tie ∈ lw_good := mg (List.mem_append_right _ (tp_3 (List.mem_of_getElem? (i := 209) rfl))) rfl
theorem q690 : Cond.instanceMethod yX11_tie ∈ lw_good := mg (List.mem_append_right _ (tp_3 (List.mem_of_getElem? (i := 210) rfl))) rfl
theorem q691 : Cond.selects RX11 yX11_tie yX11_tie ∈ lw_good := mg (List.mem_append_right _ (tp_3 (List.mem_of_getElem? (i := 211) rfl))) rfl
theorem q692 : Cond.code yX11_tie cX11_tie 5 (some .boolean) ∈ lw_good := mg (List.mem_append_right _ (tp_3 (List.mem_of_getElem? (i := 212) rfl))) rfl
theorem q693 : Cond.methodLinkNest RX11 157 yX3_tiePlace "SpinStrip" ∈ lw_nest := mn (List.mem_append_right _ (tp_3 (List.mem_of_getElem? (i := 213) rfl))) rfl
theorem q695 : Cond.instanceMethod yX3_tiePlace ∈ lw_good := mg (List.mem_append_right _ (tp_3 (List.mem_of_getElem? (i := 215) rfl))) rfl
theorem q696 : Cond.code yX3_tiePlace cX3_tiePlace 4 (some .int) ∈ lw_good := mg (List.mem_append_right _ (tp_3 (List.mem_of_getElem? (i := 216) rfl))) rfl
theorem q697 : Cond.methodLink RX3 55 yX3_hasSite ∈ lw_good := mg (List.mem_append_right _ (tp_3 (List.mem_of_getElem? (i := 217) rfl))) rfl
theorem q699 : Cond.instanceMethod yX3_hasSite ∈ lw_good := mg (List.mem_append_right _ (tp_3 (List.mem_of_getElem? (i := 219) rfl))) rfl
theorem q700 : Cond.code yX3_hasSite cX3_hasSite 2 (some .boolean) ∈ lw_good := mg (List.mem_append_right _ (tp_3 (List.mem_of_getElem? (i := 220) rfl))) rfl
theorem q701 : Cond.methodLink RX3 59 yX3_endAt ∈ lw_good := mg (List.mem_append_right _ (tp_3 (List.mem_of_getElem? (i := 221) rfl))) rfl
theorem q703 : Cond.instanceMethod yX3_endAt ∈ lw_good := mg (List.mem_append_right _ (tp_3 (List.mem_of_getElem? (i := 223) rfl))) rfl
theorem q704 : Cond.code yX3_endAt cX3_endAt 2 (some .int) ∈ lw_good := mg (List.mem_append_right _ (tp_3 (List.mem_of_getElem? (i := 224) rfl))) rfl
theorem q705 : Cond.methodLink RX11 161 yX11_isJ ∈ lw_good := mg (List.mem_append_right _ (tp_3 (List.mem_of_getElem? (i := 225) rfl))) rfl
theorem q706 : Cond.static yX11_isJ ∈ lw_good := mg (List.mem_append_right _ (tp_3 (List.mem_of_getElem? (i := 226) rfl))) rfl
theorem q707 : Cond.code yX11_isJ cX11_isJ 1 (some .boolean) ∈ lw_good := mg (List.mem_append_right _ (tp_3 (List.mem_of_getElem? (i := 227) rfl))) rfl
theorem q708 : Cond.methodLinkNest RX11 165 yX6_bondAt "SpinStrip" ∈ lw_nest := mn (List.mem_append_right _ (tp_3 (List.mem_of_getElem? (i := 228) rfl))) rfl
theorem q710 : Cond.instanceMethod yX6_bondAt ∈ lw_good := mg (List.mem_append_right _ (tp_3 (List.mem_of_getElem? (i := 230) rfl))) rfl
theorem q711 : Cond.code yX6_bondAt cX6_bondAt 2 (some .int) ∈ lw_good := mg (List.mem_append_right _ (tp_3 (List.mem_of_getElem? (i := 231) rfl))) rfl
theorem q712 : Cond.methodLinkNest RX11 169 yX5_keep "SpinStrip" ∈ lw_nest := mn (List.mem_append_right _ (tp_3 (List.mem_of_getElem? (i := 232) rfl))) rfl
theorem q714 : Cond.instanceMethod yX5_keep ∈ lw_good := mg (List.mem_append_right _ (tp_3 (List.mem_of_getElem? (i := 234) rfl))) rfl
theorem q715 : Cond.code yX5_keep cX5_keep 2 none ∈ lw_good := mg (List.mem_append_right _ (tp_3 (List.mem_of_getElem? (i := 235) rfl))) rfl
theorem q716 : Cond.methodLinkNest RX5 25 yX6_copyFrom "SpinStrip" ∈ lw_nest := mn (List.mem_append_right _ (tp_3 (List.mem_of_getElem? (i := 236) rfl))) rfl
theorem q717 : Cond.methodLink RX5 29 yJ9_min_7cf53 ∈ lw_good := mg (List.mem_append_right _ (tp_3 (List.mem_of_getElem? (i := 237) rfl))) rfl
theorem q718 : Cond.static yJ9_min_7cf53 ∈ lw_good := mg (List.mem_append_right _ (tp_3 (List.mem_of_getElem? (i := 238) rfl))) rfl
theorem q719 : Cond.code yJ9_min_7cf53 cJ9_min_7cf53 2 (some .int) ∈ lw_good := mg (List.mem_append_right _ (tp_3 (List.mem_of_getElem? (i := 239) rfl))) rfl
theorem q720 : Cond.methodLinkNest RX11 172 yX6_setBond "SpinStrip" ∈ lw_nest := mn (List.mem_append_right _ (tp_4 (List.mem_of_getElem? (i := 0) rfl))) rfl
theorem q721 : Cond.methodLink RL 37 yX11_pull ∈ lw_good := mg (List.mem_append_right _ (tp_4 (List.mem_of_getElem? (i := 1) rfl))) rfl
theorem q722 : Cond.instanceMethod yX11_pull ∈ lw_good := mg (List.mem_append_right _ (tp_4 (List.mem_of_getElem? (i := 2) rfl))) rfl
theorem q723 : Cond.selects RX11 yX11_pull yX11_pull ∈ lw_good := mg (List.mem_append_right _ (tp_4 (List.mem_of_getElem? (i := 3) rfl))) rfl
theorem q724 : Cond.code yX11_pull cX11_pull 3 (some .boolean) ∈ lw_good := mg (List.mem_append_right _ (tp_4 (List.mem_of_getElem? (i := 4) rfl))) rfl
theorem q725 : Cond.methodLinkNest RX11 176 yX3_hasSite "SpinStrip" ∈ lw_nest := mn (List.mem_append_right _ (tp_4 (List.mem_of_getElem? (i := 5) rfl))) rfl
theorem q726 : Cond.methodLinkNest RX11 179 yX6_fieldAt "SpinStrip" ∈ lw_nest := mn (List.mem_append_right _ (tp_4 (List.mem_of_getElem? (i := 6) rfl))) rfl
theorem q728 : Cond.instanceMethod yX6_fieldAt ∈ lw_good := mg (List.mem_append_right _ (tp_4 (List.mem_of_getElem? (i := 8) rfl))) rfl
theorem q729 : Cond.code yX6_fieldAt cX6_fieldAt 2 (some .int) ∈ lw_good := mg (List.mem_append_right _ (tp_4 (List.mem_of_getElem? (i := 9) rfl))) rfl
theorem q730 : Cond.methodLinkNest RX11 182 yX6_setField "SpinStrip" ∈ lw_nest := mn (List.mem_append_right _ (tp_4 (List.mem_of_getElem? (i := 10) rfl))) rfl
theorem q731 : Cond.methodLink RL 42 yX11_pin ∈ lw_good := mg (List.mem_append_right _ (tp_4 (List.mem_of_getElem? (i := 11) rfl))) rfl
theorem q732 : Cond.instanceMethod yX11_pin ∈ lw_good := mg (List.mem_append_right _ (tp_4 (List.mem_of_getElem? (i := 12) rfl))) rfl
theorem q733 : Cond.selects RX11 yX11_pin yX11_pin ∈ lw_good := mg (List.mem_append_right _ (tp_4 (List.mem_of_getElem? (i := 13) rfl))) rfl
theorem q734 : Cond.code yX11_pin cX11_pin 3 (some .boolean) ∈ lw_good := mg (List.mem_append_right _ (tp_4 (List.mem_of_getElem? (i := 14) rfl))) rfl
theorem q735 : Cond.methodLinkNest RX11 185 yX6_pinAt "SpinStrip" ∈ lw_nest := mn (List.mem_append_right _ (tp_4 (List.mem_of_getElem? (i := 15) rfl))) rfl
theorem q737 : Cond.instanceMethod yX6_pinAt ∈ lw_good := mg (List.mem_append_right _ (tp_4 (List.mem_of_getElem? (i := 17) rfl))) rfl
theorem q738 : Cond.code yX6_pinAt cX6_pinAt 2 (some .int) ∈ lw_good := mg (List.mem_append_right _ (tp_4 (List.mem_of_getElem? (i := 18) rfl))) rfl
theorem q739 : Cond.methodLink RX6 53 yX6_isPinned ∈ lw_good := mg (List.mem_append_right _ (tp_4 (List.mem_of_getElem? (i := 19) rfl))) rfl
theorem q741 : Cond.instanceMethod yX6_isPinned ∈ lw_good := mg (List.mem_append_right _ (tp_4 (List.mem_of_getElem? (i := 21) rfl))) rfl
theorem q742 : Cond.code yX6_isPinned cX6_isPinned 2 (some .boolean) ∈ lw_good := mg (List.mem_append_right _ (tp_4 (List.mem_of_getElem? (i := 22) rfl))) rfl
theorem q743 : Cond.methodLinkNest RX6 49 yX11_bitOf "SpinStrip" ∈ lw_nest := mn (List.mem_append_right _ (tp_4 (List.mem_of_getElem? (i := 23) rfl))) rfl
theorem q744 : Cond.methodLinkNest RX11 188 yX6_setPin "SpinStrip" ∈ lw_nest := mn (List.mem_append_right _ (tp_4 (List.mem_of_getElem? (i := 24) rfl))) rfl
theorem q745 : Cond.methodLink RX11 194 yX11_stampPins ∈ lw_good := mg (List.mem_append_right _ (tp_4 (List.mem_of_getElem? (i := 25) rfl))) rfl
theorem q747 : Cond.instanceMethod yX11_stampPins ∈ lw_good := mg (List.mem_append_right _ (tp_4 (List.mem_of_getElem? (i := 27) rfl))) rfl
theorem q748 : Cond.code yX11_stampPins cX11_stampPins 1 none ∈ lw_good := mg (List.mem_append_right _ (tp_4 (List.mem_of_getElem? (i := 28) rfl))) rfl
theorem q749 : Cond.methodLink RL 46 yX11_glass ∈ lw_good := mg (List.mem_append_right _ (tp_4 (List.mem_of_getElem? (i := 29) rfl))) rfl
theorem q750 : Cond.instanceMethod yX11_glass ∈ lw_good := mg (List.mem_append_right _ (tp_4 (List.mem_of_getElem? (i := 30) rfl))) rfl
theorem q751 : Cond.selects RX11 yX11_glass yX11_glass ∈ lw_good := mg (List.mem_append_right _ (tp_4 (List.mem_of_getElem? (i := 31) rfl))) rfl
theorem q752 : Cond.code yX11_glass cX11_glass 5 (some .boolean) ∈ lw_good := mg (List.mem_append_right _ (tp_4 (List.mem_of_getElem? (i := 32) rfl))) rfl
theorem q753 : Cond.methodLinkNest RX11 200 yX3_endAt "SpinStrip" ∈ lw_nest := mn (List.mem_append_right _ (tp_4 (List.mem_of_getElem? (i := 33) rfl))) rfl
theorem q754 : Cond.methodLink RX11 203 yX11_nextLot ∈ lw_good := mg (List.mem_append_right _ (tp_4 (List.mem_of_getElem? (i := 34) rfl))) rfl
theorem q755 : Cond.static yX11_nextLot ∈ lw_good := mg (List.mem_append_right _ (tp_4 (List.mem_of_getElem? (i := 35) rfl))) rfl
theorem q756 : Cond.code yX11_nextLot cX11_nextLot 2 (some .long) ∈ lw_good := mg (List.mem_append_right _ (tp_4 (List.mem_of_getElem? (i := 36) rfl))) rfl
theorem q757 : Cond.constantLong RX11 483 (1103515245) ∈ lw_good := mg (List.mem_append_right _ (tp_4 (List.mem_of_getElem? (i := 37) rfl))) rfl
theorem q758 : Cond.constantLong RX11 485 (12345) ∈ lw_good := mg (List.mem_append_right _ (tp_4 (List.mem_of_getElem? (i := 38) rfl))) rfl
theorem q759 : Cond.constantLong RX11 487 (2147483648) ∈ lw_good := mg (List.mem_append_right _ (tp_4 (List.mem_of_getElem? (i := 39) rfl))) rfl
theorem q760 : Cond.methodLink RX11 207 yX11_lotOf ∈ lw_good := mg (List.mem_append_right _ (tp_4 (List.mem_of_getElem? (i := 40) rfl))) rfl
theorem q761 : Cond.static yX11_lotOf ∈ lw_good := mg (List.mem_append_right _ (tp_4 (List.mem_of_getElem? (i := 41) rfl))) rfl
theorem q762 : Cond.code yX11_lotOf cX11_lotOf 3 (some .int) ∈ lw_good := mg (List.mem_append_right _ (tp_4 (List.mem_of_getElem? (i := 42) rfl))) rfl
theorem q763 : Cond.constantLong RX11 489 (65536) ∈ lw_good := mg (List.mem_append_right _ (tp_4 (List.mem_of_getElem? (i := 43) rfl))) rfl
theorem q764 : Cond.methodLink RL 51 yX11_turn ∈ lw_good := mg (List.mem_append_right _ (tp_4 (List.mem_of_getElem? (i := 44) rfl))) rfl
theorem q765 : Cond.instanceMethod yX11_turn ∈ lw_good := mg (List.mem_append_right _ (tp_4 (List.mem_of_getElem? (i := 45) rfl))) rfl
theorem q766 : Cond.selects RX11 yX11_turn yX11_turn ∈ lw_good := mg (List.mem_append_right _ (tp_4 (List.mem_of_getElem? (i := 46) rfl))) rfl
theorem q767 : Cond.code yX11_turn cX11_turn 2 (some .boolean) ∈ lw_good := mg (List.mem_append_right _ (tp_4 (List.mem_of_getElem? (i := 47) rfl))) rfl
theorem q768 : Cond.methodLinkNest RX11 211 yX6_isPinned "SpinStrip" ∈ lw_nest := mn (List.mem_append_right _ (tp_4 (List.mem_of_getElem? (i := 48) rfl))) rfl
theorem q769 : Cond.methodLink RL 55 yX11_fall ∈ lw_good := mg (List.mem_append_right _ (tp_4 (List.mem_of_getElem? (i := 49) rfl))) rfl
theorem q770 : Cond.instanceMethod yX11_fall ∈ lw_good := mg (List.mem_append_right _ (tp_4 (List.mem_of_getElem? (i := 50) rfl))) rfl
theorem q771 : Cond.selects RX11 yX11_fall yX11_fall ∈ lw_good := mg (List.mem_append_right _ (tp_4 (List.mem_of_getElem? (i := 51) rfl))) rfl
theorem q772 : Cond.code yX11_fall cX11_fall 1 (some .int) ∈ lw_good := mg (List.mem_append_right _ (tp_4 (List.mem_of_getElem? (i := 52) rfl))) rfl
theorem q773 : Cond.methodLinkNest RX11 214 yX10_fallFrom "SpinStrip" ∈ lw_nest := mn (List.mem_append_right _ (tp_4 (List.mem_of_getElem? (i := 53) rfl))) rfl
theorem q775 : Cond.instanceMethod yX10_fallFrom ∈ lw_good := mg (List.mem_append_right _ (tp_4 (List.mem_of_getElem? (i := 55) rfl))) rfl
theorem q776 : Cond.code yX10_fallFrom cX10_fallFrom 6 none ∈ lw_good := mg (List.mem_append_right _ (tp_4 (List.mem_of_getElem? (i := 56) rfl))) rfl
theorem q777 : Cond.methodLinkNest RX10 18 yX3_steepest "SpinStrip" ∈ lw_nest := mn (List.mem_append_right _ (tp_4 (List.mem_of_getElem? (i := 57) rfl))) rfl
theorem q779 : Cond.instanceMethod yX3_steepest ∈ lw_good := mg (List.mem_append_right _ (tp_4 (List.mem_of_getElem? (i := 59) rfl))) rfl
theorem q780 : Cond.code yX3_steepest cX3_steepest 7 (some .int) ∈ lw_good := mg (List.mem_append_right _ (tp_4 (List.mem_of_getElem? (i := 60) rfl))) rfl
theorem q781 : Cond.methodLink RX3 78 yX3_costOfTurn ∈ lw_good := mg (List.mem_append_right _ (tp_4 (List.mem_of_getElem? (i := 61) rfl))) rfl
theorem q783 : Cond.instanceMethod yX3_costOfTurn ∈ lw_good := mg (List.mem_append_right _ (tp_4 (List.mem_of_getElem? (i := 63) rfl))) rfl
theorem q784 : Cond.code yX3_costOfTurn cX3_costOfTurn 8 (some .int) ∈ lw_good := mg (List.mem_append_right _ (tp_4 (List.mem_of_getElem? (i := 64) rfl))) rfl
theorem q785 : Cond.methodLinkNest RX3 75 yX6_fieldAt "SpinStrip" ∈ lw_nest := mn (List.mem_append_right _ (tp_4 (List.mem_of_getElem? (i := 65) rfl))) rfl
theorem q786 : Cond.methodLinkNest RX3 70 yX6_bondAt "SpinStrip" ∈ lw_nest := mn (List.mem_append_right _ (tp_4 (List.mem_of_getElem? (i := 66) rfl))) rfl
theorem q787 : Cond.methodLinkNest RX3 62 yX11_bitOf "SpinStrip" ∈ lw_nest := mn (List.mem_append_right _ (tp_4 (List.mem_of_getElem? (i := 67) rfl))) rfl
theorem q788 : Cond.methodLinkNest RX3 82 yX6_isPinned "SpinStrip" ∈ lw_nest := mn (List.mem_append_right _ (tp_4 (List.mem_of_getElem? (i := 68) rfl))) rfl
theorem q789 : Cond.methodLink RL 59 yX11_undo ∈ lw_good := mg (List.mem_append_right _ (tp_4 (List.mem_of_getElem? (i := 69) rfl))) rfl
theorem q790 : Cond.instanceMethod yX11_undo ∈ lw_good := mg (List.mem_append_right _ (tp_4 (List.mem_of_getElem? (i := 70) rfl))) rfl
theorem q791 : Cond.selects RX11 yX11_undo yX11_undo ∈ lw_good := mg (List.mem_append_right _ (tp_4 (List.mem_of_getElem? (i := 71) rfl))) rfl
theorem q792 : Cond.code yX11_undo cX11_undo 1 (some .boolean) ∈ lw_good := mg (List.mem_append_right _ (tp_4 (List.mem_of_getElem? (i := 72) rfl))) rfl
theorem q793 : Cond.methodLinkNest RX11 222 yX5_giveBack "SpinStrip" ∈ lw_nest := mn (List.mem_append_right _ (tp_4 (List.mem_of_getElem? (i := 73) rfl))) rfl
theorem q795 : Cond.instanceMethod yX5_giveBack ∈ lw_good := mg (List.mem_append_right _ (tp_4 (List.mem_of_getElem? (i := 75) rfl))) rfl
theorem q796 : Cond.code yX5_giveBack cX5_giveBack 3 (some .boolean) ∈ lw_good := mg (List.mem_append_right _ (tp_4 (List.mem_of_getElem? (i := 76) rfl))) rfl
theorem q797 : Cond.methodLink RL 64 yX11_site ∈ lw_good := mg (List.mem_append_right _ (tp_4 (List.mem_of_getElem? (i := 77) rfl))) rfl
theorem q798 : Cond.instanceMethod yX11_site ∈ lw_good := mg (List.mem_append_right _ (tp_4 (List.mem_of_getElem? (i := 78) rfl))) rfl
theorem q799 : Cond.selects RX11 yX11_site yX11_site ∈ lw_good := mg (List.mem_append_right _ (tp_4 (List.mem_of_getElem? (i := 79) rfl))) rfl
theorem q800 : Cond.code yX11_site cX11_site 3 (some .int) ∈ lw_good := mg (List.mem_append_right _ (tp_4 (List.mem_of_getElem? (i := 80) rfl))) rfl
theorem q801 : Cond.constant RX11 226 (-100000) ∈ lw_good := mg (List.mem_append_right _ (tp_4 (List.mem_of_getElem? (i := 81) rfl))) rfl
theorem q802 : Cond.methodLinkNest RX11 227 yX3_rowOf "SpinStrip" ∈ lw_nest := mn (List.mem_append_right _ (tp_4 (List.mem_of_getElem? (i := 82) rfl))) rfl
theorem q804 : Cond.instanceMethod yX3_rowOf ∈ lw_good := mg (List.mem_append_right _ (tp_4 (List.mem_of_getElem? (i := 84) rfl))) rfl
theorem q805 : Cond.code yX3_rowOf cX3_rowOf 2 (some .int) ∈ lw_good := mg (List.mem_append_right _ (tp_4 (List.mem_of_getElem? (i := 85) rfl))) rfl
theorem q806 : Cond.methodLinkNest RX11 230 yX3_columnOf "SpinStrip" ∈ lw_nest := mn (List.mem_append_right _ (tp_4 (List.mem_of_getElem? (i := 86) rfl))) rfl
theorem q808 : Cond.instanceMethod yX3_columnOf ∈ lw_good := mg (List.mem_append_right _ (tp_4 (List.mem_of_getElem? (i := 88) rfl))) rfl
theorem q809 : Cond.code yX3_columnOf cX3_columnOf 2 (some .int) ∈ lw_good := mg (List.mem_append_right _ (tp_4 (List.mem_of_getElem? (i := 89) rfl))) rfl
theorem q810 : Cond.methodLink RX11 233 yX11_bondOrNoTie ∈ lw_good := mg (List.mem_append_right _ (tp_4 (List.mem_of_getElem? (i := 90) rfl))) rfl
theorem q812 : Cond.instanceMethod yX11_bondOrNoTie ∈ lw_good := mg (List.mem_append_right _ (tp_4 (List.mem_of_getElem? (i := 92) rfl))) rfl
theorem q813 : Cond.code yX11_bondOrNoTie cX11_bondOrNoTie 2 (some .int) ∈ lw_good := mg (List.mem_append_right _ (tp_4 (List.mem_of_getElem? (i := 93) rfl))) rfl
theorem q814 : Cond.methodLink RX11 236 yX11_bitOf ∈ lw_good := mg (List.mem_append_right _ (tp_4 (List.mem_of_getElem? (i := 94) rfl))) rfl
theorem q815 : Cond.methodLinkNest RX11 240 yX3_costOfTurn "SpinStrip" ∈ lw_nest := mn (List.mem_append_right _ (tp_4 (List.mem_of_getElem? (i := 95) rfl))) rfl
theorem q816 : Cond.methodLink RL 117 yX11_square ∈ lw_good := mg (List.mem_append_right _ (tp_4 (List.mem_of_getElem? (i := 96) rfl))) rfl
theorem q817 : Cond.instanceMethod yX11_square ∈ lw_good := mg (List.mem_append_right _ (tp_4 (List.mem_of_getElem? (i := 97) rfl))) rfl
theorem q818 : Cond.selects RX11 yX11_square yX11_square ∈ lw_good := mg (List.mem_append_right _ (tp_4 (List.mem_of_getElem? (i := 98) rfl))) rfl
theorem q819 : Cond.code yX11_square cX11_square 2 (some .int) ∈ lw_good := mg (List.mem_append_right _ (tp_4 (List.mem_of_getElem? (i := 99) rfl))) rfl
theorem q820 : Cond.methodLinkNest RX11 244 yX3_squareOf "SpinStrip" ∈ lw_nest := mn (List.mem_append_right _ (tp_4 (List.mem_of_getElem? (i := 100) rfl))) rfl
theorem q822 : Cond.instanceMethod yX3_squareOf ∈ lw_good := mg (List.mem_append_right _ (tp_4 (List.mem_of_getElem? (i := 102) rfl))) rfl
theorem q823 : Cond.code yX3_squareOf cX3_squareOf 6 (some .int) ∈ lw_good := mg (List.mem_append_right _ (tp_4 (List.mem_of_getElem? (i := 103) rfl))) rfl
theorem q824 : Cond.methodLink RL 154 yX11_cluster ∈ lw_good := mg (List.mem_append_right _ (tp_4 (List.mem_of_getElem? (i := 104) rfl))) rfl
theorem q825 : Cond.instanceMethod yX11_cluster ∈ lw_good := mg (List.mem_append_right _ (tp_4 (List.mem_of_getElem? (i := 105) rfl))) rfl
theorem q826 : Cond.selects RX11 yX11_cluster yX11_cluster ∈ lw_good := mg (List.mem_append_right _ (tp_4 (List.mem_of_getElem? (i := 106) rfl))) rfl
theorem q827 : Cond.code yX11_cluster cX11_cluster 2 (some .int) ∈ lw_good := mg (List.mem_append_right _ (tp_4 (List.mem_of_getElem? (i := 107) rfl))) rfl
theorem q828 : Cond.methodLinkNest RX11 248 yX3_clusterOf "SpinStrip" ∈ lw_nest := mn (List.mem_append_right _ (tp_4 (List.mem_of_getElem? (i := 108) rfl))) rfl
theorem q830 : Cond.instanceMethod yX3_clusterOf ∈ lw_good := mg (List.mem_append_right _ (tp_4 (List.mem_of_getElem? (i := 110) rfl))) rfl
theorem q831 : Cond.code yX3_clusterOf cX3_clusterOf 6 (some .int) ∈ lw_good := mg (List.mem_append_right _ (tp_4 (List.mem_of_getElem? (i := 111) rfl))) rfl
theorem q832 : Cond.methodLink RX3 89 yX3_grownCluster ∈ lw_good := mg (List.mem_append_right _ (tp_4 (List.mem_of_getElem? (i := 112) rfl))) rfl
theorem q834 : Cond.instanceMethod yX3_grownCluster ∈ lw_good := mg (List.mem_append_right _ (tp_4 (List.mem_of_getElem? (i := 114) rfl))) rfl
theorem q835 : Cond.code yX3_grownCluster cX3_grownCluster 6 (some .int) ∈ lw_good := mg (List.mem_append_right _ (tp_4 (List.mem_of_getElem? (i := 115) rfl))) rfl
theorem q836 : Cond.methodLink RX3 66 yX3_isAlike ∈ lw_good := mg (List.mem_append_right _ (tp_4 (List.mem_of_getElem? (i := 116) rfl))) rfl
theorem q838 : Cond.instanceMethod yX3_isAlike ∈ lw_good := mg (List.mem_append_right _ (tp_4 (List.mem_of_getElem? (i := 118) rfl))) rfl
theorem q839 : Cond.code yX3_isAlike cX3_isAlike 3 (some .boolean) ∈ lw_good := mg (List.mem_append_right _ (tp_4 (List.mem_of_getElem? (i := 119) rfl))) rfl
theorem q840 : Cond.methodLink RL 69 yX11_level ∈ lw_good := mg (List.mem_append_right _ (tp_4 (List.mem_of_getElem? (i := 120) rfl))) rfl
theorem q841 : Cond.instanceMethod yX11_level ∈ lw_good := mg (List.mem_append_right _ (tp_4 (List.mem_of_getElem? (i := 121) rfl))) rfl
theorem q842 : Cond.selects RX11 yX11_level yX11_level ∈ lw_good := mg (List.mem_append_right _ (tp_4 (List.mem_of_getElem? (i := 122) rfl))) rfl
theorem q843 : Cond.code yX11_level cX11_level 5 (some .int) ∈ lw_good := mg (List.mem_append_right _ (tp_4 (List.mem_of_getElem? (i := 123) rfl))) rfl
theorem q844 : Cond.methodLink RX11 251 yX11_levelsNow ∈ lw_good := mg (List.mem_append_right _ (tp_4 (List.mem_of_getElem? (i := 124) rfl))) rfl
theorem q846 : Cond.instanceMethod yX11_levelsNow ∈ lw_good := mg (List.mem_append_right _ (tp_4 (List.mem_of_getElem? (i := 126) rfl))) rfl
theorem q847 : Cond.code yX11_levelsNow cX11_levelsNow 1 (some (.object "SpinStrip$Levels")) ∈ lw_good := mg (List.mem_append_right _ (tp_4 (List.mem_of_getElem? (i := 127) rfl))) rfl
theorem q848 : Cond.methodLink RX11 367 yX11_energiesNow ∈ lw_good := mg (List.mem_append_right _ (tp_4 (List.mem_of_getElem? (i := 128) rfl))) rfl
theorem q850 : Cond.instanceMethod yX11_energiesNow ∈ lw_good := mg (List.mem_append_right _ (tp_4 (List.mem_of_getElem? (i := 130) rfl))) rfl
theorem q851 : Cond.code yX11_energiesNow cX11_energiesNow 1 (some (.object "SpinStrip$Energies")) ∈ lw_good := mg (List.mem_append_right _ (tp_4 (List.mem_of_getElem? (i := 131) rfl))) rfl
theorem q852 : Cond.methodLinkNest RX11 346 yX2_fill "SpinStrip" ∈ lw_nest := mn (List.mem_append_right _ (tp_4 (List.mem_of_getElem? (i := 132) rfl))) rfl
theorem q854 : Cond.instanceMethod yX2_fill ∈ lw_good := mg (List.mem_append_right _ (tp_4 (List.mem_of_getElem? (i := 134) rfl))) rfl
theorem q855 : Cond.code yX2_fill cX2_fill 6 none ∈ lw_good := mg (List.mem_append_right _ (tp_4 (List.mem_of_getElem? (i := 135) rfl))) rfl
theorem q856 : Cond.methodLink RX2 29 yX2_seeLowerMates ∈ lw_good := mg (List.mem_append_right _ (tp_4 (List.mem_of_getElem? (i := 136) rfl))) rfl
theorem q858 : Cond.instanceMethod yX2_seeLowerMates ∈ lw_good := mg (List.mem_append_right _ (tp_4 (List.mem_of_getElem? (i := 138) rfl))) rfl
theorem q859 : Cond.code yX2_seeLowerMates cX2_seeLowerMates 7 none ∈ lw_good := mg (List.mem_append_right _ (tp_4 (List.mem_of_getElem? (i := 139) rfl))) rfl
theorem q860 : Cond.methodLink RX2 54 yJ9_min_7cf53 ∈ lw_good := mg (List.mem_append_right _ (tp_4 (List.mem_of_getElem? (i := 140) rfl))) rfl
theorem q861 : Cond.methodLink RX2 33 yX2_addSite ∈ lw_good := mg (List.mem_append_right _ (tp_4 (List.mem_of_getElem? (i := 141) rfl))) rfl
theorem q863 : Cond.instanceMethod yX2_addSite ∈ lw_good := mg (List.mem_append_right _ (tp_4 (List.mem_of_getElem? (i := 143) rfl))) rfl
theorem q864 : Cond.code yX2_addSite cX2_addSite 8 none ∈ lw_good := mg (List.mem_append_right _ (tp_4 (List.mem_of_getElem? (i := 144) rfl))) rfl
theorem q865 : Cond.methodLink RX2 60 yX2_pulledByMates ∈ lw_good := mg (List.mem_append_right _ (tp_4 (List.mem_of_getElem? (i := 145) rfl))) rfl
theorem q867 : Cond.instanceMethod yX2_pulledByMates ∈ lw_good := mg (List.mem_append_right _ (tp_4 (List.mem_of_getElem? (i := 147) rfl))) rfl
theorem q868 : Cond.code yX2_pulledByMates cX2_pulledByMates 4 (some .int) ∈ lw_good := mg (List.mem_append_right _ (tp_4 (List.mem_of_getElem? (i := 148) rfl))) rfl
theorem q869 : Cond.methodLinkNest RX11 291 yX3_states "SpinStrip" ∈ lw_nest := mn (List.mem_append_right _ (tp_4 (List.mem_of_getElem? (i := 149) rfl))) rfl
theorem q871 : Cond.instanceMethod yX3_states ∈ lw_good := mg (List.mem_append_right _ (tp_4 (List.mem_of_getElem? (i := 151) rfl))) rfl
theorem q872 : Cond.code yX3_states cX3_states 1 (some .int) ∈ lw_good := mg (List.mem_append_right _ (tp_4 (List.mem_of_getElem? (i := 152) rfl))) rfl
theorem q873 : Cond.methodLinkNest RX11 470 yX4_gather "SpinStrip" ∈ lw_nest := mn (List.mem_append_right _ (tp_4 (List.mem_of_getElem? (i := 153) rfl))) rfl
theorem q875 : Cond.instanceMethod yX4_gather ∈ lw_good := mg (List.mem_append_right _ (tp_4 (List.mem_of_getElem? (i := 155) rfl))) rfl
theorem q876 : Cond.code yX4_gather cX4_gather 7 none ∈ lw_good := mg (List.mem_append_right _ (tp_4 (List.mem_of_getElem? (i := 156) rfl))) rfl
theorem q877 : Cond.methodLink RX4 28 yJ7_fill_53178 ∈ lw_good := mg (List.mem_append_right _ (tp_4 (List.mem_of_getElem? (i := 157) rfl))) rfl
theorem q878 : Cond.methodLinkNest RX4 34 yX2_of "SpinStrip" ∈ lw_nest := mn (List.mem_append_right _ (tp_4 (List.mem_of_getElem? (i := 158) rfl))) rfl
theorem q880 : Cond.instanceMethod yX2_of ∈ lw_good := mg (List.mem_append_right _ (tp_4 (List.mem_of_getElem? (i := 160) rfl))) rfl
theorem q881 : Cond.code yX2_of cX2_of 2 (some .int) ∈ lw_good := mg (List.mem_append_right _ (tp_4 (List.mem_of_getElem? (i := 161) rfl))) rfl
theorem q882 : Cond.methodLink RX4 40 yJ6_bitCount_0f7a4 ∈ lw_good := mg (List.mem_append_right _ (tp_4 (List.mem_of_getElem? (i := 162) rfl))) rfl
theorem q883 : Cond.static yJ6_bitCount_0f7a4 ∈ lw_good := mg (List.mem_append_right _ (tp_4 (List.mem_of_getElem? (i := 163) rfl))) rfl
theorem q884 : Cond.code yJ6_bitCount_0f7a4 cJ6_bitCount_0f7a4 1 (some .int) ∈ lw_good := mg (List.mem_append_right _ (tp_4 (List.mem_of_getElem? (i := 164) rfl))) rfl
theorem q885 : Cond.constant RJ6 265 (1431655765) ∈ lw_good := mg (List.mem_append_right _ (tp_4 (List.mem_of_getElem? (i := 165) rfl))) rfl
theorem q886 : Cond.constant RJ6 266 (858993459) ∈ lw_good := mg (List.mem_append_right _ (tp_4 (List.mem_of_getElem? (i := 166) rfl))) rfl
theorem q887 : Cond.constant RJ6 267 (252645135) ∈ lw_good := mg (List.mem_append_right _ (tp_4 (List.mem_of_getElem? (i := 167) rfl))) rfl
theorem q888 : Cond.methodLinkNest RX4 45 yX6_allows "SpinStrip" ∈ lw_nest := mn (List.mem_append_right _ (tp_4 (List.mem_of_getElem? (i := 168) rfl))) rfl
theorem q890 : Cond.instanceMethod yX6_allows ∈ lw_good := mg (List.mem_append_right _ (tp_4 (List.mem_of_getElem? (i := 170) rfl))) rfl
theorem q891 : Cond.code yX6_allows cX6_allows 2 (some .boolean) ∈ lw_good := mg (List.mem_append_right _ (tp_4 (List.mem_of_getElem? (i := 171) rfl))) rfl
theorem q892 : Cond.methodLink RX4 51 yX4_listLevels ∈ lw_good := mg (List.mem_append_right _ (tp_4 (List.mem_of_getElem? (i := 172) rfl))) rfl
theorem q894 : Cond.instanceMethod yX4_listLevels ∈ lw_good := mg (List.mem_append_right _ (tp_4 (List.mem_of_getElem? (i := 174) rfl))) rfl
theorem q895 : Cond.code yX4_listLevels cX4_listLevels 2 none ∈ lw_good := mg (List.mem_append_right _ (tp_4 (List.mem_of_getElem? (i := 175) rfl))) rfl
theorem q896 : Cond.methodLinkNest RX11 258 yX4_hasLevel "SpinStrip" ∈ lw_nest := mn (List.mem_append_right _ (tp_4 (List.mem_of_getElem? (i := 176) rfl))) rfl
theorem q898 : Cond.instanceMethod yX4_hasLevel ∈ lw_good := mg (List.mem_append_right _ (tp_4 (List.mem_of_getElem? (i := 178) rfl))) rfl
theorem q899 : Cond.code yX4_hasLevel cX4_hasLevel 2 (some .boolean) ∈ lw_good := mg (List.mem_append_right _ (tp_4 (List.mem_of_getElem? (i := 179) rfl))) rfl
theorem q900 : Cond.methodLinkNest RX11 261 yX4_energyOf "SpinStrip" ∈ lw_nest := mn (List.mem_append_right _ (tp_4 (List.mem_of_getElem? (i := 180) rfl))) rfl
theorem q902 : Cond.instanceMethod yX4_energyOf ∈ lw_good := mg (List.mem_append_right _ (tp_4 (List.mem_of_getElem? (i := 182) rfl))) rfl
theorem q903 : Cond.code yX4_energyOf cX4_energyOf 2 (some .int) ∈ lw_good := mg (List.mem_append_right _ (tp_4 (List.mem_of_getElem? (i := 183) rfl))) rfl
theorem q904 : Cond.methodLinkNest RX11 264 yX4_waysOf "SpinStrip" ∈ lw_nest := mn (List.mem_append_right _ (tp_4 (List.mem_of_getElem? (i := 184) rfl))) rfl
theorem q906 : Cond.instanceMethod yX4_waysOf ∈ lw_good := mg (List.mem_append_right _ (tp_4 (List.mem_of_getElem? (i := 186) rfl))) rfl
theorem q907 : Cond.code yX4_waysOf cX4_waysOf 2 (some .int) ∈ lw_good := mg (List.mem_append_right _ (tp_4 (List.mem_of_getElem? (i := 187) rfl))) rfl
theorem q908 : Cond.methodLink RX4 58 yX4_isEnergy ∈ lw_good := mg (List.mem_append_right _ (tp_4 (List.mem_of_getElem? (i := 188) rfl))) rfl
theorem q909 : Cond.static yX4_isEnergy ∈ lw_good := mg (List.mem_append_right _ (tp_4 (List.mem_of_getElem? (i := 189) rfl))) rfl
theorem q910 : Cond.code yX4_isEnergy cX4_isEnergy 1 (some .boolean) ∈ lw_good := mg (List.mem_append_right _ (tp_4 (List.mem_of_getElem? (i := 190) rfl))) rfl
theorem q911 : Cond.methodLinkNest RX11 267 yX4_leastOf "SpinStrip" ∈ lw_nest := mn (List.mem_append_right _ (tp_4 (List.mem_of_getElem? (i := 191) rfl))) rfl
theorem q913 : Cond.instanceMethod yX4_leastOf ∈ lw_good := mg (List.mem_append_right _ (tp_4 (List.mem_of_getElem? (i := 193) rfl))) rfl
theorem q914 : Cond.code yX4_leastOf cX4_leastOf 2 (some .int) ∈ lw_good := mg (List.mem_append_right _ (tp_4 (List.mem_of_getElem? (i := 194) rfl))) rfl
theorem q915 : Cond.methodLinkNest RX11 270 yX4_fewestUps "SpinStrip" ∈ lw_nest := mn (List.mem_append_right _ (tp_4 (List.mem_of_getElem? (i := 195) rfl))) rfl
theorem q917 : Cond.instanceMethod yX4_fewestUps ∈ lw_good := mg (List.mem_append_right _ (tp_4 (List.mem_of_getElem? (i := 197) rfl))) rfl
theorem q918 : Cond.code yX4_fewestUps cX4_fewestUps 3 (some .int) ∈ lw_good := mg (List.mem_append_right _ (tp_4 (List.mem_of_getElem? (i := 198) rfl))) rfl
theorem q919 : Cond.methodLink RX4 61 yX4_waysWithUps ∈ lw_good := mg (List.mem_append_right _ (tp_4 (List.mem_of_getElem? (i := 199) rfl))) rfl
theorem q921 : Cond.instanceMethod yX4_waysWithUps ∈ lw_good := mg (List.mem_append_right _ (tp_4 (List.mem_of_getElem? (i := 201) rfl))) rfl
theorem q922 : Cond.code yX4_waysWithUps cX4_waysWithUps 4 (some .int) ∈ lw_good := mg (List.mem_append_right _ (tp_4 (List.mem_of_getElem? (i := 202) rfl))) rfl
theorem q923 : Cond.constant RX4 57 (-100000) ∈ lw_good := mg (List.mem_append_right _ (tp_4 (List.mem_of_getElem? (i := 203) rfl))) rfl
theorem q924 : Cond.methodLinkNest RX11 273 yX4_mostUps "SpinStrip" ∈ lw_nest := mn (List.mem_append_right _ (tp_4 (List.mem_of_getElem? (i := 204) rfl))) rfl
theorem q926 : Cond.instanceMethod yX4_mostUps ∈ lw_good := mg (List.mem_append_right _ (tp_4 (List.mem_of_getElem? (i := 206) rfl))) rfl
theorem q927 : Cond.code yX4_mostUps cX4_mostUps 3 (some .int) ∈ lw_good := mg (List.mem_append_right _ (tp_4 (List.mem_of_getElem? (i := 207) rfl))) rfl
theorem q928 : Cond.methodLink RL 73 yX11_both ∈ lw_good := mg (List.mem_append_right _ (tp_4 (List.mem_of_getElem? (i := 208) rfl))) rfl
theorem q929 : Cond.instanceMethod yX11_both ∈ lw_good := mg (List.mem_append_right _ (tp_4 (List.mem_of_getElem? (i := 209) rfl))) rfl
theorem q930 : Cond.selects RX11 yX11_both yX11_both ∈ lw_good := mg (List.mem_append_right _ (tp_4 (List.mem_of_getElem? (i := 210) rfl))) rfl
theorem q931 : Cond.code yX11_both cX11_both 3 (some .int) ∈ lw_good := mg (List.mem_append_right _ (tp_4 (List.mem_of_getElem? (i := 211) rfl))) rfl
theorem q932 : Cond.methodLinkNest RX11 276 yX4_waysWithUps "SpinStrip" ∈ lw_nest := mn (List.mem_append_right _ (tp_4 (List.mem_of_getElem? (i := 212) rfl))) rfl
theorem q933 : Cond.methodLink RL 77 yX11_broken ∈ lw_good := mg (List.mem_append_right _ (tp_4 (List.mem_of_getElem? (i := 213) rfl))) rfl
theorem q934 : Cond.instanceMethod yX11_broken ∈ lw_good := mg (List.mem_append_right _ (tp_4 (List.mem_of_getElem? (i := 214) rfl))) rfl
theorem q935 : Cond.selects RX11 yX11_broken yX11_broken ∈ lw_good := mg (List.mem_append_right _ (tp_4 (List.mem_of_getElem? (i := 215) rfl))) rfl
theorem q936 : Cond.code yX11_broken cX11_broken 2 (some .int) ∈ lw_good := mg (List.mem_append_right _ (tp_4 (List.mem_of_getElem? (i := 216) rfl))) rfl
theorem q937 : Cond.methodLink RX11 279 yX11_breaksNow ∈ lw_good := mg (List.mem_append_right _ (tp_4 (List.mem_of_getElem? (i := 217) rfl))) rfl
theorem q939 : Cond.instanceMethod yX11_breaksNow ∈ lw_good := mg (List.mem_append_right _ (tp_4 (List.mem_of_getElem? (i := 219) rfl))) rfl
theorem q940 : Cond.code yX11_breaksNow cX11_breaksNow 1 (some (.object "SpinStrip$Breaks")) ∈ lw_good := mg (List.mem_append_right _ (tp_4 (List.mem_of_getElem? (i := 220) rfl))) rfl
theorem q941 : Cond.methodLinkNest RX11 475 yX0_gather "SpinStrip" ∈ lw_nest := mn (List.mem_append_right _ (tp_4 (List.mem_of_getElem? (i := 221) rfl))) rfl
theorem q943 : Cond.instanceMethod yX0_gather ∈ lw_good := mg (List.mem_append_right _ (tp_4 (List.mem_of_getElem? (i := 223) rfl))) rfl
theorem q944 : Cond.code yX0_gather cX0_gather 8 none ∈ lw_good := mg (List.mem_append_right _ (tp_4 (List.mem_of_getElem? (i := 224) rfl))) rfl
theorem q945 : Cond.methodLinkNest RX0 25 yX3_endAt "SpinStrip" ∈ lw_nest := mn (List.mem_append_right _ (tp_4 (List.mem_of_getElem? (i := 225) rfl))) rfl
theorem q946 : Cond.methodLinkNest RX0 31 yX6_bondAt "SpinStrip" ∈ lw_nest := mn (List.mem_append_right _ (tp_4 (List.mem_of_getElem? (i := 226) rfl))) rfl
theorem q947 : Cond.methodLink RX0 36 yJ6_signum_0f7a4 ∈ lw_good := mg (List.mem_append_right _ (tp_4 (List.mem_of_getElem? (i := 227) rfl))) rfl
theorem q948 : Cond.static yJ6_signum_0f7a4 ∈ lw_good := mg (List.mem_append_right _ (tp_4 (List.mem_of_getElem? (i := 228) rfl))) rfl
theorem q949 : Cond.code yJ6_signum_0f7a4 cJ6_signum_0f7a4 1 (some .int) ∈ lw_good := mg (List.mem_append_right _ (tp_4 (List.mem_of_getElem? (i := 229) rfl))) rfl
theorem q950 : Cond.methodLink RX0 41 yJ9_abs_0f7a4 ∈ lw_good := mg (List.mem_append_right _ (tp_4 (List.mem_of_getElem? (i := 230) rfl))) rfl
theorem q951 : Cond.static yJ9_abs_0f7a4 ∈ lw_good := mg (List.mem_append_right _ (tp_4 (List.mem_of_getElem? (i := 231) rfl))) rfl
theorem q952 : Cond.code yJ9_abs_0f7a4 cJ9_abs_0f7a4 1 (some .int) ∈ lw_good := mg (List.mem_append_right _ (tp_4 (List.mem_of_getElem? (i := 232) rfl))) rfl
theorem q953 : Cond.methodLinkNest RX0 49 yX2_fill "SpinStrip" ∈ lw_nest := mn (List.mem_append_right _ (tp_4 (List.mem_of_getElem? (i := 233) rfl))) rfl
theorem q954 : Cond.methodLink RX0 55 yJ7_fill_53178 ∈ lw_good := mg (List.mem_append_right _ (tp_4 (List.mem_of_getElem? (i := 234) rfl))) rfl
theorem q955 : Cond.methodLinkNest RX0 60 yX3_states "SpinStrip" ∈ lw_nest := mn (List.mem_append_right _ (tp_4 (List.mem_of_getElem? (i := 235) rfl))) rfl
theorem q956 : Cond.methodLinkNest RX0 64 yX2_of "SpinStrip" ∈ lw_nest := mn (List.mem_append_right _ (tp_4 (List.mem_of_getElem? (i := 236) rfl))) rfl
theorem q957 : Cond.methodLinkNest RX0 67 yX6_allows "SpinStrip" ∈ lw_nest := mn (List.mem_append_right _ (tp_4 (List.mem_of_getElem? (i := 237) rfl))) rfl
theorem q958 : Cond.methodLinkNest RX11 283 yX0_waysOf "SpinStrip" ∈ lw_nest := mn (List.mem_append_right _ (tp_4 (List.mem_of_getElem? (i := 238) rfl))) rfl
theorem q960 : Cond.instanceMethod yX0_waysOf ∈ lw_good := mg (List.mem_append_right _ (tp_5 (List.mem_of_getElem? (i := 0) rfl))) rfl
theorem q961 : Cond.code yX0_waysOf cX0_waysOf 2 (some .int) ∈ lw_good := mg (List.mem_append_right _ (tp_5 (List.mem_of_getElem? (i := 1) rfl))) rfl
theorem q962 : Cond.methodLink RL 81 yX11_ground ∈ lw_good := mg (List.mem_append_right _ (tp_5 (List.mem_of_getElem? (i := 2) rfl))) rfl
theorem q963 : Cond.instanceMethod yX11_ground ∈ lw_good := mg (List.mem_append_right _ (tp_5 (List.mem_of_getElem? (i := 3) rfl))) rfl
theorem q964 : Cond.selects RX11 yX11_ground yX11_ground ∈ lw_good := mg (List.mem_append_right _ (tp_5 (List.mem_of_getElem? (i := 4) rfl))) rfl
theorem q965 : Cond.code yX11_ground cX11_ground 4 (some .int) ∈ lw_good := mg (List.mem_append_right _ (tp_5 (List.mem_of_getElem? (i := 5) rfl))) rfl
theorem q966 : Cond.methodLink RL 85 yX11_pair ∈ lw_good := mg (List.mem_append_right _ (tp_5 (List.mem_of_getElem? (i := 6) rfl))) rfl
theorem q967 : Cond.instanceMethod yX11_pair ∈ lw_good := mg (List.mem_append_right _ (tp_5 (List.mem_of_getElem? (i := 7) rfl))) rfl
theorem q968 : Cond.selects RX11 yX11_pair yX11_pair ∈ lw_good := mg (List.mem_append_right _ (tp_5 (List.mem_of_getElem? (i := 8) rfl))) rfl
theorem q969 : Cond.code yX11_pair cX11_pair 8 (some .int) ∈ lw_good := mg (List.mem_append_right _ (tp_5 (List.mem_of_getElem? (i := 9) rfl))) rfl
theorem q970 : Cond.methodLink RX11 284 yX11_countAlike ∈ lw_good := mg (List.mem_append_right _ (tp_5 (List.mem_of_getElem? (i := 10) rfl))) rfl
theorem q972 : Cond.instanceMethod yX11_countAlike ∈ lw_good := mg (List.mem_append_right _ (tp_5 (List.mem_of_getElem? (i := 12) rfl))) rfl
theorem q973 : Cond.code yX11_countAlike cX11_countAlike 7 (some .int) ∈ lw_good := mg (List.mem_append_right _ (tp_5 (List.mem_of_getElem? (i := 13) rfl))) rfl
theorem q974 : Cond.methodLinkNest RX11 295 yX6_allows "SpinStrip" ∈ lw_nest := mn (List.mem_append_right _ (tp_5 (List.mem_of_getElem? (i := 14) rfl))) rfl
theorem q975 : Cond.methodLinkNest RX11 298 yX2_of "SpinStrip" ∈ lw_nest := mn (List.mem_append_right _ (tp_5 (List.mem_of_getElem? (i := 15) rfl))) rfl
theorem q976 : Cond.methodLink RX11 288 yX11_partOfFraction ∈ lw_good := mg (List.mem_append_right _ (tp_5 (List.mem_of_getElem? (i := 16) rfl))) rfl
theorem q977 : Cond.static yX11_partOfFraction ∈ lw_good := mg (List.mem_append_right _ (tp_5 (List.mem_of_getElem? (i := 17) rfl))) rfl
theorem q978 : Cond.code yX11_partOfFraction cX11_partOfFraction 4 (some .int) ∈ lw_good := mg (List.mem_append_right _ (tp_5 (List.mem_of_getElem? (i := 18) rfl))) rfl
theorem q979 : Cond.methodLink RX11 491 yJ9_abs_0f7a4 ∈ lw_good := mg (List.mem_append_right _ (tp_5 (List.mem_of_getElem? (i := 19) rfl))) rfl
theorem q980 : Cond.methodLink RX11 494 yX11_commonDivisor ∈ lw_good := mg (List.mem_append_right _ (tp_5 (List.mem_of_getElem? (i := 20) rfl))) rfl
theorem q981 : Cond.static yX11_commonDivisor ∈ lw_good := mg (List.mem_append_right _ (tp_5 (List.mem_of_getElem? (i := 21) rfl))) rfl
theorem q982 : Cond.code yX11_commonDivisor cX11_commonDivisor 6 (some .int) ∈ lw_good := mg (List.mem_append_right _ (tp_5 (List.mem_of_getElem? (i := 22) rfl))) rfl
theorem q983 : Cond.methodLink RL 90 yX11_mean ∈ lw_good := mg (List.mem_append_right _ (tp_5 (List.mem_of_getElem? (i := 23) rfl))) rfl
theorem q984 : Cond.instanceMethod yX11_mean ∈ lw_good := mg (List.mem_append_right _ (tp_5 (List.mem_of_getElem? (i := 24) rfl))) rfl
theorem q985 : Cond.selects RX11 yX11_mean yX11_mean ∈ lw_good := mg (List.mem_append_right _ (tp_5 (List.mem_of_getElem? (i := 25) rfl))) rfl
theorem q986 : Cond.code yX11_mean cX11_mean 5 (some .int) ∈ lw_good := mg (List.mem_append_right _ (tp_5 (List.mem_of_getElem? (i := 26) rfl))) rfl
theorem q987 : Cond.methodLinkNest RX11 301 yX4_upsAdded "SpinStrip" ∈ lw_nest := mn (List.mem_append_right _ (tp_5 (List.mem_of_getElem? (i := 27) rfl))) rfl
theorem q989 : Cond.instanceMethod yX4_upsAdded ∈ lw_good := mg (List.mem_append_right _ (tp_5 (List.mem_of_getElem? (i := 29) rfl))) rfl
theorem q990 : Cond.code yX4_upsAdded cX4_upsAdded 4 (some .int) ∈ lw_good := mg (List.mem_append_right _ (tp_5 (List.mem_of_getElem? (i := 30) rfl))) rfl
theorem q991 : Cond.methodLink RL 94 yX11_value ∈ lw_good := mg (List.mem_append_right _ (tp_5 (List.mem_of_getElem? (i := 31) rfl))) rfl
theorem q992 : Cond.instanceMethod yX11_value ∈ lw_good := mg (List.mem_append_right _ (tp_5 (List.mem_of_getElem? (i := 32) rfl))) rfl
theorem q993 : Cond.selects RX11 yX11_value yX11_value ∈ lw_good := mg (List.mem_append_right _ (tp_5 (List.mem_of_getElem? (i := 33) rfl))) rfl
theorem q994 : Cond.code yX11_value cX11_value 8 (some .int) ∈ lw_good := mg (List.mem_append_right _ (tp_5 (List.mem_of_getElem? (i := 34) rfl))) rfl
theorem q995 : Cond.constant RX11 304 (1000003) ∈ lw_good := mg (List.mem_append_right _ (tp_5 (List.mem_of_getElem? (i := 35) rfl))) rfl
theorem q996 : Cond.constantLong RX11 305 (1000003) ∈ lw_good := mg (List.mem_append_right _ (tp_5 (List.mem_of_getElem? (i := 36) rfl))) rfl
theorem q997 : Cond.methodLink RL 98 yX11_joined ∈ lw_good := mg (List.mem_append_right _ (tp_5 (List.mem_of_getElem? (i := 37) rfl))) rfl
theorem q998 : Cond.instanceMethod yX11_joined ∈ lw_good := mg (List.mem_append_right _ (tp_5 (List.mem_of_getElem? (i := 38) rfl))) rfl
theorem q999 : Cond.selects RX11 yX11_joined yX11_joined ∈ lw_good := mg (List.mem_append_right _ (tp_5 (List.mem_of_getElem? (i := 39) rfl))) rfl
theorem q1000 : Cond.code yX11_joined cX11_joined 6 (some .long) ∈ lw_good := mg (List.mem_append_right _ (tp_5 (List.mem_of_getElem? (i := 40) rfl))) rfl
theorem q1001 : Cond.methodLink RX11 307 yX11_slotAt ∈ lw_good := mg (List.mem_append_right _ (tp_5 (List.mem_of_getElem? (i := 41) rfl))) rfl
theorem q1003 : Cond.instanceMethod yX11_slotAt ∈ lw_good := mg (List.mem_append_right _ (tp_5 (List.mem_of_getElem? (i := 43) rfl))) rfl
theorem q1004 : Cond.code yX11_slotAt cX11_slotAt 2 (some (.object "SpinStrip$Slot")) ∈ lw_good := mg (List.mem_append_right _ (tp_5 (List.mem_of_getElem? (i := 44) rfl))) rfl
theorem q1005 : Cond.constantLong RX11 311 (-100000) ∈ lw_good := mg (List.mem_append_right _ (tp_5 (List.mem_of_getElem? (i := 45) rfl))) rfl
theorem q1006 : Cond.methodLink RX11 313 yX11_joinWays ∈ lw_good := mg (List.mem_append_right _ (tp_5 (List.mem_of_getElem? (i := 46) rfl))) rfl
theorem q1008 : Cond.instanceMethod yX11_joinWays ∈ lw_good := mg (List.mem_append_right _ (tp_5 (List.mem_of_getElem? (i := 48) rfl))) rfl
theorem q1009 : Cond.code yX11_joinWays cX11_joinWays 6 none ∈ lw_good := mg (List.mem_append_right _ (tp_5 (List.mem_of_getElem? (i := 49) rfl))) rfl
theorem q1010 : Cond.methodLink RX11 326 yX11_heldWays ∈ lw_good := mg (List.mem_append_right _ (tp_5 (List.mem_of_getElem? (i := 50) rfl))) rfl
theorem q1012 : Cond.instanceMethod yX11_heldWays ∈ lw_good := mg (List.mem_append_right _ (tp_5 (List.mem_of_getElem? (i := 52) rfl))) rfl
theorem q1013 : Cond.code yX11_heldWays cX11_heldWays 2 (some (.array .int)) ∈ lw_good := mg (List.mem_append_right _ (tp_5 (List.mem_of_getElem? (i := 53) rfl))) rfl
theorem q1014 : Cond.methodLink RX11 350 yX11_countWays ∈ lw_good := mg (List.mem_append_right _ (tp_5 (List.mem_of_getElem? (i := 54) rfl))) rfl
theorem q1016 : Cond.instanceMethod yX11_countWays ∈ lw_good := mg (List.mem_append_right _ (tp_5 (List.mem_of_getElem? (i := 56) rfl))) rfl
theorem q1017 : Cond.code yX11_countWays cX11_countWays 7 none ∈ lw_good := mg (List.mem_append_right _ (tp_5 (List.mem_of_getElem? (i := 57) rfl))) rfl
theorem q1018 : Cond.methodLink RX11 354 yJ7_fill_53178 ∈ lw_good := mg (List.mem_append_right _ (tp_5 (List.mem_of_getElem? (i := 58) rfl))) rfl
theorem q1019 : Cond.methodLink RX11 330 yJ7_fill_d0a16 ∈ lw_good := mg (List.mem_append_right _ (tp_5 (List.mem_of_getElem? (i := 59) rfl))) rfl
theorem q1020 : Cond.static yJ7_fill_d0a16 ∈ lw_good := mg (List.mem_append_right _ (tp_5 (List.mem_of_getElem? (i := 60) rfl))) rfl
theorem q1021 : Cond.code yJ7_fill_d0a16 cJ7_fill_d0a16 5 none ∈ lw_good := mg (List.mem_append_right _ (tp_5 (List.mem_of_getElem? (i := 61) rfl))) rfl
theorem q1022 : Cond.methodLink RX11 317 yX11_countJoinedLevels ∈ lw_good := mg (List.mem_append_right _ (tp_5 (List.mem_of_getElem? (i := 62) rfl))) rfl
theorem q1024 : Cond.instanceMethod yX11_countJoinedLevels ∈ lw_good := mg (List.mem_append_right _ (tp_5 (List.mem_of_getElem? (i := 64) rfl))) rfl
theorem q1025 : Cond.code yX11_countJoinedLevels cX11_countJoinedLevels 3 (some .int) ∈ lw_good := mg (List.mem_append_right _ (tp_5 (List.mem_of_getElem? (i := 65) rfl))) rfl
theorem q1026 : Cond.methodLink RX11 320 yX11_joinedLevelAt ∈ lw_good := mg (List.mem_append_right _ (tp_5 (List.mem_of_getElem? (i := 66) rfl))) rfl
theorem q1028 : Cond.instanceMethod yX11_joinedLevelAt ∈ lw_good := mg (List.mem_append_right _ (tp_5 (List.mem_of_getElem? (i := 68) rfl))) rfl
theorem q1029 : Cond.code yX11_joinedLevelAt cX11_joinedLevelAt 4 (some .int) ∈ lw_good := mg (List.mem_append_right _ (tp_5 (List.mem_of_getElem? (i := 69) rfl))) rfl
theorem q1030 : Cond.methodLink RL 107 yX11_stuck ∈ lw_good := mg (List.mem_append_right _ (tp_5 (List.mem_of_getElem? (i := 70) rfl))) rfl
theorem q1031 : Cond.instanceMethod yX11_stuck ∈ lw_good := mg (List.mem_append_right _ (tp_5 (List.mem_of_getElem? (i := 71) rfl))) rfl
theorem q1032 : Cond.selects RX11 yX11_stuck yX11_stuck ∈ lw_good := mg (List.mem_append_right _ (tp_5 (List.mem_of_getElem? (i := 72) rfl))) rfl
theorem q1033 : Cond.code yX11_stuck cX11_stuck 8 (some .int) ∈ lw_good := mg (List.mem_append_right _ (tp_5 (List.mem_of_getElem? (i := 73) rfl))) rfl
theorem q1034 : Cond.methodLinkNest RX11 357 yX2_hasNoneLower "SpinStrip" ∈ lw_nest := mn (List.mem_append_right _ (tp_5 (List.mem_of_getElem? (i := 74) rfl))) rfl
theorem q1036 : Cond.instanceMethod yX2_hasNoneLower ∈ lw_good := mg (List.mem_append_right _ (tp_5 (List.mem_of_getElem? (i := 76) rfl))) rfl
theorem q1037 : Cond.code yX2_hasNoneLower cX2_hasNoneLower 7 (some .boolean) ∈ lw_good := mg (List.mem_append_right _ (tp_5 (List.mem_of_getElem? (i := 77) rfl))) rfl
theorem q1038 : Cond.methodLink RX2 25 yX2_of ∈ lw_good := mg (List.mem_append_right _ (tp_5 (List.mem_of_getElem? (i := 78) rfl))) rfl
theorem q1039 : Cond.methodLink RL 112 yX11_rows ∈ lw_good := mg (List.mem_append_right _ (tp_5 (List.mem_of_getElem? (i := 79) rfl))) rfl
theorem q1040 : Cond.instanceMethod yX11_rows ∈ lw_good := mg (List.mem_append_right _ (tp_5 (List.mem_of_getElem? (i := 80) rfl))) rfl
theorem q1041 : Cond.selects RX11 yX11_rows yX11_rows ∈ lw_good := mg (List.mem_append_right _ (tp_5 (List.mem_of_getElem? (i := 81) rfl))) rfl
theorem q1042 : Cond.code yX11_rows cX11_rows 11 (some .int) ∈ lw_good := mg (List.mem_append_right _ (tp_5 (List.mem_of_getElem? (i := 82) rfl))) rfl
theorem q1043 : Cond.methodLink RX11 363 yX11_energiesOfRows ∈ lw_good := mg (List.mem_append_right _ (tp_5 (List.mem_of_getElem? (i := 83) rfl))) rfl
theorem q1045 : Cond.instanceMethod yX11_energiesOfRows ∈ lw_good := mg (List.mem_append_right _ (tp_5 (List.mem_of_getElem? (i := 85) rfl))) rfl
theorem q1046 : Cond.code yX11_energiesOfRows cX11_energiesOfRows 2 (some (.object "SpinStrip$Energies")) ∈ lw_good := mg (List.mem_append_right _ (tp_5 (List.mem_of_getElem? (i := 86) rfl))) rfl
theorem q1047 : Cond.methodLink RL 121 yX11_overlap ∈ lw_good := mg (List.mem_append_right _ (tp_5 (List.mem_of_getElem? (i := 87) rfl))) rfl
theorem q1048 : Cond.instanceMethod yX11_overlap ∈ lw_good := mg (List.mem_append_right _ (tp_5 (List.mem_of_getElem? (i := 88) rfl))) rfl
theorem q1049 : Cond.selects RX11 yX11_overlap yX11_overlap ∈ lw_good := mg (List.mem_append_right _ (tp_5 (List.mem_of_getElem? (i := 89) rfl))) rfl
theorem q1050 : Cond.code yX11_overlap cX11_overlap 7 (some .int) ∈ lw_good := mg (List.mem_append_right _ (tp_5 (List.mem_of_getElem? (i := 90) rfl))) rfl
theorem q1051 : Cond.methodLink RX11 371 yX11_listGround ∈ lw_good := mg (List.mem_append_right _ (tp_5 (List.mem_of_getElem? (i := 91) rfl))) rfl
theorem q1053 : Cond.instanceMethod yX11_listGround ∈ lw_good := mg (List.mem_append_right _ (tp_5 (List.mem_of_getElem? (i := 93) rfl))) rfl
theorem q1054 : Cond.code yX11_listGround cX11_listGround 5 (some .int) ∈ lw_good := mg (List.mem_append_right _ (tp_5 (List.mem_of_getElem? (i := 94) rfl))) rfl
theorem q1055 : Cond.methodLink RX11 374 yJ6_bitCount_0f7a4 ∈ lw_good := mg (List.mem_append_right _ (tp_5 (List.mem_of_getElem? (i := 95) rfl))) rfl
theorem q1056 : Cond.methodLink RL 129 yX11_stiff ∈ lw_good := mg (List.mem_append_right _ (tp_5 (List.mem_of_getElem? (i := 96) rfl))) rfl
theorem q1057 : Cond.instanceMethod yX11_stiff ∈ lw_good := mg (List.mem_append_right _ (tp_5 (List.mem_of_getElem? (i := 97) rfl))) rfl
theorem q1058 : Cond.selects RX11 yX11_stiff yX11_stiff ∈ lw_good := mg (List.mem_append_right _ (tp_5 (List.mem_of_getElem? (i := 98) rfl))) rfl
theorem q1059 : Cond.code yX11_stiff cX11_stiff 7 (some .int) ∈ lw_good := mg (List.mem_append_right _ (tp_5 (List.mem_of_getElem? (i := 99) rfl))) rfl
theorem q1060 : Cond.methodLink RX11 379 yJ9_min_7cf53 ∈ lw_good := mg (List.mem_append_right _ (tp_5 (List.mem_of_getElem? (i := 100) rfl))) rfl
theorem q1061 : Cond.methodLink RL 103 yX11_state ∈ lw_good := mg (List.mem_append_right _ (tp_5 (List.mem_of_getElem? (i := 101) rfl))) rfl
theorem q1062 : Cond.instanceMethod yX11_state ∈ lw_good := mg (List.mem_append_right _ (tp_5 (List.mem_of_getElem? (i := 102) rfl))) rfl
theorem q1063 : Cond.selects RX11 yX11_state yX11_state ∈ lw_good := mg (List.mem_append_right _ (tp_5 (List.mem_of_getElem? (i := 103) rfl))) rfl
theorem q1064 : Cond.code yX11_state cX11_state 3 (some .int) ∈ lw_good := mg (List.mem_append_right _ (tp_5 (List.mem_of_getElem? (i := 104) rfl))) rfl
theorem q1065 : Cond.methodLink RX11 384 yX11_isLawful ∈ lw_good := mg (List.mem_append_right _ (tp_5 (List.mem_of_getElem? (i := 105) rfl))) rfl
theorem q1067 : Cond.instanceMethod yX11_isLawful ∈ lw_good := mg (List.mem_append_right _ (tp_5 (List.mem_of_getElem? (i := 107) rfl))) rfl
theorem q1068 : Cond.code yX11_isLawful cX11_isLawful 2 (some .boolean) ∈ lw_good := mg (List.mem_append_right _ (tp_5 (List.mem_of_getElem? (i := 108) rfl))) rfl
theorem q1069 : Cond.methodLinkNest RX11 387 yX3_energyOf "SpinStrip" ∈ lw_nest := mn (List.mem_append_right _ (tp_5 (List.mem_of_getElem? (i := 109) rfl))) rfl
theorem q1071 : Cond.instanceMethod yX3_energyOf ∈ lw_good := mg (List.mem_append_right _ (tp_5 (List.mem_of_getElem? (i := 111) rfl))) rfl
theorem q1072 : Cond.code yX3_energyOf cX3_energyOf 5 (some .int) ∈ lw_good := mg (List.mem_append_right _ (tp_5 (List.mem_of_getElem? (i := 112) rfl))) rfl
theorem q1073 : Cond.methodLinkNest RX11 389 yX3_brokenOf "SpinStrip" ∈ lw_nest := mn (List.mem_append_right _ (tp_5 (List.mem_of_getElem? (i := 113) rfl))) rfl
theorem q1075 : Cond.instanceMethod yX3_brokenOf ∈ lw_good := mg (List.mem_append_right _ (tp_5 (List.mem_of_getElem? (i := 115) rfl))) rfl
theorem q1076 : Cond.code yX3_brokenOf cX3_brokenOf 6 (some .int) ∈ lw_good := mg (List.mem_append_right _ (tp_5 (List.mem_of_getElem? (i := 116) rfl))) rfl
theorem q1077 : Cond.methodLinkNest RX11 392 yX3_steepest "SpinStrip" ∈ lw_nest := mn (List.mem_append_right _ (tp_5 (List.mem_of_getElem? (i := 117) rfl))) rfl
theorem q1078 : Cond.methodLinkNest RX11 395 yX4_numberOf "SpinStrip" ∈ lw_nest := mn (List.mem_append_right _ (tp_5 (List.mem_of_getElem? (i := 118) rfl))) rfl
theorem q1080 : Cond.instanceMethod yX4_numberOf ∈ lw_good := mg (List.mem_append_right _ (tp_5 (List.mem_of_getElem? (i := 120) rfl))) rfl
theorem q1081 : Cond.code yX4_numberOf cX4_numberOf 3 (some .int) ∈ lw_good := mg (List.mem_append_right _ (tp_5 (List.mem_of_getElem? (i := 121) rfl))) rfl
theorem q1082 : Cond.methodLink RL 150 yX11_nearest ∈ lw_good := mg (List.mem_append_right _ (tp_5 (List.mem_of_getElem? (i := 122) rfl))) rfl
theorem q1083 : Cond.instanceMethod yX11_nearest ∈ lw_good := mg (List.mem_append_right _ (tp_5 (List.mem_of_getElem? (i := 123) rfl))) rfl
theorem q1084 : Cond.selects RX11 yX11_nearest yX11_nearest ∈ lw_good := mg (List.mem_append_right _ (tp_5 (List.mem_of_getElem? (i := 124) rfl))) rfl
theorem q1085 : Cond.code yX11_nearest cX11_nearest 4 (some .int) ∈ lw_good := mg (List.mem_append_right _ (tp_5 (List.mem_of_getElem? (i := 125) rfl))) rfl
theorem q1086 : Cond.methodLink RX11 398 yX11_nearestGround ∈ lw_good := mg (List.mem_append_right _ (tp_5 (List.mem_of_getElem? (i := 126) rfl))) rfl
theorem q1088 : Cond.instanceMethod yX11_nearestGround ∈ lw_good := mg (List.mem_append_right _ (tp_5 (List.mem_of_getElem? (i := 128) rfl))) rfl
theorem q1089 : Cond.code yX11_nearestGround cX11_nearestGround 7 (some .int) ∈ lw_good := mg (List.mem_append_right _ (tp_5 (List.mem_of_getElem? (i := 129) rfl))) rfl
theorem q1090 : Cond.methodLink RL 158 yX11_wander ∈ lw_good := mg (List.mem_append_right _ (tp_5 (List.mem_of_getElem? (i := 130) rfl))) rfl
theorem q1091 : Cond.instanceMethod yX11_wander ∈ lw_good := mg (List.mem_append_right _ (tp_5 (List.mem_of_getElem? (i := 131) rfl))) rfl
theorem q1092 : Cond.selects RX11 yX11_wander yX11_wander ∈ lw_good := mg (List.mem_append_right _ (tp_5 (List.mem_of_getElem? (i := 132) rfl))) rfl
theorem q1093 : Cond.code yX11_wander cX11_wander 4 (some .int) ∈ lw_good := mg (List.mem_append_right _ (tp_5 (List.mem_of_getElem? (i := 133) rfl))) rfl
theorem q1094 : Cond.methodLinkNest RX11 401 yX10_strollFrom "SpinStrip" ∈ lw_nest := mn (List.mem_append_right _ (tp_5 (List.mem_of_getElem? (i := 134) rfl))) rfl
theorem q1096 : Cond.instanceMethod yX10_strollFrom ∈ lw_good := mg (List.mem_append_right _ (tp_5 (List.mem_of_getElem? (i := 136) rfl))) rfl
theorem q1097 : Cond.code yX10_strollFrom cX10_strollFrom 11 none ∈ lw_good := mg (List.mem_append_right _ (tp_5 (List.mem_of_getElem? (i := 137) rfl))) rfl
theorem q1098 : Cond.methodLinkNest RX10 27 yX3_energyOf "SpinStrip" ∈ lw_nest := mn (List.mem_append_right _ (tp_5 (List.mem_of_getElem? (i := 138) rfl))) rfl
theorem q1099 : Cond.methodLinkNest RX10 36 yX11_nextLot "SpinStrip" ∈ lw_nest := mn (List.mem_append_right _ (tp_5 (List.mem_of_getElem? (i := 139) rfl))) rfl
theorem q1100 : Cond.methodLinkNest RX10 43 yX11_lotOf "SpinStrip" ∈ lw_nest := mn (List.mem_append_right _ (tp_5 (List.mem_of_getElem? (i := 140) rfl))) rfl
theorem q1101 : Cond.methodLinkNest RX10 47 yX3_costOfTurn "SpinStrip" ∈ lw_nest := mn (List.mem_append_right _ (tp_5 (List.mem_of_getElem? (i := 141) rfl))) rfl
theorem q1102 : Cond.methodLinkNest RX10 51 yX6_isPinned "SpinStrip" ∈ lw_nest := mn (List.mem_append_right _ (tp_5 (List.mem_of_getElem? (i := 142) rfl))) rfl
theorem q1103 : Cond.methodLink RX10 55 yJ9_min_7cf53 ∈ lw_good := mg (List.mem_append_right _ (tp_5 (List.mem_of_getElem? (i := 143) rfl))) rfl
theorem q1104 : Cond.methodLink RL 125 yX11_basin ∈ lw_good := mg (List.mem_append_right _ (tp_5 (List.mem_of_getElem? (i := 144) rfl))) rfl
theorem q1105 : Cond.instanceMethod yX11_basin ∈ lw_good := mg (List.mem_append_right _ (tp_5 (List.mem_of_getElem? (i := 145) rfl))) rfl
theorem q1106 : Cond.selects RX11 yX11_basin yX11_basin ∈ lw_good := mg (List.mem_append_right _ (tp_5 (List.mem_of_getElem? (i := 146) rfl))) rfl
theorem q1107 : Cond.code yX11_basin cX11_basin 2 (some .int) ∈ lw_good := mg (List.mem_append_right _ (tp_5 (List.mem_of_getElem? (i := 147) rfl))) rfl
theorem q1108 : Cond.methodLink RX11 408 yX11_isSmall ∈ lw_good := mg (List.mem_append_right _ (tp_5 (List.mem_of_getElem? (i := 148) rfl))) rfl
theorem q1110 : Cond.instanceMethod yX11_isSmall ∈ lw_good := mg (List.mem_append_right _ (tp_5 (List.mem_of_getElem? (i := 150) rfl))) rfl
theorem q1111 : Cond.code yX11_isSmall cX11_isSmall 1 (some .boolean) ∈ lw_good := mg (List.mem_append_right _ (tp_5 (List.mem_of_getElem? (i := 151) rfl))) rfl
theorem q1112 : Cond.methodLink RX11 412 yX11_terrainNow ∈ lw_good := mg (List.mem_append_right _ (tp_5 (List.mem_of_getElem? (i := 152) rfl))) rfl
theorem q1114 : Cond.instanceMethod yX11_terrainNow ∈ lw_good := mg (List.mem_append_right _ (tp_5 (List.mem_of_getElem? (i := 154) rfl))) rfl
theorem q1115 : Cond.code yX11_terrainNow cX11_terrainNow 2 (some (.object "SpinStrip$Terrain")) ∈ lw_good := mg (List.mem_append_right _ (tp_5 (List.mem_of_getElem? (i := 155) rfl))) rfl
theorem q1116 : Cond.methodLinkNest RX11 479 yX9_sort "SpinStrip" ∈ lw_nest := mn (List.mem_append_right _ (tp_5 (List.mem_of_getElem? (i := 156) rfl))) rfl
theorem q1118 : Cond.instanceMethod yX9_sort ∈ lw_good := mg (List.mem_append_right _ (tp_5 (List.mem_of_getElem? (i := 158) rfl))) rfl
theorem q1119 : Cond.code yX9_sort cX9_sort 7 none ∈ lw_good := mg (List.mem_append_right _ (tp_5 (List.mem_of_getElem? (i := 159) rfl))) rfl
theorem q1120 : Cond.methodLinkNest RX9 50 yX6_allows "SpinStrip" ∈ lw_nest := mn (List.mem_append_right _ (tp_5 (List.mem_of_getElem? (i := 160) rfl))) rfl
theorem q1121 : Cond.methodLinkNest RX9 56 yX2_of "SpinStrip" ∈ lw_nest := mn (List.mem_append_right _ (tp_5 (List.mem_of_getElem? (i := 161) rfl))) rfl
theorem q1122 : Cond.methodLink RX9 62 yX9_putInOrder ∈ lw_good := mg (List.mem_append_right _ (tp_5 (List.mem_of_getElem? (i := 162) rfl))) rfl
theorem q1124 : Cond.instanceMethod yX9_putInOrder ∈ lw_good := mg (List.mem_append_right _ (tp_5 (List.mem_of_getElem? (i := 164) rfl))) rfl
theorem q1125 : Cond.code yX9_putInOrder cX9_putInOrder 3 none ∈ lw_good := mg (List.mem_append_right _ (tp_5 (List.mem_of_getElem? (i := 165) rfl))) rfl
theorem q1126 : Cond.methodLinkNest RX11 416 yX9_basinOf "SpinStrip" ∈ lw_nest := mn (List.mem_append_right _ (tp_5 (List.mem_of_getElem? (i := 166) rfl))) rfl
theorem q1128 : Cond.instanceMethod yX9_basinOf ∈ lw_good := mg (List.mem_append_right _ (tp_5 (List.mem_of_getElem? (i := 168) rfl))) rfl
theorem q1129 : Cond.code yX9_basinOf cX9_basinOf 6 (some .int) ∈ lw_good := mg (List.mem_append_right _ (tp_5 (List.mem_of_getElem? (i := 169) rfl))) rfl
theorem q1130 : Cond.methodLink RX9 108 yX9_steepestFrom ∈ lw_good := mg (List.mem_append_right _ (tp_5 (List.mem_of_getElem? (i := 170) rfl))) rfl
theorem q1132 : Cond.instanceMethod yX9_steepestFrom ∈ lw_good := mg (List.mem_append_right _ (tp_5 (List.mem_of_getElem? (i := 172) rfl))) rfl
theorem q1133 : Cond.code yX9_steepestFrom cX9_steepestFrom 5 (some .int) ∈ lw_good := mg (List.mem_append_right _ (tp_5 (List.mem_of_getElem? (i := 173) rfl))) rfl
theorem q1134 : Cond.methodLink RX9 87 yX9_canTurn ∈ lw_good := mg (List.mem_append_right _ (tp_5 (List.mem_of_getElem? (i := 174) rfl))) rfl
theorem q1136 : Cond.instanceMethod yX9_canTurn ∈ lw_good := mg (List.mem_append_right _ (tp_5 (List.mem_of_getElem? (i := 176) rfl))) rfl
theorem q1137 : Cond.code yX9_canTurn cX9_canTurn 2 (some .boolean) ∈ lw_good := mg (List.mem_append_right _ (tp_5 (List.mem_of_getElem? (i := 177) rfl))) rfl
theorem q1138 : Cond.methodLinkNest RX9 66 yX6_isPinned "SpinStrip" ∈ lw_nest := mn (List.mem_append_right _ (tp_5 (List.mem_of_getElem? (i := 178) rfl))) rfl
theorem q1139 : Cond.methodLink RX9 100 yX9_energyOf ∈ lw_good := mg (List.mem_append_right _ (tp_5 (List.mem_of_getElem? (i := 179) rfl))) rfl
theorem q1141 : Cond.instanceMethod yX9_energyOf ∈ lw_good := mg (List.mem_append_right _ (tp_5 (List.mem_of_getElem? (i := 181) rfl))) rfl
theorem q1142 : Cond.code yX9_energyOf cX9_energyOf 2 (some .int) ∈ lw_good := mg (List.mem_append_right _ (tp_5 (List.mem_of_getElem? (i := 182) rfl))) rfl
theorem q1143 : Cond.methodLink RX9 69 yX9_isState ∈ lw_good := mg (List.mem_append_right _ (tp_5 (List.mem_of_getElem? (i := 183) rfl))) rfl
theorem q1144 : Cond.static yX9_isState ∈ lw_good := mg (List.mem_append_right _ (tp_5 (List.mem_of_getElem? (i := 184) rfl))) rfl
theorem q1145 : Cond.code yX9_isState cX9_isState 1 (some .boolean) ∈ lw_good := mg (List.mem_append_right _ (tp_5 (List.mem_of_getElem? (i := 185) rfl))) rfl
theorem q1146 : Cond.methodLink RL 133 yX11_hill ∈ lw_good := mg (List.mem_append_right _ (tp_5 (List.mem_of_getElem? (i := 186) rfl))) rfl
theorem q1147 : Cond.instanceMethod yX11_hill ∈ lw_good := mg (List.mem_append_right _ (tp_5 (List.mem_of_getElem? (i := 187) rfl))) rfl
theorem q1148 : Cond.selects RX11 yX11_hill yX11_hill ∈ lw_good := mg (List.mem_append_right _ (tp_5 (List.mem_of_getElem? (i := 188) rfl))) rfl
theorem q1149 : Cond.code yX11_hill cX11_hill 3 (some .int) ∈ lw_good := mg (List.mem_append_right _ (tp_5 (List.mem_of_getElem? (i := 189) rfl))) rfl
theorem q1150 : Cond.methodLinkNest RX11 419 yX9_lowest "SpinStrip" ∈ lw_nest := mn (List.mem_append_right _ (tp_5 (List.mem_of_getElem? (i := 190) rfl))) rfl
theorem q1152 : Cond.instanceMethod yX9_lowest ∈ lw_good := mg (List.mem_append_right _ (tp_5 (List.mem_of_getElem? (i := 192) rfl))) rfl
theorem q1153 : Cond.code yX9_lowest cX9_lowest 1 (some .int) ∈ lw_good := mg (List.mem_append_right _ (tp_5 (List.mem_of_getElem? (i := 193) rfl))) rfl
theorem q1154 : Cond.methodLinkNest RX11 422 yX9_meetingEnergy "SpinStrip" ∈ lw_nest := mn (List.mem_append_right _ (tp_5 (List.mem_of_getElem? (i := 194) rfl))) rfl
theorem q1156 : Cond.instanceMethod yX9_meetingEnergy ∈ lw_good := mg (List.mem_append_right _ (tp_5 (List.mem_of_getElem? (i := 196) rfl))) rfl
theorem q1157 : Cond.code yX9_meetingEnergy cX9_meetingEnergy 6 (some .int) ∈ lw_good := mg (List.mem_append_right _ (tp_5 (List.mem_of_getElem? (i := 197) rfl))) rfl
theorem q1158 : Cond.methodLink RX9 93 yX9_dry ∈ lw_good := mg (List.mem_append_right _ (tp_5 (List.mem_of_getElem? (i := 198) rfl))) rfl
theorem q1160 : Cond.instanceMethod yX9_dry ∈ lw_good := mg (List.mem_append_right _ (tp_5 (List.mem_of_getElem? (i := 200) rfl))) rfl
theorem q1161 : Cond.code yX9_dry cX9_dry 1 none ∈ lw_good := mg (List.mem_append_right _ (tp_5 (List.mem_of_getElem? (i := 201) rfl))) rfl
theorem q1162 : Cond.methodLink RX9 81 yJ7_fill_53178 ∈ lw_good := mg (List.mem_append_right _ (tp_5 (List.mem_of_getElem? (i := 202) rfl))) rfl
theorem q1163 : Cond.methodLink RX9 96 yX9_flood ∈ lw_good := mg (List.mem_append_right _ (tp_5 (List.mem_of_getElem? (i := 203) rfl))) rfl
theorem q1165 : Cond.instanceMethod yX9_flood ∈ lw_good := mg (List.mem_append_right _ (tp_5 (List.mem_of_getElem? (i := 205) rfl))) rfl
theorem q1166 : Cond.code yX9_flood cX9_flood 4 none ∈ lw_good := mg (List.mem_append_right _ (tp_5 (List.mem_of_getElem? (i := 206) rfl))) rfl
theorem q1167 : Cond.methodLink RX9 72 yX9_isWet ∈ lw_good := mg (List.mem_append_right _ (tp_5 (List.mem_of_getElem? (i := 207) rfl))) rfl
theorem q1169 : Cond.instanceMethod yX9_isWet ∈ lw_good := mg (List.mem_append_right _ (tp_5 (List.mem_of_getElem? (i := 209) rfl))) rfl
theorem q1170 : Cond.code yX9_isWet cX9_isWet 2 (some .boolean) ∈ lw_good := mg (List.mem_append_right _ (tp_5 (List.mem_of_getElem? (i := 210) rfl))) rfl
theorem q1171 : Cond.methodLink RX9 90 yX9_join ∈ lw_good := mg (List.mem_append_right _ (tp_5 (List.mem_of_getElem? (i := 211) rfl))) rfl
theorem q1173 : Cond.instanceMethod yX9_join ∈ lw_good := mg (List.mem_append_right _ (tp_5 (List.mem_of_getElem? (i := 213) rfl))) rfl
theorem q1174 : Cond.code yX9_join cX9_join 5 none ∈ lw_good := mg (List.mem_append_right _ (tp_5 (List.mem_of_getElem? (i := 214) rfl))) rfl
theorem q1175 : Cond.methodLink RX9 75 yX9_rootOf ∈ lw_good := mg (List.mem_append_right _ (tp_5 (List.mem_of_getElem? (i := 215) rfl))) rfl
theorem q1177 : Cond.instanceMethod yX9_rootOf ∈ lw_good := mg (List.mem_append_right _ (tp_5 (List.mem_of_getElem? (i := 217) rfl))) rfl
theorem q1178 : Cond.code yX9_rootOf cX9_rootOf 4 (some .int) ∈ lw_good := mg (List.mem_append_right _ (tp_5 (List.mem_of_getElem? (i := 218) rfl))) rfl
theorem q1179 : Cond.methodLink RX9 103 yX9_lowest ∈ lw_good := mg (List.mem_append_right _ (tp_5 (List.mem_of_getElem? (i := 219) rfl))) rfl
theorem q1180 : Cond.constant RX9 107 (-100000) ∈ lw_good := mg (List.mem_append_right _ (tp_5 (List.mem_of_getElem? (i := 220) rfl))) rfl
theorem q1181 : Cond.methodLink RL 137 yX11_pass ∈ lw_good := mg (List.mem_append_right _ (tp_5 (List.mem_of_getElem? (i := 221) rfl))) rfl
theorem q1182 : Cond.instanceMethod yX11_pass ∈ lw_good := mg (List.mem_append_right _ (tp_5 (List.mem_of_getElem? (i := 222) rfl))) rfl
theorem q1183 : Cond.selects RX11 yX11_pass yX11_pass ∈ lw_good := mg (List.mem_append_right _ (tp_5 (List.mem_of_getElem? (i := 223) rfl))) rfl
theorem q1184 : Cond.code yX11_pass cX11_pass 3 (some .int) ∈ lw_good := mg (List.mem_append_right _ (tp_5 (List.mem_of_getElem? (i := 224) rfl))) rfl
theorem q1185 : Cond.methodLink RL 141 yX11_lakes ∈ lw_good := mg (List.mem_append_right _ (tp_5 (List.mem_of_getElem? (i := 225) rfl))) rfl
theorem q1186 : Cond.instanceMethod yX11_lakes ∈ lw_good := mg (List.mem_append_right _ (tp_5 (List.mem_of_getElem? (i := 226) rfl))) rfl
theorem q1187 : Cond.selects RX11 yX11_lakes yX11_lakes ∈ lw_good := mg (List.mem_append_right _ (tp_5 (List.mem_of_getElem? (i := 227) rfl))) rfl
theorem q1188 : Cond.code yX11_lakes cX11_lakes 2 (some .int) ∈ lw_good := mg (List.mem_append_right _ (tp_5 (List.mem_of_getElem? (i := 228) rfl))) rfl
theorem q1189 : Cond.methodLinkNest RX11 426 yX9_lakesBelow "SpinStrip" ∈ lw_nest := mn (List.mem_append_right _ (tp_5 (List.mem_of_getElem? (i := 229) rfl))) rfl
theorem q1191 : Cond.instanceMethod yX9_lakesBelow ∈ lw_good := mg (List.mem_append_right _ (tp_5 (List.mem_of_getElem? (i := 231) rfl))) rfl
theorem q1192 : Cond.code yX9_lakesBelow cX9_lakesBelow 3 (some .int) ∈ lw_good := mg (List.mem_append_right _ (tp_5 (List.mem_of_getElem? (i := 232) rfl))) rfl
theorem q1193 : Cond.methodLink RL 145 yX11_down ∈ lw_good := mg (List.mem_append_right _ (tp_5 (List.mem_of_getElem? (i := 233) rfl))) rfl
theorem q1194 : Cond.instanceMethod yX11_down ∈ lw_good := mg (List.mem_append_right _ (tp_5 (List.mem_of_getElem? (i := 234) rfl))) rfl
theorem q1195 : Cond.selects RX11 yX11_down yX11_down ∈ lw_good := mg (List.mem_append_right _ (tp_5 (List.mem_of_getElem? (i := 235) rfl))) rfl
theorem q1196 : Cond.code yX11_down cX11_down 2 (some .long) ∈ lw_good := mg (List.mem_append_right _ (tp_5 (List.mem_of_getElem? (i := 236) rfl))) rfl
theorem q1197 : Cond.methodLinkNest RX11 429 yX9_waysDown "SpinStrip" ∈ lw_nest := mn (List.mem_append_right _ (tp_5 (List.mem_of_getElem? (i := 237) rfl))) rfl
theorem q1199 : Cond.instanceMethod yX9_waysDown ∈ lw_good := mg (List.mem_append_right _ (tp_5 (List.mem_of_getElem? (i := 239) rfl))) rfl
theorem q1200 : Cond.code yX9_waysDown cX9_waysDown 6 (some .long) ∈ lw_good := mg (List.mem_append_right _ (tp_6 (List.mem_of_getElem? (i := 0) rfl))) rfl
theorem q1201 : Cond.methodLink RX9 111 yX9_waysFrom ∈ lw_good := mg (List.mem_append_right _ (tp_6 (List.mem_of_getElem? (i := 1) rfl))) rfl
theorem q1203 : Cond.instanceMethod yX9_waysFrom ∈ lw_good := mg (List.mem_append_right _ (tp_6 (List.mem_of_getElem? (i := 3) rfl))) rfl
theorem q1204 : Cond.code yX9_waysFrom cX9_waysFrom 7 (some .long) ∈ lw_good := mg (List.mem_append_right _ (tp_6 (List.mem_of_getElem? (i := 4) rfl))) rfl
theorem q1205 : Cond.constantLong RX9 115 (-100000) ∈ lw_good := mg (List.mem_append_right _ (tp_6 (List.mem_of_getElem? (i := 5) rfl))) rfl
theorem q1206 : Cond.methodLink RL 162 yX11_hold ∈ lw_good := mg (List.mem_append_right _ (tp_6 (List.mem_of_getElem? (i := 6) rfl))) rfl
theorem q1207 : Cond.instanceMethod yX11_hold ∈ lw_good := mg (List.mem_append_right _ (tp_6 (List.mem_of_getElem? (i := 7) rfl))) rfl
theorem q1208 : Cond.selects RX11 yX11_hold yX11_hold ∈ lw_good := mg (List.mem_append_right _ (tp_6 (List.mem_of_getElem? (i := 8) rfl))) rfl
theorem q1209 : Cond.code yX11_hold cX11_hold 3 (some .boolean) ∈ lw_good := mg (List.mem_append_right _ (tp_6 (List.mem_of_getElem? (i := 9) rfl))) rfl
theorem q1210 : Cond.methodLink RL 166 yX11_restore ∈ lw_good := mg (List.mem_append_right _ (tp_6 (List.mem_of_getElem? (i := 10) rfl))) rfl
theorem q1211 : Cond.instanceMethod yX11_restore ∈ lw_good := mg (List.mem_append_right _ (tp_6 (List.mem_of_getElem? (i := 11) rfl))) rfl
theorem q1212 : Cond.selects RX11 yX11_restore yX11_restore ∈ lw_good := mg (List.mem_append_right _ (tp_6 (List.mem_of_getElem? (i := 12) rfl))) rfl
theorem q1213 : Cond.code yX11_restore cX11_restore 3 (some .boolean) ∈ lw_good := mg (List.mem_append_right _ (tp_6 (List.mem_of_getElem? (i := 13) rfl))) rfl
theorem q1214 : Cond.methodLink RL 170 yX11_count ∈ lw_good := mg (List.mem_append_right _ (tp_6 (List.mem_of_getElem? (i := 14) rfl))) rfl
theorem q1215 : Cond.instanceMethod yX11_count ∈ lw_good := mg (List.mem_append_right _ (tp_6 (List.mem_of_getElem? (i := 15) rfl))) rfl
theorem q1216 : Cond.selects RX11 yX11_count yX11_count ∈ lw_good := mg (List.mem_append_right _ (tp_6 (List.mem_of_getElem? (i := 16) rfl))) rfl
theorem q1217 : Cond.code yX11_count cX11_count 2 (some .int) ∈ lw_good := mg (List.mem_append_right _ (tp_6 (List.mem_of_getElem? (i := 17) rfl))) rfl
theorem q1218 : Cond.methodLink RX11 433 yX11_countStates ∈ lw_good := mg (List.mem_append_right _ (tp_6 (List.mem_of_getElem? (i := 18) rfl))) rfl
theorem q1220 : Cond.instanceMethod yX11_countStates ∈ lw_good := mg (List.mem_append_right _ (tp_6 (List.mem_of_getElem? (i := 20) rfl))) rfl
theorem q1221 : Cond.code yX11_countStates cX11_countStates 1 (some .int) ∈ lw_good := mg (List.mem_append_right _ (tp_6 (List.mem_of_getElem? (i := 21) rfl))) rfl
theorem q1222 : Cond.methodLinkNest RX11 436 yX3_countTies "SpinStrip" ∈ lw_nest := mn (List.mem_append_right _ (tp_6 (List.mem_of_getElem? (i := 22) rfl))) rfl
theorem q1224 : Cond.instanceMethod yX3_countTies ∈ lw_good := mg (List.mem_append_right _ (tp_6 (List.mem_of_getElem? (i := 24) rfl))) rfl
theorem q1225 : Cond.code yX3_countTies cX3_countTies 3 (some .int) ∈ lw_good := mg (List.mem_append_right _ (tp_6 (List.mem_of_getElem? (i := 25) rfl))) rfl
theorem q1226 : Cond.methodLink RX11 440 yX11_countFullSlots ∈ lw_good := mg (List.mem_append_right _ (tp_6 (List.mem_of_getElem? (i := 26) rfl))) rfl
theorem q1228 : Cond.instanceMethod yX11_countFullSlots ∈ lw_good := mg (List.mem_append_right _ (tp_6 (List.mem_of_getElem? (i := 28) rfl))) rfl
theorem q1229 : Cond.code yX11_countFullSlots cX11_countFullSlots 3 (some .int) ∈ lw_good := mg (List.mem_append_right _ (tp_6 (List.mem_of_getElem? (i := 29) rfl))) rfl
theorem q1230 : Cond.methodLinkNest RX11 446 yX3_countClusters "SpinStrip" ∈ lw_nest := mn (List.mem_append_right _ (tp_6 (List.mem_of_getElem? (i := 30) rfl))) rfl
theorem q1232 : Cond.instanceMethod yX3_countClusters ∈ lw_good := mg (List.mem_append_right _ (tp_6 (List.mem_of_getElem? (i := 32) rfl))) rfl
theorem q1233 : Cond.code yX3_countClusters cX3_countClusters 5 (some .int) ∈ lw_good := mg (List.mem_append_right _ (tp_6 (List.mem_of_getElem? (i := 33) rfl))) rfl
theorem q1234 : Cond.methodLink RX3 92 yX3_clusterOf ∈ lw_good := mg (List.mem_append_right _ (tp_6 (List.mem_of_getElem? (i := 34) rfl))) rfl
theorem q1235 : Cond.methodLinkNest RX11 449 yX3_greatestCluster "SpinStrip" ∈ lw_nest := mn (List.mem_append_right _ (tp_6 (List.mem_of_getElem? (i := 35) rfl))) rfl
theorem q1237 : Cond.instanceMethod yX3_greatestCluster ∈ lw_good := mg (List.mem_append_right _ (tp_6 (List.mem_of_getElem? (i := 37) rfl))) rfl
theorem q1238 : Cond.code yX3_greatestCluster cX3_greatestCluster 4 (some .int) ∈ lw_good := mg (List.mem_append_right _ (tp_6 (List.mem_of_getElem? (i := 38) rfl))) rfl
theorem q1239 : Cond.methodLink RX3 95 yJ6_bitCount_0f7a4 ∈ lw_good := mg (List.mem_append_right _ (tp_6 (List.mem_of_getElem? (i := 39) rfl))) rfl
theorem q1240 : Cond.methodLink RX3 100 yJ9_max_7cf53 ∈ lw_good := mg (List.mem_append_right _ (tp_6 (List.mem_of_getElem? (i := 40) rfl))) rfl
theorem q1241 : Cond.static yJ9_max_7cf53 ∈ lw_good := mg (List.mem_append_right _ (tp_6 (List.mem_of_getElem? (i := 41) rfl))) rfl
theorem q1242 : Cond.code yJ9_max_7cf53 cJ9_max_7cf53 2 (some .int) ∈ lw_good := mg (List.mem_append_right _ (tp_6 (List.mem_of_getElem? (i := 42) rfl))) rfl
theorem q1243 : Cond.methodLinkNest RX11 453 yX0_fewest "SpinStrip" ∈ lw_nest := mn (List.mem_append_right _ (tp_6 (List.mem_of_getElem? (i := 43) rfl))) rfl
theorem q1245 : Cond.instanceMethod yX0_fewest ∈ lw_good := mg (List.mem_append_right _ (tp_6 (List.mem_of_getElem? (i := 45) rfl))) rfl
theorem q1246 : Cond.code yX0_fewest cX0_fewest 2 (some .int) ∈ lw_good := mg (List.mem_append_right _ (tp_6 (List.mem_of_getElem? (i := 46) rfl))) rfl
theorem q1247 : Cond.methodLinkNest RX11 456 yX3_countOddSquares "SpinStrip" ∈ lw_nest := mn (List.mem_append_right _ (tp_6 (List.mem_of_getElem? (i := 47) rfl))) rfl
theorem q1249 : Cond.instanceMethod yX3_countOddSquares ∈ lw_good := mg (List.mem_append_right _ (tp_6 (List.mem_of_getElem? (i := 49) rfl))) rfl
theorem q1250 : Cond.code yX3_countOddSquares cX3_countOddSquares 4 (some .int) ∈ lw_good := mg (List.mem_append_right _ (tp_6 (List.mem_of_getElem? (i := 50) rfl))) rfl
theorem q1251 : Cond.methodLink RX3 85 yX3_squareOf ∈ lw_good := mg (List.mem_append_right _ (tp_6 (List.mem_of_getElem? (i := 51) rfl))) rfl
theorem q1252 : Cond.classLink RL 10 RX12 ∈ lw_good := mg (List.mem_append_right _ (tp_6 (List.mem_of_getElem? (i := 52) rfl))) rfl
theorem q1253 : Cond.instantiable RX12 45 ∈ lw_good := mg (List.mem_append_right _ (tp_6 (List.mem_of_getElem? (i := 53) rfl))) rfl
theorem q1254 : Cond.methodLink RL 12 yX12_init ∈ lw_good := mg (List.mem_append_right _ (tp_6 (List.mem_of_getElem? (i := 54) rfl))) rfl
theorem q1255 : Cond.instanceMethod yX12_init ∈ lw_good := mg (List.mem_append_right _ (tp_6 (List.mem_of_getElem? (i := 55) rfl))) rfl
theorem q1256 : Cond.code yX12_init cX12_init 1 none ∈ lw_good := mg (List.mem_append_right _ (tp_6 (List.mem_of_getElem? (i := 56) rfl))) rfl
theorem q1258 : Cond.constant RX12 56 (65536) ∈ lw_good := mg (List.mem_append_right _ (tp_6 (List.mem_of_getElem? (i := 58) rfl))) rfl
