section
theorem q0 : Cond.initialized RL ∈ lw_good := mg (List.mem_append_right _ (tp_1 (List.mem_of_getElem? (i := 0) rfl))) rfl
theorem q1 : Cond.initialized RX11 ∈ lw_good := mg (List.mem_append_right _ (tp_1 (List.mem_of_getElem? (i := 1) rfl))) rfl
theorem q2 : Cond.initialized RX1 ∈ lw_good := mg (List.mem_append_right _ (tp_1 (List.mem_of_getElem? (i := 2) rfl))) rfl
theorem q3 : Cond.initialized RX8 ∈ lw_good := mg (List.mem_append_right _ (tp_1 (List.mem_of_getElem? (i := 3) rfl))) rfl
theorem q4 : Cond.initialized RX6 ∈ lw_good := mg (List.mem_append_right _ (tp_1 (List.mem_of_getElem? (i := 4) rfl))) rfl
theorem q5 : Cond.initialized RX3 ∈ lw_good := mg (List.mem_append_right _ (tp_1 (List.mem_of_getElem? (i := 5) rfl))) rfl
theorem q6 : Cond.initialized RJ7 ∈ lw_good := mg (List.mem_append_right _ (tp_1 (List.mem_of_getElem? (i := 6) rfl))) rfl
theorem q7 : Cond.initialized RX5 ∈ lw_good := mg (List.mem_append_right _ (tp_1 (List.mem_of_getElem? (i := 7) rfl))) rfl
theorem q8 : Cond.initialized RX7 ∈ lw_good := mg (List.mem_append_right _ (tp_1 (List.mem_of_getElem? (i := 8) rfl))) rfl
theorem q9 : Cond.initialized RX2 ∈ lw_good := mg (List.mem_append_right _ (tp_1 (List.mem_of_getElem? (i := 9) rfl))) rfl
theorem q10 : Cond.initialized RX4 ∈ lw_good := mg (List.mem_append_right _ (tp_1 (List.mem_of_getElem? (i := 10) rfl))) rfl
theorem q11 : Cond.initialized RX0 ∈ lw_good := mg (List.mem_append_right _ (tp_1 (List.mem_of_getElem? (i := 11) rfl))) rfl
theorem q12 : Cond.initialized RX9 ∈ lw_good := mg (List.mem_append_right _ (tp_1 (List.mem_of_getElem? (i := 12) rfl))) rfl
theorem q13 : Cond.initialized RX10 ∈ lw_good := mg (List.mem_append_right _ (tp_1 (List.mem_of_getElem? (i := 13) rfl))) rfl
theorem q14 : Cond.initialized RX12 ∈ lw_good := mg (List.mem_append_right _ (tp_1 (List.mem_of_getElem? (i := 14) rfl))) rfl
theorem q15 : Cond.initialized RJ0 ∈ lw_good := mg (List.mem_append_right _ (tp_1 (List.mem_of_getElem? (i := 15) rfl))) rfl
theorem q16 : Cond.initialized RJ1 ∈ lw_good := mg (List.mem_append_right _ (tp_1 (List.mem_of_getElem? (i := 16) rfl))) rfl
theorem q17 : Cond.initialized RJ3 ∈ lw_good := mg (List.mem_append_right _ (tp_1 (List.mem_of_getElem? (i := 17) rfl))) rfl
theorem q18 : Cond.initialized RJ2 ∈ lw_good := mg (List.mem_append_right _ (tp_1 (List.mem_of_getElem? (i := 18) rfl))) rfl
theorem q19 : Cond.initialized RJ10 ∈ lw_good := mg (List.mem_append_right _ (tp_1 (List.mem_of_getElem? (i := 19) rfl))) rfl
theorem q20 : Cond.initialized RJ9 ∈ lw_good := mg (List.mem_append_right _ (tp_1 (List.mem_of_getElem? (i := 20) rfl))) rfl
theorem q21 : Cond.initialized RJ6 ∈ lw_good := mg (List.mem_append_right _ (tp_1 (List.mem_of_getElem? (i := 21) rfl))) rfl
theorem q22 : Cond.classLink RL 7 RX11 ∈ lw_good := mg (List.mem_append_right _ (tp_1 (List.mem_of_getElem? (i := 22) rfl))) rfl
theorem q23 : Cond.instantiable RX11 16 ∈ lw_good := mg (List.mem_append_right _ (tp_1 (List.mem_of_getElem? (i := 23) rfl))) rfl
theorem q24 : Cond.methodLink RL 9 yX11_init ∈ lw_good := mg (List.mem_append_right _ (tp_1 (List.mem_of_getElem? (i := 24) rfl))) rfl
theorem q25 : Cond.instanceMethod yX11_init ∈ lw_good := mg (List.mem_append_right _ (tp_1 (List.mem_of_getElem? (i := 25) rfl))) rfl
theorem q26 : Cond.code yX11_init cX11_init 2 none ∈ lw_good := mg (List.mem_append_right _ (tp_1 (List.mem_of_getElem? (i := 26) rfl))) rfl
theorem q30 : Cond.classLink RX11 9 RX1 ∈ lw_good := mg (List.mem_append_right _ (tp_1 (List.mem_of_getElem? (i := 30) rfl))) rfl
theorem q31 : Cond.instantiable RX1 13 ∈ lw_good := mg (List.mem_append_right _ (tp_1 (List.mem_of_getElem? (i := 31) rfl))) rfl
theorem q32 : Cond.methodLinkNest RX11 11 yX1_init "SpinStrip" ∈ lw_nest := mn (List.mem_append_right _ (tp_1 (List.mem_of_getElem? (i := 32) rfl))) rfl
theorem q33 : Cond.instanceMethod yX1_init ∈ lw_good := mg (List.mem_append_right _ (tp_1 (List.mem_of_getElem? (i := 33) rfl))) rfl
theorem q34 : Cond.code yX1_init cX1_init 1 none ∈ lw_good := mg (List.mem_append_right _ (tp_1 (List.mem_of_getElem? (i := 34) rfl))) rfl
theorem q36 : Cond.classLink RX1 9 RX8 ∈ lw_good := mg (List.mem_append_right _ (tp_1 (List.mem_of_getElem? (i := 36) rfl))) rfl
theorem q37 : Cond.instantiable RX8 10 ∈ lw_good := mg (List.mem_append_right _ (tp_1 (List.mem_of_getElem? (i := 37) rfl))) rfl
theorem q38 : Cond.methodLinkNest RX1 11 yX8_init "SpinStrip" ∈ lw_nest := mn (List.mem_append_right _ (tp_1 (List.mem_of_getElem? (i := 38) rfl))) rfl
theorem q39 : Cond.instanceMethod yX8_init ∈ lw_good := mg (List.mem_append_right _ (tp_1 (List.mem_of_getElem? (i := 39) rfl))) rfl
theorem q40 : Cond.code yX8_init cX8_init 1 none ∈ lw_good := mg (List.mem_append_right _ (tp_1 (List.mem_of_getElem? (i := 40) rfl))) rfl
theorem q42 : Cond.fieldLink RX8 9 "SpinStrip$Tape" "bytes" "[B" ∈ lw_good := mg (List.mem_append_right _ (tp_1 (List.mem_of_getElem? (i := 42) rfl))) rfl
theorem q43 : Cond.fieldLink RX8 15 "SpinStrip$Tape" "kinds" "[I" ∈ lw_good := mg (List.mem_append_right _ (tp_1 (List.mem_of_getElem? (i := 43) rfl))) rfl
theorem q44 : Cond.fieldLink RX8 19 "SpinStrip$Tape" "numbers" "[I" ∈ lw_good := mg (List.mem_append_right _ (tp_1 (List.mem_of_getElem? (i := 44) rfl))) rfl
theorem q45 : Cond.fieldLink RX8 22 "SpinStrip$Tape" "places" "[I" ∈ lw_good := mg (List.mem_append_right _ (tp_1 (List.mem_of_getElem? (i := 45) rfl))) rfl
theorem q46 : Cond.fieldLinkNest RX11 102 "SpinStrip$Tape" "length" "I" "SpinStrip" ∈ lw_nest := mn (List.mem_append_right _ (tp_1 (List.mem_of_getElem? (i := 46) rfl))) rfl
theorem q47 : Cond.fieldLink RX8 25 "SpinStrip$Tape" "length" "I" ∈ lw_good := mg (List.mem_append_right _ (tp_1 (List.mem_of_getElem? (i := 47) rfl))) rfl
theorem q48 : Cond.fieldLinkNest RX1 52 "SpinStrip$Tape" "many" "I" "SpinStrip" ∈ lw_nest := mn (List.mem_append_right _ (tp_1 (List.mem_of_getElem? (i := 48) rfl))) rfl
theorem q49 : Cond.fieldLink RX8 29 "SpinStrip$Tape" "many" "I" ∈ lw_good := mg (List.mem_append_right _ (tp_1 (List.mem_of_getElem? (i := 49) rfl))) rfl
theorem q50 : Cond.fieldLink RX8 39 "SpinStrip$Tape" "kind" "I" ∈ lw_good := mg (List.mem_append_right _ (tp_1 (List.mem_of_getElem? (i := 50) rfl))) rfl
theorem q51 : Cond.fieldLink RX8 49 "SpinStrip$Tape" "number" "I" ∈ lw_good := mg (List.mem_append_right _ (tp_1 (List.mem_of_getElem? (i := 51) rfl))) rfl
theorem q52 : Cond.fieldLinkNest RX1 32 "SpinStrip$Tape" "start" "I" "SpinStrip" ∈ lw_nest := mn (List.mem_append_right _ (tp_1 (List.mem_of_getElem? (i := 52) rfl))) rfl
theorem q53 : Cond.fieldLink RX8 52 "SpinStrip$Tape" "start" "I" ∈ lw_good := mg (List.mem_append_right _ (tp_1 (List.mem_of_getElem? (i := 53) rfl))) rfl
theorem q54 : Cond.fieldLink RX8 32 "SpinStrip$Tape" "end" "I" ∈ lw_good := mg (List.mem_append_right _ (tp_1 (List.mem_of_getElem? (i := 54) rfl))) rfl
theorem q55 : Cond.laysFinal RX8 "SpinStrip$Tape" "bytes" "[B" ∈ lw_good := mg (List.mem_append_right _ (tp_1 (List.mem_of_getElem? (i := 55) rfl))) rfl
theorem q57 : Cond.laysFinal RX8 "SpinStrip$Tape" "kinds" "[I" ∈ lw_good := mg (List.mem_append_right _ (tp_1 (List.mem_of_getElem? (i := 57) rfl))) rfl
theorem q59 : Cond.laysFinal RX8 "SpinStrip$Tape" "numbers" "[I" ∈ lw_good := mg (List.mem_append_right _ (tp_1 (List.mem_of_getElem? (i := 59) rfl))) rfl
theorem q61 : Cond.laysFinal RX8 "SpinStrip$Tape" "places" "[I" ∈ lw_good := mg (List.mem_append_right _ (tp_1 (List.mem_of_getElem? (i := 61) rfl))) rfl
theorem q63 : Cond.lays RX8 "SpinStrip$Tape" "length" "I" ∈ lw_good := mg (List.mem_append_right _ (tp_1 (List.mem_of_getElem? (i := 63) rfl))) rfl
theorem q65 : Cond.lays RX8 "SpinStrip$Tape" "many" "I" ∈ lw_good := mg (List.mem_append_right _ (tp_1 (List.mem_of_getElem? (i := 65) rfl))) rfl
theorem q67 : Cond.lays RX8 "SpinStrip$Tape" "kind" "I" ∈ lw_good := mg (List.mem_append_right _ (tp_1 (List.mem_of_getElem? (i := 67) rfl))) rfl
theorem q69 : Cond.lays RX8 "SpinStrip$Tape" "number" "I" ∈ lw_good := mg (List.mem_append_right _ (tp_1 (List.mem_of_getElem? (i := 69) rfl))) rfl
theorem q71 : Cond.lays RX8 "SpinStrip$Tape" "start" "I" ∈ lw_good := mg (List.mem_append_right _ (tp_1 (List.mem_of_getElem? (i := 71) rfl))) rfl
theorem q73 : Cond.lays RX8 "SpinStrip$Tape" "end" "I" ∈ lw_good := mg (List.mem_append_right _ (tp_1 (List.mem_of_getElem? (i := 73) rfl))) rfl
theorem q76 : Cond.arrayClass .byte ∈ lw_good := mg (List.mem_append_right _ (tp_1 (List.mem_of_getElem? (i := 76) rfl))) rfl
theorem q77 : Cond.arrayClass .int ∈ lw_good := mg (List.mem_append_right _ (tp_1 (List.mem_of_getElem? (i := 77) rfl))) rfl
theorem q78 : Cond.classLink RX1 18 RX6 ∈ lw_good := mg (List.mem_append_right _ (tp_1 (List.mem_of_getElem? (i := 78) rfl))) rfl
theorem q79 : Cond.instantiable RX6 8 ∈ lw_good := mg (List.mem_append_right _ (tp_1 (List.mem_of_getElem? (i := 79) rfl))) rfl
theorem q80 : Cond.methodLinkNest RX1 20 yX6_init "SpinStrip" ∈ lw_nest := mn (List.mem_append_right _ (tp_1 (List.mem_of_getElem? (i := 80) rfl))) rfl
theorem q81 : Cond.instanceMethod yX6_init ∈ lw_good := mg (List.mem_append_right _ (tp_1 (List.mem_of_getElem? (i := 81) rfl))) rfl
theorem q82 : Cond.code yX6_init cX6_init 1 none ∈ lw_good := mg (List.mem_append_right _ (tp_1 (List.mem_of_getElem? (i := 82) rfl))) rfl
theorem q84 : Cond.fieldLink RX6 9 "SpinStrip$Setup" "bonds" "[I" ∈ lw_good := mg (List.mem_append_right _ (tp_1 (List.mem_of_getElem? (i := 84) rfl))) rfl
theorem q85 : Cond.fieldLinkNest RX11 340 "SpinStrip$Setup" "bonds" "[I" "SpinStrip" ∈ lw_nest := mn (List.mem_append_right _ (tp_1 (List.mem_of_getElem? (i := 85) rfl))) rfl
theorem q86 : Cond.fieldLink RX6 15 "SpinStrip$Setup" "fields" "[I" ∈ lw_good := mg (List.mem_append_right _ (tp_1 (List.mem_of_getElem? (i := 86) rfl))) rfl
theorem q87 : Cond.fieldLinkNest RX11 343 "SpinStrip$Setup" "fields" "[I" "SpinStrip" ∈ lw_nest := mn (List.mem_append_right _ (tp_1 (List.mem_of_getElem? (i := 87) rfl))) rfl
theorem q88 : Cond.fieldLink RX6 24 "SpinStrip$Setup" "pinned" "I" ∈ lw_good := mg (List.mem_append_right _ (tp_1 (List.mem_of_getElem? (i := 88) rfl))) rfl
theorem q89 : Cond.fieldLinkNest RX11 191 "SpinStrip$Setup" "pinned" "I" "SpinStrip" ∈ lw_nest := mn (List.mem_append_right _ (tp_1 (List.mem_of_getElem? (i := 89) rfl))) rfl
theorem q90 : Cond.fieldLink RX6 28 "SpinStrip$Setup" "pinnedUp" "I" ∈ lw_good := mg (List.mem_append_right _ (tp_1 (List.mem_of_getElem? (i := 90) rfl))) rfl
theorem q91 : Cond.fieldLinkNest RX11 141 "SpinStrip$Setup" "pinnedUp" "I" "SpinStrip" ∈ lw_nest := mn (List.mem_append_right _ (tp_1 (List.mem_of_getElem? (i := 91) rfl))) rfl
theorem q92 : Cond.fieldLink RX6 31 "SpinStrip$Setup" "bits" "I" ∈ lw_good := mg (List.mem_append_right _ (tp_1 (List.mem_of_getElem? (i := 92) rfl))) rfl
theorem q93 : Cond.fieldLinkNest RX10 24 "SpinStrip$Setup" "bits" "I" "SpinStrip" ∈ lw_nest := mn (List.mem_append_right _ (tp_1 (List.mem_of_getElem? (i := 93) rfl))) rfl
theorem q94 : Cond.fieldLinkNest RX11 144 "SpinStrip$Setup" "bits" "I" "SpinStrip" ∈ lw_nest := mn (List.mem_append_right _ (tp_1 (List.mem_of_getElem? (i := 94) rfl))) rfl
theorem q95 : Cond.fieldLink RX6 34 "SpinStrip$Setup" "seed" "I" ∈ lw_good := mg (List.mem_append_right _ (tp_1 (List.mem_of_getElem? (i := 95) rfl))) rfl
theorem q96 : Cond.fieldLinkNest RX10 33 "SpinStrip$Setup" "seed" "I" "SpinStrip" ∈ lw_nest := mn (List.mem_append_right _ (tp_1 (List.mem_of_getElem? (i := 96) rfl))) rfl
theorem q97 : Cond.fieldLinkNest RX1 119 "SpinStrip$Setup" "seed" "I" "SpinStrip" ∈ lw_nest := mn (List.mem_append_right _ (tp_1 (List.mem_of_getElem? (i := 97) rfl))) rfl
theorem q98 : Cond.fieldLinkNest RX11 443 "SpinStrip$Setup" "seed" "I" "SpinStrip" ∈ lw_nest := mn (List.mem_append_right _ (tp_1 (List.mem_of_getElem? (i := 98) rfl))) rfl
theorem q99 : Cond.fieldLink RX6 43 "SpinStrip$Setup" "tieStamp" "I" ∈ lw_good := mg (List.mem_append_right _ (tp_1 (List.mem_of_getElem? (i := 99) rfl))) rfl
theorem q100 : Cond.fieldLinkNest RX11 460 "SpinStrip$Setup" "tieStamp" "I" "SpinStrip" ∈ lw_nest := mn (List.mem_append_right _ (tp_1 (List.mem_of_getElem? (i := 100) rfl))) rfl
theorem q101 : Cond.fieldLink RX6 46 "SpinStrip$Setup" "pinStamp" "I" ∈ lw_good := mg (List.mem_append_right _ (tp_1 (List.mem_of_getElem? (i := 101) rfl))) rfl
theorem q102 : Cond.fieldLinkNest RX11 463 "SpinStrip$Setup" "pinStamp" "I" "SpinStrip" ∈ lw_nest := mn (List.mem_append_right _ (tp_1 (List.mem_of_getElem? (i := 102) rfl))) rfl
theorem q103 : Cond.laysFinal RX6 "SpinStrip$Setup" "bonds" "[I" ∈ lw_good := mg (List.mem_append_right _ (tp_1 (List.mem_of_getElem? (i := 103) rfl))) rfl
theorem q105 : Cond.laysFinal RX6 "SpinStrip$Setup" "fields" "[I" ∈ lw_good := mg (List.mem_append_right _ (tp_1 (List.mem_of_getElem? (i := 105) rfl))) rfl
theorem q107 : Cond.lays RX6 "SpinStrip$Setup" "pinned" "I" ∈ lw_good := mg (List.mem_append_right _ (tp_1 (List.mem_of_getElem? (i := 107) rfl))) rfl
theorem q109 : Cond.lays RX6 "SpinStrip$Setup" "pinnedUp" "I" ∈ lw_good := mg (List.mem_append_right _ (tp_1 (List.mem_of_getElem? (i := 109) rfl))) rfl
theorem q111 : Cond.lays RX6 "SpinStrip$Setup" "bits" "I" ∈ lw_good := mg (List.mem_append_right _ (tp_1 (List.mem_of_getElem? (i := 111) rfl))) rfl
theorem q113 : Cond.lays RX6 "SpinStrip$Setup" "seed" "I" ∈ lw_good := mg (List.mem_append_right _ (tp_1 (List.mem_of_getElem? (i := 113) rfl))) rfl
theorem q115 : Cond.lays RX6 "SpinStrip$Setup" "tieStamp" "I" ∈ lw_good := mg (List.mem_append_right _ (tp_1 (List.mem_of_getElem? (i := 115) rfl))) rfl
theorem q117 : Cond.lays RX6 "SpinStrip$Setup" "pinStamp" "I" ∈ lw_good := mg (List.mem_append_right _ (tp_1 (List.mem_of_getElem? (i := 117) rfl))) rfl
theorem q120 : Cond.fieldLink RX1 12 "SpinStrip$Draft" "tape" "LSpinStrip$Tape;" ∈ lw_good := mg (List.mem_append_right _ (tp_1 (List.mem_of_getElem? (i := 120) rfl))) rfl
theorem q121 : Cond.fieldLinkNest RX11 16 "SpinStrip$Draft" "tape" "LSpinStrip$Tape;" "SpinStrip" ∈ lw_nest := mn (List.mem_append_right _ (tp_1 (List.mem_of_getElem? (i := 121) rfl))) rfl
theorem q122 : Cond.fieldLink RX1 21 "SpinStrip$Draft" "setup" "LSpinStrip$Setup;" ∈ lw_good := mg (List.mem_append_right _ (tp_1 (List.mem_of_getElem? (i := 122) rfl))) rfl
theorem q123 : Cond.fieldLinkNest RX11 134 "SpinStrip$Draft" "setup" "LSpinStrip$Setup;" "SpinStrip" ∈ lw_nest := mn (List.mem_append_right _ (tp_1 (List.mem_of_getElem? (i := 123) rfl))) rfl
theorem q124 : Cond.fieldLink RX1 46 "SpinStrip$Draft" "fault" "I" ∈ lw_good := mg (List.mem_append_right _ (tp_1 (List.mem_of_getElem? (i := 124) rfl))) rfl
theorem q125 : Cond.fieldLinkNest RX11 115 "SpinStrip$Draft" "fault" "I" "SpinStrip" ∈ lw_nest := mn (List.mem_append_right _ (tp_1 (List.mem_of_getElem? (i := 125) rfl))) rfl
theorem q126 : Cond.fieldLink RX1 64 "SpinStrip$Draft" "faultPlace" "I" ∈ lw_good := mg (List.mem_append_right _ (tp_1 (List.mem_of_getElem? (i := 126) rfl))) rfl
theorem q127 : Cond.fieldLinkNest RX11 114 "SpinStrip$Draft" "faultPlace" "I" "SpinStrip" ∈ lw_nest := mn (List.mem_append_right _ (tp_1 (List.mem_of_getElem? (i := 127) rfl))) rfl
theorem q128 : Cond.fieldLink RX1 49 "SpinStrip$Draft" "cursor" "I" ∈ lw_good := mg (List.mem_append_right _ (tp_1 (List.mem_of_getElem? (i := 128) rfl))) rfl
theorem q129 : Cond.fieldLinkNest RX11 121 "SpinStrip$Draft" "wide" "I" "SpinStrip" ∈ lw_nest := mn (List.mem_append_right _ (tp_1 (List.mem_of_getElem? (i := 129) rfl))) rfl
theorem q130 : Cond.fieldLink RX1 98 "SpinStrip$Draft" "wide" "I" ∈ lw_good := mg (List.mem_append_right _ (tp_1 (List.mem_of_getElem? (i := 130) rfl))) rfl
theorem q131 : Cond.fieldLinkNest RX11 124 "SpinStrip$Draft" "tall" "I" "SpinStrip" ∈ lw_nest := mn (List.mem_append_right _ (tp_1 (List.mem_of_getElem? (i := 131) rfl))) rfl
theorem q132 : Cond.fieldLink RX1 104 "SpinStrip$Draft" "tall" "I" ∈ lw_good := mg (List.mem_append_right _ (tp_1 (List.mem_of_getElem? (i := 132) rfl))) rfl
theorem q133 : Cond.fieldLink RX1 67 "SpinStrip$Draft" "rings" "I" ∈ lw_good := mg (List.mem_append_right _ (tp_1 (List.mem_of_getElem? (i := 133) rfl))) rfl
theorem q134 : Cond.fieldLinkNest RX11 127 "SpinStrip$Draft" "rings" "I" "SpinStrip" ∈ lw_nest := mn (List.mem_append_right _ (tp_1 (List.mem_of_getElem? (i := 134) rfl))) rfl
theorem q135 : Cond.fieldLink RX1 70 "SpinStrip$Draft" "allAcross" "I" ∈ lw_good := mg (List.mem_append_right _ (tp_1 (List.mem_of_getElem? (i := 135) rfl))) rfl
theorem q136 : Cond.fieldLink RX1 73 "SpinStrip$Draft" "allAlong" "I" ∈ lw_good := mg (List.mem_append_right _ (tp_1 (List.mem_of_getElem? (i := 136) rfl))) rfl
theorem q137 : Cond.fieldLink RX1 76 "SpinStrip$Draft" "allFields" "I" ∈ lw_good := mg (List.mem_append_right _ (tp_1 (List.mem_of_getElem? (i := 137) rfl))) rfl
theorem q138 : Cond.fieldLink RX1 79 "SpinStrip$Draft" "toldTies" "I" ∈ lw_good := mg (List.mem_append_right _ (tp_1 (List.mem_of_getElem? (i := 138) rfl))) rfl
theorem q139 : Cond.fieldLink RX1 82 "SpinStrip$Draft" "toldFields" "I" ∈ lw_good := mg (List.mem_append_right _ (tp_1 (List.mem_of_getElem? (i := 139) rfl))) rfl
theorem q140 : Cond.laysFinal RX1 "SpinStrip$Draft" "tape" "LSpinStrip$Tape;" ∈ lw_good := mg (List.mem_append_right _ (tp_1 (List.mem_of_getElem? (i := 140) rfl))) rfl
theorem q142 : Cond.laysFinal RX1 "SpinStrip$Draft" "setup" "LSpinStrip$Setup;" ∈ lw_good := mg (List.mem_append_right _ (tp_1 (List.mem_of_getElem? (i := 142) rfl))) rfl
theorem q144 : Cond.lays RX1 "SpinStrip$Draft" "fault" "I" ∈ lw_good := mg (List.mem_append_right _ (tp_1 (List.mem_of_getElem? (i := 144) rfl))) rfl
theorem q146 : Cond.lays RX1 "SpinStrip$Draft" "faultPlace" "I" ∈ lw_good := mg (List.mem_append_right _ (tp_1 (List.mem_of_getElem? (i := 146) rfl))) rfl
theorem q148 : Cond.lays RX1 "SpinStrip$Draft" "cursor" "I" ∈ lw_good := mg (List.mem_append_right _ (tp_1 (List.mem_of_getElem? (i := 148) rfl))) rfl
theorem q150 : Cond.lays RX1 "SpinStrip$Draft" "wide" "I" ∈ lw_good := mg (List.mem_append_right _ (tp_1 (List.mem_of_getElem? (i := 150) rfl))) rfl
theorem q152 : Cond.lays RX1 "SpinStrip$Draft" "tall" "I" ∈ lw_good := mg (List.mem_append_right _ (tp_1 (List.mem_of_getElem? (i := 152) rfl))) rfl
theorem q154 : Cond.lays RX1 "SpinStrip$Draft" "rings" "I" ∈ lw_good := mg (List.mem_append_right _ (tp_1 (List.mem_of_getElem? (i := 154) rfl))) rfl
theorem q156 : Cond.lays RX1 "SpinStrip$Draft" "allAcross" "I" ∈ lw_good := mg (List.mem_append_right _ (tp_1 (List.mem_of_getElem? (i := 156) rfl))) rfl
theorem q158 : Cond.lays RX1 "SpinStrip$Draft" "allAlong" "I" ∈ lw_good := mg (List.mem_append_right _ (tp_1 (List.mem_of_getElem? (i := 158) rfl))) rfl
theorem q160 : Cond.lays RX1 "SpinStrip$Draft" "allFields" "I" ∈ lw_good := mg (List.mem_append_right _ (tp_1 (List.mem_of_getElem? (i := 160) rfl))) rfl
theorem q162 : Cond.lays RX1 "SpinStrip$Draft" "toldTies" "I" ∈ lw_good := mg (List.mem_append_right _ (tp_1 (List.mem_of_getElem? (i := 162) rfl))) rfl
theorem q164 : Cond.lays RX1 "SpinStrip$Draft" "toldFields" "I" ∈ lw_good := mg (List.mem_append_right _ (tp_1 (List.mem_of_getElem? (i := 164) rfl))) rfl
theorem q167 : Cond.classLink RX11 21 RX3 ∈ lw_good := mg (List.mem_append_right _ (tp_1 (List.mem_of_getElem? (i := 167) rfl))) rfl
theorem q168 : Cond.instantiable RX3 8 ∈ lw_good := mg (List.mem_append_right _ (tp_1 (List.mem_of_getElem? (i := 168) rfl))) rfl
theorem q169 : Cond.methodLinkNest RX11 23 yX3_init "SpinStrip" ∈ lw_nest := mn (List.mem_append_right _ (tp_1 (List.mem_of_getElem? (i := 169) rfl))) rfl
theorem q170 : Cond.instanceMethod yX3_init ∈ lw_good := mg (List.mem_append_right _ (tp_1 (List.mem_of_getElem? (i := 170) rfl))) rfl
theorem q171 : Cond.code yX3_init cX3_init 1 none ∈ lw_good := mg (List.mem_append_right _ (tp_1 (List.mem_of_getElem? (i := 171) rfl))) rfl
theorem q173 : Cond.methodLink RX3 24 yJ7_fill_53178 ∈ lw_good := mg (List.mem_append_right _ (tp_1 (List.mem_of_getElem? (i := 173) rfl))) rfl
theorem q174 : Cond.static yJ7_fill_53178 ∈ lw_good := mg (List.mem_append_right _ (tp_1 (List.mem_of_getElem? (i := 174) rfl))) rfl
theorem q175 : Cond.code yJ7_fill_53178 cJ7_fill_53178 4 none ∈ lw_good := mg (List.mem_append_right _ (tp_1 (List.mem_of_getElem? (i := 175) rfl))) rfl
theorem q176 : Cond.fieldLink RX3 9 "SpinStrip$Grid" "ends" "[I" ∈ lw_good := mg (List.mem_append_right _ (tp_1 (List.mem_of_getElem? (i := 176) rfl))) rfl
theorem q177 : Cond.fieldLink RX3 15 "SpinStrip$Grid" "mates" "[I" ∈ lw_good := mg (List.mem_append_right _ (tp_1 (List.mem_of_getElem? (i := 177) rfl))) rfl
theorem q178 : Cond.fieldLinkNest RX2 48 "SpinStrip$Grid" "mates" "[I" "SpinStrip" ∈ lw_nest := mn (List.mem_append_right _ (tp_1 (List.mem_of_getElem? (i := 178) rfl))) rfl
theorem q179 : Cond.fieldLink RX3 18 "SpinStrip$Grid" "mateTies" "[I" ∈ lw_good := mg (List.mem_append_right _ (tp_1 (List.mem_of_getElem? (i := 179) rfl))) rfl
theorem q180 : Cond.fieldLinkNest RX2 51 "SpinStrip$Grid" "mateTies" "[I" "SpinStrip" ∈ lw_nest := mn (List.mem_append_right _ (tp_1 (List.mem_of_getElem? (i := 180) rfl))) rfl
theorem q181 : Cond.fieldLink RX3 21 "SpinStrip$Grid" "mateCounts" "[I" ∈ lw_good := mg (List.mem_append_right _ (tp_1 (List.mem_of_getElem? (i := 181) rfl))) rfl
theorem q182 : Cond.fieldLinkNest RX2 43 "SpinStrip$Grid" "mateCounts" "[I" "SpinStrip" ∈ lw_nest := mn (List.mem_append_right _ (tp_1 (List.mem_of_getElem? (i := 182) rfl))) rfl
theorem q183 : Cond.fieldLink RX3 30 "SpinStrip$Grid" "wide" "I" ∈ lw_good := mg (List.mem_append_right _ (tp_1 (List.mem_of_getElem? (i := 183) rfl))) rfl
theorem q184 : Cond.fieldLinkNest RX11 362 "SpinStrip$Grid" "wide" "I" "SpinStrip" ∈ lw_nest := mn (List.mem_append_right _ (tp_1 (List.mem_of_getElem? (i := 184) rfl))) rfl
theorem q185 : Cond.fieldLink RX3 34 "SpinStrip$Grid" "tall" "I" ∈ lw_good := mg (List.mem_append_right _ (tp_1 (List.mem_of_getElem? (i := 185) rfl))) rfl
theorem q186 : Cond.fieldLinkNest RX11 361 "SpinStrip$Grid" "tall" "I" "SpinStrip" ∈ lw_nest := mn (List.mem_append_right _ (tp_1 (List.mem_of_getElem? (i := 186) rfl))) rfl
theorem q187 : Cond.fieldLink RX3 37 "SpinStrip$Grid" "rings" "I" ∈ lw_good := mg (List.mem_append_right _ (tp_1 (List.mem_of_getElem? (i := 187) rfl))) rfl
theorem q188 : Cond.fieldLinkNest RX11 452 "SpinStrip$Grid" "rings" "I" "SpinStrip" ∈ lw_nest := mn (List.mem_append_right _ (tp_1 (List.mem_of_getElem? (i := 188) rfl))) rfl
theorem q189 : Cond.fieldLink RX3 40 "SpinStrip$Grid" "sites" "I" ∈ lw_good := mg (List.mem_append_right _ (tp_1 (List.mem_of_getElem? (i := 189) rfl))) rfl
theorem q190 : Cond.fieldLinkNest RX0 46 "SpinStrip$Grid" "sites" "I" "SpinStrip" ∈ lw_nest := mn (List.mem_append_right _ (tp_1 (List.mem_of_getElem? (i := 190) rfl))) rfl
theorem q191 : Cond.fieldLinkNest RX10 40 "SpinStrip$Grid" "sites" "I" "SpinStrip" ∈ lw_nest := mn (List.mem_append_right _ (tp_1 (List.mem_of_getElem? (i := 191) rfl))) rfl
theorem q192 : Cond.fieldLinkNest RX11 197 "SpinStrip$Grid" "sites" "I" "SpinStrip" ∈ lw_nest := mn (List.mem_append_right _ (tp_1 (List.mem_of_getElem? (i := 192) rfl))) rfl
theorem q193 : Cond.laysFinal RX3 "SpinStrip$Grid" "ends" "[I" ∈ lw_good := mg (List.mem_append_right _ (tp_1 (List.mem_of_getElem? (i := 193) rfl))) rfl
theorem q195 : Cond.laysFinal RX3 "SpinStrip$Grid" "mates" "[I" ∈ lw_good := mg (List.mem_append_right _ (tp_1 (List.mem_of_getElem? (i := 195) rfl))) rfl
theorem q197 : Cond.laysFinal RX3 "SpinStrip$Grid" "mateTies" "[I" ∈ lw_good := mg (List.mem_append_right _ (tp_1 (List.mem_of_getElem? (i := 197) rfl))) rfl
theorem q199 : Cond.laysFinal RX3 "SpinStrip$Grid" "mateCounts" "[I" ∈ lw_good := mg (List.mem_append_right _ (tp_1 (List.mem_of_getElem? (i := 199) rfl))) rfl
theorem q201 : Cond.lays RX3 "SpinStrip$Grid" "wide" "I" ∈ lw_good := mg (List.mem_append_right _ (tp_1 (List.mem_of_getElem? (i := 201) rfl))) rfl
theorem q203 : Cond.lays RX3 "SpinStrip$Grid" "tall" "I" ∈ lw_good := mg (List.mem_append_right _ (tp_1 (List.mem_of_getElem? (i := 203) rfl))) rfl
theorem q205 : Cond.lays RX3 "SpinStrip$Grid" "rings" "I" ∈ lw_good := mg (List.mem_append_right _ (tp_1 (List.mem_of_getElem? (i := 205) rfl))) rfl
theorem q207 : Cond.lays RX3 "SpinStrip$Grid" "sites" "I" ∈ lw_good := mg (List.mem_append_right _ (tp_1 (List.mem_of_getElem? (i := 207) rfl))) rfl
theorem q210 : Cond.classLink RX11 28 RX6 ∈ lw_good := mg (List.mem_append_right _ (tp_1 (List.mem_of_getElem? (i := 210) rfl))) rfl
theorem q211 : Cond.methodLinkNest RX11 30 yX6_init "SpinStrip" ∈ lw_nest := mn (List.mem_append_right _ (tp_1 (List.mem_of_getElem? (i := 211) rfl))) rfl
theorem q212 : Cond.classLink RX11 35 RX5 ∈ lw_good := mg (List.mem_append_right _ (tp_1 (List.mem_of_getElem? (i := 212) rfl))) rfl
theorem q213 : Cond.instantiable RX5 3 ∈ lw_good := mg (List.mem_append_right _ (tp_1 (List.mem_of_getElem? (i := 213) rfl))) rfl
theorem q214 : Cond.methodLinkNest RX11 37 yX5_init "SpinStrip" ∈ lw_nest := mn (List.mem_append_right _ (tp_1 (List.mem_of_getElem? (i := 214) rfl))) rfl
theorem q215 : Cond.instanceMethod yX5_init ∈ lw_good := mg (List.mem_append_right _ (tp_1 (List.mem_of_getElem? (i := 215) rfl))) rfl
theorem q216 : Cond.code yX5_init cX5_init 2 none ∈ lw_good := mg (List.mem_append_right _ (tp_1 (List.mem_of_getElem? (i := 216) rfl))) rfl
theorem q218 : Cond.classLink RX5 9 RX6 ∈ lw_good := mg (List.mem_append_right _ (tp_1 (List.mem_of_getElem? (i := 218) rfl))) rfl
theorem q220 : Cond.methodLinkNest RX5 17 yX6_init "SpinStrip" ∈ lw_nest := mn (List.mem_append_right _ (tp_1 (List.mem_of_getElem? (i := 220) rfl))) rfl
theorem q221 : Cond.fieldLink RX5 11 "SpinStrip$Past" "kept" "[LSpinStrip$Setup;" ∈ lw_good := mg (List.mem_append_right _ (tp_1 (List.mem_of_getElem? (i := 221) rfl))) rfl
theorem q222 : Cond.fieldLink RX5 18 "SpinStrip$Past" "next" "I" ∈ lw_good := mg (List.mem_append_right _ (tp_1 (List.mem_of_getElem? (i := 222) rfl))) rfl
theorem q223 : Cond.fieldLink RX5 22 "SpinStrip$Past" "many" "I" ∈ lw_good := mg (List.mem_append_right _ (tp_1 (List.mem_of_getElem? (i := 223) rfl))) rfl
theorem q224 : Cond.fieldLinkNest RX11 439 "SpinStrip$Past" "many" "I" "SpinStrip" ∈ lw_nest := mn (List.mem_append_right _ (tp_1 (List.mem_of_getElem? (i := 224) rfl))) rfl
theorem q225 : Cond.laysFinal RX5 "SpinStrip$Past" "kept" "[LSpinStrip$Setup;" ∈ lw_good := mg (List.mem_append_right _ (tp_1 (List.mem_of_getElem? (i := 225) rfl))) rfl
theorem q227 : Cond.lays RX5 "SpinStrip$Past" "next" "I" ∈ lw_good := mg (List.mem_append_right _ (tp_1 (List.mem_of_getElem? (i := 227) rfl))) rfl
theorem q229 : Cond.lays RX5 "SpinStrip$Past" "many" "I" ∈ lw_good := mg (List.mem_append_right _ (tp_1 (List.mem_of_getElem? (i := 229) rfl))) rfl
theorem q232 : Cond.classLink RX11 42 RX7 ∈ lw_good := mg (List.mem_append_right _ (tp_1 (List.mem_of_getElem? (i := 232) rfl))) rfl
theorem q234 : Cond.instantiable RX7 4 ∈ lw_good := mg (List.mem_append_right _ (tp_1 (List.mem_of_getElem? (i := 234) rfl))) rfl
theorem q235 : Cond.methodLinkNest RX11 48 yX7_init "SpinStrip" ∈ lw_nest := mn (List.mem_append_right _ (tp_1 (List.mem_of_getElem? (i := 235) rfl))) rfl
theorem q236 : Cond.instanceMethod yX7_init ∈ lw_good := mg (List.mem_append_right _ (tp_1 (List.mem_of_getElem? (i := 236) rfl))) rfl
theorem q237 : Cond.code yX7_init cX7_init 1 none ∈ lw_good := mg (List.mem_append_right _ (tp_1 (List.mem_of_getElem? (i := 237) rfl))) rfl
theorem q239 : Cond.classLink RX7 9 RX6 ∈ lw_good := mg (List.mem_append_right _ (tp_1 (List.mem_of_getElem? (i := 239) rfl))) rfl
theorem q240 : Cond.methodLinkNest RX7 11 yX6_init "SpinStrip" ∈ lw_nest := mn (List.mem_append_right _ (tp_2 (List.mem_of_getElem? (i := 0) rfl))) rfl
theorem q241 : Cond.fieldLink RX7 12 "SpinStrip$Slot" "setup" "LSpinStrip$Setup;" ∈ lw_good := mg (List.mem_append_right _ (tp_2 (List.mem_of_getElem? (i := 1) rfl))) rfl
theorem q242 : Cond.fieldLinkNest RX11 339 "SpinStrip$Slot" "setup" "LSpinStrip$Setup;" "SpinStrip" ∈ lw_nest := mn (List.mem_append_right _ (tp_2 (List.mem_of_getElem? (i := 2) rfl))) rfl
theorem q243 : Cond.fieldLink RX7 18 "SpinStrip$Slot" "ways" "[I" ∈ lw_good := mg (List.mem_append_right _ (tp_2 (List.mem_of_getElem? (i := 3) rfl))) rfl
theorem q244 : Cond.fieldLinkNest RX11 349 "SpinStrip$Slot" "ways" "[I" "SpinStrip" ∈ lw_nest := mn (List.mem_append_right _ (tp_2 (List.mem_of_getElem? (i := 4) rfl))) rfl
theorem q245 : Cond.fieldLinkNest RX11 150 "SpinStrip$Slot" "full" "Z" "SpinStrip" ∈ lw_nest := mn (List.mem_append_right _ (tp_2 (List.mem_of_getElem? (i := 5) rfl))) rfl
theorem q246 : Cond.fieldLinkNest RX11 336 "SpinStrip$Slot" "counted" "Z" "SpinStrip" ∈ lw_nest := mn (List.mem_append_right _ (tp_2 (List.mem_of_getElem? (i := 6) rfl))) rfl
theorem q247 : Cond.laysFinal RX7 "SpinStrip$Slot" "setup" "LSpinStrip$Setup;" ∈ lw_good := mg (List.mem_append_right _ (tp_2 (List.mem_of_getElem? (i := 7) rfl))) rfl
theorem q249 : Cond.laysFinal RX7 "SpinStrip$Slot" "ways" "[I" ∈ lw_good := mg (List.mem_append_right _ (tp_2 (List.mem_of_getElem? (i := 9) rfl))) rfl
theorem q251 : Cond.lays RX7 "SpinStrip$Slot" "full" "Z" ∈ lw_good := mg (List.mem_append_right _ (tp_2 (List.mem_of_getElem? (i := 11) rfl))) rfl
theorem q253 : Cond.lays RX7 "SpinStrip$Slot" "counted" "Z" ∈ lw_good := mg (List.mem_append_right _ (tp_2 (List.mem_of_getElem? (i := 13) rfl))) rfl
theorem q256 : Cond.classLink RX11 49 RX2 ∈ lw_good := mg (List.mem_append_right _ (tp_2 (List.mem_of_getElem? (i := 16) rfl))) rfl
theorem q257 : Cond.instantiable RX2 6 ∈ lw_good := mg (List.mem_append_right _ (tp_2 (List.mem_of_getElem? (i := 17) rfl))) rfl
theorem q258 : Cond.methodLinkNest RX11 51 yX2_init "SpinStrip" ∈ lw_nest := mn (List.mem_append_right _ (tp_2 (List.mem_of_getElem? (i := 18) rfl))) rfl
theorem q259 : Cond.instanceMethod yX2_init ∈ lw_good := mg (List.mem_append_right _ (tp_2 (List.mem_of_getElem? (i := 19) rfl))) rfl
theorem q260 : Cond.code yX2_init cX2_init 1 none ∈ lw_good := mg (List.mem_append_right _ (tp_2 (List.mem_of_getElem? (i := 20) rfl))) rfl
theorem q262 : Cond.fieldLink RX2 9 "SpinStrip$Energies" "lower" "[I" ∈ lw_good := mg (List.mem_append_right _ (tp_2 (List.mem_of_getElem? (i := 22) rfl))) rfl
theorem q263 : Cond.fieldLink RX2 15 "SpinStrip$Energies" "lowerBonds" "[I" ∈ lw_good := mg (List.mem_append_right _ (tp_2 (List.mem_of_getElem? (i := 23) rfl))) rfl
theorem q264 : Cond.fieldLink RX2 37 "SpinStrip$Energies" "lowerMany" "I" ∈ lw_good := mg (List.mem_append_right _ (tp_2 (List.mem_of_getElem? (i := 24) rfl))) rfl
theorem q265 : Cond.fieldLink RX2 40 "SpinStrip$Energies" "lowest" "I" ∈ lw_good := mg (List.mem_append_right _ (tp_2 (List.mem_of_getElem? (i := 25) rfl))) rfl
theorem q266 : Cond.fieldLink RX2 18 "SpinStrip$Energies" "cells" "[I" ∈ lw_good := mg (List.mem_append_right _ (tp_2 (List.mem_of_getElem? (i := 26) rfl))) rfl
theorem q267 : Cond.fieldLink RX2 21 "SpinStrip$Energies" "stamp" "I" ∈ lw_good := mg (List.mem_append_right _ (tp_2 (List.mem_of_getElem? (i := 27) rfl))) rfl
theorem q268 : Cond.fieldLinkNest RX11 466 "SpinStrip$Energies" "stamp" "I" "SpinStrip" ∈ lw_nest := mn (List.mem_append_right _ (tp_2 (List.mem_of_getElem? (i := 28) rfl))) rfl
theorem q269 : Cond.laysFinal RX2 "SpinStrip$Energies" "lower" "[I" ∈ lw_good := mg (List.mem_append_right _ (tp_2 (List.mem_of_getElem? (i := 29) rfl))) rfl
theorem q271 : Cond.laysFinal RX2 "SpinStrip$Energies" "lowerBonds" "[I" ∈ lw_good := mg (List.mem_append_right _ (tp_2 (List.mem_of_getElem? (i := 31) rfl))) rfl
theorem q273 : Cond.lays RX2 "SpinStrip$Energies" "lowerMany" "I" ∈ lw_good := mg (List.mem_append_right _ (tp_2 (List.mem_of_getElem? (i := 33) rfl))) rfl
theorem q275 : Cond.lays RX2 "SpinStrip$Energies" "lowest" "I" ∈ lw_good := mg (List.mem_append_right _ (tp_2 (List.mem_of_getElem? (i := 35) rfl))) rfl
theorem q277 : Cond.lays RX2 "SpinStrip$Energies" "cells" "[I" ∈ lw_good := mg (List.mem_append_right _ (tp_2 (List.mem_of_getElem? (i := 37) rfl))) rfl
theorem q279 : Cond.lays RX2 "SpinStrip$Energies" "stamp" "I" ∈ lw_good := mg (List.mem_append_right _ (tp_2 (List.mem_of_getElem? (i := 39) rfl))) rfl
theorem q282 : Cond.classLink RX11 59 RX4 ∈ lw_good := mg (List.mem_append_right _ (tp_2 (List.mem_of_getElem? (i := 42) rfl))) rfl
theorem q283 : Cond.instantiable RX4 6 ∈ lw_good := mg (List.mem_append_right _ (tp_2 (List.mem_of_getElem? (i := 43) rfl))) rfl
theorem q284 : Cond.methodLinkNest RX11 61 yX4_init "SpinStrip" ∈ lw_nest := mn (List.mem_append_right _ (tp_2 (List.mem_of_getElem? (i := 44) rfl))) rfl
theorem q285 : Cond.instanceMethod yX4_init ∈ lw_good := mg (List.mem_append_right _ (tp_2 (List.mem_of_getElem? (i := 45) rfl))) rfl
theorem q286 : Cond.code yX4_init cX4_init 1 none ∈ lw_good := mg (List.mem_append_right _ (tp_2 (List.mem_of_getElem? (i := 46) rfl))) rfl
theorem q288 : Cond.fieldLink RX4 9 "SpinStrip$Levels" "ways" "[I" ∈ lw_good := mg (List.mem_append_right _ (tp_2 (List.mem_of_getElem? (i := 48) rfl))) rfl
theorem q289 : Cond.fieldLinkNest RX9 46 "SpinStrip$Levels" "ways" "[I" "SpinStrip" ∈ lw_nest := mn (List.mem_append_right _ (tp_2 (List.mem_of_getElem? (i := 49) rfl))) rfl
theorem q290 : Cond.fieldLinkNest RX11 323 "SpinStrip$Levels" "ways" "[I" "SpinStrip" ∈ lw_nest := mn (List.mem_append_right _ (tp_2 (List.mem_of_getElem? (i := 50) rfl))) rfl
theorem q291 : Cond.fieldLink RX4 15 "SpinStrip$Levels" "least" "[I" ∈ lw_good := mg (List.mem_append_right _ (tp_2 (List.mem_of_getElem? (i := 51) rfl))) rfl
theorem q292 : Cond.fieldLink RX4 18 "SpinStrip$Levels" "waysByUps" "[I" ∈ lw_good := mg (List.mem_append_right _ (tp_2 (List.mem_of_getElem? (i := 52) rfl))) rfl
theorem q293 : Cond.fieldLink RX4 21 "SpinStrip$Levels" "found" "[I" ∈ lw_good := mg (List.mem_append_right _ (tp_2 (List.mem_of_getElem? (i := 53) rfl))) rfl
theorem q294 : Cond.fieldLink RX4 54 "SpinStrip$Levels" "many" "I" ∈ lw_good := mg (List.mem_append_right _ (tp_2 (List.mem_of_getElem? (i := 54) rfl))) rfl
theorem q295 : Cond.fieldLinkNest RX11 255 "SpinStrip$Levels" "many" "I" "SpinStrip" ∈ lw_nest := mn (List.mem_append_right _ (tp_2 (List.mem_of_getElem? (i := 55) rfl))) rfl
theorem q296 : Cond.fieldLink RX4 24 "SpinStrip$Levels" "stamp" "I" ∈ lw_good := mg (List.mem_append_right _ (tp_2 (List.mem_of_getElem? (i := 56) rfl))) rfl
theorem q297 : Cond.fieldLinkNest RX11 469 "SpinStrip$Levels" "stamp" "I" "SpinStrip" ∈ lw_nest := mn (List.mem_append_right _ (tp_2 (List.mem_of_getElem? (i := 57) rfl))) rfl
theorem q298 : Cond.laysFinal RX4 "SpinStrip$Levels" "ways" "[I" ∈ lw_good := mg (List.mem_append_right _ (tp_2 (List.mem_of_getElem? (i := 58) rfl))) rfl
theorem q300 : Cond.laysFinal RX4 "SpinStrip$Levels" "least" "[I" ∈ lw_good := mg (List.mem_append_right _ (tp_2 (List.mem_of_getElem? (i := 60) rfl))) rfl
theorem q302 : Cond.laysFinal RX4 "SpinStrip$Levels" "waysByUps" "[I" ∈ lw_good := mg (List.mem_append_right _ (tp_2 (List.mem_of_getElem? (i := 62) rfl))) rfl
theorem q304 : Cond.laysFinal RX4 "SpinStrip$Levels" "found" "[I" ∈ lw_good := mg (List.mem_append_right _ (tp_2 (List.mem_of_getElem? (i := 64) rfl))) rfl
theorem q306 : Cond.lays RX4 "SpinStrip$Levels" "many" "I" ∈ lw_good := mg (List.mem_append_right _ (tp_2 (List.mem_of_getElem? (i := 66) rfl))) rfl
theorem q308 : Cond.lays RX4 "SpinStrip$Levels" "stamp" "I" ∈ lw_good := mg (List.mem_append_right _ (tp_2 (List.mem_of_getElem? (i := 68) rfl))) rfl
theorem q311 : Cond.classLink RX11 66 RX0 ∈ lw_good := mg (List.mem_append_right _ (tp_2 (List.mem_of_getElem? (i := 71) rfl))) rfl
theorem q312 : Cond.instantiable RX0 4 ∈ lw_good := mg (List.mem_append_right _ (tp_2 (List.mem_of_getElem? (i := 72) rfl))) rfl
theorem q313 : Cond.methodLinkNest RX11 68 yX0_init "SpinStrip" ∈ lw_nest := mn (List.mem_append_right _ (tp_2 (List.mem_of_getElem? (i := 73) rfl))) rfl
theorem q314 : Cond.instanceMethod yX0_init ∈ lw_good := mg (List.mem_append_right _ (tp_2 (List.mem_of_getElem? (i := 74) rfl))) rfl
theorem q315 : Cond.code yX0_init cX0_init 1 none ∈ lw_good := mg (List.mem_append_right _ (tp_2 (List.mem_of_getElem? (i := 75) rfl))) rfl
theorem q317 : Cond.fieldLink RX0 9 "SpinStrip$Breaks" "ways" "[I" ∈ lw_good := mg (List.mem_append_right _ (tp_2 (List.mem_of_getElem? (i := 77) rfl))) rfl
theorem q318 : Cond.fieldLink RX0 15 "SpinStrip$Breaks" "signs" "[I" ∈ lw_good := mg (List.mem_append_right _ (tp_2 (List.mem_of_getElem? (i := 78) rfl))) rfl
theorem q319 : Cond.fieldLink RX0 18 "SpinStrip$Breaks" "noFields" "[I" ∈ lw_good := mg (List.mem_append_right _ (tp_2 (List.mem_of_getElem? (i := 79) rfl))) rfl
theorem q320 : Cond.fieldLink RX0 21 "SpinStrip$Breaks" "stamp" "I" ∈ lw_good := mg (List.mem_append_right _ (tp_2 (List.mem_of_getElem? (i := 80) rfl))) rfl
theorem q321 : Cond.fieldLinkNest RX11 474 "SpinStrip$Breaks" "stamp" "I" "SpinStrip" ∈ lw_nest := mn (List.mem_append_right _ (tp_2 (List.mem_of_getElem? (i := 81) rfl))) rfl
theorem q322 : Cond.laysFinal RX0 "SpinStrip$Breaks" "ways" "[I" ∈ lw_good := mg (List.mem_append_right _ (tp_2 (List.mem_of_getElem? (i := 82) rfl))) rfl
theorem q324 : Cond.laysFinal RX0 "SpinStrip$Breaks" "signs" "[I" ∈ lw_good := mg (List.mem_append_right _ (tp_2 (List.mem_of_getElem? (i := 84) rfl))) rfl
theorem q326 : Cond.laysFinal RX0 "SpinStrip$Breaks" "noFields" "[I" ∈ lw_good := mg (List.mem_append_right _ (tp_2 (List.mem_of_getElem? (i := 86) rfl))) rfl
theorem q328 : Cond.lays RX0 "SpinStrip$Breaks" "stamp" "I" ∈ lw_good := mg (List.mem_append_right _ (tp_2 (List.mem_of_getElem? (i := 88) rfl))) rfl
theorem q331 : Cond.classLink RX11 73 RX9 ∈ lw_good := mg (List.mem_append_right _ (tp_2 (List.mem_of_getElem? (i := 91) rfl))) rfl
theorem q332 : Cond.instantiable RX9 11 ∈ lw_good := mg (List.mem_append_right _ (tp_2 (List.mem_of_getElem? (i := 92) rfl))) rfl
theorem q333 : Cond.methodLinkNest RX11 75 yX9_init "SpinStrip" ∈ lw_nest := mn (List.mem_append_right _ (tp_2 (List.mem_of_getElem? (i := 93) rfl))) rfl
theorem q334 : Cond.instanceMethod yX9_init ∈ lw_good := mg (List.mem_append_right _ (tp_2 (List.mem_of_getElem? (i := 94) rfl))) rfl
theorem q335 : Cond.code yX9_init cX9_init 1 none ∈ lw_good := mg (List.mem_append_right _ (tp_2 (List.mem_of_getElem? (i := 95) rfl))) rfl
theorem q337 : Cond.fieldLink RX9 9 "SpinStrip$Terrain" "order" "[I" ∈ lw_good := mg (List.mem_append_right _ (tp_2 (List.mem_of_getElem? (i := 97) rfl))) rfl
theorem q338 : Cond.fieldLink RX9 15 "SpinStrip$Terrain" "starts" "[I" ∈ lw_good := mg (List.mem_append_right _ (tp_2 (List.mem_of_getElem? (i := 98) rfl))) rfl
theorem q339 : Cond.fieldLink RX9 18 "SpinStrip$Terrain" "towards" "[I" ∈ lw_good := mg (List.mem_append_right _ (tp_2 (List.mem_of_getElem? (i := 99) rfl))) rfl
theorem q340 : Cond.fieldLink RX9 21 "SpinStrip$Terrain" "ends" "[I" ∈ lw_good := mg (List.mem_append_right _ (tp_2 (List.mem_of_getElem? (i := 100) rfl))) rfl
theorem q341 : Cond.fieldLink RX9 24 "SpinStrip$Terrain" "ways" "[J" ∈ lw_good := mg (List.mem_append_right _ (tp_2 (List.mem_of_getElem? (i := 101) rfl))) rfl
theorem q342 : Cond.fieldLink RX9 32 "SpinStrip$Terrain" "energies" "LSpinStrip$Energies;" ∈ lw_good := mg (List.mem_append_right _ (tp_2 (List.mem_of_getElem? (i := 102) rfl))) rfl
theorem q343 : Cond.fieldLink RX9 36 "SpinStrip$Terrain" "setup" "LSpinStrip$Setup;" ∈ lw_good := mg (List.mem_append_right _ (tp_2 (List.mem_of_getElem? (i := 103) rfl))) rfl
theorem q344 : Cond.fieldLink RX9 40 "SpinStrip$Terrain" "sites" "I" ∈ lw_good := mg (List.mem_append_right _ (tp_2 (List.mem_of_getElem? (i := 104) rfl))) rfl
theorem q345 : Cond.fieldLink RX9 43 "SpinStrip$Terrain" "many" "I" ∈ lw_good := mg (List.mem_append_right _ (tp_2 (List.mem_of_getElem? (i := 105) rfl))) rfl
theorem q346 : Cond.fieldLink RX9 78 "SpinStrip$Terrain" "lakes" "I" ∈ lw_good := mg (List.mem_append_right _ (tp_2 (List.mem_of_getElem? (i := 106) rfl))) rfl
theorem q347 : Cond.fieldLink RX9 28 "SpinStrip$Terrain" "stamp" "I" ∈ lw_good := mg (List.mem_append_right _ (tp_2 (List.mem_of_getElem? (i := 107) rfl))) rfl
theorem q348 : Cond.fieldLinkNest RX11 478 "SpinStrip$Terrain" "stamp" "I" "SpinStrip" ∈ lw_nest := mn (List.mem_append_right _ (tp_2 (List.mem_of_getElem? (i := 108) rfl))) rfl
theorem q349 : Cond.laysFinal RX9 "SpinStrip$Terrain" "order" "[I" ∈ lw_good := mg (List.mem_append_right _ (tp_2 (List.mem_of_getElem? (i := 109) rfl))) rfl
theorem q351 : Cond.laysFinal RX9 "SpinStrip$Terrain" "starts" "[I" ∈ lw_good := mg (List.mem_append_right _ (tp_2 (List.mem_of_getElem? (i := 111) rfl))) rfl
theorem q353 : Cond.laysFinal RX9 "SpinStrip$Terrain" "towards" "[I" ∈ lw_good := mg (List.mem_append_right _ (tp_2 (List.mem_of_getElem? (i := 113) rfl))) rfl
theorem q355 : Cond.laysFinal RX9 "SpinStrip$Terrain" "ends" "[I" ∈ lw_good := mg (List.mem_append_right _ (tp_2 (List.mem_of_getElem? (i := 115) rfl))) rfl
theorem q357 : Cond.laysFinal RX9 "SpinStrip$Terrain" "ways" "[J" ∈ lw_good := mg (List.mem_append_right _ (tp_2 (List.mem_of_getElem? (i := 117) rfl))) rfl
theorem q359 : Cond.lays RX9 "SpinStrip$Terrain" "energies" "LSpinStrip$Energies;" ∈ lw_good := mg (List.mem_append_right _ (tp_2 (List.mem_of_getElem? (i := 119) rfl))) rfl
theorem q361 : Cond.lays RX9 "SpinStrip$Terrain" "setup" "LSpinStrip$Setup;" ∈ lw_good := mg (List.mem_append_right _ (tp_2 (List.mem_of_getElem? (i := 121) rfl))) rfl
theorem q363 : Cond.lays RX9 "SpinStrip$Terrain" "sites" "I" ∈ lw_good := mg (List.mem_append_right _ (tp_2 (List.mem_of_getElem? (i := 123) rfl))) rfl
theorem q365 : Cond.lays RX9 "SpinStrip$Terrain" "many" "I" ∈ lw_good := mg (List.mem_append_right _ (tp_2 (List.mem_of_getElem? (i := 125) rfl))) rfl
theorem q367 : Cond.lays RX9 "SpinStrip$Terrain" "lakes" "I" ∈ lw_good := mg (List.mem_append_right _ (tp_2 (List.mem_of_getElem? (i := 127) rfl))) rfl
theorem q369 : Cond.lays RX9 "SpinStrip$Terrain" "stamp" "I" ∈ lw_good := mg (List.mem_append_right _ (tp_2 (List.mem_of_getElem? (i := 129) rfl))) rfl
theorem q372 : Cond.arrayClass .long ∈ lw_good := mg (List.mem_append_right _ (tp_2 (List.mem_of_getElem? (i := 132) rfl))) rfl
theorem q373 : Cond.classLink RX11 80 RX10 ∈ lw_good := mg (List.mem_append_right _ (tp_2 (List.mem_of_getElem? (i := 133) rfl))) rfl
theorem q374 : Cond.instantiable RX10 3 ∈ lw_good := mg (List.mem_append_right _ (tp_2 (List.mem_of_getElem? (i := 134) rfl))) rfl
theorem q375 : Cond.methodLinkNest RX11 82 yX10_init "SpinStrip" ∈ lw_nest := mn (List.mem_append_right _ (tp_2 (List.mem_of_getElem? (i := 135) rfl))) rfl
theorem q376 : Cond.instanceMethod yX10_init ∈ lw_good := mg (List.mem_append_right _ (tp_2 (List.mem_of_getElem? (i := 136) rfl))) rfl
theorem q377 : Cond.code yX10_init cX10_init 1 none ∈ lw_good := mg (List.mem_append_right _ (tp_2 (List.mem_of_getElem? (i := 137) rfl))) rfl
theorem q379 : Cond.fieldLink RX10 9 "SpinStrip$Walker" "bits" "I" ∈ lw_good := mg (List.mem_append_right _ (tp_2 (List.mem_of_getElem? (i := 139) rfl))) rfl
theorem q380 : Cond.fieldLinkNest RX11 221 "SpinStrip$Walker" "bits" "I" "SpinStrip" ∈ lw_nest := mn (List.mem_append_right _ (tp_2 (List.mem_of_getElem? (i := 140) rfl))) rfl
theorem q381 : Cond.fieldLink RX10 15 "SpinStrip$Walker" "turns" "I" ∈ lw_good := mg (List.mem_append_right _ (tp_2 (List.mem_of_getElem? (i := 141) rfl))) rfl
theorem q382 : Cond.fieldLinkNest RX11 218 "SpinStrip$Walker" "turns" "I" "SpinStrip" ∈ lw_nest := mn (List.mem_append_right _ (tp_2 (List.mem_of_getElem? (i := 142) rfl))) rfl
theorem q383 : Cond.fieldLink RX10 30 "SpinStrip$Walker" "leastEnergy" "I" ∈ lw_good := mg (List.mem_append_right _ (tp_2 (List.mem_of_getElem? (i := 143) rfl))) rfl
theorem q384 : Cond.fieldLinkNest RX11 405 "SpinStrip$Walker" "leastEnergy" "I" "SpinStrip" ∈ lw_nest := mn (List.mem_append_right _ (tp_2 (List.mem_of_getElem? (i := 144) rfl))) rfl
theorem q385 : Cond.lays RX10 "SpinStrip$Walker" "bits" "I" ∈ lw_good := mg (List.mem_append_right _ (tp_2 (List.mem_of_getElem? (i := 145) rfl))) rfl
theorem q387 : Cond.lays RX10 "SpinStrip$Walker" "turns" "I" ∈ lw_good := mg (List.mem_append_right _ (tp_2 (List.mem_of_getElem? (i := 147) rfl))) rfl
theorem q389 : Cond.lays RX10 "SpinStrip$Walker" "leastEnergy" "I" ∈ lw_good := mg (List.mem_append_right _ (tp_2 (List.mem_of_getElem? (i := 149) rfl))) rfl
theorem q392 : Cond.fieldLink RX11 20 "SpinStrip" "tape" "LSpinStrip$Tape;" ∈ lw_good := mg (List.mem_append_right _ (tp_2 (List.mem_of_getElem? (i := 152) rfl))) rfl
theorem q393 : Cond.fieldLink RX11 12 "SpinStrip" "draft" "LSpinStrip$Draft;" ∈ lw_good := mg (List.mem_append_right _ (tp_2 (List.mem_of_getElem? (i := 153) rfl))) rfl
theorem q394 : Cond.fieldLink RX11 24 "SpinStrip" "grid" "LSpinStrip$Grid;" ∈ lw_good := mg (List.mem_append_right _ (tp_2 (List.mem_of_getElem? (i := 154) rfl))) rfl
theorem q395 : Cond.fieldLink RX11 31 "SpinStrip" "now" "LSpinStrip$Setup;" ∈ lw_good := mg (List.mem_append_right _ (tp_2 (List.mem_of_getElem? (i := 155) rfl))) rfl
theorem q396 : Cond.fieldLink RX11 38 "SpinStrip" "past" "LSpinStrip$Past;" ∈ lw_good := mg (List.mem_append_right _ (tp_2 (List.mem_of_getElem? (i := 156) rfl))) rfl
theorem q397 : Cond.fieldLink RX11 44 "SpinStrip" "slots" "[LSpinStrip$Slot;" ∈ lw_good := mg (List.mem_append_right _ (tp_2 (List.mem_of_getElem? (i := 157) rfl))) rfl
theorem q398 : Cond.fieldLink RX11 52 "SpinStrip" "energies" "LSpinStrip$Energies;" ∈ lw_good := mg (List.mem_append_right _ (tp_2 (List.mem_of_getElem? (i := 158) rfl))) rfl
theorem q399 : Cond.fieldLink RX11 56 "SpinStrip" "aside" "LSpinStrip$Energies;" ∈ lw_good := mg (List.mem_append_right _ (tp_2 (List.mem_of_getElem? (i := 159) rfl))) rfl
theorem q400 : Cond.fieldLink RX11 62 "SpinStrip" "levels" "LSpinStrip$Levels;" ∈ lw_good := mg (List.mem_append_right _ (tp_2 (List.mem_of_getElem? (i := 160) rfl))) rfl
theorem q401 : Cond.fieldLink RX11 69 "SpinStrip" "breaks" "LSpinStrip$Breaks;" ∈ lw_good := mg (List.mem_append_right _ (tp_2 (List.mem_of_getElem? (i := 161) rfl))) rfl
theorem q402 : Cond.fieldLink RX11 76 "SpinStrip" "terrain" "LSpinStrip$Terrain;" ∈ lw_good := mg (List.mem_append_right _ (tp_2 (List.mem_of_getElem? (i := 162) rfl))) rfl
theorem q403 : Cond.fieldLink RX11 83 "SpinStrip" "walker" "LSpinStrip$Walker;" ∈ lw_good := mg (List.mem_append_right _ (tp_2 (List.mem_of_getElem? (i := 163) rfl))) rfl
theorem q404 : Cond.fieldLink RX11 87 "SpinStrip" "joinedWays" "[J" ∈ lw_good := mg (List.mem_append_right _ (tp_2 (List.mem_of_getElem? (i := 164) rfl))) rfl
theorem q405 : Cond.fieldLink RX11 91 "SpinStrip" "groundStates" "[I" ∈ lw_good := mg (List.mem_append_right _ (tp_2 (List.mem_of_getElem? (i := 165) rfl))) rfl
theorem q406 : Cond.fieldLink RX11 95 "SpinStrip" "faultPlace" "I" ∈ lw_good := mg (List.mem_append_right _ (tp_2 (List.mem_of_getElem? (i := 166) rfl))) rfl
theorem q407 : Cond.fieldLink RX11 99 "SpinStrip" "stamps" "I" ∈ lw_good := mg (List.mem_append_right _ (tp_2 (List.mem_of_getElem? (i := 167) rfl))) rfl
theorem q408 : Cond.laysFinal RX11 "SpinStrip" "tape" "LSpinStrip$Tape;" ∈ lw_good := mg (List.mem_append_right _ (tp_2 (List.mem_of_getElem? (i := 168) rfl))) rfl
theorem q410 : Cond.laysFinal RX11 "SpinStrip" "draft" "LSpinStrip$Draft;" ∈ lw_good := mg (List.mem_append_right _ (tp_2 (List.mem_of_getElem? (i := 170) rfl))) rfl
theorem q412 : Cond.laysFinal RX11 "SpinStrip" "grid" "LSpinStrip$Grid;" ∈ lw_good := mg (List.mem_append_right _ (tp_2 (List.mem_of_getElem? (i := 172) rfl))) rfl
theorem q414 : Cond.laysFinal RX11 "SpinStrip" "now" "LSpinStrip$Setup;" ∈ lw_good := mg (List.mem_append_right _ (tp_2 (List.mem_of_getElem? (i := 174) rfl))) rfl
theorem q416 : Cond.laysFinal RX11 "SpinStrip" "past" "LSpinStrip$Past;" ∈ lw_good := mg (List.mem_append_right _ (tp_2 (List.mem_of_getElem? (i := 176) rfl))) rfl
theorem q418 : Cond.laysFinal RX11 "SpinStrip" "slots" "[LSpinStrip$Slot;" ∈ lw_good := mg (List.mem_append_right _ (tp_2 (List.mem_of_getElem? (i := 178) rfl))) rfl
theorem q420 : Cond.laysFinal RX11 "SpinStrip" "energies" "LSpinStrip$Energies;" ∈ lw_good := mg (List.mem_append_right _ (tp_2 (List.mem_of_getElem? (i := 180) rfl))) rfl
theorem q422 : Cond.laysFinal RX11 "SpinStrip" "aside" "LSpinStrip$Energies;" ∈ lw_good := mg (List.mem_append_right _ (tp_2 (List.mem_of_getElem? (i := 182) rfl))) rfl
theorem q424 : Cond.laysFinal RX11 "SpinStrip" "levels" "LSpinStrip$Levels;" ∈ lw_good := mg (List.mem_append_right _ (tp_2 (List.mem_of_getElem? (i := 184) rfl))) rfl
theorem q426 : Cond.laysFinal RX11 "SpinStrip" "breaks" "LSpinStrip$Breaks;" ∈ lw_good := mg (List.mem_append_right _ (tp_2 (List.mem_of_getElem? (i := 186) rfl))) rfl
theorem q428 : Cond.laysFinal RX11 "SpinStrip" "terrain" "LSpinStrip$Terrain;" ∈ lw_good := mg (List.mem_append_right _ (tp_2 (List.mem_of_getElem? (i := 188) rfl))) rfl
theorem q430 : Cond.laysFinal RX11 "SpinStrip" "walker" "LSpinStrip$Walker;" ∈ lw_good := mg (List.mem_append_right _ (tp_2 (List.mem_of_getElem? (i := 190) rfl))) rfl
theorem q432 : Cond.laysFinal RX11 "SpinStrip" "joinedWays" "[J" ∈ lw_good := mg (List.mem_append_right _ (tp_2 (List.mem_of_getElem? (i := 192) rfl))) rfl
theorem q434 : Cond.laysFinal RX11 "SpinStrip" "groundStates" "[I" ∈ lw_good := mg (List.mem_append_right _ (tp_2 (List.mem_of_getElem? (i := 194) rfl))) rfl
theorem q436 : Cond.lays RX11 "SpinStrip" "faultPlace" "I" ∈ lw_good := mg (List.mem_append_right _ (tp_2 (List.mem_of_getElem? (i := 196) rfl))) rfl
theorem q438 : Cond.lays RX11 "SpinStrip" "stamps" "I" ∈ lw_good := mg (List.mem_append_right _ (tp_2 (List.mem_of_getElem? (i := 198) rfl))) rfl
theorem q441 : Cond.methodLink RL 13 yX11_feed ∈ lw_good := mg (List.mem_append_right _ (tp_2 (List.mem_of_getElem? (i := 201) rfl))) rfl
theorem q442 : Cond.instanceMethod yX11_feed ∈ lw_good := mg (List.mem_append_right _ (tp_2 (List.mem_of_getElem? (i := 202) rfl))) rfl
theorem q443 : Cond.selects RX11 yX11_feed yX11_feed ∈ lw_good := mg (List.mem_append_right _ (tp_2 (List.mem_of_getElem? (i := 203) rfl))) rfl
theorem q444 : Cond.code yX11_feed cX11_feed 6 (some .int) ∈ lw_good := mg (List.mem_append_right _ (tp_2 (List.mem_of_getElem? (i := 204) rfl))) rfl
theorem q445 : Cond.methodLinkNest RX11 107 yX8_addWord "SpinStrip" ∈ lw_nest := mn (List.mem_append_right _ (tp_2 (List.mem_of_getElem? (i := 205) rfl))) rfl
theorem q447 : Cond.instanceMethod yX8_addWord ∈ lw_good := mg (List.mem_append_right _ (tp_2 (List.mem_of_getElem? (i := 207) rfl))) rfl
theorem q448 : Cond.code yX8_addWord cX8_addWord 3 none ∈ lw_good := mg (List.mem_append_right _ (tp_2 (List.mem_of_getElem? (i := 208) rfl))) rfl
theorem q449 : Cond.methodLink RL 18 yX11_back ∈ lw_good := mg (List.mem_append_right _ (tp_2 (List.mem_of_getElem? (i := 209) rfl))) rfl
theorem q450 : Cond.instanceMethod yX11_back ∈ lw_good := mg (List.mem_append_right _ (tp_2 (List.mem_of_getElem? (i := 210) rfl))) rfl
theorem q451 : Cond.selects RX11 yX11_back yX11_back ∈ lw_good := mg (List.mem_append_right _ (tp_2 (List.mem_of_getElem? (i := 211) rfl))) rfl
theorem q452 : Cond.code yX11_back cX11_back 2 (some .int) ∈ lw_good := mg (List.mem_append_right _ (tp_2 (List.mem_of_getElem? (i := 212) rfl))) rfl
theorem q453 : Cond.methodLink RL 23 yX11_read ∈ lw_good := mg (List.mem_append_right _ (tp_2 (List.mem_of_getElem? (i := 213) rfl))) rfl
theorem q454 : Cond.instanceMethod yX11_read ∈ lw_good := mg (List.mem_append_right _ (tp_2 (List.mem_of_getElem? (i := 214) rfl))) rfl
theorem q455 : Cond.selects RX11 yX11_read yX11_read ∈ lw_good := mg (List.mem_append_right _ (tp_2 (List.mem_of_getElem? (i := 215) rfl))) rfl
theorem q456 : Cond.code yX11_read cX11_read 1 (some .int) ∈ lw_good := mg (List.mem_append_right _ (tp_2 (List.mem_of_getElem? (i := 216) rfl))) rfl
theorem q457 : Cond.methodLinkNest RX11 111 yX1_build "SpinStrip" ∈ lw_nest := mn (List.mem_append_right _ (tp_2 (List.mem_of_getElem? (i := 217) rfl))) rfl
theorem q459 : Cond.instanceMethod yX1_build ∈ lw_good := mg (List.mem_append_right _ (tp_2 (List.mem_of_getElem? (i := 219) rfl))) rfl
theorem q460 : Cond.code yX1_build cX1_build 3 none ∈ lw_good := mg (List.mem_append_right _ (tp_2 (List.mem_of_getElem? (i := 220) rfl))) rfl
theorem q461 : Cond.methodLink RX1 25 yX1_begin ∈ lw_good := mg (List.mem_append_right _ (tp_2 (List.mem_of_getElem? (i := 221) rfl))) rfl
theorem q463 : Cond.instanceMethod yX1_begin ∈ lw_good := mg (List.mem_append_right _ (tp_2 (List.mem_of_getElem? (i := 223) rfl))) rfl
theorem q464 : Cond.code yX1_begin cX1_begin 1 none ∈ lw_good := mg (List.mem_append_right _ (tp_2 (List.mem_of_getElem? (i := 224) rfl))) rfl
theorem q465 : Cond.methodLinkNest RX1 61 yX6_clear "SpinStrip" ∈ lw_nest := mn (List.mem_append_right _ (tp_2 (List.mem_of_getElem? (i := 225) rfl))) rfl
theorem q467 : Cond.instanceMethod yX6_clear ∈ lw_good := mg (List.mem_append_right _ (tp_2 (List.mem_of_getElem? (i := 227) rfl))) rfl
theorem q468 : Cond.code yX6_clear cX6_clear 1 none ∈ lw_good := mg (List.mem_append_right _ (tp_2 (List.mem_of_getElem? (i := 228) rfl))) rfl
theorem q469 : Cond.methodLink RX6 18 yJ7_fill_53178 ∈ lw_good := mg (List.mem_append_right _ (tp_2 (List.mem_of_getElem? (i := 229) rfl))) rfl
theorem q470 : Cond.methodLinkNest RX1 28 yX8_cut "SpinStrip" ∈ lw_nest := mn (List.mem_append_right _ (tp_2 (List.mem_of_getElem? (i := 230) rfl))) rfl
theorem q472 : Cond.instanceMethod yX8_cut ∈ lw_good := mg (List.mem_append_right _ (tp_2 (List.mem_of_getElem? (i := 232) rfl))) rfl
theorem q473 : Cond.code yX8_cut cX8_cut 3 (some .int) ∈ lw_good := mg (List.mem_append_right _ (tp_2 (List.mem_of_getElem? (i := 233) rfl))) rfl
theorem q474 : Cond.methodLink RX8 35 yX8_findToken ∈ lw_good := mg (List.mem_append_right _ (tp_2 (List.mem_of_getElem? (i := 234) rfl))) rfl
theorem q476 : Cond.instanceMethod yX8_findToken ∈ lw_good := mg (List.mem_append_right _ (tp_2 (List.mem_of_getElem? (i := 236) rfl))) rfl
theorem q477 : Cond.code yX8_findToken cX8_findToken 3 none ∈ lw_good := mg (List.mem_append_right _ (tp_2 (List.mem_of_getElem? (i := 237) rfl))) rfl
theorem q478 : Cond.methodLink RX8 55 yX8_byteAt ∈ lw_good := mg (List.mem_append_right _ (tp_2 (List.mem_of_getElem? (i := 238) rfl))) rfl
theorem q480 : Cond.instanceMethod yX8_byteAt ∈ lw_good := mg (List.mem_append_right _ (tp_3 (List.mem_of_getElem? (i := 0) rfl))) rfl
theorem q481 : Cond.code yX8_byteAt cX8_byteAt 2 (some .int) ∈ lw_good := mg (List.mem_append_right _ (tp_3 (List.mem_of_getElem? (i := 1) rfl))) rfl
theorem q482 : Cond.methodLink RX8 59 yX8_isBlank ∈ lw_good := mg (List.mem_append_right _ (tp_3 (List.mem_of_getElem? (i := 2) rfl))) rfl
theorem q483 : Cond.static yX8_isBlank ∈ lw_good := mg (List.mem_append_right _ (tp_3 (List.mem_of_getElem? (i := 3) rfl))) rfl
theorem q484 : Cond.code yX8_isBlank cX8_isBlank 1 (some .boolean) ∈ lw_good := mg (List.mem_append_right _ (tp_3 (List.mem_of_getElem? (i := 4) rfl))) rfl
theorem q485 : Cond.methodLink RX8 63 yX8_isLetter ∈ lw_good := mg (List.mem_append_right _ (tp_3 (List.mem_of_getElem? (i := 5) rfl))) rfl
theorem q486 : Cond.static yX8_isLetter ∈ lw_good := mg (List.mem_append_right _ (tp_3 (List.mem_of_getElem? (i := 6) rfl))) rfl
theorem q487 : Cond.code yX8_isLetter cX8_isLetter 1 (some .boolean) ∈ lw_good := mg (List.mem_append_right _ (tp_3 (List.mem_of_getElem? (i := 7) rfl))) rfl
theorem q488 : Cond.methodLink RX8 66 yX8_skipLetters ∈ lw_good := mg (List.mem_append_right _ (tp_3 (List.mem_of_getElem? (i := 8) rfl))) rfl
theorem q490 : Cond.instanceMethod yX8_skipLetters ∈ lw_good := mg (List.mem_append_right _ (tp_3 (List.mem_of_getElem? (i := 10) rfl))) rfl
theorem q491 : Cond.code yX8_skipLetters cX8_skipLetters 1 none ∈ lw_good := mg (List.mem_append_right _ (tp_3 (List.mem_of_getElem? (i := 11) rfl))) rfl
theorem q492 : Cond.methodLink RX8 69 yX8_wordKind ∈ lw_good := mg (List.mem_append_right _ (tp_3 (List.mem_of_getElem? (i := 12) rfl))) rfl
theorem q494 : Cond.instanceMethod yX8_wordKind ∈ lw_good := mg (List.mem_append_right _ (tp_3 (List.mem_of_getElem? (i := 14) rfl))) rfl
theorem q495 : Cond.code yX8_wordKind cX8_wordKind 1 (some .int) ∈ lw_good := mg (List.mem_append_right _ (tp_3 (List.mem_of_getElem? (i := 15) rfl))) rfl
theorem q497 : Cond.methodLink RX8 81 yX8_spells ∈ lw_good := mg (List.mem_append_right _ (tp_3 (List.mem_of_getElem? (i := 17) rfl))) rfl
theorem q499 : Cond.instanceMethod yX8_spells ∈ lw_good := mg (List.mem_append_right _ (tp_3 (List.mem_of_getElem? (i := 19) rfl))) rfl
theorem q500 : Cond.code yX8_spells cX8_spells 3 (some .boolean) ∈ lw_good := mg (List.mem_append_right _ (tp_3 (List.mem_of_getElem? (i := 20) rfl))) rfl
theorem q501 : Cond.methodLink RX8 105 yJ0_length_8abf5 ∈ lw_good := mg (List.mem_append_right _ (tp_3 (List.mem_of_getElem? (i := 21) rfl))) rfl
theorem q502 : Cond.instanceMethod yJ0_length_8abf5 ∈ lw_good := mg (List.mem_append_right _ (tp_3 (List.mem_of_getElem? (i := 22) rfl))) rfl
theorem q503 : Cond.selects RJ0 yJ0_length_8abf5 yJ0_length_8abf5 ∈ lw_good := mg (List.mem_append_right _ (tp_3 (List.mem_of_getElem? (i := 23) rfl))) rfl
theorem q504 : Cond.code yJ0_length_8abf5 cJ0_length_8abf5 1 (some .int) ∈ lw_good := mg (List.mem_append_right _ (tp_3 (List.mem_of_getElem? (i := 24) rfl))) rfl
theorem q505 : Cond.methodLink RJ0 335 yJ0_coder_7d493 ∈ lw_good := mg (List.mem_append_right _ (tp_3 (List.mem_of_getElem? (i := 25) rfl))) rfl
theorem q506 : Cond.instanceMethod yJ0_coder_7d493 ∈ lw_good := mg (List.mem_append_right _ (tp_3 (List.mem_of_getElem? (i := 26) rfl))) rfl
theorem q507 : Cond.selects RJ0 yJ0_coder_7d493 yJ0_coder_7d493 ∈ lw_good := mg (List.mem_append_right _ (tp_3 (List.mem_of_getElem? (i := 27) rfl))) rfl
theorem q508 : Cond.code yJ0_coder_7d493 cJ0_coder_7d493 1 (some .byte) ∈ lw_good := mg (List.mem_append_right _ (tp_3 (List.mem_of_getElem? (i := 28) rfl))) rfl
theorem q509 : Cond.fieldLink RJ0 38 "java/lang/String" "COMPACT_STRINGS" "Z" ∈ lw_good := mg (List.mem_append_right _ (tp_3 (List.mem_of_getElem? (i := 29) rfl))) rfl
theorem q511 : Cond.methodLink RX8 109 yJ0_charAt_5068e ∈ lw_good := mg (List.mem_append_right _ (tp_3 (List.mem_of_getElem? (i := 31) rfl))) rfl
theorem q512 : Cond.instanceMethod yJ0_charAt_5068e ∈ lw_good := mg (List.mem_append_right _ (tp_3 (List.mem_of_getElem? (i := 32) rfl))) rfl
theorem q513 : Cond.selects RJ0 yJ0_charAt_5068e yJ0_charAt_5068e ∈ lw_good := mg (List.mem_append_right _ (tp_3 (List.mem_of_getElem? (i := 33) rfl))) rfl
theorem q514 : Cond.code yJ0_charAt_5068e cJ0_charAt_5068e 2 (some .char) ∈ lw_good := mg (List.mem_append_right _ (tp_3 (List.mem_of_getElem? (i := 34) rfl))) rfl
theorem q515 : Cond.methodLink RJ0 492 yJ0_isLatin1_aae02 ∈ lw_good := mg (List.mem_append_right _ (tp_3 (List.mem_of_getElem? (i := 35) rfl))) rfl
theorem q516 : Cond.instanceMethod yJ0_isLatin1_aae02 ∈ lw_good := mg (List.mem_append_right _ (tp_3 (List.mem_of_getElem? (i := 36) rfl))) rfl
theorem q517 : Cond.selects RJ0 yJ0_isLatin1_aae02 yJ0_isLatin1_aae02 ∈ lw_good := mg (List.mem_append_right _ (tp_3 (List.mem_of_getElem? (i := 37) rfl))) rfl
theorem q518 : Cond.code yJ0_isLatin1_aae02 cJ0_isLatin1_aae02 1 (some .boolean) ∈ lw_good := mg (List.mem_append_right _ (tp_3 (List.mem_of_getElem? (i := 38) rfl))) rfl
theorem q519 : Cond.methodLink RJ0 495 yJ1_charAt_3b067 ∈ lw_good := mg (List.mem_append_right _ (tp_3 (List.mem_of_getElem? (i := 39) rfl))) rfl
theorem q520 : Cond.static yJ1_charAt_3b067 ∈ lw_good := mg (List.mem_append_right _ (tp_3 (List.mem_of_getElem? (i := 40) rfl))) rfl
theorem q521 : Cond.code yJ1_charAt_3b067 cJ1_charAt_3b067 2 (some .char) ∈ lw_good := mg (List.mem_append_right _ (tp_3 (List.mem_of_getElem? (i := 41) rfl))) rfl
theorem q522 : Cond.methodLink RJ1 9 yJ0_checkIndex_df160 ∈ lw_good := mg (List.mem_append_right _ (tp_3 (List.mem_of_getElem? (i := 42) rfl))) rfl
theorem q523 : Cond.static yJ0_checkIndex_df160 ∈ lw_good := mg (List.mem_append_right _ (tp_3 (List.mem_of_getElem? (i := 43) rfl))) rfl
theorem q524 : Cond.code yJ0_checkIndex_df160 cJ0_checkIndex_df160 2 none ∈ lw_good := mg (List.mem_append_right _ (tp_3 (List.mem_of_getElem? (i := 44) rfl))) rfl
theorem q525 : Cond.fieldLink RJ0 1053 "jdk/internal/util/Preconditions" "SIOOBE_FORMATTER" "Ljava/util/function/BiFunction;" ∈ lw_good := mg (List.mem_append_right _ (tp_3 (List.mem_of_getElem? (i := 45) rfl))) rfl
theorem q527 : Cond.methodLink RJ0 1059 yJ3_checkIndex_8e157 ∈ lw_good := mg (List.mem_append_right _ (tp_3 (List.mem_of_getElem? (i := 47) rfl))) rfl
theorem q528 : Cond.static yJ3_checkIndex_8e157 ∈ lw_good := mg (List.mem_append_right _ (tp_3 (List.mem_of_getElem? (i := 48) rfl))) rfl
theorem q529 : Cond.code yJ3_checkIndex_8e157 cJ3_checkIndex_8e157 3 (some .int) ∈ lw_good := mg (List.mem_append_right _ (tp_3 (List.mem_of_getElem? (i := 49) rfl))) rfl
theorem q530 : Cond.methodLink RJ0 498 yJ2_charAt_3b067 ∈ lw_good := mg (List.mem_append_right _ (tp_3 (List.mem_of_getElem? (i := 50) rfl))) rfl
theorem q531 : Cond.static yJ2_charAt_3b067 ∈ lw_good := mg (List.mem_append_right _ (tp_3 (List.mem_of_getElem? (i := 51) rfl))) rfl
theorem q532 : Cond.code yJ2_charAt_3b067 cJ2_charAt_3b067 2 (some .char) ∈ lw_good := mg (List.mem_append_right _ (tp_3 (List.mem_of_getElem? (i := 52) rfl))) rfl
theorem q533 : Cond.methodLink RJ2 67 yJ2_checkIndex_2214a ∈ lw_good := mg (List.mem_append_right _ (tp_3 (List.mem_of_getElem? (i := 53) rfl))) rfl
theorem q534 : Cond.static yJ2_checkIndex_2214a ∈ lw_good := mg (List.mem_append_right _ (tp_3 (List.mem_of_getElem? (i := 54) rfl))) rfl
theorem q535 : Cond.code yJ2_checkIndex_2214a cJ2_checkIndex_2214a 2 none ∈ lw_good := mg (List.mem_append_right _ (tp_3 (List.mem_of_getElem? (i := 55) rfl))) rfl
theorem q536 : Cond.methodLink RJ2 48 yJ2_length_9d52b ∈ lw_good := mg (List.mem_append_right _ (tp_3 (List.mem_of_getElem? (i := 56) rfl))) rfl
theorem q537 : Cond.static yJ2_length_9d52b ∈ lw_good := mg (List.mem_append_right _ (tp_3 (List.mem_of_getElem? (i := 57) rfl))) rfl
theorem q538 : Cond.code yJ2_length_9d52b cJ2_length_9d52b 1 (some .int) ∈ lw_good := mg (List.mem_append_right _ (tp_3 (List.mem_of_getElem? (i := 58) rfl))) rfl
theorem q539 : Cond.methodLink RJ2 414 yJ0_checkIndex_df160 ∈ lw_good := mg (List.mem_append_right _ (tp_3 (List.mem_of_getElem? (i := 59) rfl))) rfl
theorem q540 : Cond.methodLink RJ2 71 yJ2_getChar_3b067 ∈ lw_good := mg (List.mem_append_right _ (tp_3 (List.mem_of_getElem? (i := 60) rfl))) rfl
theorem q541 : Cond.static yJ2_getChar_3b067 ∈ lw_good := mg (List.mem_append_right _ (tp_3 (List.mem_of_getElem? (i := 61) rfl))) rfl
theorem q542 : Cond.code yJ2_getChar_3b067 cJ2_getChar_3b067 2 (some .char) ∈ lw_good := mg (List.mem_append_right _ (tp_3 (List.mem_of_getElem? (i := 62) rfl))) rfl
theorem q543 : Cond.fieldLink RJ2 44 "java/lang/StringUTF16" "$assertionsDisabled" "Z" ∈ lw_good := mg (List.mem_append_right _ (tp_3 (List.mem_of_getElem? (i := 63) rfl))) rfl
theorem q545 : Cond.fieldLink RJ2 59 "java/lang/StringUTF16" "HI_BYTE_SHIFT" "I" ∈ lw_good := mg (List.mem_append_right _ (tp_3 (List.mem_of_getElem? (i := 65) rfl))) rfl
theorem q547 : Cond.fieldLink RJ2 63 "java/lang/StringUTF16" "LO_BYTE_SHIFT" "I" ∈ lw_good := mg (List.mem_append_right _ (tp_3 (List.mem_of_getElem? (i := 67) rfl))) rfl
theorem q559 : Cond.methodLink RX8 73 yX8_isDigit ∈ lw_good := mg (List.mem_append_right _ (tp_3 (List.mem_of_getElem? (i := 79) rfl))) rfl
theorem q560 : Cond.static yX8_isDigit ∈ lw_good := mg (List.mem_append_right _ (tp_3 (List.mem_of_getElem? (i := 80) rfl))) rfl
theorem q561 : Cond.code yX8_isDigit cX8_isDigit 1 (some .boolean) ∈ lw_good := mg (List.mem_append_right _ (tp_3 (List.mem_of_getElem? (i := 81) rfl))) rfl
theorem q562 : Cond.methodLink RX8 76 yX8_findInt ∈ lw_good := mg (List.mem_append_right _ (tp_3 (List.mem_of_getElem? (i := 82) rfl))) rfl
theorem q564 : Cond.instanceMethod yX8_findInt ∈ lw_good := mg (List.mem_append_right _ (tp_3 (List.mem_of_getElem? (i := 84) rfl))) rfl
theorem q565 : Cond.code yX8_findInt cX8_findInt 2 none ∈ lw_good := mg (List.mem_append_right _ (tp_3 (List.mem_of_getElem? (i := 85) rfl))) rfl
theorem q566 : Cond.methodLink RX8 42 yX8_wantBehind ∈ lw_good := mg (List.mem_append_right _ (tp_3 (List.mem_of_getElem? (i := 86) rfl))) rfl
theorem q567 : Cond.static yX8_wantBehind ∈ lw_good := mg (List.mem_append_right _ (tp_3 (List.mem_of_getElem? (i := 87) rfl))) rfl
theorem q568 : Cond.code yX8_wantBehind cX8_wantBehind 4 (some .int) ∈ lw_good := mg (List.mem_append_right _ (tp_3 (List.mem_of_getElem? (i := 88) rfl))) rfl
theorem q569 : Cond.methodLink RX8 113 yX8_wantInTell ∈ lw_good := mg (List.mem_append_right _ (tp_3 (List.mem_of_getElem? (i := 89) rfl))) rfl
theorem q570 : Cond.static yX8_wantInTell ∈ lw_good := mg (List.mem_append_right _ (tp_3 (List.mem_of_getElem? (i := 90) rfl))) rfl
theorem q571 : Cond.code yX8_wantInTell cX8_wantInTell 1 (some .int) ∈ lw_good := mg (List.mem_append_right _ (tp_3 (List.mem_of_getElem? (i := 91) rfl))) rfl
theorem q572 : Cond.methodLink RX8 46 yX8_keepToken ∈ lw_good := mg (List.mem_append_right _ (tp_3 (List.mem_of_getElem? (i := 92) rfl))) rfl
theorem q574 : Cond.instanceMethod yX8_keepToken ∈ lw_good := mg (List.mem_append_right _ (tp_3 (List.mem_of_getElem? (i := 94) rfl))) rfl
theorem q575 : Cond.code yX8_keepToken cX8_keepToken 1 none ∈ lw_good := mg (List.mem_append_right _ (tp_3 (List.mem_of_getElem? (i := 95) rfl))) rfl
theorem q576 : Cond.methodLink RX1 36 yX1_blame ∈ lw_good := mg (List.mem_append_right _ (tp_3 (List.mem_of_getElem? (i := 96) rfl))) rfl
theorem q578 : Cond.instanceMethod yX1_blame ∈ lw_good := mg (List.mem_append_right _ (tp_3 (List.mem_of_getElem? (i := 98) rfl))) rfl
theorem q579 : Cond.code yX1_blame cX1_blame 3 none ∈ lw_good := mg (List.mem_append_right _ (tp_3 (List.mem_of_getElem? (i := 99) rfl))) rfl
theorem q580 : Cond.methodLink RX1 40 yX1_takeSize ∈ lw_good := mg (List.mem_append_right _ (tp_3 (List.mem_of_getElem? (i := 100) rfl))) rfl
theorem q582 : Cond.instanceMethod yX1_takeSize ∈ lw_good := mg (List.mem_append_right _ (tp_3 (List.mem_of_getElem? (i := 102) rfl))) rfl
theorem q583 : Cond.code yX1_takeSize cX1_takeSize 1 none ∈ lw_good := mg (List.mem_append_right _ (tp_3 (List.mem_of_getElem? (i := 103) rfl))) rfl
theorem q584 : Cond.methodLink RX1 92 yX1_takeKind ∈ lw_good := mg (List.mem_append_right _ (tp_3 (List.mem_of_getElem? (i := 104) rfl))) rfl
theorem q586 : Cond.instanceMethod yX1_takeKind ∈ lw_good := mg (List.mem_append_right _ (tp_3 (List.mem_of_getElem? (i := 106) rfl))) rfl
theorem q587 : Cond.code yX1_takeKind cX1_takeKind 2 (some .int) ∈ lw_good := mg (List.mem_append_right _ (tp_3 (List.mem_of_getElem? (i := 107) rfl))) rfl
theorem q588 : Cond.methodLinkNest RX1 85 yX8_kindAt "SpinStrip" ∈ lw_nest := mn (List.mem_append_right _ (tp_3 (List.mem_of_getElem? (i := 108) rfl))) rfl
theorem q590 : Cond.instanceMethod yX8_kindAt ∈ lw_good := mg (List.mem_append_right _ (tp_3 (List.mem_of_getElem? (i := 110) rfl))) rfl
theorem q591 : Cond.code yX8_kindAt cX8_kindAt 2 (some .int) ∈ lw_good := mg (List.mem_append_right _ (tp_3 (List.mem_of_getElem? (i := 111) rfl))) rfl
theorem q592 : Cond.methodLink RX1 95 yX1_takeInt ∈ lw_good := mg (List.mem_append_right _ (tp_3 (List.mem_of_getElem? (i := 112) rfl))) rfl
theorem q594 : Cond.instanceMethod yX1_takeInt ∈ lw_good := mg (List.mem_append_right _ (tp_3 (List.mem_of_getElem? (i := 114) rfl))) rfl
theorem q595 : Cond.code yX1_takeInt cX1_takeInt 2 (some .int) ∈ lw_good := mg (List.mem_append_right _ (tp_3 (List.mem_of_getElem? (i := 115) rfl))) rfl
theorem q596 : Cond.methodLinkNest RX1 89 yX8_numberAt "SpinStrip" ∈ lw_nest := mn (List.mem_append_right _ (tp_3 (List.mem_of_getElem? (i := 116) rfl))) rfl
theorem q598 : Cond.instanceMethod yX8_numberAt ∈ lw_good := mg (List.mem_append_right _ (tp_3 (List.mem_of_getElem? (i := 118) rfl))) rfl
theorem q599 : Cond.code yX8_numberAt cX8_numberAt 2 (some .int) ∈ lw_good := mg (List.mem_append_right _ (tp_3 (List.mem_of_getElem? (i := 119) rfl))) rfl
theorem q600 : Cond.methodLinkNest RX1 101 yX8_placeAt "SpinStrip" ∈ lw_nest := mn (List.mem_append_right _ (tp_3 (List.mem_of_getElem? (i := 120) rfl))) rfl
theorem q602 : Cond.instanceMethod yX8_placeAt ∈ lw_good := mg (List.mem_append_right _ (tp_3 (List.mem_of_getElem? (i := 122) rfl))) rfl
theorem q603 : Cond.code yX8_placeAt cX8_placeAt 2 (some .int) ∈ lw_good := mg (List.mem_append_right _ (tp_3 (List.mem_of_getElem? (i := 123) rfl))) rfl
theorem q604 : Cond.methodLink RX1 43 yX1_seeRings ∈ lw_good := mg (List.mem_append_right _ (tp_3 (List.mem_of_getElem? (i := 124) rfl))) rfl
theorem q606 : Cond.instanceMethod yX1_seeRings ∈ lw_good := mg (List.mem_append_right _ (tp_3 (List.mem_of_getElem? (i := 126) rfl))) rfl
theorem q607 : Cond.code yX1_seeRings cX1_seeRings 2 none ∈ lw_good := mg (List.mem_append_right _ (tp_3 (List.mem_of_getElem? (i := 127) rfl))) rfl
theorem q608 : Cond.methodLink RX1 55 yX1_takeTell ∈ lw_good := mg (List.mem_append_right _ (tp_3 (List.mem_of_getElem? (i := 128) rfl))) rfl
theorem q610 : Cond.instanceMethod yX1_takeTell ∈ lw_good := mg (List.mem_append_right _ (tp_3 (List.mem_of_getElem? (i := 130) rfl))) rfl
theorem q611 : Cond.code yX1_takeTell cX1_takeTell 1 none ∈ lw_good := mg (List.mem_append_right _ (tp_3 (List.mem_of_getElem? (i := 131) rfl))) rfl
theorem q612 : Cond.methodLink RX1 107 yX1_takeJ ∈ lw_good := mg (List.mem_append_right _ (tp_3 (List.mem_of_getElem? (i := 132) rfl))) rfl
theorem q614 : Cond.instanceMethod yX1_takeJ ∈ lw_good := mg (List.mem_append_right _ (tp_3 (List.mem_of_getElem? (i := 134) rfl))) rfl
theorem q615 : Cond.code yX1_takeJ cX1_takeJ 3 (some .int) ∈ lw_good := mg (List.mem_append_right _ (tp_3 (List.mem_of_getElem? (i := 135) rfl))) rfl
theorem q616 : Cond.methodLink RX1 110 yX1_takeTie ∈ lw_good := mg (List.mem_append_right _ (tp_3 (List.mem_of_getElem? (i := 136) rfl))) rfl
theorem q618 : Cond.instanceMethod yX1_takeTie ∈ lw_good := mg (List.mem_append_right _ (tp_3 (List.mem_of_getElem? (i := 138) rfl))) rfl
theorem q619 : Cond.code yX1_takeTie cX1_takeTie 4 none ∈ lw_good := mg (List.mem_append_right _ (tp_3 (List.mem_of_getElem? (i := 139) rfl))) rfl
theorem q620 : Cond.methodLink RX1 122 yX1_takeSite ∈ lw_good := mg (List.mem_append_right _ (tp_3 (List.mem_of_getElem? (i := 140) rfl))) rfl
theorem q622 : Cond.instanceMethod yX1_takeSite ∈ lw_good := mg (List.mem_append_right _ (tp_3 (List.mem_of_getElem? (i := 142) rfl))) rfl
theorem q623 : Cond.code yX1_takeSite cX1_takeSite 2 (some .int) ∈ lw_good := mg (List.mem_append_right _ (tp_3 (List.mem_of_getElem? (i := 143) rfl))) rfl
theorem q624 : Cond.methodLinkNest RX1 125 yX3_endOf "SpinStrip" ∈ lw_nest := mn (List.mem_append_right _ (tp_3 (List.mem_of_getElem? (i := 144) rfl))) rfl
theorem q625 : Cond.static yX3_endOf ∈ lw_good := mg (List.mem_append_right _ (tp_3 (List.mem_of_getElem? (i := 145) rfl))) rfl
theorem q626 : Cond.code yX3_endOf cX3_endOf 8 (some .int) ∈ lw_good := mg (List.mem_append_right _ (tp_3 (List.mem_of_getElem? (i := 146) rfl))) rfl
theorem q627 : Cond.methodLink RX3 47 yX3_startOf ∈ lw_good := mg (List.mem_append_right _ (tp_3 (List.mem_of_getElem? (i := 147) rfl))) rfl
theorem q628 : Cond.static yX3_startOf ∈ lw_good := mg (List.mem_append_right _ (tp_3 (List.mem_of_getElem? (i := 148) rfl))) rfl
theorem q629 : Cond.code yX3_startOf cX3_startOf 1 (some .int) ∈ lw_good := mg (List.mem_append_right _ (tp_3 (List.mem_of_getElem? (i := 149) rfl))) rfl
theorem q630 : Cond.methodLinkNest RX1 131 yX6_setBond "SpinStrip" ∈ lw_nest := mn (List.mem_append_right _ (tp_3 (List.mem_of_getElem? (i := 150) rfl))) rfl
theorem q632 : Cond.instanceMethod yX6_setBond ∈ lw_good := mg (List.mem_append_right _ (tp_3 (List.mem_of_getElem? (i := 152) rfl))) rfl
theorem q633 : Cond.code yX6_setBond cX6_setBond 3 none ∈ lw_good := mg (List.mem_append_right _ (tp_3 (List.mem_of_getElem? (i := 153) rfl))) rfl
theorem q634 : Cond.methodLink RX1 113 yX1_takePull ∈ lw_good := mg (List.mem_append_right _ (tp_3 (List.mem_of_getElem? (i := 154) rfl))) rfl
theorem q636 : Cond.instanceMethod yX1_takePull ∈ lw_good := mg (List.mem_append_right _ (tp_3 (List.mem_of_getElem? (i := 156) rfl))) rfl
theorem q637 : Cond.code yX1_takePull cX1_takePull 3 none ∈ lw_good := mg (List.mem_append_right _ (tp_3 (List.mem_of_getElem? (i := 157) rfl))) rfl
theorem q638 : Cond.methodLinkNest RX1 134 yX6_setField "SpinStrip" ∈ lw_nest := mn (List.mem_append_right _ (tp_3 (List.mem_of_getElem? (i := 158) rfl))) rfl
theorem q640 : Cond.instanceMethod yX6_setField ∈ lw_good := mg (List.mem_append_right _ (tp_3 (List.mem_of_getElem? (i := 160) rfl))) rfl
theorem q641 : Cond.code yX6_setField cX6_setField 3 none ∈ lw_good := mg (List.mem_append_right _ (tp_3 (List.mem_of_getElem? (i := 161) rfl))) rfl
theorem q642 : Cond.methodLink RX1 116 yX1_takePin ∈ lw_good := mg (List.mem_append_right _ (tp_3 (List.mem_of_getElem? (i := 162) rfl))) rfl
theorem q644 : Cond.instanceMethod yX1_takePin ∈ lw_good := mg (List.mem_append_right _ (tp_3 (List.mem_of_getElem? (i := 164) rfl))) rfl
theorem q645 : Cond.code yX1_takePin cX1_takePin 3 none ∈ lw_good := mg (List.mem_append_right _ (tp_3 (List.mem_of_getElem? (i := 165) rfl))) rfl
theorem q646 : Cond.methodLinkNest RX1 137 yX6_setPin "SpinStrip" ∈ lw_nest := mn (List.mem_append_right _ (tp_3 (List.mem_of_getElem? (i := 166) rfl))) rfl
theorem q648 : Cond.instanceMethod yX6_setPin ∈ lw_good := mg (List.mem_append_right _ (tp_3 (List.mem_of_getElem? (i := 168) rfl))) rfl
theorem q649 : Cond.code yX6_setPin cX6_setPin 4 none ∈ lw_good := mg (List.mem_append_right _ (tp_3 (List.mem_of_getElem? (i := 169) rfl))) rfl
theorem q650 : Cond.methodLink RX1 58 yX1_giveUntold ∈ lw_good := mg (List.mem_append_right _ (tp_3 (List.mem_of_getElem? (i := 170) rfl))) rfl
theorem q652 : Cond.instanceMethod yX1_giveUntold ∈ lw_good := mg (List.mem_append_right _ (tp_3 (List.mem_of_getElem? (i := 172) rfl))) rfl
theorem q653 : Cond.code yX1_giveUntold cX1_giveUntold 2 none ∈ lw_good := mg (List.mem_append_right _ (tp_3 (List.mem_of_getElem? (i := 173) rfl))) rfl
theorem q654 : Cond.methodLinkNest RX1 140 yX11_bitOf "SpinStrip" ∈ lw_nest := mn (List.mem_append_right _ (tp_3 (List.mem_of_getElem? (i := 174) rfl))) rfl
theorem q655 : Cond.static yX11_bitOf ∈ lw_good := mg (List.mem_append_right _ (tp_3 (List.mem_of_getElem? (i := 175) rfl))) rfl
theorem q656 : Cond.code yX11_bitOf cX11_bitOf 2 (some .int) ∈ lw_good := mg (List.mem_append_right _ (tp_3 (List.mem_of_getElem? (i := 176) rfl))) rfl
theorem q657 : Cond.methodLink RX11 118 yX11_beginAnew ∈ lw_good := mg (List.mem_append_right _ (tp_3 (List.mem_of_getElem? (i := 177) rfl))) rfl
theorem q659 : Cond.instanceMethod yX11_beginAnew ∈ lw_good := mg (List.mem_append_right _ (tp_3 (List.mem_of_getElem? (i := 179) rfl))) rfl
theorem q660 : Cond.code yX11_beginAnew cX11_beginAnew 2 none ∈ lw_good := mg (List.mem_append_right _ (tp_3 (List.mem_of_getElem? (i := 180) rfl))) rfl
theorem q661 : Cond.methodLinkNest RX11 130 yX3_lay "SpinStrip" ∈ lw_nest := mn (List.mem_append_right _ (tp_3 (List.mem_of_getElem? (i := 181) rfl))) rfl
theorem q663 : Cond.instanceMethod yX3_lay ∈ lw_good := mg (List.mem_append_right _ (tp_3 (List.mem_of_getElem? (i := 183) rfl))) rfl
theorem q664 : Cond.code yX3_lay cX3_lay 5 none ∈ lw_good := mg (List.mem_append_right _ (tp_3 (List.mem_of_getElem? (i := 184) rfl))) rfl
theorem q665 : Cond.methodLink RX3 43 yX3_endOf ∈ lw_good := mg (List.mem_append_right _ (tp_3 (List.mem_of_getElem? (i := 185) rfl))) rfl
theorem q666 : Cond.methodLink RX3 51 yX3_addMate ∈ lw_good := mg (List.mem_append_right _ (tp_3 (List.mem_of_getElem? (i := 186) rfl))) rfl
theorem q668 : Cond.instanceMethod yX3_addMate ∈ lw_good := mg (List.mem_append_right _ (tp_3 (List.mem_of_getElem? (i := 188) rfl))) rfl
end
section
theorem q669 : Cond.code yX3_addMate cX3_addMate 5 none ∈ lw_good := mg (List.mem_append_right _ (tp_3 (List.mem_of_getElem? (i := 189) rfl))) rfl
theorem q670 : Cond.methodLinkNest RX11 137 yX6_copyFrom "SpinStrip" ∈ lw_nest := mn (List.mem_append_right _ (tp_3 (List.mem_of_getElem? (i := 190) rfl))) rfl
theorem q672 : Cond.instanceMethod yX6_copyFrom ∈ lw_good := mg (List.mem_append_right _ (tp_3 (List.mem_of_getElem? (i := 192) rfl))) rfl
theorem q673 : Cond.code yX6_copyFrom cX6_copyFrom 2 none ∈ lw_good := mg (List.mem_append_right _ (tp_3 (List.mem_of_getElem? (i := 193) rfl))) rfl
theorem q677 : Cond.methodLinkNest RX11 147 yX5_forget "SpinStrip" ∈ lw_nest := mn (List.mem_append_right _ (tp_3 (List.mem_of_getElem? (i := 197) rfl))) rfl
theorem q679 : Cond.instanceMethod yX5_forget ∈ lw_good := mg (List.mem_append_right _ (tp_3 (List.mem_of_getElem? (i := 199) rfl))) rfl
theorem q680 : Cond.code yX5_forget cX5_forget 1 none ∈ lw_good := mg (List.mem_append_right _ (tp_3 (List.mem_of_getElem? (i := 200) rfl))) rfl
theorem q681 : Cond.methodLink RX11 154 yX11_stampTies ∈ lw_good := mg (List.mem_append_right _ (tp_3 (List.mem_of_getElem? (i := 201) rfl))) rfl
theorem q683 : Cond.instanceMethod yX11_stampTies ∈ lw_good := mg (List.mem_append_right _ (tp_3 (List.mem_of_getElem? (i := 203) rfl))) rfl
theorem q684 : Cond.code yX11_stampTies cX11_stampTies 1 none ∈ lw_good := mg (List.mem_append_right _ (tp_3 (List.mem_of_getElem? (i := 204) rfl))) rfl
theorem q685 : Cond.methodLink RL 28 yX11_place ∈ lw_good := mg (List.mem_append_right _ (tp_3 (List.mem_of_getElem? (i := 205) rfl))) rfl
theorem q686 : Cond.instanceMethod yX11_place ∈ lw_good := mg (List.mem_append_right _ (tp_3 (List.mem_of_getElem? (i := 206) rfl))) rfl
theorem q687 : Cond.selects RX11 yX11_place yX11_place ∈ lw_good := mg (List.mem_append_right _ (tp_3 (List.mem_of_getElem? (i := 207) rfl))) rfl
theorem q688 : Cond.code yX11_place cX11_place 1 (some .int) ∈ lw_good := mg (List.mem_append_right _ (tp_3 (List.mem_of_getElem? (i := 208) rfl))) rfl
theorem q689 : Cond.methodLink RL 32 yX11_tie ∈ lw_good := mg (List.mem_append_right _ (tp_3 (List.mem_of_getElem? (i := 209) rfl))) rfl
theorem q690 : Cond.instanceMethod yX11_tie ∈ lw_good := mg (List.mem_append_right _ (tp_3 (List.mem_of_getElem? (i := 210) rfl))) rfl
theorem q691 : Cond.selects RX11 yX11_tie yX11_tie ∈ lw_good := mg (List.mem_append_right _ (tp_3 (List.mem_of_getElem? (i := 211) rfl))) rfl
theorem q692 : Cond.code yX11_tie cX11_tie 5 (some .boolean) ∈ lw_good := mg (List.mem_append_right _ (tp_3 (List.mem_of_getElem? (i := 212) rfl))) rfl
theorem q693 : Cond.methodLinkNest RX11 157 yX3_tiePlace "SpinStrip" ∈ lw_nest := mn (List.mem_append_right _ (tp_3 (List.mem_of_getElem? (i := 213) rfl))) rfl
theorem q695 : Cond.instanceMethod yX3_tiePlace ∈ lw_good := mg (List.mem_append_right _ (tp_3 (List.mem_of_getElem? (i := 215) rfl))) rfl
theorem q696 : Cond.code yX3_tiePlace cX3_tiePlace 4 (some .int) ∈ lw_good := mg (List.mem_append_right _ (tp_3 (List.mem_of_getElem? (i := 216) rfl))) rfl
theorem q697 : Cond.methodLink RX3 55 yX3_hasSite ∈ lw_good := mg (List.mem_append_right _ (tp_3 (List.mem_of_getElem? (i := 217) rfl))) rfl
theorem q699 : Cond.instanceMethod yX3_hasSite ∈ lw_good := mg (List.mem_append_right _ (tp_3 (List.mem_of_getElem? (i := 219) rfl))) rfl
theorem q700 : Cond.code yX3_hasSite cX3_hasSite 2 (some .boolean) ∈ lw_good := mg (List.mem_append_right _ (tp_3 (List.mem_of_getElem? (i := 220) rfl))) rfl
theorem q701 : Cond.methodLink RX3 59 yX3_endAt ∈ lw_good := mg (List.mem_append_right _ (tp_3 (List.mem_of_getElem? (i := 221) rfl))) rfl
theorem q703 : Cond.instanceMethod yX3_endAt ∈ lw_good := mg (List.mem_append_right _ (tp_3 (List.mem_of_getElem? (i := 223) rfl))) rfl
theorem q704 : Cond.code yX3_endAt cX3_endAt 2 (some .int) ∈ lw_good := mg (List.mem_append_right _ (tp_3 (List.mem_of_getElem? (i := 224) rfl))) rfl
theorem q705 : Cond.methodLink RX11 161 yX11_isJ ∈ lw_good := mg (List.mem_append_right _ (tp_3 (List.mem_of_getElem? (i := 225) rfl))) rfl
theorem q706 : Cond.static yX11_isJ ∈ lw_good := mg (List.mem_append_right _ (tp_3 (List.mem_of_getElem? (i := 226) rfl))) rfl
theorem q707 : Cond.code yX11_isJ cX11_isJ 1 (some .boolean) ∈ lw_good := mg (List.mem_append_right _ (tp_3 (List.mem_of_getElem? (i := 227) rfl))) rfl
theorem q708 : Cond.methodLinkNest RX11 165 yX6_bondAt "SpinStrip" ∈ lw_nest := mn (List.mem_append_right _ (tp_3 (List.mem_of_getElem? (i := 228) rfl))) rfl
theorem q710 : Cond.instanceMethod yX6_bondAt ∈ lw_good := mg (List.mem_append_right _ (tp_3 (List.mem_of_getElem? (i := 230) rfl))) rfl
theorem q711 : Cond.code yX6_bondAt cX6_bondAt 2 (some .int) ∈ lw_good := mg (List.mem_append_right _ (tp_3 (List.mem_of_getElem? (i := 231) rfl))) rfl
theorem q712 : Cond.methodLinkNest RX11 169 yX5_keep "SpinStrip" ∈ lw_nest := mn (List.mem_append_right _ (tp_3 (List.mem_of_getElem? (i := 232) rfl))) rfl
theorem q714 : Cond.instanceMethod yX5_keep ∈ lw_good := mg (List.mem_append_right _ (tp_3 (List.mem_of_getElem? (i := 234) rfl))) rfl
theorem q715 : Cond.code yX5_keep cX5_keep 2 none ∈ lw_good := mg (List.mem_append_right _ (tp_3 (List.mem_of_getElem? (i := 235) rfl))) rfl
theorem q716 : Cond.methodLinkNest RX5 25 yX6_copyFrom "SpinStrip" ∈ lw_nest := mn (List.mem_append_right _ (tp_3 (List.mem_of_getElem? (i := 236) rfl))) rfl
theorem q717 : Cond.methodLink RX5 29 yJ9_min_7cf53 ∈ lw_good := mg (List.mem_append_right _ (tp_3 (List.mem_of_getElem? (i := 237) rfl))) rfl
theorem q718 : Cond.static yJ9_min_7cf53 ∈ lw_good := mg (List.mem_append_right _ (tp_3 (List.mem_of_getElem? (i := 238) rfl))) rfl
theorem q719 : Cond.code yJ9_min_7cf53 cJ9_min_7cf53 2 (some .int) ∈ lw_good := mg (List.mem_append_right _ (tp_3 (List.mem_of_getElem? (i := 239) rfl))) rfl
theorem q720 : Cond.methodLinkNest RX11 172 yX6_setBond "SpinStrip" ∈ lw_nest := mn (List.mem_append_right _ (tp_4 (List.mem_of_getElem? (i := 0) rfl))) rfl
theorem q721 : Cond.methodLink RL 37 yX11_pull ∈ lw_good := mg (List.mem_append_right _ (tp_4 (List.mem_of_getElem? (i := 1) rfl))) rfl
theorem q722 : Cond.instanceMethod yX11_pull ∈ lw_good := mg (List.mem_append_right _ (tp_4 (List.mem_of_getElem? (i := 2) rfl))) rfl
theorem q723 : Cond.selects RX11 yX11_pull yX11_pull ∈ lw_good := mg (List.mem_append_right _ (tp_4 (List.mem_of_getElem? (i := 3) rfl))) rfl
theorem q724 : Cond.code yX11_pull cX11_pull 3 (some .boolean) ∈ lw_good := mg (List.mem_append_right _ (tp_4 (List.mem_of_getElem? (i := 4) rfl))) rfl
theorem q725 : Cond.methodLinkNest RX11 176 yX3_hasSite "SpinStrip" ∈ lw_nest := mn (List.mem_append_right _ (tp_4 (List.mem_of_getElem? (i := 5) rfl))) rfl
theorem q726 : Cond.methodLinkNest RX11 179 yX6_fieldAt "SpinStrip" ∈ lw_nest := mn (List.mem_append_right _ (tp_4 (List.mem_of_getElem? (i := 6) rfl))) rfl
theorem q728 : Cond.instanceMethod yX6_fieldAt ∈ lw_good := mg (List.mem_append_right _ (tp_4 (List.mem_of_getElem? (i := 8) rfl))) rfl
theorem q729 : Cond.code yX6_fieldAt cX6_fieldAt 2 (some .int) ∈ lw_good := mg (List.mem_append_right _ (tp_4 (List.mem_of_getElem? (i := 9) rfl))) rfl
theorem q730 : Cond.methodLinkNest RX11 182 yX6_setField "SpinStrip" ∈ lw_nest := mn (List.mem_append_right _ (tp_4 (List.mem_of_getElem? (i := 10) rfl))) rfl
theorem q731 : Cond.methodLink RL 42 yX11_pin ∈ lw_good := mg (List.mem_append_right _ (tp_4 (List.mem_of_getElem? (i := 11) rfl))) rfl
theorem q732 : Cond.instanceMethod yX11_pin ∈ lw_good := mg (List.mem_append_right _ (tp_4 (List.mem_of_getElem? (i := 12) rfl))) rfl
theorem q733 : Cond.selects RX11 yX11_pin yX11_pin ∈ lw_good := mg (List.mem_append_right _ (tp_4 (List.mem_of_getElem? (i := 13) rfl))) rfl
theorem q734 : Cond.code yX11_pin cX11_pin 3 (some .boolean) ∈ lw_good := mg (List.mem_append_right _ (tp_4 (List.mem_of_getElem? (i := 14) rfl))) rfl
theorem q735 : Cond.methodLinkNest RX11 185 yX6_pinAt "SpinStrip" ∈ lw_nest := mn (List.mem_append_right _ (tp_4 (List.mem_of_getElem? (i := 15) rfl))) rfl
theorem q737 : Cond.instanceMethod yX6_pinAt ∈ lw_good := mg (List.mem_append_right _ (tp_4 (List.mem_of_getElem? (i := 17) rfl))) rfl
theorem q738 : Cond.code yX6_pinAt cX6_pinAt 2 (some .int) ∈ lw_good := mg (List.mem_append_right _ (tp_4 (List.mem_of_getElem? (i := 18) rfl))) rfl
theorem q739 : Cond.methodLink RX6 53 yX6_isPinned ∈ lw_good := mg (List.mem_append_right _ (tp_4 (List.mem_of_getElem? (i := 19) rfl))) rfl
theorem q741 : Cond.instanceMethod yX6_isPinned ∈ lw_good := mg (List.mem_append_right _ (tp_4 (List.mem_of_getElem? (i := 21) rfl))) rfl
theorem q742 : Cond.code yX6_isPinned cX6_isPinned 2 (some .boolean) ∈ lw_good := mg (List.mem_append_right _ (tp_4 (List.mem_of_getElem? (i := 22) rfl))) rfl
theorem q743 : Cond.methodLinkNest RX6 49 yX11_bitOf "SpinStrip" ∈ lw_nest := mn (List.mem_append_right _ (tp_4 (List.mem_of_getElem? (i := 23) rfl))) rfl
theorem q744 : Cond.methodLinkNest RX11 188 yX6_setPin "SpinStrip" ∈ lw_nest := mn (List.mem_append_right _ (tp_4 (List.mem_of_getElem? (i := 24) rfl))) rfl
theorem q745 : Cond.methodLink RX11 194 yX11_stampPins ∈ lw_good := mg (List.mem_append_right _ (tp_4 (List.mem_of_getElem? (i := 25) rfl))) rfl
theorem q747 : Cond.instanceMethod yX11_stampPins ∈ lw_good := mg (List.mem_append_right _ (tp_4 (List.mem_of_getElem? (i := 27) rfl))) rfl
theorem q748 : Cond.code yX11_stampPins cX11_stampPins 1 none ∈ lw_good := mg (List.mem_append_right _ (tp_4 (List.mem_of_getElem? (i := 28) rfl))) rfl
theorem q749 : Cond.methodLink RL 46 yX11_glass ∈ lw_good := mg (List.mem_append_right _ (tp_4 (List.mem_of_getElem? (i := 29) rfl))) rfl
theorem q750 : Cond.instanceMethod yX11_glass ∈ lw_good := mg (List.mem_append_right _ (tp_4 (List.mem_of_getElem? (i := 30) rfl))) rfl
theorem q751 : Cond.selects RX11 yX11_glass yX11_glass ∈ lw_good := mg (List.mem_append_right _ (tp_4 (List.mem_of_getElem? (i := 31) rfl))) rfl
theorem q752 : Cond.code yX11_glass cX11_glass 5 (some .boolean) ∈ lw_good := mg (List.mem_append_right _ (tp_4 (List.mem_of_getElem? (i := 32) rfl))) rfl
theorem q753 : Cond.methodLinkNest RX11 200 yX3_endAt "SpinStrip" ∈ lw_nest := mn (List.mem_append_right _ (tp_4 (List.mem_of_getElem? (i := 33) rfl))) rfl
theorem q754 : Cond.methodLink RX11 203 yX11_nextLot ∈ lw_good := mg (List.mem_append_right _ (tp_4 (List.mem_of_getElem? (i := 34) rfl))) rfl
theorem q755 : Cond.static yX11_nextLot ∈ lw_good := mg (List.mem_append_right _ (tp_4 (List.mem_of_getElem? (i := 35) rfl))) rfl
theorem q756 : Cond.code yX11_nextLot cX11_nextLot 2 (some .long) ∈ lw_good := mg (List.mem_append_right _ (tp_4 (List.mem_of_getElem? (i := 36) rfl))) rfl
theorem q757 : Cond.constantLong RX11 483 (1103515245) ∈ lw_good := mg (List.mem_append_right _ (tp_4 (List.mem_of_getElem? (i := 37) rfl))) rfl
theorem q758 : Cond.constantLong RX11 485 (12345) ∈ lw_good := mg (List.mem_append_right _ (tp_4 (List.mem_of_getElem? (i := 38) rfl))) rfl
theorem q759 : Cond.constantLong RX11 487 (2147483648) ∈ lw_good := mg (List.mem_append_right _ (tp_4 (List.mem_of_getElem? (i := 39) rfl))) rfl
theorem q760 : Cond.methodLink RX11 207 yX11_lotOf ∈ lw_good := mg (List.mem_append_right _ (tp_4 (List.mem_of_getElem? (i := 40) rfl))) rfl
theorem q761 : Cond.static yX11_lotOf ∈ lw_good := mg (List.mem_append_right _ (tp_4 (List.mem_of_getElem? (i := 41) rfl))) rfl
theorem q762 : Cond.code yX11_lotOf cX11_lotOf 3 (some .int) ∈ lw_good := mg (List.mem_append_right _ (tp_4 (List.mem_of_getElem? (i := 42) rfl))) rfl
theorem q763 : Cond.constantLong RX11 489 (65536) ∈ lw_good := mg (List.mem_append_right _ (tp_4 (List.mem_of_getElem? (i := 43) rfl))) rfl
theorem q764 : Cond.methodLink RL 51 yX11_turn ∈ lw_good := mg (List.mem_append_right _ (tp_4 (List.mem_of_getElem? (i := 44) rfl))) rfl
theorem q765 : Cond.instanceMethod yX11_turn ∈ lw_good := mg (List.mem_append_right _ (tp_4 (List.mem_of_getElem? (i := 45) rfl))) rfl
theorem q766 : Cond.selects RX11 yX11_turn yX11_turn ∈ lw_good := mg (List.mem_append_right _ (tp_4 (List.mem_of_getElem? (i := 46) rfl))) rfl
theorem q767 : Cond.code yX11_turn cX11_turn 2 (some .boolean) ∈ lw_good := mg (List.mem_append_right _ (tp_4 (List.mem_of_getElem? (i := 47) rfl))) rfl
theorem q768 : Cond.methodLinkNest RX11 211 yX6_isPinned "SpinStrip" ∈ lw_nest := mn (List.mem_append_right _ (tp_4 (List.mem_of_getElem? (i := 48) rfl))) rfl
theorem q769 : Cond.methodLink RL 55 yX11_fall ∈ lw_good := mg (List.mem_append_right _ (tp_4 (List.mem_of_getElem? (i := 49) rfl))) rfl
theorem q770 : Cond.instanceMethod yX11_fall ∈ lw_good := mg (List.mem_append_right _ (tp_4 (List.mem_of_getElem? (i := 50) rfl))) rfl
theorem q771 : Cond.selects RX11 yX11_fall yX11_fall ∈ lw_good := mg (List.mem_append_right _ (tp_4 (List.mem_of_getElem? (i := 51) rfl))) rfl
theorem q772 : Cond.code yX11_fall cX11_fall 1 (some .int) ∈ lw_good := mg (List.mem_append_right _ (tp_4 (List.mem_of_getElem? (i := 52) rfl))) rfl
theorem q773 : Cond.methodLinkNest RX11 214 yX10_fallFrom "SpinStrip" ∈ lw_nest := mn (List.mem_append_right _ (tp_4 (List.mem_of_getElem? (i := 53) rfl))) rfl
theorem q775 : Cond.instanceMethod yX10_fallFrom ∈ lw_good := mg (List.mem_append_right _ (tp_4 (List.mem_of_getElem? (i := 55) rfl))) rfl
theorem q776 : Cond.code yX10_fallFrom cX10_fallFrom 6 none ∈ lw_good := mg (List.mem_append_right _ (tp_4 (List.mem_of_getElem? (i := 56) rfl))) rfl
theorem q777 : Cond.methodLinkNest RX10 18 yX3_steepest "SpinStrip" ∈ lw_nest := mn (List.mem_append_right _ (tp_4 (List.mem_of_getElem? (i := 57) rfl))) rfl
theorem q779 : Cond.instanceMethod yX3_steepest ∈ lw_good := mg (List.mem_append_right _ (tp_4 (List.mem_of_getElem? (i := 59) rfl))) rfl
theorem q780 : Cond.code yX3_steepest cX3_steepest 7 (some .int) ∈ lw_good := mg (List.mem_append_right _ (tp_4 (List.mem_of_getElem? (i := 60) rfl))) rfl
theorem q781 : Cond.methodLink RX3 78 yX3_costOfTurn ∈ lw_good := mg (List.mem_append_right _ (tp_4 (List.mem_of_getElem? (i := 61) rfl))) rfl
theorem q783 : Cond.instanceMethod yX3_costOfTurn ∈ lw_good := mg (List.mem_append_right _ (tp_4 (List.mem_of_getElem? (i := 63) rfl))) rfl
theorem q784 : Cond.code yX3_costOfTurn cX3_costOfTurn 8 (some .int) ∈ lw_good := mg (List.mem_append_right _ (tp_4 (List.mem_of_getElem? (i := 64) rfl))) rfl
theorem q785 : Cond.methodLinkNest RX3 75 yX6_fieldAt "SpinStrip" ∈ lw_nest := mn (List.mem_append_right _ (tp_4 (List.mem_of_getElem? (i := 65) rfl))) rfl
theorem q786 : Cond.methodLinkNest RX3 70 yX6_bondAt "SpinStrip" ∈ lw_nest := mn (List.mem_append_right _ (tp_4 (List.mem_of_getElem? (i := 66) rfl))) rfl
theorem q787 : Cond.methodLinkNest RX3 62 yX11_bitOf "SpinStrip" ∈ lw_nest := mn (List.mem_append_right _ (tp_4 (List.mem_of_getElem? (i := 67) rfl))) rfl
theorem q788 : Cond.methodLinkNest RX3 82 yX6_isPinned "SpinStrip" ∈ lw_nest := mn (List.mem_append_right _ (tp_4 (List.mem_of_getElem? (i := 68) rfl))) rfl
theorem q789 : Cond.methodLink RL 59 yX11_undo ∈ lw_good := mg (List.mem_append_right _ (tp_4 (List.mem_of_getElem? (i := 69) rfl))) rfl
theorem q790 : Cond.instanceMethod yX11_undo ∈ lw_good := mg (List.mem_append_right _ (tp_4 (List.mem_of_getElem? (i := 70) rfl))) rfl
theorem q791 : Cond.selects RX11 yX11_undo yX11_undo ∈ lw_good := mg (List.mem_append_right _ (tp_4 (List.mem_of_getElem? (i := 71) rfl))) rfl
theorem q792 : Cond.code yX11_undo cX11_undo 1 (some .boolean) ∈ lw_good := mg (List.mem_append_right _ (tp_4 (List.mem_of_getElem? (i := 72) rfl))) rfl
theorem q793 : Cond.methodLinkNest RX11 222 yX5_giveBack "SpinStrip" ∈ lw_nest := mn (List.mem_append_right _ (tp_4 (List.mem_of_getElem? (i := 73) rfl))) rfl
theorem q795 : Cond.instanceMethod yX5_giveBack ∈ lw_good := mg (List.mem_append_right _ (tp_4 (List.mem_of_getElem? (i := 75) rfl))) rfl
theorem q796 : Cond.code yX5_giveBack cX5_giveBack 3 (some .boolean) ∈ lw_good := mg (List.mem_append_right _ (tp_4 (List.mem_of_getElem? (i := 76) rfl))) rfl
theorem q797 : Cond.methodLink RL 64 yX11_site ∈ lw_good := mg (List.mem_append_right _ (tp_4 (List.mem_of_getElem? (i := 77) rfl))) rfl
theorem q798 : Cond.instanceMethod yX11_site ∈ lw_good := mg (List.mem_append_right _ (tp_4 (List.mem_of_getElem? (i := 78) rfl))) rfl
theorem q799 : Cond.selects RX11 yX11_site yX11_site ∈ lw_good := mg (List.mem_append_right _ (tp_4 (List.mem_of_getElem? (i := 79) rfl))) rfl
theorem q800 : Cond.code yX11_site cX11_site 3 (some .int) ∈ lw_good := mg (List.mem_append_right _ (tp_4 (List.mem_of_getElem? (i := 80) rfl))) rfl
theorem q801 : Cond.constant RX11 226 (-100000) ∈ lw_good := mg (List.mem_append_right _ (tp_4 (List.mem_of_getElem? (i := 81) rfl))) rfl
theorem q802 : Cond.methodLinkNest RX11 227 yX3_rowOf "SpinStrip" ∈ lw_nest := mn (List.mem_append_right _ (tp_4 (List.mem_of_getElem? (i := 82) rfl))) rfl
theorem q804 : Cond.instanceMethod yX3_rowOf ∈ lw_good := mg (List.mem_append_right _ (tp_4 (List.mem_of_getElem? (i := 84) rfl))) rfl
theorem q805 : Cond.code yX3_rowOf cX3_rowOf 2 (some .int) ∈ lw_good := mg (List.mem_append_right _ (tp_4 (List.mem_of_getElem? (i := 85) rfl))) rfl
theorem q806 : Cond.methodLinkNest RX11 230 yX3_columnOf "SpinStrip" ∈ lw_nest := mn (List.mem_append_right _ (tp_4 (List.mem_of_getElem? (i := 86) rfl))) rfl
theorem q808 : Cond.instanceMethod yX3_columnOf ∈ lw_good := mg (List.mem_append_right _ (tp_4 (List.mem_of_getElem? (i := 88) rfl))) rfl
theorem q809 : Cond.code yX3_columnOf cX3_columnOf 2 (some .int) ∈ lw_good := mg (List.mem_append_right _ (tp_4 (List.mem_of_getElem? (i := 89) rfl))) rfl
theorem q810 : Cond.methodLink RX11 233 yX11_bondOrNoTie ∈ lw_good := mg (List.mem_append_right _ (tp_4 (List.mem_of_getElem? (i := 90) rfl))) rfl
theorem q812 : Cond.instanceMethod yX11_bondOrNoTie ∈ lw_good := mg (List.mem_append_right _ (tp_4 (List.mem_of_getElem? (i := 92) rfl))) rfl
theorem q813 : Cond.code yX11_bondOrNoTie cX11_bondOrNoTie 2 (some .int) ∈ lw_good := mg (List.mem_append_right _ (tp_4 (List.mem_of_getElem? (i := 93) rfl))) rfl
theorem q814 : Cond.methodLink RX11 236 yX11_bitOf ∈ lw_good := mg (List.mem_append_right _ (tp_4 (List.mem_of_getElem? (i := 94) rfl))) rfl
theorem q815 : Cond.methodLinkNest RX11 240 yX3_costOfTurn "SpinStrip" ∈ lw_nest := mn (List.mem_append_right _ (tp_4 (List.mem_of_getElem? (i := 95) rfl))) rfl
theorem q816 : Cond.methodLink RL 117 yX11_square ∈ lw_good := mg (List.mem_append_right _ (tp_4 (List.mem_of_getElem? (i := 96) rfl))) rfl
theorem q817 : Cond.instanceMethod yX11_square ∈ lw_good := mg (List.mem_append_right _ (tp_4 (List.mem_of_getElem? (i := 97) rfl))) rfl
theorem q818 : Cond.selects RX11 yX11_square yX11_square ∈ lw_good := mg (List.mem_append_right _ (tp_4 (List.mem_of_getElem? (i := 98) rfl))) rfl
theorem q819 : Cond.code yX11_square cX11_square 2 (some .int) ∈ lw_good := mg (List.mem_append_right _ (tp_4 (List.mem_of_getElem? (i := 99) rfl))) rfl
theorem q820 : Cond.methodLinkNest RX11 244 yX3_squareOf "SpinStrip" ∈ lw_nest := mn (List.mem_append_right _ (tp_4 (List.mem_of_getElem? (i := 100) rfl))) rfl
theorem q822 : Cond.instanceMethod yX3_squareOf ∈ lw_good := mg (List.mem_append_right _ (tp_4 (List.mem_of_getElem? (i := 102) rfl))) rfl
theorem q823 : Cond.code yX3_squareOf cX3_squareOf 6 (some .int) ∈ lw_good := mg (List.mem_append_right _ (tp_4 (List.mem_of_getElem? (i := 103) rfl))) rfl
theorem q824 : Cond.methodLink RL 154 yX11_cluster ∈ lw_good := mg (List.mem_append_right _ (tp_4 (List.mem_of_getElem? (i := 104) rfl))) rfl
theorem q825 : Cond.instanceMethod yX11_cluster ∈ lw_good := mg (List.mem_append_right _ (tp_4 (List.mem_of_getElem? (i := 105) rfl))) rfl
theorem q826 : Cond.selects RX11 yX11_cluster yX11_cluster ∈ lw_good := mg (List.mem_append_right _ (tp_4 (List.mem_of_getElem? (i := 106) rfl))) rfl
theorem q827 : Cond.code yX11_cluster cX11_cluster 2 (some .int) ∈ lw_good := mg (List.mem_append_right _ (tp_4 (List.mem_of_getElem? (i := 107) rfl))) rfl
theorem q828 : Cond.methodLinkNest RX11 248 yX3_clusterOf "SpinStrip" ∈ lw_nest := mn (List.mem_append_right _ (tp_4 (List.mem_of_getElem? (i := 108) rfl))) rfl
theorem q830 : Cond.instanceMethod yX3_clusterOf ∈ lw_good := mg (List.mem_append_right _ (tp_4 (List.mem_of_getElem? (i := 110) rfl))) rfl
theorem q831 : Cond.code yX3_clusterOf cX3_clusterOf 6 (some .int) ∈ lw_good := mg (List.mem_append_right _ (tp_4 (List.mem_of_getElem? (i := 111) rfl))) rfl
theorem q832 : Cond.methodLink RX3 89 yX3_grownCluster ∈ lw_good := mg (List.mem_append_right _ (tp_4 (List.mem_of_getElem? (i := 112) rfl))) rfl
theorem q834 : Cond.instanceMethod yX3_grownCluster ∈ lw_good := mg (List.mem_append_right _ (tp_4 (List.mem_of_getElem? (i := 114) rfl))) rfl
theorem q835 : Cond.code yX3_grownCluster cX3_grownCluster 6 (some .int) ∈ lw_good := mg (List.mem_append_right _ (tp_4 (List.mem_of_getElem? (i := 115) rfl))) rfl
theorem q836 : Cond.methodLink RX3 66 yX3_isAlike ∈ lw_good := mg (List.mem_append_right _ (tp_4 (List.mem_of_getElem? (i := 116) rfl))) rfl
theorem q838 : Cond.instanceMethod yX3_isAlike ∈ lw_good := mg (List.mem_append_right _ (tp_4 (List.mem_of_getElem? (i := 118) rfl))) rfl
theorem q839 : Cond.code yX3_isAlike cX3_isAlike 3 (some .boolean) ∈ lw_good := mg (List.mem_append_right _ (tp_4 (List.mem_of_getElem? (i := 119) rfl))) rfl
theorem q840 : Cond.methodLink RL 69 yX11_level ∈ lw_good := mg (List.mem_append_right _ (tp_4 (List.mem_of_getElem? (i := 120) rfl))) rfl
theorem q841 : Cond.instanceMethod yX11_level ∈ lw_good := mg (List.mem_append_right _ (tp_4 (List.mem_of_getElem? (i := 121) rfl))) rfl
theorem q842 : Cond.selects RX11 yX11_level yX11_level ∈ lw_good := mg (List.mem_append_right _ (tp_4 (List.mem_of_getElem? (i := 122) rfl))) rfl
theorem q843 : Cond.code yX11_level cX11_level 5 (some .int) ∈ lw_good := mg (List.mem_append_right _ (tp_4 (List.mem_of_getElem? (i := 123) rfl))) rfl
theorem q844 : Cond.methodLink RX11 251 yX11_levelsNow ∈ lw_good := mg (List.mem_append_right _ (tp_4 (List.mem_of_getElem? (i := 124) rfl))) rfl
theorem q846 : Cond.instanceMethod yX11_levelsNow ∈ lw_good := mg (List.mem_append_right _ (tp_4 (List.mem_of_getElem? (i := 126) rfl))) rfl
theorem q847 : Cond.code yX11_levelsNow cX11_levelsNow 1 (some (.object "SpinStrip$Levels")) ∈ lw_good := mg (List.mem_append_right _ (tp_4 (List.mem_of_getElem? (i := 127) rfl))) rfl
theorem q848 : Cond.methodLink RX11 367 yX11_energiesNow ∈ lw_good := mg (List.mem_append_right _ (tp_4 (List.mem_of_getElem? (i := 128) rfl))) rfl
theorem q850 : Cond.instanceMethod yX11_energiesNow ∈ lw_good := mg (List.mem_append_right _ (tp_4 (List.mem_of_getElem? (i := 130) rfl))) rfl
theorem q851 : Cond.code yX11_energiesNow cX11_energiesNow 1 (some (.object "SpinStrip$Energies")) ∈ lw_good := mg (List.mem_append_right _ (tp_4 (List.mem_of_getElem? (i := 131) rfl))) rfl
theorem q852 : Cond.methodLinkNest RX11 346 yX2_fill "SpinStrip" ∈ lw_nest := mn (List.mem_append_right _ (tp_4 (List.mem_of_getElem? (i := 132) rfl))) rfl
theorem q854 : Cond.instanceMethod yX2_fill ∈ lw_good := mg (List.mem_append_right _ (tp_4 (List.mem_of_getElem? (i := 134) rfl))) rfl
theorem q855 : Cond.code yX2_fill cX2_fill 6 none ∈ lw_good := mg (List.mem_append_right _ (tp_4 (List.mem_of_getElem? (i := 135) rfl))) rfl
theorem q856 : Cond.methodLink RX2 29 yX2_seeLowerMates ∈ lw_good := mg (List.mem_append_right _ (tp_4 (List.mem_of_getElem? (i := 136) rfl))) rfl
theorem q858 : Cond.instanceMethod yX2_seeLowerMates ∈ lw_good := mg (List.mem_append_right _ (tp_4 (List.mem_of_getElem? (i := 138) rfl))) rfl
theorem q859 : Cond.code yX2_seeLowerMates cX2_seeLowerMates 7 none ∈ lw_good := mg (List.mem_append_right _ (tp_4 (List.mem_of_getElem? (i := 139) rfl))) rfl
theorem q860 : Cond.methodLink RX2 54 yJ9_min_7cf53 ∈ lw_good := mg (List.mem_append_right _ (tp_4 (List.mem_of_getElem? (i := 140) rfl))) rfl
theorem q861 : Cond.methodLink RX2 33 yX2_addSite ∈ lw_good := mg (List.mem_append_right _ (tp_4 (List.mem_of_getElem? (i := 141) rfl))) rfl
theorem q863 : Cond.instanceMethod yX2_addSite ∈ lw_good := mg (List.mem_append_right _ (tp_4 (List.mem_of_getElem? (i := 143) rfl))) rfl
theorem q864 : Cond.code yX2_addSite cX2_addSite 8 none ∈ lw_good := mg (List.mem_append_right _ (tp_4 (List.mem_of_getElem? (i := 144) rfl))) rfl
theorem q865 : Cond.methodLink RX2 60 yX2_pulledByMates ∈ lw_good := mg (List.mem_append_right _ (tp_4 (List.mem_of_getElem? (i := 145) rfl))) rfl
theorem q867 : Cond.instanceMethod yX2_pulledByMates ∈ lw_good := mg (List.mem_append_right _ (tp_4 (List.mem_of_getElem? (i := 147) rfl))) rfl
theorem q868 : Cond.code yX2_pulledByMates cX2_pulledByMates 4 (some .int) ∈ lw_good := mg (List.mem_append_right _ (tp_4 (List.mem_of_getElem? (i := 148) rfl))) rfl
theorem q869 : Cond.methodLinkNest RX11 291 yX3_states "SpinStrip" ∈ lw_nest := mn (List.mem_append_right _ (tp_4 (List.mem_of_getElem? (i := 149) rfl))) rfl
theorem q871 : Cond.instanceMethod yX3_states ∈ lw_good := mg (List.mem_append_right _ (tp_4 (List.mem_of_getElem? (i := 151) rfl))) rfl
theorem q872 : Cond.code yX3_states cX3_states 1 (some .int) ∈ lw_good := mg (List.mem_append_right _ (tp_4 (List.mem_of_getElem? (i := 152) rfl))) rfl
theorem q873 : Cond.methodLinkNest RX11 470 yX4_gather "SpinStrip" ∈ lw_nest := mn (List.mem_append_right _ (tp_4 (List.mem_of_getElem? (i := 153) rfl))) rfl
theorem q875 : Cond.instanceMethod yX4_gather ∈ lw_good := mg (List.mem_append_right _ (tp_4 (List.mem_of_getElem? (i := 155) rfl))) rfl
theorem q876 : Cond.code yX4_gather cX4_gather 7 none ∈ lw_good := mg (List.mem_append_right _ (tp_4 (List.mem_of_getElem? (i := 156) rfl))) rfl
theorem q877 : Cond.methodLink RX4 28 yJ7_fill_53178 ∈ lw_good := mg (List.mem_append_right _ (tp_4 (List.mem_of_getElem? (i := 157) rfl))) rfl
theorem q878 : Cond.methodLinkNest RX4 34 yX2_of "SpinStrip" ∈ lw_nest := mn (List.mem_append_right _ (tp_4 (List.mem_of_getElem? (i := 158) rfl))) rfl
theorem q880 : Cond.instanceMethod yX2_of ∈ lw_good := mg (List.mem_append_right _ (tp_4 (List.mem_of_getElem? (i := 160) rfl))) rfl
theorem q881 : Cond.code yX2_of cX2_of 2 (some .int) ∈ lw_good := mg (List.mem_append_right _ (tp_4 (List.mem_of_getElem? (i := 161) rfl))) rfl
theorem q882 : Cond.methodLink RX4 40 yJ6_bitCount_0f7a4 ∈ lw_good := mg (List.mem_append_right _ (tp_4 (List.mem_of_getElem? (i := 162) rfl))) rfl
theorem q883 : Cond.static yJ6_bitCount_0f7a4 ∈ lw_good := mg (List.mem_append_right _ (tp_4 (List.mem_of_getElem? (i := 163) rfl))) rfl
theorem q884 : Cond.code yJ6_bitCount_0f7a4 cJ6_bitCount_0f7a4 1 (some .int) ∈ lw_good := mg (List.mem_append_right _ (tp_4 (List.mem_of_getElem? (i := 164) rfl))) rfl
theorem q885 : Cond.constant RJ6 265 (1431655765) ∈ lw_good := mg (List.mem_append_right _ (tp_4 (List.mem_of_getElem? (i := 165) rfl))) rfl
theorem q886 : Cond.constant RJ6 266 (858993459) ∈ lw_good := mg (List.mem_append_right _ (tp_4 (List.mem_of_getElem? (i := 166) rfl))) rfl
theorem q887 : Cond.constant RJ6 267 (252645135) ∈ lw_good := mg (List.mem_append_right _ (tp_4 (List.mem_of_getElem? (i := 167) rfl))) rfl
theorem q888 : Cond.methodLinkNest RX4 45 yX6_allows "SpinStrip" ∈ lw_nest := mn (List.mem_append_right _ (tp_4 (List.mem_of_getElem? (i := 168) rfl))) rfl
theorem q890 : Cond.instanceMethod yX6_allows ∈ lw_good := mg (List.mem_append_right _ (tp_4 (List.mem_of_getElem? (i := 170) rfl))) rfl
theorem q891 : Cond.code yX6_allows cX6_allows 2 (some .boolean) ∈ lw_good := mg (List.mem_append_right _ (tp_4 (List.mem_of_getElem? (i := 171) rfl))) rfl
theorem q892 : Cond.methodLink RX4 51 yX4_listLevels ∈ lw_good := mg (List.mem_append_right _ (tp_4 (List.mem_of_getElem? (i := 172) rfl))) rfl
theorem q894 : Cond.instanceMethod yX4_listLevels ∈ lw_good := mg (List.mem_append_right _ (tp_4 (List.mem_of_getElem? (i := 174) rfl))) rfl
theorem q895 : Cond.code yX4_listLevels cX4_listLevels 2 none ∈ lw_good := mg (List.mem_append_right _ (tp_4 (List.mem_of_getElem? (i := 175) rfl))) rfl
theorem q896 : Cond.methodLinkNest RX11 258 yX4_hasLevel "SpinStrip" ∈ lw_nest := mn (List.mem_append_right _ (tp_4 (List.mem_of_getElem? (i := 176) rfl))) rfl
theorem q898 : Cond.instanceMethod yX4_hasLevel ∈ lw_good := mg (List.mem_append_right _ (tp_4 (List.mem_of_getElem? (i := 178) rfl))) rfl
theorem q899 : Cond.code yX4_hasLevel cX4_hasLevel 2 (some .boolean) ∈ lw_good := mg (List.mem_append_right _ (tp_4 (List.mem_of_getElem? (i := 179) rfl))) rfl
theorem q900 : Cond.methodLinkNest RX11 261 yX4_energyOf "SpinStrip" ∈ lw_nest := mn (List.mem_append_right _ (tp_4 (List.mem_of_getElem? (i := 180) rfl))) rfl
theorem q902 : Cond.instanceMethod yX4_energyOf ∈ lw_good := mg (List.mem_append_right _ (tp_4 (List.mem_of_getElem? (i := 182) rfl))) rfl
theorem q903 : Cond.code yX4_energyOf cX4_energyOf 2 (some .int) ∈ lw_good := mg (List.mem_append_right _ (tp_4 (List.mem_of_getElem? (i := 183) rfl))) rfl
theorem q904 : Cond.methodLinkNest RX11 264 yX4_waysOf "SpinStrip" ∈ lw_nest := mn (List.mem_append_right _ (tp_4 (List.mem_of_getElem? (i := 184) rfl))) rfl
theorem q906 : Cond.instanceMethod yX4_waysOf ∈ lw_good := mg (List.mem_append_right _ (tp_4 (List.mem_of_getElem? (i := 186) rfl))) rfl
theorem q907 : Cond.code yX4_waysOf cX4_waysOf 2 (some .int) ∈ lw_good := mg (List.mem_append_right _ (tp_4 (List.mem_of_getElem? (i := 187) rfl))) rfl
theorem q908 : Cond.methodLink RX4 58 yX4_isEnergy ∈ lw_good := mg (List.mem_append_right _ (tp_4 (List.mem_of_getElem? (i := 188) rfl))) rfl
theorem q909 : Cond.static yX4_isEnergy ∈ lw_good := mg (List.mem_append_right _ (tp_4 (List.mem_of_getElem? (i := 189) rfl))) rfl
theorem q910 : Cond.code yX4_isEnergy cX4_isEnergy 1 (some .boolean) ∈ lw_good := mg (List.mem_append_right _ (tp_4 (List.mem_of_getElem? (i := 190) rfl))) rfl
theorem q911 : Cond.methodLinkNest RX11 267 yX4_leastOf "SpinStrip" ∈ lw_nest := mn (List.mem_append_right _ (tp_4 (List.mem_of_getElem? (i := 191) rfl))) rfl
theorem q913 : Cond.instanceMethod yX4_leastOf ∈ lw_good := mg (List.mem_append_right _ (tp_4 (List.mem_of_getElem? (i := 193) rfl))) rfl
theorem q914 : Cond.code yX4_leastOf cX4_leastOf 2 (some .int) ∈ lw_good := mg (List.mem_append_right _ (tp_4 (List.mem_of_getElem? (i := 194) rfl))) rfl
theorem q915 : Cond.methodLinkNest RX11 270 yX4_fewestUps "SpinStrip" ∈ lw_nest := mn (List.mem_append_right _ (tp_4 (List.mem_of_getElem? (i := 195) rfl))) rfl
theorem q917 : Cond.instanceMethod yX4_fewestUps ∈ lw_good := mg (List.mem_append_right _ (tp_4 (List.mem_of_getElem? (i := 197) rfl))) rfl
theorem q918 : Cond.code yX4_fewestUps cX4_fewestUps 3 (some .int) ∈ lw_good := mg (List.mem_append_right _ (tp_4 (List.mem_of_getElem? (i := 198) rfl))) rfl
theorem q919 : Cond.methodLink RX4 61 yX4_waysWithUps ∈ lw_good := mg (List.mem_append_right _ (tp_4 (List.mem_of_getElem? (i := 199) rfl))) rfl
theorem q921 : Cond.instanceMethod yX4_waysWithUps ∈ lw_good := mg (List.mem_append_right _ (tp_4 (List.mem_of_getElem? (i := 201) rfl))) rfl
theorem q922 : Cond.code yX4_waysWithUps cX4_waysWithUps 4 (some .int) ∈ lw_good := mg (List.mem_append_right _ (tp_4 (List.mem_of_getElem? (i := 202) rfl))) rfl
theorem q923 : Cond.constant RX4 57 (-100000) ∈ lw_good := mg (List.mem_append_right _ (tp_4 (List.mem_of_getElem? (i := 203) rfl))) rfl
theorem q924 : Cond.methodLinkNest RX11 273 yX4_mostUps "SpinStrip" ∈ lw_nest := mn (List.mem_append_right _ (tp_4 (List.mem_of_getElem? (i := 204) rfl))) rfl
theorem q926 : Cond.instanceMethod yX4_mostUps ∈ lw_good := mg (List.mem_append_right _ (tp_4 (List.mem_of_getElem? (i := 206) rfl))) rfl
theorem q927 : Cond.code yX4_mostUps cX4_mostUps 3 (some .int) ∈ lw_good := mg (List.mem_append_right _ (tp_4 (List.mem_of_getElem? (i := 207) rfl))) rfl
theorem q928 : Cond.methodLink RL 73 yX11_both ∈ lw_good := mg (List.mem_append_right _ (tp_4 (List.mem_of_getElem? (i := 208) rfl))) rfl
theorem q929 : Cond.instanceMethod yX11_both ∈ lw_good := mg (List.mem_append_right _ (tp_4 (List.mem_of_getElem? (i := 209) rfl))) rfl
theorem q930 : Cond.selects RX11 yX11_both yX11_both ∈ lw_good := mg (List.mem_append_right _ (tp_4 (List.mem_of_getElem? (i := 210) rfl))) rfl
theorem q931 : Cond.code yX11_both cX11_both 3 (some .int) ∈ lw_good := mg (List.mem_append_right _ (tp_4 (List.mem_of_getElem? (i := 211) rfl))) rfl
theorem q932 : Cond.methodLinkNest RX11 276 yX4_waysWithUps "SpinStrip" ∈ lw_nest := mn (List.mem_append_right _ (tp_4 (List.mem_of_getElem? (i := 212) rfl))) rfl
theorem q933 : Cond.methodLink RL 77 yX11_broken ∈ lw_good := mg (List.mem_append_right _ (tp_4 (List.mem_of_getElem? (i := 213) rfl))) rfl
theorem q934 : Cond.instanceMethod yX11_broken ∈ lw_good := mg (List.mem_append_right _ (tp_4 (List.mem_of_getElem? (i := 214) rfl))) rfl
theorem q935 : Cond.selects RX11 yX11_broken yX11_broken ∈ lw_good := mg (List.mem_append_right _ (tp_4 (List.mem_of_getElem? (i := 215) rfl))) rfl
theorem q936 : Cond.code yX11_broken cX11_broken 2 (some .int) ∈ lw_good := mg (List.mem_append_right _ (tp_4 (List.mem_of_getElem? (i := 216) rfl))) rfl
theorem q937 : Cond.methodLink RX11 279 yX11_breaksNow ∈ lw_good := mg (List.mem_append_right _ (tp_4 (List.mem_of_getElem? (i := 217) rfl))) rfl
theorem q939 : Cond.instanceMethod yX11_breaksNow ∈ lw_good := mg (List.mem_append_right _ (tp_4 (List.mem_of_getElem? (i := 219) rfl))) rfl
theorem q940 : Cond.code yX11_breaksNow cX11_breaksNow 1 (some (.object "SpinStrip$Breaks")) ∈ lw_good := mg (List.mem_append_right _ (tp_4 (List.mem_of_getElem? (i := 220) rfl))) rfl
theorem q941 : Cond.methodLinkNest RX11 475 yX0_gather "SpinStrip" ∈ lw_nest := mn (List.mem_append_right _ (tp_4 (List.mem_of_getElem? (i := 221) rfl))) rfl
theorem q943 : Cond.instanceMethod yX0_gather ∈ lw_good := mg (List.mem_append_right _ (tp_4 (List.mem_of_getElem? (i := 223) rfl))) rfl
theorem q944 : Cond.code yX0_gather cX0_gather 8 none ∈ lw_good := mg (List.mem_append_right _ (tp_4 (List.mem_of_getElem? (i := 224) rfl))) rfl
theorem q945 : Cond.methodLinkNest RX0 25 yX3_endAt "SpinStrip" ∈ lw_nest := mn (List.mem_append_right _ (tp_4 (List.mem_of_getElem? (i := 225) rfl))) rfl
theorem q946 : Cond.methodLinkNest RX0 31 yX6_bondAt "SpinStrip" ∈ lw_nest := mn (List.mem_append_right _ (tp_4 (List.mem_of_getElem? (i := 226) rfl))) rfl
theorem q947 : Cond.methodLink RX0 36 yJ6_signum_0f7a4 ∈ lw_good := mg (List.mem_append_right _ (tp_4 (List.mem_of_getElem? (i := 227) rfl))) rfl
theorem q948 : Cond.static yJ6_signum_0f7a4 ∈ lw_good := mg (List.mem_append_right _ (tp_4 (List.mem_of_getElem? (i := 228) rfl))) rfl
theorem q949 : Cond.code yJ6_signum_0f7a4 cJ6_signum_0f7a4 1 (some .int) ∈ lw_good := mg (List.mem_append_right _ (tp_4 (List.mem_of_getElem? (i := 229) rfl))) rfl
theorem q950 : Cond.methodLink RX0 41 yJ9_abs_0f7a4 ∈ lw_good := mg (List.mem_append_right _ (tp_4 (List.mem_of_getElem? (i := 230) rfl))) rfl
theorem q951 : Cond.static yJ9_abs_0f7a4 ∈ lw_good := mg (List.mem_append_right _ (tp_4 (List.mem_of_getElem? (i := 231) rfl))) rfl
theorem q952 : Cond.code yJ9_abs_0f7a4 cJ9_abs_0f7a4 1 (some .int) ∈ lw_good := mg (List.mem_append_right _ (tp_4 (List.mem_of_getElem? (i := 232) rfl))) rfl
theorem q953 : Cond.methodLinkNest RX0 49 yX2_fill "SpinStrip" ∈ lw_nest := mn (List.mem_append_right _ (tp_4 (List.mem_of_getElem? (i := 233) rfl))) rfl
theorem q954 : Cond.methodLink RX0 55 yJ7_fill_53178 ∈ lw_good := mg (List.mem_append_right _ (tp_4 (List.mem_of_getElem? (i := 234) rfl))) rfl
theorem q955 : Cond.methodLinkNest RX0 60 yX3_states "SpinStrip" ∈ lw_nest := mn (List.mem_append_right _ (tp_4 (List.mem_of_getElem? (i := 235) rfl))) rfl
theorem q956 : Cond.methodLinkNest RX0 64 yX2_of "SpinStrip" ∈ lw_nest := mn (List.mem_append_right _ (tp_4 (List.mem_of_getElem? (i := 236) rfl))) rfl
theorem q957 : Cond.methodLinkNest RX0 67 yX6_allows "SpinStrip" ∈ lw_nest := mn (List.mem_append_right _ (tp_4 (List.mem_of_getElem? (i := 237) rfl))) rfl
theorem q958 : Cond.methodLinkNest RX11 283 yX0_waysOf "SpinStrip" ∈ lw_nest := mn (List.mem_append_right _ (tp_4 (List.mem_of_getElem? (i := 238) rfl))) rfl
theorem q960 : Cond.instanceMethod yX0_waysOf ∈ lw_good := mg (List.mem_append_right _ (tp_5 (List.mem_of_getElem? (i := 0) rfl))) rfl
theorem q961 : Cond.code yX0_waysOf cX0_waysOf 2 (some .int) ∈ lw_good := mg (List.mem_append_right _ (tp_5 (List.mem_of_getElem? (i := 1) rfl))) rfl
theorem q962 : Cond.methodLink RL 81 yX11_ground ∈ lw_good := mg (List.mem_append_right _ (tp_5 (List.mem_of_getElem? (i := 2) rfl))) rfl
theorem q963 : Cond.instanceMethod yX11_ground ∈ lw_good := mg (List.mem_append_right _ (tp_5 (List.mem_of_getElem? (i := 3) rfl))) rfl
theorem q964 : Cond.selects RX11 yX11_ground yX11_ground ∈ lw_good := mg (List.mem_append_right _ (tp_5 (List.mem_of_getElem? (i := 4) rfl))) rfl
theorem q965 : Cond.code yX11_ground cX11_ground 4 (some .int) ∈ lw_good := mg (List.mem_append_right _ (tp_5 (List.mem_of_getElem? (i := 5) rfl))) rfl
theorem q966 : Cond.methodLink RL 85 yX11_pair ∈ lw_good := mg (List.mem_append_right _ (tp_5 (List.mem_of_getElem? (i := 6) rfl))) rfl
theorem q967 : Cond.instanceMethod yX11_pair ∈ lw_good := mg (List.mem_append_right _ (tp_5 (List.mem_of_getElem? (i := 7) rfl))) rfl
theorem q968 : Cond.selects RX11 yX11_pair yX11_pair ∈ lw_good := mg (List.mem_append_right _ (tp_5 (List.mem_of_getElem? (i := 8) rfl))) rfl
theorem q969 : Cond.code yX11_pair cX11_pair 8 (some .int) ∈ lw_good := mg (List.mem_append_right _ (tp_5 (List.mem_of_getElem? (i := 9) rfl))) rfl
theorem q970 : Cond.methodLink RX11 284 yX11_countAlike ∈ lw_good := mg (List.mem_append_right _ (tp_5 (List.mem_of_getElem? (i := 10) rfl))) rfl
theorem q972 : Cond.instanceMethod yX11_countAlike ∈ lw_good := mg (List.mem_append_right _ (tp_5 (List.mem_of_getElem? (i := 12) rfl))) rfl
theorem q973 : Cond.code yX11_countAlike cX11_countAlike 7 (some .int) ∈ lw_good := mg (List.mem_append_right _ (tp_5 (List.mem_of_getElem? (i := 13) rfl))) rfl
theorem q974 : Cond.methodLinkNest RX11 295 yX6_allows "SpinStrip" ∈ lw_nest := mn (List.mem_append_right _ (tp_5 (List.mem_of_getElem? (i := 14) rfl))) rfl
theorem q975 : Cond.methodLinkNest RX11 298 yX2_of "SpinStrip" ∈ lw_nest := mn (List.mem_append_right _ (tp_5 (List.mem_of_getElem? (i := 15) rfl))) rfl
theorem q976 : Cond.methodLink RX11 288 yX11_partOfFraction ∈ lw_good := mg (List.mem_append_right _ (tp_5 (List.mem_of_getElem? (i := 16) rfl))) rfl
theorem q977 : Cond.static yX11_partOfFraction ∈ lw_good := mg (List.mem_append_right _ (tp_5 (List.mem_of_getElem? (i := 17) rfl))) rfl
theorem q978 : Cond.code yX11_partOfFraction cX11_partOfFraction 4 (some .int) ∈ lw_good := mg (List.mem_append_right _ (tp_5 (List.mem_of_getElem? (i := 18) rfl))) rfl
theorem q979 : Cond.methodLink RX11 491 yJ9_abs_0f7a4 ∈ lw_good := mg (List.mem_append_right _ (tp_5 (List.mem_of_getElem? (i := 19) rfl))) rfl
theorem q980 : Cond.methodLink RX11 494 yX11_commonDivisor ∈ lw_good := mg (List.mem_append_right _ (tp_5 (List.mem_of_getElem? (i := 20) rfl))) rfl
theorem q981 : Cond.static yX11_commonDivisor ∈ lw_good := mg (List.mem_append_right _ (tp_5 (List.mem_of_getElem? (i := 21) rfl))) rfl
theorem q982 : Cond.code yX11_commonDivisor cX11_commonDivisor 6 (some .int) ∈ lw_good := mg (List.mem_append_right _ (tp_5 (List.mem_of_getElem? (i := 22) rfl))) rfl
theorem q983 : Cond.methodLink RL 90 yX11_mean ∈ lw_good := mg (List.mem_append_right _ (tp_5 (List.mem_of_getElem? (i := 23) rfl))) rfl
theorem q984 : Cond.instanceMethod yX11_mean ∈ lw_good := mg (List.mem_append_right _ (tp_5 (List.mem_of_getElem? (i := 24) rfl))) rfl
theorem q985 : Cond.selects RX11 yX11_mean yX11_mean ∈ lw_good := mg (List.mem_append_right _ (tp_5 (List.mem_of_getElem? (i := 25) rfl))) rfl
theorem q986 : Cond.code yX11_mean cX11_mean 5 (some .int) ∈ lw_good := mg (List.mem_append_right _ (tp_5 (List.mem_of_getElem? (i := 26) rfl))) rfl
theorem q987 : Cond.methodLinkNest RX11 301 yX4_upsAdded "SpinStrip" ∈ lw_nest := mn (List.mem_append_right _ (tp_5 (List.mem_of_getElem? (i := 27) rfl))) rfl
theorem q989 : Cond.instanceMethod yX4_upsAdded ∈ lw_good := mg (List.mem_append_right _ (tp_5 (List.mem_of_getElem? (i := 29) rfl))) rfl
theorem q990 : Cond.code yX4_upsAdded cX4_upsAdded 4 (some .int) ∈ lw_good := mg (List.mem_append_right _ (tp_5 (List.mem_of_getElem? (i := 30) rfl))) rfl
theorem q991 : Cond.methodLink RL 94 yX11_value ∈ lw_good := mg (List.mem_append_right _ (tp_5 (List.mem_of_getElem? (i := 31) rfl))) rfl
theorem q992 : Cond.instanceMethod yX11_value ∈ lw_good := mg (List.mem_append_right _ (tp_5 (List.mem_of_getElem? (i := 32) rfl))) rfl
theorem q993 : Cond.selects RX11 yX11_value yX11_value ∈ lw_good := mg (List.mem_append_right _ (tp_5 (List.mem_of_getElem? (i := 33) rfl))) rfl
theorem q994 : Cond.code yX11_value cX11_value 8 (some .int) ∈ lw_good := mg (List.mem_append_right _ (tp_5 (List.mem_of_getElem? (i := 34) rfl))) rfl
theorem q995 : Cond.constant RX11 304 (1000003) ∈ lw_good := mg (List.mem_append_right _ (tp_5 (List.mem_of_getElem? (i := 35) rfl))) rfl
theorem q996 : Cond.constantLong RX11 305 (1000003) ∈ lw_good := mg (List.mem_append_right _ (tp_5 (List.mem_of_getElem? (i := 36) rfl))) rfl
theorem q997 : Cond.methodLink RL 98 yX11_joined ∈ lw_good := mg (List.mem_append_right _ (tp_5 (List.mem_of_getElem? (i := 37) rfl))) rfl
theorem q998 : Cond.instanceMethod yX11_joined ∈ lw_good := mg (List.mem_append_right _ (tp_5 (List.mem_of_getElem? (i := 38) rfl))) rfl
theorem q999 : Cond.selects RX11 yX11_joined yX11_joined ∈ lw_good := mg (List.mem_append_right _ (tp_5 (List.mem_of_getElem? (i := 39) rfl))) rfl
theorem q1000 : Cond.code yX11_joined cX11_joined 6 (some .long) ∈ lw_good := mg (List.mem_append_right _ (tp_5 (List.mem_of_getElem? (i := 40) rfl))) rfl
theorem q1001 : Cond.methodLink RX11 307 yX11_slotAt ∈ lw_good := mg (List.mem_append_right _ (tp_5 (List.mem_of_getElem? (i := 41) rfl))) rfl
theorem q1003 : Cond.instanceMethod yX11_slotAt ∈ lw_good := mg (List.mem_append_right _ (tp_5 (List.mem_of_getElem? (i := 43) rfl))) rfl
theorem q1004 : Cond.code yX11_slotAt cX11_slotAt 2 (some (.object "SpinStrip$Slot")) ∈ lw_good := mg (List.mem_append_right _ (tp_5 (List.mem_of_getElem? (i := 44) rfl))) rfl
theorem q1005 : Cond.constantLong RX11 311 (-100000) ∈ lw_good := mg (List.mem_append_right _ (tp_5 (List.mem_of_getElem? (i := 45) rfl))) rfl
theorem q1006 : Cond.methodLink RX11 313 yX11_joinWays ∈ lw_good := mg (List.mem_append_right _ (tp_5 (List.mem_of_getElem? (i := 46) rfl))) rfl
theorem q1008 : Cond.instanceMethod yX11_joinWays ∈ lw_good := mg (List.mem_append_right _ (tp_5 (List.mem_of_getElem? (i := 48) rfl))) rfl
theorem q1009 : Cond.code yX11_joinWays cX11_joinWays 6 none ∈ lw_good := mg (List.mem_append_right _ (tp_5 (List.mem_of_getElem? (i := 49) rfl))) rfl
theorem q1010 : Cond.methodLink RX11 326 yX11_heldWays ∈ lw_good := mg (List.mem_append_right _ (tp_5 (List.mem_of_getElem? (i := 50) rfl))) rfl
theorem q1012 : Cond.instanceMethod yX11_heldWays ∈ lw_good := mg (List.mem_append_right _ (tp_5 (List.mem_of_getElem? (i := 52) rfl))) rfl
theorem q1013 : Cond.code yX11_heldWays cX11_heldWays 2 (some (.array .int)) ∈ lw_good := mg (List.mem_append_right _ (tp_5 (List.mem_of_getElem? (i := 53) rfl))) rfl
theorem q1014 : Cond.methodLink RX11 350 yX11_countWays ∈ lw_good := mg (List.mem_append_right _ (tp_5 (List.mem_of_getElem? (i := 54) rfl))) rfl
theorem q1016 : Cond.instanceMethod yX11_countWays ∈ lw_good := mg (List.mem_append_right _ (tp_5 (List.mem_of_getElem? (i := 56) rfl))) rfl
theorem q1017 : Cond.code yX11_countWays cX11_countWays 7 none ∈ lw_good := mg (List.mem_append_right _ (tp_5 (List.mem_of_getElem? (i := 57) rfl))) rfl
theorem q1018 : Cond.methodLink RX11 354 yJ7_fill_53178 ∈ lw_good := mg (List.mem_append_right _ (tp_5 (List.mem_of_getElem? (i := 58) rfl))) rfl
theorem q1019 : Cond.methodLink RX11 330 yJ7_fill_d0a16 ∈ lw_good := mg (List.mem_append_right _ (tp_5 (List.mem_of_getElem? (i := 59) rfl))) rfl
theorem q1020 : Cond.static yJ7_fill_d0a16 ∈ lw_good := mg (List.mem_append_right _ (tp_5 (List.mem_of_getElem? (i := 60) rfl))) rfl
theorem q1021 : Cond.code yJ7_fill_d0a16 cJ7_fill_d0a16 5 none ∈ lw_good := mg (List.mem_append_right _ (tp_5 (List.mem_of_getElem? (i := 61) rfl))) rfl
theorem q1022 : Cond.methodLink RX11 317 yX11_countJoinedLevels ∈ lw_good := mg (List.mem_append_right _ (tp_5 (List.mem_of_getElem? (i := 62) rfl))) rfl
theorem q1024 : Cond.instanceMethod yX11_countJoinedLevels ∈ lw_good := mg (List.mem_append_right _ (tp_5 (List.mem_of_getElem? (i := 64) rfl))) rfl
theorem q1025 : Cond.code yX11_countJoinedLevels cX11_countJoinedLevels 3 (some .int) ∈ lw_good := mg (List.mem_append_right _ (tp_5 (List.mem_of_getElem? (i := 65) rfl))) rfl
theorem q1026 : Cond.methodLink RX11 320 yX11_joinedLevelAt ∈ lw_good := mg (List.mem_append_right _ (tp_5 (List.mem_of_getElem? (i := 66) rfl))) rfl
theorem q1028 : Cond.instanceMethod yX11_joinedLevelAt ∈ lw_good := mg (List.mem_append_right _ (tp_5 (List.mem_of_getElem? (i := 68) rfl))) rfl
theorem q1029 : Cond.code yX11_joinedLevelAt cX11_joinedLevelAt 4 (some .int) ∈ lw_good := mg (List.mem_append_right _ (tp_5 (List.mem_of_getElem? (i := 69) rfl))) rfl
theorem q1030 : Cond.methodLink RL 107 yX11_stuck ∈ lw_good := mg (List.mem_append_right _ (tp_5 (List.mem_of_getElem? (i := 70) rfl))) rfl
theorem q1031 : Cond.instanceMethod yX11_stuck ∈ lw_good := mg (List.mem_append_right _ (tp_5 (List.mem_of_getElem? (i := 71) rfl))) rfl
theorem q1032 : Cond.selects RX11 yX11_stuck yX11_stuck ∈ lw_good := mg (List.mem_append_right _ (tp_5 (List.mem_of_getElem? (i := 72) rfl))) rfl
theorem q1033 : Cond.code yX11_stuck cX11_stuck 8 (some .int) ∈ lw_good := mg (List.mem_append_right _ (tp_5 (List.mem_of_getElem? (i := 73) rfl))) rfl
theorem q1034 : Cond.methodLinkNest RX11 357 yX2_hasNoneLower "SpinStrip" ∈ lw_nest := mn (List.mem_append_right _ (tp_5 (List.mem_of_getElem? (i := 74) rfl))) rfl
theorem q1036 : Cond.instanceMethod yX2_hasNoneLower ∈ lw_good := mg (List.mem_append_right _ (tp_5 (List.mem_of_getElem? (i := 76) rfl))) rfl
theorem q1037 : Cond.code yX2_hasNoneLower cX2_hasNoneLower 7 (some .boolean) ∈ lw_good := mg (List.mem_append_right _ (tp_5 (List.mem_of_getElem? (i := 77) rfl))) rfl
theorem q1038 : Cond.methodLink RX2 25 yX2_of ∈ lw_good := mg (List.mem_append_right _ (tp_5 (List.mem_of_getElem? (i := 78) rfl))) rfl
theorem q1039 : Cond.methodLink RL 112 yX11_rows ∈ lw_good := mg (List.mem_append_right _ (tp_5 (List.mem_of_getElem? (i := 79) rfl))) rfl
theorem q1040 : Cond.instanceMethod yX11_rows ∈ lw_good := mg (List.mem_append_right _ (tp_5 (List.mem_of_getElem? (i := 80) rfl))) rfl
theorem q1041 : Cond.selects RX11 yX11_rows yX11_rows ∈ lw_good := mg (List.mem_append_right _ (tp_5 (List.mem_of_getElem? (i := 81) rfl))) rfl
theorem q1042 : Cond.code yX11_rows cX11_rows 11 (some .int) ∈ lw_good := mg (List.mem_append_right _ (tp_5 (List.mem_of_getElem? (i := 82) rfl))) rfl
theorem q1043 : Cond.methodLink RX11 363 yX11_energiesOfRows ∈ lw_good := mg (List.mem_append_right _ (tp_5 (List.mem_of_getElem? (i := 83) rfl))) rfl
theorem q1045 : Cond.instanceMethod yX11_energiesOfRows ∈ lw_good := mg (List.mem_append_right _ (tp_5 (List.mem_of_getElem? (i := 85) rfl))) rfl
theorem q1046 : Cond.code yX11_energiesOfRows cX11_energiesOfRows 2 (some (.object "SpinStrip$Energies")) ∈ lw_good := mg (List.mem_append_right _ (tp_5 (List.mem_of_getElem? (i := 86) rfl))) rfl
theorem q1047 : Cond.methodLink RL 121 yX11_overlap ∈ lw_good := mg (List.mem_append_right _ (tp_5 (List.mem_of_getElem? (i := 87) rfl))) rfl
theorem q1048 : Cond.instanceMethod yX11_overlap ∈ lw_good := mg (List.mem_append_right _ (tp_5 (List.mem_of_getElem? (i := 88) rfl))) rfl
theorem q1049 : Cond.selects RX11 yX11_overlap yX11_overlap ∈ lw_good := mg (List.mem_append_right _ (tp_5 (List.mem_of_getElem? (i := 89) rfl))) rfl
theorem q1050 : Cond.code yX11_overlap cX11_overlap 7 (some .int) ∈ lw_good := mg (List.mem_append_right _ (tp_5 (List.mem_of_getElem? (i := 90) rfl))) rfl
theorem q1051 : Cond.methodLink RX11 371 yX11_listGround ∈ lw_good := mg (List.mem_append_right _ (tp_5 (List.mem_of_getElem? (i := 91) rfl))) rfl
theorem q1053 : Cond.instanceMethod yX11_listGround ∈ lw_good := mg (List.mem_append_right _ (tp_5 (List.mem_of_getElem? (i := 93) rfl))) rfl
theorem q1054 : Cond.code yX11_listGround cX11_listGround 5 (some .int) ∈ lw_good := mg (List.mem_append_right _ (tp_5 (List.mem_of_getElem? (i := 94) rfl))) rfl
theorem q1055 : Cond.methodLink RX11 374 yJ6_bitCount_0f7a4 ∈ lw_good := mg (List.mem_append_right _ (tp_5 (List.mem_of_getElem? (i := 95) rfl))) rfl
theorem q1056 : Cond.methodLink RL 129 yX11_stiff ∈ lw_good := mg (List.mem_append_right _ (tp_5 (List.mem_of_getElem? (i := 96) rfl))) rfl
theorem q1057 : Cond.instanceMethod yX11_stiff ∈ lw_good := mg (List.mem_append_right _ (tp_5 (List.mem_of_getElem? (i := 97) rfl))) rfl
theorem q1058 : Cond.selects RX11 yX11_stiff yX11_stiff ∈ lw_good := mg (List.mem_append_right _ (tp_5 (List.mem_of_getElem? (i := 98) rfl))) rfl
theorem q1059 : Cond.code yX11_stiff cX11_stiff 7 (some .int) ∈ lw_good := mg (List.mem_append_right _ (tp_5 (List.mem_of_getElem? (i := 99) rfl))) rfl
theorem q1060 : Cond.methodLink RX11 379 yJ9_min_7cf53 ∈ lw_good := mg (List.mem_append_right _ (tp_5 (List.mem_of_getElem? (i := 100) rfl))) rfl
theorem q1061 : Cond.methodLink RL 103 yX11_state ∈ lw_good := mg (List.mem_append_right _ (tp_5 (List.mem_of_getElem? (i := 101) rfl))) rfl
theorem q1062 : Cond.instanceMethod yX11_state ∈ lw_good := mg (List.mem_append_right _ (tp_5 (List.mem_of_getElem? (i := 102) rfl))) rfl
theorem q1063 : Cond.selects RX11 yX11_state yX11_state ∈ lw_good := mg (List.mem_append_right _ (tp_5 (List.mem_of_getElem? (i := 103) rfl))) rfl
theorem q1064 : Cond.code yX11_state cX11_state 3 (some .int) ∈ lw_good := mg (List.mem_append_right _ (tp_5 (List.mem_of_getElem? (i := 104) rfl))) rfl
theorem q1065 : Cond.methodLink RX11 384 yX11_isLawful ∈ lw_good := mg (List.mem_append_right _ (tp_5 (List.mem_of_getElem? (i := 105) rfl))) rfl
theorem q1067 : Cond.instanceMethod yX11_isLawful ∈ lw_good := mg (List.mem_append_right _ (tp_5 (List.mem_of_getElem? (i := 107) rfl))) rfl
theorem q1068 : Cond.code yX11_isLawful cX11_isLawful 2 (some .boolean) ∈ lw_good := mg (List.mem_append_right _ (tp_5 (List.mem_of_getElem? (i := 108) rfl))) rfl
theorem q1069 : Cond.methodLinkNest RX11 387 yX3_energyOf "SpinStrip" ∈ lw_nest := mn (List.mem_append_right _ (tp_5 (List.mem_of_getElem? (i := 109) rfl))) rfl
theorem q1071 : Cond.instanceMethod yX3_energyOf ∈ lw_good := mg (List.mem_append_right _ (tp_5 (List.mem_of_getElem? (i := 111) rfl))) rfl
theorem q1072 : Cond.code yX3_energyOf cX3_energyOf 5 (some .int) ∈ lw_good := mg (List.mem_append_right _ (tp_5 (List.mem_of_getElem? (i := 112) rfl))) rfl
theorem q1073 : Cond.methodLinkNest RX11 389 yX3_brokenOf "SpinStrip" ∈ lw_nest := mn (List.mem_append_right _ (tp_5 (List.mem_of_getElem? (i := 113) rfl))) rfl
theorem q1075 : Cond.instanceMethod yX3_brokenOf ∈ lw_good := mg (List.mem_append_right _ (tp_5 (List.mem_of_getElem? (i := 115) rfl))) rfl
theorem q1076 : Cond.code yX3_brokenOf cX3_brokenOf 6 (some .int) ∈ lw_good := mg (List.mem_append_right _ (tp_5 (List.mem_of_getElem? (i := 116) rfl))) rfl
theorem q1077 : Cond.methodLinkNest RX11 392 yX3_steepest "SpinStrip" ∈ lw_nest := mn (List.mem_append_right _ (tp_5 (List.mem_of_getElem? (i := 117) rfl))) rfl
theorem q1078 : Cond.methodLinkNest RX11 395 yX4_numberOf "SpinStrip" ∈ lw_nest := mn (List.mem_append_right _ (tp_5 (List.mem_of_getElem? (i := 118) rfl))) rfl
theorem q1080 : Cond.instanceMethod yX4_numberOf ∈ lw_good := mg (List.mem_append_right _ (tp_5 (List.mem_of_getElem? (i := 120) rfl))) rfl
theorem q1081 : Cond.code yX4_numberOf cX4_numberOf 3 (some .int) ∈ lw_good := mg (List.mem_append_right _ (tp_5 (List.mem_of_getElem? (i := 121) rfl))) rfl
theorem q1082 : Cond.methodLink RL 150 yX11_nearest ∈ lw_good := mg (List.mem_append_right _ (tp_5 (List.mem_of_getElem? (i := 122) rfl))) rfl
theorem q1083 : Cond.instanceMethod yX11_nearest ∈ lw_good := mg (List.mem_append_right _ (tp_5 (List.mem_of_getElem? (i := 123) rfl))) rfl
theorem q1084 : Cond.selects RX11 yX11_nearest yX11_nearest ∈ lw_good := mg (List.mem_append_right _ (tp_5 (List.mem_of_getElem? (i := 124) rfl))) rfl
theorem q1085 : Cond.code yX11_nearest cX11_nearest 4 (some .int) ∈ lw_good := mg (List.mem_append_right _ (tp_5 (List.mem_of_getElem? (i := 125) rfl))) rfl
theorem q1086 : Cond.methodLink RX11 398 yX11_nearestGround ∈ lw_good := mg (List.mem_append_right _ (tp_5 (List.mem_of_getElem? (i := 126) rfl))) rfl
theorem q1088 : Cond.instanceMethod yX11_nearestGround ∈ lw_good := mg (List.mem_append_right _ (tp_5 (List.mem_of_getElem? (i := 128) rfl))) rfl
theorem q1089 : Cond.code yX11_nearestGround cX11_nearestGround 7 (some .int) ∈ lw_good := mg (List.mem_append_right _ (tp_5 (List.mem_of_getElem? (i := 129) rfl))) rfl
theorem q1090 : Cond.methodLink RL 158 yX11_wander ∈ lw_good := mg (List.mem_append_right _ (tp_5 (List.mem_of_getElem? (i := 130) rfl))) rfl
theorem q1091 : Cond.instanceMethod yX11_wander ∈ lw_good := mg (List.mem_append_right _ (tp_5 (List.mem_of_getElem? (i := 131) rfl))) rfl
theorem q1092 : Cond.selects RX11 yX11_wander yX11_wander ∈ lw_good := mg (List.mem_append_right _ (tp_5 (List.mem_of_getElem? (i := 132) rfl))) rfl
theorem q1093 : Cond.code yX11_wander cX11_wander 4 (some .int) ∈ lw_good := mg (List.mem_append_right _ (tp_5 (List.mem_of_getElem? (i := 133) rfl))) rfl
theorem q1094 : Cond.methodLinkNest RX11 401 yX10_strollFrom "SpinStrip" ∈ lw_nest := mn (List.mem_append_right _ (tp_5 (List.mem_of_getElem? (i := 134) rfl))) rfl
theorem q1096 : Cond.instanceMethod yX10_strollFrom ∈ lw_good := mg (List.mem_append_right _ (tp_5 (List.mem_of_getElem? (i := 136) rfl))) rfl
theorem q1097 : Cond.code yX10_strollFrom cX10_strollFrom 11 none ∈ lw_good := mg (List.mem_append_right _ (tp_5 (List.mem_of_getElem? (i := 137) rfl))) rfl
theorem q1098 : Cond.methodLinkNest RX10 27 yX3_energyOf "SpinStrip" ∈ lw_nest := mn (List.mem_append_right _ (tp_5 (List.mem_of_getElem? (i := 138) rfl))) rfl
theorem q1099 : Cond.methodLinkNest RX10 36 yX11_nextLot "SpinStrip" ∈ lw_nest := mn (List.mem_append_right _ (tp_5 (List.mem_of_getElem? (i := 139) rfl))) rfl
theorem q1100 : Cond.methodLinkNest RX10 43 yX11_lotOf "SpinStrip" ∈ lw_nest := mn (List.mem_append_right _ (tp_5 (List.mem_of_getElem? (i := 140) rfl))) rfl
theorem q1101 : Cond.methodLinkNest RX10 47 yX3_costOfTurn "SpinStrip" ∈ lw_nest := mn (List.mem_append_right _ (tp_5 (List.mem_of_getElem? (i := 141) rfl))) rfl
theorem q1102 : Cond.methodLinkNest RX10 51 yX6_isPinned "SpinStrip" ∈ lw_nest := mn (List.mem_append_right _ (tp_5 (List.mem_of_getElem? (i := 142) rfl))) rfl
theorem q1103 : Cond.methodLink RX10 55 yJ9_min_7cf53 ∈ lw_good := mg (List.mem_append_right _ (tp_5 (List.mem_of_getElem? (i := 143) rfl))) rfl
theorem q1104 : Cond.methodLink RL 125 yX11_basin ∈ lw_good := mg (List.mem_append_right _ (tp_5 (List.mem_of_getElem? (i := 144) rfl))) rfl
theorem q1105 : Cond.instanceMethod yX11_basin ∈ lw_good := mg (List.mem_append_right _ (tp_5 (List.mem_of_getElem? (i := 145) rfl))) rfl
theorem q1106 : Cond.selects RX11 yX11_basin yX11_basin ∈ lw_good := mg (List.mem_append_right _ (tp_5 (List.mem_of_getElem? (i := 146) rfl))) rfl
theorem q1107 : Cond.code yX11_basin cX11_basin 2 (some .int) ∈ lw_good := mg (List.mem_append_right _ (tp_5 (List.mem_of_getElem? (i := 147) rfl))) rfl
theorem q1108 : Cond.methodLink RX11 408 yX11_isSmall ∈ lw_good := mg (List.mem_append_right _ (tp_5 (List.mem_of_getElem? (i := 148) rfl))) rfl
theorem q1110 : Cond.instanceMethod yX11_isSmall ∈ lw_good := mg (List.mem_append_right _ (tp_5 (List.mem_of_getElem? (i := 150) rfl))) rfl
theorem q1111 : Cond.code yX11_isSmall cX11_isSmall 1 (some .boolean) ∈ lw_good := mg (List.mem_append_right _ (tp_5 (List.mem_of_getElem? (i := 151) rfl))) rfl
theorem q1112 : Cond.methodLink RX11 412 yX11_terrainNow ∈ lw_good := mg (List.mem_append_right _ (tp_5 (List.mem_of_getElem? (i := 152) rfl))) rfl
theorem q1114 : Cond.instanceMethod yX11_terrainNow ∈ lw_good := mg (List.mem_append_right _ (tp_5 (List.mem_of_getElem? (i := 154) rfl))) rfl
theorem q1115 : Cond.code yX11_terrainNow cX11_terrainNow 2 (some (.object "SpinStrip$Terrain")) ∈ lw_good := mg (List.mem_append_right _ (tp_5 (List.mem_of_getElem? (i := 155) rfl))) rfl
theorem q1116 : Cond.methodLinkNest RX11 479 yX9_sort "SpinStrip" ∈ lw_nest := mn (List.mem_append_right _ (tp_5 (List.mem_of_getElem? (i := 156) rfl))) rfl
theorem q1118 : Cond.instanceMethod yX9_sort ∈ lw_good := mg (List.mem_append_right _ (tp_5 (List.mem_of_getElem? (i := 158) rfl))) rfl
theorem q1119 : Cond.code yX9_sort cX9_sort 7 none ∈ lw_good := mg (List.mem_append_right _ (tp_5 (List.mem_of_getElem? (i := 159) rfl))) rfl
theorem q1120 : Cond.methodLinkNest RX9 50 yX6_allows "SpinStrip" ∈ lw_nest := mn (List.mem_append_right _ (tp_5 (List.mem_of_getElem? (i := 160) rfl))) rfl
theorem q1121 : Cond.methodLinkNest RX9 56 yX2_of "SpinStrip" ∈ lw_nest := mn (List.mem_append_right _ (tp_5 (List.mem_of_getElem? (i := 161) rfl))) rfl
theorem q1122 : Cond.methodLink RX9 62 yX9_putInOrder ∈ lw_good := mg (List.mem_append_right _ (tp_5 (List.mem_of_getElem? (i := 162) rfl))) rfl
theorem q1124 : Cond.instanceMethod yX9_putInOrder ∈ lw_good := mg (List.mem_append_right _ (tp_5 (List.mem_of_getElem? (i := 164) rfl))) rfl
theorem q1125 : Cond.code yX9_putInOrder cX9_putInOrder 3 none ∈ lw_good := mg (List.mem_append_right _ (tp_5 (List.mem_of_getElem? (i := 165) rfl))) rfl
theorem q1126 : Cond.methodLinkNest RX11 416 yX9_basinOf "SpinStrip" ∈ lw_nest := mn (List.mem_append_right _ (tp_5 (List.mem_of_getElem? (i := 166) rfl))) rfl
theorem q1128 : Cond.instanceMethod yX9_basinOf ∈ lw_good := mg (List.mem_append_right _ (tp_5 (List.mem_of_getElem? (i := 168) rfl))) rfl
theorem q1129 : Cond.code yX9_basinOf cX9_basinOf 6 (some .int) ∈ lw_good := mg (List.mem_append_right _ (tp_5 (List.mem_of_getElem? (i := 169) rfl))) rfl
theorem q1130 : Cond.methodLink RX9 108 yX9_steepestFrom ∈ lw_good := mg (List.mem_append_right _ (tp_5 (List.mem_of_getElem? (i := 170) rfl))) rfl
theorem q1132 : Cond.instanceMethod yX9_steepestFrom ∈ lw_good := mg (List.mem_append_right _ (tp_5 (List.mem_of_getElem? (i := 172) rfl))) rfl
theorem q1133 : Cond.code yX9_steepestFrom cX9_steepestFrom 5 (some .int) ∈ lw_good := mg (List.mem_append_right _ (tp_5 (List.mem_of_getElem? (i := 173) rfl))) rfl
theorem q1134 : Cond.methodLink RX9 87 yX9_canTurn ∈ lw_good := mg (List.mem_append_right _ (tp_5 (List.mem_of_getElem? (i := 174) rfl))) rfl
theorem q1136 : Cond.instanceMethod yX9_canTurn ∈ lw_good := mg (List.mem_append_right _ (tp_5 (List.mem_of_getElem? (i := 176) rfl))) rfl
theorem q1137 : Cond.code yX9_canTurn cX9_canTurn 2 (some .boolean) ∈ lw_good := mg (List.mem_append_right _ (tp_5 (List.mem_of_getElem? (i := 177) rfl))) rfl
theorem q1138 : Cond.methodLinkNest RX9 66 yX6_isPinned "SpinStrip" ∈ lw_nest := mn (List.mem_append_right _ (tp_5 (List.mem_of_getElem? (i := 178) rfl))) rfl
theorem q1139 : Cond.methodLink RX9 100 yX9_energyOf ∈ lw_good := mg (List.mem_append_right _ (tp_5 (List.mem_of_getElem? (i := 179) rfl))) rfl
theorem q1141 : Cond.instanceMethod yX9_energyOf ∈ lw_good := mg (List.mem_append_right _ (tp_5 (List.mem_of_getElem? (i := 181) rfl))) rfl
theorem q1142 : Cond.code yX9_energyOf cX9_energyOf 2 (some .int) ∈ lw_good := mg (List.mem_append_right _ (tp_5 (List.mem_of_getElem? (i := 182) rfl))) rfl
theorem q1143 : Cond.methodLink RX9 69 yX9_isState ∈ lw_good := mg (List.mem_append_right _ (tp_5 (List.mem_of_getElem? (i := 183) rfl))) rfl
theorem q1144 : Cond.static yX9_isState ∈ lw_good := mg (List.mem_append_right _ (tp_5 (List.mem_of_getElem? (i := 184) rfl))) rfl
theorem q1145 : Cond.code yX9_isState cX9_isState 1 (some .boolean) ∈ lw_good := mg (List.mem_append_right _ (tp_5 (List.mem_of_getElem? (i := 185) rfl))) rfl
theorem q1146 : Cond.methodLink RL 133 yX11_hill ∈ lw_good := mg (List.mem_append_right _ (tp_5 (List.mem_of_getElem? (i := 186) rfl))) rfl
theorem q1147 : Cond.instanceMethod yX11_hill ∈ lw_good := mg (List.mem_append_right _ (tp_5 (List.mem_of_getElem? (i := 187) rfl))) rfl
theorem q1148 : Cond.selects RX11 yX11_hill yX11_hill ∈ lw_good := mg (List.mem_append_right _ (tp_5 (List.mem_of_getElem? (i := 188) rfl))) rfl
theorem q1149 : Cond.code yX11_hill cX11_hill 3 (some .int) ∈ lw_good := mg (List.mem_append_right _ (tp_5 (List.mem_of_getElem? (i := 189) rfl))) rfl
theorem q1150 : Cond.methodLinkNest RX11 419 yX9_lowest "SpinStrip" ∈ lw_nest := mn (List.mem_append_right _ (tp_5 (List.mem_of_getElem? (i := 190) rfl))) rfl
theorem q1152 : Cond.instanceMethod yX9_lowest ∈ lw_good := mg (List.mem_append_right _ (tp_5 (List.mem_of_getElem? (i := 192) rfl))) rfl
theorem q1153 : Cond.code yX9_lowest cX9_lowest 1 (some .int) ∈ lw_good := mg (List.mem_append_right _ (tp_5 (List.mem_of_getElem? (i := 193) rfl))) rfl
theorem q1154 : Cond.methodLinkNest RX11 422 yX9_meetingEnergy "SpinStrip" ∈ lw_nest := mn (List.mem_append_right _ (tp_5 (List.mem_of_getElem? (i := 194) rfl))) rfl
theorem q1156 : Cond.instanceMethod yX9_meetingEnergy ∈ lw_good := mg (List.mem_append_right _ (tp_5 (List.mem_of_getElem? (i := 196) rfl))) rfl
theorem q1157 : Cond.code yX9_meetingEnergy cX9_meetingEnergy 6 (some .int) ∈ lw_good := mg (List.mem_append_right _ (tp_5 (List.mem_of_getElem? (i := 197) rfl))) rfl
theorem q1158 : Cond.methodLink RX9 93 yX9_dry ∈ lw_good := mg (List.mem_append_right _ (tp_5 (List.mem_of_getElem? (i := 198) rfl))) rfl
theorem q1160 : Cond.instanceMethod yX9_dry ∈ lw_good := mg (List.mem_append_right _ (tp_5 (List.mem_of_getElem? (i := 200) rfl))) rfl
theorem q1161 : Cond.code yX9_dry cX9_dry 1 none ∈ lw_good := mg (List.mem_append_right _ (tp_5 (List.mem_of_getElem? (i := 201) rfl))) rfl
theorem q1162 : Cond.methodLink RX9 81 yJ7_fill_53178 ∈ lw_good := mg (List.mem_append_right _ (tp_5 (List.mem_of_getElem? (i := 202) rfl))) rfl
theorem q1163 : Cond.methodLink RX9 96 yX9_flood ∈ lw_good := mg (List.mem_append_right _ (tp_5 (List.mem_of_getElem? (i := 203) rfl))) rfl
theorem q1165 : Cond.instanceMethod yX9_flood ∈ lw_good := mg (List.mem_append_right _ (tp_5 (List.mem_of_getElem? (i := 205) rfl))) rfl
theorem q1166 : Cond.code yX9_flood cX9_flood 4 none ∈ lw_good := mg (List.mem_append_right _ (tp_5 (List.mem_of_getElem? (i := 206) rfl))) rfl
theorem q1167 : Cond.methodLink RX9 72 yX9_isWet ∈ lw_good := mg (List.mem_append_right _ (tp_5 (List.mem_of_getElem? (i := 207) rfl))) rfl
theorem q1169 : Cond.instanceMethod yX9_isWet ∈ lw_good := mg (List.mem_append_right _ (tp_5 (List.mem_of_getElem? (i := 209) rfl))) rfl
theorem q1170 : Cond.code yX9_isWet cX9_isWet 2 (some .boolean) ∈ lw_good := mg (List.mem_append_right _ (tp_5 (List.mem_of_getElem? (i := 210) rfl))) rfl
theorem q1171 : Cond.methodLink RX9 90 yX9_join ∈ lw_good := mg (List.mem_append_right _ (tp_5 (List.mem_of_getElem? (i := 211) rfl))) rfl
theorem q1173 : Cond.instanceMethod yX9_join ∈ lw_good := mg (List.mem_append_right _ (tp_5 (List.mem_of_getElem? (i := 213) rfl))) rfl
theorem q1174 : Cond.code yX9_join cX9_join 5 none ∈ lw_good := mg (List.mem_append_right _ (tp_5 (List.mem_of_getElem? (i := 214) rfl))) rfl
theorem q1175 : Cond.methodLink RX9 75 yX9_rootOf ∈ lw_good := mg (List.mem_append_right _ (tp_5 (List.mem_of_getElem? (i := 215) rfl))) rfl
theorem q1177 : Cond.instanceMethod yX9_rootOf ∈ lw_good := mg (List.mem_append_right _ (tp_5 (List.mem_of_getElem? (i := 217) rfl))) rfl
theorem q1178 : Cond.code yX9_rootOf cX9_rootOf 4 (some .int) ∈ lw_good := mg (List.mem_append_right _ (tp_5 (List.mem_of_getElem? (i := 218) rfl))) rfl
theorem q1179 : Cond.methodLink RX9 103 yX9_lowest ∈ lw_good := mg (List.mem_append_right _ (tp_5 (List.mem_of_getElem? (i := 219) rfl))) rfl
theorem q1180 : Cond.constant RX9 107 (-100000) ∈ lw_good := mg (List.mem_append_right _ (tp_5 (List.mem_of_getElem? (i := 220) rfl))) rfl
theorem q1181 : Cond.methodLink RL 137 yX11_pass ∈ lw_good := mg (List.mem_append_right _ (tp_5 (List.mem_of_getElem? (i := 221) rfl))) rfl
theorem q1182 : Cond.instanceMethod yX11_pass ∈ lw_good := mg (List.mem_append_right _ (tp_5 (List.mem_of_getElem? (i := 222) rfl))) rfl
theorem q1183 : Cond.selects RX11 yX11_pass yX11_pass ∈ lw_good := mg (List.mem_append_right _ (tp_5 (List.mem_of_getElem? (i := 223) rfl))) rfl
theorem q1184 : Cond.code yX11_pass cX11_pass 3 (some .int) ∈ lw_good := mg (List.mem_append_right _ (tp_5 (List.mem_of_getElem? (i := 224) rfl))) rfl
theorem q1185 : Cond.methodLink RL 141 yX11_lakes ∈ lw_good := mg (List.mem_append_right _ (tp_5 (List.mem_of_getElem? (i := 225) rfl))) rfl
theorem q1186 : Cond.instanceMethod yX11_lakes ∈ lw_good := mg (List.mem_append_right _ (tp_5 (List.mem_of_getElem? (i := 226) rfl))) rfl
theorem q1187 : Cond.selects RX11 yX11_lakes yX11_lakes ∈ lw_good := mg (List.mem_append_right _ (tp_5 (List.mem_of_getElem? (i := 227) rfl))) rfl
theorem q1188 : Cond.code yX11_lakes cX11_lakes 2 (some .int) ∈ lw_good := mg (List.mem_append_right _ (tp_5 (List.mem_of_getElem? (i := 228) rfl))) rfl
theorem q1189 : Cond.methodLinkNest RX11 426 yX9_lakesBelow "SpinStrip" ∈ lw_nest := mn (List.mem_append_right _ (tp_5 (List.mem_of_getElem? (i := 229) rfl))) rfl
theorem q1191 : Cond.instanceMethod yX9_lakesBelow ∈ lw_good := mg (List.mem_append_right _ (tp_5 (List.mem_of_getElem? (i := 231) rfl))) rfl
theorem q1192 : Cond.code yX9_lakesBelow cX9_lakesBelow 3 (some .int) ∈ lw_good := mg (List.mem_append_right _ (tp_5 (List.mem_of_getElem? (i := 232) rfl))) rfl
theorem q1193 : Cond.methodLink RL 145 yX11_down ∈ lw_good := mg (List.mem_append_right _ (tp_5 (List.mem_of_getElem? (i := 233) rfl))) rfl
theorem q1194 : Cond.instanceMethod yX11_down ∈ lw_good := mg (List.mem_append_right _ (tp_5 (List.mem_of_getElem? (i := 234) rfl))) rfl
theorem q1195 : Cond.selects RX11 yX11_down yX11_down ∈ lw_good := mg (List.mem_append_right _ (tp_5 (List.mem_of_getElem? (i := 235) rfl))) rfl
theorem q1196 : Cond.code yX11_down cX11_down 2 (some .long) ∈ lw_good := mg (List.mem_append_right _ (tp_5 (List.mem_of_getElem? (i := 236) rfl))) rfl
theorem q1197 : Cond.methodLinkNest RX11 429 yX9_waysDown "SpinStrip" ∈ lw_nest := mn (List.mem_append_right _ (tp_5 (List.mem_of_getElem? (i := 237) rfl))) rfl
theorem q1199 : Cond.instanceMethod yX9_waysDown ∈ lw_good := mg (List.mem_append_right _ (tp_5 (List.mem_of_getElem? (i := 239) rfl))) rfl
theorem q1200 : Cond.code yX9_waysDown cX9_waysDown 6 (some .long) ∈ lw_good := mg (List.mem_append_right _ (tp_6 (List.mem_of_getElem? (i := 0) rfl))) rfl
theorem q1201 : Cond.methodLink RX9 111 yX9_waysFrom ∈ lw_good := mg (List.mem_append_right _ (tp_6 (List.mem_of_getElem? (i := 1) rfl))) rfl
theorem q1203 : Cond.instanceMethod yX9_waysFrom ∈ lw_good := mg (List.mem_append_right _ (tp_6 (List.mem_of_getElem? (i := 3) rfl))) rfl
theorem q1204 : Cond.code yX9_waysFrom cX9_waysFrom 7 (some .long) ∈ lw_good := mg (List.mem_append_right _ (tp_6 (List.mem_of_getElem? (i := 4) rfl))) rfl
theorem q1205 : Cond.constantLong RX9 115 (-100000) ∈ lw_good := mg (List.mem_append_right _ (tp_6 (List.mem_of_getElem? (i := 5) rfl))) rfl
theorem q1206 : Cond.methodLink RL 162 yX11_hold ∈ lw_good := mg (List.mem_append_right _ (tp_6 (List.mem_of_getElem? (i := 6) rfl))) rfl
theorem q1207 : Cond.instanceMethod yX11_hold ∈ lw_good := mg (List.mem_append_right _ (tp_6 (List.mem_of_getElem? (i := 7) rfl))) rfl
theorem q1208 : Cond.selects RX11 yX11_hold yX11_hold ∈ lw_good := mg (List.mem_append_right _ (tp_6 (List.mem_of_getElem? (i := 8) rfl))) rfl
theorem q1209 : Cond.code yX11_hold cX11_hold 3 (some .boolean) ∈ lw_good := mg (List.mem_append_right _ (tp_6 (List.mem_of_getElem? (i := 9) rfl))) rfl
theorem q1210 : Cond.methodLink RL 166 yX11_restore ∈ lw_good := mg (List.mem_append_right _ (tp_6 (List.mem_of_getElem? (i := 10) rfl))) rfl
theorem q1211 : Cond.instanceMethod yX11_restore ∈ lw_good := mg (List.mem_append_right _ (tp_6 (List.mem_of_getElem? (i := 11) rfl))) rfl
theorem q1212 : Cond.selects RX11 yX11_restore yX11_restore ∈ lw_good := mg (List.mem_append_right _ (tp_6 (List.mem_of_getElem? (i := 12) rfl))) rfl
theorem q1213 : Cond.code yX11_restore cX11_restore 3 (some .boolean) ∈ lw_good := mg (List.mem_append_right _ (tp_6 (List.mem_of_getElem? (i := 13) rfl))) rfl
theorem q1214 : Cond.methodLink RL 170 yX11_count ∈ lw_good := mg (List.mem_append_right _ (tp_6 (List.mem_of_getElem? (i := 14) rfl))) rfl
theorem q1215 : Cond.instanceMethod yX11_count ∈ lw_good := mg (List.mem_append_right _ (tp_6 (List.mem_of_getElem? (i := 15) rfl))) rfl
theorem q1216 : Cond.selects RX11 yX11_count yX11_count ∈ lw_good := mg (List.mem_append_right _ (tp_6 (List.mem_of_getElem? (i := 16) rfl))) rfl
theorem q1217 : Cond.code yX11_count cX11_count 2 (some .int) ∈ lw_good := mg (List.mem_append_right _ (tp_6 (List.mem_of_getElem? (i := 17) rfl))) rfl
theorem q1218 : Cond.methodLink RX11 433 yX11_countStates ∈ lw_good := mg (List.mem_append_right _ (tp_6 (List.mem_of_getElem? (i := 18) rfl))) rfl
theorem q1220 : Cond.instanceMethod yX11_countStates ∈ lw_good := mg (List.mem_append_right _ (tp_6 (List.mem_of_getElem? (i := 20) rfl))) rfl
theorem q1221 : Cond.code yX11_countStates cX11_countStates 1 (some .int) ∈ lw_good := mg (List.mem_append_right _ (tp_6 (List.mem_of_getElem? (i := 21) rfl))) rfl
theorem q1222 : Cond.methodLinkNest RX11 436 yX3_countTies "SpinStrip" ∈ lw_nest := mn (List.mem_append_right _ (tp_6 (List.mem_of_getElem? (i := 22) rfl))) rfl
theorem q1224 : Cond.instanceMethod yX3_countTies ∈ lw_good := mg (List.mem_append_right _ (tp_6 (List.mem_of_getElem? (i := 24) rfl))) rfl
theorem q1225 : Cond.code yX3_countTies cX3_countTies 3 (some .int) ∈ lw_good := mg (List.mem_append_right _ (tp_6 (List.mem_of_getElem? (i := 25) rfl))) rfl
theorem q1226 : Cond.methodLink RX11 440 yX11_countFullSlots ∈ lw_good := mg (List.mem_append_right _ (tp_6 (List.mem_of_getElem? (i := 26) rfl))) rfl
theorem q1228 : Cond.instanceMethod yX11_countFullSlots ∈ lw_good := mg (List.mem_append_right _ (tp_6 (List.mem_of_getElem? (i := 28) rfl))) rfl
theorem q1229 : Cond.code yX11_countFullSlots cX11_countFullSlots 3 (some .int) ∈ lw_good := mg (List.mem_append_right _ (tp_6 (List.mem_of_getElem? (i := 29) rfl))) rfl
theorem q1230 : Cond.methodLinkNest RX11 446 yX3_countClusters "SpinStrip" ∈ lw_nest := mn (List.mem_append_right _ (tp_6 (List.mem_of_getElem? (i := 30) rfl))) rfl
theorem q1232 : Cond.instanceMethod yX3_countClusters ∈ lw_good := mg (List.mem_append_right _ (tp_6 (List.mem_of_getElem? (i := 32) rfl))) rfl
theorem q1233 : Cond.code yX3_countClusters cX3_countClusters 5 (some .int) ∈ lw_good := mg (List.mem_append_right _ (tp_6 (List.mem_of_getElem? (i := 33) rfl))) rfl
theorem q1234 : Cond.methodLink RX3 92 yX3_clusterOf ∈ lw_good := mg (List.mem_append_right _ (tp_6 (List.mem_of_getElem? (i := 34) rfl))) rfl
theorem q1235 : Cond.methodLinkNest RX11 449 yX3_greatestCluster "SpinStrip" ∈ lw_nest := mn (List.mem_append_right _ (tp_6 (List.mem_of_getElem? (i := 35) rfl))) rfl
theorem q1237 : Cond.instanceMethod yX3_greatestCluster ∈ lw_good := mg (List.mem_append_right _ (tp_6 (List.mem_of_getElem? (i := 37) rfl))) rfl
theorem q1238 : Cond.code yX3_greatestCluster cX3_greatestCluster 4 (some .int) ∈ lw_good := mg (List.mem_append_right _ (tp_6 (List.mem_of_getElem? (i := 38) rfl))) rfl
theorem q1239 : Cond.methodLink RX3 95 yJ6_bitCount_0f7a4 ∈ lw_good := mg (List.mem_append_right _ (tp_6 (List.mem_of_getElem? (i := 39) rfl))) rfl
theorem q1240 : Cond.methodLink RX3 100 yJ9_max_7cf53 ∈ lw_good := mg (List.mem_append_right _ (tp_6 (List.mem_of_getElem? (i := 40) rfl))) rfl
theorem q1241 : Cond.static yJ9_max_7cf53 ∈ lw_good := mg (List.mem_append_right _ (tp_6 (List.mem_of_getElem? (i := 41) rfl))) rfl
theorem q1242 : Cond.code yJ9_max_7cf53 cJ9_max_7cf53 2 (some .int) ∈ lw_good := mg (List.mem_append_right _ (tp_6 (List.mem_of_getElem? (i := 42) rfl))) rfl
theorem q1243 : Cond.methodLinkNest RX11 453 yX0_fewest "SpinStrip" ∈ lw_nest := mn (List.mem_append_right _ (tp_6 (List.mem_of_getElem? (i := 43) rfl))) rfl
theorem q1245 : Cond.instanceMethod yX0_fewest ∈ lw_good := mg (List.mem_append_right _ (tp_6 (List.mem_of_getElem? (i := 45) rfl))) rfl
theorem q1246 : Cond.code yX0_fewest cX0_fewest 2 (some .int) ∈ lw_good := mg (List.mem_append_right _ (tp_6 (List.mem_of_getElem? (i := 46) rfl))) rfl
theorem q1247 : Cond.methodLinkNest RX11 456 yX3_countOddSquares "SpinStrip" ∈ lw_nest := mn (List.mem_append_right _ (tp_6 (List.mem_of_getElem? (i := 47) rfl))) rfl
theorem q1249 : Cond.instanceMethod yX3_countOddSquares ∈ lw_good := mg (List.mem_append_right _ (tp_6 (List.mem_of_getElem? (i := 49) rfl))) rfl
theorem q1250 : Cond.code yX3_countOddSquares cX3_countOddSquares 4 (some .int) ∈ lw_good := mg (List.mem_append_right _ (tp_6 (List.mem_of_getElem? (i := 50) rfl))) rfl
theorem q1251 : Cond.methodLink RX3 85 yX3_squareOf ∈ lw_good := mg (List.mem_append_right _ (tp_6 (List.mem_of_getElem? (i := 51) rfl))) rfl
theorem q1252 : Cond.classLink RL 10 RX12 ∈ lw_good := mg (List.mem_append_right _ (tp_6 (List.mem_of_getElem? (i := 52) rfl))) rfl
theorem q1253 : Cond.instantiable RX12 45 ∈ lw_good := mg (List.mem_append_right _ (tp_6 (List.mem_of_getElem? (i := 53) rfl))) rfl
theorem q1254 : Cond.methodLink RL 12 yX12_init ∈ lw_good := mg (List.mem_append_right _ (tp_6 (List.mem_of_getElem? (i := 54) rfl))) rfl
theorem q1255 : Cond.instanceMethod yX12_init ∈ lw_good := mg (List.mem_append_right _ (tp_6 (List.mem_of_getElem? (i := 55) rfl))) rfl
theorem q1256 : Cond.code yX12_init cX12_init 1 none ∈ lw_good := mg (List.mem_append_right _ (tp_6 (List.mem_of_getElem? (i := 56) rfl))) rfl
theorem q1258 : Cond.constant RX12 56 (65536) ∈ lw_good := mg (List.mem_append_right _ (tp_6 (List.mem_of_getElem? (i := 58) rfl))) rfl
end
section
theorem q1259 : Cond.methodLink RX12 90 yX12_letters ∈ lw_good := mg (List.mem_append_right _ (tp_6 (List.mem_of_getElem? (i := 59) rfl))) rfl
theorem q1260 : Cond.static yX12_letters ∈ lw_good := mg (List.mem_append_right _ (tp_6 (List.mem_of_getElem? (i := 60) rfl))) rfl
theorem q1261 : Cond.code yX12_letters cX12_letters 7 (some .long) ∈ lw_good := mg (List.mem_append_right _ (tp_6 (List.mem_of_getElem? (i := 61) rfl))) rfl
theorem q1262 : Cond.methodLink RX12 106 yX12_appends ∈ lw_good := mg (List.mem_append_right _ (tp_6 (List.mem_of_getElem? (i := 62) rfl))) rfl
theorem q1263 : Cond.static yX12_appends ∈ lw_good := mg (List.mem_append_right _ (tp_6 (List.mem_of_getElem? (i := 63) rfl))) rfl
theorem q1264 : Cond.code yX12_appends cX12_appends 3 (some .long) ∈ lw_good := mg (List.mem_append_right _ (tp_6 (List.mem_of_getElem? (i := 64) rfl))) rfl
theorem q1265 : Cond.constantLong RX12 104 (27) ∈ lw_good := mg (List.mem_append_right _ (tp_6 (List.mem_of_getElem? (i := 65) rfl))) rfl
theorem q1266 : Cond.fieldLink RX12 13 "SpinStripModel" "tape" "[B" ∈ lw_good := mg (List.mem_append_right _ (tp_6 (List.mem_of_getElem? (i := 66) rfl))) rfl
theorem q1267 : Cond.fieldLink RX12 94 "SpinStripModel" "taped" "I" ∈ lw_good := mg (List.mem_append_right _ (tp_6 (List.mem_of_getElem? (i := 67) rfl))) rfl
theorem q1268 : Cond.fieldLink RX12 17 "SpinStripModel" "text" "[B" ∈ lw_good := mg (List.mem_append_right _ (tp_6 (List.mem_of_getElem? (i := 68) rfl))) rfl
theorem q1269 : Cond.fieldLink RX12 101 "SpinStripModel" "size" "I" ∈ lw_good := mg (List.mem_append_right _ (tp_6 (List.mem_of_getElem? (i := 69) rfl))) rfl
theorem q1270 : Cond.fieldLink RX12 20 "SpinStripModel" "tKind" "[I" ∈ lw_good := mg (List.mem_append_right _ (tp_6 (List.mem_of_getElem? (i := 70) rfl))) rfl
theorem q1271 : Cond.fieldLink RX12 24 "SpinStripModel" "tPlace" "[I" ∈ lw_good := mg (List.mem_append_right _ (tp_6 (List.mem_of_getElem? (i := 71) rfl))) rfl
theorem q1272 : Cond.fieldLink RX12 27 "SpinStripModel" "tValue" "[I" ∈ lw_good := mg (List.mem_append_right _ (tp_6 (List.mem_of_getElem? (i := 72) rfl))) rfl
theorem q1273 : Cond.fieldLink RX12 30 "SpinStripModel" "tName" "[J" ∈ lw_good := mg (List.mem_append_right _ (tp_6 (List.mem_of_getElem? (i := 73) rfl))) rfl
theorem q1274 : Cond.fieldLink RX12 34 "SpinStripModel" "keys" "[J" ∈ lw_good := mg (List.mem_append_right _ (tp_6 (List.mem_of_getElem? (i := 74) rfl))) rfl
theorem q1275 : Cond.fieldLink RX12 110 "SpinStripModel" "tokens" "I" ∈ lw_good := mg (List.mem_append_right _ (tp_6 (List.mem_of_getElem? (i := 75) rfl))) rfl
theorem q1276 : Cond.fieldLink RX12 135 "SpinStripModel" "t" "I" ∈ lw_good := mg (List.mem_append_right _ (tp_6 (List.mem_of_getElem? (i := 76) rfl))) rfl
theorem q1277 : Cond.fieldLink RX12 132 "SpinStripModel" "fault" "I" ∈ lw_good := mg (List.mem_append_right _ (tp_6 (List.mem_of_getElem? (i := 77) rfl))) rfl
theorem q1278 : Cond.fieldLink RX12 138 "SpinStripModel" "faultPlace" "I" ∈ lw_good := mg (List.mem_append_right _ (tp_6 (List.mem_of_getElem? (i := 78) rfl))) rfl
theorem q1279 : Cond.fieldLink RX12 141 "SpinStripModel" "worst" "I" ∈ lw_good := mg (List.mem_append_right _ (tp_6 (List.mem_of_getElem? (i := 79) rfl))) rfl
theorem q1280 : Cond.fieldLink RX12 144 "SpinStripModel" "worstPlace" "I" ∈ lw_good := mg (List.mem_append_right _ (tp_6 (List.mem_of_getElem? (i := 80) rfl))) rfl
theorem q1281 : Cond.fieldLink RX12 37 "SpinStripModel" "place" "I" ∈ lw_good := mg (List.mem_append_right _ (tp_6 (List.mem_of_getElem? (i := 81) rfl))) rfl
theorem q1282 : Cond.fieldLink RX12 171 "SpinStripModel" "wide" "I" ∈ lw_good := mg (List.mem_append_right _ (tp_6 (List.mem_of_getElem? (i := 82) rfl))) rfl
theorem q1283 : Cond.fieldLink RX12 177 "SpinStripModel" "far" "I" ∈ lw_good := mg (List.mem_append_right _ (tp_6 (List.mem_of_getElem? (i := 83) rfl))) rfl
theorem q1284 : Cond.fieldLink RX12 184 "SpinStripModel" "ringAcross" "Z" ∈ lw_good := mg (List.mem_append_right _ (tp_6 (List.mem_of_getElem? (i := 84) rfl))) rfl
theorem q1285 : Cond.fieldLink RX12 190 "SpinStripModel" "ringAlong" "Z" ∈ lw_good := mg (List.mem_append_right _ (tp_6 (List.mem_of_getElem? (i := 85) rfl))) rfl
theorem q1286 : Cond.fieldLink RX12 40 "SpinStripModel" "now" "[I" ∈ lw_good := mg (List.mem_append_right _ (tp_6 (List.mem_of_getElem? (i := 86) rfl))) rfl
theorem q1287 : Cond.fieldLink RX12 168 "SpinStripModel" "newWide" "I" ∈ lw_good := mg (List.mem_append_right _ (tp_6 (List.mem_of_getElem? (i := 87) rfl))) rfl
theorem q1288 : Cond.fieldLink RX12 174 "SpinStripModel" "newFar" "I" ∈ lw_good := mg (List.mem_append_right _ (tp_6 (List.mem_of_getElem? (i := 88) rfl))) rfl
theorem q1289 : Cond.fieldLink RX12 180 "SpinStripModel" "newRingAcross" "Z" ∈ lw_good := mg (List.mem_append_right _ (tp_6 (List.mem_of_getElem? (i := 89) rfl))) rfl
theorem q1290 : Cond.fieldLink RX12 187 "SpinStripModel" "newRingAlong" "Z" ∈ lw_good := mg (List.mem_append_right _ (tp_6 (List.mem_of_getElem? (i := 90) rfl))) rfl
theorem q1291 : Cond.fieldLink RX12 43 "SpinStripModel" "fresh" "[I" ∈ lw_good := mg (List.mem_append_right _ (tp_6 (List.mem_of_getElem? (i := 91) rfl))) rfl
theorem q1292 : Cond.fieldLink RX12 46 "SpinStripModel" "earlier" "[I" ∈ lw_good := mg (List.mem_append_right _ (tp_6 (List.mem_of_getElem? (i := 92) rfl))) rfl
theorem q1293 : Cond.fieldLink RX12 230 "SpinStripModel" "earliest" "I" ∈ lw_good := mg (List.mem_append_right _ (tp_6 (List.mem_of_getElem? (i := 93) rfl))) rfl
theorem q1294 : Cond.fieldLink RX12 197 "SpinStripModel" "undos" "I" ∈ lw_good := mg (List.mem_append_right _ (tp_6 (List.mem_of_getElem? (i := 94) rfl))) rfl
theorem q1295 : Cond.fieldLink RX12 49 "SpinStripModel" "held" "[I" ∈ lw_good := mg (List.mem_append_right _ (tp_6 (List.mem_of_getElem? (i := 95) rfl))) rfl
theorem q1296 : Cond.fieldLink RX12 52 "SpinStripModel" "isHeld" "[Z" ∈ lw_good := mg (List.mem_append_right _ (tp_6 (List.mem_of_getElem? (i := 96) rfl))) rfl
theorem q1297 : Cond.fieldLink RX12 200 "SpinStripModel" "isKnown" "Z" ∈ lw_good := mg (List.mem_append_right _ (tp_6 (List.mem_of_getElem? (i := 97) rfl))) rfl
theorem q1298 : Cond.fieldLink RX12 57 "SpinStripModel" "energyOf" "[I" ∈ lw_good := mg (List.mem_append_right _ (tp_6 (List.mem_of_getElem? (i := 98) rfl))) rfl
theorem q1299 : Cond.fieldLink RX12 60 "SpinStripModel" "levelMany" "[I" ∈ lw_good := mg (List.mem_append_right _ (tp_6 (List.mem_of_getElem? (i := 99) rfl))) rfl
theorem q1300 : Cond.fieldLink RX12 285 "SpinStripModel" "levels" "I" ∈ lw_good := mg (List.mem_append_right _ (tp_6 (List.mem_of_getElem? (i := 100) rfl))) rfl
theorem q1301 : Cond.fieldLink RX12 63 "SpinStripModel" "levelAt" "[I" ∈ lw_good := mg (List.mem_append_right _ (tp_6 (List.mem_of_getElem? (i := 101) rfl))) rfl
theorem q1302 : Cond.fieldLink RX12 66 "SpinStripModel" "other" "[I" ∈ lw_good := mg (List.mem_append_right _ (tp_6 (List.mem_of_getElem? (i := 102) rfl))) rfl
theorem q1303 : Cond.fieldLink RX12 69 "SpinStripModel" "otherMany" "[I" ∈ lw_good := mg (List.mem_append_right _ (tp_6 (List.mem_of_getElem? (i := 103) rfl))) rfl
theorem q1304 : Cond.fieldLink RX12 72 "SpinStripModel" "both" "[J" ∈ lw_good := mg (List.mem_append_right _ (tp_6 (List.mem_of_getElem? (i := 104) rfl))) rfl
theorem q1305 : Cond.fieldLink RX12 75 "SpinStripModel" "hillOf" "[I" ∈ lw_good := mg (List.mem_append_right _ (tp_6 (List.mem_of_getElem? (i := 105) rfl))) rfl
theorem q1306 : Cond.fieldLink RX12 78 "SpinStripModel" "isWet" "[Z" ∈ lw_good := mg (List.mem_append_right _ (tp_6 (List.mem_of_getElem? (i := 106) rfl))) rfl
theorem q1307 : Cond.fieldLink RX12 81 "SpinStripModel" "waiting" "[I" ∈ lw_good := mg (List.mem_append_right _ (tp_6 (List.mem_of_getElem? (i := 107) rfl))) rfl
theorem q1308 : Cond.fieldLink RX12 84 "SpinStripModel" "downOf" "[J" ∈ lw_good := mg (List.mem_append_right _ (tp_6 (List.mem_of_getElem? (i := 108) rfl))) rfl
theorem q1309 : Cond.fieldLink RX12 87 "SpinStripModel" "grounds" "[I" ∈ lw_good := mg (List.mem_append_right _ (tp_6 (List.mem_of_getElem? (i := 109) rfl))) rfl
theorem q1310 : Cond.lays RX12 "SpinStripModel" "thrown" "I" ∈ lw_good := mg (List.mem_append_right _ (tp_6 (List.mem_of_getElem? (i := 110) rfl))) rfl
theorem q1312 : Cond.laysFinal RX12 "SpinStripModel" "tape" "[B" ∈ lw_good := mg (List.mem_append_right _ (tp_6 (List.mem_of_getElem? (i := 112) rfl))) rfl
theorem q1314 : Cond.lays RX12 "SpinStripModel" "taped" "I" ∈ lw_good := mg (List.mem_append_right _ (tp_6 (List.mem_of_getElem? (i := 114) rfl))) rfl
theorem q1316 : Cond.laysFinal RX12 "SpinStripModel" "text" "[B" ∈ lw_good := mg (List.mem_append_right _ (tp_6 (List.mem_of_getElem? (i := 116) rfl))) rfl
theorem q1318 : Cond.lays RX12 "SpinStripModel" "size" "I" ∈ lw_good := mg (List.mem_append_right _ (tp_6 (List.mem_of_getElem? (i := 118) rfl))) rfl
theorem q1320 : Cond.laysFinal RX12 "SpinStripModel" "tKind" "[I" ∈ lw_good := mg (List.mem_append_right _ (tp_6 (List.mem_of_getElem? (i := 120) rfl))) rfl
theorem q1322 : Cond.laysFinal RX12 "SpinStripModel" "tPlace" "[I" ∈ lw_good := mg (List.mem_append_right _ (tp_6 (List.mem_of_getElem? (i := 122) rfl))) rfl
theorem q1324 : Cond.laysFinal RX12 "SpinStripModel" "tValue" "[I" ∈ lw_good := mg (List.mem_append_right _ (tp_6 (List.mem_of_getElem? (i := 124) rfl))) rfl
theorem q1326 : Cond.laysFinal RX12 "SpinStripModel" "tName" "[J" ∈ lw_good := mg (List.mem_append_right _ (tp_6 (List.mem_of_getElem? (i := 126) rfl))) rfl
theorem q1328 : Cond.laysFinal RX12 "SpinStripModel" "keys" "[J" ∈ lw_good := mg (List.mem_append_right _ (tp_6 (List.mem_of_getElem? (i := 128) rfl))) rfl
theorem q1330 : Cond.lays RX12 "SpinStripModel" "tokens" "I" ∈ lw_good := mg (List.mem_append_right _ (tp_6 (List.mem_of_getElem? (i := 130) rfl))) rfl
theorem q1332 : Cond.lays RX12 "SpinStripModel" "t" "I" ∈ lw_good := mg (List.mem_append_right _ (tp_6 (List.mem_of_getElem? (i := 132) rfl))) rfl
theorem q1334 : Cond.lays RX12 "SpinStripModel" "fault" "I" ∈ lw_good := mg (List.mem_append_right _ (tp_6 (List.mem_of_getElem? (i := 134) rfl))) rfl
theorem q1336 : Cond.lays RX12 "SpinStripModel" "faultPlace" "I" ∈ lw_good := mg (List.mem_append_right _ (tp_6 (List.mem_of_getElem? (i := 136) rfl))) rfl
theorem q1338 : Cond.lays RX12 "SpinStripModel" "worst" "I" ∈ lw_good := mg (List.mem_append_right _ (tp_6 (List.mem_of_getElem? (i := 138) rfl))) rfl
theorem q1340 : Cond.lays RX12 "SpinStripModel" "worstPlace" "I" ∈ lw_good := mg (List.mem_append_right _ (tp_6 (List.mem_of_getElem? (i := 140) rfl))) rfl
theorem q1342 : Cond.lays RX12 "SpinStripModel" "place" "I" ∈ lw_good := mg (List.mem_append_right _ (tp_6 (List.mem_of_getElem? (i := 142) rfl))) rfl
theorem q1344 : Cond.lays RX12 "SpinStripModel" "wide" "I" ∈ lw_good := mg (List.mem_append_right _ (tp_6 (List.mem_of_getElem? (i := 144) rfl))) rfl
theorem q1346 : Cond.lays RX12 "SpinStripModel" "far" "I" ∈ lw_good := mg (List.mem_append_right _ (tp_6 (List.mem_of_getElem? (i := 146) rfl))) rfl
theorem q1348 : Cond.lays RX12 "SpinStripModel" "ringAcross" "Z" ∈ lw_good := mg (List.mem_append_right _ (tp_6 (List.mem_of_getElem? (i := 148) rfl))) rfl
theorem q1350 : Cond.lays RX12 "SpinStripModel" "ringAlong" "Z" ∈ lw_good := mg (List.mem_append_right _ (tp_6 (List.mem_of_getElem? (i := 150) rfl))) rfl
theorem q1352 : Cond.laysFinal RX12 "SpinStripModel" "now" "[I" ∈ lw_good := mg (List.mem_append_right _ (tp_6 (List.mem_of_getElem? (i := 152) rfl))) rfl
theorem q1354 : Cond.lays RX12 "SpinStripModel" "newWide" "I" ∈ lw_good := mg (List.mem_append_right _ (tp_6 (List.mem_of_getElem? (i := 154) rfl))) rfl
theorem q1356 : Cond.lays RX12 "SpinStripModel" "newFar" "I" ∈ lw_good := mg (List.mem_append_right _ (tp_6 (List.mem_of_getElem? (i := 156) rfl))) rfl
theorem q1358 : Cond.lays RX12 "SpinStripModel" "newRingAcross" "Z" ∈ lw_good := mg (List.mem_append_right _ (tp_6 (List.mem_of_getElem? (i := 158) rfl))) rfl
theorem q1360 : Cond.lays RX12 "SpinStripModel" "newRingAlong" "Z" ∈ lw_good := mg (List.mem_append_right _ (tp_6 (List.mem_of_getElem? (i := 160) rfl))) rfl
theorem q1362 : Cond.laysFinal RX12 "SpinStripModel" "fresh" "[I" ∈ lw_good := mg (List.mem_append_right _ (tp_6 (List.mem_of_getElem? (i := 162) rfl))) rfl
theorem q1364 : Cond.laysFinal RX12 "SpinStripModel" "earlier" "[I" ∈ lw_good := mg (List.mem_append_right _ (tp_6 (List.mem_of_getElem? (i := 164) rfl))) rfl
theorem q1366 : Cond.lays RX12 "SpinStripModel" "earliest" "I" ∈ lw_good := mg (List.mem_append_right _ (tp_6 (List.mem_of_getElem? (i := 166) rfl))) rfl
theorem q1368 : Cond.lays RX12 "SpinStripModel" "undos" "I" ∈ lw_good := mg (List.mem_append_right _ (tp_6 (List.mem_of_getElem? (i := 168) rfl))) rfl
theorem q1370 : Cond.laysFinal RX12 "SpinStripModel" "held" "[I" ∈ lw_good := mg (List.mem_append_right _ (tp_6 (List.mem_of_getElem? (i := 170) rfl))) rfl
theorem q1372 : Cond.laysFinal RX12 "SpinStripModel" "isHeld" "[Z" ∈ lw_good := mg (List.mem_append_right _ (tp_6 (List.mem_of_getElem? (i := 172) rfl))) rfl
theorem q1374 : Cond.lays RX12 "SpinStripModel" "isKnown" "Z" ∈ lw_good := mg (List.mem_append_right _ (tp_6 (List.mem_of_getElem? (i := 174) rfl))) rfl
theorem q1376 : Cond.laysFinal RX12 "SpinStripModel" "energyOf" "[I" ∈ lw_good := mg (List.mem_append_right _ (tp_6 (List.mem_of_getElem? (i := 176) rfl))) rfl
theorem q1378 : Cond.laysFinal RX12 "SpinStripModel" "levelMany" "[I" ∈ lw_good := mg (List.mem_append_right _ (tp_6 (List.mem_of_getElem? (i := 178) rfl))) rfl
theorem q1380 : Cond.lays RX12 "SpinStripModel" "levels" "I" ∈ lw_good := mg (List.mem_append_right _ (tp_6 (List.mem_of_getElem? (i := 180) rfl))) rfl
theorem q1382 : Cond.laysFinal RX12 "SpinStripModel" "levelAt" "[I" ∈ lw_good := mg (List.mem_append_right _ (tp_6 (List.mem_of_getElem? (i := 182) rfl))) rfl
theorem q1384 : Cond.laysFinal RX12 "SpinStripModel" "other" "[I" ∈ lw_good := mg (List.mem_append_right _ (tp_6 (List.mem_of_getElem? (i := 184) rfl))) rfl
theorem q1386 : Cond.laysFinal RX12 "SpinStripModel" "otherMany" "[I" ∈ lw_good := mg (List.mem_append_right _ (tp_6 (List.mem_of_getElem? (i := 186) rfl))) rfl
theorem q1388 : Cond.laysFinal RX12 "SpinStripModel" "both" "[J" ∈ lw_good := mg (List.mem_append_right _ (tp_6 (List.mem_of_getElem? (i := 188) rfl))) rfl
theorem q1390 : Cond.laysFinal RX12 "SpinStripModel" "hillOf" "[I" ∈ lw_good := mg (List.mem_append_right _ (tp_6 (List.mem_of_getElem? (i := 190) rfl))) rfl
theorem q1392 : Cond.laysFinal RX12 "SpinStripModel" "isWet" "[Z" ∈ lw_good := mg (List.mem_append_right _ (tp_6 (List.mem_of_getElem? (i := 192) rfl))) rfl
theorem q1394 : Cond.laysFinal RX12 "SpinStripModel" "waiting" "[I" ∈ lw_good := mg (List.mem_append_right _ (tp_6 (List.mem_of_getElem? (i := 194) rfl))) rfl
theorem q1396 : Cond.laysFinal RX12 "SpinStripModel" "downOf" "[J" ∈ lw_good := mg (List.mem_append_right _ (tp_6 (List.mem_of_getElem? (i := 196) rfl))) rfl
theorem q1398 : Cond.laysFinal RX12 "SpinStripModel" "grounds" "[I" ∈ lw_good := mg (List.mem_append_right _ (tp_6 (List.mem_of_getElem? (i := 198) rfl))) rfl
theorem q1401 : Cond.arrayClass .boolean ∈ lw_good := mg (List.mem_append_right _ (tp_6 (List.mem_of_getElem? (i := 201) rfl))) rfl
theorem q1402 : Cond.methodLink RL 17 yX12_feed ∈ lw_good := mg (List.mem_append_right _ (tp_6 (List.mem_of_getElem? (i := 202) rfl))) rfl
theorem q1403 : Cond.instanceMethod yX12_feed ∈ lw_good := mg (List.mem_append_right _ (tp_6 (List.mem_of_getElem? (i := 203) rfl))) rfl
theorem q1404 : Cond.selects RX12 yX12_feed yX12_feed ∈ lw_good := mg (List.mem_append_right _ (tp_6 (List.mem_of_getElem? (i := 204) rfl))) rfl
theorem q1405 : Cond.code yX12_feed cX12_feed 6 (some .int) ∈ lw_good := mg (List.mem_append_right _ (tp_6 (List.mem_of_getElem? (i := 205) rfl))) rfl
theorem q1406 : Cond.methodLink RX12 97 yX12_lays ∈ lw_good := mg (List.mem_append_right _ (tp_6 (List.mem_of_getElem? (i := 206) rfl))) rfl
theorem q1408 : Cond.instanceMethod yX12_lays ∈ lw_good := mg (List.mem_append_right _ (tp_6 (List.mem_of_getElem? (i := 208) rfl))) rfl
theorem q1409 : Cond.code yX12_lays cX12_lays 3 none ∈ lw_good := mg (List.mem_append_right _ (tp_6 (List.mem_of_getElem? (i := 209) rfl))) rfl
theorem q1410 : Cond.methodLink RL 22 yX12_back ∈ lw_good := mg (List.mem_append_right _ (tp_6 (List.mem_of_getElem? (i := 210) rfl))) rfl
theorem q1411 : Cond.instanceMethod yX12_back ∈ lw_good := mg (List.mem_append_right _ (tp_6 (List.mem_of_getElem? (i := 211) rfl))) rfl
theorem q1412 : Cond.selects RX12 yX12_back yX12_back ∈ lw_good := mg (List.mem_append_right _ (tp_6 (List.mem_of_getElem? (i := 212) rfl))) rfl
theorem q1413 : Cond.code yX12_back cX12_back 2 (some .int) ∈ lw_good := mg (List.mem_append_right _ (tp_6 (List.mem_of_getElem? (i := 213) rfl))) rfl
theorem q1414 : Cond.methodLink RL 27 yX12_read ∈ lw_good := mg (List.mem_append_right _ (tp_6 (List.mem_of_getElem? (i := 214) rfl))) rfl
theorem q1415 : Cond.instanceMethod yX12_read ∈ lw_good := mg (List.mem_append_right _ (tp_6 (List.mem_of_getElem? (i := 215) rfl))) rfl
theorem q1416 : Cond.selects RX12 yX12_read yX12_read ∈ lw_good := mg (List.mem_append_right _ (tp_6 (List.mem_of_getElem? (i := 216) rfl))) rfl
theorem q1417 : Cond.code yX12_read cX12_read 2 (some .int) ∈ lw_good := mg (List.mem_append_right _ (tp_6 (List.mem_of_getElem? (i := 217) rfl))) rfl
theorem q1418 : Cond.methodLink RX12 156 yX12_cutsText ∈ lw_good := mg (List.mem_append_right _ (tp_6 (List.mem_of_getElem? (i := 218) rfl))) rfl
theorem q1420 : Cond.instanceMethod yX12_cutsText ∈ lw_good := mg (List.mem_append_right _ (tp_6 (List.mem_of_getElem? (i := 220) rfl))) rfl
theorem q1421 : Cond.code yX12_cutsText cX12_cutsText 8 none ∈ lw_good := mg (List.mem_append_right _ (tp_6 (List.mem_of_getElem? (i := 221) rfl))) rfl
theorem q1422 : Cond.methodLink RX12 113 yX12_byteAt ∈ lw_good := mg (List.mem_append_right _ (tp_6 (List.mem_of_getElem? (i := 222) rfl))) rfl
theorem q1424 : Cond.instanceMethod yX12_byteAt ∈ lw_good := mg (List.mem_append_right _ (tp_6 (List.mem_of_getElem? (i := 224) rfl))) rfl
theorem q1425 : Cond.code yX12_byteAt cX12_byteAt 2 (some .int) ∈ lw_good := mg (List.mem_append_right _ (tp_6 (List.mem_of_getElem? (i := 225) rfl))) rfl
theorem q1426 : Cond.methodLink RX12 117 yX12_token ∈ lw_good := mg (List.mem_append_right _ (tp_6 (List.mem_of_getElem? (i := 226) rfl))) rfl
theorem q1428 : Cond.instanceMethod yX12_token ∈ lw_good := mg (List.mem_append_right _ (tp_6 (List.mem_of_getElem? (i := 228) rfl))) rfl
theorem q1429 : Cond.code yX12_token cX12_token 6 none ∈ lw_good := mg (List.mem_append_right _ (tp_6 (List.mem_of_getElem? (i := 229) rfl))) rfl
theorem q1430 : Cond.methodLink RX12 121 yX12_isLetter ∈ lw_good := mg (List.mem_append_right _ (tp_6 (List.mem_of_getElem? (i := 230) rfl))) rfl
theorem q1431 : Cond.static yX12_isLetter ∈ lw_good := mg (List.mem_append_right _ (tp_6 (List.mem_of_getElem? (i := 231) rfl))) rfl
theorem q1432 : Cond.code yX12_isLetter cX12_isLetter 1 (some .boolean) ∈ lw_good := mg (List.mem_append_right _ (tp_6 (List.mem_of_getElem? (i := 232) rfl))) rfl
theorem q1433 : Cond.methodLink RX12 125 yX12_isDigit ∈ lw_good := mg (List.mem_append_right _ (tp_6 (List.mem_of_getElem? (i := 233) rfl))) rfl
theorem q1434 : Cond.static yX12_isDigit ∈ lw_good := mg (List.mem_append_right _ (tp_6 (List.mem_of_getElem? (i := 234) rfl))) rfl
theorem q1435 : Cond.code yX12_isDigit cX12_isDigit 1 (some .boolean) ∈ lw_good := mg (List.mem_append_right _ (tp_6 (List.mem_of_getElem? (i := 235) rfl))) rfl
theorem q1436 : Cond.methodLink RX12 128 yX12_sign ∈ lw_good := mg (List.mem_append_right _ (tp_6 (List.mem_of_getElem? (i := 236) rfl))) rfl
theorem q1438 : Cond.instanceMethod yX12_sign ∈ lw_good := mg (List.mem_append_right _ (tp_6 (List.mem_of_getElem? (i := 238) rfl))) rfl
theorem q1439 : Cond.code yX12_sign cX12_sign 3 (some .int) ∈ lw_good := mg (List.mem_append_right _ (tp_6 (List.mem_of_getElem? (i := 239) rfl))) rfl
theorem q1440 : Cond.methodLink RX12 159 yX12_must ∈ lw_good := mg (List.mem_append_right _ (tp_7 (List.mem_of_getElem? (i := 0) rfl))) rfl
theorem q1442 : Cond.instanceMethod yX12_must ∈ lw_good := mg (List.mem_append_right _ (tp_7 (List.mem_of_getElem? (i := 2) rfl))) rfl
theorem q1443 : Cond.code yX12_must cX12_must 2 none ∈ lw_good := mg (List.mem_append_right _ (tp_7 (List.mem_of_getElem? (i := 3) rfl))) rfl
theorem q1444 : Cond.methodLink RX12 150 yX12_is ∈ lw_good := mg (List.mem_append_right _ (tp_7 (List.mem_of_getElem? (i := 4) rfl))) rfl
theorem q1446 : Cond.instanceMethod yX12_is ∈ lw_good := mg (List.mem_append_right _ (tp_7 (List.mem_of_getElem? (i := 6) rfl))) rfl
theorem q1447 : Cond.code yX12_is cX12_is 2 (some .boolean) ∈ lw_good := mg (List.mem_append_right _ (tp_7 (List.mem_of_getElem? (i := 7) rfl))) rfl
theorem q1448 : Cond.methodLink RX12 153 yX12_passes ∈ lw_good := mg (List.mem_append_right _ (tp_7 (List.mem_of_getElem? (i := 8) rfl))) rfl
theorem q1450 : Cond.instanceMethod yX12_passes ∈ lw_good := mg (List.mem_append_right _ (tp_7 (List.mem_of_getElem? (i := 10) rfl))) rfl
theorem q1451 : Cond.code yX12_passes cX12_passes 1 none ∈ lw_good := mg (List.mem_append_right _ (tp_7 (List.mem_of_getElem? (i := 11) rfl))) rfl
theorem q1452 : Cond.methodLink RX12 147 yX12_fail ∈ lw_good := mg (List.mem_append_right _ (tp_7 (List.mem_of_getElem? (i := 12) rfl))) rfl
theorem q1454 : Cond.instanceMethod yX12_fail ∈ lw_good := mg (List.mem_append_right _ (tp_7 (List.mem_of_getElem? (i := 14) rfl))) rfl
theorem q1455 : Cond.code yX12_fail cX12_fail 2 none ∈ lw_good := mg (List.mem_append_right _ (tp_7 (List.mem_of_getElem? (i := 15) rfl))) rfl
theorem q1456 : Cond.methodLink RX12 162 yX12_line ∈ lw_good := mg (List.mem_append_right _ (tp_7 (List.mem_of_getElem? (i := 16) rfl))) rfl
theorem q1458 : Cond.instanceMethod yX12_line ∈ lw_good := mg (List.mem_append_right _ (tp_7 (List.mem_of_getElem? (i := 18) rfl))) rfl
theorem q1459 : Cond.code yX12_line cX12_line 2 none ∈ lw_good := mg (List.mem_append_right _ (tp_7 (List.mem_of_getElem? (i := 19) rfl))) rfl
theorem q1460 : Cond.methodLink RX12 203 yX12_mustJ ∈ lw_good := mg (List.mem_append_right _ (tp_7 (List.mem_of_getElem? (i := 20) rfl))) rfl
theorem q1462 : Cond.instanceMethod yX12_mustJ ∈ lw_good := mg (List.mem_append_right _ (tp_7 (List.mem_of_getElem? (i := 22) rfl))) rfl
theorem q1463 : Cond.code yX12_mustJ cX12_mustJ 1 none ∈ lw_good := mg (List.mem_append_right _ (tp_7 (List.mem_of_getElem? (i := 23) rfl))) rfl
theorem q1464 : Cond.methodLink RX12 206 yX12_mustWay ∈ lw_good := mg (List.mem_append_right _ (tp_7 (List.mem_of_getElem? (i := 24) rfl))) rfl
theorem q1466 : Cond.instanceMethod yX12_mustWay ∈ lw_good := mg (List.mem_append_right _ (tp_7 (List.mem_of_getElem? (i := 26) rfl))) rfl
theorem q1467 : Cond.code yX12_mustWay cX12_mustWay 1 none ∈ lw_good := mg (List.mem_append_right _ (tp_7 (List.mem_of_getElem? (i := 27) rfl))) rfl
theorem q1468 : Cond.methodLink RX12 165 yX12_means ∈ lw_good := mg (List.mem_append_right _ (tp_7 (List.mem_of_getElem? (i := 28) rfl))) rfl
theorem q1470 : Cond.instanceMethod yX12_means ∈ lw_good := mg (List.mem_append_right _ (tp_7 (List.mem_of_getElem? (i := 30) rfl))) rfl
theorem q1471 : Cond.code yX12_means cX12_means 2 none ∈ lw_good := mg (List.mem_append_right _ (tp_7 (List.mem_of_getElem? (i := 31) rfl))) rfl
theorem q1472 : Cond.methodLink RX12 213 yX12_in ∈ lw_good := mg (List.mem_append_right _ (tp_7 (List.mem_of_getElem? (i := 32) rfl))) rfl
theorem q1473 : Cond.static yX12_in ∈ lw_good := mg (List.mem_append_right _ (tp_7 (List.mem_of_getElem? (i := 33) rfl))) rfl
theorem q1474 : Cond.code yX12_in cX12_in 3 (some .boolean) ∈ lw_good := mg (List.mem_append_right _ (tp_7 (List.mem_of_getElem? (i := 34) rfl))) rfl
theorem q1475 : Cond.methodLink RX12 209 yX12_wrong ∈ lw_good := mg (List.mem_append_right _ (tp_7 (List.mem_of_getElem? (i := 35) rfl))) rfl
theorem q1477 : Cond.instanceMethod yX12_wrong ∈ lw_good := mg (List.mem_append_right _ (tp_7 (List.mem_of_getElem? (i := 37) rfl))) rfl
theorem q1478 : Cond.code yX12_wrong cX12_wrong 4 none ∈ lw_good := mg (List.mem_append_right _ (tp_7 (List.mem_of_getElem? (i := 38) rfl))) rfl
theorem q1479 : Cond.methodLink RX12 217 yX12_meansAll ∈ lw_good := mg (List.mem_append_right _ (tp_7 (List.mem_of_getElem? (i := 39) rfl))) rfl
theorem q1481 : Cond.instanceMethod yX12_meansAll ∈ lw_good := mg (List.mem_append_right _ (tp_7 (List.mem_of_getElem? (i := 41) rfl))) rfl
theorem q1482 : Cond.code yX12_meansAll cX12_meansAll 5 none ∈ lw_good := mg (List.mem_append_right _ (tp_7 (List.mem_of_getElem? (i := 42) rfl))) rfl
theorem q1483 : Cond.methodLink RX12 223 yX12_jAt ∈ lw_good := mg (List.mem_append_right _ (tp_7 (List.mem_of_getElem? (i := 43) rfl))) rfl
theorem q1485 : Cond.instanceMethod yX12_jAt ∈ lw_good := mg (List.mem_append_right _ (tp_7 (List.mem_of_getElem? (i := 45) rfl))) rfl
theorem q1486 : Cond.code yX12_jAt cX12_jAt 3 (some .int) ∈ lw_good := mg (List.mem_append_right _ (tp_7 (List.mem_of_getElem? (i := 46) rfl))) rfl
theorem q1487 : Cond.methodLink RX12 220 yX12_meansOne ∈ lw_good := mg (List.mem_append_right _ (tp_7 (List.mem_of_getElem? (i := 47) rfl))) rfl
theorem q1489 : Cond.instanceMethod yX12_meansOne ∈ lw_good := mg (List.mem_append_right _ (tp_7 (List.mem_of_getElem? (i := 49) rfl))) rfl
theorem q1490 : Cond.code yX12_meansOne cX12_meansOne 7 none ∈ lw_good := mg (List.mem_append_right _ (tp_7 (List.mem_of_getElem? (i := 50) rfl))) rfl
theorem q1491 : Cond.methodLink RX12 226 yX12_leads ∈ lw_good := mg (List.mem_append_right _ (tp_7 (List.mem_of_getElem? (i := 51) rfl))) rfl
theorem q1492 : Cond.static yX12_leads ∈ lw_good := mg (List.mem_append_right _ (tp_7 (List.mem_of_getElem? (i := 52) rfl))) rfl
theorem q1493 : Cond.code yX12_leads cX12_leads 7 (some .int) ∈ lw_good := mg (List.mem_append_right _ (tp_7 (List.mem_of_getElem? (i := 53) rfl))) rfl
theorem q1494 : Cond.methodLink RX12 193 yX12_sites ∈ lw_good := mg (List.mem_append_right _ (tp_7 (List.mem_of_getElem? (i := 54) rfl))) rfl
theorem q1496 : Cond.instanceMethod yX12_sites ∈ lw_good := mg (List.mem_append_right _ (tp_7 (List.mem_of_getElem? (i := 56) rfl))) rfl
theorem q1497 : Cond.code yX12_sites cX12_sites 1 (some .int) ∈ lw_good := mg (List.mem_append_right _ (tp_7 (List.mem_of_getElem? (i := 57) rfl))) rfl
theorem q1498 : Cond.methodLink RL 31 yX12_place ∈ lw_good := mg (List.mem_append_right _ (tp_7 (List.mem_of_getElem? (i := 58) rfl))) rfl
theorem q1499 : Cond.instanceMethod yX12_place ∈ lw_good := mg (List.mem_append_right _ (tp_7 (List.mem_of_getElem? (i := 59) rfl))) rfl
theorem q1500 : Cond.selects RX12 yX12_place yX12_place ∈ lw_good := mg (List.mem_append_right _ (tp_7 (List.mem_of_getElem? (i := 60) rfl))) rfl
theorem q1501 : Cond.code yX12_place cX12_place 1 (some .int) ∈ lw_good := mg (List.mem_append_right _ (tp_7 (List.mem_of_getElem? (i := 61) rfl))) rfl
theorem q1502 : Cond.methodLink RL 36 yX12_tie ∈ lw_good := mg (List.mem_append_right _ (tp_7 (List.mem_of_getElem? (i := 62) rfl))) rfl
theorem q1503 : Cond.instanceMethod yX12_tie ∈ lw_good := mg (List.mem_append_right _ (tp_7 (List.mem_of_getElem? (i := 63) rfl))) rfl
theorem q1504 : Cond.selects RX12 yX12_tie yX12_tie ∈ lw_good := mg (List.mem_append_right _ (tp_7 (List.mem_of_getElem? (i := 64) rfl))) rfl
theorem q1505 : Cond.code yX12_tie cX12_tie 4 (some .boolean) ∈ lw_good := mg (List.mem_append_right _ (tp_7 (List.mem_of_getElem? (i := 65) rfl))) rfl
theorem q1506 : Cond.methodLink RX12 233 yX12_isSite ∈ lw_good := mg (List.mem_append_right _ (tp_7 (List.mem_of_getElem? (i := 66) rfl))) rfl
theorem q1508 : Cond.instanceMethod yX12_isSite ∈ lw_good := mg (List.mem_append_right _ (tp_7 (List.mem_of_getElem? (i := 68) rfl))) rfl
theorem q1509 : Cond.code yX12_isSite cX12_isSite 2 (some .boolean) ∈ lw_good := mg (List.mem_append_right _ (tp_7 (List.mem_of_getElem? (i := 69) rfl))) rfl
theorem q1510 : Cond.methodLink RX12 236 yX12_tieTo ∈ lw_good := mg (List.mem_append_right _ (tp_7 (List.mem_of_getElem? (i := 70) rfl))) rfl
theorem q1512 : Cond.instanceMethod yX12_tieTo ∈ lw_good := mg (List.mem_append_right _ (tp_7 (List.mem_of_getElem? (i := 72) rfl))) rfl
theorem q1513 : Cond.code yX12_tieTo cX12_tieTo 3 (some .int) ∈ lw_good := mg (List.mem_append_right _ (tp_7 (List.mem_of_getElem? (i := 73) rfl))) rfl
theorem q1514 : Cond.methodLink RX12 240 yX12_jOf ∈ lw_good := mg (List.mem_append_right _ (tp_7 (List.mem_of_getElem? (i := 74) rfl))) rfl
theorem q1515 : Cond.static yX12_jOf ∈ lw_good := mg (List.mem_append_right _ (tp_7 (List.mem_of_getElem? (i := 75) rfl))) rfl
theorem q1516 : Cond.code yX12_jOf cX12_jOf 3 (some .int) ∈ lw_good := mg (List.mem_append_right _ (tp_7 (List.mem_of_getElem? (i := 76) rfl))) rfl
theorem q1517 : Cond.methodLink RX12 244 yX12_marks ∈ lw_good := mg (List.mem_append_right _ (tp_7 (List.mem_of_getElem? (i := 77) rfl))) rfl
theorem q1519 : Cond.instanceMethod yX12_marks ∈ lw_good := mg (List.mem_append_right _ (tp_7 (List.mem_of_getElem? (i := 79) rfl))) rfl
theorem q1520 : Cond.code yX12_marks cX12_marks 3 none ∈ lw_good := mg (List.mem_append_right _ (tp_7 (List.mem_of_getElem? (i := 80) rfl))) rfl
theorem q1521 : Cond.methodLink RL 41 yX12_pull ∈ lw_good := mg (List.mem_append_right _ (tp_7 (List.mem_of_getElem? (i := 81) rfl))) rfl
theorem q1522 : Cond.instanceMethod yX12_pull ∈ lw_good := mg (List.mem_append_right _ (tp_7 (List.mem_of_getElem? (i := 82) rfl))) rfl
theorem q1523 : Cond.selects RX12 yX12_pull yX12_pull ∈ lw_good := mg (List.mem_append_right _ (tp_7 (List.mem_of_getElem? (i := 83) rfl))) rfl
theorem q1524 : Cond.code yX12_pull cX12_pull 3 (some .boolean) ∈ lw_good := mg (List.mem_append_right _ (tp_7 (List.mem_of_getElem? (i := 84) rfl))) rfl
theorem q1525 : Cond.methodLink RL 45 yX12_pin ∈ lw_good := mg (List.mem_append_right _ (tp_7 (List.mem_of_getElem? (i := 85) rfl))) rfl
theorem q1526 : Cond.instanceMethod yX12_pin ∈ lw_good := mg (List.mem_append_right _ (tp_7 (List.mem_of_getElem? (i := 86) rfl))) rfl
theorem q1527 : Cond.selects RX12 yX12_pin yX12_pin ∈ lw_good := mg (List.mem_append_right _ (tp_7 (List.mem_of_getElem? (i := 87) rfl))) rfl
theorem q1528 : Cond.code yX12_pin cX12_pin 3 (some .boolean) ∈ lw_good := mg (List.mem_append_right _ (tp_7 (List.mem_of_getElem? (i := 88) rfl))) rfl
theorem q1529 : Cond.methodLink RL 50 yX12_glass ∈ lw_good := mg (List.mem_append_right _ (tp_7 (List.mem_of_getElem? (i := 89) rfl))) rfl
theorem q1530 : Cond.instanceMethod yX12_glass ∈ lw_good := mg (List.mem_append_right _ (tp_7 (List.mem_of_getElem? (i := 90) rfl))) rfl
theorem q1531 : Cond.selects RX12 yX12_glass yX12_glass ∈ lw_good := mg (List.mem_append_right _ (tp_7 (List.mem_of_getElem? (i := 91) rfl))) rfl
theorem q1532 : Cond.code yX12_glass cX12_glass 7 (some .boolean) ∈ lw_good := mg (List.mem_append_right _ (tp_7 (List.mem_of_getElem? (i := 92) rfl))) rfl
theorem q1533 : Cond.methodLink RX12 253 yX12_nextOf ∈ lw_good := mg (List.mem_append_right _ (tp_7 (List.mem_of_getElem? (i := 93) rfl))) rfl
theorem q1534 : Cond.static yX12_nextOf ∈ lw_good := mg (List.mem_append_right _ (tp_7 (List.mem_of_getElem? (i := 94) rfl))) rfl
theorem q1535 : Cond.code yX12_nextOf cX12_nextOf 2 (some .long) ∈ lw_good := mg (List.mem_append_right _ (tp_7 (List.mem_of_getElem? (i := 95) rfl))) rfl
theorem q1536 : Cond.constantLong RX12 247 (1103515245) ∈ lw_good := mg (List.mem_append_right _ (tp_7 (List.mem_of_getElem? (i := 96) rfl))) rfl
theorem q1537 : Cond.constantLong RX12 249 (12345) ∈ lw_good := mg (List.mem_append_right _ (tp_7 (List.mem_of_getElem? (i := 97) rfl))) rfl
theorem q1538 : Cond.constantLong RX12 251 (2147483648) ∈ lw_good := mg (List.mem_append_right _ (tp_7 (List.mem_of_getElem? (i := 98) rfl))) rfl
theorem q1539 : Cond.constantLong RX12 257 (65536) ∈ lw_good := mg (List.mem_append_right _ (tp_7 (List.mem_of_getElem? (i := 99) rfl))) rfl
theorem q1540 : Cond.constantLong RX12 259 (2) ∈ lw_good := mg (List.mem_append_right _ (tp_7 (List.mem_of_getElem? (i := 100) rfl))) rfl
theorem q1541 : Cond.methodLink RL 54 yX12_turn ∈ lw_good := mg (List.mem_append_right _ (tp_7 (List.mem_of_getElem? (i := 101) rfl))) rfl
theorem q1542 : Cond.instanceMethod yX12_turn ∈ lw_good := mg (List.mem_append_right _ (tp_7 (List.mem_of_getElem? (i := 102) rfl))) rfl
theorem q1543 : Cond.selects RX12 yX12_turn yX12_turn ∈ lw_good := mg (List.mem_append_right _ (tp_7 (List.mem_of_getElem? (i := 103) rfl))) rfl
theorem q1544 : Cond.code yX12_turn cX12_turn 2 (some .boolean) ∈ lw_good := mg (List.mem_append_right _ (tp_7 (List.mem_of_getElem? (i := 104) rfl))) rfl
theorem q1545 : Cond.methodLink RL 58 yX12_fall ∈ lw_good := mg (List.mem_append_right _ (tp_7 (List.mem_of_getElem? (i := 105) rfl))) rfl
theorem q1546 : Cond.instanceMethod yX12_fall ∈ lw_good := mg (List.mem_append_right _ (tp_7 (List.mem_of_getElem? (i := 106) rfl))) rfl
theorem q1547 : Cond.selects RX12 yX12_fall yX12_fall ∈ lw_good := mg (List.mem_append_right _ (tp_7 (List.mem_of_getElem? (i := 107) rfl))) rfl
theorem q1548 : Cond.code yX12_fall cX12_fall 2 (some .int) ∈ lw_good := mg (List.mem_append_right _ (tp_7 (List.mem_of_getElem? (i := 108) rfl))) rfl
theorem q1549 : Cond.methodLink RX12 261 yX12_knows ∈ lw_good := mg (List.mem_append_right _ (tp_7 (List.mem_of_getElem? (i := 109) rfl))) rfl
theorem q1551 : Cond.instanceMethod yX12_knows ∈ lw_good := mg (List.mem_append_right _ (tp_7 (List.mem_of_getElem? (i := 111) rfl))) rfl
theorem q1552 : Cond.code yX12_knows cX12_knows 2 none ∈ lw_good := mg (List.mem_append_right _ (tp_7 (List.mem_of_getElem? (i := 112) rfl))) rfl
theorem q1553 : Cond.methodLink RX12 270 yX12_states ∈ lw_good := mg (List.mem_append_right _ (tp_7 (List.mem_of_getElem? (i := 113) rfl))) rfl
theorem q1555 : Cond.instanceMethod yX12_states ∈ lw_good := mg (List.mem_append_right _ (tp_7 (List.mem_of_getElem? (i := 115) rfl))) rfl
theorem q1556 : Cond.code yX12_states cX12_states 1 (some .int) ∈ lw_good := mg (List.mem_append_right _ (tp_7 (List.mem_of_getElem? (i := 116) rfl))) rfl
theorem q1557 : Cond.methodLink RX12 281 yX12_isLawful ∈ lw_good := mg (List.mem_append_right _ (tp_7 (List.mem_of_getElem? (i := 117) rfl))) rfl
theorem q1559 : Cond.instanceMethod yX12_isLawful ∈ lw_good := mg (List.mem_append_right _ (tp_7 (List.mem_of_getElem? (i := 119) rfl))) rfl
theorem q1560 : Cond.code yX12_isLawful cX12_isLawful 2 (some .boolean) ∈ lw_good := mg (List.mem_append_right _ (tp_7 (List.mem_of_getElem? (i := 120) rfl))) rfl
theorem q1561 : Cond.methodLink RX12 273 yX12_isLawfulBy ∈ lw_good := mg (List.mem_append_right _ (tp_7 (List.mem_of_getElem? (i := 121) rfl))) rfl
theorem q1562 : Cond.static yX12_isLawfulBy ∈ lw_good := mg (List.mem_append_right _ (tp_7 (List.mem_of_getElem? (i := 122) rfl))) rfl
theorem q1563 : Cond.code yX12_isLawfulBy cX12_isLawfulBy 4 (some .boolean) ∈ lw_good := mg (List.mem_append_right _ (tp_7 (List.mem_of_getElem? (i := 123) rfl))) rfl
theorem q1564 : Cond.methodLink RX12 277 yX12_energy ∈ lw_good := mg (List.mem_append_right _ (tp_7 (List.mem_of_getElem? (i := 124) rfl))) rfl
theorem q1566 : Cond.instanceMethod yX12_energy ∈ lw_good := mg (List.mem_append_right _ (tp_7 (List.mem_of_getElem? (i := 126) rfl))) rfl
theorem q1567 : Cond.code yX12_energy cX12_energy 8 (some .int) ∈ lw_good := mg (List.mem_append_right _ (tp_7 (List.mem_of_getElem? (i := 127) rfl))) rfl
theorem q1568 : Cond.constant RX12 284 (100000) ∈ lw_good := mg (List.mem_append_right _ (tp_7 (List.mem_of_getElem? (i := 128) rfl))) rfl
theorem q1569 : Cond.methodLink RX12 264 yX12_fallTurns ∈ lw_good := mg (List.mem_append_right _ (tp_7 (List.mem_of_getElem? (i := 129) rfl))) rfl
theorem q1571 : Cond.instanceMethod yX12_fallTurns ∈ lw_good := mg (List.mem_append_right _ (tp_7 (List.mem_of_getElem? (i := 131) rfl))) rfl
theorem q1572 : Cond.code yX12_fallTurns cX12_fallTurns 5 (some .int) ∈ lw_good := mg (List.mem_append_right _ (tp_7 (List.mem_of_getElem? (i := 132) rfl))) rfl
theorem q1573 : Cond.methodLink RX12 321 yX12_steepest ∈ lw_good := mg (List.mem_append_right _ (tp_7 (List.mem_of_getElem? (i := 133) rfl))) rfl
theorem q1575 : Cond.instanceMethod yX12_steepest ∈ lw_good := mg (List.mem_append_right _ (tp_7 (List.mem_of_getElem? (i := 135) rfl))) rfl
theorem q1576 : Cond.code yX12_steepest cX12_steepest 6 (some .int) ∈ lw_good := mg (List.mem_append_right _ (tp_7 (List.mem_of_getElem? (i := 136) rfl))) rfl
theorem q1577 : Cond.methodLink RX12 267 yX12_fallEnd ∈ lw_good := mg (List.mem_append_right _ (tp_7 (List.mem_of_getElem? (i := 137) rfl))) rfl
theorem q1579 : Cond.instanceMethod yX12_fallEnd ∈ lw_good := mg (List.mem_append_right _ (tp_7 (List.mem_of_getElem? (i := 139) rfl))) rfl
theorem q1580 : Cond.code yX12_fallEnd cX12_fallEnd 4 (some .int) ∈ lw_good := mg (List.mem_append_right _ (tp_7 (List.mem_of_getElem? (i := 140) rfl))) rfl
theorem q1581 : Cond.methodLink RL 63 yX12_undo ∈ lw_good := mg (List.mem_append_right _ (tp_7 (List.mem_of_getElem? (i := 141) rfl))) rfl
theorem q1582 : Cond.instanceMethod yX12_undo ∈ lw_good := mg (List.mem_append_right _ (tp_7 (List.mem_of_getElem? (i := 142) rfl))) rfl
theorem q1583 : Cond.selects RX12 yX12_undo yX12_undo ∈ lw_good := mg (List.mem_append_right _ (tp_7 (List.mem_of_getElem? (i := 143) rfl))) rfl
theorem q1584 : Cond.code yX12_undo cX12_undo 3 (some .boolean) ∈ lw_good := mg (List.mem_append_right _ (tp_7 (List.mem_of_getElem? (i := 144) rfl))) rfl
theorem q1585 : Cond.methodLink RL 165 yX12_hold ∈ lw_good := mg (List.mem_append_right _ (tp_7 (List.mem_of_getElem? (i := 145) rfl))) rfl
theorem q1586 : Cond.instanceMethod yX12_hold ∈ lw_good := mg (List.mem_append_right _ (tp_7 (List.mem_of_getElem? (i := 146) rfl))) rfl
theorem q1587 : Cond.selects RX12 yX12_hold yX12_hold ∈ lw_good := mg (List.mem_append_right _ (tp_7 (List.mem_of_getElem? (i := 147) rfl))) rfl
theorem q1588 : Cond.code yX12_hold cX12_hold 3 (some .boolean) ∈ lw_good := mg (List.mem_append_right _ (tp_7 (List.mem_of_getElem? (i := 148) rfl))) rfl
theorem q1589 : Cond.methodLink RL 169 yX12_restore ∈ lw_good := mg (List.mem_append_right _ (tp_7 (List.mem_of_getElem? (i := 149) rfl))) rfl
theorem q1590 : Cond.instanceMethod yX12_restore ∈ lw_good := mg (List.mem_append_right _ (tp_7 (List.mem_of_getElem? (i := 150) rfl))) rfl
theorem q1591 : Cond.selects RX12 yX12_restore yX12_restore ∈ lw_good := mg (List.mem_append_right _ (tp_7 (List.mem_of_getElem? (i := 151) rfl))) rfl
theorem q1592 : Cond.code yX12_restore cX12_restore 3 (some .boolean) ∈ lw_good := mg (List.mem_append_right _ (tp_7 (List.mem_of_getElem? (i := 152) rfl))) rfl
theorem q1593 : Cond.methodLink RL 68 yX12_site ∈ lw_good := mg (List.mem_append_right _ (tp_7 (List.mem_of_getElem? (i := 153) rfl))) rfl
theorem q1594 : Cond.instanceMethod yX12_site ∈ lw_good := mg (List.mem_append_right _ (tp_7 (List.mem_of_getElem? (i := 154) rfl))) rfl
theorem q1595 : Cond.selects RX12 yX12_site yX12_site ∈ lw_good := mg (List.mem_append_right _ (tp_7 (List.mem_of_getElem? (i := 155) rfl))) rfl
theorem q1596 : Cond.code yX12_site cX12_site 3 (some .int) ∈ lw_good := mg (List.mem_append_right _ (tp_7 (List.mem_of_getElem? (i := 156) rfl))) rfl
theorem q1597 : Cond.constant RX12 288 (-100000) ∈ lw_good := mg (List.mem_append_right _ (tp_7 (List.mem_of_getElem? (i := 157) rfl))) rfl
theorem q1598 : Cond.methodLink RX12 289 yX12_costOf ∈ lw_good := mg (List.mem_append_right _ (tp_7 (List.mem_of_getElem? (i := 158) rfl))) rfl
theorem q1600 : Cond.instanceMethod yX12_costOf ∈ lw_good := mg (List.mem_append_right _ (tp_7 (List.mem_of_getElem? (i := 160) rfl))) rfl
theorem q1601 : Cond.code yX12_costOf cX12_costOf 3 (some .int) ∈ lw_good := mg (List.mem_append_right _ (tp_7 (List.mem_of_getElem? (i := 161) rfl))) rfl
theorem q1602 : Cond.methodLink RL 72 yX12_level ∈ lw_good := mg (List.mem_append_right _ (tp_7 (List.mem_of_getElem? (i := 162) rfl))) rfl
theorem q1603 : Cond.instanceMethod yX12_level ∈ lw_good := mg (List.mem_append_right _ (tp_7 (List.mem_of_getElem? (i := 163) rfl))) rfl
theorem q1604 : Cond.selects RX12 yX12_level yX12_level ∈ lw_good := mg (List.mem_append_right _ (tp_7 (List.mem_of_getElem? (i := 164) rfl))) rfl
theorem q1605 : Cond.code yX12_level cX12_level 3 (some .int) ∈ lw_good := mg (List.mem_append_right _ (tp_7 (List.mem_of_getElem? (i := 165) rfl))) rfl
theorem q1606 : Cond.methodLink RX12 295 yX12_leastOf ∈ lw_good := mg (List.mem_append_right _ (tp_7 (List.mem_of_getElem? (i := 166) rfl))) rfl
theorem q1608 : Cond.instanceMethod yX12_leastOf ∈ lw_good := mg (List.mem_append_right _ (tp_7 (List.mem_of_getElem? (i := 168) rfl))) rfl
theorem q1609 : Cond.code yX12_leastOf cX12_leastOf 3 (some .int) ∈ lw_good := mg (List.mem_append_right _ (tp_7 (List.mem_of_getElem? (i := 169) rfl))) rfl
theorem q1610 : Cond.methodLink RX12 298 yX12_upsOf ∈ lw_good := mg (List.mem_append_right _ (tp_7 (List.mem_of_getElem? (i := 170) rfl))) rfl
theorem q1612 : Cond.instanceMethod yX12_upsOf ∈ lw_good := mg (List.mem_append_right _ (tp_7 (List.mem_of_getElem? (i := 172) rfl))) rfl
theorem q1613 : Cond.code yX12_upsOf cX12_upsOf 5 (some .int) ∈ lw_good := mg (List.mem_append_right _ (tp_7 (List.mem_of_getElem? (i := 173) rfl))) rfl
theorem q1614 : Cond.methodLink RX12 292 yX12_bitsOf ∈ lw_good := mg (List.mem_append_right _ (tp_7 (List.mem_of_getElem? (i := 174) rfl))) rfl
theorem q1615 : Cond.static yX12_bitsOf ∈ lw_good := mg (List.mem_append_right _ (tp_7 (List.mem_of_getElem? (i := 175) rfl))) rfl
theorem q1616 : Cond.code yX12_bitsOf cX12_bitsOf 3 (some .int) ∈ lw_good := mg (List.mem_append_right _ (tp_7 (List.mem_of_getElem? (i := 176) rfl))) rfl
theorem q1617 : Cond.methodLink RL 76 yX12_both ∈ lw_good := mg (List.mem_append_right _ (tp_7 (List.mem_of_getElem? (i := 177) rfl))) rfl
theorem q1618 : Cond.instanceMethod yX12_both ∈ lw_good := mg (List.mem_append_right _ (tp_7 (List.mem_of_getElem? (i := 178) rfl))) rfl
theorem q1619 : Cond.selects RX12 yX12_both yX12_both ∈ lw_good := mg (List.mem_append_right _ (tp_7 (List.mem_of_getElem? (i := 179) rfl))) rfl
theorem q1620 : Cond.code yX12_both cX12_both 5 (some .int) ∈ lw_good := mg (List.mem_append_right _ (tp_7 (List.mem_of_getElem? (i := 180) rfl))) rfl
theorem q1621 : Cond.methodLink RL 80 yX12_broken ∈ lw_good := mg (List.mem_append_right _ (tp_7 (List.mem_of_getElem? (i := 181) rfl))) rfl
theorem q1622 : Cond.instanceMethod yX12_broken ∈ lw_good := mg (List.mem_append_right _ (tp_7 (List.mem_of_getElem? (i := 182) rfl))) rfl
theorem q1623 : Cond.selects RX12 yX12_broken yX12_broken ∈ lw_good := mg (List.mem_append_right _ (tp_7 (List.mem_of_getElem? (i := 183) rfl))) rfl
theorem q1624 : Cond.code yX12_broken cX12_broken 4 (some .int) ∈ lw_good := mg (List.mem_append_right _ (tp_7 (List.mem_of_getElem? (i := 184) rfl))) rfl
theorem q1625 : Cond.methodLink RX12 305 yX12_brokenOf ∈ lw_good := mg (List.mem_append_right _ (tp_7 (List.mem_of_getElem? (i := 185) rfl))) rfl
theorem q1627 : Cond.instanceMethod yX12_brokenOf ∈ lw_good := mg (List.mem_append_right _ (tp_7 (List.mem_of_getElem? (i := 187) rfl))) rfl
theorem q1628 : Cond.code yX12_brokenOf cX12_brokenOf 8 (some .int) ∈ lw_good := mg (List.mem_append_right _ (tp_7 (List.mem_of_getElem? (i := 188) rfl))) rfl
theorem q1629 : Cond.methodLink RX12 301 yX12_has ∈ lw_good := mg (List.mem_append_right _ (tp_7 (List.mem_of_getElem? (i := 189) rfl))) rfl
theorem q1630 : Cond.static yX12_has ∈ lw_good := mg (List.mem_append_right _ (tp_7 (List.mem_of_getElem? (i := 190) rfl))) rfl
theorem q1631 : Cond.code yX12_has cX12_has 2 (some .boolean) ∈ lw_good := mg (List.mem_append_right _ (tp_7 (List.mem_of_getElem? (i := 191) rfl))) rfl
theorem q1632 : Cond.methodLink RL 84 yX12_ground ∈ lw_good := mg (List.mem_append_right _ (tp_7 (List.mem_of_getElem? (i := 192) rfl))) rfl
theorem q1633 : Cond.instanceMethod yX12_ground ∈ lw_good := mg (List.mem_append_right _ (tp_7 (List.mem_of_getElem? (i := 193) rfl))) rfl
theorem q1634 : Cond.selects RX12 yX12_ground yX12_ground ∈ lw_good := mg (List.mem_append_right _ (tp_7 (List.mem_of_getElem? (i := 194) rfl))) rfl
theorem q1635 : Cond.code yX12_ground cX12_ground 2 (some .int) ∈ lw_good := mg (List.mem_append_right _ (tp_7 (List.mem_of_getElem? (i := 195) rfl))) rfl
theorem q1636 : Cond.methodLink RL 89 yX12_pair ∈ lw_good := mg (List.mem_append_right _ (tp_7 (List.mem_of_getElem? (i := 196) rfl))) rfl
theorem q1637 : Cond.instanceMethod yX12_pair ∈ lw_good := mg (List.mem_append_right _ (tp_7 (List.mem_of_getElem? (i := 197) rfl))) rfl
theorem q1638 : Cond.selects RX12 yX12_pair yX12_pair ∈ lw_good := mg (List.mem_append_right _ (tp_7 (List.mem_of_getElem? (i := 198) rfl))) rfl
theorem q1639 : Cond.code yX12_pair cX12_pair 7 (some .int) ∈ lw_good := mg (List.mem_append_right _ (tp_7 (List.mem_of_getElem? (i := 199) rfl))) rfl
theorem q1640 : Cond.methodLink RX12 308 yX12_part ∈ lw_good := mg (List.mem_append_right _ (tp_7 (List.mem_of_getElem? (i := 200) rfl))) rfl
theorem q1641 : Cond.static yX12_part ∈ lw_good := mg (List.mem_append_right _ (tp_7 (List.mem_of_getElem? (i := 201) rfl))) rfl
theorem q1642 : Cond.code yX12_part cX12_part 6 (some .int) ∈ lw_good := mg (List.mem_append_right _ (tp_7 (List.mem_of_getElem? (i := 202) rfl))) rfl
theorem q1643 : Cond.methodLink RL 93 yX12_mean ∈ lw_good := mg (List.mem_append_right _ (tp_7 (List.mem_of_getElem? (i := 203) rfl))) rfl
theorem q1644 : Cond.instanceMethod yX12_mean ∈ lw_good := mg (List.mem_append_right _ (tp_7 (List.mem_of_getElem? (i := 204) rfl))) rfl
theorem q1645 : Cond.selects RX12 yX12_mean yX12_mean ∈ lw_good := mg (List.mem_append_right _ (tp_7 (List.mem_of_getElem? (i := 205) rfl))) rfl
theorem q1646 : Cond.code yX12_mean cX12_mean 5 (some .int) ∈ lw_good := mg (List.mem_append_right _ (tp_7 (List.mem_of_getElem? (i := 206) rfl))) rfl
theorem q1647 : Cond.methodLink RL 97 yX12_value ∈ lw_good := mg (List.mem_append_right _ (tp_7 (List.mem_of_getElem? (i := 207) rfl))) rfl
theorem q1648 : Cond.instanceMethod yX12_value ∈ lw_good := mg (List.mem_append_right _ (tp_7 (List.mem_of_getElem? (i := 208) rfl))) rfl
theorem q1649 : Cond.selects RX12 yX12_value yX12_value ∈ lw_good := mg (List.mem_append_right _ (tp_7 (List.mem_of_getElem? (i := 209) rfl))) rfl
theorem q1650 : Cond.code yX12_value cX12_value 8 (some .int) ∈ lw_good := mg (List.mem_append_right _ (tp_7 (List.mem_of_getElem? (i := 210) rfl))) rfl
theorem q1651 : Cond.constant RX12 312 (1000002) ∈ lw_good := mg (List.mem_append_right _ (tp_7 (List.mem_of_getElem? (i := 211) rfl))) rfl
theorem q1652 : Cond.constantLong RX12 313 (1000003) ∈ lw_good := mg (List.mem_append_right _ (tp_7 (List.mem_of_getElem? (i := 212) rfl))) rfl
theorem q1653 : Cond.methodLink RL 102 yX12_joined ∈ lw_good := mg (List.mem_append_right _ (tp_7 (List.mem_of_getElem? (i := 213) rfl))) rfl
theorem q1654 : Cond.instanceMethod yX12_joined ∈ lw_good := mg (List.mem_append_right _ (tp_7 (List.mem_of_getElem? (i := 214) rfl))) rfl
theorem q1655 : Cond.selects RX12 yX12_joined yX12_joined ∈ lw_good := mg (List.mem_append_right _ (tp_7 (List.mem_of_getElem? (i := 215) rfl))) rfl
theorem q1656 : Cond.code yX12_joined cX12_joined 6 (some .long) ∈ lw_good := mg (List.mem_append_right _ (tp_7 (List.mem_of_getElem? (i := 216) rfl))) rfl
theorem q1657 : Cond.constantLong RX12 315 (-100000) ∈ lw_good := mg (List.mem_append_right _ (tp_7 (List.mem_of_getElem? (i := 217) rfl))) rfl
theorem q1658 : Cond.methodLink RX12 317 yX12_laysMany ∈ lw_good := mg (List.mem_append_right _ (tp_7 (List.mem_of_getElem? (i := 218) rfl))) rfl
theorem q1660 : Cond.instanceMethod yX12_laysMany ∈ lw_good := mg (List.mem_append_right _ (tp_7 (List.mem_of_getElem? (i := 220) rfl))) rfl
theorem q1661 : Cond.code yX12_laysMany cX12_laysMany 4 none ∈ lw_good := mg (List.mem_append_right _ (tp_7 (List.mem_of_getElem? (i := 221) rfl))) rfl
theorem q1662 : Cond.methodLink RL 106 yX12_state ∈ lw_good := mg (List.mem_append_right _ (tp_7 (List.mem_of_getElem? (i := 222) rfl))) rfl
theorem q1663 : Cond.instanceMethod yX12_state ∈ lw_good := mg (List.mem_append_right _ (tp_7 (List.mem_of_getElem? (i := 223) rfl))) rfl
theorem q1664 : Cond.selects RX12 yX12_state yX12_state ∈ lw_good := mg (List.mem_append_right _ (tp_7 (List.mem_of_getElem? (i := 224) rfl))) rfl
theorem q1665 : Cond.code yX12_state cX12_state 3 (some .int) ∈ lw_good := mg (List.mem_append_right _ (tp_7 (List.mem_of_getElem? (i := 225) rfl))) rfl
theorem q1666 : Cond.methodLink RX12 324 yX12_levelOf ∈ lw_good := mg (List.mem_append_right _ (tp_7 (List.mem_of_getElem? (i := 226) rfl))) rfl
theorem q1668 : Cond.instanceMethod yX12_levelOf ∈ lw_good := mg (List.mem_append_right _ (tp_7 (List.mem_of_getElem? (i := 228) rfl))) rfl
theorem q1669 : Cond.code yX12_levelOf cX12_levelOf 3 (some .int) ∈ lw_good := mg (List.mem_append_right _ (tp_7 (List.mem_of_getElem? (i := 229) rfl))) rfl
theorem q1670 : Cond.methodLink RL 111 yX12_stuck ∈ lw_good := mg (List.mem_append_right _ (tp_7 (List.mem_of_getElem? (i := 230) rfl))) rfl
theorem q1671 : Cond.instanceMethod yX12_stuck ∈ lw_good := mg (List.mem_append_right _ (tp_7 (List.mem_of_getElem? (i := 231) rfl))) rfl
theorem q1672 : Cond.selects RX12 yX12_stuck yX12_stuck ∈ lw_good := mg (List.mem_append_right _ (tp_7 (List.mem_of_getElem? (i := 232) rfl))) rfl
theorem q1673 : Cond.code yX12_stuck cX12_stuck 4 (some .int) ∈ lw_good := mg (List.mem_append_right _ (tp_7 (List.mem_of_getElem? (i := 233) rfl))) rfl
theorem q1674 : Cond.methodLink RL 128 yX12_basin ∈ lw_good := mg (List.mem_append_right _ (tp_7 (List.mem_of_getElem? (i := 234) rfl))) rfl
theorem q1675 : Cond.instanceMethod yX12_basin ∈ lw_good := mg (List.mem_append_right _ (tp_7 (List.mem_of_getElem? (i := 235) rfl))) rfl
theorem q1676 : Cond.selects RX12 yX12_basin yX12_basin ∈ lw_good := mg (List.mem_append_right _ (tp_7 (List.mem_of_getElem? (i := 236) rfl))) rfl
theorem q1677 : Cond.code yX12_basin cX12_basin 4 (some .int) ∈ lw_good := mg (List.mem_append_right _ (tp_7 (List.mem_of_getElem? (i := 237) rfl))) rfl
theorem q1678 : Cond.methodLink RL 136 yX12_hill ∈ lw_good := mg (List.mem_append_right _ (tp_7 (List.mem_of_getElem? (i := 238) rfl))) rfl
theorem q1679 : Cond.instanceMethod yX12_hill ∈ lw_good := mg (List.mem_append_right _ (tp_7 (List.mem_of_getElem? (i := 239) rfl))) rfl
theorem q1680 : Cond.selects RX12 yX12_hill yX12_hill ∈ lw_good := mg (List.mem_append_right _ (tp_8 (List.mem_of_getElem? (i := 0) rfl))) rfl
theorem q1681 : Cond.code yX12_hill cX12_hill 3 (some .int) ∈ lw_good := mg (List.mem_append_right _ (tp_8 (List.mem_of_getElem? (i := 1) rfl))) rfl
theorem q1682 : Cond.methodLink RX12 327 yX12_laysHills ∈ lw_good := mg (List.mem_append_right _ (tp_8 (List.mem_of_getElem? (i := 2) rfl))) rfl
theorem q1684 : Cond.instanceMethod yX12_laysHills ∈ lw_good := mg (List.mem_append_right _ (tp_8 (List.mem_of_getElem? (i := 4) rfl))) rfl
theorem q1685 : Cond.code yX12_laysHills cX12_laysHills 5 none ∈ lw_good := mg (List.mem_append_right _ (tp_8 (List.mem_of_getElem? (i := 5) rfl))) rfl
theorem q1686 : Cond.methodLink RL 140 yX12_pass ∈ lw_good := mg (List.mem_append_right _ (tp_8 (List.mem_of_getElem? (i := 6) rfl))) rfl
theorem q1687 : Cond.instanceMethod yX12_pass ∈ lw_good := mg (List.mem_append_right _ (tp_8 (List.mem_of_getElem? (i := 7) rfl))) rfl
theorem q1688 : Cond.selects RX12 yX12_pass yX12_pass ∈ lw_good := mg (List.mem_append_right _ (tp_8 (List.mem_of_getElem? (i := 8) rfl))) rfl
theorem q1689 : Cond.code yX12_pass cX12_pass 4 (some .int) ∈ lw_good := mg (List.mem_append_right _ (tp_8 (List.mem_of_getElem? (i := 9) rfl))) rfl
theorem q1690 : Cond.methodLink RL 144 yX12_lakes ∈ lw_good := mg (List.mem_append_right _ (tp_8 (List.mem_of_getElem? (i := 10) rfl))) rfl
theorem q1691 : Cond.instanceMethod yX12_lakes ∈ lw_good := mg (List.mem_append_right _ (tp_8 (List.mem_of_getElem? (i := 11) rfl))) rfl
theorem q1692 : Cond.selects RX12 yX12_lakes yX12_lakes ∈ lw_good := mg (List.mem_append_right _ (tp_8 (List.mem_of_getElem? (i := 12) rfl))) rfl
theorem q1693 : Cond.code yX12_lakes cX12_lakes 8 (some .int) ∈ lw_good := mg (List.mem_append_right _ (tp_8 (List.mem_of_getElem? (i := 13) rfl))) rfl
theorem q1694 : Cond.methodLink RL 149 yX12_down ∈ lw_good := mg (List.mem_append_right _ (tp_8 (List.mem_of_getElem? (i := 14) rfl))) rfl
theorem q1695 : Cond.instanceMethod yX12_down ∈ lw_good := mg (List.mem_append_right _ (tp_8 (List.mem_of_getElem? (i := 15) rfl))) rfl
theorem q1696 : Cond.selects RX12 yX12_down yX12_down ∈ lw_good := mg (List.mem_append_right _ (tp_8 (List.mem_of_getElem? (i := 16) rfl))) rfl
theorem q1697 : Cond.code yX12_down cX12_down 5 (some .long) ∈ lw_good := mg (List.mem_append_right _ (tp_8 (List.mem_of_getElem? (i := 17) rfl))) rfl
theorem q1698 : Cond.methodLink RL 153 yX12_nearest ∈ lw_good := mg (List.mem_append_right _ (tp_8 (List.mem_of_getElem? (i := 18) rfl))) rfl
theorem q1699 : Cond.instanceMethod yX12_nearest ∈ lw_good := mg (List.mem_append_right _ (tp_8 (List.mem_of_getElem? (i := 19) rfl))) rfl
theorem q1700 : Cond.selects RX12 yX12_nearest yX12_nearest ∈ lw_good := mg (List.mem_append_right _ (tp_8 (List.mem_of_getElem? (i := 20) rfl))) rfl
theorem q1701 : Cond.code yX12_nearest cX12_nearest 5 (some .int) ∈ lw_good := mg (List.mem_append_right _ (tp_8 (List.mem_of_getElem? (i := 21) rfl))) rfl
theorem q1702 : Cond.methodLink RL 132 yX12_stiff ∈ lw_good := mg (List.mem_append_right _ (tp_8 (List.mem_of_getElem? (i := 22) rfl))) rfl
theorem q1703 : Cond.instanceMethod yX12_stiff ∈ lw_good := mg (List.mem_append_right _ (tp_8 (List.mem_of_getElem? (i := 23) rfl))) rfl
theorem q1704 : Cond.selects RX12 yX12_stiff yX12_stiff ∈ lw_good := mg (List.mem_append_right _ (tp_8 (List.mem_of_getElem? (i := 24) rfl))) rfl
theorem q1705 : Cond.code yX12_stiff cX12_stiff 6 (some .int) ∈ lw_good := mg (List.mem_append_right _ (tp_8 (List.mem_of_getElem? (i := 25) rfl))) rfl
theorem q1706 : Cond.methodLink RL 124 yX12_overlap ∈ lw_good := mg (List.mem_append_right _ (tp_8 (List.mem_of_getElem? (i := 26) rfl))) rfl
theorem q1707 : Cond.instanceMethod yX12_overlap ∈ lw_good := mg (List.mem_append_right _ (tp_8 (List.mem_of_getElem? (i := 27) rfl))) rfl
theorem q1708 : Cond.selects RX12 yX12_overlap yX12_overlap ∈ lw_good := mg (List.mem_append_right _ (tp_8 (List.mem_of_getElem? (i := 28) rfl))) rfl
theorem q1709 : Cond.code yX12_overlap cX12_overlap 6 (some .int) ∈ lw_good := mg (List.mem_append_right _ (tp_8 (List.mem_of_getElem? (i := 29) rfl))) rfl
theorem q1710 : Cond.methodLink RL 116 yX12_rows ∈ lw_good := mg (List.mem_append_right _ (tp_8 (List.mem_of_getElem? (i := 30) rfl))) rfl
theorem q1711 : Cond.instanceMethod yX12_rows ∈ lw_good := mg (List.mem_append_right _ (tp_8 (List.mem_of_getElem? (i := 31) rfl))) rfl
theorem q1712 : Cond.selects RX12 yX12_rows yX12_rows ∈ lw_good := mg (List.mem_append_right _ (tp_8 (List.mem_of_getElem? (i := 32) rfl))) rfl
theorem q1713 : Cond.code yX12_rows cX12_rows 8 (some .int) ∈ lw_good := mg (List.mem_append_right _ (tp_8 (List.mem_of_getElem? (i := 33) rfl))) rfl
theorem q1714 : Cond.methodLink RL 120 yX12_square ∈ lw_good := mg (List.mem_append_right _ (tp_8 (List.mem_of_getElem? (i := 34) rfl))) rfl
theorem q1715 : Cond.instanceMethod yX12_square ∈ lw_good := mg (List.mem_append_right _ (tp_8 (List.mem_of_getElem? (i := 35) rfl))) rfl
theorem q1716 : Cond.selects RX12 yX12_square yX12_square ∈ lw_good := mg (List.mem_append_right _ (tp_8 (List.mem_of_getElem? (i := 36) rfl))) rfl
theorem q1717 : Cond.code yX12_square cX12_square 2 (some .int) ∈ lw_good := mg (List.mem_append_right _ (tp_8 (List.mem_of_getElem? (i := 37) rfl))) rfl
theorem q1718 : Cond.methodLink RX12 330 yX12_oddOf ∈ lw_good := mg (List.mem_append_right _ (tp_8 (List.mem_of_getElem? (i := 38) rfl))) rfl
theorem q1720 : Cond.instanceMethod yX12_oddOf ∈ lw_good := mg (List.mem_append_right _ (tp_8 (List.mem_of_getElem? (i := 40) rfl))) rfl
theorem q1721 : Cond.code yX12_oddOf cX12_oddOf 5 (some .int) ∈ lw_good := mg (List.mem_append_right _ (tp_8 (List.mem_of_getElem? (i := 41) rfl))) rfl
theorem q1722 : Cond.methodLink RL 157 yX12_cluster ∈ lw_good := mg (List.mem_append_right _ (tp_8 (List.mem_of_getElem? (i := 42) rfl))) rfl
theorem q1723 : Cond.instanceMethod yX12_cluster ∈ lw_good := mg (List.mem_append_right _ (tp_8 (List.mem_of_getElem? (i := 43) rfl))) rfl
theorem q1724 : Cond.selects RX12 yX12_cluster yX12_cluster ∈ lw_good := mg (List.mem_append_right _ (tp_8 (List.mem_of_getElem? (i := 44) rfl))) rfl
theorem q1725 : Cond.code yX12_cluster cX12_cluster 2 (some .int) ∈ lw_good := mg (List.mem_append_right _ (tp_8 (List.mem_of_getElem? (i := 45) rfl))) rfl
theorem q1726 : Cond.methodLink RX12 333 yX12_clusterOf ∈ lw_good := mg (List.mem_append_right _ (tp_8 (List.mem_of_getElem? (i := 46) rfl))) rfl
theorem q1728 : Cond.instanceMethod yX12_clusterOf ∈ lw_good := mg (List.mem_append_right _ (tp_8 (List.mem_of_getElem? (i := 48) rfl))) rfl
theorem q1729 : Cond.code yX12_clusterOf cX12_clusterOf 7 (some .int) ∈ lw_good := mg (List.mem_append_right _ (tp_8 (List.mem_of_getElem? (i := 49) rfl))) rfl
theorem q1730 : Cond.methodLink RL 161 yX12_wander ∈ lw_good := mg (List.mem_append_right _ (tp_8 (List.mem_of_getElem? (i := 50) rfl))) rfl
theorem q1731 : Cond.instanceMethod yX12_wander ∈ lw_good := mg (List.mem_append_right _ (tp_8 (List.mem_of_getElem? (i := 51) rfl))) rfl
theorem q1732 : Cond.selects RX12 yX12_wander yX12_wander ∈ lw_good := mg (List.mem_append_right _ (tp_8 (List.mem_of_getElem? (i := 52) rfl))) rfl
theorem q1733 : Cond.code yX12_wander cX12_wander 12 (some .int) ∈ lw_good := mg (List.mem_append_right _ (tp_8 (List.mem_of_getElem? (i := 53) rfl))) rfl
theorem q1734 : Cond.constantLong RX12 336 (100) ∈ lw_good := mg (List.mem_append_right _ (tp_8 (List.mem_of_getElem? (i := 54) rfl))) rfl
theorem q1735 : Cond.methodLink RL 173 yX12_count ∈ lw_good := mg (List.mem_append_right _ (tp_8 (List.mem_of_getElem? (i := 55) rfl))) rfl
theorem q1736 : Cond.instanceMethod yX12_count ∈ lw_good := mg (List.mem_append_right _ (tp_8 (List.mem_of_getElem? (i := 56) rfl))) rfl
theorem q1737 : Cond.selects RX12 yX12_count yX12_count ∈ lw_good := mg (List.mem_append_right _ (tp_8 (List.mem_of_getElem? (i := 57) rfl))) rfl
theorem q1738 : Cond.code yX12_count cX12_count 2 (some .int) ∈ lw_good := mg (List.mem_append_right _ (tp_8 (List.mem_of_getElem? (i := 58) rfl))) rfl
theorem q1739 : Cond.methodLink RX12 338 yX12_lawfulMany ∈ lw_good := mg (List.mem_append_right _ (tp_8 (List.mem_of_getElem? (i := 59) rfl))) rfl
theorem q1741 : Cond.instanceMethod yX12_lawfulMany ∈ lw_good := mg (List.mem_append_right _ (tp_8 (List.mem_of_getElem? (i := 61) rfl))) rfl
theorem q1742 : Cond.code yX12_lawfulMany cX12_lawfulMany 3 (some .int) ∈ lw_good := mg (List.mem_append_right _ (tp_8 (List.mem_of_getElem? (i := 62) rfl))) rfl
theorem q1743 : Cond.methodLink RX12 341 yX12_pinned ∈ lw_good := mg (List.mem_append_right _ (tp_8 (List.mem_of_getElem? (i := 63) rfl))) rfl
theorem q1745 : Cond.instanceMethod yX12_pinned ∈ lw_good := mg (List.mem_append_right _ (tp_8 (List.mem_of_getElem? (i := 65) rfl))) rfl
theorem q1746 : Cond.code yX12_pinned cX12_pinned 3 (some .int) ∈ lw_good := mg (List.mem_append_right _ (tp_8 (List.mem_of_getElem? (i := 66) rfl))) rfl
theorem q1747 : Cond.methodLink RX12 344 yX12_ties ∈ lw_good := mg (List.mem_append_right _ (tp_8 (List.mem_of_getElem? (i := 67) rfl))) rfl
theorem q1749 : Cond.instanceMethod yX12_ties ∈ lw_good := mg (List.mem_append_right _ (tp_8 (List.mem_of_getElem? (i := 69) rfl))) rfl
theorem q1750 : Cond.code yX12_ties cX12_ties 3 (some .int) ∈ lw_good := mg (List.mem_append_right _ (tp_8 (List.mem_of_getElem? (i := 70) rfl))) rfl
theorem q1751 : Cond.methodLink RX12 347 yX12_clusters ∈ lw_good := mg (List.mem_append_right _ (tp_8 (List.mem_of_getElem? (i := 71) rfl))) rfl
theorem q1753 : Cond.instanceMethod yX12_clusters ∈ lw_good := mg (List.mem_append_right _ (tp_8 (List.mem_of_getElem? (i := 73) rfl))) rfl
theorem q1754 : Cond.code yX12_clusters cX12_clusters 3 (some .int) ∈ lw_good := mg (List.mem_append_right _ (tp_8 (List.mem_of_getElem? (i := 74) rfl))) rfl
theorem q1755 : Cond.methodLink RX12 350 yX12_greatest ∈ lw_good := mg (List.mem_append_right _ (tp_8 (List.mem_of_getElem? (i := 75) rfl))) rfl
theorem q1757 : Cond.instanceMethod yX12_greatest ∈ lw_good := mg (List.mem_append_right _ (tp_8 (List.mem_of_getElem? (i := 77) rfl))) rfl
theorem q1758 : Cond.code yX12_greatest cX12_greatest 3 (some .int) ∈ lw_good := mg (List.mem_append_right _ (tp_8 (List.mem_of_getElem? (i := 78) rfl))) rfl
theorem q1759 : Cond.methodLink RX12 353 yX12_fewestBroken ∈ lw_good := mg (List.mem_append_right _ (tp_8 (List.mem_of_getElem? (i := 79) rfl))) rfl
theorem q1761 : Cond.instanceMethod yX12_fewestBroken ∈ lw_good := mg (List.mem_append_right _ (tp_8 (List.mem_of_getElem? (i := 81) rfl))) rfl
theorem q1762 : Cond.code yX12_fewestBroken cX12_fewestBroken 4 (some .int) ∈ lw_good := mg (List.mem_append_right _ (tp_8 (List.mem_of_getElem? (i := 82) rfl))) rfl
theorem q1763 : Cond.methodLink RX12 356 yX12_odds ∈ lw_good := mg (List.mem_append_right _ (tp_8 (List.mem_of_getElem? (i := 83) rfl))) rfl
theorem q1765 : Cond.instanceMethod yX12_odds ∈ lw_good := mg (List.mem_append_right _ (tp_8 (List.mem_of_getElem? (i := 85) rfl))) rfl
theorem q1766 : Cond.code yX12_odds cX12_odds 3 (some .int) ∈ lw_good := mg (List.mem_append_right _ (tp_8 (List.mem_of_getElem? (i := 86) rfl))) rfl
theorem q1767 : Cond.fieldLink RJ0 9 "java/lang/String" "value" "[B" ∈ lw_good := mg (List.mem_append_right _ (tp_8 (List.mem_of_getElem? (i := 87) rfl))) rfl
theorem q1768 : Cond.fieldLink RJ0 15 "java/lang/String" "coder" "B" ∈ lw_good := mg (List.mem_append_right _ (tp_8 (List.mem_of_getElem? (i := 88) rfl))) rfl
theorem qp0 : Cond.selects RX8 yX8_addWord yX8_addWord ∈ lw_good := mg (List.mem_append_left _ (List.mem_of_getElem? (i := 0) (by decide +kernel))) (by decide +kernel)
theorem qp1 : Cond.selects RX1 yX1_build yX1_build ∈ lw_good := mg (List.mem_append_left _ (List.mem_of_getElem? (i := 1) (by decide +kernel))) (by decide +kernel)
theorem qp2 : Cond.selects RX1 yX1_begin yX1_begin ∈ lw_good := mg (List.mem_append_left _ (List.mem_of_getElem? (i := 2) (by decide +kernel))) (by decide +kernel)
theorem qp3 : Cond.selects RX6 yX6_clear yX6_clear ∈ lw_good := mg (List.mem_append_left _ (List.mem_of_getElem? (i := 3) (by decide +kernel))) (by decide +kernel)
theorem qp4 : Cond.selects RX8 yX8_cut yX8_cut ∈ lw_good := mg (List.mem_append_left _ (List.mem_of_getElem? (i := 4) (by decide +kernel))) (by decide +kernel)
theorem qp5 : Cond.selects RX8 yX8_findToken yX8_findToken ∈ lw_good := mg (List.mem_append_left _ (List.mem_of_getElem? (i := 5) (by decide +kernel))) (by decide +kernel)
theorem qp6 : Cond.selects RX8 yX8_byteAt yX8_byteAt ∈ lw_good := mg (List.mem_append_left _ (List.mem_of_getElem? (i := 6) (by decide +kernel))) (by decide +kernel)
theorem qp7 : Cond.selects RX8 yX8_skipLetters yX8_skipLetters ∈ lw_good := mg (List.mem_append_left _ (List.mem_of_getElem? (i := 7) (by decide +kernel))) (by decide +kernel)
theorem qp8 : Cond.selects RX8 yX8_wordKind yX8_wordKind ∈ lw_good := mg (List.mem_append_left _ (List.mem_of_getElem? (i := 8) (by decide +kernel))) (by decide +kernel)
theorem qp9 : Cond.selects RX8 yX8_spells yX8_spells ∈ lw_good := mg (List.mem_append_left _ (List.mem_of_getElem? (i := 9) (by decide +kernel))) (by decide +kernel)
theorem qp10 : Cond.selects RX8 yX8_findInt yX8_findInt ∈ lw_good := mg (List.mem_append_left _ (List.mem_of_getElem? (i := 10) (by decide +kernel))) (by decide +kernel)
theorem qp11 : Cond.selects RX8 yX8_keepToken yX8_keepToken ∈ lw_good := mg (List.mem_append_left _ (List.mem_of_getElem? (i := 11) (by decide +kernel))) (by decide +kernel)
theorem qp12 : Cond.selects RX1 yX1_blame yX1_blame ∈ lw_good := mg (List.mem_append_left _ (List.mem_of_getElem? (i := 12) (by decide +kernel))) (by decide +kernel)
theorem qp13 : Cond.selects RX1 yX1_takeSize yX1_takeSize ∈ lw_good := mg (List.mem_append_left _ (List.mem_of_getElem? (i := 13) (by decide +kernel))) (by decide +kernel)
theorem qp14 : Cond.selects RX1 yX1_takeKind yX1_takeKind ∈ lw_good := mg (List.mem_append_left _ (List.mem_of_getElem? (i := 14) (by decide +kernel))) (by decide +kernel)
theorem qp15 : Cond.selects RX8 yX8_kindAt yX8_kindAt ∈ lw_good := mg (List.mem_append_left _ (List.mem_of_getElem? (i := 15) (by decide +kernel))) (by decide +kernel)
theorem qp16 : Cond.selects RX1 yX1_takeInt yX1_takeInt ∈ lw_good := mg (List.mem_append_left _ (List.mem_of_getElem? (i := 16) (by decide +kernel))) (by decide +kernel)
theorem qp17 : Cond.selects RX8 yX8_numberAt yX8_numberAt ∈ lw_good := mg (List.mem_append_left _ (List.mem_of_getElem? (i := 17) (by decide +kernel))) (by decide +kernel)
theorem qp18 : Cond.selects RX8 yX8_placeAt yX8_placeAt ∈ lw_good := mg (List.mem_append_left _ (List.mem_of_getElem? (i := 18) (by decide +kernel))) (by decide +kernel)
theorem qp19 : Cond.selects RX1 yX1_seeRings yX1_seeRings ∈ lw_good := mg (List.mem_append_left _ (List.mem_of_getElem? (i := 19) (by decide +kernel))) (by decide +kernel)
theorem qp20 : Cond.selects RX1 yX1_takeTell yX1_takeTell ∈ lw_good := mg (List.mem_append_left _ (List.mem_of_getElem? (i := 20) (by decide +kernel))) (by decide +kernel)
theorem qp21 : Cond.selects RX1 yX1_takeJ yX1_takeJ ∈ lw_good := mg (List.mem_append_left _ (List.mem_of_getElem? (i := 21) (by decide +kernel))) (by decide +kernel)
theorem qp22 : Cond.selects RX1 yX1_takeTie yX1_takeTie ∈ lw_good := mg (List.mem_append_left _ (List.mem_of_getElem? (i := 22) (by decide +kernel))) (by decide +kernel)
theorem qp23 : Cond.selects RX1 yX1_takeSite yX1_takeSite ∈ lw_good := mg (List.mem_append_left _ (List.mem_of_getElem? (i := 23) (by decide +kernel))) (by decide +kernel)
theorem qp24 : Cond.selects RX6 yX6_setBond yX6_setBond ∈ lw_good := mg (List.mem_append_left _ (List.mem_of_getElem? (i := 24) (by decide +kernel))) (by decide +kernel)
theorem qp25 : Cond.selects RX1 yX1_takePull yX1_takePull ∈ lw_good := mg (List.mem_append_left _ (List.mem_of_getElem? (i := 25) (by decide +kernel))) (by decide +kernel)
theorem qp26 : Cond.selects RX6 yX6_setField yX6_setField ∈ lw_good := mg (List.mem_append_left _ (List.mem_of_getElem? (i := 26) (by decide +kernel))) (by decide +kernel)
theorem qp27 : Cond.selects RX1 yX1_takePin yX1_takePin ∈ lw_good := mg (List.mem_append_left _ (List.mem_of_getElem? (i := 27) (by decide +kernel))) (by decide +kernel)
theorem qp28 : Cond.selects RX6 yX6_setPin yX6_setPin ∈ lw_good := mg (List.mem_append_left _ (List.mem_of_getElem? (i := 28) (by decide +kernel))) (by decide +kernel)
theorem qp29 : Cond.selects RX1 yX1_giveUntold yX1_giveUntold ∈ lw_good := mg (List.mem_append_left _ (List.mem_of_getElem? (i := 29) (by decide +kernel))) (by decide +kernel)
theorem qp30 : Cond.selects RX11 yX11_beginAnew yX11_beginAnew ∈ lw_good := mg (List.mem_append_left _ (List.mem_of_getElem? (i := 30) (by decide +kernel))) (by decide +kernel)
theorem qp31 : Cond.selects RX3 yX3_lay yX3_lay ∈ lw_good := mg (List.mem_append_left _ (List.mem_of_getElem? (i := 31) (by decide +kernel))) (by decide +kernel)
theorem qp32 : Cond.selects RX3 yX3_addMate yX3_addMate ∈ lw_good := mg (List.mem_append_left _ (List.mem_of_getElem? (i := 32) (by decide +kernel))) (by decide +kernel)
theorem qp33 : Cond.selects RX6 yX6_copyFrom yX6_copyFrom ∈ lw_good := mg (List.mem_append_left _ (List.mem_of_getElem? (i := 33) (by decide +kernel))) (by decide +kernel)
theorem qp34 : Cond.selects RX5 yX5_forget yX5_forget ∈ lw_good := mg (List.mem_append_left _ (List.mem_of_getElem? (i := 34) (by decide +kernel))) (by decide +kernel)
theorem qp35 : Cond.selects RX11 yX11_stampTies yX11_stampTies ∈ lw_good := mg (List.mem_append_left _ (List.mem_of_getElem? (i := 35) (by decide +kernel))) (by decide +kernel)
theorem qp36 : Cond.selects RX3 yX3_tiePlace yX3_tiePlace ∈ lw_good := mg (List.mem_append_left _ (List.mem_of_getElem? (i := 36) (by decide +kernel))) (by decide +kernel)
theorem qp37 : Cond.selects RX3 yX3_hasSite yX3_hasSite ∈ lw_good := mg (List.mem_append_left _ (List.mem_of_getElem? (i := 37) (by decide +kernel))) (by decide +kernel)
theorem qp38 : Cond.selects RX3 yX3_endAt yX3_endAt ∈ lw_good := mg (List.mem_append_left _ (List.mem_of_getElem? (i := 38) (by decide +kernel))) (by decide +kernel)
theorem qp39 : Cond.selects RX6 yX6_bondAt yX6_bondAt ∈ lw_good := mg (List.mem_append_left _ (List.mem_of_getElem? (i := 39) (by decide +kernel))) (by decide +kernel)
theorem qp40 : Cond.selects RX5 yX5_keep yX5_keep ∈ lw_good := mg (List.mem_append_left _ (List.mem_of_getElem? (i := 40) (by decide +kernel))) (by decide +kernel)
theorem qp41 : Cond.selects RX6 yX6_fieldAt yX6_fieldAt ∈ lw_good := mg (List.mem_append_left _ (List.mem_of_getElem? (i := 41) (by decide +kernel))) (by decide +kernel)
theorem qp42 : Cond.selects RX6 yX6_pinAt yX6_pinAt ∈ lw_good := mg (List.mem_append_left _ (List.mem_of_getElem? (i := 42) (by decide +kernel))) (by decide +kernel)
theorem qp43 : Cond.selects RX6 yX6_isPinned yX6_isPinned ∈ lw_good := mg (List.mem_append_left _ (List.mem_of_getElem? (i := 43) (by decide +kernel))) (by decide +kernel)
theorem qp44 : Cond.selects RX11 yX11_stampPins yX11_stampPins ∈ lw_good := mg (List.mem_append_left _ (List.mem_of_getElem? (i := 44) (by decide +kernel))) (by decide +kernel)
theorem qp45 : Cond.selects RX10 yX10_fallFrom yX10_fallFrom ∈ lw_good := mg (List.mem_append_left _ (List.mem_of_getElem? (i := 45) (by decide +kernel))) (by decide +kernel)
theorem qp46 : Cond.selects RX3 yX3_steepest yX3_steepest ∈ lw_good := mg (List.mem_append_left _ (List.mem_of_getElem? (i := 46) (by decide +kernel))) (by decide +kernel)
theorem qp47 : Cond.selects RX3 yX3_costOfTurn yX3_costOfTurn ∈ lw_good := mg (List.mem_append_left _ (List.mem_of_getElem? (i := 47) (by decide +kernel))) (by decide +kernel)
theorem qp48 : Cond.selects RX5 yX5_giveBack yX5_giveBack ∈ lw_good := mg (List.mem_append_left _ (List.mem_of_getElem? (i := 48) (by decide +kernel))) (by decide +kernel)
theorem qp49 : Cond.selects RX3 yX3_rowOf yX3_rowOf ∈ lw_good := mg (List.mem_append_left _ (List.mem_of_getElem? (i := 49) (by decide +kernel))) (by decide +kernel)
theorem qp50 : Cond.selects RX3 yX3_columnOf yX3_columnOf ∈ lw_good := mg (List.mem_append_left _ (List.mem_of_getElem? (i := 50) (by decide +kernel))) (by decide +kernel)
theorem qp51 : Cond.selects RX11 yX11_bondOrNoTie yX11_bondOrNoTie ∈ lw_good := mg (List.mem_append_left _ (List.mem_of_getElem? (i := 51) (by decide +kernel))) (by decide +kernel)
theorem qp52 : Cond.selects RX3 yX3_squareOf yX3_squareOf ∈ lw_good := mg (List.mem_append_left _ (List.mem_of_getElem? (i := 52) (by decide +kernel))) (by decide +kernel)
theorem qp53 : Cond.selects RX3 yX3_clusterOf yX3_clusterOf ∈ lw_good := mg (List.mem_append_left _ (List.mem_of_getElem? (i := 53) (by decide +kernel))) (by decide +kernel)
theorem qp54 : Cond.selects RX3 yX3_grownCluster yX3_grownCluster ∈ lw_good := mg (List.mem_append_left _ (List.mem_of_getElem? (i := 54) (by decide +kernel))) (by decide +kernel)
theorem qp55 : Cond.selects RX3 yX3_isAlike yX3_isAlike ∈ lw_good := mg (List.mem_append_left _ (List.mem_of_getElem? (i := 55) (by decide +kernel))) (by decide +kernel)
theorem qp56 : Cond.selects RX11 yX11_levelsNow yX11_levelsNow ∈ lw_good := mg (List.mem_append_left _ (List.mem_of_getElem? (i := 56) (by decide +kernel))) (by decide +kernel)
theorem qp57 : Cond.selects RX11 yX11_energiesNow yX11_energiesNow ∈ lw_good := mg (List.mem_append_left _ (List.mem_of_getElem? (i := 57) (by decide +kernel))) (by decide +kernel)
theorem qp58 : Cond.selects RX2 yX2_fill yX2_fill ∈ lw_good := mg (List.mem_append_left _ (List.mem_of_getElem? (i := 58) (by decide +kernel))) (by decide +kernel)
theorem qp59 : Cond.selects RX2 yX2_seeLowerMates yX2_seeLowerMates ∈ lw_good := mg (List.mem_append_left _ (List.mem_of_getElem? (i := 59) (by decide +kernel))) (by decide +kernel)
theorem qp60 : Cond.selects RX2 yX2_addSite yX2_addSite ∈ lw_good := mg (List.mem_append_left _ (List.mem_of_getElem? (i := 60) (by decide +kernel))) (by decide +kernel)
theorem qp61 : Cond.selects RX2 yX2_pulledByMates yX2_pulledByMates ∈ lw_good := mg (List.mem_append_left _ (List.mem_of_getElem? (i := 61) (by decide +kernel))) (by decide +kernel)
theorem qp62 : Cond.selects RX3 yX3_states yX3_states ∈ lw_good := mg (List.mem_append_left _ (List.mem_of_getElem? (i := 62) (by decide +kernel))) (by decide +kernel)
theorem qp63 : Cond.selects RX4 yX4_gather yX4_gather ∈ lw_good := mg (List.mem_append_left _ (List.mem_of_getElem? (i := 63) (by decide +kernel))) (by decide +kernel)
theorem qp64 : Cond.selects RX2 yX2_of yX2_of ∈ lw_good := mg (List.mem_append_left _ (List.mem_of_getElem? (i := 64) (by decide +kernel))) (by decide +kernel)
theorem qp65 : Cond.selects RX6 yX6_allows yX6_allows ∈ lw_good := mg (List.mem_append_left _ (List.mem_of_getElem? (i := 65) (by decide +kernel))) (by decide +kernel)
theorem qp66 : Cond.selects RX4 yX4_listLevels yX4_listLevels ∈ lw_good := mg (List.mem_append_left _ (List.mem_of_getElem? (i := 66) (by decide +kernel))) (by decide +kernel)
theorem qp67 : Cond.selects RX4 yX4_hasLevel yX4_hasLevel ∈ lw_good := mg (List.mem_append_left _ (List.mem_of_getElem? (i := 67) (by decide +kernel))) (by decide +kernel)
theorem qp68 : Cond.selects RX4 yX4_energyOf yX4_energyOf ∈ lw_good := mg (List.mem_append_left _ (List.mem_of_getElem? (i := 68) (by decide +kernel))) (by decide +kernel)
theorem qp69 : Cond.selects RX4 yX4_waysOf yX4_waysOf ∈ lw_good := mg (List.mem_append_left _ (List.mem_of_getElem? (i := 69) (by decide +kernel))) (by decide +kernel)
theorem qp70 : Cond.selects RX4 yX4_leastOf yX4_leastOf ∈ lw_good := mg (List.mem_append_left _ (List.mem_of_getElem? (i := 70) (by decide +kernel))) (by decide +kernel)
theorem qp71 : Cond.selects RX4 yX4_fewestUps yX4_fewestUps ∈ lw_good := mg (List.mem_append_left _ (List.mem_of_getElem? (i := 71) (by decide +kernel))) (by decide +kernel)
theorem qp72 : Cond.selects RX4 yX4_waysWithUps yX4_waysWithUps ∈ lw_good := mg (List.mem_append_left _ (List.mem_of_getElem? (i := 72) (by decide +kernel))) (by decide +kernel)
theorem qp73 : Cond.selects RX4 yX4_mostUps yX4_mostUps ∈ lw_good := mg (List.mem_append_left _ (List.mem_of_getElem? (i := 73) (by decide +kernel))) (by decide +kernel)
theorem qp74 : Cond.selects RX11 yX11_breaksNow yX11_breaksNow ∈ lw_good := mg (List.mem_append_left _ (List.mem_of_getElem? (i := 74) (by decide +kernel))) (by decide +kernel)
theorem qp75 : Cond.selects RX0 yX0_gather yX0_gather ∈ lw_good := mg (List.mem_append_left _ (List.mem_of_getElem? (i := 75) (by decide +kernel))) (by decide +kernel)
theorem qp76 : Cond.selects RX0 yX0_waysOf yX0_waysOf ∈ lw_good := mg (List.mem_append_left _ (List.mem_of_getElem? (i := 76) (by decide +kernel))) (by decide +kernel)
theorem qp77 : Cond.selects RX11 yX11_countAlike yX11_countAlike ∈ lw_good := mg (List.mem_append_left _ (List.mem_of_getElem? (i := 77) (by decide +kernel))) (by decide +kernel)
theorem qp78 : Cond.selects RX4 yX4_upsAdded yX4_upsAdded ∈ lw_good := mg (List.mem_append_left _ (List.mem_of_getElem? (i := 78) (by decide +kernel))) (by decide +kernel)
theorem qp79 : Cond.selects RX11 yX11_slotAt yX11_slotAt ∈ lw_good := mg (List.mem_append_left _ (List.mem_of_getElem? (i := 79) (by decide +kernel))) (by decide +kernel)
end
section
theorem qp80 : Cond.selects RX11 yX11_joinWays yX11_joinWays ∈ lw_good := mg (List.mem_append_left _ (List.mem_of_getElem? (i := 80) (by decide +kernel))) (by decide +kernel)
theorem qp81 : Cond.selects RX11 yX11_heldWays yX11_heldWays ∈ lw_good := mg (List.mem_append_left _ (List.mem_of_getElem? (i := 81) (by decide +kernel))) (by decide +kernel)
theorem qp82 : Cond.selects RX11 yX11_countWays yX11_countWays ∈ lw_good := mg (List.mem_append_left _ (List.mem_of_getElem? (i := 82) (by decide +kernel))) (by decide +kernel)
theorem qp83 : Cond.selects RX11 yX11_countJoinedLevels yX11_countJoinedLevels ∈ lw_good := mg (List.mem_append_left _ (List.mem_of_getElem? (i := 83) (by decide +kernel))) (by decide +kernel)
theorem qp84 : Cond.selects RX11 yX11_joinedLevelAt yX11_joinedLevelAt ∈ lw_good := mg (List.mem_append_left _ (List.mem_of_getElem? (i := 84) (by decide +kernel))) (by decide +kernel)
theorem qp85 : Cond.selects RX2 yX2_hasNoneLower yX2_hasNoneLower ∈ lw_good := mg (List.mem_append_left _ (List.mem_of_getElem? (i := 85) (by decide +kernel))) (by decide +kernel)
theorem qp86 : Cond.selects RX11 yX11_energiesOfRows yX11_energiesOfRows ∈ lw_good := mg (List.mem_append_left _ (List.mem_of_getElem? (i := 86) (by decide +kernel))) (by decide +kernel)
theorem qp87 : Cond.selects RX11 yX11_listGround yX11_listGround ∈ lw_good := mg (List.mem_append_left _ (List.mem_of_getElem? (i := 87) (by decide +kernel))) (by decide +kernel)
theorem qp88 : Cond.selects RX11 yX11_isLawful yX11_isLawful ∈ lw_good := mg (List.mem_append_left _ (List.mem_of_getElem? (i := 88) (by decide +kernel))) (by decide +kernel)
theorem qp89 : Cond.selects RX3 yX3_energyOf yX3_energyOf ∈ lw_good := mg (List.mem_append_left _ (List.mem_of_getElem? (i := 89) (by decide +kernel))) (by decide +kernel)
theorem qp90 : Cond.selects RX3 yX3_brokenOf yX3_brokenOf ∈ lw_good := mg (List.mem_append_left _ (List.mem_of_getElem? (i := 90) (by decide +kernel))) (by decide +kernel)
theorem qp91 : Cond.selects RX4 yX4_numberOf yX4_numberOf ∈ lw_good := mg (List.mem_append_left _ (List.mem_of_getElem? (i := 91) (by decide +kernel))) (by decide +kernel)
theorem qp92 : Cond.selects RX11 yX11_nearestGround yX11_nearestGround ∈ lw_good := mg (List.mem_append_left _ (List.mem_of_getElem? (i := 92) (by decide +kernel))) (by decide +kernel)
theorem qp93 : Cond.selects RX10 yX10_strollFrom yX10_strollFrom ∈ lw_good := mg (List.mem_append_left _ (List.mem_of_getElem? (i := 93) (by decide +kernel))) (by decide +kernel)
theorem qp94 : Cond.selects RX11 yX11_isSmall yX11_isSmall ∈ lw_good := mg (List.mem_append_left _ (List.mem_of_getElem? (i := 94) (by decide +kernel))) (by decide +kernel)
theorem qp95 : Cond.selects RX11 yX11_terrainNow yX11_terrainNow ∈ lw_good := mg (List.mem_append_left _ (List.mem_of_getElem? (i := 95) (by decide +kernel))) (by decide +kernel)
theorem qp96 : Cond.selects RX9 yX9_sort yX9_sort ∈ lw_good := mg (List.mem_append_left _ (List.mem_of_getElem? (i := 96) (by decide +kernel))) (by decide +kernel)
theorem qp97 : Cond.selects RX9 yX9_putInOrder yX9_putInOrder ∈ lw_good := mg (List.mem_append_left _ (List.mem_of_getElem? (i := 97) (by decide +kernel))) (by decide +kernel)
theorem qp98 : Cond.selects RX9 yX9_basinOf yX9_basinOf ∈ lw_good := mg (List.mem_append_left _ (List.mem_of_getElem? (i := 98) (by decide +kernel))) (by decide +kernel)
theorem qp99 : Cond.selects RX9 yX9_steepestFrom yX9_steepestFrom ∈ lw_good := mg (List.mem_append_left _ (List.mem_of_getElem? (i := 99) (by decide +kernel))) (by decide +kernel)
theorem qp100 : Cond.selects RX9 yX9_canTurn yX9_canTurn ∈ lw_good := mg (List.mem_append_left _ (List.mem_of_getElem? (i := 100) (by decide +kernel))) (by decide +kernel)
theorem qp101 : Cond.selects RX9 yX9_energyOf yX9_energyOf ∈ lw_good := mg (List.mem_append_left _ (List.mem_of_getElem? (i := 101) (by decide +kernel))) (by decide +kernel)
theorem qp102 : Cond.selects RX9 yX9_lowest yX9_lowest ∈ lw_good := mg (List.mem_append_left _ (List.mem_of_getElem? (i := 102) (by decide +kernel))) (by decide +kernel)
theorem qp103 : Cond.selects RX9 yX9_meetingEnergy yX9_meetingEnergy ∈ lw_good := mg (List.mem_append_left _ (List.mem_of_getElem? (i := 103) (by decide +kernel))) (by decide +kernel)
theorem qp104 : Cond.selects RX9 yX9_dry yX9_dry ∈ lw_good := mg (List.mem_append_left _ (List.mem_of_getElem? (i := 104) (by decide +kernel))) (by decide +kernel)
theorem qp105 : Cond.selects RX9 yX9_flood yX9_flood ∈ lw_good := mg (List.mem_append_left _ (List.mem_of_getElem? (i := 105) (by decide +kernel))) (by decide +kernel)
theorem qp106 : Cond.selects RX9 yX9_isWet yX9_isWet ∈ lw_good := mg (List.mem_append_left _ (List.mem_of_getElem? (i := 106) (by decide +kernel))) (by decide +kernel)
theorem qp107 : Cond.selects RX9 yX9_join yX9_join ∈ lw_good := mg (List.mem_append_left _ (List.mem_of_getElem? (i := 107) (by decide +kernel))) (by decide +kernel)
theorem qp108 : Cond.selects RX9 yX9_rootOf yX9_rootOf ∈ lw_good := mg (List.mem_append_left _ (List.mem_of_getElem? (i := 108) (by decide +kernel))) (by decide +kernel)
theorem qp109 : Cond.selects RX9 yX9_lakesBelow yX9_lakesBelow ∈ lw_good := mg (List.mem_append_left _ (List.mem_of_getElem? (i := 109) (by decide +kernel))) (by decide +kernel)
theorem qp110 : Cond.selects RX9 yX9_waysDown yX9_waysDown ∈ lw_good := mg (List.mem_append_left _ (List.mem_of_getElem? (i := 110) (by decide +kernel))) (by decide +kernel)
theorem qp111 : Cond.selects RX9 yX9_waysFrom yX9_waysFrom ∈ lw_good := mg (List.mem_append_left _ (List.mem_of_getElem? (i := 111) (by decide +kernel))) (by decide +kernel)
theorem qp112 : Cond.selects RX11 yX11_countStates yX11_countStates ∈ lw_good := mg (List.mem_append_left _ (List.mem_of_getElem? (i := 112) (by decide +kernel))) (by decide +kernel)
theorem qp113 : Cond.selects RX3 yX3_countTies yX3_countTies ∈ lw_good := mg (List.mem_append_left _ (List.mem_of_getElem? (i := 113) (by decide +kernel))) (by decide +kernel)
theorem qp114 : Cond.selects RX11 yX11_countFullSlots yX11_countFullSlots ∈ lw_good := mg (List.mem_append_left _ (List.mem_of_getElem? (i := 114) (by decide +kernel))) (by decide +kernel)
theorem qp115 : Cond.selects RX3 yX3_countClusters yX3_countClusters ∈ lw_good := mg (List.mem_append_left _ (List.mem_of_getElem? (i := 115) (by decide +kernel))) (by decide +kernel)
theorem qp116 : Cond.selects RX3 yX3_greatestCluster yX3_greatestCluster ∈ lw_good := mg (List.mem_append_left _ (List.mem_of_getElem? (i := 116) (by decide +kernel))) (by decide +kernel)
theorem qp117 : Cond.selects RX0 yX0_fewest yX0_fewest ∈ lw_good := mg (List.mem_append_left _ (List.mem_of_getElem? (i := 117) (by decide +kernel))) (by decide +kernel)
theorem qp118 : Cond.selects RX3 yX3_countOddSquares yX3_countOddSquares ∈ lw_good := mg (List.mem_append_left _ (List.mem_of_getElem? (i := 118) (by decide +kernel))) (by decide +kernel)
theorem qp119 : Cond.selects RX12 yX12_lays yX12_lays ∈ lw_good := mg (List.mem_append_left _ (List.mem_of_getElem? (i := 119) (by decide +kernel))) (by decide +kernel)
theorem qp120 : Cond.selects RX12 yX12_cutsText yX12_cutsText ∈ lw_good := mg (List.mem_append_left _ (List.mem_of_getElem? (i := 120) (by decide +kernel))) (by decide +kernel)
theorem qp121 : Cond.selects RX12 yX12_byteAt yX12_byteAt ∈ lw_good := mg (List.mem_append_left _ (List.mem_of_getElem? (i := 121) (by decide +kernel))) (by decide +kernel)
theorem qp122 : Cond.selects RX12 yX12_token yX12_token ∈ lw_good := mg (List.mem_append_left _ (List.mem_of_getElem? (i := 122) (by decide +kernel))) (by decide +kernel)
theorem qp123 : Cond.selects RX12 yX12_sign yX12_sign ∈ lw_good := mg (List.mem_append_left _ (List.mem_of_getElem? (i := 123) (by decide +kernel))) (by decide +kernel)
theorem qp124 : Cond.selects RX12 yX12_must yX12_must ∈ lw_good := mg (List.mem_append_left _ (List.mem_of_getElem? (i := 124) (by decide +kernel))) (by decide +kernel)
theorem qp125 : Cond.selects RX12 yX12_is yX12_is ∈ lw_good := mg (List.mem_append_left _ (List.mem_of_getElem? (i := 125) (by decide +kernel))) (by decide +kernel)
theorem qp126 : Cond.selects RX12 yX12_passes yX12_passes ∈ lw_good := mg (List.mem_append_left _ (List.mem_of_getElem? (i := 126) (by decide +kernel))) (by decide +kernel)
theorem qp127 : Cond.selects RX12 yX12_fail yX12_fail ∈ lw_good := mg (List.mem_append_left _ (List.mem_of_getElem? (i := 127) (by decide +kernel))) (by decide +kernel)
theorem qp128 : Cond.selects RX12 yX12_line yX12_line ∈ lw_good := mg (List.mem_append_left _ (List.mem_of_getElem? (i := 128) (by decide +kernel))) (by decide +kernel)
theorem qp129 : Cond.selects RX12 yX12_mustJ yX12_mustJ ∈ lw_good := mg (List.mem_append_left _ (List.mem_of_getElem? (i := 129) (by decide +kernel))) (by decide +kernel)
theorem qp130 : Cond.selects RX12 yX12_mustWay yX12_mustWay ∈ lw_good := mg (List.mem_append_left _ (List.mem_of_getElem? (i := 130) (by decide +kernel))) (by decide +kernel)
theorem qp131 : Cond.selects RX12 yX12_means yX12_means ∈ lw_good := mg (List.mem_append_left _ (List.mem_of_getElem? (i := 131) (by decide +kernel))) (by decide +kernel)
theorem qp132 : Cond.selects RX12 yX12_wrong yX12_wrong ∈ lw_good := mg (List.mem_append_left _ (List.mem_of_getElem? (i := 132) (by decide +kernel))) (by decide +kernel)
theorem qp133 : Cond.selects RX12 yX12_meansAll yX12_meansAll ∈ lw_good := mg (List.mem_append_left _ (List.mem_of_getElem? (i := 133) (by decide +kernel))) (by decide +kernel)
theorem qp134 : Cond.selects RX12 yX12_jAt yX12_jAt ∈ lw_good := mg (List.mem_append_left _ (List.mem_of_getElem? (i := 134) (by decide +kernel))) (by decide +kernel)
theorem qp135 : Cond.selects RX12 yX12_meansOne yX12_meansOne ∈ lw_good := mg (List.mem_append_left _ (List.mem_of_getElem? (i := 135) (by decide +kernel))) (by decide +kernel)
theorem qp136 : Cond.selects RX12 yX12_sites yX12_sites ∈ lw_good := mg (List.mem_append_left _ (List.mem_of_getElem? (i := 136) (by decide +kernel))) (by decide +kernel)
theorem qp137 : Cond.selects RX12 yX12_isSite yX12_isSite ∈ lw_good := mg (List.mem_append_left _ (List.mem_of_getElem? (i := 137) (by decide +kernel))) (by decide +kernel)
theorem qp138 : Cond.selects RX12 yX12_tieTo yX12_tieTo ∈ lw_good := mg (List.mem_append_left _ (List.mem_of_getElem? (i := 138) (by decide +kernel))) (by decide +kernel)
theorem qp139 : Cond.selects RX12 yX12_marks yX12_marks ∈ lw_good := mg (List.mem_append_left _ (List.mem_of_getElem? (i := 139) (by decide +kernel))) (by decide +kernel)
theorem qp140 : Cond.selects RX12 yX12_knows yX12_knows ∈ lw_good := mg (List.mem_append_left _ (List.mem_of_getElem? (i := 140) (by decide +kernel))) (by decide +kernel)
theorem qp141 : Cond.selects RX12 yX12_states yX12_states ∈ lw_good := mg (List.mem_append_left _ (List.mem_of_getElem? (i := 141) (by decide +kernel))) (by decide +kernel)
theorem qp142 : Cond.selects RX12 yX12_isLawful yX12_isLawful ∈ lw_good := mg (List.mem_append_left _ (List.mem_of_getElem? (i := 142) (by decide +kernel))) (by decide +kernel)
theorem qp143 : Cond.selects RX12 yX12_energy yX12_energy ∈ lw_good := mg (List.mem_append_left _ (List.mem_of_getElem? (i := 143) (by decide +kernel))) (by decide +kernel)
theorem qp144 : Cond.selects RX12 yX12_fallTurns yX12_fallTurns ∈ lw_good := mg (List.mem_append_left _ (List.mem_of_getElem? (i := 144) (by decide +kernel))) (by decide +kernel)
theorem qp145 : Cond.selects RX12 yX12_steepest yX12_steepest ∈ lw_good := mg (List.mem_append_left _ (List.mem_of_getElem? (i := 145) (by decide +kernel))) (by decide +kernel)
theorem qp146 : Cond.selects RX12 yX12_fallEnd yX12_fallEnd ∈ lw_good := mg (List.mem_append_left _ (List.mem_of_getElem? (i := 146) (by decide +kernel))) (by decide +kernel)
theorem qp147 : Cond.selects RX12 yX12_costOf yX12_costOf ∈ lw_good := mg (List.mem_append_left _ (List.mem_of_getElem? (i := 147) (by decide +kernel))) (by decide +kernel)
theorem qp148 : Cond.selects RX12 yX12_leastOf yX12_leastOf ∈ lw_good := mg (List.mem_append_left _ (List.mem_of_getElem? (i := 148) (by decide +kernel))) (by decide +kernel)
theorem qp149 : Cond.selects RX12 yX12_upsOf yX12_upsOf ∈ lw_good := mg (List.mem_append_left _ (List.mem_of_getElem? (i := 149) (by decide +kernel))) (by decide +kernel)
theorem qp150 : Cond.selects RX12 yX12_brokenOf yX12_brokenOf ∈ lw_good := mg (List.mem_append_left _ (List.mem_of_getElem? (i := 150) (by decide +kernel))) (by decide +kernel)
theorem qp151 : Cond.selects RX12 yX12_laysMany yX12_laysMany ∈ lw_good := mg (List.mem_append_left _ (List.mem_of_getElem? (i := 151) (by decide +kernel))) (by decide +kernel)
theorem qp152 : Cond.selects RX12 yX12_levelOf yX12_levelOf ∈ lw_good := mg (List.mem_append_left _ (List.mem_of_getElem? (i := 152) (by decide +kernel))) (by decide +kernel)
theorem qp153 : Cond.selects RX12 yX12_laysHills yX12_laysHills ∈ lw_good := mg (List.mem_append_left _ (List.mem_of_getElem? (i := 153) (by decide +kernel))) (by decide +kernel)
theorem qp154 : Cond.selects RX12 yX12_oddOf yX12_oddOf ∈ lw_good := mg (List.mem_append_left _ (List.mem_of_getElem? (i := 154) (by decide +kernel))) (by decide +kernel)
theorem qp155 : Cond.selects RX12 yX12_clusterOf yX12_clusterOf ∈ lw_good := mg (List.mem_append_left _ (List.mem_of_getElem? (i := 155) (by decide +kernel))) (by decide +kernel)
theorem qp156 : Cond.selects RX12 yX12_lawfulMany yX12_lawfulMany ∈ lw_good := mg (List.mem_append_left _ (List.mem_of_getElem? (i := 156) (by decide +kernel))) (by decide +kernel)
theorem qp157 : Cond.selects RX12 yX12_pinned yX12_pinned ∈ lw_good := mg (List.mem_append_left _ (List.mem_of_getElem? (i := 157) (by decide +kernel))) (by decide +kernel)
theorem qp158 : Cond.selects RX12 yX12_ties yX12_ties ∈ lw_good := mg (List.mem_append_left _ (List.mem_of_getElem? (i := 158) (by decide +kernel))) (by decide +kernel)
theorem qp159 : Cond.selects RX12 yX12_clusters yX12_clusters ∈ lw_good := mg (List.mem_append_left _ (List.mem_of_getElem? (i := 159) (by decide +kernel))) (by decide +kernel)
theorem qp160 : Cond.selects RX12 yX12_greatest yX12_greatest ∈ lw_good := mg (List.mem_append_left _ (List.mem_of_getElem? (i := 160) (by decide +kernel))) (by decide +kernel)
theorem qp161 : Cond.selects RX12 yX12_fewestBroken yX12_fewestBroken ∈ lw_good := mg (List.mem_append_left _ (List.mem_of_getElem? (i := 161) (by decide +kernel))) (by decide +kernel)
theorem qp162 : Cond.selects RX12 yX12_odds yX12_odds ∈ lw_good := mg (List.mem_append_left _ (List.mem_of_getElem? (i := 162) (by decide +kernel))) (by decide +kernel)
end
