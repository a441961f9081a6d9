theorem q0 : Cond.initialized RL ∈ lw_good := mg (List.mem_append_right _ (tp_1 (List.mem_of_getElem? (i := 0) rfl))) rfl
theorem q1 : Cond.initialized RX11 ∈ lw_good := mg (List.mem_append_right _ (tp_1 (List.mem_of_getElem? (i := 1) rfl))) rfl
theorem q2 : Cond.initialized RX1 ∈ lw_good := mg (List.mem_append_right _ (tp_1 (List.mem_of_getElem? (i := 2) rfl))) rfl
theorem q3 : Cond.initialized RX8 ∈ lw_good := mg (List.mem_append_right _ (tp_1 (List.mem_of_getElem? (i := 3) rfl))) rfl
theorem q4 : Cond.initialized RX6 ∈ lw_good := mg (List.mem_append_right _ (tp_1 (List.mem_of_getElem? (i := 4) rfl))) rfl
theorem q5 : Cond.initialized RX3 ∈ lw_good := mg (List.mem_append_right _ (tp_1 (List.mem_of_getElem? (i := 5) rfl))) rfl
theorem q6 : Cond.initialized RJ7 ∈ lw_good := mg (List.mem_append_right _ (tp_1 (List.mem_of_getElem? (i := 6) rfl))) rfl
theorem q7 : Cond.initialized RX5 ∈ lw_good := mg (List.mem_append_right _ (tp_1 (List.mem_of_getElem? (i := 7) rfl))) rfl
theorem q8 : Cond.initialized RX7 ∈ lw_good := mg (List.mem_append_right _ (tp_1 (List.mem_of_getElem? (i := 8) rfl))) rfl
theorem q9 : Cond.initialized RX2 ∈ lw_good := mg (List.mem_append_right _ (tp_1 (List.mem_of_getElem? (i := 9) rfl))) rfl
theorem q10 : Cond.initialized RX4 ∈ lw_good := mg (List.mem_append_right _ (tp_1 (List.mem_of_getElem? (i := 10) rfl))) rfl
theorem q11 : Cond.initialized RX0 ∈ lw_good := mg (List.mem_append_right _ (tp_1 (List.mem_of_getElem? (i := 11) rfl))) rfl
theorem q12 : Cond.initialized RX9 ∈ lw_good := mg (List.mem_append_right _ (tp_1 (List.mem_of_getElem? (i := 12) rfl))) rfl
theorem q13 : Cond.initialized RX10 ∈ lw_good := mg (List.mem_append_right _ (tp_1 (List.mem_of_getElem? (i := 13) rfl))) rfl
theorem q14 : Cond.initialized RX12 ∈ lw_good := mg (List.mem_append_right _ (tp_1 (List.mem_of_getElem? (i := 14) rfl))) rfl
theorem q15 : Cond.initialized RJ0 ∈ lw_good := mg (List.mem_append_right _ (tp_1 (List.mem_of_getElem? (i := 15) rfl))) rfl
theorem q16 : Cond.initialized RJ1 ∈ lw_good := mg (List.mem_append_right _ (tp_1 (List.mem_of_getElem? (i := 16) rfl))) rfl
theorem q17 : Cond.initialized RJ3 ∈ lw_good := mg (List.mem_append_right _ (tp_1 (List.mem_of_getElem? (i := 17) rfl))) rfl
theorem q18 : Cond.initialized RJ2 ∈ lw_good := mg (List.mem_append_right _ (tp_1 (List.mem_of_getElem? (i := 18) rfl))) rfl
theorem q19 : Cond.initialized RJ10 ∈ lw_good := mg (List.mem_append_right _ (tp_1 (List.mem_of_getElem? (i := 19) rfl))) rfl
theorem q20 : Cond.initialized RJ9 ∈ lw_good := mg (List.mem_append_right _ (tp_1 (List.mem_of_getElem? (i := 20) rfl))) rfl
theorem q21 : Cond.initialized RJ6 ∈ lw_good := mg (List.mem_append_right _ (tp_1 (List.mem_of_getElem? (i := 21) rfl))) rfl
theorem q22 : Cond.classLink RL 7 RX11 ∈ lw_good := mg (List.mem_append_right _ (tp_1 (List.mem_of_getElem? (i := 22) rfl))) rfl
theorem q23 : Cond.instantiable RX11 16 ∈ lw_good := mg (List.mem_append_right _ (tp_1 (List.mem_of_getElem? (i := 23) rfl))) rfl
theorem q24 : Cond.methodLink RL 9 yX11_init ∈ lw_good := mg (List.mem_append_right _ (tp_1 (List.mem_of_getElem? (i := 24) rfl))) rfl
theorem q25 : Cond.instanceMethod yX11_init ∈ lw_good := mg (List.mem_append_right _ (tp_1 (List.mem_of_getElem? (i := 25) rfl))) rfl
theorem q26 : Cond.code yX11_init cX11_init 2 none ∈ lw_good := mg (List.mem_append_right _ (tp_1 (List.mem_of_getElem? (i := 26) rfl))) rfl
theorem q30 : Cond.classLink RX11 9 RX1 ∈ lw_good := mg (List.mem_append_right _ (tp_1 (List.mem_of_getElem? (i := 30) rfl))) rfl
theorem q31 : Cond.instantiable RX1 13 ∈ lw_good := mg (List.mem_append_right _ (tp_1 (List.mem_of_getElem? (i := 31) rfl))) rfl
theorem q32 : Cond.methodLinkNest RX11 11 yX1_init "SpinStrip" ∈ lw_nest := mn (List.mem_append_right _ (tp_1 (List.mem_of_getElem? (i := 32) rfl))) rfl
theorem q33 : Cond.instanceMethod yX1_init ∈ lw_good := mg (List.mem_append_right _ (tp_1 (List.mem_of_getElem? (i := 33) rfl))) rfl
theorem q34 : Cond.code yX1_init cX1_init 1 none ∈ lw_good := mg (List.mem_append_right _ (tp_1 (List.mem_of_getElem? (i := 34) rfl))) rfl
theorem q36 : Cond.classLink RX1 9 RX8 ∈ lw_good := mg (List.mem_append_right _ (tp_1 (List.mem_of_getElem? (i := 36) rfl))) rfl
theorem q37 : Cond.instantiable RX8 10 ∈ lw_good := mg (List.mem_append_right _ (tp_1 (List.mem_of_getElem? (i := 37) rfl))) rfl
theorem q38 : Cond.methodLinkNest RX1 11 yX8_init "SpinStrip" ∈ lw_nest := mn (List.mem_append_right _ (tp_1 (List.mem_of_getElem? (i := 38) rfl))) rfl
theorem q39 : Cond.instanceMethod yX8_init ∈ lw_good := mg (List.mem_append_right _ (tp_1 (List.mem_of_getElem? (i := 39) rfl))) rfl
theorem q40 : Cond.code yX8_init cX8_init 1 none ∈ lw_good := mg (List.mem_append_right _ (tp_1 (List.mem_of_getElem? (i := 40) rfl))) rfl
theorem q42 : Cond.fieldLink RX8 9 "SpinStrip$Tape" "bytes" "[B" ∈ lw_good := mg (List.mem_append_right _ (tp_1 (List.mem_of_getElem? (i := 42) rfl))) rfl
theorem q43 : Cond.fieldLink RX8 15 "SpinStrip$Tape" "kinds" "[I" ∈ lw_good := mg (List.mem_append_right _ (tp_1 (List.mem_of_getElem? (i := 43) rfl))) rfl
theorem q44 : Cond.fieldLink RX8 19 "SpinStrip$Tape" "numbers" "[I" ∈ lw_good := mg (List.mem_append_right _ (tp_1 (List.mem_of_getElem? (i := 44) rfl))) rfl
theorem q45 : Cond.fieldLink RX8 22 "SpinStrip$Tape" "places" "[I" ∈ lw_good := mg (List.mem_append_right _ (tp_1 (List.mem_of_getElem? (i := 45) rfl))) rfl
theorem q46 : Cond.fieldLinkNest RX11 102 "SpinStrip$Tape" "length" "I" "SpinStrip" ∈ lw_nest := mn (List.mem_append_right _ (tp_1 (List.mem_of_getElem? (i := 46) rfl))) rfl
theorem q47 : Cond.fieldLink RX8 25 "SpinStrip$Tape" "length" "I" ∈ lw_good := mg (List.mem_append_right _ (tp_1 (List.mem_of_getElem? (i := 47) rfl))) rfl
theorem q48 : Cond.fieldLinkNest RX1 52 "SpinStrip$Tape" "many" "I" "SpinStrip" ∈ lw_nest := mn (List.mem_append_right _ (tp_1 (List.mem_of_getElem? (i := 48) rfl))) rfl
theorem q49 : Cond.fieldLink RX8 29 "SpinStrip$Tape" "many" "I" ∈ lw_good := mg (List.mem_append_right _ (tp_1 (List.mem_of_getElem? (i := 49) rfl))) rfl
theorem q50 : Cond.fieldLink RX8 39 "SpinStrip$Tape" "kind" "I" ∈ lw_good := mg (List.mem_append_right _ (tp_1 (List.mem_of_getElem? (i := 50) rfl))) rfl
theorem q51 : Cond.fieldLink RX8 49 "SpinStrip$Tape" "number" "I" ∈ lw_good := mg (List.mem_append_right _ (tp_1 (List.mem_of_getElem? (i := 51) rfl))) rfl
theorem q52 : Cond.fieldLinkNest RX1 32 "SpinStrip$Tape" "start" "I" "SpinStrip" ∈ lw_nest := mn (List.mem_append_right _ (tp_1 (List.mem_of_getElem? (i := 52) rfl))) rfl
theorem q53 : Cond.fieldLink RX8 52 "SpinStrip$Tape" "start" "I" ∈ lw_good := mg (List.mem_append_right _ (tp_1 (List.mem_of_getElem? (i := 53) rfl))) rfl
theorem q54 : Cond.fieldLink RX8 32 "SpinStrip$Tape" "end" "I" ∈ lw_good := mg (List.mem_append_right _ (tp_1 (List.mem_of_getElem? (i := 54) rfl))) rfl
theorem q55 : Cond.laysFinal RX8 "SpinStrip$Tape" "bytes" "[B" ∈ lw_good := mg (List.mem_append_right _ (tp_1 (List.mem_of_getElem? (i := 55) rfl))) rfl
theorem q57 : Cond.laysFinal RX8 "SpinStrip$Tape" "kinds" "[I" ∈ lw_good := mg (List.mem_append_right _ (tp_1 (List.mem_of_getElem? (i := 57) rfl))) rfl
theorem q59 : Cond.laysFinal RX8 "SpinStrip$Tape" "numbers" "[I" ∈ lw_good := mg (List.mem_append_right _ (tp_1 (List.mem_of_getElem? (i := 59) rfl))) rfl
theorem q61 : Cond.laysFinal RX8 "SpinStrip$Tape" "places" "[I" ∈ lw_good := mg (List.mem_append_right _ (tp_1 (List.mem_of_getElem? (i := 61) rfl))) rfl
theorem q63 : Cond.lays RX8 "SpinStrip$Tape" "length" "I" ∈ lw_good := mg (List.mem_append_right _ (tp_1 (List.mem_of_getElem? (i := 63) rfl))) rfl
theorem q65 : Cond.lays RX8 "SpinStrip$Tape" "many" "I" ∈ lw_good := mg (List.mem_append_right _ (tp_1 (List.mem_of_getElem? (i := 65) rfl))) rfl
theorem q67 : Cond.lays RX8 "SpinStrip$Tape" "kind" "I" ∈ lw_good := mg (List.mem_append_right _ (tp_1 (List.mem_of_getElem? (i := 67) rfl))) rfl
theorem q69 : Cond.lays RX8 "SpinStrip$Tape" "number" "I" ∈ lw_good := mg (List.mem_append_right _ (tp_1 (List.mem_of_getElem? (i := 69) rfl))) rfl
theorem q71 : Cond.lays RX8 "SpinStrip$Tape" "start" "I" ∈ lw_good := mg (List.mem_append_right _ (tp_1 (List.mem_of_getElem? (i := 71) rfl))) rfl
theorem q73 : Cond.lays RX8 "SpinStrip$Tape" "end" "I" ∈ lw_good := mg (List.mem_append_right _ (tp_1 (List.mem_of_getElem? (i := 73) rfl))) rfl
theorem q76 : Cond.arrayClass .byte ∈ lw_good := mg (List.mem_append_right _ (tp_1 (List.mem_of_getElem? (i := 76) rfl))) rfl
theorem q77 : Cond.arrayClass .int ∈ lw_good := mg (List.mem_append_right _ (tp_1 (List.mem_of_getElem? (i := 77) rfl))) rfl
theorem q78 : Cond.classLink RX1 18 RX6 ∈ lw_good := mg (List.mem_append_right _ (tp_1 (List.mem_of_getElem? (i := 78) rfl))) rfl
theorem q79 : Cond.instantiable RX6 8 ∈ lw_good := mg (List.mem_append_right _ (tp_1 (List.mem_of_getElem? (i := 79) rfl))) rfl
theorem q80 : Cond.methodLinkNest RX1 20 yX6_init "SpinStrip" ∈ lw_nest := mn (List.mem_append_right _ (tp_1 (List.mem_of_getElem? (i := 80) rfl))) rfl
theorem q81 : Cond.instanceMethod yX6_init ∈ lw_good := mg (List.mem_append_right _ (tp_1 (List.mem_of_getElem? (i := 81) rfl))) rfl
theorem q82 : Cond.code yX6_init cX6_init 1 none ∈ lw_good := mg (List.mem_append_right _ (tp_1 (List.mem_of_getElem? (i := 82) rfl))) rfl
theorem q84 : Cond.fieldLink RX6 9 "SpinStrip$Setup" "bonds" "[I" ∈ lw_good := mg (List.mem_append_right _ (tp_1 (List.mem_of_getElem? (i := 84) rfl))) rfl
theorem q85 : Cond.fieldLinkNest RX11 340 "SpinStrip$Setup" "bonds" "[I" "SpinStrip" ∈ lw_nest := mn (List.mem_append_right _ (tp_1 (List.mem_of_getElem? (i := 85) rfl))) rfl
theorem q86 : Cond.fieldLink RX6 15 "SpinStrip$Setup" "fields" "[I" ∈ lw_good := mg (List.mem_append_right _ (tp_1 (List.mem_of_getElem? (i := 86) rfl))) rfl
theorem q87 : Cond.fieldLinkNest RX11 343 "SpinStrip$Setup" "fields" "[I" "SpinStrip" ∈ lw_nest := mn (List.mem_append_right _ (tp_1 (List.mem_of_getElem? (i := 87) rfl))) rfl
theorem q88 : Cond.fieldLink RX6 24 "SpinStrip$Setup" "pinned" "I" ∈ lw_good := mg (List.mem_append_right _ (tp_1 (List.mem_of_getElem? (i := 88) rfl))) rfl
theorem q89 : Cond.fieldLinkNest RX11 191 "SpinStrip$Setup" "pinned" "I" "SpinStrip" ∈ lw_nest := mn (List.mem_append_right _ (tp_1 (List.mem_of_getElem? (i := 89) rfl))) rfl
theorem q90 : Cond.fieldLink RX6 28 "SpinStrip$Setup" "pinnedUp" "I" ∈ lw_good := mg (List.mem_append_right _ (tp_1 (List.mem_of_getElem? (i := 90) rfl))) rfl
theorem q91 : Cond.fieldLinkNest RX11 141 "SpinStrip$Setup" "pinnedUp" "I" "SpinStrip" ∈ lw_nest := mn (List.mem_append_right _ (tp_1 (List.mem_of_getElem? (i := 91) rfl))) rfl
theorem q92 : Cond.fieldLink RX6 31 "SpinStrip$Setup" "bits" "I" ∈ lw_good := mg (List.mem_append_right _ (tp_1 (List.mem_of_getElem? (i := 92) rfl))) rfl
theorem q93 : Cond.fieldLinkNest RX10 24 "SpinStrip$Setup" "bits" "I" "SpinStrip" ∈ lw_nest := mn (List.mem_append_right _ (tp_1 (List.mem_of_getElem? (i := 93) rfl))) rfl
theorem q94 : Cond.fieldLinkNest RX11 144 "SpinStrip$Setup" "bits" "I" "SpinStrip" ∈ lw_nest := mn (List.mem_append_right _ (tp_1 (List.mem_of_getElem? (i := 94) rfl))) rfl
theorem q95 : Cond.fieldLink RX6 34 "SpinStrip$Setup" "seed" "I" ∈ lw_good := mg (List.mem_append_right _ (tp_1 (List.mem_of_getElem? (i := 95) rfl))) rfl
theorem q96 : Cond.fieldLinkNest RX10 33 "SpinStrip$Setup" "seed" "I" "SpinStrip" ∈ lw_nest := mn (List.mem_append_right _ (tp_1 (List.mem_of_getElem? (i := 96) rfl))) rfl
theorem q97 : Cond.fieldLinkNest RX1 119 "SpinStrip$Setup" "seed" "I" "SpinStrip" ∈ lw_nest := mn (List.mem_append_right _ (tp_1 (List.mem_of_getElem? (i := 97) rfl))) rfl
theorem q98 : Cond.fieldLinkNest RX11 443 "SpinStrip$Setup" "seed" "I" "SpinStrip" ∈ lw_nest := mn (List.mem_append_right _ (tp_1 (List.mem_of_getElem? (i := 98) rfl))) rfl
theorem q99 : Cond.fieldLink RX6 43 "SpinStrip$Setup" "tieStamp" "I" ∈ lw_good := mg (List.mem_append_right _ (tp_1 (List.mem_of_getElem? (i := 99) rfl))) rfl
theorem q100 : Cond.fieldLinkNest RX11 460 "SpinStrip$Setup" "tieStamp" "I" "SpinStrip" ∈ lw_nest := mn (List.mem_append_right _ (tp_1 (List.mem_of_getElem? (i := 100) rfl))) rfl
theorem q101 : Cond.fieldLink RX6 46 "SpinStrip$Setup" "pinStamp" "I" ∈ lw_good := mg (List.mem_append_right _ (tp_1 (List.mem_of_getElem? (i := 101) rfl))) rfl
theorem q102 : Cond.fieldLinkNest RX11 463 "SpinStrip$Setup" "pinStamp" "I" "SpinStrip" ∈ lw_nest := mn (List.mem_append_right _ (tp_1 (List.mem_of_getElem? (i := 102) rfl))) rfl
theorem q103 : Cond.laysFinal RX6 "SpinStrip$Setup" "bonds" "[I" ∈ lw_good := mg (List.mem_append_right _ (tp_1 (List.mem_of_getElem? (i := 103) rfl))) rfl
theorem q105 : Cond.laysFinal RX6 "SpinStrip$Setup" "fields" "[I" ∈ lw_good := mg (List.mem_append_right _ (tp_1 (List.mem_of_getElem? (i := 105) rfl))) rfl
theorem q107 : Cond.lays RX6 "SpinStrip$Setup" "pinned" "I" ∈ lw_good := mg (List.mem_append_right _ (tp_1 (List.mem_of_getElem? (i := 107) rfl))) rfl
theorem q109 : Cond.lays RX6 "SpinStrip$Setup" "pinnedUp" "I" ∈ lw_good := mg (List.mem_append_right _ (tp_1 (List.mem_of_getElem? (i := 109) rfl))) rfl
theorem q111 : Cond.lays RX6 "SpinStrip$Setup" "bits" "I" ∈ lw_good := mg (List.mem_append_right _ (tp_1 (List.mem_of_getElem? (i := 111) rfl))) rfl
theorem q113 : Cond.lays RX6 "SpinStrip$Setup" "seed" "I" ∈ lw_good := mg (List.mem_append_right _ (tp_1 (List.mem_of_getElem? (i := 113) rfl))) rfl
theorem q115 : Cond.lays RX6 "SpinStrip$Setup" "tieStamp" "I" ∈ lw_good := mg (List.mem_append_right _ (tp_1 (List.mem_of_getElem? (i := 115) rfl))) rfl
theorem q117 : Cond.lays RX6 "SpinStrip$Setup" "pinStamp" "I" ∈ lw_good := mg (List.mem_append_right _ (tp_1 (List.mem_of_getElem? (i := 117) rfl))) rfl
theorem q120 : Cond.fieldLink RX1 12 "SpinStrip$Draft" "tape" "LSpinStrip$Tape;" ∈ lw_good := mg (List.mem_append_right _ (tp_1 (List.mem_of_getElem? (i := 120) rfl))) rfl
theorem q121 : Cond.fieldLinkNest RX11 16 "SpinStrip$Draft" "tape" "LSpinStrip$Tape;" "SpinStrip" ∈ lw_nest := mn (List.mem_append_right _ (tp_1 (List.mem_of_getElem? (i := 121) rfl))) rfl
theorem q122 : Cond.fieldLink RX1 21 "SpinStrip$Draft" "setup" "LSpinStrip$Setup;" ∈ lw_good := mg (List.mem_append_right _ (tp_1 (List.mem_of_getElem? (i := 122) rfl))) rfl
theorem q123 : Cond.fieldLinkNest RX11 134 "SpinStrip$Draft" "setup" "LSpinStrip$Setup;" "SpinStrip" ∈ lw_nest := mn (List.mem_append_right _ (tp_1 (List.mem_of_getElem? (i := 123) rfl))) rfl
theorem q124 : Cond.fieldLink RX1 46 "SpinStrip$Draft" "fault" "I" ∈ lw_good := mg (List.mem_append_right _ (tp_1 (List.mem_of_getElem? (i := 124) rfl))) rfl
theorem q125 : Cond.fieldLinkNest RX11 115 "SpinStrip$Draft" "fault" "I" "SpinStrip" ∈ lw_nest := mn (List.mem_append_right _ (tp_1 (List.mem_of_getElem? (i := 125) rfl))) rfl
theorem q126 : Cond.fieldLink RX1 64 "SpinStrip$Draft" "faultPlace" "I" ∈ lw_good := mg (List.mem_append_right _ (tp_1 (List.mem_of_getElem? (i := 126) rfl))) rfl
theorem q127 : Cond.fieldLinkNest RX11 114 "SpinStrip$Draft" "faultPlace" "I" "SpinStrip" ∈ lw_nest := mn (List.mem_append_right _ (tp_1 (List.mem_of_getElem? (i := 127) rfl))) rfl
theorem q128 : Cond.fieldLink RX1 49 "SpinStrip$Draft" "cursor" "I" ∈ lw_good := mg (List.mem_append_right _ (tp_1 (List.mem_of_getElem? (i := 128) rfl))) rfl
theorem q129 : Cond.fieldLinkNest RX11 121 "SpinStrip$Draft" "wide" "I" "SpinStrip" ∈ lw_nest := mn (List.mem_append_right _ (tp_1 (List.mem_of_getElem? (i := 129) rfl))) rfl
theorem q130 : Cond.fieldLink RX1 98 "SpinStrip$Draft" "wide" "I" ∈ lw_good := mg (List.mem_append_right _ (tp_1 (List.mem_of_getElem? (i := 130) rfl))) rfl
theorem q131 : Cond.fieldLinkNest RX11 124 "SpinStrip$Draft" "tall" "I" "SpinStrip" ∈ lw_nest := mn (List.mem_append_right _ (tp_1 (List.mem_of_getElem? (i := 131) rfl))) rfl
theorem q132 : Cond.fieldLink RX1 104 "SpinStrip$Draft" "tall" "I" ∈ lw_good := mg (List.mem_append_right _ (tp_1 (List.mem_of_getElem? (i := 132) rfl))) rfl
theorem q133 : Cond.fieldLink RX1 67 "SpinStrip$Draft" "rings" "I" ∈ lw_good := mg (List.mem_append_right _ (tp_1 (List.mem_of_getElem? (i := 133) rfl))) rfl
theorem q134 : Cond.fieldLinkNest RX11 127 "SpinStrip$Draft" "rings" "I" "SpinStrip" ∈ lw_nest := mn (List.mem_append_right _ (tp_1 (List.mem_of_getElem? (i := 134) rfl))) rfl
theorem q135 : Cond.fieldLink RX1 70 "SpinStrip$Draft" "allAcross" "I" ∈ lw_good := mg (List.mem_append_right _ (tp_1 (List.mem_of_getElem? (i := 135) rfl))) rfl
theorem q136 : Cond.fieldLink RX1 73 "SpinStrip$Draft" "allAlong" "I" ∈ lw_good := mg (List.mem_append_right _ (tp_1 (List.mem_of_getElem? (i := 136) rfl))) rfl
theorem q137 : Cond.fieldLink RX1 76 "SpinStrip$Draft" "allFields" "I" ∈ lw_good := mg (List.mem_append_right _ (tp_1 (List.mem_of_getElem? (i := 137) rfl))) rfl
theorem q138 : Cond.fieldLink RX1 79 "SpinStrip$Draft" "toldTies" "I" ∈ lw_good := mg (List.mem_append_right _ (tp_1 (List.mem_of_getElem? (i := 138) rfl))) rfl
theorem q139 : Cond.fieldLink RX1 82 "SpinStrip$Draft" "toldFields" "I" ∈ lw_good := mg (List.mem_append_right _ (tp_1 (List.mem_of_getElem? (i := 139) rfl))) rfl
theorem q140 : Cond.laysFinal RX1 "SpinStrip$Draft" "tape" "LSpinStrip$Tape;" ∈ lw_good := mg (List.mem_append_right _ (tp_1 (List.mem_of_getElem? (i := 140) rfl))) rfl
theorem q142 : Cond.laysFinal RX1 "SpinStrip$Draft" "setup" "LSpinStrip$Setup;" ∈ lw_good := mg (List.mem_append_right _ (tp_1 (List.mem_of_getElem? (i := 142) rfl))) rfl
theorem q144 : Cond.lays RX1 "SpinStrip$Draft" "fault" "I" ∈ lw_good := mg (List.mem_append_right _ (tp_1 (List.mem_of_getElem? (i := 144) rfl))) rfl
theorem q146 : Cond.lays RX1 "SpinStrip$Draft" "faultPlace" "I" ∈ lw_good := mg (List.mem_append_right _ (tp_1 (List.mem_of_getElem? (i := 146) rfl))) rfl
theorem q148 : Cond.lays RX1 "SpinStrip$Draft" "cursor" "I" ∈ lw_good := mg (List.mem_append_right _ (tp_1 (List.mem_of_getElem? (i := 148) rfl))) rfl
theorem q150 : Cond.lays RX1 "SpinStrip$Draft" "wide" "I" ∈ lw_good := mg (List.mem_append_right _ (tp_1 (List.mem_of_getElem? (i := 150) rfl))) rfl
theorem q152 : Cond.lays RX1 "SpinStrip$Draft" "tall" "I" ∈ lw_good := mg (List.mem_append_right _ (tp_1 (List.mem_of_getElem? (i := 152) rfl))) rfl
theorem q154 : Cond.lays RX1 "SpinStrip$Draft" "rings" "I" ∈ lw_good := mg (List.mem_append_right _ (tp_1 (List.mem_of_getElem? (i := 154) rfl))) rfl
theorem q156 : Cond.lays RX1 "SpinStrip$Draft" "allAcross" "I" ∈ lw_good := mg (List.mem_append_right _ (tp_1 (List.mem_of_getElem? (i := 156) rfl))) rfl
theorem q158 : Cond.lays RX1 "SpinStrip$Draft" "allAlong" "I" ∈ lw_good := mg (List.mem_append_right _ (tp_1 (List.mem_of_getElem? (i := 158) rfl))) rfl
theorem q160 : Cond.lays RX1 "SpinStrip$Draft" "allFields" "I" ∈ lw_good := mg (List.mem_append_right _ (tp_1 (List.mem_of_getElem? (i := 160) rfl))) rfl
theorem q162 : Cond.lays RX1 "SpinStrip$Draft" "toldTies" "I" ∈ lw_good := mg (List.mem_append_right _ (tp_1 (List.mem_of_getElem? (i := 162) rfl))) rfl
theorem q164 : Cond.lays RX1 "SpinStrip$Draft" "toldFields" "I" ∈ lw_good := mg (List.mem_append_right _ (tp_1 (List.mem_of_getElem? (i := 164) rfl))) rfl
theorem q167 : Cond.classLink RX11 21 RX3 ∈ lw_good := mg (List.mem_append_right _ (tp_1 (List.mem_of_getElem? (i := 167) rfl))) rfl
theorem q168 : Cond.instantiable RX3 8 ∈ lw_good := mg (List.mem_append_right _ (tp_1 (List.mem_of_getElem? (i := 168) rfl))) rfl
theorem q169 : Cond.methodLinkNest RX11 23 yX3_init "SpinStrip" ∈ lw_nest := mn (List.mem_append_right _ (tp_1 (List.mem_of_getElem? (i := 169) rfl))) rfl
theorem q170 : Cond.instanceMethod yX3_init ∈ lw_good := mg (List.mem_append_right _ (tp_1 (List.mem_of_getElem? (i := 170) rfl))) rfl
theorem q171 : Cond.code yX3_init cX3_init 1 none ∈ lw_good := mg (List.mem_append_right _ (tp_1 (List.mem_of_getElem? (i := 171) rfl))) rfl
theorem q173 : Cond.methodLink RX3 24 yJ7_fill_53178 ∈ lw_good := mg (List.mem_append_right _ (tp_1 (List.mem_of_getElem? (i := 173) rfl))) rfl
theorem q174 : Cond.static yJ7_fill_53178 ∈ lw_good := mg (List.mem_append_right _ (tp_1 (List.mem_of_getElem? (i := 174) rfl))) rfl
theorem q175 : Cond.code yJ7_fill_53178 cJ7_fill_53178 4 none ∈ lw_good := mg (List.mem_append_right _ (tp_1 (List.mem_of_getElem? (i := 175) rfl))) rfl
theorem q176 : Cond.fieldLink RX3 9 "SpinStrip$Grid" "ends" "[I" ∈ lw_good := mg (List.mem_append_right _ (tp_1 (List.mem_of_getElem? (i := 176) rfl))) rfl
theorem q177 : Cond.fieldLink RX3 15 "SpinStrip$Grid" "mates" "[I" ∈ lw_good := mg (List.mem_append_right _ (tp_1 (List.mem_of_getElem? (i := 177) rfl))) rfl
theorem q178 : Cond.fieldLinkNest RX2 48 "SpinStrip$Grid" "mates" "[I" "SpinStrip" ∈ lw_nest := mn (List.mem_append_right _ (tp_1 (List.mem_of_getElem? (i := 178) rfl))) rfl
theorem q179 : Cond.fieldLink RX3 18 "SpinStrip$Grid" "mateTies" "[I" ∈ lw_good := mg (List.mem_append_right _ (tp_1 (List.mem_of_getElem? (i := 179) rfl))) rfl
theorem q180 : Cond.fieldLinkNest RX2 51 "SpinStrip$Grid" "mateTies" "[I" "SpinStrip" ∈ lw_nest := mn (List.mem_append_right _ (tp_1 (List.mem_of_getElem? (i := 180) rfl))) rfl
theorem q181 : Cond.fieldLink RX3 21 "SpinStrip$Grid" "mateCounts" "[I" ∈ lw_good := mg (List.mem_append_right _ (tp_1 (List.mem_of_getElem? (i := 181) rfl))) rfl
theorem q182 : Cond.fieldLinkNest RX2 43 "SpinStrip$Grid" "mateCounts" "[I" "SpinStrip" ∈ lw_nest := mn (List.mem_append_right _ (tp_1 (List.mem_of_getElem? (i := 182) rfl))) rfl
theorem q183 : Cond.fieldLink RX3 30 "SpinStrip$Grid" "wide" "I" ∈ lw_good := mg (List.mem_append_right _ (tp_1 (List.mem_of_getElem? (i := 183) rfl))) rfl
theorem q184 : Cond.fieldLinkNest RX11 362 "SpinStrip$Grid" "wide" "I" "SpinStrip" ∈ lw_nest := mn (List.mem_append_right _ (tp_1 (List.mem_of_getElem? (i := 184) rfl))) rfl
theorem q185 : Cond.fieldLink RX3 34 "SpinStrip$Grid" "tall" "I" ∈ lw_good := mg (List.mem_append_right _ (tp_1 (List.mem_of_getElem? (i := 185) rfl))) rfl
theorem q186 : Cond.fieldLinkNest RX11 361 "SpinStrip$Grid" "tall" "I" "SpinStrip" ∈ lw_nest := mn (List.mem_append_right _ (tp_1 (List.mem_of_getElem? (i := 186) rfl))) rfl
theorem q187 : Cond.fieldLink RX3 37 "SpinStrip$Grid" "rings" "I" ∈ lw_good := mg (List.mem_append_right _ (tp_1 (List.mem_of_getElem? (i := 187) rfl))) rfl
theorem q188 : Cond.fieldLinkNest RX11 452 "SpinStrip$Grid" "rings" "I" "SpinStrip" ∈ lw_nest := mn (List.mem_append_right _ (tp_1 (List.mem_of_getElem? (i := 188) rfl))) rfl
theorem q189 : Cond.fieldLink RX3 40 "SpinStrip$Grid" "sites" "I" ∈ lw_good := mg (List.mem_append_right _ (tp_1 (List.mem_of_getElem? (i := 189) rfl))) rfl
theorem q190 : Cond.fieldLinkNest RX0 46 "SpinStrip$Grid" "sites" "I" "SpinStrip" ∈ lw_nest := mn (List.mem_append_right _ (tp_1 (List.mem_of_getElem? (i := 190) rfl))) rfl
theorem q191 : Cond.fieldLinkNest RX10 40 "SpinStrip$Grid" "sites" "I" "SpinStrip" ∈ lw_nest := mn (List.mem_append_right _ (tp_1 (List.mem_of_getElem? (i := 191) rfl))) rfl
theorem q192 : Cond.fieldLinkNest RX11 197 "SpinStrip$Grid" "sites" "I" "SpinStrip" ∈ lw_nest := mn (List.mem_append_right _ (tp_1 (List.mem_of_getElem? (i := 192) rfl))) rfl
theorem q193 : Cond.laysFinal RX3 "SpinStrip$Grid" "ends" "[I" ∈ lw_good := mg (List.mem_append_right _ (tp_1 (List.mem_of_getElem? (i := 193) rfl))) rfl
theorem q195 : Cond.laysFinal RX3 "SpinStrip$Grid" "mates" "[I" ∈ lw_good := mg (List.mem_append_right _ (tp_1 (List.mem_of_getElem? (i := 195) rfl))) rfl
theorem q197 : Cond.laysFinal RX3 "SpinStrip$Grid" "mateTies" "[I" ∈ lw_good := mg (List.mem_append_right _ (tp_1 (List.mem_of_getElem? (i := 197) rfl))) rfl
theorem q199 : Cond.laysFinal RX3 "SpinStrip$Grid" "mateCounts" "[I" ∈ lw_good := mg (List.mem_append_right _ (tp_1 (List.mem_of_getElem? (i := 199) rfl))) rfl
theorem q201 : Cond.lays RX3 "SpinStrip$Grid" "wide" "I" ∈ lw_good := mg (List.mem_append_right _ (tp_1 (List.mem_of_getElem? (i := 201) rfl))) rfl
theorem q203 : Cond.lays RX3 "SpinStrip$Grid" "tall" "I" ∈ lw_good := mg (List.mem_append_right _ (tp_1 (List.mem_of_getElem? (i := 203) rfl))) rfl
theorem q205 : Cond.lays RX3 "SpinStrip$Grid" "rings" "I" ∈ lw_good := mg (List.mem_append_right _ (tp_1 (List.mem_of_getElem? (i := 205) rfl))) rfl
theorem q207 : Cond.lays RX3 "SpinStrip$Grid" "sites" "I" ∈ lw_good := mg (List.mem_append_right _ (tp_1 (List.mem_of_getElem? (i := 207) rfl))) rfl
theorem q210 : Cond.classLink RX11 28 RX6 ∈ lw_good := mg (List.mem_append_right _ (tp_1 (List.mem_of_getElem? (i := 210) rfl))) rfl
theorem q211 : Cond.methodLinkNest RX11 30 yX6_init "SpinStrip" ∈ lw_nest := mn (List.mem_append_right _ (tp_1 (List.mem_of_getElem? (i := 211) rfl))) rfl
theorem q212 : Cond.classLink RX11 35 RX5 ∈ lw_good := mg (List.mem_append_right _ (tp_1 (List.mem_of_getElem? (i := 212) rfl))) rfl
theorem q213 : Cond.instantiable RX5 3 ∈ lw_good := mg (List.mem_append_right _ (tp_1 (List.mem_of_getElem? (i := 213) rfl))) rfl
theorem q214 : Cond.methodLinkNest RX11 37 yX5_init "SpinStrip" ∈ lw_nest := mn (List.mem_append_right _ (tp_1 (List.mem_of_getElem? (i := 214) rfl))) rfl
theorem q215 : Cond.instanceMethod yX5_init ∈ lw_good := mg (List.mem_append_right _ (tp_1 (List.mem_of_getElem? (i := 215) rfl))) rfl
theorem q216 : Cond.code yX5_init cX5_init 2 none ∈ lw_good := mg (List.mem_append_right _ (tp_1 (List.mem_of_getElem? (i := 216) rfl))) rfl
theorem q218 : Cond.classLink RX5 9 RX6 ∈ lw_good := mg (List.mem_append_right _ (tp_1 (List.mem_of_getElem? (i := 218) rfl))) rfl
theorem q220 : Cond.methodLinkNest RX5 17 yX6_init "SpinStrip" ∈ lw_nest := mn (List.mem_append_right _ (tp_1 (List.mem_of_getElem? (i := 220) rfl))) rfl
theorem q221 : Cond.fieldLink RX5 11 "SpinStrip$Past" "kept" "[LSpinStrip$Setup;" ∈ lw_good := mg (List.mem_append_right _ (tp_1 (List.mem_of_getElem? (i := 221) rfl))) rfl
theorem q222 : Cond.fieldLink RX5 18 "SpinStrip$Past" "next" "I" ∈ lw_good := mg (List.mem_append_right _ (tp_1 (List.mem_of_getElem? (i := 222) rfl))) rfl
theorem q223 : Cond.fieldLink RX5 22 "SpinStrip$Past" "many" "I" ∈ lw_good := mg (List.mem_append_right _ (tp_1 (List.mem_of_getElem? (i := 223) rfl))) rfl
theorem q224 : Cond.fieldLinkNest RX11 439 "SpinStrip$Past" "many" "I" "SpinStrip" ∈ lw_nest := mn (List.mem_append_right _ (tp_1 (List.mem_of_getElem? (i := 224) rfl))) rfl
theorem q225 : Cond.laysFinal RX5 "SpinStrip$Past" "kept" "[LSpinStrip$Setup;" ∈ lw_good := mg (List.mem_append_right _ (tp_1 (List.mem_of_getElem? (i := 225) rfl))) rfl
theorem q227 : Cond.lays RX5 "SpinStrip$Past" "next" "I" ∈ lw_good := mg (List.mem_append_right _ (tp_1 (List.mem_of_getElem? (i := 227) rfl))) rfl
theorem q229 : Cond.lays RX5 "SpinStrip$Past" "many" "I" ∈ lw_good := mg (List.mem_append_right _ (tp_1 (List.mem_of_getElem? (i := 229) rfl))) rfl
theorem q232 : Cond.classLink RX11 42 RX7 ∈ lw_good := mg (List.mem_append_right _ (tp_1 (List.mem_of_getElem? (i := 232) rfl))) rfl
theorem q234 : Cond.instantiable RX7 4 ∈ lw_good := mg (List.mem_append_right _ (tp_1 (List.mem_of_getElem? (i := 234) rfl))) rfl
theorem q235 : Cond.methodLinkNest RX11 48 yX7_init "SpinStrip" ∈ lw_nest := mn (List.mem_append_right _ (tp_1 (List.mem_of_getElem? (i := 235) rfl))) rfl
theorem q236 : Cond.instanceMethod yX7_init ∈ lw_good := mg (List.mem_append_right _ (tp_1 (List.mem_of_getElem? (i := 236) rfl))) rfl
theorem q237 : Cond.code yX7_init cX7_init 1 none ∈ lw_good := mg (List.mem_append_right _ (tp_1 (List.mem_of_getElem? (i := 237) rfl))) rfl
theorem q239 : Cond.classLink RX7 9 RX6 ∈ lw_good := mg (List.mem_append_right _ (tp_1 (List.mem_of_getElem? (i := 239) rfl))) rfl
theorem q240 : Cond.methodLinkNest RX7 11 yX6_init "SpinStrip" ∈ lw_nest := mn (List.mem_append_right _ (tp_2 (List.mem_of_getElem? (i := 0) rfl))) rfl
theorem q241 : Cond.fieldLink RX7 12 "SpinStrip$Slot" "setup" "LSpinStrip$Setup;" ∈ lw_good := mg (List.mem_append_right _ (tp_2 (List.mem_of_getElem? (i := 1) rfl))) rfl
theorem q242 : Cond.fieldLinkNest RX11 339 "SpinStrip$Slot" "setup" "LSpinStrip$Setup;" "SpinStrip" ∈ lw_nest := mn (List.mem_append_right _ (tp_2 (List.mem_of_getElem? (i := 2) rfl))) rfl
theorem q243 : Cond.fieldLink RX7 18 "SpinStrip$Slot" "ways" "[I" ∈ lw_good := mg (List.mem_append_right _ (tp_2 (List.mem_of_getElem? (i := 3) rfl))) rfl
theorem q244 : Cond.fieldLinkNest RX11 349 "SpinStrip$Slot" "ways" "[I" "SpinStrip" ∈ lw_nest := mn (List.mem_append_right _ (tp_2 (List.mem_of_getElem? (i := 4) rfl))) rfl
theorem q245 : Cond.fieldLinkNest RX11 150 "SpinStrip$Slot" "full" "Z" "SpinStrip" ∈ lw_nest := mn (List.mem_append_right _ (tp_2 (List.mem_of_getElem? (i := 5) rfl))) rfl
theorem q246 : Cond.fieldLinkNest RX11 336 "SpinStrip$Slot" "counted" "Z" "SpinStrip" ∈ lw_nest := mn (List.mem_append_right _ (tp_2 (List.mem_of_getElem? (i := 6) rfl))) rfl
theorem q247 : Cond.laysFinal RX7 "SpinStrip$Slot" "setup" "LSpinStrip$Setup;" ∈ lw_good := mg (List.mem_append_right _ (tp_2 (List.mem_of_getElem? (i := 7) rfl))) rfl
theorem q249 : Cond.laysFinal RX7 "SpinStrip$Slot" "ways" "[I" ∈ lw_good := mg (List.mem_append_right _ (tp_2 (List.mem_of_getElem? (i := 9) rfl))) rfl
theorem q251 : Cond.lays RX7 "SpinStrip$Slot" "full" "Z" ∈ lw_good := mg (List.mem_append_right _ (tp_2 (List.mem_of_getElem? (i := 11) rfl))) rfl
theorem q253 : Cond.lays RX7 "SpinStrip$Slot" "counted" "Z" ∈ lw_good := mg (List.mem_append_right _ (tp_2 (List.mem_of_getElem? (i := 13) rfl))) rfl
theorem q256 : Cond.classLink RX11 49 RX2 ∈ lw_good := mg (List.mem_append_right _ (tp_2 (List.mem_of_getElem? (i := 16) rfl))) rfl
theorem q257 : Cond.instantiable RX2 6 ∈ lw_good := mg (List.mem_append_right _ (tp_2 (List.mem_of_getElem? (i := 17) rfl))) rfl
theorem q258 : Cond.methodLinkNest RX11 51 yX2_init "SpinStrip" ∈ lw_nest := mn (List.mem_append_right _ (tp_2 (List.mem_of_getElem? (i := 18) rfl))) rfl
theorem q259 : Cond.instanceMethod yX2_init ∈ lw_good := mg (List.mem_append_right _ (tp_2 (List.mem_of_getElem? (i := 19) rfl))) rfl
theorem q260 : Cond.code yX2_init cX2_init 1 none ∈ lw_good := mg (List.mem_append_right _ (tp_2 (List.mem_of_getElem? (i := 20) rfl))) rfl
theorem q262 : Cond.fieldLink RX2 9 "SpinStrip$Energies" "lower" "[I" ∈ lw_good := mg (List.mem_append_right _ (tp_2 (List.mem_of_getElem? (i := 22) rfl))) rfl
theorem q263 : Cond.fieldLink RX2 15 "SpinStrip$Energies" "lowerBonds" "[I" ∈ lw_good := mg (List.mem_append_right _ (tp_2 (List.mem_of_getElem? (i := 23) rfl))) rfl
theorem q264 : Cond.fieldLink RX2 37 "SpinStrip$Energies" "lowerMany" "I" ∈ lw_good := mg (List.mem_append_right _ (tp_2 (List.mem_of_getElem? (i := 24) rfl))) rfl
theorem q265 : Cond.fieldLink RX2 40 "SpinStrip$Energies" "lowest" "I" ∈ lw_good := mg (List.mem_append_right _ (tp_2 (List.mem_of_getElem? (i := 25) rfl))) rfl
theorem q266 : Cond.fieldLink RX2 18 "SpinStrip$Energies" "cells" "[I" ∈ lw_good := mg (List.mem_append_right _ (tp_2 (List.mem_of_getElem? (i := 26) rfl))) rfl
theorem q267 : Cond.fieldLink RX2 21 "SpinStrip$Energies" "stamp" "I" ∈ lw_good := mg (List.mem_append_right _ (tp_2 (List.mem_of_getElem? (i := 27) rfl))) rfl
theorem q268 : Cond.fieldLinkNest RX11 466 "SpinStrip$Energies" "stamp" "I" "SpinStrip" ∈ lw_nest := mn (List.mem_append_right _ (tp_2 (List.mem_of_getElem? (i := 28) rfl))) rfl
theorem q269 : Cond.laysFinal RX2 "SpinStrip$Energies" "lower" "[I" ∈ lw_good := mg (List.mem_append_right _ (tp_2 (List.mem_of_getElem? (i := 29) rfl))) rfl
theorem q271 : Cond.laysFinal RX2 "SpinStrip$Energies" "lowerBonds" "[I" ∈ lw_good := mg (List.mem_append_right _ (tp_2 (List.mem_of_getElem? (i := 31) rfl))) rfl
theorem q273 : Cond.lays RX2 "SpinStrip$Energies" "lowerMany" "I" ∈ lw_good := mg (List.mem_append_right _ (tp_2 (List.mem_of_getElem? (i := 33) rfl))) rfl
theorem q275 : Cond.lays RX2 "SpinStrip$Energies" "lowest" "I" ∈ lw_good := mg (List.mem_append_right _ (tp_2 (List.mem_of_getElem? (i := 35) rfl))) rfl
theorem q277 : Cond.lays RX2 "SpinStrip$Energies" "cells" "[I" ∈ lw_good := mg (List.mem_append_right _ (tp_2 (List.mem_of_getElem? (i := 37) rfl))) rfl
theorem q279 : Cond.lays RX2 "SpinStrip$Energies" "stamp" "I" ∈ lw_good := mg (List.mem_append_right _ (tp_2 (List.mem_of_getElem? (i := 39) rfl))) rfl
theorem q282 : Cond.classLink RX11 59 RX4 ∈ lw_good := mg (List.mem_append_right _ (tp_2 (List.mem_of_getElem? (i := 42) rfl))) rfl
theorem q283 : Cond.instantiable RX4 6 ∈ lw_good := mg (List.mem_append_right _ (tp_2 (List.mem_of_getElem? (i := 43) rfl))) rfl
theorem q284 : Cond.methodLinkNest RX11 61 yX4_init "SpinStrip" ∈ lw_nest := mn (List.mem_append_right _ (tp_2 (List.mem_of_getElem? (i := 44) rfl))) rfl
theorem q285 : Cond.instanceMethod yX4_init ∈ lw_good := mg (List.mem_append_right _ (tp_2 (List.mem_of_getElem? (i := 45) rfl))) rfl
theorem q286 : Cond.code yX4_init cX4_init 1 none ∈ lw_good := mg (List.mem_append_right _ (tp_2 (List.mem_of_getElem? (i := 46) rfl))) rfl
theorem q288 : Cond.fieldLink RX4 9 "SpinStrip$Levels" "ways" "[I" ∈ lw_good := mg (List.mem_append_right _ (tp_2 (List.mem_of_getElem? (i := 48) rfl))) rfl
theorem q289 : Cond.fieldLinkNest RX9 46 "SpinStrip$Levels" "ways" "[I" "SpinStrip" ∈ lw_nest := mn (List.mem_append_right _ (tp_2 (List.mem_of_getElem? (i := 49) rfl))) rfl
theorem q290 : Cond.fieldLinkNest RX11 323 "SpinStrip$Levels" "ways" "[I" "SpinStrip" ∈ lw_nest := mn (List.mem_append_right _ (tp_2 (List.mem_of_getElem? (i := 50) rfl))) rfl
theorem q291 : Cond.fieldLink RX4 15 "SpinStrip$Levels" "least" "[I" ∈ lw_good := mg (List.mem_append_right _ (tp_2 (List.mem_of_getElem? (i := 51) rfl))) rfl
theorem q292 : Cond.fieldLink RX4 18 "SpinStrip$Levels" "waysByUps" "[I" ∈ lw_good := mg (List.mem_append_right _ (tp_2 (List.mem_of_getElem? (i := 52) rfl))) rfl
theorem q293 : Cond.fieldLink RX4 21 "SpinStrip$Levels" "found" "[I" ∈ lw_good := mg (List.mem_append_right _ (tp_2 (List.mem_of_getElem? (i := 53) rfl))) rfl
theorem q294 : Cond.fieldLink RX4 54 "SpinStrip$Levels" "many" "I" ∈ lw_good := mg (List.mem_append_right _ (tp_2 (List.mem_of_getElem? (i := 54) rfl))) rfl
theorem q295 : Cond.fieldLinkNest RX11 255 "SpinStrip$Levels" "many" "I" "SpinStrip" ∈ lw_nest := mn (List.mem_append_right _ (tp_2 (List.mem_of_getElem? (i := 55) rfl))) rfl
theorem q296 : Cond.fieldLink RX4 24 "SpinStrip$Levels" "stamp" "I" ∈ lw_good := mg (List.mem_append_right _ (tp_2 (List.mem_of_getElem? (i := 56) rfl))) rfl
theorem q297 : Cond.fieldLinkNest RX11 469 "SpinStrip$Levels" "stamp" "I" "SpinStrip" ∈ lw_nest := mn (List.mem_append_right _ (tp_2 (List.mem_of_getElem? (i := 57) rfl))) rfl
theorem q298 : Cond.laysFinal RX4 "SpinStrip$Levels" "ways" "[I" ∈ lw_good := mg (List.mem_append_right _ (tp_2 (List.mem_of_getElem? (i := 58) rfl))) rfl
theorem q300 : Cond.laysFinal RX4 "SpinStrip$Levels" "least" "[I" ∈ lw_good := mg (List.mem_append_right _ (tp_2 (List.mem_of_getElem? (i := 60) rfl))) rfl
theorem q302 : Cond.laysFinal RX4 "SpinStrip$Levels" "waysByUps" "[I" ∈ lw_good := mg (List.mem_append_right _ (tp_2 (List.mem_of_getElem? (i := 62) rfl))) rfl
theorem q304 : Cond.laysFinal RX4 "SpinStrip$Levels" "found" "[I" ∈ lw_good := mg (List.mem_append_right _ (tp_2 (List.mem_of_getElem? (i := 64) rfl))) rfl
theorem q306 : Cond.lays RX4 "SpinStrip$Levels" "many" "I" ∈ lw_good := mg (List.mem_append_right _ (tp_2 (List.mem_of_getElem? (i := 66) rfl))) rfl
theorem q308 : Cond.lays RX4 "SpinStrip$Levels" "stamp" "I" ∈ lw_good := mg (List.mem_append_right _ (tp_2 (List.mem_of_getElem? (i := 68) rfl))) rfl
theorem q311 : Cond.classLink RX11 66 RX0 ∈ lw_good := mg (List.mem_append_right _ (tp_2 (List.mem_of_getElem? (i := 71) rfl))) rfl
theorem q312 : Cond.instantiable RX0 4 ∈ lw_good := mg (List.mem_append_right _ (tp_2 (List.mem_of_getElem? (i := 72) rfl))) rfl
theorem q313 : Cond.methodLinkNest RX11 68 yX0_init "SpinStrip" ∈ lw_nest := mn (List.mem_append_right _ (tp_2 (List.mem_of_getElem? (i := 73) rfl))) rfl
theorem q314 : Cond.instanceMethod yX0_init ∈ lw_good := mg (List.mem_append_right _ (tp_2 (List.mem_of_getElem? (i := 74) rfl))) rfl
theorem q315 : Cond.code yX0_init cX0_init 1 none ∈ lw_good := mg (List.mem_append_right _ (tp_2 (List.mem_of_getElem? (i := 75) rfl))) rfl
theorem q317 : Cond.fieldLink RX0 9 "SpinStrip$Breaks" "ways" "[I" ∈ lw_good := mg (List.mem_append_right _ (tp_2 (List.mem_of_getElem? (i := 77) rfl))) rfl
theorem q318 : Cond.fieldLink RX0 15 "SpinStrip$Breaks" "signs" "[I" ∈ lw_good := mg (List.mem_append_right _ (tp_2 (List.mem_of_getElem? (i := 78) rfl))) rfl
theorem q319 : Cond.fieldLink RX0 18 "SpinStrip$Breaks" "noFields" "[I" ∈ lw_good := mg (List.mem_append_right _ (tp_2 (List.mem_of_getElem? (i := 79) rfl))) rfl
theorem q320 : Cond.fieldLink RX0 21 "SpinStrip$Breaks" "stamp" "I" ∈ lw_good := mg (List.mem_append_right _ (tp_2 (List.mem_of_getElem? (i := 80) rfl))) rfl
theorem q321 : Cond.fieldLinkNest RX11 474 "SpinStrip$Breaks" "stamp" "I" "SpinStrip" ∈ lw_nest := mn (List.mem_append_right _ (tp_2 (List.mem_of_getElem? (i := 81) rfl))) rfl
theorem q322 : Cond.laysFinal RX0 "SpinStrip$Breaks" "ways" "[I" ∈ lw_good := mg (List.mem_append_right _ (tp_2 (List.mem_of_getElem? (i := 82) rfl))) rfl
theorem q324 : Cond.laysFinal RX0 "SpinStrip$Breaks" "signs" "[I" ∈ lw_good := mg (List.mem_append_right _ (tp_2 (List.mem_of_getElem? (i := 84) rfl))) rfl
theorem q326 : Cond.laysFinal RX0 "SpinStrip$Breaks" "noFields" "[I" ∈ lw_good := mg (List.mem_append_right _ (tp_2 (List.mem_of_getElem? (i := 86) rfl))) rfl
theorem q328 : Cond.lays RX0 "SpinStrip$Breaks" "stamp" "I" ∈ lw_good := mg (List.mem_append_right _ (tp_2 (List.mem_of_getElem? (i := 88) rfl))) rfl
theorem q331 : Cond.classLink RX11 73 RX9 ∈ lw_good := mg (List.mem_append_right _ (tp_2 (List.mem_of_getElem? (i := 91) rfl))) rfl
theorem q332 : Cond.instantiable RX9 11 ∈ lw_good := mg (List.mem_append_right _ (tp_2 (List.mem_of_getElem? (i := 92) rfl))) rfl
theorem q333 : Cond.methodLinkNest RX11 75 yX9_init "SpinStrip" ∈ lw_nest := mn (List.mem_append_right _ (tp_2 (List.mem_of_getElem? (i := 93) rfl))) rfl
theorem q334 : Cond.instanceMethod yX9_init ∈ lw_good := mg (List.mem_append_right _ (tp_2 (List.mem_of_getElem? (i := 94) rfl))) rfl
theorem q335 : Cond.code yX9_init cX9_init 1 none ∈ lw_good := mg (List.mem_append_right _ (tp_2 (List.mem_of_getElem? (i := 95) rfl))) rfl
theorem q337 : Cond.fieldLink RX9 9 "SpinStrip$Terrain" "order" "[I" ∈ lw_good := mg (List.mem_append_right _ (tp_2 (List.mem_of_getElem? (i := 97) rfl))) rfl
theorem q338 : Cond.fieldLink RX9 15 "SpinStrip$Terrain" "starts" "[I" ∈ lw_good := mg (List.mem_append_right _ (tp_2 (List.mem_of_getElem? (i := 98) rfl))) rfl
theorem q339 : Cond.fieldLink RX9 18 "SpinStrip$Terrain" "towards" "[I" ∈ lw_good := mg (List.mem_append_right _ (tp_2 (List.mem_of_getElem? (i := 99) rfl))) rfl
theorem q340 : Cond.fieldLink RX9 21 "SpinStrip$Terrain" "ends" "[I" ∈ lw_good := mg (List.mem_append_right _ (tp_2 (List.mem_of_getElem? (i := 100) rfl))) rfl
theorem q341 : Cond.fieldLink RX9 24 "SpinStrip$Terrain" "ways" "[J" ∈ lw_good := mg (List.mem_append_right _ (tp_2 (List.mem_of_getElem? (i := 101) rfl))) rfl
theorem q342 : Cond.fieldLink RX9 32 "SpinStrip$Terrain" "energies" "LSpinStrip$Energies;" ∈ lw_good := mg (List.mem_append_right _ (tp_2 (List.mem_of_getElem? (i := 102) rfl))) rfl
theorem q343 : Cond.fieldLink RX9 36 "SpinStrip$Terrain" "setup" "LSpinStrip$Setup;" ∈ lw_good := mg (List.mem_append_right _ (tp_2 (List.mem_of_getElem? (i := 103) rfl))) rfl
theorem q344 : Cond.fieldLink RX9 40 "SpinStrip$Terrain" "sites" "I" ∈ lw_good := mg (List.mem_append_right _ (tp_2 (List.mem_of_getElem? (i := 104) rfl))) rfl
theorem q345 : Cond.fieldLink RX9 43 "SpinStrip$Terrain" "many" "I" ∈ lw_good := mg (List.mem_append_right _ (tp_2 (List.mem_of_getElem? (i := 105) rfl))) rfl
theorem q346 : Cond.fieldLink RX9 78 "SpinStrip$Terrain" "lakes" "I" ∈ lw_good := mg (List.mem_append_right _ (tp_2 (List.mem_of_getElem? (i := 106) rfl))) rfl
theorem q347 : Cond.fieldLink RX9 28 "SpinStrip$Terrain" "stamp" "I" ∈ lw_good := mg (List.mem_append_right _ (tp_2 (List.mem_of_getElem? (i := 107) rfl))) rfl
theorem q348 : Cond.fieldLinkNest RX11 478 "SpinStrip$Terrain" "stamp" "I" "SpinStrip" ∈ lw_nest := mn (List.mem_append_right _ (tp_2 (List.mem_of_getElem? (i := 108) rfl))) rfl
theorem q349 : Cond.laysFinal RX9 "SpinStrip$Terrain" "order" "[I" ∈ lw_good := mg (List.mem_append_right _ (tp_2 (List.mem_of_getElem? (i := 109) rfl))) rfl
theorem q351 : Cond.laysFinal RX9 "SpinStrip$Terrain" "starts" "[I" ∈ lw_good := mg (List.mem_append_right _ (tp_2 (List.mem_of_getElem? (i := 111) rfl))) rfl
theorem q353 : Cond.laysFinal RX9 "SpinStrip$Terrain" "towards" "[I" ∈ lw_good := mg (List.mem_append_right _ (tp_2 (List.mem_of_getElem? (i := 113) rfl))) rfl
theorem q355 : Cond.laysFinal RX9 "SpinStrip$Terrain" "ends" "[I" ∈ lw_good := mg (List.mem_append_right _ (tp_2 (List.mem_of_getElem? (i := 115) rfl))) rfl
theorem q357 : Cond.laysFinal RX9 "SpinStrip$Terrain" "ways" "[J" ∈ lw_good := mg (List.mem_append_right _ (tp_2 (List.mem_of_getElem? (i := 117) rfl))) rfl
theorem q359 : Cond.lays RX9 "SpinStrip$Terrain" "energies" "LSpinStrip$Energies;" ∈ lw_good := mg (List.mem_append_right _ (tp_2 (List.mem_of_getElem? (i := 119) rfl))) rfl
theorem q361 : Cond.lays RX9 "SpinStrip$Terrain" "setup" "LSpinStrip$Setup;" ∈ lw_good := mg (List.mem_append_right _ (tp_2 (List.mem_of_getElem? (i := 121) rfl))) rfl
theorem q363 : Cond.lays RX9 "SpinStrip$Terrain" "sites" "I" ∈ lw_good := mg (List.mem_append_right _ (tp_2 (List.mem_of_getElem? (i := 123) rfl))) rfl
theorem q365 : Cond.lays RX9 "SpinStrip$Terrain" "many" "I" ∈ lw_good := mg (List.mem_append_right _ (tp_2 (List.mem_of_getElem? (i := 125) rfl))) rfl
theorem q367 : Cond.lays RX9 "SpinStrip$Terrain" "lakes" "I" ∈ lw_good := mg (List.mem_append_right _ (tp_2 (List.mem_of_getElem? (i := 127) rfl))) rfl
theorem q369 : Cond.lays RX9 "SpinStrip$Terrain" "stamp" "I" ∈ lw_good := mg (List.mem_append_right _ (tp_2 (List.mem_of_getElem? (i := 129) rfl))) rfl
theorem q372 : Cond.arrayClass .long ∈ lw_good := mg (List.mem_append_right _ (tp_2 (List.mem_of_getElem? (i := 132) rfl))) rfl
theorem q373 : Cond.classLink RX11 80 RX10 ∈ lw_good := mg (List.mem_append_right _ (tp_2 (List.mem_of_getElem? (i := 133) rfl))) rfl
theorem q374 : Cond.instantiable RX10 3 ∈ lw_good := mg (List.mem_append_right _ (tp_2 (List.mem_of_getElem? (i := 134) rfl))) rfl
theorem q375 : Cond.methodLinkNest RX11 82 yX10_init "SpinStrip" ∈ lw_nest := mn (List.mem_append_right _ (tp_2 (List.mem_of_getElem? (i := 135) rfl))) rfl
theorem q376 : Cond.instanceMethod yX10_init ∈ lw_good := mg (List.mem_append_right _ (tp_2 (List.mem_of_getElem? (i := 136) rfl))) rfl
theorem q377 : Cond.code yX10_init cX10_init 1 none ∈ lw_good := mg (List.mem_append_right _ (tp_2 (List.mem_of_getElem? (i := 137) rfl))) rfl
theorem q379 : Cond.fieldLink RX10 9 "SpinStrip$Walker" "bits" "I" ∈ lw_good := mg (List.mem_append_right _ (tp_2 (List.mem_of_getElem? (i := 139) rfl))) rfl
theorem q380 : Cond.fieldLinkNest RX11 221 "SpinStrip$Walker" "bits" "I" "SpinStrip" ∈ lw_nest := mn (List.mem_append_right _ (tp_2 (List.mem_of_getElem? (i := 140) rfl))) rfl
theorem q381 : Cond.fieldLink RX10 15 "SpinStrip$Walker" "turns" "I" ∈ lw_good := mg (List.mem_append_right _ (tp_2 (List.mem_of_getElem? (i := 141) rfl))) rfl
theorem q382 : Cond.fieldLinkNest RX11 218 "SpinStrip$Walker" "turns" "I" "SpinStrip" ∈ lw_nest := mn (List.mem_append_right _ (tp_2 (List.mem_of_getElem? (i := 142) rfl))) rfl
theorem q383 : Cond.fieldLink RX10 30 "SpinStrip$Walker" "leastEnergy" "I" ∈ lw_good := mg (List.mem_append_right _ (tp_2 (List.mem_of_getElem? (i := 143) rfl))) rfl
theorem q384 : Cond.fieldLinkNest RX11 405 "SpinStrip$Walker" "leastEnergy" "I" "SpinStrip" ∈ lw_nest := mn (List.mem_append_right _ (tp_2 (List.mem_of_getElem? (i := 144) rfl))) rfl
theorem q385 : Cond.lays RX10 "SpinStrip$Walker" "bits" "I" ∈ lw_good := mg (List.mem_append_right _ (tp_2 (List.mem_of_getElem? (i := 145) rfl))) rfl
theorem q387 : Cond.lays RX10 "SpinStrip$Walker" "turns" "I" ∈ lw_good := mg (List.mem_append_right _ (tp_2 (List.mem_of_getElem? (i := 147) rfl))) rfl
theorem q389 : Cond.lays RX10 "SpinStrip$Walker" "leastEnergy" "I" ∈ lw_good := mg (List.mem_append_right _ (tp_2 (List.mem_of_getElem? (i := 149) rfl))) rfl
theorem q392 : Cond.fieldLink RX11 20 "SpinStrip" "tape" "LSpinStrip$Tape;" ∈ lw_good := mg (List.mem_append_right _ (tp_2 (List.mem_of_getElem? (i := 152) rfl))) rfl
theorem q393 : Cond.fieldLink RX11 12 "SpinStrip" "draft" "LSpinStrip$Draft;" ∈ lw_good := mg (List.mem_append_right _ (tp_2 (List.mem_of_getElem? (i := 153) rfl))) rfl
theorem q394 : Cond.fieldLink RX11 24 "SpinStrip" "grid" "LSpinStrip$Grid;" ∈ lw_good := mg (List.mem_append_right _ (tp_2 (List.mem_of_getElem? (i := 154) rfl))) rfl
theorem q395 : Cond.fieldLink RX11 31 "SpinStrip" "now" "LSpinStrip$Setup;" ∈ lw_good := mg (List.mem_append_right _ (tp_2 (List.mem_of_getElem? (i := 155) rfl))) rfl
theorem q396 : Cond.fieldLink RX11 38 "SpinStrip" "past" "LSpinStrip$Past;" ∈ lw_good := mg (List.mem_append_right _ (tp_2 (List.mem_of_getElem? (i := 156) rfl))) rfl
theorem q397 : Cond.fieldLink RX11 44 "SpinStrip" "slots" "[LSpinStrip$Slot;" ∈ lw_good := mg (List.mem_append_right _ (tp_2 (List.mem_of_getElem? (i := 157) rfl))) rfl
theorem q398 : Cond.fieldLink RX11 52 "SpinStrip" "energies" "LSpinStrip$Energies;" ∈ lw_good := mg (List.mem_append_right _ (tp_2 (List.mem_of_getElem? (i := 158) rfl))) rfl
theorem q399 : Cond.fieldLink RX11 56 "SpinStrip" "aside" "LSpinStrip$Energies;" ∈ lw_good := mg (List.mem_append_right _ (tp_2 (List.mem_of_getElem? (i := 159) rfl))) rfl
theorem q400 : Cond.fieldLink RX11 62 "SpinStrip" "levels" "LSpinStrip$Levels;" ∈ lw_good := mg (List.mem_append_right _ (tp_2 (List.mem_of_getElem? (i := 160) rfl))) rfl
theorem q401 : Cond.fieldLink RX11 69 "SpinStrip" "breaks" "LSpinStrip$Breaks;" ∈ lw_good := mg (List.mem_append_right _ (tp_2 (List.mem_of_getElem? (i := 161) rfl))) rfl
theorem q402 : Cond.fieldLink RX11 76 "SpinStrip" "terrain" "LSpinStrip$Terrain;" ∈ lw_good := mg (List.mem_append_right _ (tp_2 (List.mem_of_getElem? (i := 162) rfl))) rfl
theorem q403 : Cond.fieldLink RX11 83 "SpinStrip" "walker" "LSpinStrip$Walker;" ∈ lw_good := mg (List.mem_append_right _ (tp_2 (List.mem_of_getElem? (i := 163) rfl))) rfl
theorem q404 : Cond.fieldLink RX11 87 "SpinStrip" "joinedWays" "[J" ∈ lw_good := mg (List.mem_append_right _ (tp_2 (List.mem_of_getElem? (i := 164) rfl))) rfl
theorem q405 : Cond.fieldLink RX11 91 "SpinStrip" "groundStates" "[I" ∈ lw_good := mg (List.mem_append_right _ (tp_2 (List.mem_of_getElem? (i := 165) rfl))) rfl
theorem q406 : Cond.fieldLink RX11 95 "SpinStrip" "faultPlace" "I" ∈ lw_good := mg (List.mem_append_right _ (tp_2 (List.mem_of_getElem? (i := 166) rfl))) rfl
theorem q407 : Cond.fieldLink RX11 99 "SpinStrip" "stamps" "I" ∈ lw_good := mg (List.mem_append_right _ (tp_2 (List.mem_of_getElem? (i := 167) rfl))) rfl
theorem q408 : Cond.laysFinal RX11 "SpinStrip" "tape" "LSpinStrip$Tape;" ∈ lw_good := mg (List.mem_append_right _ (tp_2 (List.mem_of_getElem? (i := 168) rfl))) rfl
theorem q410 : Cond.laysFinal RX11 "SpinStrip" "draft" "LSpinStrip$Draft;" ∈ lw_good := mg (List.mem_append_right _ (tp_2 (List.mem_of_getElem? (i := 170) rfl))) rfl
theorem q412 : Cond.laysFinal RX11 "SpinStrip" "grid" "LSpinStrip$Grid;" ∈ lw_good := mg (List.mem_append_right _ (tp_2 (List.mem_of_getElem? (i := 172) rfl))) rfl
theorem q414 : Cond.laysFinal RX11 "SpinStrip" "now" "LSpinStrip$Setup;" ∈ lw_good := mg (List.mem_append_right _ (tp_2 (List.mem_of_getElem? (i := 174) rfl))) rfl
theorem q416 : Cond.laysFinal RX11 "SpinStrip" "past" "LSpinStrip$Past;" ∈ lw_good := mg (List.mem_append_right _ (tp_2 (List.mem_of_getElem? (i := 176) rfl))) rfl
theorem q418 : Cond.laysFinal RX11 "SpinStrip" "slots" "[LSpinStrip$Slot;" ∈ lw_good := mg (List.mem_append_right _ (tp_2 (List.mem_of_getElem? (i := 178) rfl))) rfl
theorem q420 : Cond.laysFinal RX11 "SpinStrip" "energies" "LSpinStrip$Energies;" ∈ lw_good := mg (List.mem_append_right _ (tp_2 (List.mem_of_getElem? (i := 180) rfl))) rfl
theorem q422 : Cond.laysFinal RX11 "SpinStrip" "aside" "LSpinStrip$Energies;" ∈ lw_good := mg (List.mem_append_right _ (tp_2 (List.mem_of_getElem? (i := 182) rfl))) rfl
theorem q424 : Cond.laysFinal RX11 "SpinStrip" "levels" "LSpinStrip$Levels;" ∈ lw_good := mg (List.mem_append_right _ (tp_2 (List.mem_of_getElem? (i := 184) rfl))) rfl
theorem q426 : Cond.laysFinal RX11 "SpinStrip" "breaks" "LSpinStrip$Breaks;" ∈ lw_good := mg (List.mem_append_right _ (tp_2 (List.mem_of_getElem? (i := 186) rfl))) rfl
theorem q428 : Cond.laysFinal RX11 "SpinStrip" "terrain" "LSpinStrip$Terrain;" ∈ lw_good := mg (List.mem_append_right _ (tp_2 (List.mem_of_getElem? (i := 188) rfl))) rfl
theorem q430 : Cond.laysFinal RX11 "SpinStrip" "walker" "LSpinStrip$Walker;" ∈ lw_good := mg (List.mem_append_right _ (tp_2 (List.mem_of_getElem? (i := 190) rfl))) rfl
theorem q432 : Cond.laysFinal RX11 "SpinStrip" "joinedWays" "[J" ∈ lw_good := mg (List.mem_append_right _ (tp_2 (List.mem_of_getElem? (i := 192) rfl))) rfl
theorem q434 : Cond.laysFinal RX11 "SpinStrip" "groundStates" "[I" ∈ lw_good := mg (List.mem_append_right _ (tp_2 (List.mem_of_getElem? (i := 194) rfl))) rfl
theorem q436 : Cond.lays RX11 "SpinStrip" "faultPlace" "I" ∈ lw_good := mg (List.mem_append_right _ (tp_2 (List.mem_of_getElem? (i := 196) rfl))) rfl
theorem q438 : Cond.lays RX11 "SpinStrip" "stamps" "I" ∈ lw_good := mg (List.mem_append_right _ (tp_2 (List.mem_of_getElem? (i := 198) rfl))) rfl
theorem q441 : Cond.methodLink RL 13 yX11_feed ∈ lw_good := mg (List.mem_append_right _ (tp_2 (List.mem_of_getElem? (i := 201) rfl))) rfl
theorem q442 : Cond.instanceMethod yX11_feed ∈ lw_good := mg (List.mem_append_right _ (tp_2 (List.mem_of_getElem? (i := 202) rfl))) rfl
theorem q443 : Cond.selects RX11 yX11_feed yX11_feed ∈ lw_good := mg (List.mem_append_right _ (tp_2 (List.mem_of_getElem? (i := 203) rfl))) rfl
theorem q444 : Cond.code yX11_feed cX11_feed 6 (some .int) ∈ lw_good := mg (List.mem_append_right _ (tp_2 (List.mem_of_getElem? (i := 204) rfl))) rfl
theorem q445 : Cond.methodLinkNest RX11 107 yX8_addWord "SpinStrip" ∈ lw_nest := mn (List.mem_append_right _ (tp_2 (List.mem_of_getElem? (i := 205) rfl))) rfl
theorem q447 : Cond.instanceMethod yX8_addWord ∈ lw_good := mg (List.mem_append_right _ (tp_2 (List.mem_of_getElem? (i := 207) rfl))) rfl
theorem q448 : Cond.code yX8_addWord cX8_addWord 3 none ∈ lw_good := mg (List.mem_append_right _ (tp_2 (List.mem_of_getElem? (i := 208) rfl))) rfl
theorem q449 : Cond.methodLink RL 18 yX11_back ∈ lw_good := mg (List.mem_append_right _ (tp_2 (List.mem_of_getElem? (i := 209) rfl))) rfl
theorem q450 : Cond.instanceMethod yX11_back ∈ lw_good := mg (List.mem_append_right _ (tp_2 (List.mem_of_getElem? (i := 210) rfl))) rfl
theorem q451 : Cond.selects RX11 yX11_back yX11_back ∈ lw_good := mg (List.mem_append_right _ (tp_2 (List.mem_of_getElem? (i := 211) rfl))) rfl
theorem q452 : Cond.code yX11_back cX11_back 2 (some .int) ∈ lw_good := mg (List.mem_append_right _ (tp_2 (List.mem_of_getElem? (i := 212) rfl))) rfl
theorem q453 : Cond.methodLink RL 23 yX11_read ∈ lw_good := mg (List.mem_append_right _ (tp_2 (List.mem_of_getElem? (i := 213) rfl))) rfl
theorem q454 : Cond.instanceMethod yX11_read ∈ lw_good := mg (List.mem_append_right _ (tp_2 (List.mem_of_getElem? (i := 214) rfl))) rfl
theorem q455 : Cond.selects RX11 yX11_read yX11_read ∈ lw_good := mg (List.mem_append_right _ (tp_2 (List.mem_of_getElem? (i := 215) rfl))) rfl
theorem q456 : Cond.code yX11_read cX11_read 1 (some .int) ∈ lw_good := mg (List.mem_append_right _ (tp_2 (List.mem_of_getElem? (i := 216) rfl))) rfl
theorem q457 : Cond.methodLinkNest RX11 111 yX1_build "SpinStrip" ∈ lw_nest := mn (List.mem_append_right _ (tp_2 (List.mem_of_getElem? (i := 217) rfl))) rfl
theorem q459 : Cond.instanceMethod yX1_build ∈ lw_good := mg (List.mem_append_right _ (tp_2 (List.mem_of_getElem? (i := 219) rfl))) rfl
theorem q460 : Cond.code yX1_build cX1_build 3 none ∈ lw_good := mg (List.mem_append_right _ (tp_2 (List.mem_of_getElem? (i := 220) rfl))) rfl
theorem q461 : Cond.methodLink RX1 25 yX1_begin ∈ lw_good := mg (List.mem_append_right _ (tp_2 (List.mem_of_getElem? (i := 221) rfl))) rfl
theorem q463 : Cond.instanceMethod yX1_begin ∈ lw_good := mg (List.mem_append_right _ (tp_2 (List.mem_of_getElem? (i := 223) rfl))) rfl
theorem q464 : Cond.code yX1_begin cX1_begin 1 none ∈ lw_good := mg (List.mem_append_right _ (tp_2 (List.mem_of_getElem? (i := 224) rfl))) rfl
theorem q465 : Cond.methodLinkNest RX1 61 yX6_clear "SpinStrip" ∈ lw_nest := mn (List.mem_append_right _ (tp_2 (List.mem_of_getElem? (i := 225) rfl))) rfl
theorem q467 : Cond.instanceMethod yX6_clear ∈ lw_good := mg (List.mem_append_right _ (tp_2 (List.mem_of_getElem? (i := 227) rfl))) rfl
theorem q468 : Cond.code yX6_clear cX6_clear 1 none ∈ lw_good := mg (List.mem_append_right _ (tp_2 (List.mem_of_getElem? (i := 228) rfl))) rfl
theorem q469 : Cond.methodLink RX6 18 yJ7_fill_53178 ∈ lw_good := mg (List.mem_append_right _ (tp_2 (List.mem_of_getElem? (i := 229) rfl))) rfl
theorem q470 : Cond.methodLinkNest RX1 28 yX8_cut "SpinStrip" ∈ lw_nest := mn (List.mem_append_right _ (tp_2 (List.mem_of_getElem? (i := 230) rfl))) rfl
theorem q472 : Cond.instanceMethod yX8_cut ∈ lw_good := mg (List.mem_append_right _ (tp_2 (List.mem_of_getElem? (i := 232) rfl))) rfl
theorem q473 : Cond.code yX8_cut cX8_cut 3 (some .int) ∈ lw_good := mg (List.mem_append_right _ (tp_2 (List.mem_of_getElem? (i := 233) rfl))) rfl
theorem q474 : Cond.methodLink RX8 35 yX8_findToken ∈ lw_good := mg (List.mem_append_right _ (tp_2 (List.mem_of_getElem? (i := 234) rfl))) rfl
theorem q476 : Cond.instanceMethod yX8_findToken ∈ lw_good := mg (List.mem_append_right _ (tp_2 (List.mem_of_getElem? (i := 236) rfl))) rfl
theorem q477 : Cond.code yX8_findToken cX8_findToken 3 none ∈ lw_good := mg (List.mem_append_right _ (tp_2 (List.mem_of_getElem? (i := 237) rfl))) rfl
theorem q478 : Cond.methodLink RX8 55 yX8_byteAt ∈ lw_good := mg (List.mem_append_right _ (tp_2 (List.mem_of_getElem? (i := 238) rfl))) rfl
theorem q480 : Cond.instanceMethod yX8_byteAt ∈ lw_good := mg (List.mem_append_right _ (tp_3 (List.mem_of_getElem? (i := 0) rfl))) rfl
theorem q481 : Cond.code yX8_byteAt cX8_byteAt 2 (some .int) ∈ lw_good := mg (List.mem_append_right _ (tp_3 (List.mem_of_getElem? (i := 1) rfl))) rfl
theorem q482 : Cond.methodLink RX8 59 yX8_isBlank ∈ lw_good := mg (List.mem_append_right _ (tp_3 (List.mem_of_getElem? (i := 2) rfl))) rfl
theorem q483 : Cond.static yX8_isBlank ∈ lw_good := mg (List.mem_append_right _ (tp_3 (List.mem_of_getElem? (i := 3) rfl))) rfl
theorem q484 : Cond.code yX8_isBlank cX8_isBlank 1 (some .boolean) ∈ lw_good := mg (List.mem_append_right _ (tp_3 (List.mem_of_getElem? (i := 4) rfl))) rfl
theorem q485 : Cond.methodLink RX8 63 yX8_isLetter ∈ lw_good := mg (List.mem_append_right _ (tp_3 (List.mem_of_getElem? (i := 5) rfl))) rfl
theorem q486 : Cond.static yX8_isLetter ∈ lw_good := mg (List.mem_append_right _ (tp_3 (List.mem_of_getElem? (i := 6) rfl))) rfl
theorem q487 : Cond.code yX8_isLetter cX8_isLetter 1 (some .boolean) ∈ lw_good := mg (List.mem_append_right _ (tp_3 (List.mem_of_getElem? (i := 7) rfl))) rfl
theorem q488 : Cond.methodLink RX8 66 yX8_skipLetters ∈ lw_good := mg (List.mem_append_right _ (tp_3 (List.mem_of_getElem? (i := 8) rfl))) rfl
theorem q490 : Cond.instanceMethod yX8_skipLetters ∈ lw_good := mg (List.mem_append_right _ (tp_3 (List.mem_of_getElem? (i := 10) rfl))) rfl
theorem q491 : Cond.code yX8_skipLetters cX8_skipLetters 1 none ∈ lw_good := mg (List.mem_append_right _ (tp_3 (List.mem_of_getElem? (i := 11) rfl))) rfl
theorem q492 : Cond.methodLink RX8 69 yX8_wordKind ∈ lw_good := mg (List.mem_append_right _ (tp_3 (List.mem_of_getElem? (i := 12) rfl))) rfl
theorem q494 : Cond.instanceMethod yX8_wordKind ∈ lw_good := mg (List.mem_append_right _ (tp_3 (List.mem_of_getElem? (i := 14) rfl))) rfl
theorem q495 : Cond.code yX8_wordKind cX8_wordKind 1 (some .int) ∈ lw_good := mg (List.mem_append_right _ (tp_3 (List.mem_of_getElem? (i := 15) rfl))) rfl
theorem q497 : Cond.methodLink RX8 81 yX8_spells ∈ lw_good := mg (List.mem_append_right _ (tp_3 (List.mem_of_getElem? (i := 17) rfl))) rfl
theorem q499 : Cond.instanceMethod yX8_spells ∈ lw_good := mg (List.mem_append_right _ (tp_3 (List.mem_of_getElem? (i := 19) rfl))) rfl
theorem q500 : Cond.code yX8_spells cX8_spells 3 (some .boolean) ∈ lw_good := mg (List.mem_append_right _ (tp_3 (List.mem_of_getElem? (i := 20) rfl))) rfl
theorem q501 : Cond.methodLink RX8 105 yJ0_length_8abf5 ∈ lw_good := mg (List.mem_append_right _ (tp_3 (List.mem_of_getElem? (i := 21) rfl))) rfl
theorem q502 : Cond.instanceMethod yJ0_length_8abf5 ∈ lw_good := mg (List.mem_append_right _ (tp_3 (List.mem_of_getElem? (i := 22) rfl))) rfl
theorem q503 : Cond.selects RJ0 yJ0_length_8abf5 yJ0_length_8abf5 ∈ lw_good := mg (List.mem_append_right _ (tp_3 (List.mem_of_getElem? (i := 23) rfl))) rfl
theorem q504 : Cond.code yJ0_length_8abf5 cJ0_length_8abf5 1 (some .int) ∈ lw_good := mg (List.mem_append_right _ (tp_3 (List.mem_of_getElem? (i := 24) rfl))) rfl
theorem q505 : Cond.methodLink RJ0 335 yJ0_coder_7d493 ∈ lw_good := mg (List.mem_append_right _ (tp_3 (List.mem_of_getElem? (i := 25) rfl))) rfl
theorem q506 : Cond.instanceMethod yJ0_coder_7d493 ∈ lw_good := mg (List.mem_append_right _ (tp_3 (List.mem_of_getElem? (i := 26) rfl))) rfl
theorem q507 : Cond.selects RJ0 yJ0_coder_7d493 yJ0_coder_7d493 ∈ lw_good := mg (List.mem_append_right _ (tp_3 (List.mem_of_getElem? (i := 27) rfl))) rfl
theorem q508 : Cond.code yJ0_coder_7d493 cJ0_coder_7d493 1 (some .byte) ∈ lw_good := mg (List.mem_append_right _ (tp_3 (List.mem_of_getElem? (i := 28) rfl))) rfl
theorem q509 : Cond.fieldLink RJ0 38 "java/lang/String" "COMPACT_STRINGS" "Z" ∈ lw_good := mg (List.mem_append_right _ (tp_3 (List.mem_of_getElem? (i := 29) rfl))) rfl
theorem q511 : Cond.methodLink RX8 109 yJ0_charAt_5068e ∈ lw_good := mg (List.mem_append_right _ (tp_3 (List.mem_of_getElem? (i := 31) rfl))) rfl
theorem q512 : Cond.instanceMethod yJ0_charAt_5068e ∈ lw_good := mg (List.mem_append_right _ (tp_3 (List.mem_of_getElem? (i := 32) rfl))) rfl
theorem q513 : Cond.selects RJ0 yJ0_charAt_5068e yJ0_charAt_5068e ∈ lw_good := mg (List.mem_append_right _ (tp_3 (List.mem_of_getElem? (i := 33) rfl))) rfl
theorem q514 : Cond.code yJ0_charAt_5068e cJ0_charAt_5068e 2 (some .char) ∈ lw_good := mg (List.mem_append_right _ (tp_3 (List.mem_of_getElem? (i := 34) rfl))) rfl
theorem q515 : Cond.methodLink RJ0 492 yJ0_isLatin1_aae02 ∈ lw_good := mg (List.mem_append_right _ (tp_3 (List.mem_of_getElem? (i := 35) rfl))) rfl
theorem q516 : Cond.instanceMethod yJ0_isLatin1_aae02 ∈ lw_good := mg (List.mem_append_right _ (tp_3 (List.mem_of_getElem? (i := 36) rfl))) rfl
theorem q517 : Cond.selects RJ0 yJ0_isLatin1_aae02 yJ0_isLatin1_aae02 ∈ lw_good := mg (List.mem_append_right _ (tp_3 (List.mem_of_getElem? (i := 37) rfl))) rfl
theorem q518 : Cond.code yJ0_isLatin1_aae02 cJ0_isLatin1_aae02 1 (some .boolean) ∈ lw_good := mg (List.mem_append_right _ (tp_3 (List.mem_of_getElem? (i := 38) rfl))) rfl
theorem q519 : Cond.methodLink RJ0 495 yJ1_charAt_3b067 ∈ lw_good := mg (List.mem_append_right _ (tp_3 (List.mem_of_getElem? (i := 39) rfl))) rfl
theorem q520 : Cond.static yJ1_charAt_3b067 ∈ lw_good := mg (List.mem_append_right _ (tp_3 (List.mem_of_getElem? (i := 40) rfl))) rfl
theorem q521 : Cond.code yJ1_charAt_3b067 cJ1_charAt_3b067 2 (some .char) ∈ lw_good := mg (List.mem_append_right _ (tp_3 (List.mem_of_getElem? (i := 41) rfl))) rfl
theorem q522 : Cond.methodLink RJ1 9 yJ0_checkIndex_df160 ∈ lw_good := mg (List.mem_append_right _ (tp_3 (List.mem_of_getElem? (i := 42) rfl))) rfl
theorem q523 : Cond.static yJ0_checkIndex_df160 ∈ lw_good := mg (List.mem_append_right _ (tp_3 (List.mem_of_getElem? (i := 43) rfl))) rfl
theorem q524 : Cond.code yJ0_checkIndex_df160 cJ0_checkIndex_df160 2 none ∈ lw_good := mg (List.mem_append_right _ (tp_3 (List.mem_of_getElem? (i := 44) rfl))) rfl
theorem q525 : Cond.fieldLink RJ0 1053 "jdk/internal/util/Preconditions" "SIOOBE_FORMATTER" "Ljava/util/function/BiFunction;" ∈ lw_good := mg (List.mem_append_right _ (tp_3 (List.mem_of_getElem? (i := 45) rfl))) rfl
theorem q527 : Cond.methodLink RJ0 1059 yJ3_checkIndex_8e157 ∈ lw_good := mg (List.mem_append_right _ (tp_3 (List.mem_of_getElem? (i := 47) rfl))) rfl
theorem q528 : Cond.static yJ3_checkIndex_8e157 ∈ lw_good := mg (List.mem_append_right _ (tp_3 (List.mem_of_getElem? (i := 48) rfl))) rfl
theorem q529 : Cond.code yJ3_checkIndex_8e157 cJ3_checkIndex_8e157 3 (some .int) ∈ lw_good := mg (List.mem_append_right _ (tp_3 (List.mem_of_getElem? (i := 49) rfl))) rfl
theorem q530 : Cond.methodLink RJ0 498 yJ2_charAt_3b067 ∈ lw_good := mg (List.mem_append_right _ (tp_3 (List.mem_of_getElem? (i := 50) rfl))) rfl
theorem q531 : Cond.static yJ2_charAt_3b067 ∈ lw_good := mg (List.mem_append_right _ (tp_3 (List.mem_of_getElem? (i := 51) rfl))) rfl
theorem q532 : Cond.code yJ2_charAt_3b067 cJ2_charAt_3b067 2 (some .char) ∈ lw_good := mg (List.mem_append_right _ (tp_3 (List.mem_of_getElem? (i := 52) rfl))) rfl
theorem q533 : Cond.methodLink RJ2 67 yJ2_checkIndex_2214a ∈ lw_good := mg (List.mem_append_right _ (tp_3 (List.mem_of_getElem? (i := 53) rfl))) rfl
theorem q534 : Cond.static yJ2_checkIndex_2214a ∈ lw_good := mg (List.mem_append_right _ (tp_3 (List.mem_of_getElem? (i := 54) rfl))) rfl
theorem q535 : Cond.code yJ2_checkIndex_2214a cJ2_checkIndex_2214a 2 none ∈ lw_good := mg (List.mem_append_right _ (tp_3 (List.mem_of_getElem? (i := 55) rfl))) rfl
theorem q536 : Cond.methodLink RJ2 48 yJ2_length_9d52b ∈ lw_good := mg (List.mem_append_right _ (tp_3 (List.mem_of_getElem? (i := 56) rfl))) rfl
theorem q537 : Cond.static yJ2_length_9d52b ∈ lw_good := mg (List.mem_append_right _ (tp_3 (List.mem_of_getElem? (i := 57) rfl))) rfl
theorem q538 : Cond.code yJ2_length_9d52b cJ2_length_9d52b 1 (some .int) ∈ lw_good := mg (List.mem_append_right _ (tp_3 (List.mem_of_getElem? (i := 58) rfl))) rfl
theorem q539 : Cond.methodLink RJ2 414 yJ0_checkIndex_df160 ∈ lw_good := mg (List.mem_append_right _ (tp_3 (List.mem_of_getElem? (i := 59) rfl))) rfl
theorem q540 : Cond.methodLink RJ2 71 yJ2_getChar_3b067 ∈ lw_good := mg (List.mem_append_right _ (tp_3 (List.mem_of_getElem? (i := 60) rfl))) rfl
theorem q541 : Cond.static yJ2_getChar_3b067 ∈ lw_good := mg (List.mem_append_right _ (tp_3 (List.mem_of_getElem? (i := 61) rfl))) rfl
theorem q542 : Cond.code yJ2_getChar_3b067 cJ2_getChar_3b067 2 (some .char) ∈ lw_good := mg (List.mem_append_right _ (tp_3 (List.mem_of_getElem? (i := 62) rfl))) rfl
theorem q543 : Cond.fieldLink RJ2 44 "java/lang/StringUTF16" "$assertionsDisabled" "Z" ∈ lw_good := mg (List.mem_append_right _ (tp_3 (List.mem_of_getElem? (i := 63) rfl))) rfl
theorem q545 : Cond.fieldLink RJ2 59 "java/lang/StringUTF16" "HI_BYTE_SHIFT" "I" ∈ lw_good := mg (List.mem_append_right _ (tp_3 (List.mem_of_getElem? (i := 65) rfl))) rfl
theorem q547 : Cond.fieldLink RJ2 63 "java/lang/StringUTF16" "LO_BYTE_SHIFT" "I" ∈ lw_good := mg (List.mem_append_right _ (tp_3 (List.mem_of_getElem? (i := 67) rfl))) rfl
theorem q559 : Cond.methodLink RX8 73 yX8_isDigit ∈ lw_good := mg (List.mem_append_right _ (tp_3 (List.mem_of_getElem? (i := 79) rfl))) rfl
theorem q560 : Cond.static yX8_isDigit ∈ lw_good := mg (List.mem_append_right _ (tp_3 (List.mem_of_getElem? (i := 80) rfl))) rfl
theorem q561 : Cond.code yX8_isDigit cX8_isDigit 1 (some .boolean) ∈ lw_good := mg (List.mem_append_right _ (tp_3 (List.mem_of_getElem? (i := 81) rfl))) rfl
theorem q562 : Cond.methodLink RX8 76 yX8_findInt ∈ lw_good := mg (List.mem_append_right _ (tp_3 (List.mem_of_getElem? (i := 82) rfl))) rfl
theorem q564 : Cond.instanceMethod yX8_findInt ∈ lw_good := mg (List.mem_append_right _ (tp_3 (List.mem_of_getElem? (i := 84) rfl))) rfl
theorem q565 : Cond.code yX8_findInt cX8_findInt 2 none ∈ lw_good := mg (List.mem_append_right _ (tp_3 (List.mem_of_getElem? (i := 85) rfl))) rfl
theorem q566 : Cond.methodLink RX8 42 yX8_wantBehind ∈ lw_good := mg (List.mem_append_right _ (tp_3 (List.mem_of_getElem? (i := 86) rfl))) rfl
theorem q567 : Cond.static yX8_wantBehind ∈ lw_good := mg (List.mem_append_right _ (tp_3 (List.mem_of_getElem? (i := 87) rfl))) rfl
theorem q568 : Cond.code yX8_wantBehind cX8_wantBehind 4 (some .int) ∈ lw_good := mg (List.mem_append_right _ (tp_3 (List.mem_of_getElem? (i := 88) rfl))) rfl
theorem q569 : Cond.methodLink RX8 113 yX8_wantInTell ∈ lw_good := mg (List.mem_append_right _ (tp_3 (List.mem_of_getElem? (i := 89) rfl))) rfl
theorem q570 : Cond.static yX8_wantInTell ∈ lw_good := mg (List.mem_append_right _ (tp_3 (List.mem_of_getElem? (i := 90) rfl))) rfl
theorem q571 : Cond.code yX8_wantInTell cX8_wantInTell 1 (some .int) ∈ lw_good := mg (List.mem_append_right _ (tp_3 (List.mem_of_getElem? (i := 91) rfl))) rfl
theorem q572 : Cond.methodLink RX8 46 yX8_keepToken ∈ lw_good := mg (List.mem_append_right _ (tp_3 (List.mem_of_getElem? (i := 92) rfl))) rfl
theorem q574 : Cond.instanceMethod yX8_keepToken ∈ lw_good := mg (List.mem_append_right _ (tp_3 (List.mem_of_getElem? (i := 94) rfl))) rfl
theorem q575 : Cond.code yX8_keepToken cX8_keepToken 1 none ∈ lw_good := mg (List.mem_append_right _ (tp_3 (List.mem_of_getElem? (i := 95) rfl))) rfl
theorem q576 : Cond.methodLink RX1 36 yX1_blame ∈ lw_good := mg (List.mem_append_right _ (tp_3 (List.mem_of_getElem? (i := 96) rfl))) rfl
theorem q578 : Cond.instanceMethod yX1_blame ∈ lw_good := mg (List.mem_append_right _ (tp_3 (List.mem_of_getElem? (i := 98) rfl))) rfl
theorem q579 : Cond.code yX1_blame cX1_blame 3 none ∈ lw_good := mg (List.mem_append_right _ (tp_3 (List.mem_of_getElem? (i := 99) rfl))) rfl
theorem q580 : Cond.methodLink RX1 40 yX1_takeSize ∈ lw_good := mg (List.mem_append_right _ (tp_3 (List.mem_of_getElem? (i := 100) rfl))) rfl
theorem q582 : Cond.instanceMethod yX1_takeSize ∈ lw_good := mg (List.mem_append_right _ (tp_3 (List.mem_of_getElem? (i := 102) rfl))) rfl
theorem q583 : Cond.code yX1_takeSize cX1_takeSize 1 none ∈ lw_good := mg (List.mem_append_right _ (tp_3 (List.mem_of_getElem? (i := 103) rfl))) rfl
theorem q584 : Cond.methodLink RX1 92 yX1_takeKind ∈ lw_good := mg (List.mem_append_right _ (tp_3 (List.mem_of_getElem? (i := 104) rfl))) rfl
theorem q586 : Cond.instanceMethod yX1_takeKind ∈ lw_good := mg (List.mem_append_right _ (tp_3 (List.mem_of_getElem? (i := 106) rfl))) rfl
theorem q587 : Cond.code yX1_takeKind cX1_takeKind 2 (some .int) ∈ lw_good := mg (List.mem_append_right _ (tp_3 (List.mem_of_getElem? (i := 107) rfl))) rfl
theorem q588 : Cond.methodLinkNest RX1 85 yX8_kindAt "SpinStrip" ∈ lw_nest := mn (List.mem_append_right _ (tp_3 (List.mem_of_getElem? (i := 108) rfl))) rfl
theorem q590 : Cond.instanceMethod yX8_kindAt ∈ lw_good := mg (List.mem_append_right _ (tp_3 (List.mem_of_getElem? (i := 110) rfl))) rfl
theorem q591 : Cond.code yX8_kindAt cX8_kindAt 2 (some .int) ∈ lw_good := mg (List.mem_append_right _ (tp_3 (List.mem_of_getElem? (i := 111) rfl))) rfl
theorem q592 : Cond.methodLink RX1 95 yX1_takeInt ∈ lw_good := mg (List.mem_append_right _ (tp_3 (List.mem_of_getElem? (i := 112) rfl))) rfl
theorem q594 : Cond.instanceMethod yX1_takeInt ∈ lw_good := mg (List.mem_append_right _ (tp_3 (List.mem_of_getElem? (i := 114) rfl))) rfl
theorem q595 : Cond.code yX1_takeInt cX1_takeInt 2 (some .int) ∈ lw_good := mg (List.mem_append_right _ (tp_3 (List.mem_of_getElem? (i := 115) rfl))) rfl
theorem q596 : Cond.methodLinkNest RX1 89 yX8_numberAt "SpinStrip" ∈ lw_nest := mn (List.mem_append_right _ (tp_3 (List.mem_of_getElem? (i := 116) rfl))) rfl
theorem q598 : Cond.instanceMethod yX8_numberAt ∈ lw_good := mg (List.mem_append_right _ (tp_3 (List.mem_of_getElem? (i := 118) rfl))) rfl
theorem q599 : Cond.code yX8_numberAt cX8_numberAt 2 (some .int) ∈ lw_good := mg (List.mem_append_right _ (tp_3 (List.mem_of_getElem? (i := 119) rfl))) rfl
theorem q600 : Cond.methodLinkNest RX1 101 yX8_placeAt "SpinStrip" ∈ lw_nest := mn (List.mem_append_right _ (tp_3 (List.mem_of_getElem? (i := 120) rfl))) rfl
theorem q602 : Cond.instanceMethod yX8_placeAt ∈ lw_good := mg (List.mem_append_right _ (tp_3 (List.mem_of_getElem? (i := 122) rfl))) rfl
theorem q603 : Cond.code yX8_placeAt cX8_placeAt 2 (some .int) ∈ lw_good := mg (List.mem_append_right _ (tp_3 (List.mem_of_getElem? (i := 123) rfl))) rfl
theorem q604 : Cond.methodLink RX1 43 yX1_seeRings ∈ lw_good := mg (List.mem_append_right _ (tp_3 (List.mem_of_getElem? (i := 124) rfl))) rfl
theorem q606 : Cond.instanceMethod yX1_seeRings ∈ lw_good := mg (List.mem_append_right _ (tp_3 (List.mem_of_getElem? (i := 126) rfl))) rfl
theorem q607 : Cond.code yX1_seeRings cX1_seeRings 2 none ∈ lw_good := mg (List.mem_append_right _ (tp_3 (List.mem_of_getElem? (i := 127) rfl))) rfl
theorem q608 : Cond.methodLink RX1 55 yX1_takeTell ∈ lw_good := mg (List.mem_append_right _ (tp_3 (List.mem_of_getElem? (i := 128) rfl))) rfl
theorem q610 : Cond.instanceMethod yX1_takeTell ∈ lw_good := mg (List.mem_append_right _ (tp_3 (List.mem_of_getElem? (i := 130) rfl))) rfl
theorem q611 : Cond.code yX1_takeTell cX1_takeTell 1 none ∈ lw_good := mg (List.mem_append_right _ (tp_3 (List.mem_of_getElem? (i := 131) rfl))) rfl
theorem q612 : Cond.methodLink RX1 107 yX1_takeJ ∈ lw_good := mg (List.mem_append_right _ (tp_3 (List.mem_of_getElem? (i := 132) rfl))) rfl
theorem q614 : Cond.instanceMethod yX1_takeJ ∈ lw_good := mg (List.mem_append_right _ (tp_3 (List.mem_of_getElem? (i := 134) rfl))) rfl
theorem q615 : Cond.code yX1_takeJ cX1_takeJ 3 (some .int) ∈ lw_good := mg (List.mem_append_right _ (tp_3 (List.mem_of_getElem? (i := 135) rfl))) rfl
theorem q616 : Cond.methodLink RX1 110 yX1_takeTie ∈ lw_good := mg (List.mem_append_right _ (tp_3 (List.mem_of_getElem? (i := 136) rfl))) rfl
theorem q618 : Cond.instanceMethod yX1_takeTie ∈ lw_good := mg (List.mem_append_right _ (tp_3 (List.mem_of_getElem? (i := 138) rfl))) rfl
theorem q619 : Cond.code yX1_takeTie cX1_takeTie 4 none ∈ lw_good := mg (List.mem_append_right _ (tp_3 (List.mem_of_getElem? (i := 139) rfl))) rfl
theorem q620 : Cond.methodLink RX1 122 yX1_takeSite ∈ lw_good := mg (List.mem_append_right _ (tp_3 (List.mem_of_getElem? (i := 140) rfl))) rfl
theorem q622 : Cond.instanceMethod yX1_takeSite ∈ lw_good := mg (List.mem_append_right _ (tp_3 (List.mem_of_getElem? (i := 142) rfl))) rfl
theorem q623 : Cond.code yX1_takeSite cX1_takeSite 2 (some .int) ∈ lw_good := mg (List.mem_append_right _ (tp_3 (List.mem_of_getElem? (i := 143) rfl))) rfl
theorem q624 : Cond.methodLinkNest RX1 125 yX3_endOf "SpinStrip" ∈ lw_nest := mn (List.mem_append_right _ (tp_3 (List.mem_of_getElem? (i := 144) rfl))) rfl
theorem q625 : Cond.static yX3_endOf ∈ lw_good := mg (List.mem_append_right _ (tp_3 (List.mem_of_getElem? (i := 145) rfl))) rfl
theorem q626 : Cond.code yX3_endOf cX3_endOf 8 (some .int) ∈ lw_good := mg (List.mem_append_right _ (tp_3 (List.mem_of_getElem? (i := 146) rfl))) rfl
theorem q627 : Cond.methodLink RX3 47 yX3_startOf ∈ lw_good := mg (List.mem_append_right _ (tp_3 (List.mem_of_getElem? (i := 147) rfl))) rfl
theorem q628 : Cond.static yX3_startOf ∈ lw_good := mg (List.mem_append_right _ (tp_3 (List.mem_of_getElem? (i := 148) rfl))) rfl
theorem q629 : Cond.code yX3_startOf cX3_startOf 1 (some .int) ∈ lw_good := mg (List.mem_append_right _ (tp_3 (List.mem_of_getElem? (i := 149) rfl))) rfl
theorem q630 : Cond.methodLinkNest RX1 131 yX6_setBond "SpinStrip" ∈ lw_nest := mn (List.mem_append_right _ (tp_3 (List.mem_of_getElem? (i := 150) rfl))) rfl
theorem q632 : Cond.instanceMethod yX6_setBond ∈ lw_good := mg (List.mem_append_right _ (tp_3 (List.mem_of_getElem? (i := 152) rfl))) rfl
theorem q633 : Cond.code yX6_setBond cX6_setBond 3 none ∈ lw_good := mg (List.mem_append_right _ (tp_3 (List.mem_of_getElem? (i := 153) rfl))) rfl
theorem q634 : Cond.methodLink RX1 113 yX1_takePull ∈ lw_good := mg (List.mem_append_right _ (tp_3 (List.mem_of_getElem? (i := 154) rfl))) rfl
theorem q636 : Cond.instanceMethod yX1_takePull ∈ lw_good := mg (List.mem_append_right _ (tp_3 (List.mem_of_getElem? (i := 156) rfl))) rfl
theorem q637 : Cond.code yX1_takePull cX1_takePull 3 none ∈ lw_good := mg (List.mem_append_right _ (tp_3 (List.mem_of_getElem? (i := 157) rfl))) rfl
theorem q638 : Cond.methodLinkNest RX1 134 yX6_setField "SpinStrip" ∈ lw_nest := mn (List.mem_append_right _ (tp_3 (List.mem_of_getElem? (i := 158) rfl))) rfl
theorem q640 : Cond.instanceMethod yX6_setField ∈ lw_good := mg (List.mem_append_right _ (tp_3 (List.mem_of_getElem? (i := 160) rfl))) rfl
theorem q641 : Cond.code yX6_setField cX6_setField 3 none ∈ lw_good := mg (List.mem_append_right _ (tp_3 (List.mem_of_getElem? (i := 161) rfl))) rfl
theorem q642 : Cond.methodLink RX1 116 yX1_takePin ∈ lw_good := mg (List.mem_append_right _ (tp_3 (List.mem_of_getElem? (i := 162) rfl))) rfl
theorem q644 : Cond.instanceMethod yX1_takePin ∈ lw_good := mg (List.mem_append_right _ (tp_3 (List.mem_of_getElem? (i := 164) rfl))) rfl
theorem q645 : Cond.code yX1_takePin cX1_takePin 3 none ∈ lw_good := mg (List.mem_append_right _ (tp_3 (List.mem_of_getElem? (i := 165) rfl))) rfl
theorem q646 : Cond.methodLinkNest RX1 137 yX6_setPin "SpinStrip" ∈ lw_nest := mn (List.mem_append_right _ (tp_3 (List.mem_of_getElem? (i := 166) rfl))) rfl
theorem q648 : Cond.instanceMethod yX6_setPin ∈ lw_good := mg (List.mem_append_right _ (tp_3 (List.mem_of_getElem? (i := 168) rfl))) rfl
theorem q649 : Cond.code yX6_setPin cX6_setPin 4 none ∈ lw_good := mg (List.mem_append_right _ (tp_3 (List.mem_of_getElem? (i := 169) rfl))) rfl
theorem q650 : Cond.methodLink RX1 58 yX1_giveUntold ∈ lw_good := mg (List.mem_append_right _ (tp_3 (List.mem_of_getElem? (i := 170) rfl))) rfl
theorem q652 : Cond.instanceMethod yX1_giveUntold ∈ lw_good := mg (List.mem_append_right _ (tp_3 (List.mem_of_getElem? (i := 172) rfl))) rfl
theorem q653 : Cond.code yX1_giveUntold cX1_giveUntold 2 none ∈ lw_good := mg (List.mem_append_right _ (tp_3 (List.mem_of_getElem? (i := 173) rfl))) rfl
theorem q654 : Cond.methodLinkNest RX1 140 yX11_bitOf "SpinStrip" ∈ lw_nest := mn (List.mem_append_right _ (tp_3 (List.mem_of_getElem? (i := 174) rfl))) rfl
theorem q655 : Cond.static yX11_bitOf ∈ lw_good := mg (List.mem_append_right _ (tp_3 (List.mem_of_getElem? (i := 175) rfl))) rfl
theorem q656 : Cond.code yX11_bitOf cX11_bitOf 2 (some .int) ∈ lw_good := mg (List.mem_append_right _ (tp_3 (List.mem_of_getElem? (i := 176) rfl))) rfl
theorem q657 : Cond.methodLink RX11 118 yX11_beginAnew ∈ lw_good := mg (List.mem_append_right _ (tp_3 (List.mem_of_getElem? (i := 177) rfl))) rfl
theorem q659 : Cond.instanceMethod yX11_beginAnew ∈ lw_good := mg (List.mem_append_right _ (tp_3 (List.mem_of_getElem? (i := 179) rfl))) rfl
theorem q660 : Cond.code yX11_beginAnew cX11_beginAnew 2 none ∈ lw_good := mg (List.mem_append_right _ (tp_3 (List.mem_of_getElem? (i := 180) rfl))) rfl
theorem q661 : Cond.methodLinkNest RX11 130 yX3_lay "SpinStrip" ∈ lw_nest := mn (List.mem_append_right _ (tp_3 (List.mem_of_getElem? (i := 181) rfl))) rfl
theorem q663 : Cond.instanceMethod yX3_lay ∈ lw_good := mg (List.mem_append_right _ (tp_3 (List.mem_of_getElem? (i := 183) rfl))) rfl
theorem q664 : Cond.code yX3_lay cX3_lay 5 none ∈ lw_good := mg (List.mem_append_right _ (tp_3 (List.mem_of_getElem? (i := 184) rfl))) rfl
theorem q665 : Cond.methodLink RX3 43 yX3_endOf ∈ lw_good := mg (List.mem_append_right _ (tp_3 (List.mem_of_getElem? (i := 185) rfl))) rfl
theorem q666 : Cond.methodLink RX3 51 yX3_addMate ∈ lw_good := mg (List.mem_append_right _ (tp_3 (List.mem_of_getElem? (i := 186) rfl))) rfl
theorem q668 : Cond.instanceMethod yX3_addMate ∈ lw_good := mg (List.mem_append_right _ (tp_3 (List.mem_of_getElem? (i := 188) rfl))) rfl
