theorem dX4_listLevels_38 : decode cX4_listLevels 38 = .ok (.dup, 1) := dz_89 (n := 32) (r := 6) hz_X4_listLevels_32 rfl
theorem dX4_listLevels_39 : decode cX4_listLevels 39 = .ok (.getfield 54, 3) := dz_180 (n := 32) (r := 7) hz_X4_listLevels_32 rfl rfl
theorem dX4_listLevels_42 : decode cX4_listLevels 42 = .ok (.iconst 1, 1) := dz_4 (n := 32) (r := 10) hz_X4_listLevels_32 rfl
theorem dX4_listLevels_43 : decode cX4_listLevels 43 = .ok (.iadd, 1) := dz_96 (n := 32) (r := 11) hz_X4_listLevels_32 rfl
theorem dX4_listLevels_44 : decode cX4_listLevels 44 = .ok (.putfield 54, 3) := dz_181 (n := 32) (r := 12) hz_X4_listLevels_32 rfl rfl
theorem dX4_listLevels_47 : decode cX4_listLevels 47 = .ok (.iinc 1 1, 3) := dz_132 (n := 32) (r := 15) hz_X4_listLevels_32 rfl rfl rfl
theorem dX4_listLevels_50 : decode cX4_listLevels 50 = .ok (.goto (-43), 3) := dz_167 (n := 32) (r := 18) hz_X4_listLevels_32 rfl (by decide +kernel)
theorem dX4_listLevels_53 : decode cX4_listLevels 53 = .ok (.return_, 1) := dz_177 (n := 32) (r := 21) hz_X4_listLevels_32 rfl
theorem hz_X4_hasLevel_0 : (cX4_hasLevel.data.toList.drop 0).take 40 = [27, 155, 0, 15, 27, 42, 180, 0, 54, 162, 0, 7, 4, 167, 0, 4, 3, 172] := by decide +kernel
theorem dX4_hasLevel_0 : decode cX4_hasLevel 0 = .ok (.iload_n 1, 1) := dz_27 (n := 0) (r := 0) hz_X4_hasLevel_0 rfl
theorem dX4_hasLevel_1 : decode cX4_hasLevel 1 = .ok (.ifCond .lt 15, 3) := dz_155 (n := 0) (r := 1) hz_X4_hasLevel_0 rfl (by decide +kernel)
theorem dX4_hasLevel_4 : decode cX4_hasLevel 4 = .ok (.iload_n 1, 1) := dz_27 (n := 0) (r := 4) hz_X4_hasLevel_0 rfl
theorem dX4_hasLevel_5 : decode cX4_hasLevel 5 = .ok (.aload_n 0, 1) := dz_42 (n := 0) (r := 5) hz_X4_hasLevel_0 rfl
theorem dX4_hasLevel_6 : decode cX4_hasLevel 6 = .ok (.getfield 54, 3) := dz_180 (n := 0) (r := 6) hz_X4_hasLevel_0 rfl rfl
theorem dX4_hasLevel_9 : decode cX4_hasLevel 9 = .ok (.if_icmp .ge 7, 3) := dz_162 (n := 0) (r := 9) hz_X4_hasLevel_0 rfl (by decide +kernel)
theorem dX4_hasLevel_12 : decode cX4_hasLevel 12 = .ok (.iconst 1, 1) := dz_4 (n := 0) (r := 12) hz_X4_hasLevel_0 rfl
theorem dX4_hasLevel_13 : decode cX4_hasLevel 13 = .ok (.goto 4, 3) := dz_167 (n := 0) (r := 13) hz_X4_hasLevel_0 rfl (by decide +kernel)
theorem dX4_hasLevel_16 : decode cX4_hasLevel 16 = .ok (.iconst 0, 1) := dz_3 (n := 0) (r := 16) hz_X4_hasLevel_0 rfl
theorem dX4_hasLevel_17 : decode cX4_hasLevel 17 = .ok (.ireturn, 1) := dz_172 (n := 0) (r := 17) hz_X4_hasLevel_0 rfl
theorem hz_X4_energyOf_0 : (cX4_energyOf.data.toList.drop 0).take 40 = [27, 155, 0, 29, 27, 42, 180, 0, 54, 162, 0, 21, 27, 42, 180, 0, 21, 190, 162, 0, 12, 42, 180, 0, 21, 27, 46, 167, 0, 4, 3, 172] := by decide +kernel
theorem dX4_energyOf_0 : decode cX4_energyOf 0 = .ok (.iload_n 1, 1) := dz_27 (n := 0) (r := 0) hz_X4_energyOf_0 rfl
theorem dX4_energyOf_1 : decode cX4_energyOf 1 = .ok (.ifCond .lt 29, 3) := dz_155 (n := 0) (r := 1) hz_X4_energyOf_0 rfl (by decide +kernel)
theorem dX4_energyOf_4 : decode cX4_energyOf 4 = .ok (.iload_n 1, 1) := dz_27 (n := 0) (r := 4) hz_X4_energyOf_0 rfl
theorem dX4_energyOf_5 : decode cX4_energyOf 5 = .ok (.aload_n 0, 1) := dz_42 (n := 0) (r := 5) hz_X4_energyOf_0 rfl
theorem dX4_energyOf_6 : decode cX4_energyOf 6 = .ok (.getfield 54, 3) := dz_180 (n := 0) (r := 6) hz_X4_energyOf_0 rfl rfl
theorem dX4_energyOf_9 : decode cX4_energyOf 9 = .ok (.if_icmp .ge 21, 3) := dz_162 (n := 0) (r := 9) hz_X4_energyOf_0 rfl (by decide +kernel)
theorem dX4_energyOf_12 : decode cX4_energyOf 12 = .ok (.iload_n 1, 1) := dz_27 (n := 0) (r := 12) hz_X4_energyOf_0 rfl
theorem dX4_energyOf_13 : decode cX4_energyOf 13 = .ok (.aload_n 0, 1) := dz_42 (n := 0) (r := 13) hz_X4_energyOf_0 rfl
theorem dX4_energyOf_14 : decode cX4_energyOf 14 = .ok (.getfield 21, 3) := dz_180 (n := 0) (r := 14) hz_X4_energyOf_0 rfl rfl
theorem dX4_energyOf_17 : decode cX4_energyOf 17 = .ok (.arraylength, 1) := dz_190 (n := 0) (r := 17) hz_X4_energyOf_0 rfl
theorem dX4_energyOf_18 : decode cX4_energyOf 18 = .ok (.if_icmp .ge 12, 3) := dz_162 (n := 0) (r := 18) hz_X4_energyOf_0 rfl (by decide +kernel)
theorem dX4_energyOf_21 : decode cX4_energyOf 21 = .ok (.aload_n 0, 1) := dz_42 (n := 0) (r := 21) hz_X4_energyOf_0 rfl
theorem dX4_energyOf_22 : decode cX4_energyOf 22 = .ok (.getfield 21, 3) := dz_180 (n := 0) (r := 22) hz_X4_energyOf_0 rfl rfl
theorem dX4_energyOf_25 : decode cX4_energyOf 25 = .ok (.iload_n 1, 1) := dz_27 (n := 0) (r := 25) hz_X4_energyOf_0 rfl
theorem dX4_energyOf_26 : decode cX4_energyOf 26 = .ok (.iaload, 1) := dz_46 (n := 0) (r := 26) hz_X4_energyOf_0 rfl
theorem dX4_energyOf_27 : decode cX4_energyOf 27 = .ok (.goto 4, 3) := dz_167 (n := 0) (r := 27) hz_X4_energyOf_0 rfl (by decide +kernel)
theorem dX4_energyOf_30 : decode cX4_energyOf 30 = .ok (.iconst 0, 1) := dz_3 (n := 0) (r := 30) hz_X4_energyOf_0 rfl
theorem dX4_energyOf_31 : decode cX4_energyOf 31 = .ok (.ireturn, 1) := dz_172 (n := 0) (r := 31) hz_X4_energyOf_0 rfl
theorem hz_X4_numberOf_0 : (cX4_numberOf.data.toList.drop 0).take 40 = [3, 61, 28, 42, 180, 0, 54, 162, 0, 30, 28, 42, 180, 0, 21, 190, 162, 0, 21, 42, 180, 0, 21, 28, 46, 27, 160, 0, 5, 28, 172, 132, 2, 1, 167, 255, 224, 18, 57, 172] := by decide +kernel
theorem dX4_numberOf_0 : decode cX4_numberOf 0 = .ok (.iconst 0, 1) := dz_3 (n := 0) (r := 0) hz_X4_numberOf_0 rfl
theorem dX4_numberOf_1 : decode cX4_numberOf 1 = .ok (.istore_n 2, 1) := dz_61 (n := 0) (r := 1) hz_X4_numberOf_0 rfl
theorem dX4_numberOf_2 : decode cX4_numberOf 2 = .ok (.iload_n 2, 1) := dz_28 (n := 0) (r := 2) hz_X4_numberOf_0 rfl
theorem dX4_numberOf_3 : decode cX4_numberOf 3 = .ok (.aload_n 0, 1) := dz_42 (n := 0) (r := 3) hz_X4_numberOf_0 rfl
theorem dX4_numberOf_4 : decode cX4_numberOf 4 = .ok (.getfield 54, 3) := dz_180 (n := 0) (r := 4) hz_X4_numberOf_0 rfl rfl
theorem dX4_numberOf_7 : decode cX4_numberOf 7 = .ok (.if_icmp .ge 30, 3) := dz_162 (n := 0) (r := 7) hz_X4_numberOf_0 rfl (by decide +kernel)
theorem dX4_numberOf_10 : decode cX4_numberOf 10 = .ok (.iload_n 2, 1) := dz_28 (n := 0) (r := 10) hz_X4_numberOf_0 rfl
theorem dX4_numberOf_11 : decode cX4_numberOf 11 = .ok (.aload_n 0, 1) := dz_42 (n := 0) (r := 11) hz_X4_numberOf_0 rfl
theorem dX4_numberOf_12 : decode cX4_numberOf 12 = .ok (.getfield 21, 3) := dz_180 (n := 0) (r := 12) hz_X4_numberOf_0 rfl rfl
theorem dX4_numberOf_15 : decode cX4_numberOf 15 = .ok (.arraylength, 1) := dz_190 (n := 0) (r := 15) hz_X4_numberOf_0 rfl
theorem dX4_numberOf_16 : decode cX4_numberOf 16 = .ok (.if_icmp .ge 21, 3) := dz_162 (n := 0) (r := 16) hz_X4_numberOf_0 rfl (by decide +kernel)
theorem dX4_numberOf_19 : decode cX4_numberOf 19 = .ok (.aload_n 0, 1) := dz_42 (n := 0) (r := 19) hz_X4_numberOf_0 rfl
theorem dX4_numberOf_20 : decode cX4_numberOf 20 = .ok (.getfield 21, 3) := dz_180 (n := 0) (r := 20) hz_X4_numberOf_0 rfl rfl
theorem dX4_numberOf_23 : decode cX4_numberOf 23 = .ok (.iload_n 2, 1) := dz_28 (n := 0) (r := 23) hz_X4_numberOf_0 rfl
theorem dX4_numberOf_24 : decode cX4_numberOf 24 = .ok (.iaload, 1) := dz_46 (n := 0) (r := 24) hz_X4_numberOf_0 rfl
theorem dX4_numberOf_25 : decode cX4_numberOf 25 = .ok (.iload_n 1, 1) := dz_27 (n := 0) (r := 25) hz_X4_numberOf_0 rfl
theorem dX4_numberOf_26 : decode cX4_numberOf 26 = .ok (.if_icmp .ne 5, 3) := dz_160 (n := 0) (r := 26) hz_X4_numberOf_0 rfl (by decide +kernel)
theorem dX4_numberOf_29 : decode cX4_numberOf 29 = .ok (.iload_n 2, 1) := dz_28 (n := 0) (r := 29) hz_X4_numberOf_0 rfl
theorem dX4_numberOf_30 : decode cX4_numberOf 30 = .ok (.ireturn, 1) := dz_172 (n := 0) (r := 30) hz_X4_numberOf_0 rfl
theorem dX4_numberOf_31 : decode cX4_numberOf 31 = .ok (.iinc 2 1, 3) := dz_132 (n := 0) (r := 31) hz_X4_numberOf_0 rfl rfl rfl
theorem hz_X4_numberOf_32 : (cX4_numberOf.data.toList.drop 32).take 40 = [2, 1, 167, 255, 224, 18, 57, 172] := by decide +kernel
theorem dX4_numberOf_34 : decode cX4_numberOf 34 = .ok (.goto (-32), 3) := dz_167 (n := 32) (r := 2) hz_X4_numberOf_32 rfl (by decide +kernel)
theorem dX4_numberOf_37 : decode cX4_numberOf 37 = .ok (.ldc 57, 2) := dz_18 (n := 32) (r := 5) hz_X4_numberOf_32 rfl rfl
theorem dX4_numberOf_39 : decode cX4_numberOf 39 = .ok (.ireturn, 1) := dz_172 (n := 32) (r := 7) hz_X4_numberOf_32 rfl
theorem hz_X4_isEnergy_0 : (cX4_isEnergy.data.toList.drop 0).take 40 = [26, 17, 255, 112, 161, 0, 14, 26, 17, 0, 144, 163, 0, 7, 4, 167, 0, 4, 3, 172] := by decide +kernel
theorem dX4_isEnergy_0 : decode cX4_isEnergy 0 = .ok (.iload_n 0, 1) := dz_26 (n := 0) (r := 0) hz_X4_isEnergy_0 rfl
theorem dX4_isEnergy_1 : decode cX4_isEnergy 1 = .ok (.sipush (-144), 3) := dz_17 (n := 0) (r := 1) hz_X4_isEnergy_0 rfl (by decide +kernel)
theorem dX4_isEnergy_4 : decode cX4_isEnergy 4 = .ok (.if_icmp .lt 14, 3) := dz_161 (n := 0) (r := 4) hz_X4_isEnergy_0 rfl (by decide +kernel)
theorem dX4_isEnergy_7 : decode cX4_isEnergy 7 = .ok (.iload_n 0, 1) := dz_26 (n := 0) (r := 7) hz_X4_isEnergy_0 rfl
theorem dX4_isEnergy_8 : decode cX4_isEnergy 8 = .ok (.sipush 144, 3) := dz_17 (n := 0) (r := 8) hz_X4_isEnergy_0 rfl (by decide +kernel)
theorem dX4_isEnergy_11 : decode cX4_isEnergy 11 = .ok (.if_icmp .gt 7, 3) := dz_163 (n := 0) (r := 11) hz_X4_isEnergy_0 rfl (by decide +kernel)
theorem dX4_isEnergy_14 : decode cX4_isEnergy 14 = .ok (.iconst 1, 1) := dz_4 (n := 0) (r := 14) hz_X4_isEnergy_0 rfl
theorem dX4_isEnergy_15 : decode cX4_isEnergy 15 = .ok (.goto 4, 3) := dz_167 (n := 0) (r := 15) hz_X4_isEnergy_0 rfl (by decide +kernel)
theorem dX4_isEnergy_18 : decode cX4_isEnergy 18 = .ok (.iconst 0, 1) := dz_3 (n := 0) (r := 18) hz_X4_isEnergy_0 rfl
theorem dX4_isEnergy_19 : decode cX4_isEnergy 19 = .ok (.ireturn, 1) := dz_172 (n := 0) (r := 19) hz_X4_isEnergy_0 rfl
theorem hz_X4_waysOf_0 : (cX4_waysOf.data.toList.drop 0).take 40 = [27, 184, 0, 58, 153, 0, 16, 42, 180, 0, 9, 27, 17, 0, 144, 96, 46, 167, 0, 4, 3, 172] := by decide +kernel
theorem dX4_waysOf_0 : decode cX4_waysOf 0 = .ok (.iload_n 1, 1) := dz_27 (n := 0) (r := 0) hz_X4_waysOf_0 rfl
theorem dX4_waysOf_1 : decode cX4_waysOf 1 = .ok (.invokestatic 58, 3) := dz_184 (n := 0) (r := 1) hz_X4_waysOf_0 rfl rfl
theorem dX4_waysOf_4 : decode cX4_waysOf 4 = .ok (.ifCond .eq 16, 3) := dz_153 (n := 0) (r := 4) hz_X4_waysOf_0 rfl (by decide +kernel)
theorem dX4_waysOf_7 : decode cX4_waysOf 7 = .ok (.aload_n 0, 1) := dz_42 (n := 0) (r := 7) hz_X4_waysOf_0 rfl
theorem dX4_waysOf_8 : decode cX4_waysOf 8 = .ok (.getfield 9, 3) := dz_180 (n := 0) (r := 8) hz_X4_waysOf_0 rfl rfl
theorem dX4_waysOf_11 : decode cX4_waysOf 11 = .ok (.iload_n 1, 1) := dz_27 (n := 0) (r := 11) hz_X4_waysOf_0 rfl
theorem dX4_waysOf_12 : decode cX4_waysOf 12 = .ok (.sipush 144, 3) := dz_17 (n := 0) (r := 12) hz_X4_waysOf_0 rfl (by decide +kernel)
theorem dX4_waysOf_15 : decode cX4_waysOf 15 = .ok (.iadd, 1) := dz_96 (n := 0) (r := 15) hz_X4_waysOf_0 rfl
theorem dX4_waysOf_16 : decode cX4_waysOf 16 = .ok (.iaload, 1) := dz_46 (n := 0) (r := 16) hz_X4_waysOf_0 rfl
theorem dX4_waysOf_17 : decode cX4_waysOf 17 = .ok (.goto 4, 3) := dz_167 (n := 0) (r := 17) hz_X4_waysOf_0 rfl (by decide +kernel)
theorem dX4_waysOf_20 : decode cX4_waysOf 20 = .ok (.iconst 0, 1) := dz_3 (n := 0) (r := 20) hz_X4_waysOf_0 rfl
theorem dX4_waysOf_21 : decode cX4_waysOf 21 = .ok (.ireturn, 1) := dz_172 (n := 0) (r := 21) hz_X4_waysOf_0 rfl
theorem hz_X4_leastOf_0 : (cX4_leastOf.data.toList.drop 0).take 40 = [27, 184, 0, 58, 153, 0, 16, 42, 180, 0, 15, 27, 17, 0, 144, 96, 46, 167, 0, 4, 3, 172] := by decide +kernel
theorem dX4_leastOf_0 : decode cX4_leastOf 0 = .ok (.iload_n 1, 1) := dz_27 (n := 0) (r := 0) hz_X4_leastOf_0 rfl
theorem dX4_leastOf_1 : decode cX4_leastOf 1 = .ok (.invokestatic 58, 3) := dz_184 (n := 0) (r := 1) hz_X4_leastOf_0 rfl rfl
theorem dX4_leastOf_4 : decode cX4_leastOf 4 = .ok (.ifCond .eq 16, 3) := dz_153 (n := 0) (r := 4) hz_X4_leastOf_0 rfl (by decide +kernel)
theorem dX4_leastOf_7 : decode cX4_leastOf 7 = .ok (.aload_n 0, 1) := dz_42 (n := 0) (r := 7) hz_X4_leastOf_0 rfl
theorem dX4_leastOf_8 : decode cX4_leastOf 8 = .ok (.getfield 15, 3) := dz_180 (n := 0) (r := 8) hz_X4_leastOf_0 rfl rfl
theorem dX4_leastOf_11 : decode cX4_leastOf 11 = .ok (.iload_n 1, 1) := dz_27 (n := 0) (r := 11) hz_X4_leastOf_0 rfl
theorem dX4_leastOf_12 : decode cX4_leastOf 12 = .ok (.sipush 144, 3) := dz_17 (n := 0) (r := 12) hz_X4_leastOf_0 rfl (by decide +kernel)
theorem dX4_leastOf_15 : decode cX4_leastOf 15 = .ok (.iadd, 1) := dz_96 (n := 0) (r := 15) hz_X4_leastOf_0 rfl
theorem dX4_leastOf_16 : decode cX4_leastOf 16 = .ok (.iaload, 1) := dz_46 (n := 0) (r := 16) hz_X4_leastOf_0 rfl
theorem dX4_leastOf_17 : decode cX4_leastOf 17 = .ok (.goto 4, 3) := dz_167 (n := 0) (r := 17) hz_X4_leastOf_0 rfl (by decide +kernel)
theorem dX4_leastOf_20 : decode cX4_leastOf 20 = .ok (.iconst 0, 1) := dz_3 (n := 0) (r := 20) hz_X4_leastOf_0 rfl
theorem dX4_leastOf_21 : decode cX4_leastOf 21 = .ok (.ireturn, 1) := dz_172 (n := 0) (r := 21) hz_X4_leastOf_0 rfl
theorem hz_X4_waysWithUps_0 : (cX4_waysWithUps.data.toList.drop 0).take 40 = [27, 184, 0, 58, 153, 0, 17, 28, 155, 0, 13, 28, 16, 17, 162, 0, 7, 4, 167, 0, 4, 3, 62, 29, 153, 0, 21, 42, 180, 0, 18, 27, 17, 0, 144, 96, 16, 17, 104, 28] := by decide +kernel
theorem dX4_waysWithUps_0 : decode cX4_waysWithUps 0 = .ok (.iload_n 1, 1) := dz_27 (n := 0) (r := 0) hz_X4_waysWithUps_0 rfl
theorem dX4_waysWithUps_1 : decode cX4_waysWithUps 1 = .ok (.invokestatic 58, 3) := dz_184 (n := 0) (r := 1) hz_X4_waysWithUps_0 rfl rfl
theorem dX4_waysWithUps_4 : decode cX4_waysWithUps 4 = .ok (.ifCond .eq 17, 3) := dz_153 (n := 0) (r := 4) hz_X4_waysWithUps_0 rfl (by decide +kernel)
theorem dX4_waysWithUps_7 : decode cX4_waysWithUps 7 = .ok (.iload_n 2, 1) := dz_28 (n := 0) (r := 7) hz_X4_waysWithUps_0 rfl
theorem dX4_waysWithUps_8 : decode cX4_waysWithUps 8 = .ok (.ifCond .lt 13, 3) := dz_155 (n := 0) (r := 8) hz_X4_waysWithUps_0 rfl (by decide +kernel)
theorem dX4_waysWithUps_11 : decode cX4_waysWithUps 11 = .ok (.iload_n 2, 1) := dz_28 (n := 0) (r := 11) hz_X4_waysWithUps_0 rfl
theorem dX4_waysWithUps_12 : decode cX4_waysWithUps 12 = .ok (.bipush 17, 2) := dz_16 (n := 0) (r := 12) hz_X4_waysWithUps_0 rfl rfl
theorem dX4_waysWithUps_14 : decode cX4_waysWithUps 14 = .ok (.if_icmp .ge 7, 3) := dz_162 (n := 0) (r := 14) hz_X4_waysWithUps_0 rfl (by decide +kernel)
theorem dX4_waysWithUps_17 : decode cX4_waysWithUps 17 = .ok (.iconst 1, 1) := dz_4 (n := 0) (r := 17) hz_X4_waysWithUps_0 rfl
theorem dX4_waysWithUps_18 : decode cX4_waysWithUps 18 = .ok (.goto 4, 3) := dz_167 (n := 0) (r := 18) hz_X4_waysWithUps_0 rfl (by decide +kernel)
theorem dX4_waysWithUps_21 : decode cX4_waysWithUps 21 = .ok (.iconst 0, 1) := dz_3 (n := 0) (r := 21) hz_X4_waysWithUps_0 rfl
theorem dX4_waysWithUps_22 : decode cX4_waysWithUps 22 = .ok (.istore_n 3, 1) := dz_62 (n := 0) (r := 22) hz_X4_waysWithUps_0 rfl
theorem dX4_waysWithUps_23 : decode cX4_waysWithUps 23 = .ok (.iload_n 3, 1) := dz_29 (n := 0) (r := 23) hz_X4_waysWithUps_0 rfl
theorem dX4_waysWithUps_24 : decode cX4_waysWithUps 24 = .ok (.ifCond .eq 21, 3) := dz_153 (n := 0) (r := 24) hz_X4_waysWithUps_0 rfl (by decide +kernel)
theorem dX4_waysWithUps_27 : decode cX4_waysWithUps 27 = .ok (.aload_n 0, 1) := dz_42 (n := 0) (r := 27) hz_X4_waysWithUps_0 rfl
theorem dX4_waysWithUps_28 : decode cX4_waysWithUps 28 = .ok (.getfield 18, 3) := dz_180 (n := 0) (r := 28) hz_X4_waysWithUps_0 rfl rfl
theorem dX4_waysWithUps_31 : decode cX4_waysWithUps 31 = .ok (.iload_n 1, 1) := dz_27 (n := 0) (r := 31) hz_X4_waysWithUps_0 rfl
theorem hz_X4_waysWithUps_32 : (cX4_waysWithUps.data.toList.drop 32).take 40 = [17, 0, 144, 96, 16, 17, 104, 28, 96, 46, 167, 0, 4, 3, 172] := by decide +kernel
theorem dX4_waysWithUps_32 : decode cX4_waysWithUps 32 = .ok (.sipush 144, 3) := dz_17 (n := 32) (r := 0) hz_X4_waysWithUps_32 rfl (by decide +kernel)
theorem dX4_waysWithUps_35 : decode cX4_waysWithUps 35 = .ok (.iadd, 1) := dz_96 (n := 32) (r := 3) hz_X4_waysWithUps_32 rfl
theorem dX4_waysWithUps_36 : decode cX4_waysWithUps 36 = .ok (.bipush 17, 2) := dz_16 (n := 32) (r := 4) hz_X4_waysWithUps_32 rfl rfl
theorem dX4_waysWithUps_38 : decode cX4_waysWithUps 38 = .ok (.imul, 1) := dz_104 (n := 32) (r := 6) hz_X4_waysWithUps_32 rfl
theorem dX4_waysWithUps_39 : decode cX4_waysWithUps 39 = .ok (.iload_n 2, 1) := dz_28 (n := 32) (r := 7) hz_X4_waysWithUps_32 rfl
theorem dX4_waysWithUps_40 : decode cX4_waysWithUps 40 = .ok (.iadd, 1) := dz_96 (n := 32) (r := 8) hz_X4_waysWithUps_32 rfl
theorem dX4_waysWithUps_41 : decode cX4_waysWithUps 41 = .ok (.iaload, 1) := dz_46 (n := 32) (r := 9) hz_X4_waysWithUps_32 rfl
theorem dX4_waysWithUps_42 : decode cX4_waysWithUps 42 = .ok (.goto 4, 3) := dz_167 (n := 32) (r := 10) hz_X4_waysWithUps_32 rfl (by decide +kernel)
theorem dX4_waysWithUps_45 : decode cX4_waysWithUps 45 = .ok (.iconst 0, 1) := dz_3 (n := 32) (r := 13) hz_X4_waysWithUps_32 rfl
theorem dX4_waysWithUps_46 : decode cX4_waysWithUps 46 = .ok (.ireturn, 1) := dz_172 (n := 32) (r := 14) hz_X4_waysWithUps_32 rfl
theorem hz_X4_fewestUps_0 : (cX4_fewestUps.data.toList.drop 0).take 40 = [3, 61, 28, 16, 17, 162, 0, 20, 42, 27, 28, 182, 0, 61, 158, 0, 5, 28, 172, 132, 2, 1, 167, 255, 236, 18, 57, 172] := by decide +kernel
theorem dX4_fewestUps_0 : decode cX4_fewestUps 0 = .ok (.iconst 0, 1) := dz_3 (n := 0) (r := 0) hz_X4_fewestUps_0 rfl
theorem dX4_fewestUps_1 : decode cX4_fewestUps 1 = .ok (.istore_n 2, 1) := dz_61 (n := 0) (r := 1) hz_X4_fewestUps_0 rfl
theorem dX4_fewestUps_2 : decode cX4_fewestUps 2 = .ok (.iload_n 2, 1) := dz_28 (n := 0) (r := 2) hz_X4_fewestUps_0 rfl
theorem dX4_fewestUps_3 : decode cX4_fewestUps 3 = .ok (.bipush 17, 2) := dz_16 (n := 0) (r := 3) hz_X4_fewestUps_0 rfl rfl
theorem dX4_fewestUps_5 : decode cX4_fewestUps 5 = .ok (.if_icmp .ge 20, 3) := dz_162 (n := 0) (r := 5) hz_X4_fewestUps_0 rfl (by decide +kernel)
theorem dX4_fewestUps_8 : decode cX4_fewestUps 8 = .ok (.aload_n 0, 1) := dz_42 (n := 0) (r := 8) hz_X4_fewestUps_0 rfl
theorem dX4_fewestUps_9 : decode cX4_fewestUps 9 = .ok (.iload_n 1, 1) := dz_27 (n := 0) (r := 9) hz_X4_fewestUps_0 rfl
theorem dX4_fewestUps_10 : decode cX4_fewestUps 10 = .ok (.iload_n 2, 1) := dz_28 (n := 0) (r := 10) hz_X4_fewestUps_0 rfl
theorem dX4_fewestUps_11 : decode cX4_fewestUps 11 = .ok (.invokevirtual 61, 3) := dz_182 (n := 0) (r := 11) hz_X4_fewestUps_0 rfl rfl
theorem dX4_fewestUps_14 : decode cX4_fewestUps 14 = .ok (.ifCond .le 5, 3) := dz_158 (n := 0) (r := 14) hz_X4_fewestUps_0 rfl (by decide +kernel)
theorem dX4_fewestUps_17 : decode cX4_fewestUps 17 = .ok (.iload_n 2, 1) := dz_28 (n := 0) (r := 17) hz_X4_fewestUps_0 rfl
theorem dX4_fewestUps_18 : decode cX4_fewestUps 18 = .ok (.ireturn, 1) := dz_172 (n := 0) (r := 18) hz_X4_fewestUps_0 rfl
theorem dX4_fewestUps_19 : decode cX4_fewestUps 19 = .ok (.iinc 2 1, 3) := dz_132 (n := 0) (r := 19) hz_X4_fewestUps_0 rfl rfl rfl
theorem dX4_fewestUps_22 : decode cX4_fewestUps 22 = .ok (.goto (-20), 3) := dz_167 (n := 0) (r := 22) hz_X4_fewestUps_0 rfl (by decide +kernel)
theorem dX4_fewestUps_25 : decode cX4_fewestUps 25 = .ok (.ldc 57, 2) := dz_18 (n := 0) (r := 25) hz_X4_fewestUps_0 rfl rfl
theorem dX4_fewestUps_27 : decode cX4_fewestUps 27 = .ok (.ireturn, 1) := dz_172 (n := 0) (r := 27) hz_X4_fewestUps_0 rfl
theorem hz_X4_mostUps_0 : (cX4_mostUps.data.toList.drop 0).take 40 = [16, 16, 61, 28, 155, 0, 20, 42, 27, 28, 182, 0, 61, 158, 0, 5, 28, 172, 132, 2, 255, 167, 255, 238, 18, 57, 172] := by decide +kernel
theorem dX4_mostUps_0 : decode cX4_mostUps 0 = .ok (.bipush 16, 2) := dz_16 (n := 0) (r := 0) hz_X4_mostUps_0 rfl rfl
theorem dX4_mostUps_2 : decode cX4_mostUps 2 = .ok (.istore_n 2, 1) := dz_61 (n := 0) (r := 2) hz_X4_mostUps_0 rfl
theorem dX4_mostUps_3 : decode cX4_mostUps 3 = .ok (.iload_n 2, 1) := dz_28 (n := 0) (r := 3) hz_X4_mostUps_0 rfl
theorem dX4_mostUps_4 : decode cX4_mostUps 4 = .ok (.ifCond .lt 20, 3) := dz_155 (n := 0) (r := 4) hz_X4_mostUps_0 rfl (by decide +kernel)
theorem dX4_mostUps_7 : decode cX4_mostUps 7 = .ok (.aload_n 0, 1) := dz_42 (n := 0) (r := 7) hz_X4_mostUps_0 rfl
theorem dX4_mostUps_8 : decode cX4_mostUps 8 = .ok (.iload_n 1, 1) := dz_27 (n := 0) (r := 8) hz_X4_mostUps_0 rfl
theorem dX4_mostUps_9 : decode cX4_mostUps 9 = .ok (.iload_n 2, 1) := dz_28 (n := 0) (r := 9) hz_X4_mostUps_0 rfl
theorem dX4_mostUps_10 : decode cX4_mostUps 10 = .ok (.invokevirtual 61, 3) := dz_182 (n := 0) (r := 10) hz_X4_mostUps_0 rfl rfl
theorem dX4_mostUps_13 : decode cX4_mostUps 13 = .ok (.ifCond .le 5, 3) := dz_158 (n := 0) (r := 13) hz_X4_mostUps_0 rfl (by decide +kernel)
theorem dX4_mostUps_16 : decode cX4_mostUps 16 = .ok (.iload_n 2, 1) := dz_28 (n := 0) (r := 16) hz_X4_mostUps_0 rfl
theorem dX4_mostUps_17 : decode cX4_mostUps 17 = .ok (.ireturn, 1) := dz_172 (n := 0) (r := 17) hz_X4_mostUps_0 rfl
theorem dX4_mostUps_18 : decode cX4_mostUps 18 = .ok (.iinc 2 (-1), 3) := dz_132 (n := 0) (r := 18) hz_X4_mostUps_0 rfl rfl rfl
theorem dX4_mostUps_21 : decode cX4_mostUps 21 = .ok (.goto (-18), 3) := dz_167 (n := 0) (r := 21) hz_X4_mostUps_0 rfl (by decide +kernel)
theorem dX4_mostUps_24 : decode cX4_mostUps 24 = .ok (.ldc 57, 2) := dz_18 (n := 0) (r := 24) hz_X4_mostUps_0 rfl rfl
theorem dX4_mostUps_26 : decode cX4_mostUps 26 = .ok (.ireturn, 1) := dz_172 (n := 0) (r := 26) hz_X4_mostUps_0 rfl
theorem hz_X4_upsAdded_0 : (cX4_upsAdded.data.toList.drop 0).take 40 = [3, 61, 3, 62, 29, 16, 17, 162, 0, 20, 28, 29, 42, 27, 29, 182, 0, 61, 104, 96, 61, 132, 3, 1, 167, 255, 236, 28, 172] := by decide +kernel
theorem dX4_upsAdded_0 : decode cX4_upsAdded 0 = .ok (.iconst 0, 1) := dz_3 (n := 0) (r := 0) hz_X4_upsAdded_0 rfl
theorem dX4_upsAdded_1 : decode cX4_upsAdded 1 = .ok (.istore_n 2, 1) := dz_61 (n := 0) (r := 1) hz_X4_upsAdded_0 rfl
theorem dX4_upsAdded_2 : decode cX4_upsAdded 2 = .ok (.iconst 0, 1) := dz_3 (n := 0) (r := 2) hz_X4_upsAdded_0 rfl
theorem dX4_upsAdded_3 : decode cX4_upsAdded 3 = .ok (.istore_n 3, 1) := dz_62 (n := 0) (r := 3) hz_X4_upsAdded_0 rfl
theorem dX4_upsAdded_4 : decode cX4_upsAdded 4 = .ok (.iload_n 3, 1) := dz_29 (n := 0) (r := 4) hz_X4_upsAdded_0 rfl
theorem dX4_upsAdded_5 : decode cX4_upsAdded 5 = .ok (.bipush 17, 2) := dz_16 (n := 0) (r := 5) hz_X4_upsAdded_0 rfl rfl
theorem dX4_upsAdded_7 : decode cX4_upsAdded 7 = .ok (.if_icmp .ge 20, 3) := dz_162 (n := 0) (r := 7) hz_X4_upsAdded_0 rfl (by decide +kernel)
theorem dX4_upsAdded_10 : decode cX4_upsAdded 10 = .ok (.iload_n 2, 1) := dz_28 (n := 0) (r := 10) hz_X4_upsAdded_0 rfl
theorem dX4_upsAdded_11 : decode cX4_upsAdded 11 = .ok (.iload_n 3, 1) := dz_29 (n := 0) (r := 11) hz_X4_upsAdded_0 rfl
theorem dX4_upsAdded_12 : decode cX4_upsAdded 12 = .ok (.aload_n 0, 1) := dz_42 (n := 0) (r := 12) hz_X4_upsAdded_0 rfl
theorem dX4_upsAdded_13 : decode cX4_upsAdded 13 = .ok (.iload_n 1, 1) := dz_27 (n := 0) (r := 13) hz_X4_upsAdded_0 rfl
theorem dX4_upsAdded_14 : decode cX4_upsAdded 14 = .ok (.iload_n 3, 1) := dz_29 (n := 0) (r := 14) hz_X4_upsAdded_0 rfl
theorem dX4_upsAdded_15 : decode cX4_upsAdded 15 = .ok (.invokevirtual 61, 3) := dz_182 (n := 0) (r := 15) hz_X4_upsAdded_0 rfl rfl
theorem dX4_upsAdded_18 : decode cX4_upsAdded 18 = .ok (.imul, 1) := dz_104 (n := 0) (r := 18) hz_X4_upsAdded_0 rfl
theorem dX4_upsAdded_19 : decode cX4_upsAdded 19 = .ok (.iadd, 1) := dz_96 (n := 0) (r := 19) hz_X4_upsAdded_0 rfl
theorem dX4_upsAdded_20 : decode cX4_upsAdded 20 = .ok (.istore_n 2, 1) := dz_61 (n := 0) (r := 20) hz_X4_upsAdded_0 rfl
theorem dX4_upsAdded_21 : decode cX4_upsAdded 21 = .ok (.iinc 3 1, 3) := dz_132 (n := 0) (r := 21) hz_X4_upsAdded_0 rfl rfl rfl
theorem dX4_upsAdded_24 : decode cX4_upsAdded 24 = .ok (.goto (-20), 3) := dz_167 (n := 0) (r := 24) hz_X4_upsAdded_0 rfl (by decide +kernel)
theorem dX4_upsAdded_27 : decode cX4_upsAdded 27 = .ok (.iload_n 2, 1) := dz_28 (n := 0) (r := 27) hz_X4_upsAdded_0 rfl
theorem dX4_upsAdded_28 : decode cX4_upsAdded 28 = .ok (.ireturn, 1) := dz_172 (n := 0) (r := 28) hz_X4_upsAdded_0 rfl
theorem hz_X5_init_0 : (cX5_init.data.toList.drop 0).take 40 = [42, 183, 0, 3, 42, 16, 40, 189, 0, 9, 181, 0, 11, 3, 60, 27, 42, 180, 0, 11, 190, 162, 0, 22, 42, 180, 0, 11, 27, 187, 0, 9, 89, 183, 0, 17, 83, 132, 1, 1] := by decide +kernel
theorem dX5_init_0 : decode cX5_init 0 = .ok (.aload_n 0, 1) := dz_42 (n := 0) (r := 0) hz_X5_init_0 rfl
theorem dX5_init_1 : decode cX5_init 1 = .ok (.invokespecial 3, 3) := dz_183 (n := 0) (r := 1) hz_X5_init_0 rfl rfl
theorem dX5_init_4 : decode cX5_init 4 = .ok (.aload_n 0, 1) := dz_42 (n := 0) (r := 4) hz_X5_init_0 rfl
theorem dX5_init_5 : decode cX5_init 5 = .ok (.bipush 40, 2) := dz_16 (n := 0) (r := 5) hz_X5_init_0 rfl rfl
theorem dX5_init_7 : decode cX5_init 7 = .ok (.anewarray 9, 3) := dz_189 (n := 0) (r := 7) hz_X5_init_0 rfl rfl
theorem dX5_init_10 : decode cX5_init 10 = .ok (.putfield 11, 3) := dz_181 (n := 0) (r := 10) hz_X5_init_0 rfl rfl
theorem dX5_init_13 : decode cX5_init 13 = .ok (.iconst 0, 1) := dz_3 (n := 0) (r := 13) hz_X5_init_0 rfl
theorem dX5_init_14 : decode cX5_init 14 = .ok (.istore_n 1, 1) := dz_60 (n := 0) (r := 14) hz_X5_init_0 rfl
theorem dX5_init_15 : decode cX5_init 15 = .ok (.iload_n 1, 1) := dz_27 (n := 0) (r := 15) hz_X5_init_0 rfl
theorem dX5_init_16 : decode cX5_init 16 = .ok (.aload_n 0, 1) := dz_42 (n := 0) (r := 16) hz_X5_init_0 rfl
theorem dX5_init_17 : decode cX5_init 17 = .ok (.getfield 11, 3) := dz_180 (n := 0) (r := 17) hz_X5_init_0 rfl rfl
theorem dX5_init_20 : decode cX5_init 20 = .ok (.arraylength, 1) := dz_190 (n := 0) (r := 20) hz_X5_init_0 rfl
theorem dX5_init_21 : decode cX5_init 21 = .ok (.if_icmp .ge 22, 3) := dz_162 (n := 0) (r := 21) hz_X5_init_0 rfl (by decide +kernel)
theorem dX5_init_24 : decode cX5_init 24 = .ok (.aload_n 0, 1) := dz_42 (n := 0) (r := 24) hz_X5_init_0 rfl
theorem dX5_init_25 : decode cX5_init 25 = .ok (.getfield 11, 3) := dz_180 (n := 0) (r := 25) hz_X5_init_0 rfl rfl
theorem dX5_init_28 : decode cX5_init 28 = .ok (.iload_n 1, 1) := dz_27 (n := 0) (r := 28) hz_X5_init_0 rfl
theorem dX5_init_29 : decode cX5_init 29 = .ok (.new 9, 3) := dz_187 (n := 0) (r := 29) hz_X5_init_0 rfl rfl
theorem hz_X5_init_32 : (cX5_init.data.toList.drop 32).take 40 = [89, 183, 0, 17, 83, 132, 1, 1, 167, 255, 231, 177] := by decide +kernel
theorem dX5_init_32 : decode cX5_init 32 = .ok (.dup, 1) := dz_89 (n := 32) (r := 0) hz_X5_init_32 rfl
theorem dX5_init_33 : decode cX5_init 33 = .ok (.invokespecial 17, 3) := dz_183 (n := 32) (r := 1) hz_X5_init_32 rfl rfl
theorem dX5_init_36 : decode cX5_init 36 = .ok (.aastore, 1) := dz_83 (n := 32) (r := 4) hz_X5_init_32 rfl
theorem dX5_init_37 : decode cX5_init 37 = .ok (.iinc 1 1, 3) := dz_132 (n := 32) (r := 5) hz_X5_init_32 rfl rfl rfl
theorem dX5_init_40 : decode cX5_init 40 = .ok (.goto (-25), 3) := dz_167 (n := 32) (r := 8) hz_X5_init_32 rfl (by decide +kernel)
theorem dX5_init_43 : decode cX5_init 43 = .ok (.return_, 1) := dz_177 (n := 32) (r := 11) hz_X5_init_32 rfl
theorem hz_X5_forget_0 : (cX5_forget.data.toList.drop 0).take 40 = [42, 3, 181, 0, 18, 42, 3, 181, 0, 22, 177] := by decide +kernel
theorem dX5_forget_0 : decode cX5_forget 0 = .ok (.aload_n 0, 1) := dz_42 (n := 0) (r := 0) hz_X5_forget_0 rfl
theorem dX5_forget_1 : decode cX5_forget 1 = .ok (.iconst 0, 1) := dz_3 (n := 0) (r := 1) hz_X5_forget_0 rfl
theorem dX5_forget_2 : decode cX5_forget 2 = .ok (.putfield 18, 3) := dz_181 (n := 0) (r := 2) hz_X5_forget_0 rfl rfl
theorem dX5_forget_5 : decode cX5_forget 5 = .ok (.aload_n 0, 1) := dz_42 (n := 0) (r := 5) hz_X5_forget_0 rfl
theorem dX5_forget_6 : decode cX5_forget 6 = .ok (.iconst 0, 1) := dz_3 (n := 0) (r := 6) hz_X5_forget_0 rfl
theorem dX5_forget_7 : decode cX5_forget 7 = .ok (.putfield 22, 3) := dz_181 (n := 0) (r := 7) hz_X5_forget_0 rfl rfl
theorem dX5_forget_10 : decode cX5_forget 10 = .ok (.return_, 1) := dz_177 (n := 0) (r := 10) hz_X5_forget_0 rfl
theorem hz_X5_keep_0 : (cX5_keep.data.toList.drop 0).take 40 = [42, 180, 0, 18, 155, 0, 15, 42, 180, 0, 18, 42, 180, 0, 11, 190, 161, 0, 4, 177, 42, 180, 0, 11, 42, 180, 0, 18, 50, 43, 182, 0, 25, 42, 42, 180, 0, 18, 4, 96] := by decide +kernel
theorem dX5_keep_0 : decode cX5_keep 0 = .ok (.aload_n 0, 1) := dz_42 (n := 0) (r := 0) hz_X5_keep_0 rfl
theorem dX5_keep_1 : decode cX5_keep 1 = .ok (.getfield 18, 3) := dz_180 (n := 0) (r := 1) hz_X5_keep_0 rfl rfl
theorem dX5_keep_4 : decode cX5_keep 4 = .ok (.ifCond .lt 15, 3) := dz_155 (n := 0) (r := 4) hz_X5_keep_0 rfl (by decide +kernel)
theorem dX5_keep_7 : decode cX5_keep 7 = .ok (.aload_n 0, 1) := dz_42 (n := 0) (r := 7) hz_X5_keep_0 rfl
theorem dX5_keep_8 : decode cX5_keep 8 = .ok (.getfield 18, 3) := dz_180 (n := 0) (r := 8) hz_X5_keep_0 rfl rfl
theorem dX5_keep_11 : decode cX5_keep 11 = .ok (.aload_n 0, 1) := dz_42 (n := 0) (r := 11) hz_X5_keep_0 rfl
theorem dX5_keep_12 : decode cX5_keep 12 = .ok (.getfield 11, 3) := dz_180 (n := 0) (r := 12) hz_X5_keep_0 rfl rfl
theorem dX5_keep_15 : decode cX5_keep 15 = .ok (.arraylength, 1) := dz_190 (n := 0) (r := 15) hz_X5_keep_0 rfl
theorem dX5_keep_16 : decode cX5_keep 16 = .ok (.if_icmp .lt 4, 3) := dz_161 (n := 0) (r := 16) hz_X5_keep_0 rfl (by decide +kernel)
theorem dX5_keep_19 : decode cX5_keep 19 = .ok (.return_, 1) := dz_177 (n := 0) (r := 19) hz_X5_keep_0 rfl
theorem dX5_keep_20 : decode cX5_keep 20 = .ok (.aload_n 0, 1) := dz_42 (n := 0) (r := 20) hz_X5_keep_0 rfl
theorem dX5_keep_21 : decode cX5_keep 21 = .ok (.getfield 11, 3) := dz_180 (n := 0) (r := 21) hz_X5_keep_0 rfl rfl
theorem dX5_keep_24 : decode cX5_keep 24 = .ok (.aload_n 0, 1) := dz_42 (n := 0) (r := 24) hz_X5_keep_0 rfl
theorem dX5_keep_25 : decode cX5_keep 25 = .ok (.getfield 18, 3) := dz_180 (n := 0) (r := 25) hz_X5_keep_0 rfl rfl
theorem dX5_keep_28 : decode cX5_keep 28 = .ok (.aaload, 1) := dz_50 (n := 0) (r := 28) hz_X5_keep_0 rfl
theorem dX5_keep_29 : decode cX5_keep 29 = .ok (.aload_n 1, 1) := dz_43 (n := 0) (r := 29) hz_X5_keep_0 rfl
theorem dX5_keep_30 : decode cX5_keep 30 = .ok (.invokevirtual 25, 3) := dz_182 (n := 0) (r := 30) hz_X5_keep_0 rfl rfl
theorem hz_X5_keep_32 : (cX5_keep.data.toList.drop 32).take 40 = [25, 42, 42, 180, 0, 18, 4, 96, 16, 40, 162, 0, 12, 42, 180, 0, 18, 4, 96, 167, 0, 4, 3, 181, 0, 18, 42, 42, 180, 0, 22, 4, 96, 16, 40, 184, 0, 29, 181, 0] := by decide +kernel
theorem dX5_keep_33 : decode cX5_keep 33 = .ok (.aload_n 0, 1) := dz_42 (n := 32) (r := 1) hz_X5_keep_32 rfl
theorem dX5_keep_34 : decode cX5_keep 34 = .ok (.aload_n 0, 1) := dz_42 (n := 32) (r := 2) hz_X5_keep_32 rfl
theorem dX5_keep_35 : decode cX5_keep 35 = .ok (.getfield 18, 3) := dz_180 (n := 32) (r := 3) hz_X5_keep_32 rfl rfl
theorem dX5_keep_38 : decode cX5_keep 38 = .ok (.iconst 1, 1) := dz_4 (n := 32) (r := 6) hz_X5_keep_32 rfl
theorem dX5_keep_39 : decode cX5_keep 39 = .ok (.iadd, 1) := dz_96 (n := 32) (r := 7) hz_X5_keep_32 rfl
theorem dX5_keep_40 : decode cX5_keep 40 = .ok (.bipush 40, 2) := dz_16 (n := 32) (r := 8) hz_X5_keep_32 rfl rfl
theorem dX5_keep_42 : decode cX5_keep 42 = .ok (.if_icmp .ge 12, 3) := dz_162 (n := 32) (r := 10) hz_X5_keep_32 rfl (by decide +kernel)
theorem dX5_keep_45 : decode cX5_keep 45 = .ok (.aload_n 0, 1) := dz_42 (n := 32) (r := 13) hz_X5_keep_32 rfl
theorem dX5_keep_46 : decode cX5_keep 46 = .ok (.getfield 18, 3) := dz_180 (n := 32) (r := 14) hz_X5_keep_32 rfl rfl
theorem dX5_keep_49 : decode cX5_keep 49 = .ok (.iconst 1, 1) := dz_4 (n := 32) (r := 17) hz_X5_keep_32 rfl
theorem dX5_keep_50 : decode cX5_keep 50 = .ok (.iadd, 1) := dz_96 (n := 32) (r := 18) hz_X5_keep_32 rfl
theorem dX5_keep_51 : decode cX5_keep 51 = .ok (.goto 4, 3) := dz_167 (n := 32) (r := 19) hz_X5_keep_32 rfl (by decide +kernel)
theorem dX5_keep_54 : decode cX5_keep 54 = .ok (.iconst 0, 1) := dz_3 (n := 32) (r := 22) hz_X5_keep_32 rfl
theorem dX5_keep_55 : decode cX5_keep 55 = .ok (.putfield 18, 3) := dz_181 (n := 32) (r := 23) hz_X5_keep_32 rfl rfl
theorem dX5_keep_58 : decode cX5_keep 58 = .ok (.aload_n 0, 1) := dz_42 (n := 32) (r := 26) hz_X5_keep_32 rfl
theorem dX5_keep_59 : decode cX5_keep 59 = .ok (.aload_n 0, 1) := dz_42 (n := 32) (r := 27) hz_X5_keep_32 rfl
theorem dX5_keep_60 : decode cX5_keep 60 = .ok (.getfield 22, 3) := dz_180 (n := 32) (r := 28) hz_X5_keep_32 rfl rfl
theorem dX5_keep_63 : decode cX5_keep 63 = .ok (.iconst 1, 1) := dz_4 (n := 32) (r := 31) hz_X5_keep_32 rfl
theorem hz_X5_keep_64 : (cX5_keep.data.toList.drop 64).take 40 = [96, 16, 40, 184, 0, 29, 181, 0, 22, 177] := by decide +kernel
theorem dX5_keep_64 : decode cX5_keep 64 = .ok (.iadd, 1) := dz_96 (n := 64) (r := 0) hz_X5_keep_64 rfl
theorem dX5_keep_65 : decode cX5_keep 65 = .ok (.bipush 40, 2) := dz_16 (n := 64) (r := 1) hz_X5_keep_64 rfl rfl
theorem dX5_keep_67 : decode cX5_keep 67 = .ok (.invokestatic 29, 3) := dz_184 (n := 64) (r := 3) hz_X5_keep_64 rfl rfl
theorem dX5_keep_70 : decode cX5_keep 70 = .ok (.putfield 22, 3) := dz_181 (n := 64) (r := 6) hz_X5_keep_64 rfl rfl
theorem dX5_keep_73 : decode cX5_keep 73 = .ok (.return_, 1) := dz_177 (n := 64) (r := 9) hz_X5_keep_64 rfl
theorem hz_X5_giveBack_0 : (cX5_giveBack.data.toList.drop 0).take 40 = [42, 180, 0, 18, 158, 0, 12, 42, 180, 0, 18, 4, 100, 167, 0, 5, 16, 39, 61, 42, 180, 0, 22, 153, 0, 12, 28, 42, 180, 0, 11, 190, 161, 0, 5, 3, 172, 43, 42, 180] := by decide +kernel
theorem dX5_giveBack_0 : decode cX5_giveBack 0 = .ok (.aload_n 0, 1) := dz_42 (n := 0) (r := 0) hz_X5_giveBack_0 rfl
theorem dX5_giveBack_1 : decode cX5_giveBack 1 = .ok (.getfield 18, 3) := dz_180 (n := 0) (r := 1) hz_X5_giveBack_0 rfl rfl
theorem dX5_giveBack_4 : decode cX5_giveBack 4 = .ok (.ifCond .le 12, 3) := dz_158 (n := 0) (r := 4) hz_X5_giveBack_0 rfl (by decide +kernel)
theorem dX5_giveBack_7 : decode cX5_giveBack 7 = .ok (.aload_n 0, 1) := dz_42 (n := 0) (r := 7) hz_X5_giveBack_0 rfl
theorem dX5_giveBack_8 : decode cX5_giveBack 8 = .ok (.getfield 18, 3) := dz_180 (n := 0) (r := 8) hz_X5_giveBack_0 rfl rfl
theorem dX5_giveBack_11 : decode cX5_giveBack 11 = .ok (.iconst 1, 1) := dz_4 (n := 0) (r := 11) hz_X5_giveBack_0 rfl
theorem dX5_giveBack_12 : decode cX5_giveBack 12 = .ok (.isub, 1) := dz_100 (n := 0) (r := 12) hz_X5_giveBack_0 rfl
theorem dX5_giveBack_13 : decode cX5_giveBack 13 = .ok (.goto 5, 3) := dz_167 (n := 0) (r := 13) hz_X5_giveBack_0 rfl (by decide +kernel)
theorem dX5_giveBack_16 : decode cX5_giveBack 16 = .ok (.bipush 39, 2) := dz_16 (n := 0) (r := 16) hz_X5_giveBack_0 rfl rfl
theorem dX5_giveBack_18 : decode cX5_giveBack 18 = .ok (.istore_n 2, 1) := dz_61 (n := 0) (r := 18) hz_X5_giveBack_0 rfl
theorem dX5_giveBack_19 : decode cX5_giveBack 19 = .ok (.aload_n 0, 1) := dz_42 (n := 0) (r := 19) hz_X5_giveBack_0 rfl
theorem dX5_giveBack_20 : decode cX5_giveBack 20 = .ok (.getfield 22, 3) := dz_180 (n := 0) (r := 20) hz_X5_giveBack_0 rfl rfl
theorem dX5_giveBack_23 : decode cX5_giveBack 23 = .ok (.ifCond .eq 12, 3) := dz_153 (n := 0) (r := 23) hz_X5_giveBack_0 rfl (by decide +kernel)
theorem dX5_giveBack_26 : decode cX5_giveBack 26 = .ok (.iload_n 2, 1) := dz_28 (n := 0) (r := 26) hz_X5_giveBack_0 rfl
theorem dX5_giveBack_27 : decode cX5_giveBack 27 = .ok (.aload_n 0, 1) := dz_42 (n := 0) (r := 27) hz_X5_giveBack_0 rfl
theorem dX5_giveBack_28 : decode cX5_giveBack 28 = .ok (.getfield 11, 3) := dz_180 (n := 0) (r := 28) hz_X5_giveBack_0 rfl rfl
theorem dX5_giveBack_31 : decode cX5_giveBack 31 = .ok (.arraylength, 1) := dz_190 (n := 0) (r := 31) hz_X5_giveBack_0 rfl
theorem hz_X5_giveBack_32 : (cX5_giveBack.data.toList.drop 32).take 40 = [161, 0, 5, 3, 172, 43, 42, 180, 0, 11, 28, 50, 182, 0, 25, 42, 28, 181, 0, 18, 42, 89, 180, 0, 22, 4, 100, 181, 0, 22, 4, 172] := by decide +kernel
theorem dX5_giveBack_32 : decode cX5_giveBack 32 = .ok (.if_icmp .lt 5, 3) := dz_161 (n := 32) (r := 0) hz_X5_giveBack_32 rfl (by decide +kernel)
theorem dX5_giveBack_35 : decode cX5_giveBack 35 = .ok (.iconst 0, 1) := dz_3 (n := 32) (r := 3) hz_X5_giveBack_32 rfl
theorem dX5_giveBack_36 : decode cX5_giveBack 36 = .ok (.ireturn, 1) := dz_172 (n := 32) (r := 4) hz_X5_giveBack_32 rfl
theorem dX5_giveBack_37 : decode cX5_giveBack 37 = .ok (.aload_n 1, 1) := dz_43 (n := 32) (r := 5) hz_X5_giveBack_32 rfl
theorem dX5_giveBack_38 : decode cX5_giveBack 38 = .ok (.aload_n 0, 1) := dz_42 (n := 32) (r := 6) hz_X5_giveBack_32 rfl
theorem dX5_giveBack_39 : decode cX5_giveBack 39 = .ok (.getfield 11, 3) := dz_180 (n := 32) (r := 7) hz_X5_giveBack_32 rfl rfl
theorem dX5_giveBack_42 : decode cX5_giveBack 42 = .ok (.iload_n 2, 1) := dz_28 (n := 32) (r := 10) hz_X5_giveBack_32 rfl
theorem dX5_giveBack_43 : decode cX5_giveBack 43 = .ok (.aaload, 1) := dz_50 (n := 32) (r := 11) hz_X5_giveBack_32 rfl
theorem dX5_giveBack_44 : decode cX5_giveBack 44 = .ok (.invokevirtual 25, 3) := dz_182 (n := 32) (r := 12) hz_X5_giveBack_32 rfl rfl
theorem dX5_giveBack_47 : decode cX5_giveBack 47 = .ok (.aload_n 0, 1) := dz_42 (n := 32) (r := 15) hz_X5_giveBack_32 rfl
theorem dX5_giveBack_48 : decode cX5_giveBack 48 = .ok (.iload_n 2, 1) := dz_28 (n := 32) (r := 16) hz_X5_giveBack_32 rfl
theorem dX5_giveBack_49 : decode cX5_giveBack 49 = .ok (.putfield 18, 3) := dz_181 (n := 32) (r := 17) hz_X5_giveBack_32 rfl rfl
theorem dX5_giveBack_52 : decode cX5_giveBack 52 = .ok (.aload_n 0, 1) := dz_42 (n := 32) (r := 20) hz_X5_giveBack_32 rfl
theorem dX5_giveBack_53 : decode cX5_giveBack 53 = .ok (.dup, 1) := dz_89 (n := 32) (r := 21) hz_X5_giveBack_32 rfl
theorem dX5_giveBack_54 : decode cX5_giveBack 54 = .ok (.getfield 22, 3) := dz_180 (n := 32) (r := 22) hz_X5_giveBack_32 rfl rfl
theorem dX5_giveBack_57 : decode cX5_giveBack 57 = .ok (.iconst 1, 1) := dz_4 (n := 32) (r := 25) hz_X5_giveBack_32 rfl
theorem dX5_giveBack_58 : decode cX5_giveBack 58 = .ok (.isub, 1) := dz_100 (n := 32) (r := 26) hz_X5_giveBack_32 rfl
theorem dX5_giveBack_59 : decode cX5_giveBack 59 = .ok (.putfield 22, 3) := dz_181 (n := 32) (r := 27) hz_X5_giveBack_32 rfl rfl
theorem dX5_giveBack_62 : decode cX5_giveBack 62 = .ok (.iconst 1, 1) := dz_4 (n := 32) (r := 30) hz_X5_giveBack_32 rfl
theorem dX5_giveBack_63 : decode cX5_giveBack 63 = .ok (.ireturn, 1) := dz_172 (n := 32) (r := 31) hz_X5_giveBack_32 rfl
theorem hz_X6_init_0 : (cX6_init.data.toList.drop 0).take 40 = [42, 183, 0, 3, 42, 16, 32, 188, 10, 181, 0, 9, 42, 16, 16, 188, 10, 181, 0, 15, 177] := by decide +kernel
theorem dX6_init_0 : decode cX6_init 0 = .ok (.aload_n 0, 1) := dz_42 (n := 0) (r := 0) hz_X6_init_0 rfl
theorem dX6_init_1 : decode cX6_init 1 = .ok (.invokespecial 3, 3) := dz_183 (n := 0) (r := 1) hz_X6_init_0 rfl rfl
theorem dX6_init_4 : decode cX6_init 4 = .ok (.aload_n 0, 1) := dz_42 (n := 0) (r := 4) hz_X6_init_0 rfl
theorem dX6_init_5 : decode cX6_init 5 = .ok (.bipush 32, 2) := dz_16 (n := 0) (r := 5) hz_X6_init_0 rfl rfl
theorem dX6_init_7 : decode cX6_init 7 = .ok (.newarray .int, 2) := dz_188_10 (n := 0) (r := 7) hz_X6_init_0 rfl
theorem dX6_init_9 : decode cX6_init 9 = .ok (.putfield 9, 3) := dz_181 (n := 0) (r := 9) hz_X6_init_0 rfl rfl
theorem dX6_init_12 : decode cX6_init 12 = .ok (.aload_n 0, 1) := dz_42 (n := 0) (r := 12) hz_X6_init_0 rfl
theorem dX6_init_13 : decode cX6_init 13 = .ok (.bipush 16, 2) := dz_16 (n := 0) (r := 13) hz_X6_init_0 rfl rfl
theorem dX6_init_15 : decode cX6_init 15 = .ok (.newarray .int, 2) := dz_188_10 (n := 0) (r := 15) hz_X6_init_0 rfl
theorem dX6_init_17 : decode cX6_init 17 = .ok (.putfield 15, 3) := dz_181 (n := 0) (r := 17) hz_X6_init_0 rfl rfl
theorem dX6_init_20 : decode cX6_init 20 = .ok (.return_, 1) := dz_177 (n := 0) (r := 20) hz_X6_init_0 rfl
theorem hz_X6_clear_0 : (cX6_clear.data.toList.drop 0).take 40 = [42, 180, 0, 9, 3, 184, 0, 18, 42, 180, 0, 15, 3, 184, 0, 18, 42, 3, 181, 0, 24, 42, 3, 181, 0, 28, 42, 3, 181, 0, 31, 42, 3, 181, 0, 34, 177] := by decide +kernel
theorem dX6_clear_0 : decode cX6_clear 0 = .ok (.aload_n 0, 1) := dz_42 (n := 0) (r := 0) hz_X6_clear_0 rfl
theorem dX6_clear_1 : decode cX6_clear 1 = .ok (.getfield 9, 3) := dz_180 (n := 0) (r := 1) hz_X6_clear_0 rfl rfl
theorem dX6_clear_4 : decode cX6_clear 4 = .ok (.iconst 0, 1) := dz_3 (n := 0) (r := 4) hz_X6_clear_0 rfl
theorem dX6_clear_5 : decode cX6_clear 5 = .ok (.invokestatic 18, 3) := dz_184 (n := 0) (r := 5) hz_X6_clear_0 rfl rfl
theorem dX6_clear_8 : decode cX6_clear 8 = .ok (.aload_n 0, 1) := dz_42 (n := 0) (r := 8) hz_X6_clear_0 rfl
theorem dX6_clear_9 : decode cX6_clear 9 = .ok (.getfield 15, 3) := dz_180 (n := 0) (r := 9) hz_X6_clear_0 rfl rfl
theorem dX6_clear_12 : decode cX6_clear 12 = .ok (.iconst 0, 1) := dz_3 (n := 0) (r := 12) hz_X6_clear_0 rfl
theorem dX6_clear_13 : decode cX6_clear 13 = .ok (.invokestatic 18, 3) := dz_184 (n := 0) (r := 13) hz_X6_clear_0 rfl rfl
theorem dX6_clear_16 : decode cX6_clear 16 = .ok (.aload_n 0, 1) := dz_42 (n := 0) (r := 16) hz_X6_clear_0 rfl
theorem dX6_clear_17 : decode cX6_clear 17 = .ok (.iconst 0, 1) := dz_3 (n := 0) (r := 17) hz_X6_clear_0 rfl
theorem dX6_clear_18 : decode cX6_clear 18 = .ok (.putfield 24, 3) := dz_181 (n := 0) (r := 18) hz_X6_clear_0 rfl rfl
theorem dX6_clear_21 : decode cX6_clear 21 = .ok (.aload_n 0, 1) := dz_42 (n := 0) (r := 21) hz_X6_clear_0 rfl
theorem dX6_clear_22 : decode cX6_clear 22 = .ok (.iconst 0, 1) := dz_3 (n := 0) (r := 22) hz_X6_clear_0 rfl
theorem dX6_clear_23 : decode cX6_clear 23 = .ok (.putfield 28, 3) := dz_181 (n := 0) (r := 23) hz_X6_clear_0 rfl rfl
theorem dX6_clear_26 : decode cX6_clear 26 = .ok (.aload_n 0, 1) := dz_42 (n := 0) (r := 26) hz_X6_clear_0 rfl
theorem dX6_clear_27 : decode cX6_clear 27 = .ok (.iconst 0, 1) := dz_3 (n := 0) (r := 27) hz_X6_clear_0 rfl
theorem dX6_clear_28 : decode cX6_clear 28 = .ok (.putfield 31, 3) := dz_181 (n := 0) (r := 28) hz_X6_clear_0 rfl rfl
theorem dX6_clear_31 : decode cX6_clear 31 = .ok (.aload_n 0, 1) := dz_42 (n := 0) (r := 31) hz_X6_clear_0 rfl
theorem hz_X6_clear_32 : (cX6_clear.data.toList.drop 32).take 40 = [3, 181, 0, 34, 177] := by decide +kernel
theorem dX6_clear_32 : decode cX6_clear 32 = .ok (.iconst 0, 1) := dz_3 (n := 32) (r := 0) hz_X6_clear_32 rfl
theorem dX6_clear_33 : decode cX6_clear 33 = .ok (.putfield 34, 3) := dz_181 (n := 32) (r := 1) hz_X6_clear_32 rfl rfl
theorem dX6_clear_36 : decode cX6_clear 36 = .ok (.return_, 1) := dz_177 (n := 32) (r := 4) hz_X6_clear_32 rfl
theorem hz_X6_copyFrom_0 : (cX6_copyFrom.data.toList.drop 0).take 40 = [43, 180, 0, 9, 3, 42, 180, 0, 9, 3, 16, 32, 184, 0, 37, 43, 180, 0, 15, 3, 42, 180, 0, 15, 3, 16, 16, 184, 0, 37, 42, 43, 180, 0, 24, 181, 0, 24, 42, 43] := by decide +kernel
theorem dX6_copyFrom_0 : decode cX6_copyFrom 0 = .ok (.aload_n 1, 1) := dz_43 (n := 0) (r := 0) hz_X6_copyFrom_0 rfl
theorem dX6_copyFrom_1 : decode cX6_copyFrom 1 = .ok (.getfield 9, 3) := dz_180 (n := 0) (r := 1) hz_X6_copyFrom_0 rfl rfl
theorem dX6_copyFrom_4 : decode cX6_copyFrom 4 = .ok (.iconst 0, 1) := dz_3 (n := 0) (r := 4) hz_X6_copyFrom_0 rfl
theorem dX6_copyFrom_5 : decode cX6_copyFrom 5 = .ok (.aload_n 0, 1) := dz_42 (n := 0) (r := 5) hz_X6_copyFrom_0 rfl
theorem dX6_copyFrom_6 : decode cX6_copyFrom 6 = .ok (.getfield 9, 3) := dz_180 (n := 0) (r := 6) hz_X6_copyFrom_0 rfl rfl
theorem dX6_copyFrom_9 : decode cX6_copyFrom 9 = .ok (.iconst 0, 1) := dz_3 (n := 0) (r := 9) hz_X6_copyFrom_0 rfl
theorem dX6_copyFrom_10 : decode cX6_copyFrom 10 = .ok (.bipush 32, 2) := dz_16 (n := 0) (r := 10) hz_X6_copyFrom_0 rfl rfl
theorem dX6_copyFrom_12 : decode cX6_copyFrom 12 = .ok (.invokestatic 37, 3) := dz_184 (n := 0) (r := 12) hz_X6_copyFrom_0 rfl rfl
theorem dX6_copyFrom_15 : decode cX6_copyFrom 15 = .ok (.aload_n 1, 1) := dz_43 (n := 0) (r := 15) hz_X6_copyFrom_0 rfl
theorem dX6_copyFrom_16 : decode cX6_copyFrom 16 = .ok (.getfield 15, 3) := dz_180 (n := 0) (r := 16) hz_X6_copyFrom_0 rfl rfl
theorem dX6_copyFrom_19 : decode cX6_copyFrom 19 = .ok (.iconst 0, 1) := dz_3 (n := 0) (r := 19) hz_X6_copyFrom_0 rfl
theorem dX6_copyFrom_20 : decode cX6_copyFrom 20 = .ok (.aload_n 0, 1) := dz_42 (n := 0) (r := 20) hz_X6_copyFrom_0 rfl
theorem dX6_copyFrom_21 : decode cX6_copyFrom 21 = .ok (.getfield 15, 3) := dz_180 (n := 0) (r := 21) hz_X6_copyFrom_0 rfl rfl
theorem dX6_copyFrom_24 : decode cX6_copyFrom 24 = .ok (.iconst 0, 1) := dz_3 (n := 0) (r := 24) hz_X6_copyFrom_0 rfl
theorem dX6_copyFrom_25 : decode cX6_copyFrom 25 = .ok (.bipush 16, 2) := dz_16 (n := 0) (r := 25) hz_X6_copyFrom_0 rfl rfl
theorem dX6_copyFrom_27 : decode cX6_copyFrom 27 = .ok (.invokestatic 37, 3) := dz_184 (n := 0) (r := 27) hz_X6_copyFrom_0 rfl rfl
theorem dX6_copyFrom_30 : decode cX6_copyFrom 30 = .ok (.aload_n 0, 1) := dz_42 (n := 0) (r := 30) hz_X6_copyFrom_0 rfl
theorem dX6_copyFrom_31 : decode cX6_copyFrom 31 = .ok (.aload_n 1, 1) := dz_43 (n := 0) (r := 31) hz_X6_copyFrom_0 rfl
theorem hz_X6_copyFrom_32 : (cX6_copyFrom.data.toList.drop 32).take 40 = [180, 0, 24, 181, 0, 24, 42, 43, 180, 0, 28, 181, 0, 28, 42, 43, 180, 0, 31, 181, 0, 31, 42, 43, 180, 0, 34, 181, 0, 34, 42, 43, 180, 0, 43, 181, 0, 43, 42, 43] := by decide +kernel
theorem dX6_copyFrom_32 : decode cX6_copyFrom 32 = .ok (.getfield 24, 3) := dz_180 (n := 32) (r := 0) hz_X6_copyFrom_32 rfl rfl
theorem dX6_copyFrom_35 : decode cX6_copyFrom 35 = .ok (.putfield 24, 3) := dz_181 (n := 32) (r := 3) hz_X6_copyFrom_32 rfl rfl
theorem dX6_copyFrom_38 : decode cX6_copyFrom 38 = .ok (.aload_n 0, 1) := dz_42 (n := 32) (r := 6) hz_X6_copyFrom_32 rfl
theorem dX6_copyFrom_39 : decode cX6_copyFrom 39 = .ok (.aload_n 1, 1) := dz_43 (n := 32) (r := 7) hz_X6_copyFrom_32 rfl
theorem dX6_copyFrom_40 : decode cX6_copyFrom 40 = .ok (.getfield 28, 3) := dz_180 (n := 32) (r := 8) hz_X6_copyFrom_32 rfl rfl
theorem dX6_copyFrom_43 : decode cX6_copyFrom 43 = .ok (.putfield 28, 3) := dz_181 (n := 32) (r := 11) hz_X6_copyFrom_32 rfl rfl
theorem dX6_copyFrom_46 : decode cX6_copyFrom 46 = .ok (.aload_n 0, 1) := dz_42 (n := 32) (r := 14) hz_X6_copyFrom_32 rfl
theorem dX6_copyFrom_47 : decode cX6_copyFrom 47 = .ok (.aload_n 1, 1) := dz_43 (n := 32) (r := 15) hz_X6_copyFrom_32 rfl
theorem dX6_copyFrom_48 : decode cX6_copyFrom 48 = .ok (.getfield 31, 3) := dz_180 (n := 32) (r := 16) hz_X6_copyFrom_32 rfl rfl
theorem dX6_copyFrom_51 : decode cX6_copyFrom 51 = .ok (.putfield 31, 3) := dz_181 (n := 32) (r := 19) hz_X6_copyFrom_32 rfl rfl
theorem dX6_copyFrom_54 : decode cX6_copyFrom 54 = .ok (.aload_n 0, 1) := dz_42 (n := 32) (r := 22) hz_X6_copyFrom_32 rfl
theorem dX6_copyFrom_55 : decode cX6_copyFrom 55 = .ok (.aload_n 1, 1) := dz_43 (n := 32) (r := 23) hz_X6_copyFrom_32 rfl
theorem dX6_copyFrom_56 : decode cX6_copyFrom 56 = .ok (.getfield 34, 3) := dz_180 (n := 32) (r := 24) hz_X6_copyFrom_32 rfl rfl
theorem dX6_copyFrom_59 : decode cX6_copyFrom 59 = .ok (.putfield 34, 3) := dz_181 (n := 32) (r := 27) hz_X6_copyFrom_32 rfl rfl
theorem dX6_copyFrom_62 : decode cX6_copyFrom 62 = .ok (.aload_n 0, 1) := dz_42 (n := 32) (r := 30) hz_X6_copyFrom_32 rfl
theorem dX6_copyFrom_63 : decode cX6_copyFrom 63 = .ok (.aload_n 1, 1) := dz_43 (n := 32) (r := 31) hz_X6_copyFrom_32 rfl
theorem hz_X6_copyFrom_64 : (cX6_copyFrom.data.toList.drop 64).take 40 = [180, 0, 43, 181, 0, 43, 42, 43, 180, 0, 46, 181, 0, 46, 177] := by decide +kernel
theorem dX6_copyFrom_64 : decode cX6_copyFrom 64 = .ok (.getfield 43, 3) := dz_180 (n := 64) (r := 0) hz_X6_copyFrom_64 rfl rfl
theorem dX6_copyFrom_67 : decode cX6_copyFrom 67 = .ok (.putfield 43, 3) := dz_181 (n := 64) (r := 3) hz_X6_copyFrom_64 rfl rfl
theorem dX6_copyFrom_70 : decode cX6_copyFrom 70 = .ok (.aload_n 0, 1) := dz_42 (n := 64) (r := 6) hz_X6_copyFrom_64 rfl
theorem dX6_copyFrom_71 : decode cX6_copyFrom 71 = .ok (.aload_n 1, 1) := dz_43 (n := 64) (r := 7) hz_X6_copyFrom_64 rfl
theorem dX6_copyFrom_72 : decode cX6_copyFrom 72 = .ok (.getfield 46, 3) := dz_180 (n := 64) (r := 8) hz_X6_copyFrom_64 rfl rfl
theorem dX6_copyFrom_75 : decode cX6_copyFrom 75 = .ok (.putfield 46, 3) := dz_181 (n := 64) (r := 11) hz_X6_copyFrom_64 rfl rfl
theorem dX6_copyFrom_78 : decode cX6_copyFrom 78 = .ok (.return_, 1) := dz_177 (n := 64) (r := 14) hz_X6_copyFrom_64 rfl
theorem hz_X6_bondAt_0 : (cX6_bondAt.data.toList.drop 0).take 40 = [27, 155, 0, 21, 27, 42, 180, 0, 9, 190, 162, 0, 12, 42, 180, 0, 9, 27, 46, 167, 0, 4, 3, 172] := by decide +kernel
theorem dX6_bondAt_0 : decode cX6_bondAt 0 = .ok (.iload_n 1, 1) := dz_27 (n := 0) (r := 0) hz_X6_bondAt_0 rfl
theorem dX6_bondAt_1 : decode cX6_bondAt 1 = .ok (.ifCond .lt 21, 3) := dz_155 (n := 0) (r := 1) hz_X6_bondAt_0 rfl (by decide +kernel)
theorem dX6_bondAt_4 : decode cX6_bondAt 4 = .ok (.iload_n 1, 1) := dz_27 (n := 0) (r := 4) hz_X6_bondAt_0 rfl
theorem dX6_bondAt_5 : decode cX6_bondAt 5 = .ok (.aload_n 0, 1) := dz_42 (n := 0) (r := 5) hz_X6_bondAt_0 rfl
theorem dX6_bondAt_6 : decode cX6_bondAt 6 = .ok (.getfield 9, 3) := dz_180 (n := 0) (r := 6) hz_X6_bondAt_0 rfl rfl
theorem dX6_bondAt_9 : decode cX6_bondAt 9 = .ok (.arraylength, 1) := dz_190 (n := 0) (r := 9) hz_X6_bondAt_0 rfl
theorem dX6_bondAt_10 : decode cX6_bondAt 10 = .ok (.if_icmp .ge 12, 3) := dz_162 (n := 0) (r := 10) hz_X6_bondAt_0 rfl (by decide +kernel)
theorem dX6_bondAt_13 : decode cX6_bondAt 13 = .ok (.aload_n 0, 1) := dz_42 (n := 0) (r := 13) hz_X6_bondAt_0 rfl
theorem dX6_bondAt_14 : decode cX6_bondAt 14 = .ok (.getfield 9, 3) := dz_180 (n := 0) (r := 14) hz_X6_bondAt_0 rfl rfl
theorem dX6_bondAt_17 : decode cX6_bondAt 17 = .ok (.iload_n 1, 1) := dz_27 (n := 0) (r := 17) hz_X6_bondAt_0 rfl
theorem dX6_bondAt_18 : decode cX6_bondAt 18 = .ok (.iaload, 1) := dz_46 (n := 0) (r := 18) hz_X6_bondAt_0 rfl
theorem dX6_bondAt_19 : decode cX6_bondAt 19 = .ok (.goto 4, 3) := dz_167 (n := 0) (r := 19) hz_X6_bondAt_0 rfl (by decide +kernel)
theorem dX6_bondAt_22 : decode cX6_bondAt 22 = .ok (.iconst 0, 1) := dz_3 (n := 0) (r := 22) hz_X6_bondAt_0 rfl
theorem dX6_bondAt_23 : decode cX6_bondAt 23 = .ok (.ireturn, 1) := dz_172 (n := 0) (r := 23) hz_X6_bondAt_0 rfl
theorem hz_X6_setBond_0 : (cX6_setBond.data.toList.drop 0).take 40 = [27, 155, 0, 19, 27, 42, 180, 0, 9, 190, 162, 0, 10, 42, 180, 0, 9, 27, 28, 79, 177] := by decide +kernel
theorem dX6_setBond_0 : decode cX6_setBond 0 = .ok (.iload_n 1, 1) := dz_27 (n := 0) (r := 0) hz_X6_setBond_0 rfl
theorem dX6_setBond_1 : decode cX6_setBond 1 = .ok (.ifCond .lt 19, 3) := dz_155 (n := 0) (r := 1) hz_X6_setBond_0 rfl (by decide +kernel)
theorem dX6_setBond_4 : decode cX6_setBond 4 = .ok (.iload_n 1, 1) := dz_27 (n := 0) (r := 4) hz_X6_setBond_0 rfl
theorem dX6_setBond_5 : decode cX6_setBond 5 = .ok (.aload_n 0, 1) := dz_42 (n := 0) (r := 5) hz_X6_setBond_0 rfl
theorem dX6_setBond_6 : decode cX6_setBond 6 = .ok (.getfield 9, 3) := dz_180 (n := 0) (r := 6) hz_X6_setBond_0 rfl rfl
theorem dX6_setBond_9 : decode cX6_setBond 9 = .ok (.arraylength, 1) := dz_190 (n := 0) (r := 9) hz_X6_setBond_0 rfl
theorem dX6_setBond_10 : decode cX6_setBond 10 = .ok (.if_icmp .ge 10, 3) := dz_162 (n := 0) (r := 10) hz_X6_setBond_0 rfl (by decide +kernel)
theorem dX6_setBond_13 : decode cX6_setBond 13 = .ok (.aload_n 0, 1) := dz_42 (n := 0) (r := 13) hz_X6_setBond_0 rfl
theorem dX6_setBond_14 : decode cX6_setBond 14 = .ok (.getfield 9, 3) := dz_180 (n := 0) (r := 14) hz_X6_setBond_0 rfl rfl
theorem dX6_setBond_17 : decode cX6_setBond 17 = .ok (.iload_n 1, 1) := dz_27 (n := 0) (r := 17) hz_X6_setBond_0 rfl
theorem dX6_setBond_18 : decode cX6_setBond 18 = .ok (.iload_n 2, 1) := dz_28 (n := 0) (r := 18) hz_X6_setBond_0 rfl
theorem dX6_setBond_19 : decode cX6_setBond 19 = .ok (.iastore, 1) := dz_79 (n := 0) (r := 19) hz_X6_setBond_0 rfl
theorem dX6_setBond_20 : decode cX6_setBond 20 = .ok (.return_, 1) := dz_177 (n := 0) (r := 20) hz_X6_setBond_0 rfl
theorem hz_X6_fieldAt_0 : (cX6_fieldAt.data.toList.drop 0).take 40 = [27, 155, 0, 21, 27, 42, 180, 0, 15, 190, 162, 0, 12, 42, 180, 0, 15, 27, 46, 167, 0, 4, 3, 172] := by decide +kernel
theorem dX6_fieldAt_0 : decode cX6_fieldAt 0 = .ok (.iload_n 1, 1) := dz_27 (n := 0) (r := 0) hz_X6_fieldAt_0 rfl
theorem dX6_fieldAt_1 : decode cX6_fieldAt 1 = .ok (.ifCond .lt 21, 3) := dz_155 (n := 0) (r := 1) hz_X6_fieldAt_0 rfl (by decide +kernel)
theorem dX6_fieldAt_4 : decode cX6_fieldAt 4 = .ok (.iload_n 1, 1) := dz_27 (n := 0) (r := 4) hz_X6_fieldAt_0 rfl
theorem dX6_fieldAt_5 : decode cX6_fieldAt 5 = .ok (.aload_n 0, 1) := dz_42 (n := 0) (r := 5) hz_X6_fieldAt_0 rfl
theorem dX6_fieldAt_6 : decode cX6_fieldAt 6 = .ok (.getfield 15, 3) := dz_180 (n := 0) (r := 6) hz_X6_fieldAt_0 rfl rfl
theorem dX6_fieldAt_9 : decode cX6_fieldAt 9 = .ok (.arraylength, 1) := dz_190 (n := 0) (r := 9) hz_X6_fieldAt_0 rfl
theorem dX6_fieldAt_10 : decode cX6_fieldAt 10 = .ok (.if_icmp .ge 12, 3) := dz_162 (n := 0) (r := 10) hz_X6_fieldAt_0 rfl (by decide +kernel)
theorem dX6_fieldAt_13 : decode cX6_fieldAt 13 = .ok (.aload_n 0, 1) := dz_42 (n := 0) (r := 13) hz_X6_fieldAt_0 rfl
theorem dX6_fieldAt_14 : decode cX6_fieldAt 14 = .ok (.getfield 15, 3) := dz_180 (n := 0) (r := 14) hz_X6_fieldAt_0 rfl rfl
theorem dX6_fieldAt_17 : decode cX6_fieldAt 17 = .ok (.iload_n 1, 1) := dz_27 (n := 0) (r := 17) hz_X6_fieldAt_0 rfl
theorem dX6_fieldAt_18 : decode cX6_fieldAt 18 = .ok (.iaload, 1) := dz_46 (n := 0) (r := 18) hz_X6_fieldAt_0 rfl
theorem dX6_fieldAt_19 : decode cX6_fieldAt 19 = .ok (.goto 4, 3) := dz_167 (n := 0) (r := 19) hz_X6_fieldAt_0 rfl (by decide +kernel)
theorem dX6_fieldAt_22 : decode cX6_fieldAt 22 = .ok (.iconst 0, 1) := dz_3 (n := 0) (r := 22) hz_X6_fieldAt_0 rfl
theorem dX6_fieldAt_23 : decode cX6_fieldAt 23 = .ok (.ireturn, 1) := dz_172 (n := 0) (r := 23) hz_X6_fieldAt_0 rfl
theorem hz_X6_setField_0 : (cX6_setField.data.toList.drop 0).take 40 = [27, 155, 0, 19, 27, 42, 180, 0, 15, 190, 162, 0, 10, 42, 180, 0, 15, 27, 28, 79, 177] := by decide +kernel
theorem dX6_setField_0 : decode cX6_setField 0 = .ok (.iload_n 1, 1) := dz_27 (n := 0) (r := 0) hz_X6_setField_0 rfl
theorem dX6_setField_1 : decode cX6_setField 1 = .ok (.ifCond .lt 19, 3) := dz_155 (n := 0) (r := 1) hz_X6_setField_0 rfl (by decide +kernel)
theorem dX6_setField_4 : decode cX6_setField 4 = .ok (.iload_n 1, 1) := dz_27 (n := 0) (r := 4) hz_X6_setField_0 rfl
theorem dX6_setField_5 : decode cX6_setField 5 = .ok (.aload_n 0, 1) := dz_42 (n := 0) (r := 5) hz_X6_setField_0 rfl
theorem dX6_setField_6 : decode cX6_setField 6 = .ok (.getfield 15, 3) := dz_180 (n := 0) (r := 6) hz_X6_setField_0 rfl rfl
theorem dX6_setField_9 : decode cX6_setField 9 = .ok (.arraylength, 1) := dz_190 (n := 0) (r := 9) hz_X6_setField_0 rfl
theorem dX6_setField_10 : decode cX6_setField 10 = .ok (.if_icmp .ge 10, 3) := dz_162 (n := 0) (r := 10) hz_X6_setField_0 rfl (by decide +kernel)
theorem dX6_setField_13 : decode cX6_setField 13 = .ok (.aload_n 0, 1) := dz_42 (n := 0) (r := 13) hz_X6_setField_0 rfl
theorem dX6_setField_14 : decode cX6_setField 14 = .ok (.getfield 15, 3) := dz_180 (n := 0) (r := 14) hz_X6_setField_0 rfl rfl
theorem dX6_setField_17 : decode cX6_setField 17 = .ok (.iload_n 1, 1) := dz_27 (n := 0) (r := 17) hz_X6_setField_0 rfl
theorem dX6_setField_18 : decode cX6_setField 18 = .ok (.iload_n 2, 1) := dz_28 (n := 0) (r := 18) hz_X6_setField_0 rfl
theorem dX6_setField_19 : decode cX6_setField 19 = .ok (.iastore, 1) := dz_79 (n := 0) (r := 19) hz_X6_setField_0 rfl
theorem dX6_setField_20 : decode cX6_setField 20 = .ok (.return_, 1) := dz_177 (n := 0) (r := 20) hz_X6_setField_0 rfl
theorem hz_X6_isPinned_0 : (cX6_isPinned.data.toList.drop 0).take 40 = [42, 180, 0, 24, 27, 184, 0, 49, 4, 160, 0, 7, 4, 167, 0, 4, 3, 172] := by decide +kernel
theorem dX6_isPinned_0 : decode cX6_isPinned 0 = .ok (.aload_n 0, 1) := dz_42 (n := 0) (r := 0) hz_X6_isPinned_0 rfl
theorem dX6_isPinned_1 : decode cX6_isPinned 1 = .ok (.getfield 24, 3) := dz_180 (n := 0) (r := 1) hz_X6_isPinned_0 rfl rfl
theorem dX6_isPinned_4 : decode cX6_isPinned 4 = .ok (.iload_n 1, 1) := dz_27 (n := 0) (r := 4) hz_X6_isPinned_0 rfl
theorem dX6_isPinned_5 : decode cX6_isPinned 5 = .ok (.invokestatic 49, 3) := dz_184 (n := 0) (r := 5) hz_X6_isPinned_0 rfl rfl
theorem dX6_isPinned_8 : decode cX6_isPinned 8 = .ok (.iconst 1, 1) := dz_4 (n := 0) (r := 8) hz_X6_isPinned_0 rfl
theorem dX6_isPinned_9 : decode cX6_isPinned 9 = .ok (.if_icmp .ne 7, 3) := dz_160 (n := 0) (r := 9) hz_X6_isPinned_0 rfl (by decide +kernel)
theorem dX6_isPinned_12 : decode cX6_isPinned 12 = .ok (.iconst 1, 1) := dz_4 (n := 0) (r := 12) hz_X6_isPinned_0 rfl
theorem dX6_isPinned_13 : decode cX6_isPinned 13 = .ok (.goto 4, 3) := dz_167 (n := 0) (r := 13) hz_X6_isPinned_0 rfl (by decide +kernel)
theorem dX6_isPinned_16 : decode cX6_isPinned 16 = .ok (.iconst 0, 1) := dz_3 (n := 0) (r := 16) hz_X6_isPinned_0 rfl
theorem dX6_isPinned_17 : decode cX6_isPinned 17 = .ok (.ireturn, 1) := dz_172 (n := 0) (r := 17) hz_X6_isPinned_0 rfl
theorem hz_X6_pinAt_0 : (cX6_pinAt.data.toList.drop 0).take 40 = [42, 27, 182, 0, 53, 154, 0, 5, 3, 172, 42, 180, 0, 28, 27, 184, 0, 49, 4, 160, 0, 7, 4, 167, 0, 4, 5, 172] := by decide +kernel
theorem dX6_pinAt_0 : decode cX6_pinAt 0 = .ok (.aload_n 0, 1) := dz_42 (n := 0) (r := 0) hz_X6_pinAt_0 rfl
theorem dX6_pinAt_1 : decode cX6_pinAt 1 = .ok (.iload_n 1, 1) := dz_27 (n := 0) (r := 1) hz_X6_pinAt_0 rfl
theorem dX6_pinAt_2 : decode cX6_pinAt 2 = .ok (.invokevirtual 53, 3) := dz_182 (n := 0) (r := 2) hz_X6_pinAt_0 rfl rfl
theorem dX6_pinAt_5 : decode cX6_pinAt 5 = .ok (.ifCond .ne 5, 3) := dz_154 (n := 0) (r := 5) hz_X6_pinAt_0 rfl (by decide +kernel)
theorem dX6_pinAt_8 : decode cX6_pinAt 8 = .ok (.iconst 0, 1) := dz_3 (n := 0) (r := 8) hz_X6_pinAt_0 rfl
theorem dX6_pinAt_9 : decode cX6_pinAt 9 = .ok (.ireturn, 1) := dz_172 (n := 0) (r := 9) hz_X6_pinAt_0 rfl
theorem dX6_pinAt_10 : decode cX6_pinAt 10 = .ok (.aload_n 0, 1) := dz_42 (n := 0) (r := 10) hz_X6_pinAt_0 rfl
theorem dX6_pinAt_11 : decode cX6_pinAt 11 = .ok (.getfield 28, 3) := dz_180 (n := 0) (r := 11) hz_X6_pinAt_0 rfl rfl
theorem dX6_pinAt_14 : decode cX6_pinAt 14 = .ok (.iload_n 1, 1) := dz_27 (n := 0) (r := 14) hz_X6_pinAt_0 rfl
theorem dX6_pinAt_15 : decode cX6_pinAt 15 = .ok (.invokestatic 49, 3) := dz_184 (n := 0) (r := 15) hz_X6_pinAt_0 rfl rfl
theorem dX6_pinAt_18 : decode cX6_pinAt 18 = .ok (.iconst 1, 1) := dz_4 (n := 0) (r := 18) hz_X6_pinAt_0 rfl
theorem dX6_pinAt_19 : decode cX6_pinAt 19 = .ok (.if_icmp .ne 7, 3) := dz_160 (n := 0) (r := 19) hz_X6_pinAt_0 rfl (by decide +kernel)
theorem dX6_pinAt_22 : decode cX6_pinAt 22 = .ok (.iconst 1, 1) := dz_4 (n := 0) (r := 22) hz_X6_pinAt_0 rfl
theorem dX6_pinAt_23 : decode cX6_pinAt 23 = .ok (.goto 4, 3) := dz_167 (n := 0) (r := 23) hz_X6_pinAt_0 rfl (by decide +kernel)
theorem dX6_pinAt_26 : decode cX6_pinAt 26 = .ok (.iconst 2, 1) := dz_5 (n := 0) (r := 26) hz_X6_pinAt_0 rfl
theorem dX6_pinAt_27 : decode cX6_pinAt 27 = .ok (.ireturn, 1) := dz_172 (n := 0) (r := 27) hz_X6_pinAt_0 rfl
theorem hz_X6_setPin_0 : (cX6_setPin.data.toList.drop 0).take 40 = [4, 27, 120, 62, 42, 28, 154, 0, 14, 42, 180, 0, 24, 29, 2, 130, 126, 167, 0, 9, 42, 180, 0, 24, 29, 128, 181, 0, 24, 42, 28, 4, 160, 0, 12, 42, 180, 0, 28, 29] := by decide +kernel
theorem dX6_setPin_0 : decode cX6_setPin 0 = .ok (.iconst 1, 1) := dz_4 (n := 0) (r := 0) hz_X6_setPin_0 rfl
theorem dX6_setPin_1 : decode cX6_setPin 1 = .ok (.iload_n 1, 1) := dz_27 (n := 0) (r := 1) hz_X6_setPin_0 rfl
theorem dX6_setPin_2 : decode cX6_setPin 2 = .ok (.ishl, 1) := dz_120 (n := 0) (r := 2) hz_X6_setPin_0 rfl
theorem dX6_setPin_3 : decode cX6_setPin 3 = .ok (.istore_n 3, 1) := dz_62 (n := 0) (r := 3) hz_X6_setPin_0 rfl
theorem dX6_setPin_4 : decode cX6_setPin 4 = .ok (.aload_n 0, 1) := dz_42 (n := 0) (r := 4) hz_X6_setPin_0 rfl
theorem dX6_setPin_5 : decode cX6_setPin 5 = .ok (.iload_n 2, 1) := dz_28 (n := 0) (r := 5) hz_X6_setPin_0 rfl
theorem dX6_setPin_6 : decode cX6_setPin 6 = .ok (.ifCond .ne 14, 3) := dz_154 (n := 0) (r := 6) hz_X6_setPin_0 rfl (by decide +kernel)
theorem dX6_setPin_9 : decode cX6_setPin 9 = .ok (.aload_n 0, 1) := dz_42 (n := 0) (r := 9) hz_X6_setPin_0 rfl
theorem dX6_setPin_10 : decode cX6_setPin 10 = .ok (.getfield 24, 3) := dz_180 (n := 0) (r := 10) hz_X6_setPin_0 rfl rfl
theorem dX6_setPin_13 : decode cX6_setPin 13 = .ok (.iload_n 3, 1) := dz_29 (n := 0) (r := 13) hz_X6_setPin_0 rfl
theorem dX6_setPin_14 : decode cX6_setPin 14 = .ok (.iconst (-1), 1) := dz_2 (n := 0) (r := 14) hz_X6_setPin_0 rfl
theorem dX6_setPin_15 : decode cX6_setPin 15 = .ok (.ixor, 1) := dz_130 (n := 0) (r := 15) hz_X6_setPin_0 rfl
theorem dX6_setPin_16 : decode cX6_setPin 16 = .ok (.iand, 1) := dz_126 (n := 0) (r := 16) hz_X6_setPin_0 rfl
theorem dX6_setPin_17 : decode cX6_setPin 17 = .ok (.goto 9, 3) := dz_167 (n := 0) (r := 17) hz_X6_setPin_0 rfl (by decide +kernel)
theorem dX6_setPin_20 : decode cX6_setPin 20 = .ok (.aload_n 0, 1) := dz_42 (n := 0) (r := 20) hz_X6_setPin_0 rfl
theorem dX6_setPin_21 : decode cX6_setPin 21 = .ok (.getfield 24, 3) := dz_180 (n := 0) (r := 21) hz_X6_setPin_0 rfl rfl
theorem dX6_setPin_24 : decode cX6_setPin 24 = .ok (.iload_n 3, 1) := dz_29 (n := 0) (r := 24) hz_X6_setPin_0 rfl
theorem dX6_setPin_25 : decode cX6_setPin 25 = .ok (.ior, 1) := dz_128 (n := 0) (r := 25) hz_X6_setPin_0 rfl
theorem dX6_setPin_26 : decode cX6_setPin 26 = .ok (.putfield 24, 3) := dz_181 (n := 0) (r := 26) hz_X6_setPin_0 rfl rfl
theorem dX6_setPin_29 : decode cX6_setPin 29 = .ok (.aload_n 0, 1) := dz_42 (n := 0) (r := 29) hz_X6_setPin_0 rfl
theorem dX6_setPin_30 : decode cX6_setPin 30 = .ok (.iload_n 2, 1) := dz_28 (n := 0) (r := 30) hz_X6_setPin_0 rfl
theorem dX6_setPin_31 : decode cX6_setPin 31 = .ok (.iconst 1, 1) := dz_4 (n := 0) (r := 31) hz_X6_setPin_0 rfl
theorem hz_X6_setPin_32 : (cX6_setPin.data.toList.drop 32).take 40 = [160, 0, 12, 42, 180, 0, 28, 29, 128, 167, 0, 11, 42, 180, 0, 28, 29, 2, 130, 126, 181, 0, 28, 177] := by decide +kernel
theorem dX6_setPin_32 : decode cX6_setPin 32 = .ok (.if_icmp .ne 12, 3) := dz_160 (n := 32) (r := 0) hz_X6_setPin_32 rfl (by decide +kernel)
theorem dX6_setPin_35 : decode cX6_setPin 35 = .ok (.aload_n 0, 1) := dz_42 (n := 32) (r := 3) hz_X6_setPin_32 rfl
theorem dX6_setPin_36 : decode cX6_setPin 36 = .ok (.getfield 28, 3) := dz_180 (n := 32) (r := 4) hz_X6_setPin_32 rfl rfl
theorem dX6_setPin_39 : decode cX6_setPin 39 = .ok (.iload_n 3, 1) := dz_29 (n := 32) (r := 7) hz_X6_setPin_32 rfl
theorem dX6_setPin_40 : decode cX6_setPin 40 = .ok (.ior, 1) := dz_128 (n := 32) (r := 8) hz_X6_setPin_32 rfl
theorem dX6_setPin_41 : decode cX6_setPin 41 = .ok (.goto 11, 3) := dz_167 (n := 32) (r := 9) hz_X6_setPin_32 rfl (by decide +kernel)
theorem dX6_setPin_44 : decode cX6_setPin 44 = .ok (.aload_n 0, 1) := dz_42 (n := 32) (r := 12) hz_X6_setPin_32 rfl
theorem dX6_setPin_45 : decode cX6_setPin 45 = .ok (.getfield 28, 3) := dz_180 (n := 32) (r := 13) hz_X6_setPin_32 rfl rfl
theorem dX6_setPin_48 : decode cX6_setPin 48 = .ok (.iload_n 3, 1) := dz_29 (n := 32) (r := 16) hz_X6_setPin_32 rfl
theorem dX6_setPin_49 : decode cX6_setPin 49 = .ok (.iconst (-1), 1) := dz_2 (n := 32) (r := 17) hz_X6_setPin_32 rfl
theorem dX6_setPin_50 : decode cX6_setPin 50 = .ok (.ixor, 1) := dz_130 (n := 32) (r := 18) hz_X6_setPin_32 rfl
theorem dX6_setPin_51 : decode cX6_setPin 51 = .ok (.iand, 1) := dz_126 (n := 32) (r := 19) hz_X6_setPin_32 rfl
theorem dX6_setPin_52 : decode cX6_setPin 52 = .ok (.putfield 28, 3) := dz_181 (n := 32) (r := 20) hz_X6_setPin_32 rfl rfl
theorem dX6_setPin_55 : decode cX6_setPin 55 = .ok (.return_, 1) := dz_177 (n := 32) (r := 23) hz_X6_setPin_32 rfl
theorem hz_X6_allows_0 : (cX6_allows.data.toList.drop 0).take 40 = [27, 42, 180, 0, 24, 126, 42, 180, 0, 28, 160, 0, 7, 4, 167, 0, 4, 3, 172] := by decide +kernel
theorem dX6_allows_0 : decode cX6_allows 0 = .ok (.iload_n 1, 1) := dz_27 (n := 0) (r := 0) hz_X6_allows_0 rfl
theorem dX6_allows_1 : decode cX6_allows 1 = .ok (.aload_n 0, 1) := dz_42 (n := 0) (r := 1) hz_X6_allows_0 rfl
theorem dX6_allows_2 : decode cX6_allows 2 = .ok (.getfield 24, 3) := dz_180 (n := 0) (r := 2) hz_X6_allows_0 rfl rfl
theorem dX6_allows_5 : decode cX6_allows 5 = .ok (.iand, 1) := dz_126 (n := 0) (r := 5) hz_X6_allows_0 rfl
theorem dX6_allows_6 : decode cX6_allows 6 = .ok (.aload_n 0, 1) := dz_42 (n := 0) (r := 6) hz_X6_allows_0 rfl
theorem dX6_allows_7 : decode cX6_allows 7 = .ok (.getfield 28, 3) := dz_180 (n := 0) (r := 7) hz_X6_allows_0 rfl rfl
theorem dX6_allows_10 : decode cX6_allows 10 = .ok (.if_icmp .ne 7, 3) := dz_160 (n := 0) (r := 10) hz_X6_allows_0 rfl (by decide +kernel)
theorem dX6_allows_13 : decode cX6_allows 13 = .ok (.iconst 1, 1) := dz_4 (n := 0) (r := 13) hz_X6_allows_0 rfl
theorem dX6_allows_14 : decode cX6_allows 14 = .ok (.goto 4, 3) := dz_167 (n := 0) (r := 14) hz_X6_allows_0 rfl (by decide +kernel)
theorem dX6_allows_17 : decode cX6_allows 17 = .ok (.iconst 0, 1) := dz_3 (n := 0) (r := 17) hz_X6_allows_0 rfl
theorem dX6_allows_18 : decode cX6_allows 18 = .ok (.ireturn, 1) := dz_172 (n := 0) (r := 18) hz_X6_allows_0 rfl
theorem hz_X7_init_0 : (cX7_init.data.toList.drop 0).take 40 = [42, 183, 0, 3, 42, 187, 0, 9, 89, 183, 0, 11, 181, 0, 12, 42, 17, 1, 33, 188, 10, 181, 0, 18, 177] := by decide +kernel
theorem dX7_init_0 : decode cX7_init 0 = .ok (.aload_n 0, 1) := dz_42 (n := 0) (r := 0) hz_X7_init_0 rfl
theorem dX7_init_1 : decode cX7_init 1 = .ok (.invokespecial 3, 3) := dz_183 (n := 0) (r := 1) hz_X7_init_0 rfl rfl
theorem dX7_init_4 : decode cX7_init 4 = .ok (.aload_n 0, 1) := dz_42 (n := 0) (r := 4) hz_X7_init_0 rfl
theorem dX7_init_5 : decode cX7_init 5 = .ok (.new 9, 3) := dz_187 (n := 0) (r := 5) hz_X7_init_0 rfl rfl
theorem dX7_init_8 : decode cX7_init 8 = .ok (.dup, 1) := dz_89 (n := 0) (r := 8) hz_X7_init_0 rfl
theorem dX7_init_9 : decode cX7_init 9 = .ok (.invokespecial 11, 3) := dz_183 (n := 0) (r := 9) hz_X7_init_0 rfl rfl
theorem dX7_init_12 : decode cX7_init 12 = .ok (.putfield 12, 3) := dz_181 (n := 0) (r := 12) hz_X7_init_0 rfl rfl
theorem dX7_init_15 : decode cX7_init 15 = .ok (.aload_n 0, 1) := dz_42 (n := 0) (r := 15) hz_X7_init_0 rfl
theorem dX7_init_16 : decode cX7_init 16 = .ok (.sipush 289, 3) := dz_17 (n := 0) (r := 16) hz_X7_init_0 rfl (by decide +kernel)
theorem dX7_init_19 : decode cX7_init 19 = .ok (.newarray .int, 2) := dz_188_10 (n := 0) (r := 19) hz_X7_init_0 rfl
theorem dX7_init_21 : decode cX7_init 21 = .ok (.putfield 18, 3) := dz_181 (n := 0) (r := 21) hz_X7_init_0 rfl rfl
theorem dX7_init_24 : decode cX7_init 24 = .ok (.return_, 1) := dz_177 (n := 0) (r := 24) hz_X7_init_0 rfl
theorem hz_X8_init_0 : (cX8_init.data.toList.drop 0).take 40 = [42, 183, 0, 3, 42, 17, 7, 208, 188, 8, 181, 0, 9, 42, 17, 1, 144, 188, 10, 181, 0, 15, 42, 17, 1, 144, 188, 10, 181, 0, 19, 42, 17, 1, 144, 188, 10, 181, 0, 22] := by decide +kernel
theorem dX8_init_0 : decode cX8_init 0 = .ok (.aload_n 0, 1) := dz_42 (n := 0) (r := 0) hz_X8_init_0 rfl
theorem dX8_init_1 : decode cX8_init 1 = .ok (.invokespecial 3, 3) := dz_183 (n := 0) (r := 1) hz_X8_init_0 rfl rfl
theorem dX8_init_4 : decode cX8_init 4 = .ok (.aload_n 0, 1) := dz_42 (n := 0) (r := 4) hz_X8_init_0 rfl
theorem dX8_init_5 : decode cX8_init 5 = .ok (.sipush 2000, 3) := dz_17 (n := 0) (r := 5) hz_X8_init_0 rfl (by decide +kernel)
theorem dX8_init_8 : decode cX8_init 8 = .ok (.newarray .byte, 2) := dz_188_8 (n := 0) (r := 8) hz_X8_init_0 rfl
theorem dX8_init_10 : decode cX8_init 10 = .ok (.putfield 9, 3) := dz_181 (n := 0) (r := 10) hz_X8_init_0 rfl rfl
theorem dX8_init_13 : decode cX8_init 13 = .ok (.aload_n 0, 1) := dz_42 (n := 0) (r := 13) hz_X8_init_0 rfl
theorem dX8_init_14 : decode cX8_init 14 = .ok (.sipush 400, 3) := dz_17 (n := 0) (r := 14) hz_X8_init_0 rfl (by decide +kernel)
theorem dX8_init_17 : decode cX8_init 17 = .ok (.newarray .int, 2) := dz_188_10 (n := 0) (r := 17) hz_X8_init_0 rfl
theorem dX8_init_19 : decode cX8_init 19 = .ok (.putfield 15, 3) := dz_181 (n := 0) (r := 19) hz_X8_init_0 rfl rfl
theorem dX8_init_22 : decode cX8_init 22 = .ok (.aload_n 0, 1) := dz_42 (n := 0) (r := 22) hz_X8_init_0 rfl
theorem dX8_init_23 : decode cX8_init 23 = .ok (.sipush 400, 3) := dz_17 (n := 0) (r := 23) hz_X8_init_0 rfl (by decide +kernel)
theorem dX8_init_26 : decode cX8_init 26 = .ok (.newarray .int, 2) := dz_188_10 (n := 0) (r := 26) hz_X8_init_0 rfl
theorem dX8_init_28 : decode cX8_init 28 = .ok (.putfield 19, 3) := dz_181 (n := 0) (r := 28) hz_X8_init_0 rfl rfl
theorem dX8_init_31 : decode cX8_init 31 = .ok (.aload_n 0, 1) := dz_42 (n := 0) (r := 31) hz_X8_init_0 rfl
theorem hz_X8_init_32 : (cX8_init.data.toList.drop 32).take 40 = [17, 1, 144, 188, 10, 181, 0, 22, 177] := by decide +kernel
theorem dX8_init_32 : decode cX8_init 32 = .ok (.sipush 400, 3) := dz_17 (n := 32) (r := 0) hz_X8_init_32 rfl (by decide +kernel)
theorem dX8_init_35 : decode cX8_init 35 = .ok (.newarray .int, 2) := dz_188_10 (n := 32) (r := 3) hz_X8_init_32 rfl
theorem dX8_init_37 : decode cX8_init 37 = .ok (.putfield 22, 3) := dz_181 (n := 32) (r := 5) hz_X8_init_32 rfl rfl
theorem dX8_init_40 : decode cX8_init 40 = .ok (.return_, 1) := dz_177 (n := 32) (r := 8) hz_X8_init_32 rfl
theorem hz_X8_addWord_0 : (cX8_addWord.data.toList.drop 0).take 40 = [16, 24, 61, 28, 155, 0, 51, 42, 180, 0, 25, 155, 0, 38, 42, 180, 0, 25, 42, 180, 0, 9, 190, 162, 0, 26, 42, 180, 0, 9, 42, 180, 0, 25, 27, 28, 122, 145, 84, 42] := by decide +kernel
theorem dX8_addWord_0 : decode cX8_addWord 0 = .ok (.bipush 24, 2) := dz_16 (n := 0) (r := 0) hz_X8_addWord_0 rfl rfl
theorem dX8_addWord_2 : decode cX8_addWord 2 = .ok (.istore_n 2, 1) := dz_61 (n := 0) (r := 2) hz_X8_addWord_0 rfl
theorem dX8_addWord_3 : decode cX8_addWord 3 = .ok (.iload_n 2, 1) := dz_28 (n := 0) (r := 3) hz_X8_addWord_0 rfl
theorem dX8_addWord_4 : decode cX8_addWord 4 = .ok (.ifCond .lt 51, 3) := dz_155 (n := 0) (r := 4) hz_X8_addWord_0 rfl (by decide +kernel)
theorem dX8_addWord_7 : decode cX8_addWord 7 = .ok (.aload_n 0, 1) := dz_42 (n := 0) (r := 7) hz_X8_addWord_0 rfl
theorem dX8_addWord_8 : decode cX8_addWord 8 = .ok (.getfield 25, 3) := dz_180 (n := 0) (r := 8) hz_X8_addWord_0 rfl rfl
theorem dX8_addWord_11 : decode cX8_addWord 11 = .ok (.ifCond .lt 38, 3) := dz_155 (n := 0) (r := 11) hz_X8_addWord_0 rfl (by decide +kernel)
theorem dX8_addWord_14 : decode cX8_addWord 14 = .ok (.aload_n 0, 1) := dz_42 (n := 0) (r := 14) hz_X8_addWord_0 rfl
theorem dX8_addWord_15 : decode cX8_addWord 15 = .ok (.getfield 25, 3) := dz_180 (n := 0) (r := 15) hz_X8_addWord_0 rfl rfl
theorem dX8_addWord_18 : decode cX8_addWord 18 = .ok (.aload_n 0, 1) := dz_42 (n := 0) (r := 18) hz_X8_addWord_0 rfl
theorem dX8_addWord_19 : decode cX8_addWord 19 = .ok (.getfield 9, 3) := dz_180 (n := 0) (r := 19) hz_X8_addWord_0 rfl rfl
theorem dX8_addWord_22 : decode cX8_addWord 22 = .ok (.arraylength, 1) := dz_190 (n := 0) (r := 22) hz_X8_addWord_0 rfl
theorem dX8_addWord_23 : decode cX8_addWord 23 = .ok (.if_icmp .ge 26, 3) := dz_162 (n := 0) (r := 23) hz_X8_addWord_0 rfl (by decide +kernel)
theorem dX8_addWord_26 : decode cX8_addWord 26 = .ok (.aload_n 0, 1) := dz_42 (n := 0) (r := 26) hz_X8_addWord_0 rfl
theorem dX8_addWord_27 : decode cX8_addWord 27 = .ok (.getfield 9, 3) := dz_180 (n := 0) (r := 27) hz_X8_addWord_0 rfl rfl
theorem dX8_addWord_30 : decode cX8_addWord 30 = .ok (.aload_n 0, 1) := dz_42 (n := 0) (r := 30) hz_X8_addWord_0 rfl
theorem dX8_addWord_31 : decode cX8_addWord 31 = .ok (.getfield 25, 3) := dz_180 (n := 0) (r := 31) hz_X8_addWord_0 rfl rfl
theorem hz_X8_addWord_32 : (cX8_addWord.data.toList.drop 32).take 40 = [0, 25, 27, 28, 122, 145, 84, 42, 89, 180, 0, 25, 4, 96, 181, 0, 25, 132, 2, 248, 167, 255, 207, 177] := by decide +kernel
theorem dX8_addWord_34 : decode cX8_addWord 34 = .ok (.iload_n 1, 1) := dz_27 (n := 32) (r := 2) hz_X8_addWord_32 rfl
theorem dX8_addWord_35 : decode cX8_addWord 35 = .ok (.iload_n 2, 1) := dz_28 (n := 32) (r := 3) hz_X8_addWord_32 rfl
theorem dX8_addWord_36 : decode cX8_addWord 36 = .ok (.ishr, 1) := dz_122 (n := 32) (r := 4) hz_X8_addWord_32 rfl
theorem dX8_addWord_37 : decode cX8_addWord 37 = .ok (.i2b, 1) := dz_145 (n := 32) (r := 5) hz_X8_addWord_32 rfl
theorem dX8_addWord_38 : decode cX8_addWord 38 = .ok (.bastore, 1) := dz_84 (n := 32) (r := 6) hz_X8_addWord_32 rfl
theorem dX8_addWord_39 : decode cX8_addWord 39 = .ok (.aload_n 0, 1) := dz_42 (n := 32) (r := 7) hz_X8_addWord_32 rfl
theorem dX8_addWord_40 : decode cX8_addWord 40 = .ok (.dup, 1) := dz_89 (n := 32) (r := 8) hz_X8_addWord_32 rfl
theorem dX8_addWord_41 : decode cX8_addWord 41 = .ok (.getfield 25, 3) := dz_180 (n := 32) (r := 9) hz_X8_addWord_32 rfl rfl
theorem dX8_addWord_44 : decode cX8_addWord 44 = .ok (.iconst 1, 1) := dz_4 (n := 32) (r := 12) hz_X8_addWord_32 rfl
theorem dX8_addWord_45 : decode cX8_addWord 45 = .ok (.iadd, 1) := dz_96 (n := 32) (r := 13) hz_X8_addWord_32 rfl
theorem dX8_addWord_46 : decode cX8_addWord 46 = .ok (.putfield 25, 3) := dz_181 (n := 32) (r := 14) hz_X8_addWord_32 rfl rfl
theorem dX8_addWord_49 : decode cX8_addWord 49 = .ok (.iinc 2 (-8), 3) := dz_132 (n := 32) (r := 17) hz_X8_addWord_32 rfl rfl rfl
theorem dX8_addWord_52 : decode cX8_addWord 52 = .ok (.goto (-49), 3) := dz_167 (n := 32) (r := 20) hz_X8_addWord_32 rfl (by decide +kernel)
theorem dX8_addWord_55 : decode cX8_addWord 55 = .ok (.return_, 1) := dz_177 (n := 32) (r := 23) hz_X8_addWord_32 rfl
theorem hz_X8_byteAt_0 : (cX8_byteAt.data.toList.drop 0).take 40 = [27, 155, 0, 29, 27, 42, 180, 0, 25, 162, 0, 21, 27, 42, 180, 0, 9, 190, 162, 0, 12, 42, 180, 0, 9, 27, 51, 167, 0, 4, 3, 172] := by decide +kernel
theorem dX8_byteAt_0 : decode cX8_byteAt 0 = .ok (.iload_n 1, 1) := dz_27 (n := 0) (r := 0) hz_X8_byteAt_0 rfl
theorem dX8_byteAt_1 : decode cX8_byteAt 1 = .ok (.ifCond .lt 29, 3) := dz_155 (n := 0) (r := 1) hz_X8_byteAt_0 rfl (by decide +kernel)
theorem dX8_byteAt_4 : decode cX8_byteAt 4 = .ok (.iload_n 1, 1) := dz_27 (n := 0) (r := 4) hz_X8_byteAt_0 rfl
theorem dX8_byteAt_5 : decode cX8_byteAt 5 = .ok (.aload_n 0, 1) := dz_42 (n := 0) (r := 5) hz_X8_byteAt_0 rfl
theorem dX8_byteAt_6 : decode cX8_byteAt 6 = .ok (.getfield 25, 3) := dz_180 (n := 0) (r := 6) hz_X8_byteAt_0 rfl rfl
theorem dX8_byteAt_9 : decode cX8_byteAt 9 = .ok (.if_icmp .ge 21, 3) := dz_162 (n := 0) (r := 9) hz_X8_byteAt_0 rfl (by decide +kernel)
theorem dX8_byteAt_12 : decode cX8_byteAt 12 = .ok (.iload_n 1, 1) := dz_27 (n := 0) (r := 12) hz_X8_byteAt_0 rfl
theorem dX8_byteAt_13 : decode cX8_byteAt 13 = .ok (.aload_n 0, 1) := dz_42 (n := 0) (r := 13) hz_X8_byteAt_0 rfl
theorem dX8_byteAt_14 : decode cX8_byteAt 14 = .ok (.getfield 9, 3) := dz_180 (n := 0) (r := 14) hz_X8_byteAt_0 rfl rfl
theorem dX8_byteAt_17 : decode cX8_byteAt 17 = .ok (.arraylength, 1) := dz_190 (n := 0) (r := 17) hz_X8_byteAt_0 rfl
theorem dX8_byteAt_18 : decode cX8_byteAt 18 = .ok (.if_icmp .ge 12, 3) := dz_162 (n := 0) (r := 18) hz_X8_byteAt_0 rfl (by decide +kernel)
theorem dX8_byteAt_21 : decode cX8_byteAt 21 = .ok (.aload_n 0, 1) := dz_42 (n := 0) (r := 21) hz_X8_byteAt_0 rfl
theorem dX8_byteAt_22 : decode cX8_byteAt 22 = .ok (.getfield 9, 3) := dz_180 (n := 0) (r := 22) hz_X8_byteAt_0 rfl rfl
theorem dX8_byteAt_25 : decode cX8_byteAt 25 = .ok (.iload_n 1, 1) := dz_27 (n := 0) (r := 25) hz_X8_byteAt_0 rfl
theorem dX8_byteAt_26 : decode cX8_byteAt 26 = .ok (.baload, 1) := dz_51 (n := 0) (r := 26) hz_X8_byteAt_0 rfl
theorem dX8_byteAt_27 : decode cX8_byteAt 27 = .ok (.goto 4, 3) := dz_167 (n := 0) (r := 27) hz_X8_byteAt_0 rfl (by decide +kernel)
theorem dX8_byteAt_30 : decode cX8_byteAt 30 = .ok (.iconst 0, 1) := dz_3 (n := 0) (r := 30) hz_X8_byteAt_0 rfl
theorem dX8_byteAt_31 : decode cX8_byteAt 31 = .ok (.ireturn, 1) := dz_172 (n := 0) (r := 31) hz_X8_byteAt_0 rfl
theorem hz_X8_cut_0 : (cX8_cut.data.toList.drop 0).take 40 = [3, 60, 42, 3, 181, 0, 29, 42, 3, 181, 0, 32, 3, 61, 28, 17, 1, 144, 163, 0, 55, 42, 42, 180, 0, 32, 182, 0, 35, 42, 180, 0, 39, 154, 0, 14, 27, 7, 160, 0] := by decide +kernel
theorem dX8_cut_0 : decode cX8_cut 0 = .ok (.iconst 0, 1) := dz_3 (n := 0) (r := 0) hz_X8_cut_0 rfl
theorem dX8_cut_1 : decode cX8_cut 1 = .ok (.istore_n 1, 1) := dz_60 (n := 0) (r := 1) hz_X8_cut_0 rfl
theorem dX8_cut_2 : decode cX8_cut 2 = .ok (.aload_n 0, 1) := dz_42 (n := 0) (r := 2) hz_X8_cut_0 rfl
theorem dX8_cut_3 : decode cX8_cut 3 = .ok (.iconst 0, 1) := dz_3 (n := 0) (r := 3) hz_X8_cut_0 rfl
theorem dX8_cut_4 : decode cX8_cut 4 = .ok (.putfield 29, 3) := dz_181 (n := 0) (r := 4) hz_X8_cut_0 rfl rfl
theorem dX8_cut_7 : decode cX8_cut 7 = .ok (.aload_n 0, 1) := dz_42 (n := 0) (r := 7) hz_X8_cut_0 rfl
theorem dX8_cut_8 : decode cX8_cut 8 = .ok (.iconst 0, 1) := dz_3 (n := 0) (r := 8) hz_X8_cut_0 rfl
theorem dX8_cut_9 : decode cX8_cut 9 = .ok (.putfield 32, 3) := dz_181 (n := 0) (r := 9) hz_X8_cut_0 rfl rfl
theorem dX8_cut_12 : decode cX8_cut 12 = .ok (.iconst 0, 1) := dz_3 (n := 0) (r := 12) hz_X8_cut_0 rfl
theorem dX8_cut_13 : decode cX8_cut 13 = .ok (.istore_n 2, 1) := dz_61 (n := 0) (r := 13) hz_X8_cut_0 rfl
theorem dX8_cut_14 : decode cX8_cut 14 = .ok (.iload_n 2, 1) := dz_28 (n := 0) (r := 14) hz_X8_cut_0 rfl
theorem dX8_cut_15 : decode cX8_cut 15 = .ok (.sipush 400, 3) := dz_17 (n := 0) (r := 15) hz_X8_cut_0 rfl (by decide +kernel)
theorem dX8_cut_18 : decode cX8_cut 18 = .ok (.if_icmp .gt 55, 3) := dz_163 (n := 0) (r := 18) hz_X8_cut_0 rfl (by decide +kernel)
theorem dX8_cut_21 : decode cX8_cut 21 = .ok (.aload_n 0, 1) := dz_42 (n := 0) (r := 21) hz_X8_cut_0 rfl
theorem dX8_cut_22 : decode cX8_cut 22 = .ok (.aload_n 0, 1) := dz_42 (n := 0) (r := 22) hz_X8_cut_0 rfl
theorem dX8_cut_23 : decode cX8_cut 23 = .ok (.getfield 32, 3) := dz_180 (n := 0) (r := 23) hz_X8_cut_0 rfl rfl
theorem dX8_cut_26 : decode cX8_cut 26 = .ok (.invokevirtual 35, 3) := dz_182 (n := 0) (r := 26) hz_X8_cut_0 rfl rfl
theorem dX8_cut_29 : decode cX8_cut 29 = .ok (.aload_n 0, 1) := dz_42 (n := 0) (r := 29) hz_X8_cut_0 rfl
theorem dX8_cut_30 : decode cX8_cut 30 = .ok (.getfield 39, 3) := dz_180 (n := 0) (r := 30) hz_X8_cut_0 rfl rfl
theorem hz_X8_cut_32 : (cX8_cut.data.toList.drop 32).take 40 = [39, 154, 0, 14, 27, 7, 160, 0, 7, 3, 167, 0, 4, 4, 172, 27, 42, 180, 0, 39, 184, 0, 42, 60, 27, 2, 160, 0, 5, 4, 172, 42, 182, 0, 46, 132, 2, 1, 167, 255] := by decide +kernel
theorem dX8_cut_33 : decode cX8_cut 33 = .ok (.ifCond .ne 14, 3) := dz_154 (n := 32) (r := 1) hz_X8_cut_32 rfl (by decide +kernel)
theorem dX8_cut_36 : decode cX8_cut 36 = .ok (.iload_n 1, 1) := dz_27 (n := 32) (r := 4) hz_X8_cut_32 rfl
theorem dX8_cut_37 : decode cX8_cut 37 = .ok (.iconst 4, 1) := dz_7 (n := 32) (r := 5) hz_X8_cut_32 rfl
theorem dX8_cut_38 : decode cX8_cut 38 = .ok (.if_icmp .ne 7, 3) := dz_160 (n := 32) (r := 6) hz_X8_cut_32 rfl (by decide +kernel)
theorem dX8_cut_41 : decode cX8_cut 41 = .ok (.iconst 0, 1) := dz_3 (n := 32) (r := 9) hz_X8_cut_32 rfl
theorem dX8_cut_42 : decode cX8_cut 42 = .ok (.goto 4, 3) := dz_167 (n := 32) (r := 10) hz_X8_cut_32 rfl (by decide +kernel)
theorem dX8_cut_45 : decode cX8_cut 45 = .ok (.iconst 1, 1) := dz_4 (n := 32) (r := 13) hz_X8_cut_32 rfl
theorem dX8_cut_46 : decode cX8_cut 46 = .ok (.ireturn, 1) := dz_172 (n := 32) (r := 14) hz_X8_cut_32 rfl
theorem dX8_cut_47 : decode cX8_cut 47 = .ok (.iload_n 1, 1) := dz_27 (n := 32) (r := 15) hz_X8_cut_32 rfl
theorem dX8_cut_48 : decode cX8_cut 48 = .ok (.aload_n 0, 1) := dz_42 (n := 32) (r := 16) hz_X8_cut_32 rfl
theorem dX8_cut_49 : decode cX8_cut 49 = .ok (.getfield 39, 3) := dz_180 (n := 32) (r := 17) hz_X8_cut_32 rfl rfl
theorem dX8_cut_52 : decode cX8_cut 52 = .ok (.invokestatic 42, 3) := dz_184 (n := 32) (r := 20) hz_X8_cut_32 rfl rfl
theorem dX8_cut_55 : decode cX8_cut 55 = .ok (.istore_n 1, 1) := dz_60 (n := 32) (r := 23) hz_X8_cut_32 rfl
theorem dX8_cut_56 : decode cX8_cut 56 = .ok (.iload_n 1, 1) := dz_27 (n := 32) (r := 24) hz_X8_cut_32 rfl
theorem dX8_cut_57 : decode cX8_cut 57 = .ok (.iconst (-1), 1) := dz_2 (n := 32) (r := 25) hz_X8_cut_32 rfl
theorem dX8_cut_58 : decode cX8_cut 58 = .ok (.if_icmp .ne 5, 3) := dz_160 (n := 32) (r := 26) hz_X8_cut_32 rfl (by decide +kernel)
theorem dX8_cut_61 : decode cX8_cut 61 = .ok (.iconst 1, 1) := dz_4 (n := 32) (r := 29) hz_X8_cut_32 rfl
theorem dX8_cut_62 : decode cX8_cut 62 = .ok (.ireturn, 1) := dz_172 (n := 32) (r := 30) hz_X8_cut_32 rfl
theorem dX8_cut_63 : decode cX8_cut 63 = .ok (.aload_n 0, 1) := dz_42 (n := 32) (r := 31) hz_X8_cut_32 rfl
theorem hz_X8_cut_64 : (cX8_cut.data.toList.drop 64).take 40 = [182, 0, 46, 132, 2, 1, 167, 255, 200, 5, 172] := by decide +kernel
theorem dX8_cut_64 : decode cX8_cut 64 = .ok (.invokevirtual 46, 3) := dz_182 (n := 64) (r := 0) hz_X8_cut_64 rfl rfl
theorem dX8_cut_67 : decode cX8_cut 67 = .ok (.iinc 2 1, 3) := dz_132 (n := 64) (r := 3) hz_X8_cut_64 rfl rfl rfl
theorem dX8_cut_70 : decode cX8_cut 70 = .ok (.goto (-56), 3) := dz_167 (n := 64) (r := 6) hz_X8_cut_64 rfl (by decide +kernel)
theorem dX8_cut_73 : decode cX8_cut 73 = .ok (.iconst 2, 1) := dz_5 (n := 64) (r := 9) hz_X8_cut_64 rfl
theorem dX8_cut_74 : decode cX8_cut 74 = .ok (.ireturn, 1) := dz_172 (n := 64) (r := 10) hz_X8_cut_64 rfl
theorem hz_X8_keepToken_0 : (cX8_keepToken.data.toList.drop 0).take 40 = [42, 180, 0, 29, 155, 0, 62, 42, 180, 0, 29, 17, 1, 144, 162, 0, 52, 42, 180, 0, 15, 42, 180, 0, 29, 42, 180, 0, 39, 79, 42, 180, 0, 19, 42, 180, 0, 29, 42, 180] := by decide +kernel
theorem dX8_keepToken_0 : decode cX8_keepToken 0 = .ok (.aload_n 0, 1) := dz_42 (n := 0) (r := 0) hz_X8_keepToken_0 rfl
theorem dX8_keepToken_1 : decode cX8_keepToken 1 = .ok (.getfield 29, 3) := dz_180 (n := 0) (r := 1) hz_X8_keepToken_0 rfl rfl
theorem dX8_keepToken_4 : decode cX8_keepToken 4 = .ok (.ifCond .lt 62, 3) := dz_155 (n := 0) (r := 4) hz_X8_keepToken_0 rfl (by decide +kernel)
theorem dX8_keepToken_7 : decode cX8_keepToken 7 = .ok (.aload_n 0, 1) := dz_42 (n := 0) (r := 7) hz_X8_keepToken_0 rfl
theorem dX8_keepToken_8 : decode cX8_keepToken 8 = .ok (.getfield 29, 3) := dz_180 (n := 0) (r := 8) hz_X8_keepToken_0 rfl rfl
theorem dX8_keepToken_11 : decode cX8_keepToken 11 = .ok (.sipush 400, 3) := dz_17 (n := 0) (r := 11) hz_X8_keepToken_0 rfl (by decide +kernel)
theorem dX8_keepToken_14 : decode cX8_keepToken 14 = .ok (.if_icmp .ge 52, 3) := dz_162 (n := 0) (r := 14) hz_X8_keepToken_0 rfl (by decide +kernel)
theorem dX8_keepToken_17 : decode cX8_keepToken 17 = .ok (.aload_n 0, 1) := dz_42 (n := 0) (r := 17) hz_X8_keepToken_0 rfl
theorem dX8_keepToken_18 : decode cX8_keepToken 18 = .ok (.getfield 15, 3) := dz_180 (n := 0) (r := 18) hz_X8_keepToken_0 rfl rfl
theorem dX8_keepToken_21 : decode cX8_keepToken 21 = .ok (.aload_n 0, 1) := dz_42 (n := 0) (r := 21) hz_X8_keepToken_0 rfl
theorem dX8_keepToken_22 : decode cX8_keepToken 22 = .ok (.getfield 29, 3) := dz_180 (n := 0) (r := 22) hz_X8_keepToken_0 rfl rfl
theorem dX8_keepToken_25 : decode cX8_keepToken 25 = .ok (.aload_n 0, 1) := dz_42 (n := 0) (r := 25) hz_X8_keepToken_0 rfl
theorem dX8_keepToken_26 : decode cX8_keepToken 26 = .ok (.getfield 39, 3) := dz_180 (n := 0) (r := 26) hz_X8_keepToken_0 rfl rfl
theorem dX8_keepToken_29 : decode cX8_keepToken 29 = .ok (.iastore, 1) := dz_79 (n := 0) (r := 29) hz_X8_keepToken_0 rfl
theorem dX8_keepToken_30 : decode cX8_keepToken 30 = .ok (.aload_n 0, 1) := dz_42 (n := 0) (r := 30) hz_X8_keepToken_0 rfl
theorem dX8_keepToken_31 : decode cX8_keepToken 31 = .ok (.getfield 19, 3) := dz_180 (n := 0) (r := 31) hz_X8_keepToken_0 rfl rfl
theorem hz_X8_keepToken_32 : (cX8_keepToken.data.toList.drop 32).take 40 = [0, 19, 42, 180, 0, 29, 42, 180, 0, 49, 79, 42, 180, 0, 22, 42, 180, 0, 29, 42, 180, 0, 52, 79, 42, 89, 180, 0, 29, 4, 96, 181, 0, 29, 177] := by decide +kernel
theorem dX8_keepToken_34 : decode cX8_keepToken 34 = .ok (.aload_n 0, 1) := dz_42 (n := 32) (r := 2) hz_X8_keepToken_32 rfl
theorem dX8_keepToken_35 : decode cX8_keepToken 35 = .ok (.getfield 29, 3) := dz_180 (n := 32) (r := 3) hz_X8_keepToken_32 rfl rfl
theorem dX8_keepToken_38 : decode cX8_keepToken 38 = .ok (.aload_n 0, 1) := dz_42 (n := 32) (r := 6) hz_X8_keepToken_32 rfl
theorem dX8_keepToken_39 : decode cX8_keepToken 39 = .ok (.getfield 49, 3) := dz_180 (n := 32) (r := 7) hz_X8_keepToken_32 rfl rfl
theorem dX8_keepToken_42 : decode cX8_keepToken 42 = .ok (.iastore, 1) := dz_79 (n := 32) (r := 10) hz_X8_keepToken_32 rfl
theorem dX8_keepToken_43 : decode cX8_keepToken 43 = .ok (.aload_n 0, 1) := dz_42 (n := 32) (r := 11) hz_X8_keepToken_32 rfl
theorem dX8_keepToken_44 : decode cX8_keepToken 44 = .ok (.getfield 22, 3) := dz_180 (n := 32) (r := 12) hz_X8_keepToken_32 rfl rfl
theorem dX8_keepToken_47 : decode cX8_keepToken 47 = .ok (.aload_n 0, 1) := dz_42 (n := 32) (r := 15) hz_X8_keepToken_32 rfl
theorem dX8_keepToken_48 : decode cX8_keepToken 48 = .ok (.getfield 29, 3) := dz_180 (n := 32) (r := 16) hz_X8_keepToken_32 rfl rfl
theorem dX8_keepToken_51 : decode cX8_keepToken 51 = .ok (.aload_n 0, 1) := dz_42 (n := 32) (r := 19) hz_X8_keepToken_32 rfl
theorem dX8_keepToken_52 : decode cX8_keepToken 52 = .ok (.getfield 52, 3) := dz_180 (n := 32) (r := 20) hz_X8_keepToken_32 rfl rfl
theorem dX8_keepToken_55 : decode cX8_keepToken 55 = .ok (.iastore, 1) := dz_79 (n := 32) (r := 23) hz_X8_keepToken_32 rfl
theorem dX8_keepToken_56 : decode cX8_keepToken 56 = .ok (.aload_n 0, 1) := dz_42 (n := 32) (r := 24) hz_X8_keepToken_32 rfl
theorem dX8_keepToken_57 : decode cX8_keepToken 57 = .ok (.dup, 1) := dz_89 (n := 32) (r := 25) hz_X8_keepToken_32 rfl
theorem dX8_keepToken_58 : decode cX8_keepToken 58 = .ok (.getfield 29, 3) := dz_180 (n := 32) (r := 26) hz_X8_keepToken_32 rfl rfl
theorem dX8_keepToken_61 : decode cX8_keepToken 61 = .ok (.iconst 1, 1) := dz_4 (n := 32) (r := 29) hz_X8_keepToken_32 rfl
theorem dX8_keepToken_62 : decode cX8_keepToken 62 = .ok (.iadd, 1) := dz_96 (n := 32) (r := 30) hz_X8_keepToken_32 rfl
theorem dX8_keepToken_63 : decode cX8_keepToken 63 = .ok (.putfield 29, 3) := dz_181 (n := 32) (r := 31) hz_X8_keepToken_32 rfl rfl
theorem hz_X8_keepToken_64 : (cX8_keepToken.data.toList.drop 64).take 40 = [0, 29, 177] := by decide +kernel
theorem dX8_keepToken_66 : decode cX8_keepToken 66 = .ok (.return_, 1) := dz_177 (n := 64) (r := 2) hz_X8_keepToken_64 rfl
theorem hz_X8_kindAt_0 : (cX8_kindAt.data.toList.drop 0).take 40 = [27, 155, 0, 29, 27, 42, 180, 0, 29, 162, 0, 21, 27, 42, 180, 0, 15, 190, 162, 0, 12, 42, 180, 0, 15, 27, 46, 167, 0, 4, 3, 172] := by decide +kernel
theorem dX8_kindAt_0 : decode cX8_kindAt 0 = .ok (.iload_n 1, 1) := dz_27 (n := 0) (r := 0) hz_X8_kindAt_0 rfl
theorem dX8_kindAt_1 : decode cX8_kindAt 1 = .ok (.ifCond .lt 29, 3) := dz_155 (n := 0) (r := 1) hz_X8_kindAt_0 rfl (by decide +kernel)
theorem dX8_kindAt_4 : decode cX8_kindAt 4 = .ok (.iload_n 1, 1) := dz_27 (n := 0) (r := 4) hz_X8_kindAt_0 rfl
theorem dX8_kindAt_5 : decode cX8_kindAt 5 = .ok (.aload_n 0, 1) := dz_42 (n := 0) (r := 5) hz_X8_kindAt_0 rfl
theorem dX8_kindAt_6 : decode cX8_kindAt 6 = .ok (.getfield 29, 3) := dz_180 (n := 0) (r := 6) hz_X8_kindAt_0 rfl rfl
theorem dX8_kindAt_9 : decode cX8_kindAt 9 = .ok (.if_icmp .ge 21, 3) := dz_162 (n := 0) (r := 9) hz_X8_kindAt_0 rfl (by decide +kernel)
theorem dX8_kindAt_12 : decode cX8_kindAt 12 = .ok (.iload_n 1, 1) := dz_27 (n := 0) (r := 12) hz_X8_kindAt_0 rfl
theorem dX8_kindAt_13 : decode cX8_kindAt 13 = .ok (.aload_n 0, 1) := dz_42 (n := 0) (r := 13) hz_X8_kindAt_0 rfl
theorem dX8_kindAt_14 : decode cX8_kindAt 14 = .ok (.getfield 15, 3) := dz_180 (n := 0) (r := 14) hz_X8_kindAt_0 rfl rfl
theorem dX8_kindAt_17 : decode cX8_kindAt 17 = .ok (.arraylength, 1) := dz_190 (n := 0) (r := 17) hz_X8_kindAt_0 rfl
theorem dX8_kindAt_18 : decode cX8_kindAt 18 = .ok (.if_icmp .ge 12, 3) := dz_162 (n := 0) (r := 18) hz_X8_kindAt_0 rfl (by decide +kernel)
theorem dX8_kindAt_21 : decode cX8_kindAt 21 = .ok (.aload_n 0, 1) := dz_42 (n := 0) (r := 21) hz_X8_kindAt_0 rfl
theorem dX8_kindAt_22 : decode cX8_kindAt 22 = .ok (.getfield 15, 3) := dz_180 (n := 0) (r := 22) hz_X8_kindAt_0 rfl rfl
theorem dX8_kindAt_25 : decode cX8_kindAt 25 = .ok (.iload_n 1, 1) := dz_27 (n := 0) (r := 25) hz_X8_kindAt_0 rfl
theorem dX8_kindAt_26 : decode cX8_kindAt 26 = .ok (.iaload, 1) := dz_46 (n := 0) (r := 26) hz_X8_kindAt_0 rfl
theorem dX8_kindAt_27 : decode cX8_kindAt 27 = .ok (.goto 4, 3) := dz_167 (n := 0) (r := 27) hz_X8_kindAt_0 rfl (by decide +kernel)
theorem dX8_kindAt_30 : decode cX8_kindAt 30 = .ok (.iconst 0, 1) := dz_3 (n := 0) (r := 30) hz_X8_kindAt_0 rfl
theorem dX8_kindAt_31 : decode cX8_kindAt 31 = .ok (.ireturn, 1) := dz_172 (n := 0) (r := 31) hz_X8_kindAt_0 rfl
theorem hz_X8_numberAt_0 : (cX8_numberAt.data.toList.drop 0).take 40 = [27, 155, 0, 29, 27, 42, 180, 0, 29, 162, 0, 21, 27, 42, 180, 0, 19, 190, 162, 0, 12, 42, 180, 0, 19, 27, 46, 167, 0, 4, 3, 172] := by decide +kernel
theorem dX8_numberAt_0 : decode cX8_numberAt 0 = .ok (.iload_n 1, 1) := dz_27 (n := 0) (r := 0) hz_X8_numberAt_0 rfl
theorem dX8_numberAt_1 : decode cX8_numberAt 1 = .ok (.ifCond .lt 29, 3) := dz_155 (n := 0) (r := 1) hz_X8_numberAt_0 rfl (by decide +kernel)
theorem dX8_numberAt_4 : decode cX8_numberAt 4 = .ok (.iload_n 1, 1) := dz_27 (n := 0) (r := 4) hz_X8_numberAt_0 rfl
theorem dX8_numberAt_5 : decode cX8_numberAt 5 = .ok (.aload_n 0, 1) := dz_42 (n := 0) (r := 5) hz_X8_numberAt_0 rfl
theorem dX8_numberAt_6 : decode cX8_numberAt 6 = .ok (.getfield 29, 3) := dz_180 (n := 0) (r := 6) hz_X8_numberAt_0 rfl rfl
theorem dX8_numberAt_9 : decode cX8_numberAt 9 = .ok (.if_icmp .ge 21, 3) := dz_162 (n := 0) (r := 9) hz_X8_numberAt_0 rfl (by decide +kernel)
theorem dX8_numberAt_12 : decode cX8_numberAt 12 = .ok (.iload_n 1, 1) := dz_27 (n := 0) (r := 12) hz_X8_numberAt_0 rfl
theorem dX8_numberAt_13 : decode cX8_numberAt 13 = .ok (.aload_n 0, 1) := dz_42 (n := 0) (r := 13) hz_X8_numberAt_0 rfl
theorem dX8_numberAt_14 : decode cX8_numberAt 14 = .ok (.getfield 19, 3) := dz_180 (n := 0) (r := 14) hz_X8_numberAt_0 rfl rfl
theorem dX8_numberAt_17 : decode cX8_numberAt 17 = .ok (.arraylength, 1) := dz_190 (n := 0) (r := 17) hz_X8_numberAt_0 rfl
theorem dX8_numberAt_18 : decode cX8_numberAt 18 = .ok (.if_icmp .ge 12, 3) := dz_162 (n := 0) (r := 18) hz_X8_numberAt_0 rfl (by decide +kernel)
theorem dX8_numberAt_21 : decode cX8_numberAt 21 = .ok (.aload_n 0, 1) := dz_42 (n := 0) (r := 21) hz_X8_numberAt_0 rfl
theorem dX8_numberAt_22 : decode cX8_numberAt 22 = .ok (.getfield 19, 3) := dz_180 (n := 0) (r := 22) hz_X8_numberAt_0 rfl rfl
theorem dX8_numberAt_25 : decode cX8_numberAt 25 = .ok (.iload_n 1, 1) := dz_27 (n := 0) (r := 25) hz_X8_numberAt_0 rfl
theorem dX8_numberAt_26 : decode cX8_numberAt 26 = .ok (.iaload, 1) := dz_46 (n := 0) (r := 26) hz_X8_numberAt_0 rfl
theorem dX8_numberAt_27 : decode cX8_numberAt 27 = .ok (.goto 4, 3) := dz_167 (n := 0) (r := 27) hz_X8_numberAt_0 rfl (by decide +kernel)
theorem dX8_numberAt_30 : decode cX8_numberAt 30 = .ok (.iconst 0, 1) := dz_3 (n := 0) (r := 30) hz_X8_numberAt_0 rfl
theorem dX8_numberAt_31 : decode cX8_numberAt 31 = .ok (.ireturn, 1) := dz_172 (n := 0) (r := 31) hz_X8_numberAt_0 rfl
theorem hz_X8_placeAt_0 : (cX8_placeAt.data.toList.drop 0).take 40 = [27, 155, 0, 29, 27, 42, 180, 0, 29, 162, 0, 21, 27, 42, 180, 0, 22, 190, 162, 0, 12, 42, 180, 0, 22, 27, 46, 167, 0, 4, 2, 172] := by decide +kernel
theorem dX8_placeAt_0 : decode cX8_placeAt 0 = .ok (.iload_n 1, 1) := dz_27 (n := 0) (r := 0) hz_X8_placeAt_0 rfl
theorem dX8_placeAt_1 : decode cX8_placeAt 1 = .ok (.ifCond .lt 29, 3) := dz_155 (n := 0) (r := 1) hz_X8_placeAt_0 rfl (by decide +kernel)
theorem dX8_placeAt_4 : decode cX8_placeAt 4 = .ok (.iload_n 1, 1) := dz_27 (n := 0) (r := 4) hz_X8_placeAt_0 rfl
theorem dX8_placeAt_5 : decode cX8_placeAt 5 = .ok (.aload_n 0, 1) := dz_42 (n := 0) (r := 5) hz_X8_placeAt_0 rfl
theorem dX8_placeAt_6 : decode cX8_placeAt 6 = .ok (.getfield 29, 3) := dz_180 (n := 0) (r := 6) hz_X8_placeAt_0 rfl rfl
theorem dX8_placeAt_9 : decode cX8_placeAt 9 = .ok (.if_icmp .ge 21, 3) := dz_162 (n := 0) (r := 9) hz_X8_placeAt_0 rfl (by decide +kernel)
theorem dX8_placeAt_12 : decode cX8_placeAt 12 = .ok (.iload_n 1, 1) := dz_27 (n := 0) (r := 12) hz_X8_placeAt_0 rfl
theorem dX8_placeAt_13 : decode cX8_placeAt 13 = .ok (.aload_n 0, 1) := dz_42 (n := 0) (r := 13) hz_X8_placeAt_0 rfl
theorem dX8_placeAt_14 : decode cX8_placeAt 14 = .ok (.getfield 22, 3) := dz_180 (n := 0) (r := 14) hz_X8_placeAt_0 rfl rfl
theorem dX8_placeAt_17 : decode cX8_placeAt 17 = .ok (.arraylength, 1) := dz_190 (n := 0) (r := 17) hz_X8_placeAt_0 rfl
theorem dX8_placeAt_18 : decode cX8_placeAt 18 = .ok (.if_icmp .ge 12, 3) := dz_162 (n := 0) (r := 18) hz_X8_placeAt_0 rfl (by decide +kernel)
theorem dX8_placeAt_21 : decode cX8_placeAt 21 = .ok (.aload_n 0, 1) := dz_42 (n := 0) (r := 21) hz_X8_placeAt_0 rfl
theorem dX8_placeAt_22 : decode cX8_placeAt 22 = .ok (.getfield 22, 3) := dz_180 (n := 0) (r := 22) hz_X8_placeAt_0 rfl rfl
theorem dX8_placeAt_25 : decode cX8_placeAt 25 = .ok (.iload_n 1, 1) := dz_27 (n := 0) (r := 25) hz_X8_placeAt_0 rfl
theorem dX8_placeAt_26 : decode cX8_placeAt 26 = .ok (.iaload, 1) := dz_46 (n := 0) (r := 26) hz_X8_placeAt_0 rfl
theorem dX8_placeAt_27 : decode cX8_placeAt 27 = .ok (.goto 4, 3) := dz_167 (n := 0) (r := 27) hz_X8_placeAt_0 rfl (by decide +kernel)
theorem dX8_placeAt_30 : decode cX8_placeAt 30 = .ok (.iconst (-1), 1) := dz_2 (n := 0) (r := 30) hz_X8_placeAt_0 rfl
theorem dX8_placeAt_31 : decode cX8_placeAt 31 = .ok (.ireturn, 1) := dz_172 (n := 0) (r := 31) hz_X8_placeAt_0 rfl
theorem hz_X8_findToken_0 : (cX8_findToken.data.toList.drop 0).take 40 = [42, 27, 181, 0, 52, 42, 180, 0, 52, 42, 180, 0, 25, 162, 0, 30, 42, 42, 180, 0, 52, 182, 0, 55, 184, 0, 59, 153, 0, 16, 42, 89, 180, 0, 52, 4, 96, 181, 0, 52] := by decide +kernel
theorem dX8_findToken_0 : decode cX8_findToken 0 = .ok (.aload_n 0, 1) := dz_42 (n := 0) (r := 0) hz_X8_findToken_0 rfl
theorem dX8_findToken_1 : decode cX8_findToken 1 = .ok (.iload_n 1, 1) := dz_27 (n := 0) (r := 1) hz_X8_findToken_0 rfl
theorem dX8_findToken_2 : decode cX8_findToken 2 = .ok (.putfield 52, 3) := dz_181 (n := 0) (r := 2) hz_X8_findToken_0 rfl rfl
theorem dX8_findToken_5 : decode cX8_findToken 5 = .ok (.aload_n 0, 1) := dz_42 (n := 0) (r := 5) hz_X8_findToken_0 rfl
theorem dX8_findToken_6 : decode cX8_findToken 6 = .ok (.getfield 52, 3) := dz_180 (n := 0) (r := 6) hz_X8_findToken_0 rfl rfl
theorem dX8_findToken_9 : decode cX8_findToken 9 = .ok (.aload_n 0, 1) := dz_42 (n := 0) (r := 9) hz_X8_findToken_0 rfl
theorem dX8_findToken_10 : decode cX8_findToken 10 = .ok (.getfield 25, 3) := dz_180 (n := 0) (r := 10) hz_X8_findToken_0 rfl rfl
theorem dX8_findToken_13 : decode cX8_findToken 13 = .ok (.if_icmp .ge 30, 3) := dz_162 (n := 0) (r := 13) hz_X8_findToken_0 rfl (by decide +kernel)
theorem dX8_findToken_16 : decode cX8_findToken 16 = .ok (.aload_n 0, 1) := dz_42 (n := 0) (r := 16) hz_X8_findToken_0 rfl
theorem dX8_findToken_17 : decode cX8_findToken 17 = .ok (.aload_n 0, 1) := dz_42 (n := 0) (r := 17) hz_X8_findToken_0 rfl
theorem dX8_findToken_18 : decode cX8_findToken 18 = .ok (.getfield 52, 3) := dz_180 (n := 0) (r := 18) hz_X8_findToken_0 rfl rfl
theorem dX8_findToken_21 : decode cX8_findToken 21 = .ok (.invokevirtual 55, 3) := dz_182 (n := 0) (r := 21) hz_X8_findToken_0 rfl rfl
theorem dX8_findToken_24 : decode cX8_findToken 24 = .ok (.invokestatic 59, 3) := dz_184 (n := 0) (r := 24) hz_X8_findToken_0 rfl rfl
theorem dX8_findToken_27 : decode cX8_findToken 27 = .ok (.ifCond .eq 16, 3) := dz_153 (n := 0) (r := 27) hz_X8_findToken_0 rfl (by decide +kernel)
theorem dX8_findToken_30 : decode cX8_findToken 30 = .ok (.aload_n 0, 1) := dz_42 (n := 0) (r := 30) hz_X8_findToken_0 rfl
theorem dX8_findToken_31 : decode cX8_findToken 31 = .ok (.dup, 1) := dz_89 (n := 0) (r := 31) hz_X8_findToken_0 rfl
theorem hz_X8_findToken_32 : (cX8_findToken.data.toList.drop 32).take 40 = [180, 0, 52, 4, 96, 181, 0, 52, 167, 255, 221, 42, 42, 180, 0, 52, 182, 0, 55, 61, 42, 42, 180, 0, 52, 4, 96, 181, 0, 32, 42, 180, 0, 52, 42, 180, 0, 25, 161, 0] := by decide +kernel
theorem dX8_findToken_32 : decode cX8_findToken 32 = .ok (.getfield 52, 3) := dz_180 (n := 32) (r := 0) hz_X8_findToken_32 rfl rfl
theorem dX8_findToken_35 : decode cX8_findToken 35 = .ok (.iconst 1, 1) := dz_4 (n := 32) (r := 3) hz_X8_findToken_32 rfl
theorem dX8_findToken_36 : decode cX8_findToken 36 = .ok (.iadd, 1) := dz_96 (n := 32) (r := 4) hz_X8_findToken_32 rfl
theorem dX8_findToken_37 : decode cX8_findToken 37 = .ok (.putfield 52, 3) := dz_181 (n := 32) (r := 5) hz_X8_findToken_32 rfl rfl
theorem dX8_findToken_40 : decode cX8_findToken 40 = .ok (.goto (-35), 3) := dz_167 (n := 32) (r := 8) hz_X8_findToken_32 rfl (by decide +kernel)
theorem dX8_findToken_43 : decode cX8_findToken 43 = .ok (.aload_n 0, 1) := dz_42 (n := 32) (r := 11) hz_X8_findToken_32 rfl
theorem dX8_findToken_44 : decode cX8_findToken 44 = .ok (.aload_n 0, 1) := dz_42 (n := 32) (r := 12) hz_X8_findToken_32 rfl
theorem dX8_findToken_45 : decode cX8_findToken 45 = .ok (.getfield 52, 3) := dz_180 (n := 32) (r := 13) hz_X8_findToken_32 rfl rfl
theorem dX8_findToken_48 : decode cX8_findToken 48 = .ok (.invokevirtual 55, 3) := dz_182 (n := 32) (r := 16) hz_X8_findToken_32 rfl rfl
theorem dX8_findToken_51 : decode cX8_findToken 51 = .ok (.istore_n 2, 1) := dz_61 (n := 32) (r := 19) hz_X8_findToken_32 rfl
theorem dX8_findToken_52 : decode cX8_findToken 52 = .ok (.aload_n 0, 1) := dz_42 (n := 32) (r := 20) hz_X8_findToken_32 rfl
theorem dX8_findToken_53 : decode cX8_findToken 53 = .ok (.aload_n 0, 1) := dz_42 (n := 32) (r := 21) hz_X8_findToken_32 rfl
theorem dX8_findToken_54 : decode cX8_findToken 54 = .ok (.getfield 52, 3) := dz_180 (n := 32) (r := 22) hz_X8_findToken_32 rfl rfl
theorem dX8_findToken_57 : decode cX8_findToken 57 = .ok (.iconst 1, 1) := dz_4 (n := 32) (r := 25) hz_X8_findToken_32 rfl
theorem dX8_findToken_58 : decode cX8_findToken 58 = .ok (.iadd, 1) := dz_96 (n := 32) (r := 26) hz_X8_findToken_32 rfl
theorem dX8_findToken_59 : decode cX8_findToken 59 = .ok (.putfield 32, 3) := dz_181 (n := 32) (r := 27) hz_X8_findToken_32 rfl rfl
theorem dX8_findToken_62 : decode cX8_findToken 62 = .ok (.aload_n 0, 1) := dz_42 (n := 32) (r := 30) hz_X8_findToken_32 rfl
theorem dX8_findToken_63 : decode cX8_findToken 63 = .ok (.getfield 52, 3) := dz_180 (n := 32) (r := 31) hz_X8_findToken_32 rfl rfl
theorem hz_X8_findToken_64 : (cX8_findToken.data.toList.drop 64).take 40 = [0, 52, 42, 180, 0, 25, 161, 0, 19, 42, 42, 180, 0, 25, 181, 0, 32, 42, 3, 181, 0, 39, 167, 0, 64, 28, 184, 0, 63, 153, 0, 18, 42, 182, 0, 66, 42, 42, 182, 0] := by decide +kernel
theorem dX8_findToken_66 : decode cX8_findToken 66 = .ok (.aload_n 0, 1) := dz_42 (n := 64) (r := 2) hz_X8_findToken_64 rfl
theorem dX8_findToken_67 : decode cX8_findToken 67 = .ok (.getfield 25, 3) := dz_180 (n := 64) (r := 3) hz_X8_findToken_64 rfl rfl
theorem dX8_findToken_70 : decode cX8_findToken 70 = .ok (.if_icmp .lt 19, 3) := dz_161 (n := 64) (r := 6) hz_X8_findToken_64 rfl (by decide +kernel)
theorem dX8_findToken_73 : decode cX8_findToken 73 = .ok (.aload_n 0, 1) := dz_42 (n := 64) (r := 9) hz_X8_findToken_64 rfl
theorem dX8_findToken_74 : decode cX8_findToken 74 = .ok (.aload_n 0, 1) := dz_42 (n := 64) (r := 10) hz_X8_findToken_64 rfl
theorem dX8_findToken_75 : decode cX8_findToken 75 = .ok (.getfield 25, 3) := dz_180 (n := 64) (r := 11) hz_X8_findToken_64 rfl rfl
theorem dX8_findToken_78 : decode cX8_findToken 78 = .ok (.putfield 32, 3) := dz_181 (n := 64) (r := 14) hz_X8_findToken_64 rfl rfl
theorem dX8_findToken_81 : decode cX8_findToken 81 = .ok (.aload_n 0, 1) := dz_42 (n := 64) (r := 17) hz_X8_findToken_64 rfl
theorem dX8_findToken_82 : decode cX8_findToken 82 = .ok (.iconst 0, 1) := dz_3 (n := 64) (r := 18) hz_X8_findToken_64 rfl
theorem dX8_findToken_83 : decode cX8_findToken 83 = .ok (.putfield 39, 3) := dz_181 (n := 64) (r := 19) hz_X8_findToken_64 rfl rfl
theorem dX8_findToken_86 : decode cX8_findToken 86 = .ok (.goto 64, 3) := dz_167 (n := 64) (r := 22) hz_X8_findToken_64 rfl (by decide +kernel)
theorem dX8_findToken_89 : decode cX8_findToken 89 = .ok (.iload_n 2, 1) := dz_28 (n := 64) (r := 25) hz_X8_findToken_64 rfl
theorem dX8_findToken_90 : decode cX8_findToken 90 = .ok (.invokestatic 63, 3) := dz_184 (n := 64) (r := 26) hz_X8_findToken_64 rfl rfl
theorem dX8_findToken_93 : decode cX8_findToken 93 = .ok (.ifCond .eq 18, 3) := dz_153 (n := 64) (r := 29) hz_X8_findToken_64 rfl (by decide +kernel)
theorem hz_X8_findToken_96 : (cX8_findToken.data.toList.drop 96).take 40 = [42, 182, 0, 66, 42, 42, 182, 0, 69, 181, 0, 39, 167, 0, 42, 28, 184, 0, 73, 153, 0, 10, 42, 182, 0, 76, 167, 0, 28, 42, 28, 16, 45, 160, 0, 7, 6, 167, 0, 14] := by decide +kernel
theorem dX8_findToken_96 : decode cX8_findToken 96 = .ok (.aload_n 0, 1) := dz_42 (n := 96) (r := 0) hz_X8_findToken_96 rfl
theorem dX8_findToken_97 : decode cX8_findToken 97 = .ok (.invokevirtual 66, 3) := dz_182 (n := 96) (r := 1) hz_X8_findToken_96 rfl rfl
theorem dX8_findToken_100 : decode cX8_findToken 100 = .ok (.aload_n 0, 1) := dz_42 (n := 96) (r := 4) hz_X8_findToken_96 rfl
theorem dX8_findToken_101 : decode cX8_findToken 101 = .ok (.aload_n 0, 1) := dz_42 (n := 96) (r := 5) hz_X8_findToken_96 rfl
theorem dX8_findToken_102 : decode cX8_findToken 102 = .ok (.invokevirtual 69, 3) := dz_182 (n := 96) (r := 6) hz_X8_findToken_96 rfl rfl
theorem dX8_findToken_105 : decode cX8_findToken 105 = .ok (.putfield 39, 3) := dz_181 (n := 96) (r := 9) hz_X8_findToken_96 rfl rfl
theorem dX8_findToken_108 : decode cX8_findToken 108 = .ok (.goto 42, 3) := dz_167 (n := 96) (r := 12) hz_X8_findToken_96 rfl (by decide +kernel)
theorem dX8_findToken_111 : decode cX8_findToken 111 = .ok (.iload_n 2, 1) := dz_28 (n := 96) (r := 15) hz_X8_findToken_96 rfl
theorem dX8_findToken_112 : decode cX8_findToken 112 = .ok (.invokestatic 73, 3) := dz_184 (n := 96) (r := 16) hz_X8_findToken_96 rfl rfl
theorem dX8_findToken_115 : decode cX8_findToken 115 = .ok (.ifCond .eq 10, 3) := dz_153 (n := 96) (r := 19) hz_X8_findToken_96 rfl (by decide +kernel)
theorem dX8_findToken_118 : decode cX8_findToken 118 = .ok (.aload_n 0, 1) := dz_42 (n := 96) (r := 22) hz_X8_findToken_96 rfl
theorem dX8_findToken_119 : decode cX8_findToken 119 = .ok (.invokevirtual 76, 3) := dz_182 (n := 96) (r := 23) hz_X8_findToken_96 rfl rfl
theorem dX8_findToken_122 : decode cX8_findToken 122 = .ok (.goto 28, 3) := dz_167 (n := 96) (r := 26) hz_X8_findToken_96 rfl (by decide +kernel)
theorem dX8_findToken_125 : decode cX8_findToken 125 = .ok (.aload_n 0, 1) := dz_42 (n := 96) (r := 29) hz_X8_findToken_96 rfl
theorem dX8_findToken_126 : decode cX8_findToken 126 = .ok (.iload_n 2, 1) := dz_28 (n := 96) (r := 30) hz_X8_findToken_96 rfl
theorem dX8_findToken_127 : decode cX8_findToken 127 = .ok (.bipush 45, 2) := dz_16 (n := 96) (r := 31) hz_X8_findToken_96 rfl rfl
theorem hz_X8_findToken_128 : (cX8_findToken.data.toList.drop 128).take 40 = [45, 160, 0, 7, 6, 167, 0, 14, 28, 16, 59, 160, 0, 7, 7, 167, 0, 4, 4, 181, 0, 39, 177] := by decide +kernel
theorem dX8_findToken_129 : decode cX8_findToken 129 = .ok (.if_icmp .ne 7, 3) := dz_160 (n := 128) (r := 1) hz_X8_findToken_128 rfl (by decide +kernel)
theorem dX8_findToken_132 : decode cX8_findToken 132 = .ok (.iconst 3, 1) := dz_6 (n := 128) (r := 4) hz_X8_findToken_128 rfl
theorem dX8_findToken_133 : decode cX8_findToken 133 = .ok (.goto 14, 3) := dz_167 (n := 128) (r := 5) hz_X8_findToken_128 rfl (by decide +kernel)
theorem dX8_findToken_136 : decode cX8_findToken 136 = .ok (.iload_n 2, 1) := dz_28 (n := 128) (r := 8) hz_X8_findToken_128 rfl
theorem dX8_findToken_137 : decode cX8_findToken 137 = .ok (.bipush 59, 2) := dz_16 (n := 128) (r := 9) hz_X8_findToken_128 rfl rfl
theorem dX8_findToken_139 : decode cX8_findToken 139 = .ok (.if_icmp .ne 7, 3) := dz_160 (n := 128) (r := 11) hz_X8_findToken_128 rfl (by decide +kernel)
theorem dX8_findToken_142 : decode cX8_findToken 142 = .ok (.iconst 4, 1) := dz_7 (n := 128) (r := 14) hz_X8_findToken_128 rfl
theorem dX8_findToken_143 : decode cX8_findToken 143 = .ok (.goto 4, 3) := dz_167 (n := 128) (r := 15) hz_X8_findToken_128 rfl (by decide +kernel)
theorem dX8_findToken_146 : decode cX8_findToken 146 = .ok (.iconst 1, 1) := dz_4 (n := 128) (r := 18) hz_X8_findToken_128 rfl
theorem dX8_findToken_147 : decode cX8_findToken 147 = .ok (.putfield 39, 3) := dz_181 (n := 128) (r := 19) hz_X8_findToken_128 rfl rfl
theorem dX8_findToken_150 : decode cX8_findToken 150 = .ok (.return_, 1) := dz_177 (n := 128) (r := 22) hz_X8_findToken_128 rfl
theorem hz_X8_skipLetters_0 : (cX8_skipLetters.data.toList.drop 0).take 40 = [42, 180, 0, 32, 42, 180, 0, 25, 162, 0, 30, 42, 42, 180, 0, 32, 182, 0, 55, 184, 0, 63, 153, 0, 16, 42, 89, 180, 0, 32, 4, 96, 181, 0, 32, 167, 255, 221, 177] := by decide +kernel
theorem dX8_skipLetters_0 : decode cX8_skipLetters 0 = .ok (.aload_n 0, 1) := dz_42 (n := 0) (r := 0) hz_X8_skipLetters_0 rfl
theorem dX8_skipLetters_1 : decode cX8_skipLetters 1 = .ok (.getfield 32, 3) := dz_180 (n := 0) (r := 1) hz_X8_skipLetters_0 rfl rfl
theorem dX8_skipLetters_4 : decode cX8_skipLetters 4 = .ok (.aload_n 0, 1) := dz_42 (n := 0) (r := 4) hz_X8_skipLetters_0 rfl
theorem dX8_skipLetters_5 : decode cX8_skipLetters 5 = .ok (.getfield 25, 3) := dz_180 (n := 0) (r := 5) hz_X8_skipLetters_0 rfl rfl
theorem dX8_skipLetters_8 : decode cX8_skipLetters 8 = .ok (.if_icmp .ge 30, 3) := dz_162 (n := 0) (r := 8) hz_X8_skipLetters_0 rfl (by decide +kernel)
theorem dX8_skipLetters_11 : decode cX8_skipLetters 11 = .ok (.aload_n 0, 1) := dz_42 (n := 0) (r := 11) hz_X8_skipLetters_0 rfl
theorem dX8_skipLetters_12 : decode cX8_skipLetters 12 = .ok (.aload_n 0, 1) := dz_42 (n := 0) (r := 12) hz_X8_skipLetters_0 rfl
theorem dX8_skipLetters_13 : decode cX8_skipLetters 13 = .ok (.getfield 32, 3) := dz_180 (n := 0) (r := 13) hz_X8_skipLetters_0 rfl rfl
theorem dX8_skipLetters_16 : decode cX8_skipLetters 16 = .ok (.invokevirtual 55, 3) := dz_182 (n := 0) (r := 16) hz_X8_skipLetters_0 rfl rfl
theorem dX8_skipLetters_19 : decode cX8_skipLetters 19 = .ok (.invokestatic 63, 3) := dz_184 (n := 0) (r := 19) hz_X8_skipLetters_0 rfl rfl
theorem dX8_skipLetters_22 : decode cX8_skipLetters 22 = .ok (.ifCond .eq 16, 3) := dz_153 (n := 0) (r := 22) hz_X8_skipLetters_0 rfl (by decide +kernel)
theorem dX8_skipLetters_25 : decode cX8_skipLetters 25 = .ok (.aload_n 0, 1) := dz_42 (n := 0) (r := 25) hz_X8_skipLetters_0 rfl
theorem dX8_skipLetters_26 : decode cX8_skipLetters 26 = .ok (.dup, 1) := dz_89 (n := 0) (r := 26) hz_X8_skipLetters_0 rfl
theorem dX8_skipLetters_27 : decode cX8_skipLetters 27 = .ok (.getfield 32, 3) := dz_180 (n := 0) (r := 27) hz_X8_skipLetters_0 rfl rfl
theorem dX8_skipLetters_30 : decode cX8_skipLetters 30 = .ok (.iconst 1, 1) := dz_4 (n := 0) (r := 30) hz_X8_skipLetters_0 rfl
theorem dX8_skipLetters_31 : decode cX8_skipLetters 31 = .ok (.iadd, 1) := dz_96 (n := 0) (r := 31) hz_X8_skipLetters_0 rfl
theorem hz_X8_skipLetters_32 : (cX8_skipLetters.data.toList.drop 32).take 40 = [181, 0, 32, 167, 255, 221, 177] := by decide +kernel
theorem dX8_skipLetters_32 : decode cX8_skipLetters 32 = .ok (.putfield 32, 3) := dz_181 (n := 32) (r := 0) hz_X8_skipLetters_32 rfl rfl
theorem dX8_skipLetters_35 : decode cX8_skipLetters 35 = .ok (.goto (-35), 3) := dz_167 (n := 32) (r := 3) hz_X8_skipLetters_32 rfl (by decide +kernel)
theorem dX8_skipLetters_38 : decode cX8_skipLetters 38 = .ok (.return_, 1) := dz_177 (n := 32) (r := 6) hz_X8_skipLetters_32 rfl
theorem hz_X8_findInt_0 : (cX8_findInt.data.toList.drop 0).take 40 = [42, 180, 0, 32, 42, 180, 0, 25, 162, 0, 30, 42, 42, 180, 0, 32, 182, 0, 55, 184, 0, 73, 153, 0, 16, 42, 89, 180, 0, 32, 4, 96, 181, 0, 32, 167, 255, 221, 42, 42] := by decide +kernel
theorem dX8_findInt_0 : decode cX8_findInt 0 = .ok (.aload_n 0, 1) := dz_42 (n := 0) (r := 0) hz_X8_findInt_0 rfl
theorem dX8_findInt_1 : decode cX8_findInt 1 = .ok (.getfield 32, 3) := dz_180 (n := 0) (r := 1) hz_X8_findInt_0 rfl rfl
theorem dX8_findInt_4 : decode cX8_findInt 4 = .ok (.aload_n 0, 1) := dz_42 (n := 0) (r := 4) hz_X8_findInt_0 rfl
theorem dX8_findInt_5 : decode cX8_findInt 5 = .ok (.getfield 25, 3) := dz_180 (n := 0) (r := 5) hz_X8_findInt_0 rfl rfl
theorem dX8_findInt_8 : decode cX8_findInt 8 = .ok (.if_icmp .ge 30, 3) := dz_162 (n := 0) (r := 8) hz_X8_findInt_0 rfl (by decide +kernel)
theorem dX8_findInt_11 : decode cX8_findInt 11 = .ok (.aload_n 0, 1) := dz_42 (n := 0) (r := 11) hz_X8_findInt_0 rfl
theorem dX8_findInt_12 : decode cX8_findInt 12 = .ok (.aload_n 0, 1) := dz_42 (n := 0) (r := 12) hz_X8_findInt_0 rfl
theorem dX8_findInt_13 : decode cX8_findInt 13 = .ok (.getfield 32, 3) := dz_180 (n := 0) (r := 13) hz_X8_findInt_0 rfl rfl
theorem dX8_findInt_16 : decode cX8_findInt 16 = .ok (.invokevirtual 55, 3) := dz_182 (n := 0) (r := 16) hz_X8_findInt_0 rfl rfl
theorem dX8_findInt_19 : decode cX8_findInt 19 = .ok (.invokestatic 73, 3) := dz_184 (n := 0) (r := 19) hz_X8_findInt_0 rfl rfl
theorem dX8_findInt_22 : decode cX8_findInt 22 = .ok (.ifCond .eq 16, 3) := dz_153 (n := 0) (r := 22) hz_X8_findInt_0 rfl (by decide +kernel)
theorem dX8_findInt_25 : decode cX8_findInt 25 = .ok (.aload_n 0, 1) := dz_42 (n := 0) (r := 25) hz_X8_findInt_0 rfl
theorem dX8_findInt_26 : decode cX8_findInt 26 = .ok (.dup, 1) := dz_89 (n := 0) (r := 26) hz_X8_findInt_0 rfl
theorem dX8_findInt_27 : decode cX8_findInt 27 = .ok (.getfield 32, 3) := dz_180 (n := 0) (r := 27) hz_X8_findInt_0 rfl rfl
theorem dX8_findInt_30 : decode cX8_findInt 30 = .ok (.iconst 1, 1) := dz_4 (n := 0) (r := 30) hz_X8_findInt_0 rfl
theorem dX8_findInt_31 : decode cX8_findInt 31 = .ok (.iadd, 1) := dz_96 (n := 0) (r := 31) hz_X8_findInt_0 rfl
theorem hz_X8_findInt_32 : (cX8_findInt.data.toList.drop 32).take 40 = [181, 0, 32, 167, 255, 221, 42, 42, 180, 0, 32, 42, 180, 0, 52, 100, 7, 163, 0, 7, 5, 167, 0, 4, 4, 181, 0, 39, 42, 3, 181, 0, 49, 42, 180, 0, 52, 60, 42, 180] := by decide +kernel
theorem dX8_findInt_32 : decode cX8_findInt 32 = .ok (.putfield 32, 3) := dz_181 (n := 32) (r := 0) hz_X8_findInt_32 rfl rfl
theorem dX8_findInt_35 : decode cX8_findInt 35 = .ok (.goto (-35), 3) := dz_167 (n := 32) (r := 3) hz_X8_findInt_32 rfl (by decide +kernel)
theorem dX8_findInt_38 : decode cX8_findInt 38 = .ok (.aload_n 0, 1) := dz_42 (n := 32) (r := 6) hz_X8_findInt_32 rfl
theorem dX8_findInt_39 : decode cX8_findInt 39 = .ok (.aload_n 0, 1) := dz_42 (n := 32) (r := 7) hz_X8_findInt_32 rfl
theorem dX8_findInt_40 : decode cX8_findInt 40 = .ok (.getfield 32, 3) := dz_180 (n := 32) (r := 8) hz_X8_findInt_32 rfl rfl
theorem dX8_findInt_43 : decode cX8_findInt 43 = .ok (.aload_n 0, 1) := dz_42 (n := 32) (r := 11) hz_X8_findInt_32 rfl
theorem dX8_findInt_44 : decode cX8_findInt 44 = .ok (.getfield 52, 3) := dz_180 (n := 32) (r := 12) hz_X8_findInt_32 rfl rfl
theorem dX8_findInt_47 : decode cX8_findInt 47 = .ok (.isub, 1) := dz_100 (n := 32) (r := 15) hz_X8_findInt_32 rfl
theorem dX8_findInt_48 : decode cX8_findInt 48 = .ok (.iconst 4, 1) := dz_7 (n := 32) (r := 16) hz_X8_findInt_32 rfl
theorem dX8_findInt_49 : decode cX8_findInt 49 = .ok (.if_icmp .gt 7, 3) := dz_163 (n := 32) (r := 17) hz_X8_findInt_32 rfl (by decide +kernel)
theorem dX8_findInt_52 : decode cX8_findInt 52 = .ok (.iconst 2, 1) := dz_5 (n := 32) (r := 20) hz_X8_findInt_32 rfl
theorem dX8_findInt_53 : decode cX8_findInt 53 = .ok (.goto 4, 3) := dz_167 (n := 32) (r := 21) hz_X8_findInt_32 rfl (by decide +kernel)
theorem dX8_findInt_56 : decode cX8_findInt 56 = .ok (.iconst 1, 1) := dz_4 (n := 32) (r := 24) hz_X8_findInt_32 rfl
theorem dX8_findInt_57 : decode cX8_findInt 57 = .ok (.putfield 39, 3) := dz_181 (n := 32) (r := 25) hz_X8_findInt_32 rfl rfl
theorem dX8_findInt_60 : decode cX8_findInt 60 = .ok (.aload_n 0, 1) := dz_42 (n := 32) (r := 28) hz_X8_findInt_32 rfl
theorem dX8_findInt_61 : decode cX8_findInt 61 = .ok (.iconst 0, 1) := dz_3 (n := 32) (r := 29) hz_X8_findInt_32 rfl
theorem dX8_findInt_62 : decode cX8_findInt 62 = .ok (.putfield 49, 3) := dz_181 (n := 32) (r := 30) hz_X8_findInt_32 rfl rfl
theorem hz_X8_findInt_64 : (cX8_findInt.data.toList.drop 64).take 40 = [49, 42, 180, 0, 52, 60, 42, 180, 0, 39, 5, 160, 0, 37, 27, 42, 180, 0, 32, 162, 0, 29, 42, 42, 180, 0, 49, 16, 10, 104, 42, 27, 182, 0, 55, 96, 16, 48, 100, 181] := by decide +kernel
theorem dX8_findInt_65 : decode cX8_findInt 65 = .ok (.aload_n 0, 1) := dz_42 (n := 64) (r := 1) hz_X8_findInt_64 rfl
theorem dX8_findInt_66 : decode cX8_findInt 66 = .ok (.getfield 52, 3) := dz_180 (n := 64) (r := 2) hz_X8_findInt_64 rfl rfl
theorem dX8_findInt_69 : decode cX8_findInt 69 = .ok (.istore_n 1, 1) := dz_60 (n := 64) (r := 5) hz_X8_findInt_64 rfl
theorem dX8_findInt_70 : decode cX8_findInt 70 = .ok (.aload_n 0, 1) := dz_42 (n := 64) (r := 6) hz_X8_findInt_64 rfl
theorem dX8_findInt_71 : decode cX8_findInt 71 = .ok (.getfield 39, 3) := dz_180 (n := 64) (r := 7) hz_X8_findInt_64 rfl rfl
theorem dX8_findInt_74 : decode cX8_findInt 74 = .ok (.iconst 2, 1) := dz_5 (n := 64) (r := 10) hz_X8_findInt_64 rfl
theorem dX8_findInt_75 : decode cX8_findInt 75 = .ok (.if_icmp .ne 37, 3) := dz_160 (n := 64) (r := 11) hz_X8_findInt_64 rfl (by decide +kernel)
theorem dX8_findInt_78 : decode cX8_findInt 78 = .ok (.iload_n 1, 1) := dz_27 (n := 64) (r := 14) hz_X8_findInt_64 rfl
theorem dX8_findInt_79 : decode cX8_findInt 79 = .ok (.aload_n 0, 1) := dz_42 (n := 64) (r := 15) hz_X8_findInt_64 rfl
theorem dX8_findInt_80 : decode cX8_findInt 80 = .ok (.getfield 32, 3) := dz_180 (n := 64) (r := 16) hz_X8_findInt_64 rfl rfl
theorem dX8_findInt_83 : decode cX8_findInt 83 = .ok (.if_icmp .ge 29, 3) := dz_162 (n := 64) (r := 19) hz_X8_findInt_64 rfl (by decide +kernel)
theorem dX8_findInt_86 : decode cX8_findInt 86 = .ok (.aload_n 0, 1) := dz_42 (n := 64) (r := 22) hz_X8_findInt_64 rfl
theorem dX8_findInt_87 : decode cX8_findInt 87 = .ok (.aload_n 0, 1) := dz_42 (n := 64) (r := 23) hz_X8_findInt_64 rfl
theorem dX8_findInt_88 : decode cX8_findInt 88 = .ok (.getfield 49, 3) := dz_180 (n := 64) (r := 24) hz_X8_findInt_64 rfl rfl
theorem dX8_findInt_91 : decode cX8_findInt 91 = .ok (.bipush 10, 2) := dz_16 (n := 64) (r := 27) hz_X8_findInt_64 rfl rfl
theorem dX8_findInt_93 : decode cX8_findInt 93 = .ok (.imul, 1) := dz_104 (n := 64) (r := 29) hz_X8_findInt_64 rfl
theorem dX8_findInt_94 : decode cX8_findInt 94 = .ok (.aload_n 0, 1) := dz_42 (n := 64) (r := 30) hz_X8_findInt_64 rfl
theorem dX8_findInt_95 : decode cX8_findInt 95 = .ok (.iload_n 1, 1) := dz_27 (n := 64) (r := 31) hz_X8_findInt_64 rfl
theorem hz_X8_findInt_96 : (cX8_findInt.data.toList.drop 96).take 40 = [182, 0, 55, 96, 16, 48, 100, 181, 0, 49, 132, 1, 1, 167, 255, 217, 177] := by decide +kernel
theorem dX8_findInt_96 : decode cX8_findInt 96 = .ok (.invokevirtual 55, 3) := dz_182 (n := 96) (r := 0) hz_X8_findInt_96 rfl rfl
theorem dX8_findInt_99 : decode cX8_findInt 99 = .ok (.iadd, 1) := dz_96 (n := 96) (r := 3) hz_X8_findInt_96 rfl
theorem dX8_findInt_100 : decode cX8_findInt 100 = .ok (.bipush 48, 2) := dz_16 (n := 96) (r := 4) hz_X8_findInt_96 rfl rfl
theorem dX8_findInt_102 : decode cX8_findInt 102 = .ok (.isub, 1) := dz_100 (n := 96) (r := 6) hz_X8_findInt_96 rfl
theorem dX8_findInt_103 : decode cX8_findInt 103 = .ok (.putfield 49, 3) := dz_181 (n := 96) (r := 7) hz_X8_findInt_96 rfl rfl
theorem dX8_findInt_106 : decode cX8_findInt 106 = .ok (.iinc 1 1, 3) := dz_132 (n := 96) (r := 10) hz_X8_findInt_96 rfl rfl rfl
theorem dX8_findInt_109 : decode cX8_findInt 109 = .ok (.goto (-39), 3) := dz_167 (n := 96) (r := 13) hz_X8_findInt_96 rfl (by decide +kernel)
theorem dX8_findInt_112 : decode cX8_findInt 112 = .ok (.return_, 1) := dz_177 (n := 96) (r := 16) hz_X8_findInt_96 rfl
theorem hz_X8_wordKind_0 : (cX8_wordKind.data.toList.drop 0).take 40 = [42, 18, 79, 182, 0, 81, 153, 0, 5, 8, 172, 42, 18, 85, 182, 0, 81, 153, 0, 6, 16, 6, 172, 42, 18, 87, 182, 0, 81, 153, 0, 6, 16, 7, 172, 42, 18, 89, 182, 0] := by decide +kernel
theorem dX8_wordKind_0 : decode cX8_wordKind 0 = .ok (.aload_n 0, 1) := dz_42 (n := 0) (r := 0) hz_X8_wordKind_0 rfl
theorem dX8_wordKind_1 : decode cX8_wordKind 1 = .ok (.ldc 79, 2) := dz_18 (n := 0) (r := 1) hz_X8_wordKind_0 rfl rfl
theorem dX8_wordKind_3 : decode cX8_wordKind 3 = .ok (.invokevirtual 81, 3) := dz_182 (n := 0) (r := 3) hz_X8_wordKind_0 rfl rfl
theorem dX8_wordKind_6 : decode cX8_wordKind 6 = .ok (.ifCond .eq 5, 3) := dz_153 (n := 0) (r := 6) hz_X8_wordKind_0 rfl (by decide +kernel)
theorem dX8_wordKind_9 : decode cX8_wordKind 9 = .ok (.iconst 5, 1) := dz_8 (n := 0) (r := 9) hz_X8_wordKind_0 rfl
theorem dX8_wordKind_10 : decode cX8_wordKind 10 = .ok (.ireturn, 1) := dz_172 (n := 0) (r := 10) hz_X8_wordKind_0 rfl
theorem dX8_wordKind_11 : decode cX8_wordKind 11 = .ok (.aload_n 0, 1) := dz_42 (n := 0) (r := 11) hz_X8_wordKind_0 rfl
theorem dX8_wordKind_12 : decode cX8_wordKind 12 = .ok (.ldc 85, 2) := dz_18 (n := 0) (r := 12) hz_X8_wordKind_0 rfl rfl
theorem dX8_wordKind_14 : decode cX8_wordKind 14 = .ok (.invokevirtual 81, 3) := dz_182 (n := 0) (r := 14) hz_X8_wordKind_0 rfl rfl
theorem dX8_wordKind_17 : decode cX8_wordKind 17 = .ok (.ifCond .eq 6, 3) := dz_153 (n := 0) (r := 17) hz_X8_wordKind_0 rfl (by decide +kernel)
theorem dX8_wordKind_20 : decode cX8_wordKind 20 = .ok (.bipush 6, 2) := dz_16 (n := 0) (r := 20) hz_X8_wordKind_0 rfl rfl
theorem dX8_wordKind_22 : decode cX8_wordKind 22 = .ok (.ireturn, 1) := dz_172 (n := 0) (r := 22) hz_X8_wordKind_0 rfl
theorem dX8_wordKind_23 : decode cX8_wordKind 23 = .ok (.aload_n 0, 1) := dz_42 (n := 0) (r := 23) hz_X8_wordKind_0 rfl
theorem dX8_wordKind_24 : decode cX8_wordKind 24 = .ok (.ldc 87, 2) := dz_18 (n := 0) (r := 24) hz_X8_wordKind_0 rfl rfl
theorem dX8_wordKind_26 : decode cX8_wordKind 26 = .ok (.invokevirtual 81, 3) := dz_182 (n := 0) (r := 26) hz_X8_wordKind_0 rfl rfl
theorem dX8_wordKind_29 : decode cX8_wordKind 29 = .ok (.ifCond .eq 6, 3) := dz_153 (n := 0) (r := 29) hz_X8_wordKind_0 rfl (by decide +kernel)
theorem hz_X8_wordKind_32 : (cX8_wordKind.data.toList.drop 32).take 40 = [16, 7, 172, 42, 18, 89, 182, 0, 81, 153, 0, 6, 16, 8, 172, 42, 18, 91, 182, 0, 81, 153, 0, 6, 16, 9, 172, 42, 18, 93, 182, 0, 81, 153, 0, 6, 16, 10, 172, 42] := by decide +kernel
theorem dX8_wordKind_32 : decode cX8_wordKind 32 = .ok (.bipush 7, 2) := dz_16 (n := 32) (r := 0) hz_X8_wordKind_32 rfl rfl
theorem dX8_wordKind_34 : decode cX8_wordKind 34 = .ok (.ireturn, 1) := dz_172 (n := 32) (r := 2) hz_X8_wordKind_32 rfl
theorem dX8_wordKind_35 : decode cX8_wordKind 35 = .ok (.aload_n 0, 1) := dz_42 (n := 32) (r := 3) hz_X8_wordKind_32 rfl
theorem dX8_wordKind_36 : decode cX8_wordKind 36 = .ok (.ldc 89, 2) := dz_18 (n := 32) (r := 4) hz_X8_wordKind_32 rfl rfl
theorem dX8_wordKind_38 : decode cX8_wordKind 38 = .ok (.invokevirtual 81, 3) := dz_182 (n := 32) (r := 6) hz_X8_wordKind_32 rfl rfl
theorem dX8_wordKind_41 : decode cX8_wordKind 41 = .ok (.ifCond .eq 6, 3) := dz_153 (n := 32) (r := 9) hz_X8_wordKind_32 rfl (by decide +kernel)
theorem dX8_wordKind_44 : decode cX8_wordKind 44 = .ok (.bipush 8, 2) := dz_16 (n := 32) (r := 12) hz_X8_wordKind_32 rfl rfl
theorem dX8_wordKind_46 : decode cX8_wordKind 46 = .ok (.ireturn, 1) := dz_172 (n := 32) (r := 14) hz_X8_wordKind_32 rfl
theorem dX8_wordKind_47 : decode cX8_wordKind 47 = .ok (.aload_n 0, 1) := dz_42 (n := 32) (r := 15) hz_X8_wordKind_32 rfl
theorem dX8_wordKind_48 : decode cX8_wordKind 48 = .ok (.ldc 91, 2) := dz_18 (n := 32) (r := 16) hz_X8_wordKind_32 rfl rfl
theorem dX8_wordKind_50 : decode cX8_wordKind 50 = .ok (.invokevirtual 81, 3) := dz_182 (n := 32) (r := 18) hz_X8_wordKind_32 rfl rfl
theorem dX8_wordKind_53 : decode cX8_wordKind 53 = .ok (.ifCond .eq 6, 3) := dz_153 (n := 32) (r := 21) hz_X8_wordKind_32 rfl (by decide +kernel)
theorem dX8_wordKind_56 : decode cX8_wordKind 56 = .ok (.bipush 9, 2) := dz_16 (n := 32) (r := 24) hz_X8_wordKind_32 rfl rfl
theorem dX8_wordKind_58 : decode cX8_wordKind 58 = .ok (.ireturn, 1) := dz_172 (n := 32) (r := 26) hz_X8_wordKind_32 rfl
theorem dX8_wordKind_59 : decode cX8_wordKind 59 = .ok (.aload_n 0, 1) := dz_42 (n := 32) (r := 27) hz_X8_wordKind_32 rfl
theorem dX8_wordKind_60 : decode cX8_wordKind 60 = .ok (.ldc 93, 2) := dz_18 (n := 32) (r := 28) hz_X8_wordKind_32 rfl rfl
theorem dX8_wordKind_62 : decode cX8_wordKind 62 = .ok (.invokevirtual 81, 3) := dz_182 (n := 32) (r := 30) hz_X8_wordKind_32 rfl rfl
theorem hz_X8_wordKind_64 : (cX8_wordKind.data.toList.drop 64).take 40 = [81, 153, 0, 6, 16, 10, 172, 42, 18, 95, 182, 0, 81, 153, 0, 6, 16, 11, 172, 42, 18, 97, 182, 0, 81, 153, 0, 6, 16, 12, 172, 42, 18, 99, 182, 0, 81, 153, 0, 6] := by decide +kernel
theorem dX8_wordKind_65 : decode cX8_wordKind 65 = .ok (.ifCond .eq 6, 3) := dz_153 (n := 64) (r := 1) hz_X8_wordKind_64 rfl (by decide +kernel)
theorem dX8_wordKind_68 : decode cX8_wordKind 68 = .ok (.bipush 10, 2) := dz_16 (n := 64) (r := 4) hz_X8_wordKind_64 rfl rfl
theorem dX8_wordKind_70 : decode cX8_wordKind 70 = .ok (.ireturn, 1) := dz_172 (n := 64) (r := 6) hz_X8_wordKind_64 rfl
theorem dX8_wordKind_71 : decode cX8_wordKind 71 = .ok (.aload_n 0, 1) := dz_42 (n := 64) (r := 7) hz_X8_wordKind_64 rfl
theorem dX8_wordKind_72 : decode cX8_wordKind 72 = .ok (.ldc 95, 2) := dz_18 (n := 64) (r := 8) hz_X8_wordKind_64 rfl rfl
theorem dX8_wordKind_74 : decode cX8_wordKind 74 = .ok (.invokevirtual 81, 3) := dz_182 (n := 64) (r := 10) hz_X8_wordKind_64 rfl rfl
theorem dX8_wordKind_77 : decode cX8_wordKind 77 = .ok (.ifCond .eq 6, 3) := dz_153 (n := 64) (r := 13) hz_X8_wordKind_64 rfl (by decide +kernel)
theorem dX8_wordKind_80 : decode cX8_wordKind 80 = .ok (.bipush 11, 2) := dz_16 (n := 64) (r := 16) hz_X8_wordKind_64 rfl rfl
theorem dX8_wordKind_82 : decode cX8_wordKind 82 = .ok (.ireturn, 1) := dz_172 (n := 64) (r := 18) hz_X8_wordKind_64 rfl
theorem dX8_wordKind_83 : decode cX8_wordKind 83 = .ok (.aload_n 0, 1) := dz_42 (n := 64) (r := 19) hz_X8_wordKind_64 rfl
theorem dX8_wordKind_84 : decode cX8_wordKind 84 = .ok (.ldc 97, 2) := dz_18 (n := 64) (r := 20) hz_X8_wordKind_64 rfl rfl
theorem dX8_wordKind_86 : decode cX8_wordKind 86 = .ok (.invokevirtual 81, 3) := dz_182 (n := 64) (r := 22) hz_X8_wordKind_64 rfl rfl
theorem dX8_wordKind_89 : decode cX8_wordKind 89 = .ok (.ifCond .eq 6, 3) := dz_153 (n := 64) (r := 25) hz_X8_wordKind_64 rfl (by decide +kernel)
theorem dX8_wordKind_92 : decode cX8_wordKind 92 = .ok (.bipush 12, 2) := dz_16 (n := 64) (r := 28) hz_X8_wordKind_64 rfl rfl
theorem dX8_wordKind_94 : decode cX8_wordKind 94 = .ok (.ireturn, 1) := dz_172 (n := 64) (r := 30) hz_X8_wordKind_64 rfl
theorem dX8_wordKind_95 : decode cX8_wordKind 95 = .ok (.aload_n 0, 1) := dz_42 (n := 64) (r := 31) hz_X8_wordKind_64 rfl
theorem hz_X8_wordKind_96 : (cX8_wordKind.data.toList.drop 96).take 40 = [18, 99, 182, 0, 81, 153, 0, 6, 16, 13, 172, 42, 18, 101, 182, 0, 81, 153, 0, 6, 16, 14, 172, 42, 18, 103, 182, 0, 81, 153, 0, 6, 16, 15, 172, 4, 172] := by decide +kernel
theorem dX8_wordKind_96 : decode cX8_wordKind 96 = .ok (.ldc 99, 2) := dz_18 (n := 96) (r := 0) hz_X8_wordKind_96 rfl rfl
theorem dX8_wordKind_98 : decode cX8_wordKind 98 = .ok (.invokevirtual 81, 3) := dz_182 (n := 96) (r := 2) hz_X8_wordKind_96 rfl rfl
theorem dX8_wordKind_101 : decode cX8_wordKind 101 = .ok (.ifCond .eq 6, 3) := dz_153 (n := 96) (r := 5) hz_X8_wordKind_96 rfl (by decide +kernel)
theorem dX8_wordKind_104 : decode cX8_wordKind 104 = .ok (.bipush 13, 2) := dz_16 (n := 96) (r := 8) hz_X8_wordKind_96 rfl rfl
theorem dX8_wordKind_106 : decode cX8_wordKind 106 = .ok (.ireturn, 1) := dz_172 (n := 96) (r := 10) hz_X8_wordKind_96 rfl
theorem dX8_wordKind_107 : decode cX8_wordKind 107 = .ok (.aload_n 0, 1) := dz_42 (n := 96) (r := 11) hz_X8_wordKind_96 rfl
theorem dX8_wordKind_108 : decode cX8_wordKind 108 = .ok (.ldc 101, 2) := dz_18 (n := 96) (r := 12) hz_X8_wordKind_96 rfl rfl
theorem dX8_wordKind_110 : decode cX8_wordKind 110 = .ok (.invokevirtual 81, 3) := dz_182 (n := 96) (r := 14) hz_X8_wordKind_96 rfl rfl
theorem dX8_wordKind_113 : decode cX8_wordKind 113 = .ok (.ifCond .eq 6, 3) := dz_153 (n := 96) (r := 17) hz_X8_wordKind_96 rfl (by decide +kernel)
theorem dX8_wordKind_116 : decode cX8_wordKind 116 = .ok (.bipush 14, 2) := dz_16 (n := 96) (r := 20) hz_X8_wordKind_96 rfl rfl
theorem dX8_wordKind_118 : decode cX8_wordKind 118 = .ok (.ireturn, 1) := dz_172 (n := 96) (r := 22) hz_X8_wordKind_96 rfl
theorem dX8_wordKind_119 : decode cX8_wordKind 119 = .ok (.aload_n 0, 1) := dz_42 (n := 96) (r := 23) hz_X8_wordKind_96 rfl
theorem dX8_wordKind_120 : decode cX8_wordKind 120 = .ok (.ldc 103, 2) := dz_18 (n := 96) (r := 24) hz_X8_wordKind_96 rfl rfl
theorem dX8_wordKind_122 : decode cX8_wordKind 122 = .ok (.invokevirtual 81, 3) := dz_182 (n := 96) (r := 26) hz_X8_wordKind_96 rfl rfl
theorem dX8_wordKind_125 : decode cX8_wordKind 125 = .ok (.ifCond .eq 6, 3) := dz_153 (n := 96) (r := 29) hz_X8_wordKind_96 rfl (by decide +kernel)
theorem hz_X8_wordKind_128 : (cX8_wordKind.data.toList.drop 128).take 40 = [16, 15, 172, 4, 172] := by decide +kernel
theorem dX8_wordKind_128 : decode cX8_wordKind 128 = .ok (.bipush 15, 2) := dz_16 (n := 128) (r := 0) hz_X8_wordKind_128 rfl rfl
theorem dX8_wordKind_130 : decode cX8_wordKind 130 = .ok (.ireturn, 1) := dz_172 (n := 128) (r := 2) hz_X8_wordKind_128 rfl
theorem dX8_wordKind_131 : decode cX8_wordKind 131 = .ok (.iconst 1, 1) := dz_4 (n := 128) (r := 3) hz_X8_wordKind_128 rfl
theorem dX8_wordKind_132 : decode cX8_wordKind 132 = .ok (.ireturn, 1) := dz_172 (n := 128) (r := 4) hz_X8_wordKind_128 rfl
theorem hz_X8_spells_0 : (cX8_spells.data.toList.drop 0).take 40 = [42, 180, 0, 32, 42, 180, 0, 52, 100, 43, 182, 0, 105, 159, 0, 5, 3, 172, 3, 61, 28, 43, 182, 0, 105, 162, 0, 29, 42, 42, 180, 0, 52, 28, 96, 182, 0, 55, 43, 28] := by decide +kernel
theorem dX8_spells_0 : decode cX8_spells 0 = .ok (.aload_n 0, 1) := dz_42 (n := 0) (r := 0) hz_X8_spells_0 rfl
theorem dX8_spells_1 : decode cX8_spells 1 = .ok (.getfield 32, 3) := dz_180 (n := 0) (r := 1) hz_X8_spells_0 rfl rfl
theorem dX8_spells_4 : decode cX8_spells 4 = .ok (.aload_n 0, 1) := dz_42 (n := 0) (r := 4) hz_X8_spells_0 rfl
theorem dX8_spells_5 : decode cX8_spells 5 = .ok (.getfield 52, 3) := dz_180 (n := 0) (r := 5) hz_X8_spells_0 rfl rfl
theorem dX8_spells_8 : decode cX8_spells 8 = .ok (.isub, 1) := dz_100 (n := 0) (r := 8) hz_X8_spells_0 rfl
theorem dX8_spells_9 : decode cX8_spells 9 = .ok (.aload_n 1, 1) := dz_43 (n := 0) (r := 9) hz_X8_spells_0 rfl
theorem dX8_spells_10 : decode cX8_spells 10 = .ok (.invokevirtual 105, 3) := dz_182 (n := 0) (r := 10) hz_X8_spells_0 rfl rfl
theorem dX8_spells_13 : decode cX8_spells 13 = .ok (.if_icmp .eq 5, 3) := dz_159 (n := 0) (r := 13) hz_X8_spells_0 rfl (by decide +kernel)
theorem dX8_spells_16 : decode cX8_spells 16 = .ok (.iconst 0, 1) := dz_3 (n := 0) (r := 16) hz_X8_spells_0 rfl
theorem dX8_spells_17 : decode cX8_spells 17 = .ok (.ireturn, 1) := dz_172 (n := 0) (r := 17) hz_X8_spells_0 rfl
theorem dX8_spells_18 : decode cX8_spells 18 = .ok (.iconst 0, 1) := dz_3 (n := 0) (r := 18) hz_X8_spells_0 rfl
theorem dX8_spells_19 : decode cX8_spells 19 = .ok (.istore_n 2, 1) := dz_61 (n := 0) (r := 19) hz_X8_spells_0 rfl
theorem dX8_spells_20 : decode cX8_spells 20 = .ok (.iload_n 2, 1) := dz_28 (n := 0) (r := 20) hz_X8_spells_0 rfl
theorem dX8_spells_21 : decode cX8_spells 21 = .ok (.aload_n 1, 1) := dz_43 (n := 0) (r := 21) hz_X8_spells_0 rfl
theorem dX8_spells_22 : decode cX8_spells 22 = .ok (.invokevirtual 105, 3) := dz_182 (n := 0) (r := 22) hz_X8_spells_0 rfl rfl
theorem dX8_spells_25 : decode cX8_spells 25 = .ok (.if_icmp .ge 29, 3) := dz_162 (n := 0) (r := 25) hz_X8_spells_0 rfl (by decide +kernel)
theorem dX8_spells_28 : decode cX8_spells 28 = .ok (.aload_n 0, 1) := dz_42 (n := 0) (r := 28) hz_X8_spells_0 rfl
theorem dX8_spells_29 : decode cX8_spells 29 = .ok (.aload_n 0, 1) := dz_42 (n := 0) (r := 29) hz_X8_spells_0 rfl
theorem dX8_spells_30 : decode cX8_spells 30 = .ok (.getfield 52, 3) := dz_180 (n := 0) (r := 30) hz_X8_spells_0 rfl rfl
theorem hz_X8_spells_32 : (cX8_spells.data.toList.drop 32).take 40 = [52, 28, 96, 182, 0, 55, 43, 28, 182, 0, 109, 159, 0, 5, 3, 172, 132, 2, 1, 167, 255, 225, 4, 172] := by decide +kernel
theorem dX8_spells_33 : decode cX8_spells 33 = .ok (.iload_n 2, 1) := dz_28 (n := 32) (r := 1) hz_X8_spells_32 rfl
theorem dX8_spells_34 : decode cX8_spells 34 = .ok (.iadd, 1) := dz_96 (n := 32) (r := 2) hz_X8_spells_32 rfl
theorem dX8_spells_35 : decode cX8_spells 35 = .ok (.invokevirtual 55, 3) := dz_182 (n := 32) (r := 3) hz_X8_spells_32 rfl rfl
theorem dX8_spells_38 : decode cX8_spells 38 = .ok (.aload_n 1, 1) := dz_43 (n := 32) (r := 6) hz_X8_spells_32 rfl
theorem dX8_spells_39 : decode cX8_spells 39 = .ok (.iload_n 2, 1) := dz_28 (n := 32) (r := 7) hz_X8_spells_32 rfl
theorem dX8_spells_40 : decode cX8_spells 40 = .ok (.invokevirtual 109, 3) := dz_182 (n := 32) (r := 8) hz_X8_spells_32 rfl rfl
theorem dX8_spells_43 : decode cX8_spells 43 = .ok (.if_icmp .eq 5, 3) := dz_159 (n := 32) (r := 11) hz_X8_spells_32 rfl (by decide +kernel)
theorem dX8_spells_46 : decode cX8_spells 46 = .ok (.iconst 0, 1) := dz_3 (n := 32) (r := 14) hz_X8_spells_32 rfl
theorem dX8_spells_47 : decode cX8_spells 47 = .ok (.ireturn, 1) := dz_172 (n := 32) (r := 15) hz_X8_spells_32 rfl
theorem dX8_spells_48 : decode cX8_spells 48 = .ok (.iinc 2 1, 3) := dz_132 (n := 32) (r := 16) hz_X8_spells_32 rfl rfl rfl
theorem dX8_spells_51 : decode cX8_spells 51 = .ok (.goto (-31), 3) := dz_167 (n := 32) (r := 19) hz_X8_spells_32 rfl (by decide +kernel)
theorem dX8_spells_54 : decode cX8_spells 54 = .ok (.iconst 1, 1) := dz_4 (n := 32) (r := 22) hz_X8_spells_32 rfl
theorem dX8_spells_55 : decode cX8_spells 55 = .ok (.ireturn, 1) := dz_172 (n := 32) (r := 23) hz_X8_spells_32 rfl
theorem hz_X8_isBlank_0 : (cX8_isBlank.data.toList.drop 0).take 40 = [26, 16, 9, 159, 0, 21, 26, 16, 10, 159, 0, 15, 26, 16, 13, 159, 0, 9, 26, 16, 32, 160, 0, 7, 4, 167, 0, 4, 3, 172] := by decide +kernel
theorem dX8_isBlank_0 : decode cX8_isBlank 0 = .ok (.iload_n 0, 1) := dz_26 (n := 0) (r := 0) hz_X8_isBlank_0 rfl
theorem dX8_isBlank_1 : decode cX8_isBlank 1 = .ok (.bipush 9, 2) := dz_16 (n := 0) (r := 1) hz_X8_isBlank_0 rfl rfl
theorem dX8_isBlank_3 : decode cX8_isBlank 3 = .ok (.if_icmp .eq 21, 3) := dz_159 (n := 0) (r := 3) hz_X8_isBlank_0 rfl (by decide +kernel)
theorem dX8_isBlank_6 : decode cX8_isBlank 6 = .ok (.iload_n 0, 1) := dz_26 (n := 0) (r := 6) hz_X8_isBlank_0 rfl
theorem dX8_isBlank_7 : decode cX8_isBlank 7 = .ok (.bipush 10, 2) := dz_16 (n := 0) (r := 7) hz_X8_isBlank_0 rfl rfl
theorem dX8_isBlank_9 : decode cX8_isBlank 9 = .ok (.if_icmp .eq 15, 3) := dz_159 (n := 0) (r := 9) hz_X8_isBlank_0 rfl (by decide +kernel)
theorem dX8_isBlank_12 : decode cX8_isBlank 12 = .ok (.iload_n 0, 1) := dz_26 (n := 0) (r := 12) hz_X8_isBlank_0 rfl
theorem dX8_isBlank_13 : decode cX8_isBlank 13 = .ok (.bipush 13, 2) := dz_16 (n := 0) (r := 13) hz_X8_isBlank_0 rfl rfl
theorem dX8_isBlank_15 : decode cX8_isBlank 15 = .ok (.if_icmp .eq 9, 3) := dz_159 (n := 0) (r := 15) hz_X8_isBlank_0 rfl (by decide +kernel)
theorem dX8_isBlank_18 : decode cX8_isBlank 18 = .ok (.iload_n 0, 1) := dz_26 (n := 0) (r := 18) hz_X8_isBlank_0 rfl
theorem dX8_isBlank_19 : decode cX8_isBlank 19 = .ok (.bipush 32, 2) := dz_16 (n := 0) (r := 19) hz_X8_isBlank_0 rfl rfl
theorem dX8_isBlank_21 : decode cX8_isBlank 21 = .ok (.if_icmp .ne 7, 3) := dz_160 (n := 0) (r := 21) hz_X8_isBlank_0 rfl (by decide +kernel)
theorem dX8_isBlank_24 : decode cX8_isBlank 24 = .ok (.iconst 1, 1) := dz_4 (n := 0) (r := 24) hz_X8_isBlank_0 rfl
theorem dX8_isBlank_25 : decode cX8_isBlank 25 = .ok (.goto 4, 3) := dz_167 (n := 0) (r := 25) hz_X8_isBlank_0 rfl (by decide +kernel)
theorem dX8_isBlank_28 : decode cX8_isBlank 28 = .ok (.iconst 0, 1) := dz_3 (n := 0) (r := 28) hz_X8_isBlank_0 rfl
theorem dX8_isBlank_29 : decode cX8_isBlank 29 = .ok (.ireturn, 1) := dz_172 (n := 0) (r := 29) hz_X8_isBlank_0 rfl
theorem hz_X8_isLetter_0 : (cX8_isLetter.data.toList.drop 0).take 40 = [26, 16, 97, 161, 0, 13, 26, 16, 122, 163, 0, 7, 4, 167, 0, 4, 3, 172] := by decide +kernel
theorem dX8_isLetter_0 : decode cX8_isLetter 0 = .ok (.iload_n 0, 1) := dz_26 (n := 0) (r := 0) hz_X8_isLetter_0 rfl
theorem dX8_isLetter_1 : decode cX8_isLetter 1 = .ok (.bipush 97, 2) := dz_16 (n := 0) (r := 1) hz_X8_isLetter_0 rfl rfl
theorem dX8_isLetter_3 : decode cX8_isLetter 3 = .ok (.if_icmp .lt 13, 3) := dz_161 (n := 0) (r := 3) hz_X8_isLetter_0 rfl (by decide +kernel)
theorem dX8_isLetter_6 : decode cX8_isLetter 6 = .ok (.iload_n 0, 1) := dz_26 (n := 0) (r := 6) hz_X8_isLetter_0 rfl
theorem dX8_isLetter_7 : decode cX8_isLetter 7 = .ok (.bipush 122, 2) := dz_16 (n := 0) (r := 7) hz_X8_isLetter_0 rfl rfl
theorem dX8_isLetter_9 : decode cX8_isLetter 9 = .ok (.if_icmp .gt 7, 3) := dz_163 (n := 0) (r := 9) hz_X8_isLetter_0 rfl (by decide +kernel)
theorem dX8_isLetter_12 : decode cX8_isLetter 12 = .ok (.iconst 1, 1) := dz_4 (n := 0) (r := 12) hz_X8_isLetter_0 rfl
theorem dX8_isLetter_13 : decode cX8_isLetter 13 = .ok (.goto 4, 3) := dz_167 (n := 0) (r := 13) hz_X8_isLetter_0 rfl (by decide +kernel)
theorem dX8_isLetter_16 : decode cX8_isLetter 16 = .ok (.iconst 0, 1) := dz_3 (n := 0) (r := 16) hz_X8_isLetter_0 rfl
theorem dX8_isLetter_17 : decode cX8_isLetter 17 = .ok (.ireturn, 1) := dz_172 (n := 0) (r := 17) hz_X8_isLetter_0 rfl
theorem hz_X8_isDigit_0 : (cX8_isDigit.data.toList.drop 0).take 40 = [26, 16, 48, 161, 0, 13, 26, 16, 57, 163, 0, 7, 4, 167, 0, 4, 3, 172] := by decide +kernel
theorem dX8_isDigit_0 : decode cX8_isDigit 0 = .ok (.iload_n 0, 1) := dz_26 (n := 0) (r := 0) hz_X8_isDigit_0 rfl
theorem dX8_isDigit_1 : decode cX8_isDigit 1 = .ok (.bipush 48, 2) := dz_16 (n := 0) (r := 1) hz_X8_isDigit_0 rfl rfl
theorem dX8_isDigit_3 : decode cX8_isDigit 3 = .ok (.if_icmp .lt 13, 3) := dz_161 (n := 0) (r := 3) hz_X8_isDigit_0 rfl (by decide +kernel)
theorem dX8_isDigit_6 : decode cX8_isDigit 6 = .ok (.iload_n 0, 1) := dz_26 (n := 0) (r := 6) hz_X8_isDigit_0 rfl
theorem dX8_isDigit_7 : decode cX8_isDigit 7 = .ok (.bipush 57, 2) := dz_16 (n := 0) (r := 7) hz_X8_isDigit_0 rfl rfl
theorem dX8_isDigit_9 : decode cX8_isDigit 9 = .ok (.if_icmp .gt 7, 3) := dz_163 (n := 0) (r := 9) hz_X8_isDigit_0 rfl (by decide +kernel)
theorem dX8_isDigit_12 : decode cX8_isDigit 12 = .ok (.iconst 1, 1) := dz_4 (n := 0) (r := 12) hz_X8_isDigit_0 rfl
theorem dX8_isDigit_13 : decode cX8_isDigit 13 = .ok (.goto 4, 3) := dz_167 (n := 0) (r := 13) hz_X8_isDigit_0 rfl (by decide +kernel)
theorem dX8_isDigit_16 : decode cX8_isDigit 16 = .ok (.iconst 0, 1) := dz_3 (n := 0) (r := 16) hz_X8_isDigit_0 rfl
theorem dX8_isDigit_17 : decode cX8_isDigit 17 = .ok (.ireturn, 1) := dz_172 (n := 0) (r := 17) hz_X8_isDigit_0 rfl
theorem hz_X8_wantBehind_0 : (cX8_wantBehind.data.toList.drop 0).take 40 = [27, 5, 160, 0, 7, 4, 167, 0, 4, 3, 61, 27, 16, 6, 159, 0, 9, 27, 16, 7, 160, 0, 7, 4, 167, 0, 4, 3, 62, 26, 170, 0, 0, 0, 0, 227, 0, 0, 0, 0] := by decide +kernel
theorem dX8_wantBehind_0 : decode cX8_wantBehind 0 = .ok (.iload_n 1, 1) := dz_27 (n := 0) (r := 0) hz_X8_wantBehind_0 rfl
theorem dX8_wantBehind_1 : decode cX8_wantBehind 1 = .ok (.iconst 2, 1) := dz_5 (n := 0) (r := 1) hz_X8_wantBehind_0 rfl
theorem dX8_wantBehind_2 : decode cX8_wantBehind 2 = .ok (.if_icmp .ne 7, 3) := dz_160 (n := 0) (r := 2) hz_X8_wantBehind_0 rfl (by decide +kernel)
theorem dX8_wantBehind_5 : decode cX8_wantBehind 5 = .ok (.iconst 1, 1) := dz_4 (n := 0) (r := 5) hz_X8_wantBehind_0 rfl
theorem dX8_wantBehind_6 : decode cX8_wantBehind 6 = .ok (.goto 4, 3) := dz_167 (n := 0) (r := 6) hz_X8_wantBehind_0 rfl (by decide +kernel)
theorem dX8_wantBehind_9 : decode cX8_wantBehind 9 = .ok (.iconst 0, 1) := dz_3 (n := 0) (r := 9) hz_X8_wantBehind_0 rfl
theorem dX8_wantBehind_10 : decode cX8_wantBehind 10 = .ok (.istore_n 2, 1) := dz_61 (n := 0) (r := 10) hz_X8_wantBehind_0 rfl
theorem dX8_wantBehind_11 : decode cX8_wantBehind 11 = .ok (.iload_n 1, 1) := dz_27 (n := 0) (r := 11) hz_X8_wantBehind_0 rfl
theorem dX8_wantBehind_12 : decode cX8_wantBehind 12 = .ok (.bipush 6, 2) := dz_16 (n := 0) (r := 12) hz_X8_wantBehind_0 rfl rfl
theorem dX8_wantBehind_14 : decode cX8_wantBehind 14 = .ok (.if_icmp .eq 9, 3) := dz_159 (n := 0) (r := 14) hz_X8_wantBehind_0 rfl (by decide +kernel)
theorem dX8_wantBehind_17 : decode cX8_wantBehind 17 = .ok (.iload_n 1, 1) := dz_27 (n := 0) (r := 17) hz_X8_wantBehind_0 rfl
theorem dX8_wantBehind_18 : decode cX8_wantBehind 18 = .ok (.bipush 7, 2) := dz_16 (n := 0) (r := 18) hz_X8_wantBehind_0 rfl rfl
theorem dX8_wantBehind_20 : decode cX8_wantBehind 20 = .ok (.if_icmp .ne 7, 3) := dz_160 (n := 0) (r := 20) hz_X8_wantBehind_0 rfl (by decide +kernel)
theorem dX8_wantBehind_23 : decode cX8_wantBehind 23 = .ok (.iconst 1, 1) := dz_4 (n := 0) (r := 23) hz_X8_wantBehind_0 rfl
theorem dX8_wantBehind_24 : decode cX8_wantBehind 24 = .ok (.goto 4, 3) := dz_167 (n := 0) (r := 24) hz_X8_wantBehind_0 rfl (by decide +kernel)
theorem dX8_wantBehind_27 : decode cX8_wantBehind 27 = .ok (.iconst 0, 1) := dz_3 (n := 0) (r := 27) hz_X8_wantBehind_0 rfl
theorem dX8_wantBehind_28 : decode cX8_wantBehind 28 = .ok (.istore_n 3, 1) := dz_62 (n := 0) (r := 28) hz_X8_wantBehind_0 rfl
theorem dX8_wantBehind_29 : decode cX8_wantBehind 29 = .ok (.iload_n 0, 1) := dz_26 (n := 0) (r := 29) hz_X8_wantBehind_0 rfl
theorem dX8_wantBehind_30 : decode cX8_wantBehind 30 = .ok (.tableswitch 227 0 13 #[70, 81, 91, 101, 112, 117, 137, 147, 157, 168, 178, 188, 199, 217], 70) := by decide +kernel
theorem hz_X8_wantBehind_96 : (cX8_wantBehind.data.toList.drop 96).take 40 = [0, 0, 0, 217, 27, 8, 160, 0, 7, 4, 167, 0, 4, 2, 172, 28, 153, 0, 7, 5, 167, 0, 4, 2, 172, 28, 153, 0, 7, 6, 167, 0, 4, 2, 172, 27, 7, 160, 0, 7] := by decide +kernel
theorem dX8_wantBehind_100 : decode cX8_wantBehind 100 = .ok (.iload_n 1, 1) := dz_27 (n := 96) (r := 4) hz_X8_wantBehind_96 rfl
theorem dX8_wantBehind_101 : decode cX8_wantBehind 101 = .ok (.iconst 5, 1) := dz_8 (n := 96) (r := 5) hz_X8_wantBehind_96 rfl
theorem dX8_wantBehind_102 : decode cX8_wantBehind 102 = .ok (.if_icmp .ne 7, 3) := dz_160 (n := 96) (r := 6) hz_X8_wantBehind_96 rfl (by decide +kernel)
theorem dX8_wantBehind_105 : decode cX8_wantBehind 105 = .ok (.iconst 1, 1) := dz_4 (n := 96) (r := 9) hz_X8_wantBehind_96 rfl
theorem dX8_wantBehind_106 : decode cX8_wantBehind 106 = .ok (.goto 4, 3) := dz_167 (n := 96) (r := 10) hz_X8_wantBehind_96 rfl (by decide +kernel)
theorem dX8_wantBehind_109 : decode cX8_wantBehind 109 = .ok (.iconst (-1), 1) := dz_2 (n := 96) (r := 13) hz_X8_wantBehind_96 rfl
theorem dX8_wantBehind_110 : decode cX8_wantBehind 110 = .ok (.ireturn, 1) := dz_172 (n := 96) (r := 14) hz_X8_wantBehind_96 rfl
theorem dX8_wantBehind_111 : decode cX8_wantBehind 111 = .ok (.iload_n 2, 1) := dz_28 (n := 96) (r := 15) hz_X8_wantBehind_96 rfl
theorem dX8_wantBehind_112 : decode cX8_wantBehind 112 = .ok (.ifCond .eq 7, 3) := dz_153 (n := 96) (r := 16) hz_X8_wantBehind_96 rfl (by decide +kernel)
theorem dX8_wantBehind_115 : decode cX8_wantBehind 115 = .ok (.iconst 2, 1) := dz_5 (n := 96) (r := 19) hz_X8_wantBehind_96 rfl
theorem dX8_wantBehind_116 : decode cX8_wantBehind 116 = .ok (.goto 4, 3) := dz_167 (n := 96) (r := 20) hz_X8_wantBehind_96 rfl (by decide +kernel)
theorem dX8_wantBehind_119 : decode cX8_wantBehind 119 = .ok (.iconst (-1), 1) := dz_2 (n := 96) (r := 23) hz_X8_wantBehind_96 rfl
theorem dX8_wantBehind_120 : decode cX8_wantBehind 120 = .ok (.ireturn, 1) := dz_172 (n := 96) (r := 24) hz_X8_wantBehind_96 rfl
theorem dX8_wantBehind_121 : decode cX8_wantBehind 121 = .ok (.iload_n 2, 1) := dz_28 (n := 96) (r := 25) hz_X8_wantBehind_96 rfl
theorem dX8_wantBehind_122 : decode cX8_wantBehind 122 = .ok (.ifCond .eq 7, 3) := dz_153 (n := 96) (r := 26) hz_X8_wantBehind_96 rfl (by decide +kernel)
theorem dX8_wantBehind_125 : decode cX8_wantBehind 125 = .ok (.iconst 3, 1) := dz_6 (n := 96) (r := 29) hz_X8_wantBehind_96 rfl
theorem dX8_wantBehind_126 : decode cX8_wantBehind 126 = .ok (.goto 4, 3) := dz_167 (n := 96) (r := 30) hz_X8_wantBehind_96 rfl (by decide +kernel)
theorem hz_X8_wantBehind_128 : (cX8_wantBehind.data.toList.drop 128).take 40 = [4, 2, 172, 27, 7, 160, 0, 7, 7, 167, 0, 4, 2, 172, 27, 184, 0, 113, 172, 27, 6, 160, 0, 8, 16, 6, 167, 0, 12, 28, 153, 0, 7, 6, 167, 0, 4, 2, 172, 28] := by decide +kernel
theorem dX8_wantBehind_129 : decode cX8_wantBehind 129 = .ok (.iconst (-1), 1) := dz_2 (n := 128) (r := 1) hz_X8_wantBehind_128 rfl
theorem dX8_wantBehind_130 : decode cX8_wantBehind 130 = .ok (.ireturn, 1) := dz_172 (n := 128) (r := 2) hz_X8_wantBehind_128 rfl
theorem dX8_wantBehind_131 : decode cX8_wantBehind 131 = .ok (.iload_n 1, 1) := dz_27 (n := 128) (r := 3) hz_X8_wantBehind_128 rfl
theorem dX8_wantBehind_132 : decode cX8_wantBehind 132 = .ok (.iconst 4, 1) := dz_7 (n := 128) (r := 4) hz_X8_wantBehind_128 rfl
theorem dX8_wantBehind_133 : decode cX8_wantBehind 133 = .ok (.if_icmp .ne 7, 3) := dz_160 (n := 128) (r := 5) hz_X8_wantBehind_128 rfl (by decide +kernel)
theorem dX8_wantBehind_136 : decode cX8_wantBehind 136 = .ok (.iconst 4, 1) := dz_7 (n := 128) (r := 8) hz_X8_wantBehind_128 rfl
theorem dX8_wantBehind_137 : decode cX8_wantBehind 137 = .ok (.goto 4, 3) := dz_167 (n := 128) (r := 9) hz_X8_wantBehind_128 rfl (by decide +kernel)
theorem dX8_wantBehind_140 : decode cX8_wantBehind 140 = .ok (.iconst (-1), 1) := dz_2 (n := 128) (r := 12) hz_X8_wantBehind_128 rfl
theorem dX8_wantBehind_141 : decode cX8_wantBehind 141 = .ok (.ireturn, 1) := dz_172 (n := 128) (r := 13) hz_X8_wantBehind_128 rfl
theorem dX8_wantBehind_142 : decode cX8_wantBehind 142 = .ok (.iload_n 1, 1) := dz_27 (n := 128) (r := 14) hz_X8_wantBehind_128 rfl
theorem dX8_wantBehind_143 : decode cX8_wantBehind 143 = .ok (.invokestatic 113, 3) := dz_184 (n := 128) (r := 15) hz_X8_wantBehind_128 rfl rfl
theorem dX8_wantBehind_146 : decode cX8_wantBehind 146 = .ok (.ireturn, 1) := dz_172 (n := 128) (r := 18) hz_X8_wantBehind_128 rfl
theorem dX8_wantBehind_147 : decode cX8_wantBehind 147 = .ok (.iload_n 1, 1) := dz_27 (n := 128) (r := 19) hz_X8_wantBehind_128 rfl
theorem dX8_wantBehind_148 : decode cX8_wantBehind 148 = .ok (.iconst 3, 1) := dz_6 (n := 128) (r := 20) hz_X8_wantBehind_128 rfl
theorem dX8_wantBehind_149 : decode cX8_wantBehind 149 = .ok (.if_icmp .ne 8, 3) := dz_160 (n := 128) (r := 21) hz_X8_wantBehind_128 rfl (by decide +kernel)
theorem dX8_wantBehind_152 : decode cX8_wantBehind 152 = .ok (.bipush 6, 2) := dz_16 (n := 128) (r := 24) hz_X8_wantBehind_128 rfl rfl
theorem dX8_wantBehind_154 : decode cX8_wantBehind 154 = .ok (.goto 12, 3) := dz_167 (n := 128) (r := 26) hz_X8_wantBehind_128 rfl (by decide +kernel)
theorem dX8_wantBehind_157 : decode cX8_wantBehind 157 = .ok (.iload_n 2, 1) := dz_28 (n := 128) (r := 29) hz_X8_wantBehind_128 rfl
theorem dX8_wantBehind_158 : decode cX8_wantBehind 158 = .ok (.ifCond .eq 7, 3) := dz_153 (n := 128) (r := 30) hz_X8_wantBehind_128 rfl (by decide +kernel)
theorem hz_X8_wantBehind_160 : (cX8_wantBehind.data.toList.drop 160).take 40 = [7, 6, 167, 0, 4, 2, 172, 28, 153, 0, 7, 6, 167, 0, 4, 2, 172, 29, 153, 0, 7, 6, 167, 0, 4, 2, 172, 28, 153, 0, 8, 16, 9, 167, 0, 4, 2, 172, 29, 153] := by decide +kernel
theorem dX8_wantBehind_161 : decode cX8_wantBehind 161 = .ok (.iconst 3, 1) := dz_6 (n := 160) (r := 1) hz_X8_wantBehind_160 rfl
theorem dX8_wantBehind_162 : decode cX8_wantBehind 162 = .ok (.goto 4, 3) := dz_167 (n := 160) (r := 2) hz_X8_wantBehind_160 rfl (by decide +kernel)
theorem dX8_wantBehind_165 : decode cX8_wantBehind 165 = .ok (.iconst (-1), 1) := dz_2 (n := 160) (r := 5) hz_X8_wantBehind_160 rfl
theorem dX8_wantBehind_166 : decode cX8_wantBehind 166 = .ok (.ireturn, 1) := dz_172 (n := 160) (r := 6) hz_X8_wantBehind_160 rfl
theorem dX8_wantBehind_167 : decode cX8_wantBehind 167 = .ok (.iload_n 2, 1) := dz_28 (n := 160) (r := 7) hz_X8_wantBehind_160 rfl
theorem dX8_wantBehind_168 : decode cX8_wantBehind 168 = .ok (.ifCond .eq 7, 3) := dz_153 (n := 160) (r := 8) hz_X8_wantBehind_160 rfl (by decide +kernel)
theorem dX8_wantBehind_171 : decode cX8_wantBehind 171 = .ok (.iconst 3, 1) := dz_6 (n := 160) (r := 11) hz_X8_wantBehind_160 rfl
theorem dX8_wantBehind_172 : decode cX8_wantBehind 172 = .ok (.goto 4, 3) := dz_167 (n := 160) (r := 12) hz_X8_wantBehind_160 rfl (by decide +kernel)
theorem dX8_wantBehind_175 : decode cX8_wantBehind 175 = .ok (.iconst (-1), 1) := dz_2 (n := 160) (r := 15) hz_X8_wantBehind_160 rfl
theorem dX8_wantBehind_176 : decode cX8_wantBehind 176 = .ok (.ireturn, 1) := dz_172 (n := 160) (r := 16) hz_X8_wantBehind_160 rfl
theorem dX8_wantBehind_177 : decode cX8_wantBehind 177 = .ok (.iload_n 3, 1) := dz_29 (n := 160) (r := 17) hz_X8_wantBehind_160 rfl
theorem dX8_wantBehind_178 : decode cX8_wantBehind 178 = .ok (.ifCond .eq 7, 3) := dz_153 (n := 160) (r := 18) hz_X8_wantBehind_160 rfl (by decide +kernel)
theorem dX8_wantBehind_181 : decode cX8_wantBehind 181 = .ok (.iconst 3, 1) := dz_6 (n := 160) (r := 21) hz_X8_wantBehind_160 rfl
theorem dX8_wantBehind_182 : decode cX8_wantBehind 182 = .ok (.goto 4, 3) := dz_167 (n := 160) (r := 22) hz_X8_wantBehind_160 rfl (by decide +kernel)
theorem dX8_wantBehind_185 : decode cX8_wantBehind 185 = .ok (.iconst (-1), 1) := dz_2 (n := 160) (r := 25) hz_X8_wantBehind_160 rfl
theorem dX8_wantBehind_186 : decode cX8_wantBehind 186 = .ok (.ireturn, 1) := dz_172 (n := 160) (r := 26) hz_X8_wantBehind_160 rfl
theorem dX8_wantBehind_187 : decode cX8_wantBehind 187 = .ok (.iload_n 2, 1) := dz_28 (n := 160) (r := 27) hz_X8_wantBehind_160 rfl
theorem dX8_wantBehind_188 : decode cX8_wantBehind 188 = .ok (.ifCond .eq 8, 3) := dz_153 (n := 160) (r := 28) hz_X8_wantBehind_160 rfl (by decide +kernel)
theorem dX8_wantBehind_191 : decode cX8_wantBehind 191 = .ok (.bipush 9, 2) := dz_16 (n := 160) (r := 31) hz_X8_wantBehind_160 rfl rfl
theorem hz_X8_wantBehind_192 : (cX8_wantBehind.data.toList.drop 192).take 40 = [9, 167, 0, 4, 2, 172, 29, 153, 0, 7, 8, 167, 0, 4, 2, 172, 28, 153, 0, 7, 8, 167, 0, 4, 2, 172, 28, 153, 0, 8, 16, 12, 167, 0, 4, 2, 172, 27, 16, 13] := by decide +kernel
theorem dX8_wantBehind_193 : decode cX8_wantBehind 193 = .ok (.goto 4, 3) := dz_167 (n := 192) (r := 1) hz_X8_wantBehind_192 rfl (by decide +kernel)
theorem dX8_wantBehind_196 : decode cX8_wantBehind 196 = .ok (.iconst (-1), 1) := dz_2 (n := 192) (r := 4) hz_X8_wantBehind_192 rfl
theorem dX8_wantBehind_197 : decode cX8_wantBehind 197 = .ok (.ireturn, 1) := dz_172 (n := 192) (r := 5) hz_X8_wantBehind_192 rfl
theorem dX8_wantBehind_198 : decode cX8_wantBehind 198 = .ok (.iload_n 3, 1) := dz_29 (n := 192) (r := 6) hz_X8_wantBehind_192 rfl
theorem dX8_wantBehind_199 : decode cX8_wantBehind 199 = .ok (.ifCond .eq 7, 3) := dz_153 (n := 192) (r := 7) hz_X8_wantBehind_192 rfl (by decide +kernel)
theorem dX8_wantBehind_202 : decode cX8_wantBehind 202 = .ok (.iconst 5, 1) := dz_8 (n := 192) (r := 10) hz_X8_wantBehind_192 rfl
theorem dX8_wantBehind_203 : decode cX8_wantBehind 203 = .ok (.goto 4, 3) := dz_167 (n := 192) (r := 11) hz_X8_wantBehind_192 rfl (by decide +kernel)
theorem dX8_wantBehind_206 : decode cX8_wantBehind 206 = .ok (.iconst (-1), 1) := dz_2 (n := 192) (r := 14) hz_X8_wantBehind_192 rfl
theorem dX8_wantBehind_207 : decode cX8_wantBehind 207 = .ok (.ireturn, 1) := dz_172 (n := 192) (r := 15) hz_X8_wantBehind_192 rfl
theorem dX8_wantBehind_208 : decode cX8_wantBehind 208 = .ok (.iload_n 2, 1) := dz_28 (n := 192) (r := 16) hz_X8_wantBehind_192 rfl
theorem dX8_wantBehind_209 : decode cX8_wantBehind 209 = .ok (.ifCond .eq 7, 3) := dz_153 (n := 192) (r := 17) hz_X8_wantBehind_192 rfl (by decide +kernel)
theorem dX8_wantBehind_212 : decode cX8_wantBehind 212 = .ok (.iconst 5, 1) := dz_8 (n := 192) (r := 20) hz_X8_wantBehind_192 rfl
theorem dX8_wantBehind_213 : decode cX8_wantBehind 213 = .ok (.goto 4, 3) := dz_167 (n := 192) (r := 21) hz_X8_wantBehind_192 rfl (by decide +kernel)
theorem dX8_wantBehind_216 : decode cX8_wantBehind 216 = .ok (.iconst (-1), 1) := dz_2 (n := 192) (r := 24) hz_X8_wantBehind_192 rfl
theorem dX8_wantBehind_217 : decode cX8_wantBehind 217 = .ok (.ireturn, 1) := dz_172 (n := 192) (r := 25) hz_X8_wantBehind_192 rfl
theorem dX8_wantBehind_218 : decode cX8_wantBehind 218 = .ok (.iload_n 2, 1) := dz_28 (n := 192) (r := 26) hz_X8_wantBehind_192 rfl
theorem dX8_wantBehind_219 : decode cX8_wantBehind 219 = .ok (.ifCond .eq 8, 3) := dz_153 (n := 192) (r := 27) hz_X8_wantBehind_192 rfl (by decide +kernel)
theorem dX8_wantBehind_222 : decode cX8_wantBehind 222 = .ok (.bipush 12, 2) := dz_16 (n := 192) (r := 30) hz_X8_wantBehind_192 rfl rfl
theorem hz_X8_wantBehind_224 : (cX8_wantBehind.data.toList.drop 224).take 40 = [167, 0, 4, 2, 172, 27, 16, 13, 159, 0, 9, 27, 16, 14, 160, 0, 7, 6, 167, 0, 4, 2, 172, 28, 153, 0, 7, 6, 167, 0, 4, 2, 172, 2, 172] := by decide +kernel
theorem dX8_wantBehind_224 : decode cX8_wantBehind 224 = .ok (.goto 4, 3) := dz_167 (n := 224) (r := 0) hz_X8_wantBehind_224 rfl (by decide +kernel)
theorem dX8_wantBehind_227 : decode cX8_wantBehind 227 = .ok (.iconst (-1), 1) := dz_2 (n := 224) (r := 3) hz_X8_wantBehind_224 rfl
theorem dX8_wantBehind_228 : decode cX8_wantBehind 228 = .ok (.ireturn, 1) := dz_172 (n := 224) (r := 4) hz_X8_wantBehind_224 rfl
theorem dX8_wantBehind_229 : decode cX8_wantBehind 229 = .ok (.iload_n 1, 1) := dz_27 (n := 224) (r := 5) hz_X8_wantBehind_224 rfl
theorem dX8_wantBehind_230 : decode cX8_wantBehind 230 = .ok (.bipush 13, 2) := dz_16 (n := 224) (r := 6) hz_X8_wantBehind_224 rfl rfl
theorem dX8_wantBehind_232 : decode cX8_wantBehind 232 = .ok (.if_icmp .eq 9, 3) := dz_159 (n := 224) (r := 8) hz_X8_wantBehind_224 rfl (by decide +kernel)
theorem dX8_wantBehind_235 : decode cX8_wantBehind 235 = .ok (.iload_n 1, 1) := dz_27 (n := 224) (r := 11) hz_X8_wantBehind_224 rfl
theorem dX8_wantBehind_236 : decode cX8_wantBehind 236 = .ok (.bipush 14, 2) := dz_16 (n := 224) (r := 12) hz_X8_wantBehind_224 rfl rfl
theorem dX8_wantBehind_238 : decode cX8_wantBehind 238 = .ok (.if_icmp .ne 7, 3) := dz_160 (n := 224) (r := 14) hz_X8_wantBehind_224 rfl (by decide +kernel)
theorem dX8_wantBehind_241 : decode cX8_wantBehind 241 = .ok (.iconst 3, 1) := dz_6 (n := 224) (r := 17) hz_X8_wantBehind_224 rfl
theorem dX8_wantBehind_242 : decode cX8_wantBehind 242 = .ok (.goto 4, 3) := dz_167 (n := 224) (r := 18) hz_X8_wantBehind_224 rfl (by decide +kernel)
theorem dX8_wantBehind_245 : decode cX8_wantBehind 245 = .ok (.iconst (-1), 1) := dz_2 (n := 224) (r := 21) hz_X8_wantBehind_224 rfl
theorem dX8_wantBehind_246 : decode cX8_wantBehind 246 = .ok (.ireturn, 1) := dz_172 (n := 224) (r := 22) hz_X8_wantBehind_224 rfl
theorem dX8_wantBehind_247 : decode cX8_wantBehind 247 = .ok (.iload_n 2, 1) := dz_28 (n := 224) (r := 23) hz_X8_wantBehind_224 rfl
theorem dX8_wantBehind_248 : decode cX8_wantBehind 248 = .ok (.ifCond .eq 7, 3) := dz_153 (n := 224) (r := 24) hz_X8_wantBehind_224 rfl (by decide +kernel)
theorem dX8_wantBehind_251 : decode cX8_wantBehind 251 = .ok (.iconst 3, 1) := dz_6 (n := 224) (r := 27) hz_X8_wantBehind_224 rfl
theorem dX8_wantBehind_252 : decode cX8_wantBehind 252 = .ok (.goto 4, 3) := dz_167 (n := 224) (r := 28) hz_X8_wantBehind_224 rfl (by decide +kernel)
theorem dX8_wantBehind_255 : decode cX8_wantBehind 255 = .ok (.iconst (-1), 1) := dz_2 (n := 224) (r := 31) hz_X8_wantBehind_224 rfl
theorem hz_X8_wantBehind_256 : (cX8_wantBehind.data.toList.drop 256).take 40 = [172, 2, 172] := by decide +kernel
theorem dX8_wantBehind_256 : decode cX8_wantBehind 256 = .ok (.ireturn, 1) := dz_172 (n := 256) (r := 0) hz_X8_wantBehind_256 rfl
theorem dX8_wantBehind_257 : decode cX8_wantBehind 257 = .ok (.iconst (-1), 1) := dz_2 (n := 256) (r := 1) hz_X8_wantBehind_256 rfl
theorem dX8_wantBehind_258 : decode cX8_wantBehind 258 = .ok (.ireturn, 1) := dz_172 (n := 256) (r := 2) hz_X8_wantBehind_256 rfl
theorem hz_X8_wantInTell_0 : (cX8_wantInTell.data.toList.drop 0).take 40 = [26, 170, 0, 0, 0, 0, 0, 76, 0, 0, 0, 6, 0, 0, 0, 15, 0, 0, 0, 55, 0, 0, 0, 57, 0, 0, 0, 59, 0, 0, 0, 61, 0, 0, 0, 64, 0, 0, 0, 67] := by decide +kernel
theorem dX8_wantInTell_0 : decode cX8_wantInTell 0 = .ok (.iload_n 0, 1) := dz_26 (n := 0) (r := 0) hz_X8_wantInTell_0 rfl
theorem dX8_wantInTell_1 : decode cX8_wantInTell 1 = .ok (.tableswitch 76 6 15 #[55, 57, 59, 61, 64, 67, 70, 76, 76, 73], 55) := by decide +kernel
theorem hz_X8_wantInTell_32 : (cX8_wantInTell.data.toList.drop 32).take 40 = [0, 0, 0, 64, 0, 0, 0, 67, 0, 0, 0, 70, 0, 0, 0, 76, 0, 0, 0, 76, 0, 0, 0, 73, 8, 172, 8, 172, 8, 172, 16, 7, 172, 16, 8, 172, 16, 10, 172, 16] := by decide +kernel
theorem dX8_wantInTell_56 : decode cX8_wantInTell 56 = .ok (.iconst 5, 1) := dz_8 (n := 32) (r := 24) hz_X8_wantInTell_32 rfl
theorem dX8_wantInTell_57 : decode cX8_wantInTell 57 = .ok (.ireturn, 1) := dz_172 (n := 32) (r := 25) hz_X8_wantInTell_32 rfl
theorem dX8_wantInTell_58 : decode cX8_wantInTell 58 = .ok (.iconst 5, 1) := dz_8 (n := 32) (r := 26) hz_X8_wantInTell_32 rfl
theorem dX8_wantInTell_59 : decode cX8_wantInTell 59 = .ok (.ireturn, 1) := dz_172 (n := 32) (r := 27) hz_X8_wantInTell_32 rfl
theorem dX8_wantInTell_60 : decode cX8_wantInTell 60 = .ok (.iconst 5, 1) := dz_8 (n := 32) (r := 28) hz_X8_wantInTell_32 rfl
theorem dX8_wantInTell_61 : decode cX8_wantInTell 61 = .ok (.ireturn, 1) := dz_172 (n := 32) (r := 29) hz_X8_wantInTell_32 rfl
theorem dX8_wantInTell_62 : decode cX8_wantInTell 62 = .ok (.bipush 7, 2) := dz_16 (n := 32) (r := 30) hz_X8_wantInTell_32 rfl rfl
theorem hz_X8_wantInTell_64 : (cX8_wantInTell.data.toList.drop 64).take 40 = [172, 16, 8, 172, 16, 10, 172, 16, 11, 172, 16, 13, 172, 2, 172] := by decide +kernel
theorem dX8_wantInTell_64 : decode cX8_wantInTell 64 = .ok (.ireturn, 1) := dz_172 (n := 64) (r := 0) hz_X8_wantInTell_64 rfl
theorem dX8_wantInTell_65 : decode cX8_wantInTell 65 = .ok (.bipush 8, 2) := dz_16 (n := 64) (r := 1) hz_X8_wantInTell_64 rfl rfl
theorem dX8_wantInTell_67 : decode cX8_wantInTell 67 = .ok (.ireturn, 1) := dz_172 (n := 64) (r := 3) hz_X8_wantInTell_64 rfl
theorem dX8_wantInTell_68 : decode cX8_wantInTell 68 = .ok (.bipush 10, 2) := dz_16 (n := 64) (r := 4) hz_X8_wantInTell_64 rfl rfl
theorem dX8_wantInTell_70 : decode cX8_wantInTell 70 = .ok (.ireturn, 1) := dz_172 (n := 64) (r := 6) hz_X8_wantInTell_64 rfl
theorem dX8_wantInTell_71 : decode cX8_wantInTell 71 = .ok (.bipush 11, 2) := dz_16 (n := 64) (r := 7) hz_X8_wantInTell_64 rfl rfl
theorem dX8_wantInTell_73 : decode cX8_wantInTell 73 = .ok (.ireturn, 1) := dz_172 (n := 64) (r := 9) hz_X8_wantInTell_64 rfl
theorem dX8_wantInTell_74 : decode cX8_wantInTell 74 = .ok (.bipush 13, 2) := dz_16 (n := 64) (r := 10) hz_X8_wantInTell_64 rfl rfl
theorem dX8_wantInTell_76 : decode cX8_wantInTell 76 = .ok (.ireturn, 1) := dz_172 (n := 64) (r := 12) hz_X8_wantInTell_64 rfl
theorem dX8_wantInTell_77 : decode cX8_wantInTell 77 = .ok (.iconst (-1), 1) := dz_2 (n := 64) (r := 13) hz_X8_wantInTell_64 rfl
theorem dX8_wantInTell_78 : decode cX8_wantInTell 78 = .ok (.ireturn, 1) := dz_172 (n := 64) (r := 14) hz_X8_wantInTell_64 rfl
theorem hz_X9_init_0 : (cX9_init.data.toList.drop 0).take 40 = [42, 183, 0, 3, 42, 17, 4, 0, 188, 10, 181, 0, 9, 42, 17, 1, 33, 188, 10, 181, 0, 15, 42, 17, 4, 0, 188, 10, 181, 0, 18, 42, 17, 4, 0, 188, 10, 181, 0, 21] := by decide +kernel
theorem dX9_init_0 : decode cX9_init 0 = .ok (.aload_n 0, 1) := dz_42 (n := 0) (r := 0) hz_X9_init_0 rfl
theorem dX9_init_1 : decode cX9_init 1 = .ok (.invokespecial 3, 3) := dz_183 (n := 0) (r := 1) hz_X9_init_0 rfl rfl
theorem dX9_init_4 : decode cX9_init 4 = .ok (.aload_n 0, 1) := dz_42 (n := 0) (r := 4) hz_X9_init_0 rfl
theorem dX9_init_5 : decode cX9_init 5 = .ok (.sipush 1024, 3) := dz_17 (n := 0) (r := 5) hz_X9_init_0 rfl (by decide +kernel)
theorem dX9_init_8 : decode cX9_init 8 = .ok (.newarray .int, 2) := dz_188_10 (n := 0) (r := 8) hz_X9_init_0 rfl
theorem dX9_init_10 : decode cX9_init 10 = .ok (.putfield 9, 3) := dz_181 (n := 0) (r := 10) hz_X9_init_0 rfl rfl
theorem dX9_init_13 : decode cX9_init 13 = .ok (.aload_n 0, 1) := dz_42 (n := 0) (r := 13) hz_X9_init_0 rfl
theorem dX9_init_14 : decode cX9_init 14 = .ok (.sipush 289, 3) := dz_17 (n := 0) (r := 14) hz_X9_init_0 rfl (by decide +kernel)
theorem dX9_init_17 : decode cX9_init 17 = .ok (.newarray .int, 2) := dz_188_10 (n := 0) (r := 17) hz_X9_init_0 rfl
theorem dX9_init_19 : decode cX9_init 19 = .ok (.putfield 15, 3) := dz_181 (n := 0) (r := 19) hz_X9_init_0 rfl rfl
theorem dX9_init_22 : decode cX9_init 22 = .ok (.aload_n 0, 1) := dz_42 (n := 0) (r := 22) hz_X9_init_0 rfl
theorem dX9_init_23 : decode cX9_init 23 = .ok (.sipush 1024, 3) := dz_17 (n := 0) (r := 23) hz_X9_init_0 rfl (by decide +kernel)
theorem dX9_init_26 : decode cX9_init 26 = .ok (.newarray .int, 2) := dz_188_10 (n := 0) (r := 26) hz_X9_init_0 rfl
theorem dX9_init_28 : decode cX9_init 28 = .ok (.putfield 18, 3) := dz_181 (n := 0) (r := 28) hz_X9_init_0 rfl rfl
theorem dX9_init_31 : decode cX9_init 31 = .ok (.aload_n 0, 1) := dz_42 (n := 0) (r := 31) hz_X9_init_0 rfl
theorem hz_X9_init_32 : (cX9_init.data.toList.drop 32).take 40 = [17, 4, 0, 188, 10, 181, 0, 21, 42, 17, 4, 0, 188, 11, 181, 0, 24, 42, 2, 181, 0, 28, 177] := by decide +kernel
theorem dX9_init_32 : decode cX9_init 32 = .ok (.sipush 1024, 3) := dz_17 (n := 32) (r := 0) hz_X9_init_32 rfl (by decide +kernel)
theorem dX9_init_35 : decode cX9_init 35 = .ok (.newarray .int, 2) := dz_188_10 (n := 32) (r := 3) hz_X9_init_32 rfl
theorem dX9_init_37 : decode cX9_init 37 = .ok (.putfield 21, 3) := dz_181 (n := 32) (r := 5) hz_X9_init_32 rfl rfl
theorem dX9_init_40 : decode cX9_init 40 = .ok (.aload_n 0, 1) := dz_42 (n := 32) (r := 8) hz_X9_init_32 rfl
theorem dX9_init_41 : decode cX9_init 41 = .ok (.sipush 1024, 3) := dz_17 (n := 32) (r := 9) hz_X9_init_32 rfl (by decide +kernel)
theorem dX9_init_44 : decode cX9_init 44 = .ok (.newarray .long, 2) := dz_188_11 (n := 32) (r := 12) hz_X9_init_32 rfl
theorem dX9_init_46 : decode cX9_init 46 = .ok (.putfield 24, 3) := dz_181 (n := 32) (r := 14) hz_X9_init_32 rfl rfl
theorem dX9_init_49 : decode cX9_init 49 = .ok (.aload_n 0, 1) := dz_42 (n := 32) (r := 17) hz_X9_init_32 rfl
theorem dX9_init_50 : decode cX9_init 50 = .ok (.iconst (-1), 1) := dz_2 (n := 32) (r := 18) hz_X9_init_32 rfl
theorem dX9_init_51 : decode cX9_init 51 = .ok (.putfield 28, 3) := dz_181 (n := 32) (r := 19) hz_X9_init_32 rfl rfl
theorem dX9_init_54 : decode cX9_init 54 = .ok (.return_, 1) := dz_177 (n := 32) (r := 22) hz_X9_init_32 rfl
theorem hz_X9_sort_0 : (cX9_sort.data.toList.drop 0).take 40 = [42, 43, 181, 0, 32, 42, 45, 181, 0, 36, 42, 21, 4, 181, 0, 40, 42, 3, 181, 0, 43, 3, 54, 5, 21, 5, 17, 1, 33, 162, 0, 36, 42, 180, 0, 15, 21, 5, 42, 180] := by decide +kernel
theorem dX9_sort_0 : decode cX9_sort 0 = .ok (.aload_n 0, 1) := dz_42 (n := 0) (r := 0) hz_X9_sort_0 rfl
theorem dX9_sort_1 : decode cX9_sort 1 = .ok (.aload_n 1, 1) := dz_43 (n := 0) (r := 1) hz_X9_sort_0 rfl
theorem dX9_sort_2 : decode cX9_sort 2 = .ok (.putfield 32, 3) := dz_181 (n := 0) (r := 2) hz_X9_sort_0 rfl rfl
theorem dX9_sort_5 : decode cX9_sort 5 = .ok (.aload_n 0, 1) := dz_42 (n := 0) (r := 5) hz_X9_sort_0 rfl
theorem dX9_sort_6 : decode cX9_sort 6 = .ok (.aload_n 3, 1) := dz_45 (n := 0) (r := 6) hz_X9_sort_0 rfl
theorem dX9_sort_7 : decode cX9_sort 7 = .ok (.putfield 36, 3) := dz_181 (n := 0) (r := 7) hz_X9_sort_0 rfl rfl
theorem dX9_sort_10 : decode cX9_sort 10 = .ok (.aload_n 0, 1) := dz_42 (n := 0) (r := 10) hz_X9_sort_0 rfl
theorem dX9_sort_11 : decode cX9_sort 11 = .ok (.iload 4, 2) := dz_21 (n := 0) (r := 11) hz_X9_sort_0 rfl rfl
theorem dX9_sort_13 : decode cX9_sort 13 = .ok (.putfield 40, 3) := dz_181 (n := 0) (r := 13) hz_X9_sort_0 rfl rfl
theorem dX9_sort_16 : decode cX9_sort 16 = .ok (.aload_n 0, 1) := dz_42 (n := 0) (r := 16) hz_X9_sort_0 rfl
theorem dX9_sort_17 : decode cX9_sort 17 = .ok (.iconst 0, 1) := dz_3 (n := 0) (r := 17) hz_X9_sort_0 rfl
theorem dX9_sort_18 : decode cX9_sort 18 = .ok (.putfield 43, 3) := dz_181 (n := 0) (r := 18) hz_X9_sort_0 rfl rfl
theorem dX9_sort_21 : decode cX9_sort 21 = .ok (.iconst 0, 1) := dz_3 (n := 0) (r := 21) hz_X9_sort_0 rfl
theorem dX9_sort_22 : decode cX9_sort 22 = .ok (.istore 5, 2) := dz_54 (n := 0) (r := 22) hz_X9_sort_0 rfl rfl
theorem dX9_sort_24 : decode cX9_sort 24 = .ok (.iload 5, 2) := dz_21 (n := 0) (r := 24) hz_X9_sort_0 rfl rfl
theorem dX9_sort_26 : decode cX9_sort 26 = .ok (.sipush 289, 3) := dz_17 (n := 0) (r := 26) hz_X9_sort_0 rfl (by decide +kernel)
theorem dX9_sort_29 : decode cX9_sort 29 = .ok (.if_icmp .ge 36, 3) := dz_162 (n := 0) (r := 29) hz_X9_sort_0 rfl (by decide +kernel)
theorem hz_X9_sort_32 : (cX9_sort.data.toList.drop 32).take 40 = [42, 180, 0, 15, 21, 5, 42, 180, 0, 43, 79, 42, 89, 180, 0, 43, 44, 180, 0, 46, 21, 5, 46, 96, 181, 0, 43, 132, 5, 1, 167, 255, 218, 42, 180, 0, 40, 158, 0, 21] := by decide +kernel
theorem dX9_sort_32 : decode cX9_sort 32 = .ok (.aload_n 0, 1) := dz_42 (n := 32) (r := 0) hz_X9_sort_32 rfl
theorem dX9_sort_33 : decode cX9_sort 33 = .ok (.getfield 15, 3) := dz_180 (n := 32) (r := 1) hz_X9_sort_32 rfl rfl
theorem dX9_sort_36 : decode cX9_sort 36 = .ok (.iload 5, 2) := dz_21 (n := 32) (r := 4) hz_X9_sort_32 rfl rfl
theorem dX9_sort_38 : decode cX9_sort 38 = .ok (.aload_n 0, 1) := dz_42 (n := 32) (r := 6) hz_X9_sort_32 rfl
theorem dX9_sort_39 : decode cX9_sort 39 = .ok (.getfield 43, 3) := dz_180 (n := 32) (r := 7) hz_X9_sort_32 rfl rfl
theorem dX9_sort_42 : decode cX9_sort 42 = .ok (.iastore, 1) := dz_79 (n := 32) (r := 10) hz_X9_sort_32 rfl
theorem dX9_sort_43 : decode cX9_sort 43 = .ok (.aload_n 0, 1) := dz_42 (n := 32) (r := 11) hz_X9_sort_32 rfl
theorem dX9_sort_44 : decode cX9_sort 44 = .ok (.dup, 1) := dz_89 (n := 32) (r := 12) hz_X9_sort_32 rfl
theorem dX9_sort_45 : decode cX9_sort 45 = .ok (.getfield 43, 3) := dz_180 (n := 32) (r := 13) hz_X9_sort_32 rfl rfl
theorem dX9_sort_48 : decode cX9_sort 48 = .ok (.aload_n 2, 1) := dz_44 (n := 32) (r := 16) hz_X9_sort_32 rfl
theorem dX9_sort_49 : decode cX9_sort 49 = .ok (.getfield 46, 3) := dz_180 (n := 32) (r := 17) hz_X9_sort_32 rfl rfl
theorem dX9_sort_52 : decode cX9_sort 52 = .ok (.iload 5, 2) := dz_21 (n := 32) (r := 20) hz_X9_sort_32 rfl rfl
theorem dX9_sort_54 : decode cX9_sort 54 = .ok (.iaload, 1) := dz_46 (n := 32) (r := 22) hz_X9_sort_32 rfl
theorem dX9_sort_55 : decode cX9_sort 55 = .ok (.iadd, 1) := dz_96 (n := 32) (r := 23) hz_X9_sort_32 rfl
theorem dX9_sort_56 : decode cX9_sort 56 = .ok (.putfield 43, 3) := dz_181 (n := 32) (r := 24) hz_X9_sort_32 rfl rfl
theorem dX9_sort_59 : decode cX9_sort 59 = .ok (.iinc 5 1, 3) := dz_132 (n := 32) (r := 27) hz_X9_sort_32 rfl rfl rfl
theorem dX9_sort_62 : decode cX9_sort 62 = .ok (.goto (-38), 3) := dz_167 (n := 32) (r := 30) hz_X9_sort_32 rfl (by decide +kernel)
theorem hz_X9_sort_64 : (cX9_sort.data.toList.drop 64).take 40 = [218, 42, 180, 0, 40, 158, 0, 21, 42, 180, 0, 40, 16, 10, 163, 0, 12, 4, 42, 180, 0, 40, 120, 167, 0, 4, 3, 54, 5, 3, 54, 6, 21, 6, 21, 5, 162, 0, 34, 45] := by decide +kernel
theorem dX9_sort_65 : decode cX9_sort 65 = .ok (.aload_n 0, 1) := dz_42 (n := 64) (r := 1) hz_X9_sort_64 rfl
theorem dX9_sort_66 : decode cX9_sort 66 = .ok (.getfield 40, 3) := dz_180 (n := 64) (r := 2) hz_X9_sort_64 rfl rfl
theorem dX9_sort_69 : decode cX9_sort 69 = .ok (.ifCond .le 21, 3) := dz_158 (n := 64) (r := 5) hz_X9_sort_64 rfl (by decide +kernel)
theorem dX9_sort_72 : decode cX9_sort 72 = .ok (.aload_n 0, 1) := dz_42 (n := 64) (r := 8) hz_X9_sort_64 rfl
theorem dX9_sort_73 : decode cX9_sort 73 = .ok (.getfield 40, 3) := dz_180 (n := 64) (r := 9) hz_X9_sort_64 rfl rfl
theorem dX9_sort_76 : decode cX9_sort 76 = .ok (.bipush 10, 2) := dz_16 (n := 64) (r := 12) hz_X9_sort_64 rfl rfl
theorem dX9_sort_78 : decode cX9_sort 78 = .ok (.if_icmp .gt 12, 3) := dz_163 (n := 64) (r := 14) hz_X9_sort_64 rfl (by decide +kernel)
theorem dX9_sort_81 : decode cX9_sort 81 = .ok (.iconst 1, 1) := dz_4 (n := 64) (r := 17) hz_X9_sort_64 rfl
theorem dX9_sort_82 : decode cX9_sort 82 = .ok (.aload_n 0, 1) := dz_42 (n := 64) (r := 18) hz_X9_sort_64 rfl
theorem dX9_sort_83 : decode cX9_sort 83 = .ok (.getfield 40, 3) := dz_180 (n := 64) (r := 19) hz_X9_sort_64 rfl rfl
theorem dX9_sort_86 : decode cX9_sort 86 = .ok (.ishl, 1) := dz_120 (n := 64) (r := 22) hz_X9_sort_64 rfl
theorem dX9_sort_87 : decode cX9_sort 87 = .ok (.goto 4, 3) := dz_167 (n := 64) (r := 23) hz_X9_sort_64 rfl (by decide +kernel)
theorem dX9_sort_90 : decode cX9_sort 90 = .ok (.iconst 0, 1) := dz_3 (n := 64) (r := 26) hz_X9_sort_64 rfl
theorem dX9_sort_91 : decode cX9_sort 91 = .ok (.istore 5, 2) := dz_54 (n := 64) (r := 27) hz_X9_sort_64 rfl rfl
theorem dX9_sort_93 : decode cX9_sort 93 = .ok (.iconst 0, 1) := dz_3 (n := 64) (r := 29) hz_X9_sort_64 rfl
theorem dX9_sort_94 : decode cX9_sort 94 = .ok (.istore 6, 2) := dz_54 (n := 64) (r := 30) hz_X9_sort_64 rfl rfl
theorem hz_X9_sort_96 : (cX9_sort.data.toList.drop 96).take 40 = [21, 6, 21, 5, 162, 0, 34, 45, 21, 6, 182, 0, 50, 153, 0, 19, 42, 21, 6, 43, 21, 6, 182, 0, 56, 17, 0, 144, 96, 182, 0, 62, 132, 6, 1, 167, 255, 221, 177] := by decide +kernel
theorem dX9_sort_96 : decode cX9_sort 96 = .ok (.iload 6, 2) := dz_21 (n := 96) (r := 0) hz_X9_sort_96 rfl rfl
theorem dX9_sort_98 : decode cX9_sort 98 = .ok (.iload 5, 2) := dz_21 (n := 96) (r := 2) hz_X9_sort_96 rfl rfl
theorem dX9_sort_100 : decode cX9_sort 100 = .ok (.if_icmp .ge 34, 3) := dz_162 (n := 96) (r := 4) hz_X9_sort_96 rfl (by decide +kernel)
theorem dX9_sort_103 : decode cX9_sort 103 = .ok (.aload_n 3, 1) := dz_45 (n := 96) (r := 7) hz_X9_sort_96 rfl
theorem dX9_sort_104 : decode cX9_sort 104 = .ok (.iload 6, 2) := dz_21 (n := 96) (r := 8) hz_X9_sort_96 rfl rfl
theorem dX9_sort_106 : decode cX9_sort 106 = .ok (.invokevirtual 50, 3) := dz_182 (n := 96) (r := 10) hz_X9_sort_96 rfl rfl
theorem dX9_sort_109 : decode cX9_sort 109 = .ok (.ifCond .eq 19, 3) := dz_153 (n := 96) (r := 13) hz_X9_sort_96 rfl (by decide +kernel)
theorem dX9_sort_112 : decode cX9_sort 112 = .ok (.aload_n 0, 1) := dz_42 (n := 96) (r := 16) hz_X9_sort_96 rfl
theorem dX9_sort_113 : decode cX9_sort 113 = .ok (.iload 6, 2) := dz_21 (n := 96) (r := 17) hz_X9_sort_96 rfl rfl
theorem dX9_sort_115 : decode cX9_sort 115 = .ok (.aload_n 1, 1) := dz_43 (n := 96) (r := 19) hz_X9_sort_96 rfl
theorem dX9_sort_116 : decode cX9_sort 116 = .ok (.iload 6, 2) := dz_21 (n := 96) (r := 20) hz_X9_sort_96 rfl rfl
theorem dX9_sort_118 : decode cX9_sort 118 = .ok (.invokevirtual 56, 3) := dz_182 (n := 96) (r := 22) hz_X9_sort_96 rfl rfl
theorem dX9_sort_121 : decode cX9_sort 121 = .ok (.sipush 144, 3) := dz_17 (n := 96) (r := 25) hz_X9_sort_96 rfl (by decide +kernel)
theorem dX9_sort_124 : decode cX9_sort 124 = .ok (.iadd, 1) := dz_96 (n := 96) (r := 28) hz_X9_sort_96 rfl
theorem dX9_sort_125 : decode cX9_sort 125 = .ok (.invokevirtual 62, 3) := dz_182 (n := 96) (r := 29) hz_X9_sort_96 rfl rfl
theorem hz_X9_sort_128 : (cX9_sort.data.toList.drop 128).take 40 = [132, 6, 1, 167, 255, 221, 177] := by decide +kernel
theorem dX9_sort_128 : decode cX9_sort 128 = .ok (.iinc 6 1, 3) := dz_132 (n := 128) (r := 0) hz_X9_sort_128 rfl rfl rfl
theorem dX9_sort_131 : decode cX9_sort 131 = .ok (.goto (-35), 3) := dz_167 (n := 128) (r := 3) hz_X9_sort_128 rfl (by decide +kernel)
theorem dX9_sort_134 : decode cX9_sort 134 = .ok (.return_, 1) := dz_177 (n := 128) (r := 6) hz_X9_sort_128 rfl
theorem hz_X9_putInOrder_0 : (cX9_putInOrder.data.toList.drop 0).take 40 = [28, 155, 0, 53, 28, 17, 1, 33, 162, 0, 46, 42, 180, 0, 15, 28, 46, 155, 0, 37, 42, 180, 0, 15, 28, 46, 17, 4, 0, 162, 0, 25, 42, 180, 0, 9, 42, 180, 0, 15] := by decide +kernel
theorem dX9_putInOrder_0 : decode cX9_putInOrder 0 = .ok (.iload_n 2, 1) := dz_28 (n := 0) (r := 0) hz_X9_putInOrder_0 rfl
theorem dX9_putInOrder_1 : decode cX9_putInOrder 1 = .ok (.ifCond .lt 53, 3) := dz_155 (n := 0) (r := 1) hz_X9_putInOrder_0 rfl (by decide +kernel)
theorem dX9_putInOrder_4 : decode cX9_putInOrder 4 = .ok (.iload_n 2, 1) := dz_28 (n := 0) (r := 4) hz_X9_putInOrder_0 rfl
theorem dX9_putInOrder_5 : decode cX9_putInOrder 5 = .ok (.sipush 289, 3) := dz_17 (n := 0) (r := 5) hz_X9_putInOrder_0 rfl (by decide +kernel)
theorem dX9_putInOrder_8 : decode cX9_putInOrder 8 = .ok (.if_icmp .ge 46, 3) := dz_162 (n := 0) (r := 8) hz_X9_putInOrder_0 rfl (by decide +kernel)
theorem dX9_putInOrder_11 : decode cX9_putInOrder 11 = .ok (.aload_n 0, 1) := dz_42 (n := 0) (r := 11) hz_X9_putInOrder_0 rfl
theorem dX9_putInOrder_12 : decode cX9_putInOrder 12 = .ok (.getfield 15, 3) := dz_180 (n := 0) (r := 12) hz_X9_putInOrder_0 rfl rfl
theorem dX9_putInOrder_15 : decode cX9_putInOrder 15 = .ok (.iload_n 2, 1) := dz_28 (n := 0) (r := 15) hz_X9_putInOrder_0 rfl
theorem dX9_putInOrder_16 : decode cX9_putInOrder 16 = .ok (.iaload, 1) := dz_46 (n := 0) (r := 16) hz_X9_putInOrder_0 rfl
theorem dX9_putInOrder_17 : decode cX9_putInOrder 17 = .ok (.ifCond .lt 37, 3) := dz_155 (n := 0) (r := 17) hz_X9_putInOrder_0 rfl (by decide +kernel)
theorem dX9_putInOrder_20 : decode cX9_putInOrder 20 = .ok (.aload_n 0, 1) := dz_42 (n := 0) (r := 20) hz_X9_putInOrder_0 rfl
theorem dX9_putInOrder_21 : decode cX9_putInOrder 21 = .ok (.getfield 15, 3) := dz_180 (n := 0) (r := 21) hz_X9_putInOrder_0 rfl rfl
theorem dX9_putInOrder_24 : decode cX9_putInOrder 24 = .ok (.iload_n 2, 1) := dz_28 (n := 0) (r := 24) hz_X9_putInOrder_0 rfl
theorem dX9_putInOrder_25 : decode cX9_putInOrder 25 = .ok (.iaload, 1) := dz_46 (n := 0) (r := 25) hz_X9_putInOrder_0 rfl
theorem dX9_putInOrder_26 : decode cX9_putInOrder 26 = .ok (.sipush 1024, 3) := dz_17 (n := 0) (r := 26) hz_X9_putInOrder_0 rfl (by decide +kernel)
theorem dX9_putInOrder_29 : decode cX9_putInOrder 29 = .ok (.if_icmp .ge 25, 3) := dz_162 (n := 0) (r := 29) hz_X9_putInOrder_0 rfl (by decide +kernel)
theorem hz_X9_putInOrder_32 : (cX9_putInOrder.data.toList.drop 32).take 40 = [42, 180, 0, 9, 42, 180, 0, 15, 28, 46, 27, 79, 42, 180, 0, 15, 28, 92, 46, 4, 96, 79, 177] := by decide +kernel
theorem dX9_putInOrder_32 : decode cX9_putInOrder 32 = .ok (.aload_n 0, 1) := dz_42 (n := 32) (r := 0) hz_X9_putInOrder_32 rfl
theorem dX9_putInOrder_33 : decode cX9_putInOrder 33 = .ok (.getfield 9, 3) := dz_180 (n := 32) (r := 1) hz_X9_putInOrder_32 rfl rfl
theorem dX9_putInOrder_36 : decode cX9_putInOrder 36 = .ok (.aload_n 0, 1) := dz_42 (n := 32) (r := 4) hz_X9_putInOrder_32 rfl
theorem dX9_putInOrder_37 : decode cX9_putInOrder 37 = .ok (.getfield 15, 3) := dz_180 (n := 32) (r := 5) hz_X9_putInOrder_32 rfl rfl
theorem dX9_putInOrder_40 : decode cX9_putInOrder 40 = .ok (.iload_n 2, 1) := dz_28 (n := 32) (r := 8) hz_X9_putInOrder_32 rfl
theorem dX9_putInOrder_41 : decode cX9_putInOrder 41 = .ok (.iaload, 1) := dz_46 (n := 32) (r := 9) hz_X9_putInOrder_32 rfl
theorem dX9_putInOrder_42 : decode cX9_putInOrder 42 = .ok (.iload_n 1, 1) := dz_27 (n := 32) (r := 10) hz_X9_putInOrder_32 rfl
theorem dX9_putInOrder_43 : decode cX9_putInOrder 43 = .ok (.iastore, 1) := dz_79 (n := 32) (r := 11) hz_X9_putInOrder_32 rfl
theorem dX9_putInOrder_44 : decode cX9_putInOrder 44 = .ok (.aload_n 0, 1) := dz_42 (n := 32) (r := 12) hz_X9_putInOrder_32 rfl
theorem dX9_putInOrder_45 : decode cX9_putInOrder 45 = .ok (.getfield 15, 3) := dz_180 (n := 32) (r := 13) hz_X9_putInOrder_32 rfl rfl
theorem dX9_putInOrder_48 : decode cX9_putInOrder 48 = .ok (.iload_n 2, 1) := dz_28 (n := 32) (r := 16) hz_X9_putInOrder_32 rfl
theorem dX9_putInOrder_49 : decode cX9_putInOrder 49 = .ok (.dup2, 1) := dz_92 (n := 32) (r := 17) hz_X9_putInOrder_32 rfl
theorem dX9_putInOrder_50 : decode cX9_putInOrder 50 = .ok (.iaload, 1) := dz_46 (n := 32) (r := 18) hz_X9_putInOrder_32 rfl
theorem dX9_putInOrder_51 : decode cX9_putInOrder 51 = .ok (.iconst 1, 1) := dz_4 (n := 32) (r := 19) hz_X9_putInOrder_32 rfl
theorem dX9_putInOrder_52 : decode cX9_putInOrder 52 = .ok (.iadd, 1) := dz_96 (n := 32) (r := 20) hz_X9_putInOrder_32 rfl
theorem dX9_putInOrder_53 : decode cX9_putInOrder 53 = .ok (.iastore, 1) := dz_79 (n := 32) (r := 21) hz_X9_putInOrder_32 rfl
theorem dX9_putInOrder_54 : decode cX9_putInOrder 54 = .ok (.return_, 1) := dz_177 (n := 32) (r := 22) hz_X9_putInOrder_32 rfl
theorem hz_X9_lowest_0 : (cX9_lowest.data.toList.drop 0).take 40 = [42, 180, 0, 9, 3, 46, 172] := by decide +kernel
theorem dX9_lowest_0 : decode cX9_lowest 0 = .ok (.aload_n 0, 1) := dz_42 (n := 0) (r := 0) hz_X9_lowest_0 rfl
theorem dX9_lowest_1 : decode cX9_lowest 1 = .ok (.getfield 9, 3) := dz_180 (n := 0) (r := 1) hz_X9_lowest_0 rfl rfl
theorem dX9_lowest_4 : decode cX9_lowest 4 = .ok (.iconst 0, 1) := dz_3 (n := 0) (r := 4) hz_X9_lowest_0 rfl
theorem dX9_lowest_5 : decode cX9_lowest 5 = .ok (.iaload, 1) := dz_46 (n := 0) (r := 5) hz_X9_lowest_0 rfl
theorem dX9_lowest_6 : decode cX9_lowest 6 = .ok (.ireturn, 1) := dz_172 (n := 0) (r := 6) hz_X9_lowest_0 rfl
theorem hz_X9_energyOf_0 : (cX9_energyOf.data.toList.drop 0).take 40 = [42, 180, 0, 32, 199, 0, 7, 3, 167, 0, 11, 42, 180, 0, 32, 27, 182, 0, 56, 172] := by decide +kernel
theorem dX9_energyOf_0 : decode cX9_energyOf 0 = .ok (.aload_n 0, 1) := dz_42 (n := 0) (r := 0) hz_X9_energyOf_0 rfl
theorem dX9_energyOf_1 : decode cX9_energyOf 1 = .ok (.getfield 32, 3) := dz_180 (n := 0) (r := 1) hz_X9_energyOf_0 rfl rfl
theorem dX9_energyOf_4 : decode cX9_energyOf 4 = .ok (.ifnonnull 7, 3) := dz_199 (n := 0) (r := 4) hz_X9_energyOf_0 rfl (by decide +kernel)
theorem dX9_energyOf_7 : decode cX9_energyOf 7 = .ok (.iconst 0, 1) := dz_3 (n := 0) (r := 7) hz_X9_energyOf_0 rfl
theorem dX9_energyOf_8 : decode cX9_energyOf 8 = .ok (.goto 11, 3) := dz_167 (n := 0) (r := 8) hz_X9_energyOf_0 rfl (by decide +kernel)
theorem dX9_energyOf_11 : decode cX9_energyOf 11 = .ok (.aload_n 0, 1) := dz_42 (n := 0) (r := 11) hz_X9_energyOf_0 rfl
theorem dX9_energyOf_12 : decode cX9_energyOf 12 = .ok (.getfield 32, 3) := dz_180 (n := 0) (r := 12) hz_X9_energyOf_0 rfl rfl
theorem dX9_energyOf_15 : decode cX9_energyOf 15 = .ok (.iload_n 1, 1) := dz_27 (n := 0) (r := 15) hz_X9_energyOf_0 rfl
theorem dX9_energyOf_16 : decode cX9_energyOf 16 = .ok (.invokevirtual 56, 3) := dz_182 (n := 0) (r := 16) hz_X9_energyOf_0 rfl rfl
theorem dX9_energyOf_19 : decode cX9_energyOf 19 = .ok (.ireturn, 1) := dz_172 (n := 0) (r := 19) hz_X9_energyOf_0 rfl
theorem hz_X9_canTurn_0 : (cX9_canTurn.data.toList.drop 0).take 40 = [42, 180, 0, 36, 198, 0, 18, 42, 180, 0, 36, 27, 182, 0, 66, 154, 0, 7, 4, 167, 0, 4, 3, 172] := by decide +kernel
theorem dX9_canTurn_0 : decode cX9_canTurn 0 = .ok (.aload_n 0, 1) := dz_42 (n := 0) (r := 0) hz_X9_canTurn_0 rfl
theorem dX9_canTurn_1 : decode cX9_canTurn 1 = .ok (.getfield 36, 3) := dz_180 (n := 0) (r := 1) hz_X9_canTurn_0 rfl rfl
theorem dX9_canTurn_4 : decode cX9_canTurn 4 = .ok (.ifnull 18, 3) := dz_198 (n := 0) (r := 4) hz_X9_canTurn_0 rfl (by decide +kernel)
theorem dX9_canTurn_7 : decode cX9_canTurn 7 = .ok (.aload_n 0, 1) := dz_42 (n := 0) (r := 7) hz_X9_canTurn_0 rfl
theorem dX9_canTurn_8 : decode cX9_canTurn 8 = .ok (.getfield 36, 3) := dz_180 (n := 0) (r := 8) hz_X9_canTurn_0 rfl rfl
theorem dX9_canTurn_11 : decode cX9_canTurn 11 = .ok (.iload_n 1, 1) := dz_27 (n := 0) (r := 11) hz_X9_canTurn_0 rfl
theorem dX9_canTurn_12 : decode cX9_canTurn 12 = .ok (.invokevirtual 66, 3) := dz_182 (n := 0) (r := 12) hz_X9_canTurn_0 rfl rfl
theorem dX9_canTurn_15 : decode cX9_canTurn 15 = .ok (.ifCond .ne 7, 3) := dz_154 (n := 0) (r := 15) hz_X9_canTurn_0 rfl (by decide +kernel)
theorem dX9_canTurn_18 : decode cX9_canTurn 18 = .ok (.iconst 1, 1) := dz_4 (n := 0) (r := 18) hz_X9_canTurn_0 rfl
theorem dX9_canTurn_19 : decode cX9_canTurn 19 = .ok (.goto 4, 3) := dz_167 (n := 0) (r := 19) hz_X9_canTurn_0 rfl (by decide +kernel)
theorem dX9_canTurn_22 : decode cX9_canTurn 22 = .ok (.iconst 0, 1) := dz_3 (n := 0) (r := 22) hz_X9_canTurn_0 rfl
theorem dX9_canTurn_23 : decode cX9_canTurn 23 = .ok (.ireturn, 1) := dz_172 (n := 0) (r := 23) hz_X9_canTurn_0 rfl
theorem hz_X9_isState_0 : (cX9_isState.data.toList.drop 0).take 40 = [26, 155, 0, 14, 26, 17, 4, 0, 162, 0, 7, 4, 167, 0, 4, 3, 172] := by decide +kernel
theorem dX9_isState_0 : decode cX9_isState 0 = .ok (.iload_n 0, 1) := dz_26 (n := 0) (r := 0) hz_X9_isState_0 rfl
theorem dX9_isState_1 : decode cX9_isState 1 = .ok (.ifCond .lt 14, 3) := dz_155 (n := 0) (r := 1) hz_X9_isState_0 rfl (by decide +kernel)
theorem dX9_isState_4 : decode cX9_isState 4 = .ok (.iload_n 0, 1) := dz_26 (n := 0) (r := 4) hz_X9_isState_0 rfl
theorem dX9_isState_5 : decode cX9_isState 5 = .ok (.sipush 1024, 3) := dz_17 (n := 0) (r := 5) hz_X9_isState_0 rfl (by decide +kernel)
theorem dX9_isState_8 : decode cX9_isState 8 = .ok (.if_icmp .ge 7, 3) := dz_162 (n := 0) (r := 8) hz_X9_isState_0 rfl (by decide +kernel)
theorem dX9_isState_11 : decode cX9_isState 11 = .ok (.iconst 1, 1) := dz_4 (n := 0) (r := 11) hz_X9_isState_0 rfl
theorem dX9_isState_12 : decode cX9_isState 12 = .ok (.goto 4, 3) := dz_167 (n := 0) (r := 12) hz_X9_isState_0 rfl (by decide +kernel)
theorem dX9_isState_15 : decode cX9_isState 15 = .ok (.iconst 0, 1) := dz_3 (n := 0) (r := 15) hz_X9_isState_0 rfl
theorem dX9_isState_16 : decode cX9_isState 16 = .ok (.ireturn, 1) := dz_172 (n := 0) (r := 16) hz_X9_isState_0 rfl
theorem hz_X9_isWet_0 : (cX9_isWet.data.toList.drop 0).take 40 = [27, 184, 0, 69, 153, 0, 17, 42, 180, 0, 18, 27, 46, 2, 159, 0, 7, 4, 167, 0, 4, 3, 172] := by decide +kernel
theorem dX9_isWet_0 : decode cX9_isWet 0 = .ok (.iload_n 1, 1) := dz_27 (n := 0) (r := 0) hz_X9_isWet_0 rfl
theorem dX9_isWet_1 : decode cX9_isWet 1 = .ok (.invokestatic 69, 3) := dz_184 (n := 0) (r := 1) hz_X9_isWet_0 rfl rfl
theorem dX9_isWet_4 : decode cX9_isWet 4 = .ok (.ifCond .eq 17, 3) := dz_153 (n := 0) (r := 4) hz_X9_isWet_0 rfl (by decide +kernel)
theorem dX9_isWet_7 : decode cX9_isWet 7 = .ok (.aload_n 0, 1) := dz_42 (n := 0) (r := 7) hz_X9_isWet_0 rfl
theorem dX9_isWet_8 : decode cX9_isWet 8 = .ok (.getfield 18, 3) := dz_180 (n := 0) (r := 8) hz_X9_isWet_0 rfl rfl
theorem dX9_isWet_11 : decode cX9_isWet 11 = .ok (.iload_n 1, 1) := dz_27 (n := 0) (r := 11) hz_X9_isWet_0 rfl
theorem dX9_isWet_12 : decode cX9_isWet 12 = .ok (.iaload, 1) := dz_46 (n := 0) (r := 12) hz_X9_isWet_0 rfl
theorem dX9_isWet_13 : decode cX9_isWet 13 = .ok (.iconst (-1), 1) := dz_2 (n := 0) (r := 13) hz_X9_isWet_0 rfl
theorem dX9_isWet_14 : decode cX9_isWet 14 = .ok (.if_icmp .eq 7, 3) := dz_159 (n := 0) (r := 14) hz_X9_isWet_0 rfl (by decide +kernel)
theorem dX9_isWet_17 : decode cX9_isWet 17 = .ok (.iconst 1, 1) := dz_4 (n := 0) (r := 17) hz_X9_isWet_0 rfl
theorem dX9_isWet_18 : decode cX9_isWet 18 = .ok (.goto 4, 3) := dz_167 (n := 0) (r := 18) hz_X9_isWet_0 rfl (by decide +kernel)
theorem dX9_isWet_21 : decode cX9_isWet 21 = .ok (.iconst 0, 1) := dz_3 (n := 0) (r := 21) hz_X9_isWet_0 rfl
theorem dX9_isWet_22 : decode cX9_isWet 22 = .ok (.ireturn, 1) := dz_172 (n := 0) (r := 22) hz_X9_isWet_0 rfl
theorem hz_X9_rootOf_0 : (cX9_rootOf.data.toList.drop 0).take 40 = [27, 61, 3, 62, 29, 17, 4, 0, 162, 0, 64, 42, 28, 182, 0, 72, 153, 0, 56, 42, 42, 180, 0, 18, 28, 46, 182, 0, 72, 153, 0, 43, 42, 180, 0, 18, 28, 46, 28, 159] := by decide +kernel
theorem dX9_rootOf_0 : decode cX9_rootOf 0 = .ok (.iload_n 1, 1) := dz_27 (n := 0) (r := 0) hz_X9_rootOf_0 rfl
theorem dX9_rootOf_1 : decode cX9_rootOf 1 = .ok (.istore_n 2, 1) := dz_61 (n := 0) (r := 1) hz_X9_rootOf_0 rfl
theorem dX9_rootOf_2 : decode cX9_rootOf 2 = .ok (.iconst 0, 1) := dz_3 (n := 0) (r := 2) hz_X9_rootOf_0 rfl
theorem dX9_rootOf_3 : decode cX9_rootOf 3 = .ok (.istore_n 3, 1) := dz_62 (n := 0) (r := 3) hz_X9_rootOf_0 rfl
theorem dX9_rootOf_4 : decode cX9_rootOf 4 = .ok (.iload_n 3, 1) := dz_29 (n := 0) (r := 4) hz_X9_rootOf_0 rfl
theorem dX9_rootOf_5 : decode cX9_rootOf 5 = .ok (.sipush 1024, 3) := dz_17 (n := 0) (r := 5) hz_X9_rootOf_0 rfl (by decide +kernel)
theorem dX9_rootOf_8 : decode cX9_rootOf 8 = .ok (.if_icmp .ge 64, 3) := dz_162 (n := 0) (r := 8) hz_X9_rootOf_0 rfl (by decide +kernel)
theorem dX9_rootOf_11 : decode cX9_rootOf 11 = .ok (.aload_n 0, 1) := dz_42 (n := 0) (r := 11) hz_X9_rootOf_0 rfl
theorem dX9_rootOf_12 : decode cX9_rootOf 12 = .ok (.iload_n 2, 1) := dz_28 (n := 0) (r := 12) hz_X9_rootOf_0 rfl
theorem dX9_rootOf_13 : decode cX9_rootOf 13 = .ok (.invokevirtual 72, 3) := dz_182 (n := 0) (r := 13) hz_X9_rootOf_0 rfl rfl
theorem dX9_rootOf_16 : decode cX9_rootOf 16 = .ok (.ifCond .eq 56, 3) := dz_153 (n := 0) (r := 16) hz_X9_rootOf_0 rfl (by decide +kernel)
theorem dX9_rootOf_19 : decode cX9_rootOf 19 = .ok (.aload_n 0, 1) := dz_42 (n := 0) (r := 19) hz_X9_rootOf_0 rfl
theorem dX9_rootOf_20 : decode cX9_rootOf 20 = .ok (.aload_n 0, 1) := dz_42 (n := 0) (r := 20) hz_X9_rootOf_0 rfl
theorem dX9_rootOf_21 : decode cX9_rootOf 21 = .ok (.getfield 18, 3) := dz_180 (n := 0) (r := 21) hz_X9_rootOf_0 rfl rfl
theorem dX9_rootOf_24 : decode cX9_rootOf 24 = .ok (.iload_n 2, 1) := dz_28 (n := 0) (r := 24) hz_X9_rootOf_0 rfl
theorem dX9_rootOf_25 : decode cX9_rootOf 25 = .ok (.iaload, 1) := dz_46 (n := 0) (r := 25) hz_X9_rootOf_0 rfl
theorem dX9_rootOf_26 : decode cX9_rootOf 26 = .ok (.invokevirtual 72, 3) := dz_182 (n := 0) (r := 26) hz_X9_rootOf_0 rfl rfl
theorem dX9_rootOf_29 : decode cX9_rootOf 29 = .ok (.ifCond .eq 43, 3) := dz_153 (n := 0) (r := 29) hz_X9_rootOf_0 rfl (by decide +kernel)
theorem hz_X9_rootOf_32 : (cX9_rootOf.data.toList.drop 32).take 40 = [42, 180, 0, 18, 28, 46, 28, 159, 0, 33, 42, 180, 0, 18, 28, 42, 180, 0, 18, 42, 180, 0, 18, 28, 46, 46, 79, 42, 180, 0, 18, 28, 46, 61, 132, 3, 1, 167, 255, 191] := by decide +kernel
theorem dX9_rootOf_32 : decode cX9_rootOf 32 = .ok (.aload_n 0, 1) := dz_42 (n := 32) (r := 0) hz_X9_rootOf_32 rfl
theorem dX9_rootOf_33 : decode cX9_rootOf 33 = .ok (.getfield 18, 3) := dz_180 (n := 32) (r := 1) hz_X9_rootOf_32 rfl rfl
theorem dX9_rootOf_36 : decode cX9_rootOf 36 = .ok (.iload_n 2, 1) := dz_28 (n := 32) (r := 4) hz_X9_rootOf_32 rfl
theorem dX9_rootOf_37 : decode cX9_rootOf 37 = .ok (.iaload, 1) := dz_46 (n := 32) (r := 5) hz_X9_rootOf_32 rfl
theorem dX9_rootOf_38 : decode cX9_rootOf 38 = .ok (.iload_n 2, 1) := dz_28 (n := 32) (r := 6) hz_X9_rootOf_32 rfl
theorem dX9_rootOf_39 : decode cX9_rootOf 39 = .ok (.if_icmp .eq 33, 3) := dz_159 (n := 32) (r := 7) hz_X9_rootOf_32 rfl (by decide +kernel)
theorem dX9_rootOf_42 : decode cX9_rootOf 42 = .ok (.aload_n 0, 1) := dz_42 (n := 32) (r := 10) hz_X9_rootOf_32 rfl
theorem dX9_rootOf_43 : decode cX9_rootOf 43 = .ok (.getfield 18, 3) := dz_180 (n := 32) (r := 11) hz_X9_rootOf_32 rfl rfl
theorem dX9_rootOf_46 : decode cX9_rootOf 46 = .ok (.iload_n 2, 1) := dz_28 (n := 32) (r := 14) hz_X9_rootOf_32 rfl
theorem dX9_rootOf_47 : decode cX9_rootOf 47 = .ok (.aload_n 0, 1) := dz_42 (n := 32) (r := 15) hz_X9_rootOf_32 rfl
theorem dX9_rootOf_48 : decode cX9_rootOf 48 = .ok (.getfield 18, 3) := dz_180 (n := 32) (r := 16) hz_X9_rootOf_32 rfl rfl
theorem dX9_rootOf_51 : decode cX9_rootOf 51 = .ok (.aload_n 0, 1) := dz_42 (n := 32) (r := 19) hz_X9_rootOf_32 rfl
theorem dX9_rootOf_52 : decode cX9_rootOf 52 = .ok (.getfield 18, 3) := dz_180 (n := 32) (r := 20) hz_X9_rootOf_32 rfl rfl
theorem dX9_rootOf_55 : decode cX9_rootOf 55 = .ok (.iload_n 2, 1) := dz_28 (n := 32) (r := 23) hz_X9_rootOf_32 rfl
theorem dX9_rootOf_56 : decode cX9_rootOf 56 = .ok (.iaload, 1) := dz_46 (n := 32) (r := 24) hz_X9_rootOf_32 rfl
theorem dX9_rootOf_57 : decode cX9_rootOf 57 = .ok (.iaload, 1) := dz_46 (n := 32) (r := 25) hz_X9_rootOf_32 rfl
theorem dX9_rootOf_58 : decode cX9_rootOf 58 = .ok (.iastore, 1) := dz_79 (n := 32) (r := 26) hz_X9_rootOf_32 rfl
theorem dX9_rootOf_59 : decode cX9_rootOf 59 = .ok (.aload_n 0, 1) := dz_42 (n := 32) (r := 27) hz_X9_rootOf_32 rfl
theorem dX9_rootOf_60 : decode cX9_rootOf 60 = .ok (.getfield 18, 3) := dz_180 (n := 32) (r := 28) hz_X9_rootOf_32 rfl rfl
theorem dX9_rootOf_63 : decode cX9_rootOf 63 = .ok (.iload_n 2, 1) := dz_28 (n := 32) (r := 31) hz_X9_rootOf_32 rfl
theorem hz_X9_rootOf_64 : (cX9_rootOf.data.toList.drop 64).take 40 = [46, 61, 132, 3, 1, 167, 255, 191, 28, 172] := by decide +kernel
theorem dX9_rootOf_64 : decode cX9_rootOf 64 = .ok (.iaload, 1) := dz_46 (n := 64) (r := 0) hz_X9_rootOf_64 rfl
theorem dX9_rootOf_65 : decode cX9_rootOf 65 = .ok (.istore_n 2, 1) := dz_61 (n := 64) (r := 1) hz_X9_rootOf_64 rfl
theorem dX9_rootOf_66 : decode cX9_rootOf 66 = .ok (.iinc 3 1, 3) := dz_132 (n := 64) (r := 2) hz_X9_rootOf_64 rfl rfl rfl
theorem dX9_rootOf_69 : decode cX9_rootOf 69 = .ok (.goto (-65), 3) := dz_167 (n := 64) (r := 5) hz_X9_rootOf_64 rfl (by decide +kernel)
theorem dX9_rootOf_72 : decode cX9_rootOf 72 = .ok (.iload_n 2, 1) := dz_28 (n := 64) (r := 8) hz_X9_rootOf_64 rfl
theorem dX9_rootOf_73 : decode cX9_rootOf 73 = .ok (.ireturn, 1) := dz_172 (n := 64) (r := 9) hz_X9_rootOf_64 rfl
theorem hz_X9_join_0 : (cX9_join.data.toList.drop 0).take 40 = [42, 27, 182, 0, 75, 62, 42, 28, 182, 0, 75, 54, 4, 29, 21, 4, 159, 0, 28, 29, 184, 0, 69, 153, 0, 21, 42, 180, 0, 18, 29, 21, 4, 79, 42, 89, 180, 0, 78, 4] := by decide +kernel
theorem dX9_join_0 : decode cX9_join 0 = .ok (.aload_n 0, 1) := dz_42 (n := 0) (r := 0) hz_X9_join_0 rfl
theorem dX9_join_1 : decode cX9_join 1 = .ok (.iload_n 1, 1) := dz_27 (n := 0) (r := 1) hz_X9_join_0 rfl
theorem dX9_join_2 : decode cX9_join 2 = .ok (.invokevirtual 75, 3) := dz_182 (n := 0) (r := 2) hz_X9_join_0 rfl rfl
theorem dX9_join_5 : decode cX9_join 5 = .ok (.istore_n 3, 1) := dz_62 (n := 0) (r := 5) hz_X9_join_0 rfl
theorem dX9_join_6 : decode cX9_join 6 = .ok (.aload_n 0, 1) := dz_42 (n := 0) (r := 6) hz_X9_join_0 rfl
theorem dX9_join_7 : decode cX9_join 7 = .ok (.iload_n 2, 1) := dz_28 (n := 0) (r := 7) hz_X9_join_0 rfl
theorem dX9_join_8 : decode cX9_join 8 = .ok (.invokevirtual 75, 3) := dz_182 (n := 0) (r := 8) hz_X9_join_0 rfl rfl
theorem dX9_join_11 : decode cX9_join 11 = .ok (.istore 4, 2) := dz_54 (n := 0) (r := 11) hz_X9_join_0 rfl rfl
theorem dX9_join_13 : decode cX9_join 13 = .ok (.iload_n 3, 1) := dz_29 (n := 0) (r := 13) hz_X9_join_0 rfl
theorem dX9_join_14 : decode cX9_join 14 = .ok (.iload 4, 2) := dz_21 (n := 0) (r := 14) hz_X9_join_0 rfl rfl
theorem dX9_join_16 : decode cX9_join 16 = .ok (.if_icmp .eq 28, 3) := dz_159 (n := 0) (r := 16) hz_X9_join_0 rfl (by decide +kernel)
theorem dX9_join_19 : decode cX9_join 19 = .ok (.iload_n 3, 1) := dz_29 (n := 0) (r := 19) hz_X9_join_0 rfl
theorem dX9_join_20 : decode cX9_join 20 = .ok (.invokestatic 69, 3) := dz_184 (n := 0) (r := 20) hz_X9_join_0 rfl rfl
theorem dX9_join_23 : decode cX9_join 23 = .ok (.ifCond .eq 21, 3) := dz_153 (n := 0) (r := 23) hz_X9_join_0 rfl (by decide +kernel)
theorem dX9_join_26 : decode cX9_join 26 = .ok (.aload_n 0, 1) := dz_42 (n := 0) (r := 26) hz_X9_join_0 rfl
theorem dX9_join_27 : decode cX9_join 27 = .ok (.getfield 18, 3) := dz_180 (n := 0) (r := 27) hz_X9_join_0 rfl rfl
theorem dX9_join_30 : decode cX9_join 30 = .ok (.iload_n 3, 1) := dz_29 (n := 0) (r := 30) hz_X9_join_0 rfl
theorem dX9_join_31 : decode cX9_join 31 = .ok (.iload 4, 2) := dz_21 (n := 0) (r := 31) hz_X9_join_0 rfl rfl
theorem hz_X9_join_32 : (cX9_join.data.toList.drop 32).take 40 = [4, 79, 42, 89, 180, 0, 78, 4, 100, 181, 0, 78, 177] := by decide +kernel
theorem dX9_join_33 : decode cX9_join 33 = .ok (.iastore, 1) := dz_79 (n := 32) (r := 1) hz_X9_join_32 rfl
theorem dX9_join_34 : decode cX9_join 34 = .ok (.aload_n 0, 1) := dz_42 (n := 32) (r := 2) hz_X9_join_32 rfl
theorem dX9_join_35 : decode cX9_join 35 = .ok (.dup, 1) := dz_89 (n := 32) (r := 3) hz_X9_join_32 rfl
theorem dX9_join_36 : decode cX9_join 36 = .ok (.getfield 78, 3) := dz_180 (n := 32) (r := 4) hz_X9_join_32 rfl rfl
theorem dX9_join_39 : decode cX9_join 39 = .ok (.iconst 1, 1) := dz_4 (n := 32) (r := 7) hz_X9_join_32 rfl
theorem dX9_join_40 : decode cX9_join 40 = .ok (.isub, 1) := dz_100 (n := 32) (r := 8) hz_X9_join_32 rfl
theorem dX9_join_41 : decode cX9_join 41 = .ok (.putfield 78, 3) := dz_181 (n := 32) (r := 9) hz_X9_join_32 rfl rfl
theorem dX9_join_44 : decode cX9_join 44 = .ok (.return_, 1) := dz_177 (n := 32) (r := 12) hz_X9_join_32 rfl
theorem hz_X9_dry_0 : (cX9_dry.data.toList.drop 0).take 40 = [42, 180, 0, 18, 2, 184, 0, 81, 42, 3, 181, 0, 78, 177] := by decide +kernel
theorem dX9_dry_0 : decode cX9_dry 0 = .ok (.aload_n 0, 1) := dz_42 (n := 0) (r := 0) hz_X9_dry_0 rfl
theorem dX9_dry_1 : decode cX9_dry 1 = .ok (.getfield 18, 3) := dz_180 (n := 0) (r := 1) hz_X9_dry_0 rfl rfl
theorem dX9_dry_4 : decode cX9_dry 4 = .ok (.iconst (-1), 1) := dz_2 (n := 0) (r := 4) hz_X9_dry_0 rfl
theorem dX9_dry_5 : decode cX9_dry 5 = .ok (.invokestatic 81, 3) := dz_184 (n := 0) (r := 5) hz_X9_dry_0 rfl rfl
theorem dX9_dry_8 : decode cX9_dry 8 = .ok (.aload_n 0, 1) := dz_42 (n := 0) (r := 8) hz_X9_dry_0 rfl
theorem dX9_dry_9 : decode cX9_dry 9 = .ok (.iconst 0, 1) := dz_3 (n := 0) (r := 9) hz_X9_dry_0 rfl
theorem dX9_dry_10 : decode cX9_dry 10 = .ok (.putfield 78, 3) := dz_181 (n := 0) (r := 10) hz_X9_dry_0 rfl rfl
theorem dX9_dry_13 : decode cX9_dry 13 = .ok (.return_, 1) := dz_177 (n := 0) (r := 13) hz_X9_dry_0 rfl
theorem hz_X9_flood_0 : (cX9_flood.data.toList.drop 0).take 40 = [27, 184, 0, 69, 154, 0, 4, 177, 42, 180, 0, 18, 27, 27, 79, 42, 89, 180, 0, 78, 4, 96, 181, 0, 78, 3, 61, 28, 42, 180, 0, 40, 162, 0, 37, 27, 4, 28, 120, 130] := by decide +kernel
theorem dX9_flood_0 : decode cX9_flood 0 = .ok (.iload_n 1, 1) := dz_27 (n := 0) (r := 0) hz_X9_flood_0 rfl
theorem dX9_flood_1 : decode cX9_flood 1 = .ok (.invokestatic 69, 3) := dz_184 (n := 0) (r := 1) hz_X9_flood_0 rfl rfl
theorem dX9_flood_4 : decode cX9_flood 4 = .ok (.ifCond .ne 4, 3) := dz_154 (n := 0) (r := 4) hz_X9_flood_0 rfl (by decide +kernel)
theorem dX9_flood_7 : decode cX9_flood 7 = .ok (.return_, 1) := dz_177 (n := 0) (r := 7) hz_X9_flood_0 rfl
theorem dX9_flood_8 : decode cX9_flood 8 = .ok (.aload_n 0, 1) := dz_42 (n := 0) (r := 8) hz_X9_flood_0 rfl
theorem dX9_flood_9 : decode cX9_flood 9 = .ok (.getfield 18, 3) := dz_180 (n := 0) (r := 9) hz_X9_flood_0 rfl rfl
theorem dX9_flood_12 : decode cX9_flood 12 = .ok (.iload_n 1, 1) := dz_27 (n := 0) (r := 12) hz_X9_flood_0 rfl
theorem dX9_flood_13 : decode cX9_flood 13 = .ok (.iload_n 1, 1) := dz_27 (n := 0) (r := 13) hz_X9_flood_0 rfl
theorem dX9_flood_14 : decode cX9_flood 14 = .ok (.iastore, 1) := dz_79 (n := 0) (r := 14) hz_X9_flood_0 rfl
theorem dX9_flood_15 : decode cX9_flood 15 = .ok (.aload_n 0, 1) := dz_42 (n := 0) (r := 15) hz_X9_flood_0 rfl
theorem dX9_flood_16 : decode cX9_flood 16 = .ok (.dup, 1) := dz_89 (n := 0) (r := 16) hz_X9_flood_0 rfl
theorem dX9_flood_17 : decode cX9_flood 17 = .ok (.getfield 78, 3) := dz_180 (n := 0) (r := 17) hz_X9_flood_0 rfl rfl
theorem dX9_flood_20 : decode cX9_flood 20 = .ok (.iconst 1, 1) := dz_4 (n := 0) (r := 20) hz_X9_flood_0 rfl
theorem dX9_flood_21 : decode cX9_flood 21 = .ok (.iadd, 1) := dz_96 (n := 0) (r := 21) hz_X9_flood_0 rfl
theorem dX9_flood_22 : decode cX9_flood 22 = .ok (.putfield 78, 3) := dz_181 (n := 0) (r := 22) hz_X9_flood_0 rfl rfl
theorem dX9_flood_25 : decode cX9_flood 25 = .ok (.iconst 0, 1) := dz_3 (n := 0) (r := 25) hz_X9_flood_0 rfl
theorem dX9_flood_26 : decode cX9_flood 26 = .ok (.istore_n 2, 1) := dz_61 (n := 0) (r := 26) hz_X9_flood_0 rfl
theorem dX9_flood_27 : decode cX9_flood 27 = .ok (.iload_n 2, 1) := dz_28 (n := 0) (r := 27) hz_X9_flood_0 rfl
theorem dX9_flood_28 : decode cX9_flood 28 = .ok (.aload_n 0, 1) := dz_42 (n := 0) (r := 28) hz_X9_flood_0 rfl
theorem dX9_flood_29 : decode cX9_flood 29 = .ok (.getfield 40, 3) := dz_180 (n := 0) (r := 29) hz_X9_flood_0 rfl rfl
theorem hz_X9_flood_32 : (cX9_flood.data.toList.drop 32).take 40 = [162, 0, 37, 27, 4, 28, 120, 130, 62, 42, 28, 182, 0, 87, 153, 0, 17, 42, 29, 182, 0, 72, 153, 0, 9, 42, 27, 29, 182, 0, 90, 132, 2, 1, 167, 255, 217, 177] := by decide +kernel
theorem dX9_flood_32 : decode cX9_flood 32 = .ok (.if_icmp .ge 37, 3) := dz_162 (n := 32) (r := 0) hz_X9_flood_32 rfl (by decide +kernel)
theorem dX9_flood_35 : decode cX9_flood 35 = .ok (.iload_n 1, 1) := dz_27 (n := 32) (r := 3) hz_X9_flood_32 rfl
theorem dX9_flood_36 : decode cX9_flood 36 = .ok (.iconst 1, 1) := dz_4 (n := 32) (r := 4) hz_X9_flood_32 rfl
theorem dX9_flood_37 : decode cX9_flood 37 = .ok (.iload_n 2, 1) := dz_28 (n := 32) (r := 5) hz_X9_flood_32 rfl
theorem dX9_flood_38 : decode cX9_flood 38 = .ok (.ishl, 1) := dz_120 (n := 32) (r := 6) hz_X9_flood_32 rfl
theorem dX9_flood_39 : decode cX9_flood 39 = .ok (.ixor, 1) := dz_130 (n := 32) (r := 7) hz_X9_flood_32 rfl
theorem dX9_flood_40 : decode cX9_flood 40 = .ok (.istore_n 3, 1) := dz_62 (n := 32) (r := 8) hz_X9_flood_32 rfl
theorem dX9_flood_41 : decode cX9_flood 41 = .ok (.aload_n 0, 1) := dz_42 (n := 32) (r := 9) hz_X9_flood_32 rfl
theorem dX9_flood_42 : decode cX9_flood 42 = .ok (.iload_n 2, 1) := dz_28 (n := 32) (r := 10) hz_X9_flood_32 rfl
theorem dX9_flood_43 : decode cX9_flood 43 = .ok (.invokevirtual 87, 3) := dz_182 (n := 32) (r := 11) hz_X9_flood_32 rfl rfl
theorem dX9_flood_46 : decode cX9_flood 46 = .ok (.ifCond .eq 17, 3) := dz_153 (n := 32) (r := 14) hz_X9_flood_32 rfl (by decide +kernel)
theorem dX9_flood_49 : decode cX9_flood 49 = .ok (.aload_n 0, 1) := dz_42 (n := 32) (r := 17) hz_X9_flood_32 rfl
theorem dX9_flood_50 : decode cX9_flood 50 = .ok (.iload_n 3, 1) := dz_29 (n := 32) (r := 18) hz_X9_flood_32 rfl
theorem dX9_flood_51 : decode cX9_flood 51 = .ok (.invokevirtual 72, 3) := dz_182 (n := 32) (r := 19) hz_X9_flood_32 rfl rfl
theorem dX9_flood_54 : decode cX9_flood 54 = .ok (.ifCond .eq 9, 3) := dz_153 (n := 32) (r := 22) hz_X9_flood_32 rfl (by decide +kernel)
theorem dX9_flood_57 : decode cX9_flood 57 = .ok (.aload_n 0, 1) := dz_42 (n := 32) (r := 25) hz_X9_flood_32 rfl
theorem dX9_flood_58 : decode cX9_flood 58 = .ok (.iload_n 1, 1) := dz_27 (n := 32) (r := 26) hz_X9_flood_32 rfl
theorem dX9_flood_59 : decode cX9_flood 59 = .ok (.iload_n 3, 1) := dz_29 (n := 32) (r := 27) hz_X9_flood_32 rfl
theorem dX9_flood_60 : decode cX9_flood 60 = .ok (.invokevirtual 90, 3) := dz_182 (n := 32) (r := 28) hz_X9_flood_32 rfl rfl
theorem dX9_flood_63 : decode cX9_flood 63 = .ok (.iinc 2 1, 3) := dz_132 (n := 32) (r := 31) hz_X9_flood_32 rfl rfl rfl
theorem hz_X9_flood_64 : (cX9_flood.data.toList.drop 64).take 40 = [2, 1, 167, 255, 217, 177] := by decide +kernel
theorem dX9_flood_66 : decode cX9_flood 66 = .ok (.goto (-39), 3) := dz_167 (n := 64) (r := 2) hz_X9_flood_64 rfl (by decide +kernel)
theorem dX9_flood_69 : decode cX9_flood 69 = .ok (.return_, 1) := dz_177 (n := 64) (r := 5) hz_X9_flood_64 rfl
theorem hz_X9_meetingEnergy_0 : (cX9_meetingEnergy.data.toList.drop 0).take 40 = [42, 182, 0, 93, 3, 54, 4, 21, 4, 42, 180, 0, 43, 162, 0, 99, 21, 4, 17, 4, 0, 162, 0, 91, 42, 180, 0, 9, 21, 4, 46, 54, 5, 42, 21, 5, 182, 0, 96, 29] := by decide +kernel
theorem dX9_meetingEnergy_0 : decode cX9_meetingEnergy 0 = .ok (.aload_n 0, 1) := dz_42 (n := 0) (r := 0) hz_X9_meetingEnergy_0 rfl
theorem dX9_meetingEnergy_1 : decode cX9_meetingEnergy 1 = .ok (.invokevirtual 93, 3) := dz_182 (n := 0) (r := 1) hz_X9_meetingEnergy_0 rfl rfl
theorem dX9_meetingEnergy_4 : decode cX9_meetingEnergy 4 = .ok (.iconst 0, 1) := dz_3 (n := 0) (r := 4) hz_X9_meetingEnergy_0 rfl
theorem dX9_meetingEnergy_5 : decode cX9_meetingEnergy 5 = .ok (.istore 4, 2) := dz_54 (n := 0) (r := 5) hz_X9_meetingEnergy_0 rfl rfl
theorem dX9_meetingEnergy_7 : decode cX9_meetingEnergy 7 = .ok (.iload 4, 2) := dz_21 (n := 0) (r := 7) hz_X9_meetingEnergy_0 rfl rfl
theorem dX9_meetingEnergy_9 : decode cX9_meetingEnergy 9 = .ok (.aload_n 0, 1) := dz_42 (n := 0) (r := 9) hz_X9_meetingEnergy_0 rfl
theorem dX9_meetingEnergy_10 : decode cX9_meetingEnergy 10 = .ok (.getfield 43, 3) := dz_180 (n := 0) (r := 10) hz_X9_meetingEnergy_0 rfl rfl
theorem dX9_meetingEnergy_13 : decode cX9_meetingEnergy 13 = .ok (.if_icmp .ge 99, 3) := dz_162 (n := 0) (r := 13) hz_X9_meetingEnergy_0 rfl (by decide +kernel)
theorem dX9_meetingEnergy_16 : decode cX9_meetingEnergy 16 = .ok (.iload 4, 2) := dz_21 (n := 0) (r := 16) hz_X9_meetingEnergy_0 rfl rfl
theorem dX9_meetingEnergy_18 : decode cX9_meetingEnergy 18 = .ok (.sipush 1024, 3) := dz_17 (n := 0) (r := 18) hz_X9_meetingEnergy_0 rfl (by decide +kernel)
theorem dX9_meetingEnergy_21 : decode cX9_meetingEnergy 21 = .ok (.if_icmp .ge 91, 3) := dz_162 (n := 0) (r := 21) hz_X9_meetingEnergy_0 rfl (by decide +kernel)
theorem dX9_meetingEnergy_24 : decode cX9_meetingEnergy 24 = .ok (.aload_n 0, 1) := dz_42 (n := 0) (r := 24) hz_X9_meetingEnergy_0 rfl
theorem dX9_meetingEnergy_25 : decode cX9_meetingEnergy 25 = .ok (.getfield 9, 3) := dz_180 (n := 0) (r := 25) hz_X9_meetingEnergy_0 rfl rfl
theorem dX9_meetingEnergy_28 : decode cX9_meetingEnergy 28 = .ok (.iload 4, 2) := dz_21 (n := 0) (r := 28) hz_X9_meetingEnergy_0 rfl rfl
theorem dX9_meetingEnergy_30 : decode cX9_meetingEnergy 30 = .ok (.iaload, 1) := dz_46 (n := 0) (r := 30) hz_X9_meetingEnergy_0 rfl
theorem dX9_meetingEnergy_31 : decode cX9_meetingEnergy 31 = .ok (.istore 5, 2) := dz_54 (n := 0) (r := 31) hz_X9_meetingEnergy_0 rfl rfl
theorem hz_X9_meetingEnergy_32 : (cX9_meetingEnergy.data.toList.drop 32).take 40 = [5, 42, 21, 5, 182, 0, 96, 29, 153, 0, 30, 42, 21, 5, 182, 0, 100, 42, 42, 182, 0, 103, 182, 0, 100, 160, 0, 13, 42, 21, 5, 42, 182, 0, 103, 182, 0, 90, 42, 27] := by decide +kernel
theorem dX9_meetingEnergy_33 : decode cX9_meetingEnergy 33 = .ok (.aload_n 0, 1) := dz_42 (n := 32) (r := 1) hz_X9_meetingEnergy_32 rfl
theorem dX9_meetingEnergy_34 : decode cX9_meetingEnergy 34 = .ok (.iload 5, 2) := dz_21 (n := 32) (r := 2) hz_X9_meetingEnergy_32 rfl rfl
theorem dX9_meetingEnergy_36 : decode cX9_meetingEnergy 36 = .ok (.invokevirtual 96, 3) := dz_182 (n := 32) (r := 4) hz_X9_meetingEnergy_32 rfl rfl
theorem dX9_meetingEnergy_39 : decode cX9_meetingEnergy 39 = .ok (.iload_n 3, 1) := dz_29 (n := 32) (r := 7) hz_X9_meetingEnergy_32 rfl
theorem dX9_meetingEnergy_40 : decode cX9_meetingEnergy 40 = .ok (.ifCond .eq 30, 3) := dz_153 (n := 32) (r := 8) hz_X9_meetingEnergy_32 rfl (by decide +kernel)
theorem dX9_meetingEnergy_43 : decode cX9_meetingEnergy 43 = .ok (.aload_n 0, 1) := dz_42 (n := 32) (r := 11) hz_X9_meetingEnergy_32 rfl
theorem dX9_meetingEnergy_44 : decode cX9_meetingEnergy 44 = .ok (.iload 5, 2) := dz_21 (n := 32) (r := 12) hz_X9_meetingEnergy_32 rfl rfl
theorem dX9_meetingEnergy_46 : decode cX9_meetingEnergy 46 = .ok (.invokevirtual 100, 3) := dz_182 (n := 32) (r := 14) hz_X9_meetingEnergy_32 rfl rfl
theorem dX9_meetingEnergy_49 : decode cX9_meetingEnergy 49 = .ok (.aload_n 0, 1) := dz_42 (n := 32) (r := 17) hz_X9_meetingEnergy_32 rfl
theorem dX9_meetingEnergy_50 : decode cX9_meetingEnergy 50 = .ok (.aload_n 0, 1) := dz_42 (n := 32) (r := 18) hz_X9_meetingEnergy_32 rfl
theorem dX9_meetingEnergy_51 : decode cX9_meetingEnergy 51 = .ok (.invokevirtual 103, 3) := dz_182 (n := 32) (r := 19) hz_X9_meetingEnergy_32 rfl rfl
theorem dX9_meetingEnergy_54 : decode cX9_meetingEnergy 54 = .ok (.invokevirtual 100, 3) := dz_182 (n := 32) (r := 22) hz_X9_meetingEnergy_32 rfl rfl
theorem dX9_meetingEnergy_57 : decode cX9_meetingEnergy 57 = .ok (.if_icmp .ne 13, 3) := dz_160 (n := 32) (r := 25) hz_X9_meetingEnergy_32 rfl (by decide +kernel)
theorem dX9_meetingEnergy_60 : decode cX9_meetingEnergy 60 = .ok (.aload_n 0, 1) := dz_42 (n := 32) (r := 28) hz_X9_meetingEnergy_32 rfl
theorem dX9_meetingEnergy_61 : decode cX9_meetingEnergy 61 = .ok (.iload 5, 2) := dz_21 (n := 32) (r := 29) hz_X9_meetingEnergy_32 rfl rfl
theorem dX9_meetingEnergy_63 : decode cX9_meetingEnergy 63 = .ok (.aload_n 0, 1) := dz_42 (n := 32) (r := 31) hz_X9_meetingEnergy_32 rfl
theorem hz_X9_meetingEnergy_64 : (cX9_meetingEnergy.data.toList.drop 64).take 40 = [182, 0, 103, 182, 0, 90, 42, 27, 182, 0, 72, 153, 0, 31, 42, 28, 182, 0, 72, 153, 0, 23, 42, 27, 182, 0, 75, 42, 28, 182, 0, 75, 160, 0, 10, 42, 21, 5, 182, 0] := by decide +kernel
theorem dX9_meetingEnergy_64 : decode cX9_meetingEnergy 64 = .ok (.invokevirtual 103, 3) := dz_182 (n := 64) (r := 0) hz_X9_meetingEnergy_64 rfl rfl
theorem dX9_meetingEnergy_67 : decode cX9_meetingEnergy 67 = .ok (.invokevirtual 90, 3) := dz_182 (n := 64) (r := 3) hz_X9_meetingEnergy_64 rfl rfl
theorem dX9_meetingEnergy_70 : decode cX9_meetingEnergy 70 = .ok (.aload_n 0, 1) := dz_42 (n := 64) (r := 6) hz_X9_meetingEnergy_64 rfl
theorem dX9_meetingEnergy_71 : decode cX9_meetingEnergy 71 = .ok (.iload_n 1, 1) := dz_27 (n := 64) (r := 7) hz_X9_meetingEnergy_64 rfl
theorem dX9_meetingEnergy_72 : decode cX9_meetingEnergy 72 = .ok (.invokevirtual 72, 3) := dz_182 (n := 64) (r := 8) hz_X9_meetingEnergy_64 rfl rfl
theorem dX9_meetingEnergy_75 : decode cX9_meetingEnergy 75 = .ok (.ifCond .eq 31, 3) := dz_153 (n := 64) (r := 11) hz_X9_meetingEnergy_64 rfl (by decide +kernel)
theorem dX9_meetingEnergy_78 : decode cX9_meetingEnergy 78 = .ok (.aload_n 0, 1) := dz_42 (n := 64) (r := 14) hz_X9_meetingEnergy_64 rfl
theorem dX9_meetingEnergy_79 : decode cX9_meetingEnergy 79 = .ok (.iload_n 2, 1) := dz_28 (n := 64) (r := 15) hz_X9_meetingEnergy_64 rfl
theorem dX9_meetingEnergy_80 : decode cX9_meetingEnergy 80 = .ok (.invokevirtual 72, 3) := dz_182 (n := 64) (r := 16) hz_X9_meetingEnergy_64 rfl rfl
theorem dX9_meetingEnergy_83 : decode cX9_meetingEnergy 83 = .ok (.ifCond .eq 23, 3) := dz_153 (n := 64) (r := 19) hz_X9_meetingEnergy_64 rfl (by decide +kernel)
theorem dX9_meetingEnergy_86 : decode cX9_meetingEnergy 86 = .ok (.aload_n 0, 1) := dz_42 (n := 64) (r := 22) hz_X9_meetingEnergy_64 rfl
theorem dX9_meetingEnergy_87 : decode cX9_meetingEnergy 87 = .ok (.iload_n 1, 1) := dz_27 (n := 64) (r := 23) hz_X9_meetingEnergy_64 rfl
theorem dX9_meetingEnergy_88 : decode cX9_meetingEnergy 88 = .ok (.invokevirtual 75, 3) := dz_182 (n := 64) (r := 24) hz_X9_meetingEnergy_64 rfl rfl
theorem dX9_meetingEnergy_91 : decode cX9_meetingEnergy 91 = .ok (.aload_n 0, 1) := dz_42 (n := 64) (r := 27) hz_X9_meetingEnergy_64 rfl
theorem dX9_meetingEnergy_92 : decode cX9_meetingEnergy 92 = .ok (.iload_n 2, 1) := dz_28 (n := 64) (r := 28) hz_X9_meetingEnergy_64 rfl
theorem dX9_meetingEnergy_93 : decode cX9_meetingEnergy 93 = .ok (.invokevirtual 75, 3) := dz_182 (n := 64) (r := 29) hz_X9_meetingEnergy_64 rfl rfl
theorem hz_X9_meetingEnergy_96 : (cX9_meetingEnergy.data.toList.drop 96).take 40 = [160, 0, 10, 42, 21, 5, 182, 0, 100, 172, 132, 4, 1, 167, 255, 154, 18, 107, 172] := by decide +kernel
theorem dX9_meetingEnergy_96 : decode cX9_meetingEnergy 96 = .ok (.if_icmp .ne 10, 3) := dz_160 (n := 96) (r := 0) hz_X9_meetingEnergy_96 rfl (by decide +kernel)
theorem dX9_meetingEnergy_99 : decode cX9_meetingEnergy 99 = .ok (.aload_n 0, 1) := dz_42 (n := 96) (r := 3) hz_X9_meetingEnergy_96 rfl
theorem dX9_meetingEnergy_100 : decode cX9_meetingEnergy 100 = .ok (.iload 5, 2) := dz_21 (n := 96) (r := 4) hz_X9_meetingEnergy_96 rfl rfl
theorem dX9_meetingEnergy_102 : decode cX9_meetingEnergy 102 = .ok (.invokevirtual 100, 3) := dz_182 (n := 96) (r := 6) hz_X9_meetingEnergy_96 rfl rfl
theorem dX9_meetingEnergy_105 : decode cX9_meetingEnergy 105 = .ok (.ireturn, 1) := dz_172 (n := 96) (r := 9) hz_X9_meetingEnergy_96 rfl
theorem dX9_meetingEnergy_106 : decode cX9_meetingEnergy 106 = .ok (.iinc 4 1, 3) := dz_132 (n := 96) (r := 10) hz_X9_meetingEnergy_96 rfl rfl rfl
theorem dX9_meetingEnergy_109 : decode cX9_meetingEnergy 109 = .ok (.goto (-102), 3) := dz_167 (n := 96) (r := 13) hz_X9_meetingEnergy_96 rfl (by decide +kernel)
theorem dX9_meetingEnergy_112 : decode cX9_meetingEnergy 112 = .ok (.ldc 107, 2) := dz_18 (n := 96) (r := 16) hz_X9_meetingEnergy_96 rfl rfl
theorem dX9_meetingEnergy_114 : decode cX9_meetingEnergy 114 = .ok (.ireturn, 1) := dz_172 (n := 96) (r := 18) hz_X9_meetingEnergy_96 rfl
theorem hz_X9_lakesBelow_0 : (cX9_lakesBelow.data.toList.drop 0).take 40 = [42, 182, 0, 93, 3, 61, 28, 42, 180, 0, 43, 162, 0, 40, 28, 17, 4, 0, 162, 0, 33, 42, 42, 180, 0, 9, 28, 46, 182, 0, 100, 27, 163, 0, 19, 42, 42, 180, 0, 9] := by decide +kernel
theorem dX9_lakesBelow_0 : decode cX9_lakesBelow 0 = .ok (.aload_n 0, 1) := dz_42 (n := 0) (r := 0) hz_X9_lakesBelow_0 rfl
theorem dX9_lakesBelow_1 : decode cX9_lakesBelow 1 = .ok (.invokevirtual 93, 3) := dz_182 (n := 0) (r := 1) hz_X9_lakesBelow_0 rfl rfl
theorem dX9_lakesBelow_4 : decode cX9_lakesBelow 4 = .ok (.iconst 0, 1) := dz_3 (n := 0) (r := 4) hz_X9_lakesBelow_0 rfl
theorem dX9_lakesBelow_5 : decode cX9_lakesBelow 5 = .ok (.istore_n 2, 1) := dz_61 (n := 0) (r := 5) hz_X9_lakesBelow_0 rfl
theorem dX9_lakesBelow_6 : decode cX9_lakesBelow 6 = .ok (.iload_n 2, 1) := dz_28 (n := 0) (r := 6) hz_X9_lakesBelow_0 rfl
theorem dX9_lakesBelow_7 : decode cX9_lakesBelow 7 = .ok (.aload_n 0, 1) := dz_42 (n := 0) (r := 7) hz_X9_lakesBelow_0 rfl
theorem dX9_lakesBelow_8 : decode cX9_lakesBelow 8 = .ok (.getfield 43, 3) := dz_180 (n := 0) (r := 8) hz_X9_lakesBelow_0 rfl rfl
theorem dX9_lakesBelow_11 : decode cX9_lakesBelow 11 = .ok (.if_icmp .ge 40, 3) := dz_162 (n := 0) (r := 11) hz_X9_lakesBelow_0 rfl (by decide +kernel)
theorem dX9_lakesBelow_14 : decode cX9_lakesBelow 14 = .ok (.iload_n 2, 1) := dz_28 (n := 0) (r := 14) hz_X9_lakesBelow_0 rfl
theorem dX9_lakesBelow_15 : decode cX9_lakesBelow 15 = .ok (.sipush 1024, 3) := dz_17 (n := 0) (r := 15) hz_X9_lakesBelow_0 rfl (by decide +kernel)
theorem dX9_lakesBelow_18 : decode cX9_lakesBelow 18 = .ok (.if_icmp .ge 33, 3) := dz_162 (n := 0) (r := 18) hz_X9_lakesBelow_0 rfl (by decide +kernel)
theorem dX9_lakesBelow_21 : decode cX9_lakesBelow 21 = .ok (.aload_n 0, 1) := dz_42 (n := 0) (r := 21) hz_X9_lakesBelow_0 rfl
theorem dX9_lakesBelow_22 : decode cX9_lakesBelow 22 = .ok (.aload_n 0, 1) := dz_42 (n := 0) (r := 22) hz_X9_lakesBelow_0 rfl
theorem dX9_lakesBelow_23 : decode cX9_lakesBelow 23 = .ok (.getfield 9, 3) := dz_180 (n := 0) (r := 23) hz_X9_lakesBelow_0 rfl rfl
theorem dX9_lakesBelow_26 : decode cX9_lakesBelow 26 = .ok (.iload_n 2, 1) := dz_28 (n := 0) (r := 26) hz_X9_lakesBelow_0 rfl
theorem dX9_lakesBelow_27 : decode cX9_lakesBelow 27 = .ok (.iaload, 1) := dz_46 (n := 0) (r := 27) hz_X9_lakesBelow_0 rfl
theorem dX9_lakesBelow_28 : decode cX9_lakesBelow 28 = .ok (.invokevirtual 100, 3) := dz_182 (n := 0) (r := 28) hz_X9_lakesBelow_0 rfl rfl
theorem dX9_lakesBelow_31 : decode cX9_lakesBelow 31 = .ok (.iload_n 1, 1) := dz_27 (n := 0) (r := 31) hz_X9_lakesBelow_0 rfl
theorem hz_X9_lakesBelow_32 : (cX9_lakesBelow.data.toList.drop 32).take 40 = [163, 0, 19, 42, 42, 180, 0, 9, 28, 46, 182, 0, 96, 132, 2, 1, 167, 255, 214, 42, 180, 0, 78, 172] := by decide +kernel
theorem dX9_lakesBelow_32 : decode cX9_lakesBelow 32 = .ok (.if_icmp .gt 19, 3) := dz_163 (n := 32) (r := 0) hz_X9_lakesBelow_32 rfl (by decide +kernel)
theorem dX9_lakesBelow_35 : decode cX9_lakesBelow 35 = .ok (.aload_n 0, 1) := dz_42 (n := 32) (r := 3) hz_X9_lakesBelow_32 rfl
theorem dX9_lakesBelow_36 : decode cX9_lakesBelow 36 = .ok (.aload_n 0, 1) := dz_42 (n := 32) (r := 4) hz_X9_lakesBelow_32 rfl
theorem dX9_lakesBelow_37 : decode cX9_lakesBelow 37 = .ok (.getfield 9, 3) := dz_180 (n := 32) (r := 5) hz_X9_lakesBelow_32 rfl rfl
theorem dX9_lakesBelow_40 : decode cX9_lakesBelow 40 = .ok (.iload_n 2, 1) := dz_28 (n := 32) (r := 8) hz_X9_lakesBelow_32 rfl
theorem dX9_lakesBelow_41 : decode cX9_lakesBelow 41 = .ok (.iaload, 1) := dz_46 (n := 32) (r := 9) hz_X9_lakesBelow_32 rfl
theorem dX9_lakesBelow_42 : decode cX9_lakesBelow 42 = .ok (.invokevirtual 96, 3) := dz_182 (n := 32) (r := 10) hz_X9_lakesBelow_32 rfl rfl
theorem dX9_lakesBelow_45 : decode cX9_lakesBelow 45 = .ok (.iinc 2 1, 3) := dz_132 (n := 32) (r := 13) hz_X9_lakesBelow_32 rfl rfl rfl
theorem dX9_lakesBelow_48 : decode cX9_lakesBelow 48 = .ok (.goto (-42), 3) := dz_167 (n := 32) (r := 16) hz_X9_lakesBelow_32 rfl (by decide +kernel)
theorem dX9_lakesBelow_51 : decode cX9_lakesBelow 51 = .ok (.aload_n 0, 1) := dz_42 (n := 32) (r := 19) hz_X9_lakesBelow_32 rfl
theorem dX9_lakesBelow_52 : decode cX9_lakesBelow 52 = .ok (.getfield 78, 3) := dz_180 (n := 32) (r := 20) hz_X9_lakesBelow_32 rfl rfl
theorem dX9_lakesBelow_55 : decode cX9_lakesBelow 55 = .ok (.ireturn, 1) := dz_172 (n := 32) (r := 23) hz_X9_lakesBelow_32 rfl
theorem hz_X9_basinOf_0 : (cX9_basinOf.data.toList.drop 0).take 40 = [3, 61, 3, 62, 29, 42, 180, 0, 43, 162, 0, 104, 29, 17, 4, 0, 162, 0, 97, 42, 42, 180, 0, 9, 29, 46, 182, 0, 108, 54, 4, 21, 4, 42, 180, 0, 9, 29, 46, 159] := by decide +kernel
theorem dX9_basinOf_0 : decode cX9_basinOf 0 = .ok (.iconst 0, 1) := dz_3 (n := 0) (r := 0) hz_X9_basinOf_0 rfl
theorem dX9_basinOf_1 : decode cX9_basinOf 1 = .ok (.istore_n 2, 1) := dz_61 (n := 0) (r := 1) hz_X9_basinOf_0 rfl
theorem dX9_basinOf_2 : decode cX9_basinOf 2 = .ok (.iconst 0, 1) := dz_3 (n := 0) (r := 2) hz_X9_basinOf_0 rfl
theorem dX9_basinOf_3 : decode cX9_basinOf 3 = .ok (.istore_n 3, 1) := dz_62 (n := 0) (r := 3) hz_X9_basinOf_0 rfl
theorem dX9_basinOf_4 : decode cX9_basinOf 4 = .ok (.iload_n 3, 1) := dz_29 (n := 0) (r := 4) hz_X9_basinOf_0 rfl
theorem dX9_basinOf_5 : decode cX9_basinOf 5 = .ok (.aload_n 0, 1) := dz_42 (n := 0) (r := 5) hz_X9_basinOf_0 rfl
theorem dX9_basinOf_6 : decode cX9_basinOf 6 = .ok (.getfield 43, 3) := dz_180 (n := 0) (r := 6) hz_X9_basinOf_0 rfl rfl
theorem dX9_basinOf_9 : decode cX9_basinOf 9 = .ok (.if_icmp .ge 104, 3) := dz_162 (n := 0) (r := 9) hz_X9_basinOf_0 rfl (by decide +kernel)
theorem dX9_basinOf_12 : decode cX9_basinOf 12 = .ok (.iload_n 3, 1) := dz_29 (n := 0) (r := 12) hz_X9_basinOf_0 rfl
theorem dX9_basinOf_13 : decode cX9_basinOf 13 = .ok (.sipush 1024, 3) := dz_17 (n := 0) (r := 13) hz_X9_basinOf_0 rfl (by decide +kernel)
theorem dX9_basinOf_16 : decode cX9_basinOf 16 = .ok (.if_icmp .ge 97, 3) := dz_162 (n := 0) (r := 16) hz_X9_basinOf_0 rfl (by decide +kernel)
theorem dX9_basinOf_19 : decode cX9_basinOf 19 = .ok (.aload_n 0, 1) := dz_42 (n := 0) (r := 19) hz_X9_basinOf_0 rfl
theorem dX9_basinOf_20 : decode cX9_basinOf 20 = .ok (.aload_n 0, 1) := dz_42 (n := 0) (r := 20) hz_X9_basinOf_0 rfl
theorem dX9_basinOf_21 : decode cX9_basinOf 21 = .ok (.getfield 9, 3) := dz_180 (n := 0) (r := 21) hz_X9_basinOf_0 rfl rfl
theorem dX9_basinOf_24 : decode cX9_basinOf 24 = .ok (.iload_n 3, 1) := dz_29 (n := 0) (r := 24) hz_X9_basinOf_0 rfl
theorem dX9_basinOf_25 : decode cX9_basinOf 25 = .ok (.iaload, 1) := dz_46 (n := 0) (r := 25) hz_X9_basinOf_0 rfl
theorem dX9_basinOf_26 : decode cX9_basinOf 26 = .ok (.invokevirtual 108, 3) := dz_182 (n := 0) (r := 26) hz_X9_basinOf_0 rfl rfl
theorem dX9_basinOf_29 : decode cX9_basinOf 29 = .ok (.istore 4, 2) := dz_54 (n := 0) (r := 29) hz_X9_basinOf_0 rfl rfl
theorem dX9_basinOf_31 : decode cX9_basinOf 31 = .ok (.iload 4, 2) := dz_21 (n := 0) (r := 31) hz_X9_basinOf_0 rfl rfl
theorem hz_X9_basinOf_32 : (cX9_basinOf.data.toList.drop 32).take 40 = [4, 42, 180, 0, 9, 29, 46, 159, 0, 11, 21, 4, 184, 0, 69, 154, 0, 12, 42, 180, 0, 9, 29, 46, 167, 0, 10, 42, 180, 0, 21, 21, 4, 46, 54, 5, 42, 180, 0, 9] := by decide +kernel
theorem dX9_basinOf_33 : decode cX9_basinOf 33 = .ok (.aload_n 0, 1) := dz_42 (n := 32) (r := 1) hz_X9_basinOf_32 rfl
theorem dX9_basinOf_34 : decode cX9_basinOf 34 = .ok (.getfield 9, 3) := dz_180 (n := 32) (r := 2) hz_X9_basinOf_32 rfl rfl
theorem dX9_basinOf_37 : decode cX9_basinOf 37 = .ok (.iload_n 3, 1) := dz_29 (n := 32) (r := 5) hz_X9_basinOf_32 rfl
theorem dX9_basinOf_38 : decode cX9_basinOf 38 = .ok (.iaload, 1) := dz_46 (n := 32) (r := 6) hz_X9_basinOf_32 rfl
theorem dX9_basinOf_39 : decode cX9_basinOf 39 = .ok (.if_icmp .eq 11, 3) := dz_159 (n := 32) (r := 7) hz_X9_basinOf_32 rfl (by decide +kernel)
theorem dX9_basinOf_42 : decode cX9_basinOf 42 = .ok (.iload 4, 2) := dz_21 (n := 32) (r := 10) hz_X9_basinOf_32 rfl rfl
theorem dX9_basinOf_44 : decode cX9_basinOf 44 = .ok (.invokestatic 69, 3) := dz_184 (n := 32) (r := 12) hz_X9_basinOf_32 rfl rfl
theorem dX9_basinOf_47 : decode cX9_basinOf 47 = .ok (.ifCond .ne 12, 3) := dz_154 (n := 32) (r := 15) hz_X9_basinOf_32 rfl (by decide +kernel)
theorem dX9_basinOf_50 : decode cX9_basinOf 50 = .ok (.aload_n 0, 1) := dz_42 (n := 32) (r := 18) hz_X9_basinOf_32 rfl
theorem dX9_basinOf_51 : decode cX9_basinOf 51 = .ok (.getfield 9, 3) := dz_180 (n := 32) (r := 19) hz_X9_basinOf_32 rfl rfl
theorem dX9_basinOf_54 : decode cX9_basinOf 54 = .ok (.iload_n 3, 1) := dz_29 (n := 32) (r := 22) hz_X9_basinOf_32 rfl
theorem dX9_basinOf_55 : decode cX9_basinOf 55 = .ok (.iaload, 1) := dz_46 (n := 32) (r := 23) hz_X9_basinOf_32 rfl
theorem dX9_basinOf_56 : decode cX9_basinOf 56 = .ok (.goto 10, 3) := dz_167 (n := 32) (r := 24) hz_X9_basinOf_32 rfl (by decide +kernel)
theorem dX9_basinOf_59 : decode cX9_basinOf 59 = .ok (.aload_n 0, 1) := dz_42 (n := 32) (r := 27) hz_X9_basinOf_32 rfl
theorem dX9_basinOf_60 : decode cX9_basinOf 60 = .ok (.getfield 21, 3) := dz_180 (n := 32) (r := 28) hz_X9_basinOf_32 rfl rfl
theorem dX9_basinOf_63 : decode cX9_basinOf 63 = .ok (.iload 4, 2) := dz_21 (n := 32) (r := 31) hz_X9_basinOf_32 rfl rfl
theorem hz_X9_basinOf_64 : (cX9_basinOf.data.toList.drop 64).take 40 = [4, 46, 54, 5, 42, 180, 0, 9, 29, 46, 184, 0, 69, 153, 0, 16, 42, 180, 0, 21, 42, 180, 0, 9, 29, 46, 21, 5, 79, 28, 21, 5, 27, 160, 0, 7, 4, 167, 0, 4] := by decide +kernel
theorem dX9_basinOf_65 : decode cX9_basinOf 65 = .ok (.iaload, 1) := dz_46 (n := 64) (r := 1) hz_X9_basinOf_64 rfl
theorem dX9_basinOf_66 : decode cX9_basinOf 66 = .ok (.istore 5, 2) := dz_54 (n := 64) (r := 2) hz_X9_basinOf_64 rfl rfl
theorem dX9_basinOf_68 : decode cX9_basinOf 68 = .ok (.aload_n 0, 1) := dz_42 (n := 64) (r := 4) hz_X9_basinOf_64 rfl
theorem dX9_basinOf_69 : decode cX9_basinOf 69 = .ok (.getfield 9, 3) := dz_180 (n := 64) (r := 5) hz_X9_basinOf_64 rfl rfl
theorem dX9_basinOf_72 : decode cX9_basinOf 72 = .ok (.iload_n 3, 1) := dz_29 (n := 64) (r := 8) hz_X9_basinOf_64 rfl
theorem dX9_basinOf_73 : decode cX9_basinOf 73 = .ok (.iaload, 1) := dz_46 (n := 64) (r := 9) hz_X9_basinOf_64 rfl
theorem dX9_basinOf_74 : decode cX9_basinOf 74 = .ok (.invokestatic 69, 3) := dz_184 (n := 64) (r := 10) hz_X9_basinOf_64 rfl rfl
theorem dX9_basinOf_77 : decode cX9_basinOf 77 = .ok (.ifCond .eq 16, 3) := dz_153 (n := 64) (r := 13) hz_X9_basinOf_64 rfl (by decide +kernel)
theorem dX9_basinOf_80 : decode cX9_basinOf 80 = .ok (.aload_n 0, 1) := dz_42 (n := 64) (r := 16) hz_X9_basinOf_64 rfl
theorem dX9_basinOf_81 : decode cX9_basinOf 81 = .ok (.getfield 21, 3) := dz_180 (n := 64) (r := 17) hz_X9_basinOf_64 rfl rfl
theorem dX9_basinOf_84 : decode cX9_basinOf 84 = .ok (.aload_n 0, 1) := dz_42 (n := 64) (r := 20) hz_X9_basinOf_64 rfl
theorem dX9_basinOf_85 : decode cX9_basinOf 85 = .ok (.getfield 9, 3) := dz_180 (n := 64) (r := 21) hz_X9_basinOf_64 rfl rfl
theorem dX9_basinOf_88 : decode cX9_basinOf 88 = .ok (.iload_n 3, 1) := dz_29 (n := 64) (r := 24) hz_X9_basinOf_64 rfl
theorem dX9_basinOf_89 : decode cX9_basinOf 89 = .ok (.iaload, 1) := dz_46 (n := 64) (r := 25) hz_X9_basinOf_64 rfl
theorem dX9_basinOf_90 : decode cX9_basinOf 90 = .ok (.iload 5, 2) := dz_21 (n := 64) (r := 26) hz_X9_basinOf_64 rfl rfl
theorem dX9_basinOf_92 : decode cX9_basinOf 92 = .ok (.iastore, 1) := dz_79 (n := 64) (r := 28) hz_X9_basinOf_64 rfl
theorem dX9_basinOf_93 : decode cX9_basinOf 93 = .ok (.iload_n 2, 1) := dz_28 (n := 64) (r := 29) hz_X9_basinOf_64 rfl
theorem dX9_basinOf_94 : decode cX9_basinOf 94 = .ok (.iload 5, 2) := dz_21 (n := 64) (r := 30) hz_X9_basinOf_64 rfl rfl
theorem hz_X9_basinOf_96 : (cX9_basinOf.data.toList.drop 96).take 40 = [27, 160, 0, 7, 4, 167, 0, 4, 3, 96, 61, 132, 3, 1, 167, 255, 150, 28, 172] := by decide +kernel
theorem dX9_basinOf_96 : decode cX9_basinOf 96 = .ok (.iload_n 1, 1) := dz_27 (n := 96) (r := 0) hz_X9_basinOf_96 rfl
theorem dX9_basinOf_97 : decode cX9_basinOf 97 = .ok (.if_icmp .ne 7, 3) := dz_160 (n := 96) (r := 1) hz_X9_basinOf_96 rfl (by decide +kernel)
theorem dX9_basinOf_100 : decode cX9_basinOf 100 = .ok (.iconst 1, 1) := dz_4 (n := 96) (r := 4) hz_X9_basinOf_96 rfl
theorem dX9_basinOf_101 : decode cX9_basinOf 101 = .ok (.goto 4, 3) := dz_167 (n := 96) (r := 5) hz_X9_basinOf_96 rfl (by decide +kernel)
theorem dX9_basinOf_104 : decode cX9_basinOf 104 = .ok (.iconst 0, 1) := dz_3 (n := 96) (r := 8) hz_X9_basinOf_96 rfl
theorem dX9_basinOf_105 : decode cX9_basinOf 105 = .ok (.iadd, 1) := dz_96 (n := 96) (r := 9) hz_X9_basinOf_96 rfl
theorem dX9_basinOf_106 : decode cX9_basinOf 106 = .ok (.istore_n 2, 1) := dz_61 (n := 96) (r := 10) hz_X9_basinOf_96 rfl
theorem dX9_basinOf_107 : decode cX9_basinOf 107 = .ok (.iinc 3 1, 3) := dz_132 (n := 96) (r := 11) hz_X9_basinOf_96 rfl rfl rfl
theorem dX9_basinOf_110 : decode cX9_basinOf 110 = .ok (.goto (-106), 3) := dz_167 (n := 96) (r := 14) hz_X9_basinOf_96 rfl (by decide +kernel)
theorem dX9_basinOf_113 : decode cX9_basinOf 113 = .ok (.iload_n 2, 1) := dz_28 (n := 96) (r := 17) hz_X9_basinOf_96 rfl
theorem dX9_basinOf_114 : decode cX9_basinOf 114 = .ok (.ireturn, 1) := dz_172 (n := 96) (r := 18) hz_X9_basinOf_96 rfl
theorem hz_X9_steepestFrom_0 : (cX9_steepestFrom.data.toList.drop 0).take 40 = [27, 61, 3, 62, 29, 42, 180, 0, 40, 162, 0, 41, 27, 4, 29, 120, 130, 54, 4, 42, 29, 182, 0, 87, 153, 0, 20, 42, 21, 4, 182, 0, 100, 42, 28, 182, 0, 100, 162, 0] := by decide +kernel
theorem dX9_steepestFrom_0 : decode cX9_steepestFrom 0 = .ok (.iload_n 1, 1) := dz_27 (n := 0) (r := 0) hz_X9_steepestFrom_0 rfl
theorem dX9_steepestFrom_1 : decode cX9_steepestFrom 1 = .ok (.istore_n 2, 1) := dz_61 (n := 0) (r := 1) hz_X9_steepestFrom_0 rfl
theorem dX9_steepestFrom_2 : decode cX9_steepestFrom 2 = .ok (.iconst 0, 1) := dz_3 (n := 0) (r := 2) hz_X9_steepestFrom_0 rfl
theorem dX9_steepestFrom_3 : decode cX9_steepestFrom 3 = .ok (.istore_n 3, 1) := dz_62 (n := 0) (r := 3) hz_X9_steepestFrom_0 rfl
theorem dX9_steepestFrom_4 : decode cX9_steepestFrom 4 = .ok (.iload_n 3, 1) := dz_29 (n := 0) (r := 4) hz_X9_steepestFrom_0 rfl
theorem dX9_steepestFrom_5 : decode cX9_steepestFrom 5 = .ok (.aload_n 0, 1) := dz_42 (n := 0) (r := 5) hz_X9_steepestFrom_0 rfl
theorem dX9_steepestFrom_6 : decode cX9_steepestFrom 6 = .ok (.getfield 40, 3) := dz_180 (n := 0) (r := 6) hz_X9_steepestFrom_0 rfl rfl
theorem dX9_steepestFrom_9 : decode cX9_steepestFrom 9 = .ok (.if_icmp .ge 41, 3) := dz_162 (n := 0) (r := 9) hz_X9_steepestFrom_0 rfl (by decide +kernel)
theorem dX9_steepestFrom_12 : decode cX9_steepestFrom 12 = .ok (.iload_n 1, 1) := dz_27 (n := 0) (r := 12) hz_X9_steepestFrom_0 rfl
theorem dX9_steepestFrom_13 : decode cX9_steepestFrom 13 = .ok (.iconst 1, 1) := dz_4 (n := 0) (r := 13) hz_X9_steepestFrom_0 rfl
theorem dX9_steepestFrom_14 : decode cX9_steepestFrom 14 = .ok (.iload_n 3, 1) := dz_29 (n := 0) (r := 14) hz_X9_steepestFrom_0 rfl
theorem dX9_steepestFrom_15 : decode cX9_steepestFrom 15 = .ok (.ishl, 1) := dz_120 (n := 0) (r := 15) hz_X9_steepestFrom_0 rfl
theorem dX9_steepestFrom_16 : decode cX9_steepestFrom 16 = .ok (.ixor, 1) := dz_130 (n := 0) (r := 16) hz_X9_steepestFrom_0 rfl
theorem dX9_steepestFrom_17 : decode cX9_steepestFrom 17 = .ok (.istore 4, 2) := dz_54 (n := 0) (r := 17) hz_X9_steepestFrom_0 rfl rfl
theorem dX9_steepestFrom_19 : decode cX9_steepestFrom 19 = .ok (.aload_n 0, 1) := dz_42 (n := 0) (r := 19) hz_X9_steepestFrom_0 rfl
theorem dX9_steepestFrom_20 : decode cX9_steepestFrom 20 = .ok (.iload_n 3, 1) := dz_29 (n := 0) (r := 20) hz_X9_steepestFrom_0 rfl
theorem dX9_steepestFrom_21 : decode cX9_steepestFrom 21 = .ok (.invokevirtual 87, 3) := dz_182 (n := 0) (r := 21) hz_X9_steepestFrom_0 rfl rfl
theorem dX9_steepestFrom_24 : decode cX9_steepestFrom 24 = .ok (.ifCond .eq 20, 3) := dz_153 (n := 0) (r := 24) hz_X9_steepestFrom_0 rfl (by decide +kernel)
theorem dX9_steepestFrom_27 : decode cX9_steepestFrom 27 = .ok (.aload_n 0, 1) := dz_42 (n := 0) (r := 27) hz_X9_steepestFrom_0 rfl
theorem dX9_steepestFrom_28 : decode cX9_steepestFrom 28 = .ok (.iload 4, 2) := dz_21 (n := 0) (r := 28) hz_X9_steepestFrom_0 rfl rfl
theorem dX9_steepestFrom_30 : decode cX9_steepestFrom 30 = .ok (.invokevirtual 100, 3) := dz_182 (n := 0) (r := 30) hz_X9_steepestFrom_0 rfl rfl
theorem hz_X9_steepestFrom_32 : (cX9_steepestFrom.data.toList.drop 32).take 40 = [100, 42, 28, 182, 0, 100, 162, 0, 6, 21, 4, 61, 132, 3, 1, 167, 255, 213, 28, 172] := by decide +kernel
theorem dX9_steepestFrom_33 : decode cX9_steepestFrom 33 = .ok (.aload_n 0, 1) := dz_42 (n := 32) (r := 1) hz_X9_steepestFrom_32 rfl
theorem dX9_steepestFrom_34 : decode cX9_steepestFrom 34 = .ok (.iload_n 2, 1) := dz_28 (n := 32) (r := 2) hz_X9_steepestFrom_32 rfl
theorem dX9_steepestFrom_35 : decode cX9_steepestFrom 35 = .ok (.invokevirtual 100, 3) := dz_182 (n := 32) (r := 3) hz_X9_steepestFrom_32 rfl rfl
theorem dX9_steepestFrom_38 : decode cX9_steepestFrom 38 = .ok (.if_icmp .ge 6, 3) := dz_162 (n := 32) (r := 6) hz_X9_steepestFrom_32 rfl (by decide +kernel)
theorem dX9_steepestFrom_41 : decode cX9_steepestFrom 41 = .ok (.iload 4, 2) := dz_21 (n := 32) (r := 9) hz_X9_steepestFrom_32 rfl rfl
theorem dX9_steepestFrom_43 : decode cX9_steepestFrom 43 = .ok (.istore_n 2, 1) := dz_61 (n := 32) (r := 11) hz_X9_steepestFrom_32 rfl
theorem dX9_steepestFrom_44 : decode cX9_steepestFrom 44 = .ok (.iinc 3 1, 3) := dz_132 (n := 32) (r := 12) hz_X9_steepestFrom_32 rfl rfl rfl
theorem dX9_steepestFrom_47 : decode cX9_steepestFrom 47 = .ok (.goto (-43), 3) := dz_167 (n := 32) (r := 15) hz_X9_steepestFrom_32 rfl (by decide +kernel)
theorem dX9_steepestFrom_50 : decode cX9_steepestFrom 50 = .ok (.iload_n 2, 1) := dz_28 (n := 32) (r := 18) hz_X9_steepestFrom_32 rfl
theorem dX9_steepestFrom_51 : decode cX9_steepestFrom 51 = .ok (.ireturn, 1) := dz_172 (n := 32) (r := 19) hz_X9_steepestFrom_32 rfl
theorem hz_X9_waysDown_0 : (cX9_waysDown.data.toList.drop 0).take 40 = [3, 61, 28, 42, 180, 0, 43, 162, 0, 53, 28, 17, 4, 0, 162, 0, 46, 42, 180, 0, 9, 28, 46, 62, 42, 29, 182, 0, 111, 55, 4, 29, 27, 160, 0, 6, 22, 4, 173, 29] := by decide +kernel
theorem dX9_waysDown_0 : decode cX9_waysDown 0 = .ok (.iconst 0, 1) := dz_3 (n := 0) (r := 0) hz_X9_waysDown_0 rfl
theorem dX9_waysDown_1 : decode cX9_waysDown 1 = .ok (.istore_n 2, 1) := dz_61 (n := 0) (r := 1) hz_X9_waysDown_0 rfl
theorem dX9_waysDown_2 : decode cX9_waysDown 2 = .ok (.iload_n 2, 1) := dz_28 (n := 0) (r := 2) hz_X9_waysDown_0 rfl
theorem dX9_waysDown_3 : decode cX9_waysDown 3 = .ok (.aload_n 0, 1) := dz_42 (n := 0) (r := 3) hz_X9_waysDown_0 rfl
theorem dX9_waysDown_4 : decode cX9_waysDown 4 = .ok (.getfield 43, 3) := dz_180 (n := 0) (r := 4) hz_X9_waysDown_0 rfl rfl
theorem dX9_waysDown_7 : decode cX9_waysDown 7 = .ok (.if_icmp .ge 53, 3) := dz_162 (n := 0) (r := 7) hz_X9_waysDown_0 rfl (by decide +kernel)
theorem dX9_waysDown_10 : decode cX9_waysDown 10 = .ok (.iload_n 2, 1) := dz_28 (n := 0) (r := 10) hz_X9_waysDown_0 rfl
theorem dX9_waysDown_11 : decode cX9_waysDown 11 = .ok (.sipush 1024, 3) := dz_17 (n := 0) (r := 11) hz_X9_waysDown_0 rfl (by decide +kernel)
theorem dX9_waysDown_14 : decode cX9_waysDown 14 = .ok (.if_icmp .ge 46, 3) := dz_162 (n := 0) (r := 14) hz_X9_waysDown_0 rfl (by decide +kernel)
theorem dX9_waysDown_17 : decode cX9_waysDown 17 = .ok (.aload_n 0, 1) := dz_42 (n := 0) (r := 17) hz_X9_waysDown_0 rfl
theorem dX9_waysDown_18 : decode cX9_waysDown 18 = .ok (.getfield 9, 3) := dz_180 (n := 0) (r := 18) hz_X9_waysDown_0 rfl rfl
theorem dX9_waysDown_21 : decode cX9_waysDown 21 = .ok (.iload_n 2, 1) := dz_28 (n := 0) (r := 21) hz_X9_waysDown_0 rfl
theorem dX9_waysDown_22 : decode cX9_waysDown 22 = .ok (.iaload, 1) := dz_46 (n := 0) (r := 22) hz_X9_waysDown_0 rfl
theorem dX9_waysDown_23 : decode cX9_waysDown 23 = .ok (.istore_n 3, 1) := dz_62 (n := 0) (r := 23) hz_X9_waysDown_0 rfl
theorem dX9_waysDown_24 : decode cX9_waysDown 24 = .ok (.aload_n 0, 1) := dz_42 (n := 0) (r := 24) hz_X9_waysDown_0 rfl
theorem dX9_waysDown_25 : decode cX9_waysDown 25 = .ok (.iload_n 3, 1) := dz_29 (n := 0) (r := 25) hz_X9_waysDown_0 rfl
theorem dX9_waysDown_26 : decode cX9_waysDown 26 = .ok (.invokevirtual 111, 3) := dz_182 (n := 0) (r := 26) hz_X9_waysDown_0 rfl rfl
theorem dX9_waysDown_29 : decode cX9_waysDown 29 = .ok (.lstore 4, 2) := dz_55 (n := 0) (r := 29) hz_X9_waysDown_0 rfl rfl
theorem dX9_waysDown_31 : decode cX9_waysDown 31 = .ok (.iload_n 3, 1) := dz_29 (n := 0) (r := 31) hz_X9_waysDown_0 rfl
theorem hz_X9_waysDown_32 : (cX9_waysDown.data.toList.drop 32).take 40 = [27, 160, 0, 6, 22, 4, 173, 29, 184, 0, 69, 153, 0, 11, 42, 180, 0, 24, 29, 22, 4, 80, 132, 2, 1, 167, 255, 201, 20, 0, 115, 173] := by decide +kernel
theorem dX9_waysDown_32 : decode cX9_waysDown 32 = .ok (.iload_n 1, 1) := dz_27 (n := 32) (r := 0) hz_X9_waysDown_32 rfl
theorem dX9_waysDown_33 : decode cX9_waysDown 33 = .ok (.if_icmp .ne 6, 3) := dz_160 (n := 32) (r := 1) hz_X9_waysDown_32 rfl (by decide +kernel)
theorem dX9_waysDown_36 : decode cX9_waysDown 36 = .ok (.lload 4, 2) := dz_22 (n := 32) (r := 4) hz_X9_waysDown_32 rfl rfl
theorem dX9_waysDown_38 : decode cX9_waysDown 38 = .ok (.lreturn, 1) := dz_173 (n := 32) (r := 6) hz_X9_waysDown_32 rfl
theorem dX9_waysDown_39 : decode cX9_waysDown 39 = .ok (.iload_n 3, 1) := dz_29 (n := 32) (r := 7) hz_X9_waysDown_32 rfl
theorem dX9_waysDown_40 : decode cX9_waysDown 40 = .ok (.invokestatic 69, 3) := dz_184 (n := 32) (r := 8) hz_X9_waysDown_32 rfl rfl
theorem dX9_waysDown_43 : decode cX9_waysDown 43 = .ok (.ifCond .eq 11, 3) := dz_153 (n := 32) (r := 11) hz_X9_waysDown_32 rfl (by decide +kernel)
theorem dX9_waysDown_46 : decode cX9_waysDown 46 = .ok (.aload_n 0, 1) := dz_42 (n := 32) (r := 14) hz_X9_waysDown_32 rfl
theorem dX9_waysDown_47 : decode cX9_waysDown 47 = .ok (.getfield 24, 3) := dz_180 (n := 32) (r := 15) hz_X9_waysDown_32 rfl rfl
theorem dX9_waysDown_50 : decode cX9_waysDown 50 = .ok (.iload_n 3, 1) := dz_29 (n := 32) (r := 18) hz_X9_waysDown_32 rfl
theorem dX9_waysDown_51 : decode cX9_waysDown 51 = .ok (.lload 4, 2) := dz_22 (n := 32) (r := 19) hz_X9_waysDown_32 rfl rfl
theorem dX9_waysDown_53 : decode cX9_waysDown 53 = .ok (.lastore, 1) := dz_80 (n := 32) (r := 21) hz_X9_waysDown_32 rfl
theorem dX9_waysDown_54 : decode cX9_waysDown 54 = .ok (.iinc 2 1, 3) := dz_132 (n := 32) (r := 22) hz_X9_waysDown_32 rfl rfl rfl
theorem dX9_waysDown_57 : decode cX9_waysDown 57 = .ok (.goto (-55), 3) := dz_167 (n := 32) (r := 25) hz_X9_waysDown_32 rfl (by decide +kernel)
theorem dX9_waysDown_60 : decode cX9_waysDown 60 = .ok (.ldc2_w 115, 3) := dz_20 (n := 32) (r := 28) hz_X9_waysDown_32 rfl rfl
theorem dX9_waysDown_63 : decode cX9_waysDown 63 = .ok (.lreturn, 1) := dz_173 (n := 32) (r := 31) hz_X9_waysDown_32 rfl
theorem hz_X9_waysFrom_0 : (cX9_waysFrom.data.toList.drop 0).take 40 = [9, 65, 4, 54, 4, 3, 54, 5, 21, 5, 42, 180, 0, 40, 162, 0, 61, 27, 4, 21, 5, 120, 130, 54, 6, 42, 21, 5, 182, 0, 87, 153, 0, 38, 21, 6, 184, 0, 69, 153] := by decide +kernel
theorem dX9_waysFrom_0 : decode cX9_waysFrom 0 = .ok (.lconst 0, 1) := dz_9 (n := 0) (r := 0) hz_X9_waysFrom_0 rfl
theorem dX9_waysFrom_1 : decode cX9_waysFrom 1 = .ok (.lstore_n 2, 1) := dz_65 (n := 0) (r := 1) hz_X9_waysFrom_0 rfl
theorem dX9_waysFrom_2 : decode cX9_waysFrom 2 = .ok (.iconst 1, 1) := dz_4 (n := 0) (r := 2) hz_X9_waysFrom_0 rfl
theorem dX9_waysFrom_3 : decode cX9_waysFrom 3 = .ok (.istore 4, 2) := dz_54 (n := 0) (r := 3) hz_X9_waysFrom_0 rfl rfl
theorem dX9_waysFrom_5 : decode cX9_waysFrom 5 = .ok (.iconst 0, 1) := dz_3 (n := 0) (r := 5) hz_X9_waysFrom_0 rfl
theorem dX9_waysFrom_6 : decode cX9_waysFrom 6 = .ok (.istore 5, 2) := dz_54 (n := 0) (r := 6) hz_X9_waysFrom_0 rfl rfl
theorem dX9_waysFrom_8 : decode cX9_waysFrom 8 = .ok (.iload 5, 2) := dz_21 (n := 0) (r := 8) hz_X9_waysFrom_0 rfl rfl
theorem dX9_waysFrom_10 : decode cX9_waysFrom 10 = .ok (.aload_n 0, 1) := dz_42 (n := 0) (r := 10) hz_X9_waysFrom_0 rfl
theorem dX9_waysFrom_11 : decode cX9_waysFrom 11 = .ok (.getfield 40, 3) := dz_180 (n := 0) (r := 11) hz_X9_waysFrom_0 rfl rfl
theorem dX9_waysFrom_14 : decode cX9_waysFrom 14 = .ok (.if_icmp .ge 61, 3) := dz_162 (n := 0) (r := 14) hz_X9_waysFrom_0 rfl (by decide +kernel)
theorem dX9_waysFrom_17 : decode cX9_waysFrom 17 = .ok (.iload_n 1, 1) := dz_27 (n := 0) (r := 17) hz_X9_waysFrom_0 rfl
theorem dX9_waysFrom_18 : decode cX9_waysFrom 18 = .ok (.iconst 1, 1) := dz_4 (n := 0) (r := 18) hz_X9_waysFrom_0 rfl
theorem dX9_waysFrom_19 : decode cX9_waysFrom 19 = .ok (.iload 5, 2) := dz_21 (n := 0) (r := 19) hz_X9_waysFrom_0 rfl rfl
theorem dX9_waysFrom_21 : decode cX9_waysFrom 21 = .ok (.ishl, 1) := dz_120 (n := 0) (r := 21) hz_X9_waysFrom_0 rfl
theorem dX9_waysFrom_22 : decode cX9_waysFrom 22 = .ok (.ixor, 1) := dz_130 (n := 0) (r := 22) hz_X9_waysFrom_0 rfl
theorem dX9_waysFrom_23 : decode cX9_waysFrom 23 = .ok (.istore 6, 2) := dz_54 (n := 0) (r := 23) hz_X9_waysFrom_0 rfl rfl
theorem dX9_waysFrom_25 : decode cX9_waysFrom 25 = .ok (.aload_n 0, 1) := dz_42 (n := 0) (r := 25) hz_X9_waysFrom_0 rfl
theorem dX9_waysFrom_26 : decode cX9_waysFrom 26 = .ok (.iload 5, 2) := dz_21 (n := 0) (r := 26) hz_X9_waysFrom_0 rfl rfl
theorem dX9_waysFrom_28 : decode cX9_waysFrom 28 = .ok (.invokevirtual 87, 3) := dz_182 (n := 0) (r := 28) hz_X9_waysFrom_0 rfl rfl
theorem dX9_waysFrom_31 : decode cX9_waysFrom 31 = .ok (.ifCond .eq 38, 3) := dz_153 (n := 0) (r := 31) hz_X9_waysFrom_0 rfl (by decide +kernel)
theorem hz_X9_waysFrom_32 : (cX9_waysFrom.data.toList.drop 32).take 40 = [0, 38, 21, 6, 184, 0, 69, 153, 0, 30, 42, 21, 6, 182, 0, 100, 42, 27, 182, 0, 100, 162, 0, 16, 32, 42, 180, 0, 24, 21, 6, 47, 97, 65, 3, 54, 4, 132, 5, 1] := by decide +kernel
theorem dX9_waysFrom_34 : decode cX9_waysFrom 34 = .ok (.iload 6, 2) := dz_21 (n := 32) (r := 2) hz_X9_waysFrom_32 rfl rfl
theorem dX9_waysFrom_36 : decode cX9_waysFrom 36 = .ok (.invokestatic 69, 3) := dz_184 (n := 32) (r := 4) hz_X9_waysFrom_32 rfl rfl
theorem dX9_waysFrom_39 : decode cX9_waysFrom 39 = .ok (.ifCond .eq 30, 3) := dz_153 (n := 32) (r := 7) hz_X9_waysFrom_32 rfl (by decide +kernel)
theorem dX9_waysFrom_42 : decode cX9_waysFrom 42 = .ok (.aload_n 0, 1) := dz_42 (n := 32) (r := 10) hz_X9_waysFrom_32 rfl
theorem dX9_waysFrom_43 : decode cX9_waysFrom 43 = .ok (.iload 6, 2) := dz_21 (n := 32) (r := 11) hz_X9_waysFrom_32 rfl rfl
theorem dX9_waysFrom_45 : decode cX9_waysFrom 45 = .ok (.invokevirtual 100, 3) := dz_182 (n := 32) (r := 13) hz_X9_waysFrom_32 rfl rfl
theorem dX9_waysFrom_48 : decode cX9_waysFrom 48 = .ok (.aload_n 0, 1) := dz_42 (n := 32) (r := 16) hz_X9_waysFrom_32 rfl
theorem dX9_waysFrom_49 : decode cX9_waysFrom 49 = .ok (.iload_n 1, 1) := dz_27 (n := 32) (r := 17) hz_X9_waysFrom_32 rfl
theorem dX9_waysFrom_50 : decode cX9_waysFrom 50 = .ok (.invokevirtual 100, 3) := dz_182 (n := 32) (r := 18) hz_X9_waysFrom_32 rfl rfl
theorem dX9_waysFrom_53 : decode cX9_waysFrom 53 = .ok (.if_icmp .ge 16, 3) := dz_162 (n := 32) (r := 21) hz_X9_waysFrom_32 rfl (by decide +kernel)
theorem dX9_waysFrom_56 : decode cX9_waysFrom 56 = .ok (.lload_n 2, 1) := dz_32 (n := 32) (r := 24) hz_X9_waysFrom_32 rfl
theorem dX9_waysFrom_57 : decode cX9_waysFrom 57 = .ok (.aload_n 0, 1) := dz_42 (n := 32) (r := 25) hz_X9_waysFrom_32 rfl
theorem dX9_waysFrom_58 : decode cX9_waysFrom 58 = .ok (.getfield 24, 3) := dz_180 (n := 32) (r := 26) hz_X9_waysFrom_32 rfl rfl
theorem dX9_waysFrom_61 : decode cX9_waysFrom 61 = .ok (.iload 6, 2) := dz_21 (n := 32) (r := 29) hz_X9_waysFrom_32 rfl rfl
theorem dX9_waysFrom_63 : decode cX9_waysFrom 63 = .ok (.laload, 1) := dz_47 (n := 32) (r := 31) hz_X9_waysFrom_32 rfl
theorem hz_X9_waysFrom_64 : (cX9_waysFrom.data.toList.drop 64).take 40 = [97, 65, 3, 54, 4, 132, 5, 1, 167, 255, 192, 21, 4, 153, 0, 7, 10, 167, 0, 4, 32, 173] := by decide +kernel
theorem dX9_waysFrom_64 : decode cX9_waysFrom 64 = .ok (.ladd, 1) := dz_97 (n := 64) (r := 0) hz_X9_waysFrom_64 rfl
theorem dX9_waysFrom_65 : decode cX9_waysFrom 65 = .ok (.lstore_n 2, 1) := dz_65 (n := 64) (r := 1) hz_X9_waysFrom_64 rfl
theorem dX9_waysFrom_66 : decode cX9_waysFrom 66 = .ok (.iconst 0, 1) := dz_3 (n := 64) (r := 2) hz_X9_waysFrom_64 rfl
theorem dX9_waysFrom_67 : decode cX9_waysFrom 67 = .ok (.istore 4, 2) := dz_54 (n := 64) (r := 3) hz_X9_waysFrom_64 rfl rfl
theorem dX9_waysFrom_69 : decode cX9_waysFrom 69 = .ok (.iinc 5 1, 3) := dz_132 (n := 64) (r := 5) hz_X9_waysFrom_64 rfl rfl rfl
theorem dX9_waysFrom_72 : decode cX9_waysFrom 72 = .ok (.goto (-64), 3) := dz_167 (n := 64) (r := 8) hz_X9_waysFrom_64 rfl (by decide +kernel)
theorem dX9_waysFrom_75 : decode cX9_waysFrom 75 = .ok (.iload 4, 2) := dz_21 (n := 64) (r := 11) hz_X9_waysFrom_64 rfl rfl
theorem dX9_waysFrom_77 : decode cX9_waysFrom 77 = .ok (.ifCond .eq 7, 3) := dz_153 (n := 64) (r := 13) hz_X9_waysFrom_64 rfl (by decide +kernel)
theorem dX9_waysFrom_80 : decode cX9_waysFrom 80 = .ok (.lconst 1, 1) := dz_10 (n := 64) (r := 16) hz_X9_waysFrom_64 rfl
theorem dX9_waysFrom_81 : decode cX9_waysFrom 81 = .ok (.goto 4, 3) := dz_167 (n := 64) (r := 17) hz_X9_waysFrom_64 rfl (by decide +kernel)
theorem dX9_waysFrom_84 : decode cX9_waysFrom 84 = .ok (.lload_n 2, 1) := dz_32 (n := 64) (r := 20) hz_X9_waysFrom_64 rfl
theorem dX9_waysFrom_85 : decode cX9_waysFrom 85 = .ok (.lreturn, 1) := dz_173 (n := 64) (r := 21) hz_X9_waysFrom_64 rfl
theorem hz_X10_init_0 : (cX10_init.data.toList.drop 0).take 40 = [42, 183, 0, 3, 177] := by decide +kernel
theorem dX10_init_0 : decode cX10_init 0 = .ok (.aload_n 0, 1) := dz_42 (n := 0) (r := 0) hz_X10_init_0 rfl
theorem dX10_init_1 : decode cX10_init 1 = .ok (.invokespecial 3, 3) := dz_183 (n := 0) (r := 1) hz_X10_init_0 rfl rfl
theorem dX10_init_4 : decode cX10_init 4 = .ok (.return_, 1) := dz_177 (n := 0) (r := 4) hz_X10_init_0 rfl
theorem hz_X10_fallFrom_0 : (cX10_fallFrom.data.toList.drop 0).take 40 = [42, 29, 181, 0, 9, 42, 3, 181, 0, 15, 43, 44, 42, 180, 0, 9, 182, 0, 18, 54, 4, 3, 54, 5, 21, 5, 17, 1, 33, 162, 0, 49, 21, 4, 2, 159, 0, 43, 42, 89] := by decide +kernel
theorem dX10_fallFrom_0 : decode cX10_fallFrom 0 = .ok (.aload_n 0, 1) := dz_42 (n := 0) (r := 0) hz_X10_fallFrom_0 rfl
theorem dX10_fallFrom_1 : decode cX10_fallFrom 1 = .ok (.iload_n 3, 1) := dz_29 (n := 0) (r := 1) hz_X10_fallFrom_0 rfl
theorem dX10_fallFrom_2 : decode cX10_fallFrom 2 = .ok (.putfield 9, 3) := dz_181 (n := 0) (r := 2) hz_X10_fallFrom_0 rfl rfl
theorem dX10_fallFrom_5 : decode cX10_fallFrom 5 = .ok (.aload_n 0, 1) := dz_42 (n := 0) (r := 5) hz_X10_fallFrom_0 rfl
theorem dX10_fallFrom_6 : decode cX10_fallFrom 6 = .ok (.iconst 0, 1) := dz_3 (n := 0) (r := 6) hz_X10_fallFrom_0 rfl
theorem dX10_fallFrom_7 : decode cX10_fallFrom 7 = .ok (.putfield 15, 3) := dz_181 (n := 0) (r := 7) hz_X10_fallFrom_0 rfl rfl
theorem dX10_fallFrom_10 : decode cX10_fallFrom 10 = .ok (.aload_n 1, 1) := dz_43 (n := 0) (r := 10) hz_X10_fallFrom_0 rfl
theorem dX10_fallFrom_11 : decode cX10_fallFrom 11 = .ok (.aload_n 2, 1) := dz_44 (n := 0) (r := 11) hz_X10_fallFrom_0 rfl
theorem dX10_fallFrom_12 : decode cX10_fallFrom 12 = .ok (.aload_n 0, 1) := dz_42 (n := 0) (r := 12) hz_X10_fallFrom_0 rfl
theorem dX10_fallFrom_13 : decode cX10_fallFrom 13 = .ok (.getfield 9, 3) := dz_180 (n := 0) (r := 13) hz_X10_fallFrom_0 rfl rfl
theorem dX10_fallFrom_16 : decode cX10_fallFrom 16 = .ok (.invokevirtual 18, 3) := dz_182 (n := 0) (r := 16) hz_X10_fallFrom_0 rfl rfl
theorem dX10_fallFrom_19 : decode cX10_fallFrom 19 = .ok (.istore 4, 2) := dz_54 (n := 0) (r := 19) hz_X10_fallFrom_0 rfl rfl
theorem dX10_fallFrom_21 : decode cX10_fallFrom 21 = .ok (.iconst 0, 1) := dz_3 (n := 0) (r := 21) hz_X10_fallFrom_0 rfl
theorem dX10_fallFrom_22 : decode cX10_fallFrom 22 = .ok (.istore 5, 2) := dz_54 (n := 0) (r := 22) hz_X10_fallFrom_0 rfl rfl
theorem dX10_fallFrom_24 : decode cX10_fallFrom 24 = .ok (.iload 5, 2) := dz_21 (n := 0) (r := 24) hz_X10_fallFrom_0 rfl rfl
theorem dX10_fallFrom_26 : decode cX10_fallFrom 26 = .ok (.sipush 289, 3) := dz_17 (n := 0) (r := 26) hz_X10_fallFrom_0 rfl (by decide +kernel)
theorem dX10_fallFrom_29 : decode cX10_fallFrom 29 = .ok (.if_icmp .ge 49, 3) := dz_162 (n := 0) (r := 29) hz_X10_fallFrom_0 rfl (by decide +kernel)
theorem hz_X10_fallFrom_32 : (cX10_fallFrom.data.toList.drop 32).take 40 = [21, 4, 2, 159, 0, 43, 42, 89, 180, 0, 9, 4, 21, 4, 120, 130, 181, 0, 9, 42, 89, 180, 0, 15, 4, 96, 181, 0, 15, 43, 44, 42, 180, 0, 9, 182, 0, 18, 54, 4] := by decide +kernel
theorem dX10_fallFrom_32 : decode cX10_fallFrom 32 = .ok (.iload 4, 2) := dz_21 (n := 32) (r := 0) hz_X10_fallFrom_32 rfl rfl
theorem dX10_fallFrom_34 : decode cX10_fallFrom 34 = .ok (.iconst (-1), 1) := dz_2 (n := 32) (r := 2) hz_X10_fallFrom_32 rfl
theorem dX10_fallFrom_35 : decode cX10_fallFrom 35 = .ok (.if_icmp .eq 43, 3) := dz_159 (n := 32) (r := 3) hz_X10_fallFrom_32 rfl (by decide +kernel)
theorem dX10_fallFrom_38 : decode cX10_fallFrom 38 = .ok (.aload_n 0, 1) := dz_42 (n := 32) (r := 6) hz_X10_fallFrom_32 rfl
theorem dX10_fallFrom_39 : decode cX10_fallFrom 39 = .ok (.dup, 1) := dz_89 (n := 32) (r := 7) hz_X10_fallFrom_32 rfl
theorem dX10_fallFrom_40 : decode cX10_fallFrom 40 = .ok (.getfield 9, 3) := dz_180 (n := 32) (r := 8) hz_X10_fallFrom_32 rfl rfl
theorem dX10_fallFrom_43 : decode cX10_fallFrom 43 = .ok (.iconst 1, 1) := dz_4 (n := 32) (r := 11) hz_X10_fallFrom_32 rfl
theorem dX10_fallFrom_44 : decode cX10_fallFrom 44 = .ok (.iload 4, 2) := dz_21 (n := 32) (r := 12) hz_X10_fallFrom_32 rfl rfl
