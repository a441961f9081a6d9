theorem dX12_levelOf_14 : decode cX12_levelOf 14 = .ok (.if_icmp .eq 9, 3) := dz_159 (n := 0) (r := 14) hz_X12_levelOf_0 rfl (by decide +kernel)
theorem dX12_levelOf_17 : decode cX12_levelOf 17 = .ok (.iinc 2 1, 3) := dz_132 (n := 0) (r := 17) hz_X12_levelOf_0 rfl rfl rfl
theorem dX12_levelOf_20 : decode cX12_levelOf 20 = .ok (.goto (-18), 3) := dz_167 (n := 0) (r := 20) hz_X12_levelOf_0 rfl (by decide +kernel)
theorem dX12_levelOf_23 : decode cX12_levelOf 23 = .ok (.iload_n 2, 1) := dz_28 (n := 0) (r := 23) hz_X12_levelOf_0 rfl
theorem dX12_levelOf_24 : decode cX12_levelOf 24 = .ok (.ireturn, 1) := dz_172 (n := 0) (r := 24) hz_X12_levelOf_0 rfl
theorem hz_X12_state_0 : (cX12_state.data.toList.drop 0).take 40 = [42, 27, 182, 1, 25, 154, 0, 7, 19, 1, 32, 172, 42, 182, 1, 5, 28, 170, 0, 0, 0, 0, 0, 84, 0, 0, 0, 0, 0, 0, 0, 5, 0, 0, 0, 39, 0, 0, 0, 46] := by decide +kernel
theorem dX12_state_0 : decode cX12_state 0 = .ok (.aload_n 0, 1) := dz_42 (n := 0) (r := 0) hz_X12_state_0 rfl
theorem dX12_state_1 : decode cX12_state 1 = .ok (.iload_n 1, 1) := dz_27 (n := 0) (r := 1) hz_X12_state_0 rfl
theorem dX12_state_2 : decode cX12_state 2 = .ok (.invokevirtual 281, 3) := dz_182 (n := 0) (r := 2) hz_X12_state_0 rfl rfl
theorem dX12_state_5 : decode cX12_state 5 = .ok (.ifCond .ne 7, 3) := dz_154 (n := 0) (r := 5) hz_X12_state_0 rfl (by decide +kernel)
theorem dX12_state_8 : decode cX12_state 8 = .ok (.ldc_w 288, 3) := dz_19 (n := 0) (r := 8) hz_X12_state_0 rfl rfl
theorem dX12_state_11 : decode cX12_state 11 = .ok (.ireturn, 1) := dz_172 (n := 0) (r := 11) hz_X12_state_0 rfl
theorem dX12_state_12 : decode cX12_state 12 = .ok (.aload_n 0, 1) := dz_42 (n := 0) (r := 12) hz_X12_state_0 rfl
theorem dX12_state_13 : decode cX12_state 13 = .ok (.invokevirtual 261, 3) := dz_182 (n := 0) (r := 13) hz_X12_state_0 rfl rfl
theorem dX12_state_16 : decode cX12_state 16 = .ok (.iload_n 2, 1) := dz_28 (n := 0) (r := 16) hz_X12_state_0 rfl
theorem dX12_state_17 : decode cX12_state 17 = .ok (.tableswitch 84 0 5 #[39, 46, 52, 66, 72, 78], 39) := by decide +kernel
theorem hz_X12_state_32 : (cX12_state.data.toList.drop 32).take 40 = [0, 0, 0, 39, 0, 0, 0, 46, 0, 0, 0, 52, 0, 0, 0, 66, 0, 0, 0, 72, 0, 0, 0, 78, 42, 180, 0, 57, 27, 46, 172, 42, 27, 182, 1, 49, 172, 42, 27, 182] := by decide +kernel
theorem dX12_state_56 : decode cX12_state 56 = .ok (.aload_n 0, 1) := dz_42 (n := 32) (r := 24) hz_X12_state_32 rfl
theorem dX12_state_57 : decode cX12_state 57 = .ok (.getfield 57, 3) := dz_180 (n := 32) (r := 25) hz_X12_state_32 rfl rfl
theorem dX12_state_60 : decode cX12_state 60 = .ok (.iload_n 1, 1) := dz_27 (n := 32) (r := 28) hz_X12_state_32 rfl
theorem dX12_state_61 : decode cX12_state 61 = .ok (.iaload, 1) := dz_46 (n := 32) (r := 29) hz_X12_state_32 rfl
theorem dX12_state_62 : decode cX12_state 62 = .ok (.ireturn, 1) := dz_172 (n := 32) (r := 30) hz_X12_state_32 rfl
theorem dX12_state_63 : decode cX12_state 63 = .ok (.aload_n 0, 1) := dz_42 (n := 32) (r := 31) hz_X12_state_32 rfl
theorem hz_X12_state_64 : (cX12_state.data.toList.drop 64).take 40 = [27, 182, 1, 49, 172, 42, 27, 182, 1, 65, 156, 0, 7, 4, 167, 0, 4, 3, 172, 42, 27, 182, 1, 11, 172, 42, 27, 182, 1, 8, 172, 42, 27, 182, 1, 68, 172, 19, 1, 32] := by decide +kernel
theorem dX12_state_64 : decode cX12_state 64 = .ok (.iload_n 1, 1) := dz_27 (n := 64) (r := 0) hz_X12_state_64 rfl
theorem dX12_state_65 : decode cX12_state 65 = .ok (.invokevirtual 305, 3) := dz_182 (n := 64) (r := 1) hz_X12_state_64 rfl rfl
theorem dX12_state_68 : decode cX12_state 68 = .ok (.ireturn, 1) := dz_172 (n := 64) (r := 4) hz_X12_state_64 rfl
theorem dX12_state_69 : decode cX12_state 69 = .ok (.aload_n 0, 1) := dz_42 (n := 64) (r := 5) hz_X12_state_64 rfl
theorem dX12_state_70 : decode cX12_state 70 = .ok (.iload_n 1, 1) := dz_27 (n := 64) (r := 6) hz_X12_state_64 rfl
theorem dX12_state_71 : decode cX12_state 71 = .ok (.invokevirtual 321, 3) := dz_182 (n := 64) (r := 7) hz_X12_state_64 rfl rfl
theorem dX12_state_74 : decode cX12_state 74 = .ok (.ifCond .ge 7, 3) := dz_156 (n := 64) (r := 10) hz_X12_state_64 rfl (by decide +kernel)
theorem dX12_state_77 : decode cX12_state 77 = .ok (.iconst 1, 1) := dz_4 (n := 64) (r := 13) hz_X12_state_64 rfl
theorem dX12_state_78 : decode cX12_state 78 = .ok (.goto 4, 3) := dz_167 (n := 64) (r := 14) hz_X12_state_64 rfl (by decide +kernel)
theorem dX12_state_81 : decode cX12_state 81 = .ok (.iconst 0, 1) := dz_3 (n := 64) (r := 17) hz_X12_state_64 rfl
theorem dX12_state_82 : decode cX12_state 82 = .ok (.ireturn, 1) := dz_172 (n := 64) (r := 18) hz_X12_state_64 rfl
theorem dX12_state_83 : decode cX12_state 83 = .ok (.aload_n 0, 1) := dz_42 (n := 64) (r := 19) hz_X12_state_64 rfl
theorem dX12_state_84 : decode cX12_state 84 = .ok (.iload_n 1, 1) := dz_27 (n := 64) (r := 20) hz_X12_state_64 rfl
theorem dX12_state_85 : decode cX12_state 85 = .ok (.invokevirtual 267, 3) := dz_182 (n := 64) (r := 21) hz_X12_state_64 rfl rfl
theorem dX12_state_88 : decode cX12_state 88 = .ok (.ireturn, 1) := dz_172 (n := 64) (r := 24) hz_X12_state_64 rfl
theorem dX12_state_89 : decode cX12_state 89 = .ok (.aload_n 0, 1) := dz_42 (n := 64) (r := 25) hz_X12_state_64 rfl
theorem dX12_state_90 : decode cX12_state 90 = .ok (.iload_n 1, 1) := dz_27 (n := 64) (r := 26) hz_X12_state_64 rfl
theorem dX12_state_91 : decode cX12_state 91 = .ok (.invokevirtual 264, 3) := dz_182 (n := 64) (r := 27) hz_X12_state_64 rfl rfl
theorem dX12_state_94 : decode cX12_state 94 = .ok (.ireturn, 1) := dz_172 (n := 64) (r := 30) hz_X12_state_64 rfl
theorem dX12_state_95 : decode cX12_state 95 = .ok (.aload_n 0, 1) := dz_42 (n := 64) (r := 31) hz_X12_state_64 rfl
theorem hz_X12_state_96 : (cX12_state.data.toList.drop 96).take 40 = [27, 182, 1, 68, 172, 19, 1, 32, 172] := by decide +kernel
theorem dX12_state_96 : decode cX12_state 96 = .ok (.iload_n 1, 1) := dz_27 (n := 96) (r := 0) hz_X12_state_96 rfl
theorem dX12_state_97 : decode cX12_state 97 = .ok (.invokevirtual 324, 3) := dz_182 (n := 96) (r := 1) hz_X12_state_96 rfl rfl
theorem dX12_state_100 : decode cX12_state 100 = .ok (.ireturn, 1) := dz_172 (n := 96) (r := 4) hz_X12_state_96 rfl
theorem dX12_state_101 : decode cX12_state 101 = .ok (.ldc_w 288, 3) := dz_19 (n := 96) (r := 5) hz_X12_state_96 rfl rfl
theorem dX12_state_104 : decode cX12_state 104 = .ok (.ireturn, 1) := dz_172 (n := 96) (r := 8) hz_X12_state_96 rfl
theorem hz_X12_stuck_0 : (cX12_stuck.data.toList.drop 0).take 40 = [42, 182, 1, 5, 3, 61, 3, 62, 29, 42, 182, 1, 14, 162, 0, 51, 42, 180, 0, 57, 29, 46, 19, 1, 28, 162, 0, 33, 27, 153, 0, 18, 42, 180, 0, 57, 29, 46, 42, 180] := by decide +kernel
theorem dX12_stuck_0 : decode cX12_stuck 0 = .ok (.aload_n 0, 1) := dz_42 (n := 0) (r := 0) hz_X12_stuck_0 rfl
theorem dX12_stuck_1 : decode cX12_stuck 1 = .ok (.invokevirtual 261, 3) := dz_182 (n := 0) (r := 1) hz_X12_stuck_0 rfl rfl
theorem dX12_stuck_4 : decode cX12_stuck 4 = .ok (.iconst 0, 1) := dz_3 (n := 0) (r := 4) hz_X12_stuck_0 rfl
theorem dX12_stuck_5 : decode cX12_stuck 5 = .ok (.istore_n 2, 1) := dz_61 (n := 0) (r := 5) hz_X12_stuck_0 rfl
theorem dX12_stuck_6 : decode cX12_stuck 6 = .ok (.iconst 0, 1) := dz_3 (n := 0) (r := 6) hz_X12_stuck_0 rfl
theorem dX12_stuck_7 : decode cX12_stuck 7 = .ok (.istore_n 3, 1) := dz_62 (n := 0) (r := 7) hz_X12_stuck_0 rfl
theorem dX12_stuck_8 : decode cX12_stuck 8 = .ok (.iload_n 3, 1) := dz_29 (n := 0) (r := 8) hz_X12_stuck_0 rfl
theorem dX12_stuck_9 : decode cX12_stuck 9 = .ok (.aload_n 0, 1) := dz_42 (n := 0) (r := 9) hz_X12_stuck_0 rfl
theorem dX12_stuck_10 : decode cX12_stuck 10 = .ok (.invokevirtual 270, 3) := dz_182 (n := 0) (r := 10) hz_X12_stuck_0 rfl rfl
theorem dX12_stuck_13 : decode cX12_stuck 13 = .ok (.if_icmp .ge 51, 3) := dz_162 (n := 0) (r := 13) hz_X12_stuck_0 rfl (by decide +kernel)
theorem dX12_stuck_16 : decode cX12_stuck 16 = .ok (.aload_n 0, 1) := dz_42 (n := 0) (r := 16) hz_X12_stuck_0 rfl
theorem dX12_stuck_17 : decode cX12_stuck 17 = .ok (.getfield 57, 3) := dz_180 (n := 0) (r := 17) hz_X12_stuck_0 rfl rfl
theorem dX12_stuck_20 : decode cX12_stuck 20 = .ok (.iload_n 3, 1) := dz_29 (n := 0) (r := 20) hz_X12_stuck_0 rfl
theorem dX12_stuck_21 : decode cX12_stuck 21 = .ok (.iaload, 1) := dz_46 (n := 0) (r := 21) hz_X12_stuck_0 rfl
theorem dX12_stuck_22 : decode cX12_stuck 22 = .ok (.ldc_w 284, 3) := dz_19 (n := 0) (r := 22) hz_X12_stuck_0 rfl rfl
theorem dX12_stuck_25 : decode cX12_stuck 25 = .ok (.if_icmp .ge 33, 3) := dz_162 (n := 0) (r := 25) hz_X12_stuck_0 rfl (by decide +kernel)
theorem dX12_stuck_28 : decode cX12_stuck 28 = .ok (.iload_n 1, 1) := dz_27 (n := 0) (r := 28) hz_X12_stuck_0 rfl
theorem dX12_stuck_29 : decode cX12_stuck 29 = .ok (.ifCond .eq 18, 3) := dz_153 (n := 0) (r := 29) hz_X12_stuck_0 rfl (by decide +kernel)
theorem hz_X12_stuck_32 : (cX12_stuck.data.toList.drop 32).take 40 = [42, 180, 0, 57, 29, 46, 42, 180, 0, 63, 3, 46, 164, 0, 14, 42, 29, 182, 1, 65, 156, 0, 6, 132, 2, 1, 132, 3, 1, 167, 255, 203, 28, 172] := by decide +kernel
theorem dX12_stuck_32 : decode cX12_stuck 32 = .ok (.aload_n 0, 1) := dz_42 (n := 32) (r := 0) hz_X12_stuck_32 rfl
theorem dX12_stuck_33 : decode cX12_stuck 33 = .ok (.getfield 57, 3) := dz_180 (n := 32) (r := 1) hz_X12_stuck_32 rfl rfl
theorem dX12_stuck_36 : decode cX12_stuck 36 = .ok (.iload_n 3, 1) := dz_29 (n := 32) (r := 4) hz_X12_stuck_32 rfl
theorem dX12_stuck_37 : decode cX12_stuck 37 = .ok (.iaload, 1) := dz_46 (n := 32) (r := 5) hz_X12_stuck_32 rfl
theorem dX12_stuck_38 : decode cX12_stuck 38 = .ok (.aload_n 0, 1) := dz_42 (n := 32) (r := 6) hz_X12_stuck_32 rfl
theorem dX12_stuck_39 : decode cX12_stuck 39 = .ok (.getfield 63, 3) := dz_180 (n := 32) (r := 7) hz_X12_stuck_32 rfl rfl
theorem dX12_stuck_42 : decode cX12_stuck 42 = .ok (.iconst 0, 1) := dz_3 (n := 32) (r := 10) hz_X12_stuck_32 rfl
theorem dX12_stuck_43 : decode cX12_stuck 43 = .ok (.iaload, 1) := dz_46 (n := 32) (r := 11) hz_X12_stuck_32 rfl
theorem dX12_stuck_44 : decode cX12_stuck 44 = .ok (.if_icmp .le 14, 3) := dz_164 (n := 32) (r := 12) hz_X12_stuck_32 rfl (by decide +kernel)
theorem dX12_stuck_47 : decode cX12_stuck 47 = .ok (.aload_n 0, 1) := dz_42 (n := 32) (r := 15) hz_X12_stuck_32 rfl
theorem dX12_stuck_48 : decode cX12_stuck 48 = .ok (.iload_n 3, 1) := dz_29 (n := 32) (r := 16) hz_X12_stuck_32 rfl
theorem dX12_stuck_49 : decode cX12_stuck 49 = .ok (.invokevirtual 321, 3) := dz_182 (n := 32) (r := 17) hz_X12_stuck_32 rfl rfl
theorem dX12_stuck_52 : decode cX12_stuck 52 = .ok (.ifCond .ge 6, 3) := dz_156 (n := 32) (r := 20) hz_X12_stuck_32 rfl (by decide +kernel)
theorem dX12_stuck_55 : decode cX12_stuck 55 = .ok (.iinc 2 1, 3) := dz_132 (n := 32) (r := 23) hz_X12_stuck_32 rfl rfl rfl
theorem dX12_stuck_58 : decode cX12_stuck 58 = .ok (.iinc 3 1, 3) := dz_132 (n := 32) (r := 26) hz_X12_stuck_32 rfl rfl rfl
theorem dX12_stuck_61 : decode cX12_stuck 61 = .ok (.goto (-53), 3) := dz_167 (n := 32) (r := 29) hz_X12_stuck_32 rfl (by decide +kernel)
theorem hz_X12_stuck_64 : (cX12_stuck.data.toList.drop 64).take 40 = [28, 172] := by decide +kernel
theorem dX12_stuck_64 : decode cX12_stuck 64 = .ok (.iload_n 2, 1) := dz_28 (n := 64) (r := 0) hz_X12_stuck_64 rfl
theorem dX12_stuck_65 : decode cX12_stuck 65 = .ok (.ireturn, 1) := dz_172 (n := 64) (r := 1) hz_X12_stuck_64 rfl
theorem hz_X12_basin_0 : (cX12_basin.data.toList.drop 0).take 40 = [42, 27, 182, 1, 25, 153, 0, 12, 42, 182, 0, 193, 16, 10, 164, 0, 7, 19, 1, 32, 172, 42, 182, 1, 5, 3, 61, 3, 62, 29, 42, 182, 1, 14, 162, 0, 33, 42, 180, 0] := by decide +kernel
theorem dX12_basin_0 : decode cX12_basin 0 = .ok (.aload_n 0, 1) := dz_42 (n := 0) (r := 0) hz_X12_basin_0 rfl
theorem dX12_basin_1 : decode cX12_basin 1 = .ok (.iload_n 1, 1) := dz_27 (n := 0) (r := 1) hz_X12_basin_0 rfl
theorem dX12_basin_2 : decode cX12_basin 2 = .ok (.invokevirtual 281, 3) := dz_182 (n := 0) (r := 2) hz_X12_basin_0 rfl rfl
theorem dX12_basin_5 : decode cX12_basin 5 = .ok (.ifCond .eq 12, 3) := dz_153 (n := 0) (r := 5) hz_X12_basin_0 rfl (by decide +kernel)
theorem dX12_basin_8 : decode cX12_basin 8 = .ok (.aload_n 0, 1) := dz_42 (n := 0) (r := 8) hz_X12_basin_0 rfl
theorem dX12_basin_9 : decode cX12_basin 9 = .ok (.invokevirtual 193, 3) := dz_182 (n := 0) (r := 9) hz_X12_basin_0 rfl rfl
theorem dX12_basin_12 : decode cX12_basin 12 = .ok (.bipush 10, 2) := dz_16 (n := 0) (r := 12) hz_X12_basin_0 rfl rfl
theorem dX12_basin_14 : decode cX12_basin 14 = .ok (.if_icmp .le 7, 3) := dz_164 (n := 0) (r := 14) hz_X12_basin_0 rfl (by decide +kernel)
theorem dX12_basin_17 : decode cX12_basin 17 = .ok (.ldc_w 288, 3) := dz_19 (n := 0) (r := 17) hz_X12_basin_0 rfl rfl
theorem dX12_basin_20 : decode cX12_basin 20 = .ok (.ireturn, 1) := dz_172 (n := 0) (r := 20) hz_X12_basin_0 rfl
theorem dX12_basin_21 : decode cX12_basin 21 = .ok (.aload_n 0, 1) := dz_42 (n := 0) (r := 21) hz_X12_basin_0 rfl
theorem dX12_basin_22 : decode cX12_basin 22 = .ok (.invokevirtual 261, 3) := dz_182 (n := 0) (r := 22) hz_X12_basin_0 rfl rfl
theorem dX12_basin_25 : decode cX12_basin 25 = .ok (.iconst 0, 1) := dz_3 (n := 0) (r := 25) hz_X12_basin_0 rfl
theorem dX12_basin_26 : decode cX12_basin 26 = .ok (.istore_n 2, 1) := dz_61 (n := 0) (r := 26) hz_X12_basin_0 rfl
theorem dX12_basin_27 : decode cX12_basin 27 = .ok (.iconst 0, 1) := dz_3 (n := 0) (r := 27) hz_X12_basin_0 rfl
theorem dX12_basin_28 : decode cX12_basin 28 = .ok (.istore_n 3, 1) := dz_62 (n := 0) (r := 28) hz_X12_basin_0 rfl
theorem dX12_basin_29 : decode cX12_basin 29 = .ok (.iload_n 3, 1) := dz_29 (n := 0) (r := 29) hz_X12_basin_0 rfl
theorem dX12_basin_30 : decode cX12_basin 30 = .ok (.aload_n 0, 1) := dz_42 (n := 0) (r := 30) hz_X12_basin_0 rfl
theorem dX12_basin_31 : decode cX12_basin 31 = .ok (.invokevirtual 270, 3) := dz_182 (n := 0) (r := 31) hz_X12_basin_0 rfl rfl
theorem hz_X12_basin_32 : (cX12_basin.data.toList.drop 32).take 40 = [1, 14, 162, 0, 33, 42, 180, 0, 57, 29, 46, 19, 1, 28, 162, 0, 15, 42, 29, 182, 1, 11, 27, 160, 0, 6, 132, 2, 1, 132, 3, 1, 167, 255, 221, 28, 172] := by decide +kernel
theorem dX12_basin_34 : decode cX12_basin 34 = .ok (.if_icmp .ge 33, 3) := dz_162 (n := 32) (r := 2) hz_X12_basin_32 rfl (by decide +kernel)
theorem dX12_basin_37 : decode cX12_basin 37 = .ok (.aload_n 0, 1) := dz_42 (n := 32) (r := 5) hz_X12_basin_32 rfl
theorem dX12_basin_38 : decode cX12_basin 38 = .ok (.getfield 57, 3) := dz_180 (n := 32) (r := 6) hz_X12_basin_32 rfl rfl
theorem dX12_basin_41 : decode cX12_basin 41 = .ok (.iload_n 3, 1) := dz_29 (n := 32) (r := 9) hz_X12_basin_32 rfl
theorem dX12_basin_42 : decode cX12_basin 42 = .ok (.iaload, 1) := dz_46 (n := 32) (r := 10) hz_X12_basin_32 rfl
theorem dX12_basin_43 : decode cX12_basin 43 = .ok (.ldc_w 284, 3) := dz_19 (n := 32) (r := 11) hz_X12_basin_32 rfl rfl
theorem dX12_basin_46 : decode cX12_basin 46 = .ok (.if_icmp .ge 15, 3) := dz_162 (n := 32) (r := 14) hz_X12_basin_32 rfl (by decide +kernel)
theorem dX12_basin_49 : decode cX12_basin 49 = .ok (.aload_n 0, 1) := dz_42 (n := 32) (r := 17) hz_X12_basin_32 rfl
theorem dX12_basin_50 : decode cX12_basin 50 = .ok (.iload_n 3, 1) := dz_29 (n := 32) (r := 18) hz_X12_basin_32 rfl
theorem dX12_basin_51 : decode cX12_basin 51 = .ok (.invokevirtual 267, 3) := dz_182 (n := 32) (r := 19) hz_X12_basin_32 rfl rfl
theorem dX12_basin_54 : decode cX12_basin 54 = .ok (.iload_n 1, 1) := dz_27 (n := 32) (r := 22) hz_X12_basin_32 rfl
theorem dX12_basin_55 : decode cX12_basin 55 = .ok (.if_icmp .ne 6, 3) := dz_160 (n := 32) (r := 23) hz_X12_basin_32 rfl (by decide +kernel)
theorem dX12_basin_58 : decode cX12_basin 58 = .ok (.iinc 2 1, 3) := dz_132 (n := 32) (r := 26) hz_X12_basin_32 rfl rfl rfl
theorem dX12_basin_61 : decode cX12_basin 61 = .ok (.iinc 3 1, 3) := dz_132 (n := 32) (r := 29) hz_X12_basin_32 rfl rfl rfl
theorem hz_X12_basin_64 : (cX12_basin.data.toList.drop 64).take 40 = [167, 255, 221, 28, 172] := by decide +kernel
theorem dX12_basin_64 : decode cX12_basin 64 = .ok (.goto (-35), 3) := dz_167 (n := 64) (r := 0) hz_X12_basin_64 rfl (by decide +kernel)
theorem dX12_basin_67 : decode cX12_basin 67 = .ok (.iload_n 2, 1) := dz_28 (n := 64) (r := 3) hz_X12_basin_64 rfl
theorem dX12_basin_68 : decode cX12_basin 68 = .ok (.ireturn, 1) := dz_172 (n := 64) (r := 4) hz_X12_basin_64 rfl
theorem hz_X12_laysHills_0 : (cX12_laysHills.data.toList.drop 0).take 40 = [4, 60, 27, 153, 0, 127, 3, 60, 3, 61, 28, 42, 182, 1, 14, 162, 0, 112, 42, 180, 0, 57, 28, 46, 19, 1, 28, 160, 0, 6, 167, 0, 91, 19, 1, 28, 62, 3, 54, 4] := by decide +kernel
theorem dX12_laysHills_0 : decode cX12_laysHills 0 = .ok (.iconst 1, 1) := dz_4 (n := 0) (r := 0) hz_X12_laysHills_0 rfl
theorem dX12_laysHills_1 : decode cX12_laysHills 1 = .ok (.istore_n 1, 1) := dz_60 (n := 0) (r := 1) hz_X12_laysHills_0 rfl
theorem dX12_laysHills_2 : decode cX12_laysHills 2 = .ok (.iload_n 1, 1) := dz_27 (n := 0) (r := 2) hz_X12_laysHills_0 rfl
theorem dX12_laysHills_3 : decode cX12_laysHills 3 = .ok (.ifCond .eq 127, 3) := dz_153 (n := 0) (r := 3) hz_X12_laysHills_0 rfl (by decide +kernel)
theorem dX12_laysHills_6 : decode cX12_laysHills 6 = .ok (.iconst 0, 1) := dz_3 (n := 0) (r := 6) hz_X12_laysHills_0 rfl
theorem dX12_laysHills_7 : decode cX12_laysHills 7 = .ok (.istore_n 1, 1) := dz_60 (n := 0) (r := 7) hz_X12_laysHills_0 rfl
theorem dX12_laysHills_8 : decode cX12_laysHills 8 = .ok (.iconst 0, 1) := dz_3 (n := 0) (r := 8) hz_X12_laysHills_0 rfl
theorem dX12_laysHills_9 : decode cX12_laysHills 9 = .ok (.istore_n 2, 1) := dz_61 (n := 0) (r := 9) hz_X12_laysHills_0 rfl
theorem dX12_laysHills_10 : decode cX12_laysHills 10 = .ok (.iload_n 2, 1) := dz_28 (n := 0) (r := 10) hz_X12_laysHills_0 rfl
theorem dX12_laysHills_11 : decode cX12_laysHills 11 = .ok (.aload_n 0, 1) := dz_42 (n := 0) (r := 11) hz_X12_laysHills_0 rfl
theorem dX12_laysHills_12 : decode cX12_laysHills 12 = .ok (.invokevirtual 270, 3) := dz_182 (n := 0) (r := 12) hz_X12_laysHills_0 rfl rfl
theorem dX12_laysHills_15 : decode cX12_laysHills 15 = .ok (.if_icmp .ge 112, 3) := dz_162 (n := 0) (r := 15) hz_X12_laysHills_0 rfl (by decide +kernel)
theorem dX12_laysHills_18 : decode cX12_laysHills 18 = .ok (.aload_n 0, 1) := dz_42 (n := 0) (r := 18) hz_X12_laysHills_0 rfl
theorem dX12_laysHills_19 : decode cX12_laysHills 19 = .ok (.getfield 57, 3) := dz_180 (n := 0) (r := 19) hz_X12_laysHills_0 rfl rfl
theorem dX12_laysHills_22 : decode cX12_laysHills 22 = .ok (.iload_n 2, 1) := dz_28 (n := 0) (r := 22) hz_X12_laysHills_0 rfl
theorem dX12_laysHills_23 : decode cX12_laysHills 23 = .ok (.iaload, 1) := dz_46 (n := 0) (r := 23) hz_X12_laysHills_0 rfl
theorem dX12_laysHills_24 : decode cX12_laysHills 24 = .ok (.ldc_w 284, 3) := dz_19 (n := 0) (r := 24) hz_X12_laysHills_0 rfl rfl
theorem dX12_laysHills_27 : decode cX12_laysHills 27 = .ok (.if_icmp .ne 6, 3) := dz_160 (n := 0) (r := 27) hz_X12_laysHills_0 rfl (by decide +kernel)
theorem dX12_laysHills_30 : decode cX12_laysHills 30 = .ok (.goto 91, 3) := dz_167 (n := 0) (r := 30) hz_X12_laysHills_0 rfl (by decide +kernel)
theorem hz_X12_laysHills_32 : (cX12_laysHills.data.toList.drop 32).take 40 = [91, 19, 1, 28, 62, 3, 54, 4, 21, 4, 42, 182, 0, 193, 162, 0, 36, 42, 180, 0, 75, 28, 4, 21, 4, 120, 130, 46, 29, 162, 0, 15, 42, 180, 0, 75, 28, 4, 21, 4] := by decide +kernel
theorem dX12_laysHills_33 : decode cX12_laysHills 33 = .ok (.ldc_w 284, 3) := dz_19 (n := 32) (r := 1) hz_X12_laysHills_32 rfl rfl
theorem dX12_laysHills_36 : decode cX12_laysHills 36 = .ok (.istore_n 3, 1) := dz_62 (n := 32) (r := 4) hz_X12_laysHills_32 rfl
theorem dX12_laysHills_37 : decode cX12_laysHills 37 = .ok (.iconst 0, 1) := dz_3 (n := 32) (r := 5) hz_X12_laysHills_32 rfl
theorem dX12_laysHills_38 : decode cX12_laysHills 38 = .ok (.istore 4, 2) := dz_54 (n := 32) (r := 6) hz_X12_laysHills_32 rfl rfl
theorem dX12_laysHills_40 : decode cX12_laysHills 40 = .ok (.iload 4, 2) := dz_21 (n := 32) (r := 8) hz_X12_laysHills_32 rfl rfl
theorem dX12_laysHills_42 : decode cX12_laysHills 42 = .ok (.aload_n 0, 1) := dz_42 (n := 32) (r := 10) hz_X12_laysHills_32 rfl
theorem dX12_laysHills_43 : decode cX12_laysHills 43 = .ok (.invokevirtual 193, 3) := dz_182 (n := 32) (r := 11) hz_X12_laysHills_32 rfl rfl
theorem dX12_laysHills_46 : decode cX12_laysHills 46 = .ok (.if_icmp .ge 36, 3) := dz_162 (n := 32) (r := 14) hz_X12_laysHills_32 rfl (by decide +kernel)
theorem dX12_laysHills_49 : decode cX12_laysHills 49 = .ok (.aload_n 0, 1) := dz_42 (n := 32) (r := 17) hz_X12_laysHills_32 rfl
theorem dX12_laysHills_50 : decode cX12_laysHills 50 = .ok (.getfield 75, 3) := dz_180 (n := 32) (r := 18) hz_X12_laysHills_32 rfl rfl
theorem dX12_laysHills_53 : decode cX12_laysHills 53 = .ok (.iload_n 2, 1) := dz_28 (n := 32) (r := 21) hz_X12_laysHills_32 rfl
theorem dX12_laysHills_54 : decode cX12_laysHills 54 = .ok (.iconst 1, 1) := dz_4 (n := 32) (r := 22) hz_X12_laysHills_32 rfl
theorem dX12_laysHills_55 : decode cX12_laysHills 55 = .ok (.iload 4, 2) := dz_21 (n := 32) (r := 23) hz_X12_laysHills_32 rfl rfl
theorem dX12_laysHills_57 : decode cX12_laysHills 57 = .ok (.ishl, 1) := dz_120 (n := 32) (r := 25) hz_X12_laysHills_32 rfl
theorem dX12_laysHills_58 : decode cX12_laysHills 58 = .ok (.ixor, 1) := dz_130 (n := 32) (r := 26) hz_X12_laysHills_32 rfl
theorem dX12_laysHills_59 : decode cX12_laysHills 59 = .ok (.iaload, 1) := dz_46 (n := 32) (r := 27) hz_X12_laysHills_32 rfl
theorem dX12_laysHills_60 : decode cX12_laysHills 60 = .ok (.iload_n 3, 1) := dz_29 (n := 32) (r := 28) hz_X12_laysHills_32 rfl
theorem dX12_laysHills_61 : decode cX12_laysHills 61 = .ok (.if_icmp .ge 15, 3) := dz_162 (n := 32) (r := 29) hz_X12_laysHills_32 rfl (by decide +kernel)
theorem hz_X12_laysHills_64 : (cX12_laysHills.data.toList.drop 64).take 40 = [42, 180, 0, 75, 28, 4, 21, 4, 120, 130, 46, 62, 132, 4, 1, 167, 255, 217, 29, 42, 180, 0, 57, 28, 46, 162, 0, 10, 42, 180, 0, 57, 28, 46, 62, 29, 42, 180, 0, 75] := by decide +kernel
theorem dX12_laysHills_64 : decode cX12_laysHills 64 = .ok (.aload_n 0, 1) := dz_42 (n := 64) (r := 0) hz_X12_laysHills_64 rfl
theorem dX12_laysHills_65 : decode cX12_laysHills 65 = .ok (.getfield 75, 3) := dz_180 (n := 64) (r := 1) hz_X12_laysHills_64 rfl rfl
theorem dX12_laysHills_68 : decode cX12_laysHills 68 = .ok (.iload_n 2, 1) := dz_28 (n := 64) (r := 4) hz_X12_laysHills_64 rfl
theorem dX12_laysHills_69 : decode cX12_laysHills 69 = .ok (.iconst 1, 1) := dz_4 (n := 64) (r := 5) hz_X12_laysHills_64 rfl
theorem dX12_laysHills_70 : decode cX12_laysHills 70 = .ok (.iload 4, 2) := dz_21 (n := 64) (r := 6) hz_X12_laysHills_64 rfl rfl
theorem dX12_laysHills_72 : decode cX12_laysHills 72 = .ok (.ishl, 1) := dz_120 (n := 64) (r := 8) hz_X12_laysHills_64 rfl
theorem dX12_laysHills_73 : decode cX12_laysHills 73 = .ok (.ixor, 1) := dz_130 (n := 64) (r := 9) hz_X12_laysHills_64 rfl
theorem dX12_laysHills_74 : decode cX12_laysHills 74 = .ok (.iaload, 1) := dz_46 (n := 64) (r := 10) hz_X12_laysHills_64 rfl
theorem dX12_laysHills_75 : decode cX12_laysHills 75 = .ok (.istore_n 3, 1) := dz_62 (n := 64) (r := 11) hz_X12_laysHills_64 rfl
theorem dX12_laysHills_76 : decode cX12_laysHills 76 = .ok (.iinc 4 1, 3) := dz_132 (n := 64) (r := 12) hz_X12_laysHills_64 rfl rfl rfl
theorem dX12_laysHills_79 : decode cX12_laysHills 79 = .ok (.goto (-39), 3) := dz_167 (n := 64) (r := 15) hz_X12_laysHills_64 rfl (by decide +kernel)
theorem dX12_laysHills_82 : decode cX12_laysHills 82 = .ok (.iload_n 3, 1) := dz_29 (n := 64) (r := 18) hz_X12_laysHills_64 rfl
theorem dX12_laysHills_83 : decode cX12_laysHills 83 = .ok (.aload_n 0, 1) := dz_42 (n := 64) (r := 19) hz_X12_laysHills_64 rfl
theorem dX12_laysHills_84 : decode cX12_laysHills 84 = .ok (.getfield 57, 3) := dz_180 (n := 64) (r := 20) hz_X12_laysHills_64 rfl rfl
theorem dX12_laysHills_87 : decode cX12_laysHills 87 = .ok (.iload_n 2, 1) := dz_28 (n := 64) (r := 23) hz_X12_laysHills_64 rfl
theorem dX12_laysHills_88 : decode cX12_laysHills 88 = .ok (.iaload, 1) := dz_46 (n := 64) (r := 24) hz_X12_laysHills_64 rfl
theorem dX12_laysHills_89 : decode cX12_laysHills 89 = .ok (.if_icmp .ge 10, 3) := dz_162 (n := 64) (r := 25) hz_X12_laysHills_64 rfl (by decide +kernel)
theorem dX12_laysHills_92 : decode cX12_laysHills 92 = .ok (.aload_n 0, 1) := dz_42 (n := 64) (r := 28) hz_X12_laysHills_64 rfl
theorem dX12_laysHills_93 : decode cX12_laysHills 93 = .ok (.getfield 57, 3) := dz_180 (n := 64) (r := 29) hz_X12_laysHills_64 rfl rfl
theorem hz_X12_laysHills_96 : (cX12_laysHills.data.toList.drop 96).take 40 = [28, 46, 62, 29, 42, 180, 0, 75, 28, 46, 161, 0, 6, 167, 0, 12, 42, 180, 0, 75, 28, 29, 79, 4, 60, 132, 2, 1, 167, 255, 142, 167, 255, 131, 177] := by decide +kernel
theorem dX12_laysHills_96 : decode cX12_laysHills 96 = .ok (.iload_n 2, 1) := dz_28 (n := 96) (r := 0) hz_X12_laysHills_96 rfl
theorem dX12_laysHills_97 : decode cX12_laysHills 97 = .ok (.iaload, 1) := dz_46 (n := 96) (r := 1) hz_X12_laysHills_96 rfl
theorem dX12_laysHills_98 : decode cX12_laysHills 98 = .ok (.istore_n 3, 1) := dz_62 (n := 96) (r := 2) hz_X12_laysHills_96 rfl
theorem dX12_laysHills_99 : decode cX12_laysHills 99 = .ok (.iload_n 3, 1) := dz_29 (n := 96) (r := 3) hz_X12_laysHills_96 rfl
theorem dX12_laysHills_100 : decode cX12_laysHills 100 = .ok (.aload_n 0, 1) := dz_42 (n := 96) (r := 4) hz_X12_laysHills_96 rfl
theorem dX12_laysHills_101 : decode cX12_laysHills 101 = .ok (.getfield 75, 3) := dz_180 (n := 96) (r := 5) hz_X12_laysHills_96 rfl rfl
theorem dX12_laysHills_104 : decode cX12_laysHills 104 = .ok (.iload_n 2, 1) := dz_28 (n := 96) (r := 8) hz_X12_laysHills_96 rfl
theorem dX12_laysHills_105 : decode cX12_laysHills 105 = .ok (.iaload, 1) := dz_46 (n := 96) (r := 9) hz_X12_laysHills_96 rfl
theorem dX12_laysHills_106 : decode cX12_laysHills 106 = .ok (.if_icmp .lt 6, 3) := dz_161 (n := 96) (r := 10) hz_X12_laysHills_96 rfl (by decide +kernel)
theorem dX12_laysHills_109 : decode cX12_laysHills 109 = .ok (.goto 12, 3) := dz_167 (n := 96) (r := 13) hz_X12_laysHills_96 rfl (by decide +kernel)
theorem dX12_laysHills_112 : decode cX12_laysHills 112 = .ok (.aload_n 0, 1) := dz_42 (n := 96) (r := 16) hz_X12_laysHills_96 rfl
theorem dX12_laysHills_113 : decode cX12_laysHills 113 = .ok (.getfield 75, 3) := dz_180 (n := 96) (r := 17) hz_X12_laysHills_96 rfl rfl
theorem dX12_laysHills_116 : decode cX12_laysHills 116 = .ok (.iload_n 2, 1) := dz_28 (n := 96) (r := 20) hz_X12_laysHills_96 rfl
theorem dX12_laysHills_117 : decode cX12_laysHills 117 = .ok (.iload_n 3, 1) := dz_29 (n := 96) (r := 21) hz_X12_laysHills_96 rfl
theorem dX12_laysHills_118 : decode cX12_laysHills 118 = .ok (.iastore, 1) := dz_79 (n := 96) (r := 22) hz_X12_laysHills_96 rfl
theorem dX12_laysHills_119 : decode cX12_laysHills 119 = .ok (.iconst 1, 1) := dz_4 (n := 96) (r := 23) hz_X12_laysHills_96 rfl
theorem dX12_laysHills_120 : decode cX12_laysHills 120 = .ok (.istore_n 1, 1) := dz_60 (n := 96) (r := 24) hz_X12_laysHills_96 rfl
theorem dX12_laysHills_121 : decode cX12_laysHills 121 = .ok (.iinc 2 1, 3) := dz_132 (n := 96) (r := 25) hz_X12_laysHills_96 rfl rfl rfl
theorem dX12_laysHills_124 : decode cX12_laysHills 124 = .ok (.goto (-114), 3) := dz_167 (n := 96) (r := 28) hz_X12_laysHills_96 rfl (by decide +kernel)
theorem dX12_laysHills_127 : decode cX12_laysHills 127 = .ok (.goto (-125), 3) := dz_167 (n := 96) (r := 31) hz_X12_laysHills_96 rfl (by decide +kernel)
theorem hz_X12_laysHills_128 : (cX12_laysHills.data.toList.drop 128).take 40 = [255, 131, 177] := by decide +kernel
theorem dX12_laysHills_130 : decode cX12_laysHills 130 = .ok (.return_, 1) := dz_177 (n := 128) (r := 2) hz_X12_laysHills_128 rfl
theorem hz_X12_hill_0 : (cX12_hill.data.toList.drop 0).take 40 = [42, 27, 182, 1, 25, 153, 0, 12, 42, 182, 0, 193, 16, 10, 164, 0, 7, 19, 1, 32, 172, 42, 182, 1, 5, 3, 61, 28, 42, 182, 1, 14, 162, 0, 42, 42, 180, 0, 75, 28] := by decide +kernel
theorem dX12_hill_0 : decode cX12_hill 0 = .ok (.aload_n 0, 1) := dz_42 (n := 0) (r := 0) hz_X12_hill_0 rfl
theorem dX12_hill_1 : decode cX12_hill 1 = .ok (.iload_n 1, 1) := dz_27 (n := 0) (r := 1) hz_X12_hill_0 rfl
theorem dX12_hill_2 : decode cX12_hill 2 = .ok (.invokevirtual 281, 3) := dz_182 (n := 0) (r := 2) hz_X12_hill_0 rfl rfl
theorem dX12_hill_5 : decode cX12_hill 5 = .ok (.ifCond .eq 12, 3) := dz_153 (n := 0) (r := 5) hz_X12_hill_0 rfl (by decide +kernel)
theorem dX12_hill_8 : decode cX12_hill 8 = .ok (.aload_n 0, 1) := dz_42 (n := 0) (r := 8) hz_X12_hill_0 rfl
theorem dX12_hill_9 : decode cX12_hill 9 = .ok (.invokevirtual 193, 3) := dz_182 (n := 0) (r := 9) hz_X12_hill_0 rfl rfl
theorem dX12_hill_12 : decode cX12_hill 12 = .ok (.bipush 10, 2) := dz_16 (n := 0) (r := 12) hz_X12_hill_0 rfl rfl
theorem dX12_hill_14 : decode cX12_hill 14 = .ok (.if_icmp .le 7, 3) := dz_164 (n := 0) (r := 14) hz_X12_hill_0 rfl (by decide +kernel)
theorem dX12_hill_17 : decode cX12_hill 17 = .ok (.ldc_w 288, 3) := dz_19 (n := 0) (r := 17) hz_X12_hill_0 rfl rfl
theorem dX12_hill_20 : decode cX12_hill 20 = .ok (.ireturn, 1) := dz_172 (n := 0) (r := 20) hz_X12_hill_0 rfl
theorem dX12_hill_21 : decode cX12_hill 21 = .ok (.aload_n 0, 1) := dz_42 (n := 0) (r := 21) hz_X12_hill_0 rfl
theorem dX12_hill_22 : decode cX12_hill 22 = .ok (.invokevirtual 261, 3) := dz_182 (n := 0) (r := 22) hz_X12_hill_0 rfl rfl
theorem dX12_hill_25 : decode cX12_hill 25 = .ok (.iconst 0, 1) := dz_3 (n := 0) (r := 25) hz_X12_hill_0 rfl
theorem dX12_hill_26 : decode cX12_hill 26 = .ok (.istore_n 2, 1) := dz_61 (n := 0) (r := 26) hz_X12_hill_0 rfl
theorem dX12_hill_27 : decode cX12_hill 27 = .ok (.iload_n 2, 1) := dz_28 (n := 0) (r := 27) hz_X12_hill_0 rfl
theorem dX12_hill_28 : decode cX12_hill 28 = .ok (.aload_n 0, 1) := dz_42 (n := 0) (r := 28) hz_X12_hill_0 rfl
theorem dX12_hill_29 : decode cX12_hill 29 = .ok (.invokevirtual 270, 3) := dz_182 (n := 0) (r := 29) hz_X12_hill_0 rfl rfl
theorem hz_X12_hill_32 : (cX12_hill.data.toList.drop 32).take 40 = [162, 0, 42, 42, 180, 0, 75, 28, 42, 180, 0, 57, 28, 46, 42, 180, 0, 63, 3, 46, 160, 0, 12, 42, 180, 0, 63, 3, 46, 167, 0, 6, 19, 1, 28, 79, 132, 2, 1, 167] := by decide +kernel
theorem dX12_hill_32 : decode cX12_hill 32 = .ok (.if_icmp .ge 42, 3) := dz_162 (n := 32) (r := 0) hz_X12_hill_32 rfl (by decide +kernel)
theorem dX12_hill_35 : decode cX12_hill 35 = .ok (.aload_n 0, 1) := dz_42 (n := 32) (r := 3) hz_X12_hill_32 rfl
theorem dX12_hill_36 : decode cX12_hill 36 = .ok (.getfield 75, 3) := dz_180 (n := 32) (r := 4) hz_X12_hill_32 rfl rfl
theorem dX12_hill_39 : decode cX12_hill 39 = .ok (.iload_n 2, 1) := dz_28 (n := 32) (r := 7) hz_X12_hill_32 rfl
theorem dX12_hill_40 : decode cX12_hill 40 = .ok (.aload_n 0, 1) := dz_42 (n := 32) (r := 8) hz_X12_hill_32 rfl
theorem dX12_hill_41 : decode cX12_hill 41 = .ok (.getfield 57, 3) := dz_180 (n := 32) (r := 9) hz_X12_hill_32 rfl rfl
theorem dX12_hill_44 : decode cX12_hill 44 = .ok (.iload_n 2, 1) := dz_28 (n := 32) (r := 12) hz_X12_hill_32 rfl
theorem dX12_hill_45 : decode cX12_hill 45 = .ok (.iaload, 1) := dz_46 (n := 32) (r := 13) hz_X12_hill_32 rfl
theorem dX12_hill_46 : decode cX12_hill 46 = .ok (.aload_n 0, 1) := dz_42 (n := 32) (r := 14) hz_X12_hill_32 rfl
theorem dX12_hill_47 : decode cX12_hill 47 = .ok (.getfield 63, 3) := dz_180 (n := 32) (r := 15) hz_X12_hill_32 rfl rfl
theorem dX12_hill_50 : decode cX12_hill 50 = .ok (.iconst 0, 1) := dz_3 (n := 32) (r := 18) hz_X12_hill_32 rfl
theorem dX12_hill_51 : decode cX12_hill 51 = .ok (.iaload, 1) := dz_46 (n := 32) (r := 19) hz_X12_hill_32 rfl
theorem dX12_hill_52 : decode cX12_hill 52 = .ok (.if_icmp .ne 12, 3) := dz_160 (n := 32) (r := 20) hz_X12_hill_32 rfl (by decide +kernel)
theorem dX12_hill_55 : decode cX12_hill 55 = .ok (.aload_n 0, 1) := dz_42 (n := 32) (r := 23) hz_X12_hill_32 rfl
theorem dX12_hill_56 : decode cX12_hill 56 = .ok (.getfield 63, 3) := dz_180 (n := 32) (r := 24) hz_X12_hill_32 rfl rfl
theorem dX12_hill_59 : decode cX12_hill 59 = .ok (.iconst 0, 1) := dz_3 (n := 32) (r := 27) hz_X12_hill_32 rfl
theorem dX12_hill_60 : decode cX12_hill 60 = .ok (.iaload, 1) := dz_46 (n := 32) (r := 28) hz_X12_hill_32 rfl
theorem dX12_hill_61 : decode cX12_hill 61 = .ok (.goto 6, 3) := dz_167 (n := 32) (r := 29) hz_X12_hill_32 rfl (by decide +kernel)
theorem hz_X12_hill_64 : (cX12_hill.data.toList.drop 64).take 40 = [19, 1, 28, 79, 132, 2, 1, 167, 255, 212, 42, 182, 1, 71, 42, 180, 0, 75, 27, 46, 172] := by decide +kernel
theorem dX12_hill_64 : decode cX12_hill 64 = .ok (.ldc_w 284, 3) := dz_19 (n := 64) (r := 0) hz_X12_hill_64 rfl rfl
theorem dX12_hill_67 : decode cX12_hill 67 = .ok (.iastore, 1) := dz_79 (n := 64) (r := 3) hz_X12_hill_64 rfl
theorem dX12_hill_68 : decode cX12_hill 68 = .ok (.iinc 2 1, 3) := dz_132 (n := 64) (r := 4) hz_X12_hill_64 rfl rfl rfl
theorem dX12_hill_71 : decode cX12_hill 71 = .ok (.goto (-44), 3) := dz_167 (n := 64) (r := 7) hz_X12_hill_64 rfl (by decide +kernel)
theorem dX12_hill_74 : decode cX12_hill 74 = .ok (.aload_n 0, 1) := dz_42 (n := 64) (r := 10) hz_X12_hill_64 rfl
theorem dX12_hill_75 : decode cX12_hill 75 = .ok (.invokevirtual 327, 3) := dz_182 (n := 64) (r := 11) hz_X12_hill_64 rfl rfl
theorem dX12_hill_78 : decode cX12_hill 78 = .ok (.aload_n 0, 1) := dz_42 (n := 64) (r := 14) hz_X12_hill_64 rfl
theorem dX12_hill_79 : decode cX12_hill 79 = .ok (.getfield 75, 3) := dz_180 (n := 64) (r := 15) hz_X12_hill_64 rfl rfl
theorem dX12_hill_82 : decode cX12_hill 82 = .ok (.iload_n 1, 1) := dz_27 (n := 64) (r := 18) hz_X12_hill_64 rfl
theorem dX12_hill_83 : decode cX12_hill 83 = .ok (.iaload, 1) := dz_46 (n := 64) (r := 19) hz_X12_hill_64 rfl
theorem dX12_hill_84 : decode cX12_hill 84 = .ok (.ireturn, 1) := dz_172 (n := 64) (r := 20) hz_X12_hill_64 rfl
theorem hz_X12_pass_0 : (cX12_pass.data.toList.drop 0).take 40 = [42, 27, 182, 1, 25, 153, 0, 20, 42, 28, 182, 1, 25, 153, 0, 12, 42, 182, 0, 193, 16, 10, 164, 0, 7, 19, 1, 32, 172, 42, 182, 1, 5, 3, 62, 29, 42, 182, 1, 14] := by decide +kernel
theorem dX12_pass_0 : decode cX12_pass 0 = .ok (.aload_n 0, 1) := dz_42 (n := 0) (r := 0) hz_X12_pass_0 rfl
theorem dX12_pass_1 : decode cX12_pass 1 = .ok (.iload_n 1, 1) := dz_27 (n := 0) (r := 1) hz_X12_pass_0 rfl
theorem dX12_pass_2 : decode cX12_pass 2 = .ok (.invokevirtual 281, 3) := dz_182 (n := 0) (r := 2) hz_X12_pass_0 rfl rfl
theorem dX12_pass_5 : decode cX12_pass 5 = .ok (.ifCond .eq 20, 3) := dz_153 (n := 0) (r := 5) hz_X12_pass_0 rfl (by decide +kernel)
theorem dX12_pass_8 : decode cX12_pass 8 = .ok (.aload_n 0, 1) := dz_42 (n := 0) (r := 8) hz_X12_pass_0 rfl
theorem dX12_pass_9 : decode cX12_pass 9 = .ok (.iload_n 2, 1) := dz_28 (n := 0) (r := 9) hz_X12_pass_0 rfl
theorem dX12_pass_10 : decode cX12_pass 10 = .ok (.invokevirtual 281, 3) := dz_182 (n := 0) (r := 10) hz_X12_pass_0 rfl rfl
theorem dX12_pass_13 : decode cX12_pass 13 = .ok (.ifCond .eq 12, 3) := dz_153 (n := 0) (r := 13) hz_X12_pass_0 rfl (by decide +kernel)
theorem dX12_pass_16 : decode cX12_pass 16 = .ok (.aload_n 0, 1) := dz_42 (n := 0) (r := 16) hz_X12_pass_0 rfl
theorem dX12_pass_17 : decode cX12_pass 17 = .ok (.invokevirtual 193, 3) := dz_182 (n := 0) (r := 17) hz_X12_pass_0 rfl rfl
theorem dX12_pass_20 : decode cX12_pass 20 = .ok (.bipush 10, 2) := dz_16 (n := 0) (r := 20) hz_X12_pass_0 rfl rfl
theorem dX12_pass_22 : decode cX12_pass 22 = .ok (.if_icmp .le 7, 3) := dz_164 (n := 0) (r := 22) hz_X12_pass_0 rfl (by decide +kernel)
theorem dX12_pass_25 : decode cX12_pass 25 = .ok (.ldc_w 288, 3) := dz_19 (n := 0) (r := 25) hz_X12_pass_0 rfl rfl
theorem dX12_pass_28 : decode cX12_pass 28 = .ok (.ireturn, 1) := dz_172 (n := 0) (r := 28) hz_X12_pass_0 rfl
theorem dX12_pass_29 : decode cX12_pass 29 = .ok (.aload_n 0, 1) := dz_42 (n := 0) (r := 29) hz_X12_pass_0 rfl
theorem dX12_pass_30 : decode cX12_pass 30 = .ok (.invokevirtual 261, 3) := dz_182 (n := 0) (r := 30) hz_X12_pass_0 rfl rfl
theorem hz_X12_pass_32 : (cX12_pass.data.toList.drop 32).take 40 = [5, 3, 62, 29, 42, 182, 1, 14, 162, 0, 32, 42, 180, 0, 75, 29, 29, 28, 160, 0, 12, 42, 180, 0, 57, 29, 46, 167, 0, 6, 19, 1, 28, 79, 132, 3, 1, 167, 255, 222] := by decide +kernel
theorem dX12_pass_33 : decode cX12_pass 33 = .ok (.iconst 0, 1) := dz_3 (n := 32) (r := 1) hz_X12_pass_32 rfl
theorem dX12_pass_34 : decode cX12_pass 34 = .ok (.istore_n 3, 1) := dz_62 (n := 32) (r := 2) hz_X12_pass_32 rfl
theorem dX12_pass_35 : decode cX12_pass 35 = .ok (.iload_n 3, 1) := dz_29 (n := 32) (r := 3) hz_X12_pass_32 rfl
theorem dX12_pass_36 : decode cX12_pass 36 = .ok (.aload_n 0, 1) := dz_42 (n := 32) (r := 4) hz_X12_pass_32 rfl
theorem dX12_pass_37 : decode cX12_pass 37 = .ok (.invokevirtual 270, 3) := dz_182 (n := 32) (r := 5) hz_X12_pass_32 rfl rfl
theorem dX12_pass_40 : decode cX12_pass 40 = .ok (.if_icmp .ge 32, 3) := dz_162 (n := 32) (r := 8) hz_X12_pass_32 rfl (by decide +kernel)
theorem dX12_pass_43 : decode cX12_pass 43 = .ok (.aload_n 0, 1) := dz_42 (n := 32) (r := 11) hz_X12_pass_32 rfl
theorem dX12_pass_44 : decode cX12_pass 44 = .ok (.getfield 75, 3) := dz_180 (n := 32) (r := 12) hz_X12_pass_32 rfl rfl
theorem dX12_pass_47 : decode cX12_pass 47 = .ok (.iload_n 3, 1) := dz_29 (n := 32) (r := 15) hz_X12_pass_32 rfl
theorem dX12_pass_48 : decode cX12_pass 48 = .ok (.iload_n 3, 1) := dz_29 (n := 32) (r := 16) hz_X12_pass_32 rfl
theorem dX12_pass_49 : decode cX12_pass 49 = .ok (.iload_n 2, 1) := dz_28 (n := 32) (r := 17) hz_X12_pass_32 rfl
theorem dX12_pass_50 : decode cX12_pass 50 = .ok (.if_icmp .ne 12, 3) := dz_160 (n := 32) (r := 18) hz_X12_pass_32 rfl (by decide +kernel)
theorem dX12_pass_53 : decode cX12_pass 53 = .ok (.aload_n 0, 1) := dz_42 (n := 32) (r := 21) hz_X12_pass_32 rfl
theorem dX12_pass_54 : decode cX12_pass 54 = .ok (.getfield 57, 3) := dz_180 (n := 32) (r := 22) hz_X12_pass_32 rfl rfl
theorem dX12_pass_57 : decode cX12_pass 57 = .ok (.iload_n 3, 1) := dz_29 (n := 32) (r := 25) hz_X12_pass_32 rfl
theorem dX12_pass_58 : decode cX12_pass 58 = .ok (.iaload, 1) := dz_46 (n := 32) (r := 26) hz_X12_pass_32 rfl
theorem dX12_pass_59 : decode cX12_pass 59 = .ok (.goto 6, 3) := dz_167 (n := 32) (r := 27) hz_X12_pass_32 rfl (by decide +kernel)
theorem dX12_pass_62 : decode cX12_pass 62 = .ok (.ldc_w 284, 3) := dz_19 (n := 32) (r := 30) hz_X12_pass_32 rfl rfl
theorem hz_X12_pass_64 : (cX12_pass.data.toList.drop 64).take 40 = [28, 79, 132, 3, 1, 167, 255, 222, 42, 182, 1, 71, 42, 180, 0, 75, 27, 46, 172] := by decide +kernel
theorem dX12_pass_65 : decode cX12_pass 65 = .ok (.iastore, 1) := dz_79 (n := 64) (r := 1) hz_X12_pass_64 rfl
theorem dX12_pass_66 : decode cX12_pass 66 = .ok (.iinc 3 1, 3) := dz_132 (n := 64) (r := 2) hz_X12_pass_64 rfl rfl rfl
theorem dX12_pass_69 : decode cX12_pass 69 = .ok (.goto (-34), 3) := dz_167 (n := 64) (r := 5) hz_X12_pass_64 rfl (by decide +kernel)
theorem dX12_pass_72 : decode cX12_pass 72 = .ok (.aload_n 0, 1) := dz_42 (n := 64) (r := 8) hz_X12_pass_64 rfl
theorem dX12_pass_73 : decode cX12_pass 73 = .ok (.invokevirtual 327, 3) := dz_182 (n := 64) (r := 9) hz_X12_pass_64 rfl rfl
theorem dX12_pass_76 : decode cX12_pass 76 = .ok (.aload_n 0, 1) := dz_42 (n := 64) (r := 12) hz_X12_pass_64 rfl
theorem dX12_pass_77 : decode cX12_pass 77 = .ok (.getfield 75, 3) := dz_180 (n := 64) (r := 13) hz_X12_pass_64 rfl rfl
theorem dX12_pass_80 : decode cX12_pass 80 = .ok (.iload_n 1, 1) := dz_27 (n := 64) (r := 16) hz_X12_pass_64 rfl
theorem dX12_pass_81 : decode cX12_pass 81 = .ok (.iaload, 1) := dz_46 (n := 64) (r := 17) hz_X12_pass_64 rfl
theorem dX12_pass_82 : decode cX12_pass 82 = .ok (.ireturn, 1) := dz_172 (n := 64) (r := 18) hz_X12_pass_64 rfl
theorem hz_X12_lakes_0 : (cX12_lakes.data.toList.drop 0).take 40 = [42, 182, 0, 193, 16, 10, 164, 0, 7, 19, 1, 32, 172, 42, 182, 1, 5, 3, 61, 28, 42, 182, 1, 14, 162, 0, 16, 42, 180, 0, 78, 28, 3, 84, 132, 2, 1, 167, 255, 238] := by decide +kernel
theorem dX12_lakes_0 : decode cX12_lakes 0 = .ok (.aload_n 0, 1) := dz_42 (n := 0) (r := 0) hz_X12_lakes_0 rfl
theorem dX12_lakes_1 : decode cX12_lakes 1 = .ok (.invokevirtual 193, 3) := dz_182 (n := 0) (r := 1) hz_X12_lakes_0 rfl rfl
theorem dX12_lakes_4 : decode cX12_lakes 4 = .ok (.bipush 10, 2) := dz_16 (n := 0) (r := 4) hz_X12_lakes_0 rfl rfl
theorem dX12_lakes_6 : decode cX12_lakes 6 = .ok (.if_icmp .le 7, 3) := dz_164 (n := 0) (r := 6) hz_X12_lakes_0 rfl (by decide +kernel)
theorem dX12_lakes_9 : decode cX12_lakes 9 = .ok (.ldc_w 288, 3) := dz_19 (n := 0) (r := 9) hz_X12_lakes_0 rfl rfl
theorem dX12_lakes_12 : decode cX12_lakes 12 = .ok (.ireturn, 1) := dz_172 (n := 0) (r := 12) hz_X12_lakes_0 rfl
theorem dX12_lakes_13 : decode cX12_lakes 13 = .ok (.aload_n 0, 1) := dz_42 (n := 0) (r := 13) hz_X12_lakes_0 rfl
theorem dX12_lakes_14 : decode cX12_lakes 14 = .ok (.invokevirtual 261, 3) := dz_182 (n := 0) (r := 14) hz_X12_lakes_0 rfl rfl
theorem dX12_lakes_17 : decode cX12_lakes 17 = .ok (.iconst 0, 1) := dz_3 (n := 0) (r := 17) hz_X12_lakes_0 rfl
theorem dX12_lakes_18 : decode cX12_lakes 18 = .ok (.istore_n 2, 1) := dz_61 (n := 0) (r := 18) hz_X12_lakes_0 rfl
theorem dX12_lakes_19 : decode cX12_lakes 19 = .ok (.iload_n 2, 1) := dz_28 (n := 0) (r := 19) hz_X12_lakes_0 rfl
theorem dX12_lakes_20 : decode cX12_lakes 20 = .ok (.aload_n 0, 1) := dz_42 (n := 0) (r := 20) hz_X12_lakes_0 rfl
theorem dX12_lakes_21 : decode cX12_lakes 21 = .ok (.invokevirtual 270, 3) := dz_182 (n := 0) (r := 21) hz_X12_lakes_0 rfl rfl
theorem dX12_lakes_24 : decode cX12_lakes 24 = .ok (.if_icmp .ge 16, 3) := dz_162 (n := 0) (r := 24) hz_X12_lakes_0 rfl (by decide +kernel)
theorem dX12_lakes_27 : decode cX12_lakes 27 = .ok (.aload_n 0, 1) := dz_42 (n := 0) (r := 27) hz_X12_lakes_0 rfl
theorem dX12_lakes_28 : decode cX12_lakes 28 = .ok (.getfield 78, 3) := dz_180 (n := 0) (r := 28) hz_X12_lakes_0 rfl rfl
theorem dX12_lakes_31 : decode cX12_lakes 31 = .ok (.iload_n 2, 1) := dz_28 (n := 0) (r := 31) hz_X12_lakes_0 rfl
theorem hz_X12_lakes_32 : (cX12_lakes.data.toList.drop 32).take 40 = [3, 84, 132, 2, 1, 167, 255, 238, 3, 61, 3, 62, 29, 42, 182, 1, 14, 162, 0, 168, 42, 180, 0, 78, 29, 51, 154, 0, 153, 42, 180, 0, 57, 29, 46, 19, 1, 28, 159, 0] := by decide +kernel
theorem dX12_lakes_32 : decode cX12_lakes 32 = .ok (.iconst 0, 1) := dz_3 (n := 32) (r := 0) hz_X12_lakes_32 rfl
theorem dX12_lakes_33 : decode cX12_lakes 33 = .ok (.bastore, 1) := dz_84 (n := 32) (r := 1) hz_X12_lakes_32 rfl
theorem dX12_lakes_34 : decode cX12_lakes 34 = .ok (.iinc 2 1, 3) := dz_132 (n := 32) (r := 2) hz_X12_lakes_32 rfl rfl rfl
theorem dX12_lakes_37 : decode cX12_lakes 37 = .ok (.goto (-18), 3) := dz_167 (n := 32) (r := 5) hz_X12_lakes_32 rfl (by decide +kernel)
theorem dX12_lakes_40 : decode cX12_lakes 40 = .ok (.iconst 0, 1) := dz_3 (n := 32) (r := 8) hz_X12_lakes_32 rfl
theorem dX12_lakes_41 : decode cX12_lakes 41 = .ok (.istore_n 2, 1) := dz_61 (n := 32) (r := 9) hz_X12_lakes_32 rfl
theorem dX12_lakes_42 : decode cX12_lakes 42 = .ok (.iconst 0, 1) := dz_3 (n := 32) (r := 10) hz_X12_lakes_32 rfl
theorem dX12_lakes_43 : decode cX12_lakes 43 = .ok (.istore_n 3, 1) := dz_62 (n := 32) (r := 11) hz_X12_lakes_32 rfl
theorem dX12_lakes_44 : decode cX12_lakes 44 = .ok (.iload_n 3, 1) := dz_29 (n := 32) (r := 12) hz_X12_lakes_32 rfl
theorem dX12_lakes_45 : decode cX12_lakes 45 = .ok (.aload_n 0, 1) := dz_42 (n := 32) (r := 13) hz_X12_lakes_32 rfl
theorem dX12_lakes_46 : decode cX12_lakes 46 = .ok (.invokevirtual 270, 3) := dz_182 (n := 32) (r := 14) hz_X12_lakes_32 rfl rfl
theorem dX12_lakes_49 : decode cX12_lakes 49 = .ok (.if_icmp .ge 168, 3) := dz_162 (n := 32) (r := 17) hz_X12_lakes_32 rfl (by decide +kernel)
theorem dX12_lakes_52 : decode cX12_lakes 52 = .ok (.aload_n 0, 1) := dz_42 (n := 32) (r := 20) hz_X12_lakes_32 rfl
theorem dX12_lakes_53 : decode cX12_lakes 53 = .ok (.getfield 78, 3) := dz_180 (n := 32) (r := 21) hz_X12_lakes_32 rfl rfl
theorem dX12_lakes_56 : decode cX12_lakes 56 = .ok (.iload_n 3, 1) := dz_29 (n := 32) (r := 24) hz_X12_lakes_32 rfl
theorem dX12_lakes_57 : decode cX12_lakes 57 = .ok (.baload, 1) := dz_51 (n := 32) (r := 25) hz_X12_lakes_32 rfl
theorem dX12_lakes_58 : decode cX12_lakes 58 = .ok (.ifCond .ne 153, 3) := dz_154 (n := 32) (r := 26) hz_X12_lakes_32 rfl (by decide +kernel)
theorem dX12_lakes_61 : decode cX12_lakes 61 = .ok (.aload_n 0, 1) := dz_42 (n := 32) (r := 29) hz_X12_lakes_32 rfl
theorem dX12_lakes_62 : decode cX12_lakes 62 = .ok (.getfield 57, 3) := dz_180 (n := 32) (r := 30) hz_X12_lakes_32 rfl rfl
theorem hz_X12_lakes_64 : (cX12_lakes.data.toList.drop 64).take 40 = [57, 29, 46, 19, 1, 28, 159, 0, 141, 42, 180, 0, 57, 29, 46, 27, 164, 0, 6, 167, 0, 128, 132, 2, 1, 42, 180, 0, 78, 29, 4, 84, 42, 180, 0, 81, 3, 29, 79, 4] := by decide +kernel
theorem dX12_lakes_65 : decode cX12_lakes 65 = .ok (.iload_n 3, 1) := dz_29 (n := 64) (r := 1) hz_X12_lakes_64 rfl
theorem dX12_lakes_66 : decode cX12_lakes 66 = .ok (.iaload, 1) := dz_46 (n := 64) (r := 2) hz_X12_lakes_64 rfl
theorem dX12_lakes_67 : decode cX12_lakes 67 = .ok (.ldc_w 284, 3) := dz_19 (n := 64) (r := 3) hz_X12_lakes_64 rfl rfl
theorem dX12_lakes_70 : decode cX12_lakes 70 = .ok (.if_icmp .eq 141, 3) := dz_159 (n := 64) (r := 6) hz_X12_lakes_64 rfl (by decide +kernel)
theorem dX12_lakes_73 : decode cX12_lakes 73 = .ok (.aload_n 0, 1) := dz_42 (n := 64) (r := 9) hz_X12_lakes_64 rfl
theorem dX12_lakes_74 : decode cX12_lakes 74 = .ok (.getfield 57, 3) := dz_180 (n := 64) (r := 10) hz_X12_lakes_64 rfl rfl
theorem dX12_lakes_77 : decode cX12_lakes 77 = .ok (.iload_n 3, 1) := dz_29 (n := 64) (r := 13) hz_X12_lakes_64 rfl
theorem dX12_lakes_78 : decode cX12_lakes 78 = .ok (.iaload, 1) := dz_46 (n := 64) (r := 14) hz_X12_lakes_64 rfl
theorem dX12_lakes_79 : decode cX12_lakes 79 = .ok (.iload_n 1, 1) := dz_27 (n := 64) (r := 15) hz_X12_lakes_64 rfl
theorem dX12_lakes_80 : decode cX12_lakes 80 = .ok (.if_icmp .le 6, 3) := dz_164 (n := 64) (r := 16) hz_X12_lakes_64 rfl (by decide +kernel)
theorem dX12_lakes_83 : decode cX12_lakes 83 = .ok (.goto 128, 3) := dz_167 (n := 64) (r := 19) hz_X12_lakes_64 rfl (by decide +kernel)
theorem dX12_lakes_86 : decode cX12_lakes 86 = .ok (.iinc 2 1, 3) := dz_132 (n := 64) (r := 22) hz_X12_lakes_64 rfl rfl rfl
theorem dX12_lakes_89 : decode cX12_lakes 89 = .ok (.aload_n 0, 1) := dz_42 (n := 64) (r := 25) hz_X12_lakes_64 rfl
theorem dX12_lakes_90 : decode cX12_lakes 90 = .ok (.getfield 78, 3) := dz_180 (n := 64) (r := 26) hz_X12_lakes_64 rfl rfl
theorem dX12_lakes_93 : decode cX12_lakes 93 = .ok (.iload_n 3, 1) := dz_29 (n := 64) (r := 29) hz_X12_lakes_64 rfl
theorem dX12_lakes_94 : decode cX12_lakes 94 = .ok (.iconst 1, 1) := dz_4 (n := 64) (r := 30) hz_X12_lakes_64 rfl
theorem dX12_lakes_95 : decode cX12_lakes 95 = .ok (.bastore, 1) := dz_84 (n := 64) (r := 31) hz_X12_lakes_64 rfl
theorem hz_X12_lakes_96 : (cX12_lakes.data.toList.drop 96).take 40 = [42, 180, 0, 81, 3, 29, 79, 4, 54, 4, 3, 54, 5, 21, 5, 21, 4, 162, 0, 98, 3, 54, 6, 21, 6, 42, 182, 0, 193, 162, 0, 80, 42, 180, 0, 81, 21, 5, 46, 4] := by decide +kernel
theorem dX12_lakes_96 : decode cX12_lakes 96 = .ok (.aload_n 0, 1) := dz_42 (n := 96) (r := 0) hz_X12_lakes_96 rfl
theorem dX12_lakes_97 : decode cX12_lakes 97 = .ok (.getfield 81, 3) := dz_180 (n := 96) (r := 1) hz_X12_lakes_96 rfl rfl
theorem dX12_lakes_100 : decode cX12_lakes 100 = .ok (.iconst 0, 1) := dz_3 (n := 96) (r := 4) hz_X12_lakes_96 rfl
theorem dX12_lakes_101 : decode cX12_lakes 101 = .ok (.iload_n 3, 1) := dz_29 (n := 96) (r := 5) hz_X12_lakes_96 rfl
theorem dX12_lakes_102 : decode cX12_lakes 102 = .ok (.iastore, 1) := dz_79 (n := 96) (r := 6) hz_X12_lakes_96 rfl
theorem dX12_lakes_103 : decode cX12_lakes 103 = .ok (.iconst 1, 1) := dz_4 (n := 96) (r := 7) hz_X12_lakes_96 rfl
theorem dX12_lakes_104 : decode cX12_lakes 104 = .ok (.istore 4, 2) := dz_54 (n := 96) (r := 8) hz_X12_lakes_96 rfl rfl
theorem dX12_lakes_106 : decode cX12_lakes 106 = .ok (.iconst 0, 1) := dz_3 (n := 96) (r := 10) hz_X12_lakes_96 rfl
theorem dX12_lakes_107 : decode cX12_lakes 107 = .ok (.istore 5, 2) := dz_54 (n := 96) (r := 11) hz_X12_lakes_96 rfl rfl
theorem dX12_lakes_109 : decode cX12_lakes 109 = .ok (.iload 5, 2) := dz_21 (n := 96) (r := 13) hz_X12_lakes_96 rfl rfl
theorem dX12_lakes_111 : decode cX12_lakes 111 = .ok (.iload 4, 2) := dz_21 (n := 96) (r := 15) hz_X12_lakes_96 rfl rfl
theorem dX12_lakes_113 : decode cX12_lakes 113 = .ok (.if_icmp .ge 98, 3) := dz_162 (n := 96) (r := 17) hz_X12_lakes_96 rfl (by decide +kernel)
theorem dX12_lakes_116 : decode cX12_lakes 116 = .ok (.iconst 0, 1) := dz_3 (n := 96) (r := 20) hz_X12_lakes_96 rfl
theorem dX12_lakes_117 : decode cX12_lakes 117 = .ok (.istore 6, 2) := dz_54 (n := 96) (r := 21) hz_X12_lakes_96 rfl rfl
theorem dX12_lakes_119 : decode cX12_lakes 119 = .ok (.iload 6, 2) := dz_21 (n := 96) (r := 23) hz_X12_lakes_96 rfl rfl
theorem dX12_lakes_121 : decode cX12_lakes 121 = .ok (.aload_n 0, 1) := dz_42 (n := 96) (r := 25) hz_X12_lakes_96 rfl
theorem dX12_lakes_122 : decode cX12_lakes 122 = .ok (.invokevirtual 193, 3) := dz_182 (n := 96) (r := 26) hz_X12_lakes_96 rfl rfl
theorem dX12_lakes_125 : decode cX12_lakes 125 = .ok (.if_icmp .ge 80, 3) := dz_162 (n := 96) (r := 29) hz_X12_lakes_96 rfl (by decide +kernel)
theorem hz_X12_lakes_128 : (cX12_lakes.data.toList.drop 128).take 40 = [42, 180, 0, 81, 21, 5, 46, 4, 21, 6, 120, 130, 54, 7, 42, 180, 0, 78, 21, 7, 51, 154, 0, 50, 42, 180, 0, 57, 21, 7, 46, 19, 1, 28, 159, 0, 37, 42, 180, 0] := by decide +kernel
theorem dX12_lakes_128 : decode cX12_lakes 128 = .ok (.aload_n 0, 1) := dz_42 (n := 128) (r := 0) hz_X12_lakes_128 rfl
theorem dX12_lakes_129 : decode cX12_lakes 129 = .ok (.getfield 81, 3) := dz_180 (n := 128) (r := 1) hz_X12_lakes_128 rfl rfl
theorem dX12_lakes_132 : decode cX12_lakes 132 = .ok (.iload 5, 2) := dz_21 (n := 128) (r := 4) hz_X12_lakes_128 rfl rfl
theorem dX12_lakes_134 : decode cX12_lakes 134 = .ok (.iaload, 1) := dz_46 (n := 128) (r := 6) hz_X12_lakes_128 rfl
theorem dX12_lakes_135 : decode cX12_lakes 135 = .ok (.iconst 1, 1) := dz_4 (n := 128) (r := 7) hz_X12_lakes_128 rfl
theorem dX12_lakes_136 : decode cX12_lakes 136 = .ok (.iload 6, 2) := dz_21 (n := 128) (r := 8) hz_X12_lakes_128 rfl rfl
theorem dX12_lakes_138 : decode cX12_lakes 138 = .ok (.ishl, 1) := dz_120 (n := 128) (r := 10) hz_X12_lakes_128 rfl
theorem dX12_lakes_139 : decode cX12_lakes 139 = .ok (.ixor, 1) := dz_130 (n := 128) (r := 11) hz_X12_lakes_128 rfl
theorem dX12_lakes_140 : decode cX12_lakes 140 = .ok (.istore 7, 2) := dz_54 (n := 128) (r := 12) hz_X12_lakes_128 rfl rfl
theorem dX12_lakes_142 : decode cX12_lakes 142 = .ok (.aload_n 0, 1) := dz_42 (n := 128) (r := 14) hz_X12_lakes_128 rfl
theorem dX12_lakes_143 : decode cX12_lakes 143 = .ok (.getfield 78, 3) := dz_180 (n := 128) (r := 15) hz_X12_lakes_128 rfl rfl
theorem dX12_lakes_146 : decode cX12_lakes 146 = .ok (.iload 7, 2) := dz_21 (n := 128) (r := 18) hz_X12_lakes_128 rfl rfl
theorem dX12_lakes_148 : decode cX12_lakes 148 = .ok (.baload, 1) := dz_51 (n := 128) (r := 20) hz_X12_lakes_128 rfl
theorem dX12_lakes_149 : decode cX12_lakes 149 = .ok (.ifCond .ne 50, 3) := dz_154 (n := 128) (r := 21) hz_X12_lakes_128 rfl (by decide +kernel)
theorem dX12_lakes_152 : decode cX12_lakes 152 = .ok (.aload_n 0, 1) := dz_42 (n := 128) (r := 24) hz_X12_lakes_128 rfl
theorem dX12_lakes_153 : decode cX12_lakes 153 = .ok (.getfield 57, 3) := dz_180 (n := 128) (r := 25) hz_X12_lakes_128 rfl rfl
theorem dX12_lakes_156 : decode cX12_lakes 156 = .ok (.iload 7, 2) := dz_21 (n := 128) (r := 28) hz_X12_lakes_128 rfl rfl
theorem dX12_lakes_158 : decode cX12_lakes 158 = .ok (.iaload, 1) := dz_46 (n := 128) (r := 30) hz_X12_lakes_128 rfl
theorem dX12_lakes_159 : decode cX12_lakes 159 = .ok (.ldc_w 284, 3) := dz_19 (n := 128) (r := 31) hz_X12_lakes_128 rfl rfl
theorem hz_X12_lakes_160 : (cX12_lakes.data.toList.drop 160).take 40 = [1, 28, 159, 0, 37, 42, 180, 0, 57, 21, 7, 46, 27, 164, 0, 6, 167, 0, 23, 42, 180, 0, 78, 21, 7, 4, 84, 42, 180, 0, 81, 21, 4, 21, 7, 79, 132, 4, 1, 132] := by decide +kernel
theorem dX12_lakes_162 : decode cX12_lakes 162 = .ok (.if_icmp .eq 37, 3) := dz_159 (n := 160) (r := 2) hz_X12_lakes_160 rfl (by decide +kernel)
theorem dX12_lakes_165 : decode cX12_lakes 165 = .ok (.aload_n 0, 1) := dz_42 (n := 160) (r := 5) hz_X12_lakes_160 rfl
theorem dX12_lakes_166 : decode cX12_lakes 166 = .ok (.getfield 57, 3) := dz_180 (n := 160) (r := 6) hz_X12_lakes_160 rfl rfl
theorem dX12_lakes_169 : decode cX12_lakes 169 = .ok (.iload 7, 2) := dz_21 (n := 160) (r := 9) hz_X12_lakes_160 rfl rfl
theorem dX12_lakes_171 : decode cX12_lakes 171 = .ok (.iaload, 1) := dz_46 (n := 160) (r := 11) hz_X12_lakes_160 rfl
theorem dX12_lakes_172 : decode cX12_lakes 172 = .ok (.iload_n 1, 1) := dz_27 (n := 160) (r := 12) hz_X12_lakes_160 rfl
theorem dX12_lakes_173 : decode cX12_lakes 173 = .ok (.if_icmp .le 6, 3) := dz_164 (n := 160) (r := 13) hz_X12_lakes_160 rfl (by decide +kernel)
theorem dX12_lakes_176 : decode cX12_lakes 176 = .ok (.goto 23, 3) := dz_167 (n := 160) (r := 16) hz_X12_lakes_160 rfl (by decide +kernel)
theorem dX12_lakes_179 : decode cX12_lakes 179 = .ok (.aload_n 0, 1) := dz_42 (n := 160) (r := 19) hz_X12_lakes_160 rfl
theorem dX12_lakes_180 : decode cX12_lakes 180 = .ok (.getfield 78, 3) := dz_180 (n := 160) (r := 20) hz_X12_lakes_160 rfl rfl
theorem dX12_lakes_183 : decode cX12_lakes 183 = .ok (.iload 7, 2) := dz_21 (n := 160) (r := 23) hz_X12_lakes_160 rfl rfl
theorem dX12_lakes_185 : decode cX12_lakes 185 = .ok (.iconst 1, 1) := dz_4 (n := 160) (r := 25) hz_X12_lakes_160 rfl
theorem dX12_lakes_186 : decode cX12_lakes 186 = .ok (.bastore, 1) := dz_84 (n := 160) (r := 26) hz_X12_lakes_160 rfl
theorem dX12_lakes_187 : decode cX12_lakes 187 = .ok (.aload_n 0, 1) := dz_42 (n := 160) (r := 27) hz_X12_lakes_160 rfl
theorem dX12_lakes_188 : decode cX12_lakes 188 = .ok (.getfield 81, 3) := dz_180 (n := 160) (r := 28) hz_X12_lakes_160 rfl rfl
theorem dX12_lakes_191 : decode cX12_lakes 191 = .ok (.iload 4, 2) := dz_21 (n := 160) (r := 31) hz_X12_lakes_160 rfl rfl
theorem hz_X12_lakes_192 : (cX12_lakes.data.toList.drop 192).take 40 = [4, 21, 7, 79, 132, 4, 1, 132, 6, 1, 167, 255, 173, 132, 5, 1, 167, 255, 157, 132, 3, 1, 167, 255, 86, 28, 172] := by decide +kernel
theorem dX12_lakes_193 : decode cX12_lakes 193 = .ok (.iload 7, 2) := dz_21 (n := 192) (r := 1) hz_X12_lakes_192 rfl rfl
theorem dX12_lakes_195 : decode cX12_lakes 195 = .ok (.iastore, 1) := dz_79 (n := 192) (r := 3) hz_X12_lakes_192 rfl
theorem dX12_lakes_196 : decode cX12_lakes 196 = .ok (.iinc 4 1, 3) := dz_132 (n := 192) (r := 4) hz_X12_lakes_192 rfl rfl rfl
theorem dX12_lakes_199 : decode cX12_lakes 199 = .ok (.iinc 6 1, 3) := dz_132 (n := 192) (r := 7) hz_X12_lakes_192 rfl rfl rfl
theorem dX12_lakes_202 : decode cX12_lakes 202 = .ok (.goto (-83), 3) := dz_167 (n := 192) (r := 10) hz_X12_lakes_192 rfl (by decide +kernel)
theorem dX12_lakes_205 : decode cX12_lakes 205 = .ok (.iinc 5 1, 3) := dz_132 (n := 192) (r := 13) hz_X12_lakes_192 rfl rfl rfl
theorem dX12_lakes_208 : decode cX12_lakes 208 = .ok (.goto (-99), 3) := dz_167 (n := 192) (r := 16) hz_X12_lakes_192 rfl (by decide +kernel)
theorem dX12_lakes_211 : decode cX12_lakes 211 = .ok (.iinc 3 1, 3) := dz_132 (n := 192) (r := 19) hz_X12_lakes_192 rfl rfl rfl
theorem dX12_lakes_214 : decode cX12_lakes 214 = .ok (.goto (-170), 3) := dz_167 (n := 192) (r := 22) hz_X12_lakes_192 rfl (by decide +kernel)
theorem dX12_lakes_217 : decode cX12_lakes 217 = .ok (.iload_n 2, 1) := dz_28 (n := 192) (r := 25) hz_X12_lakes_192 rfl
theorem dX12_lakes_218 : decode cX12_lakes 218 = .ok (.ireturn, 1) := dz_172 (n := 192) (r := 26) hz_X12_lakes_192 rfl
theorem hz_X12_down_0 : (cX12_down.data.toList.drop 0).take 40 = [42, 27, 182, 1, 25, 153, 0, 12, 42, 182, 0, 193, 16, 10, 164, 0, 7, 20, 1, 59, 173, 42, 182, 1, 5, 3, 61, 28, 42, 180, 1, 29, 162, 0, 126, 3, 62, 29, 42, 182] := by decide +kernel
theorem dX12_down_0 : decode cX12_down 0 = .ok (.aload_n 0, 1) := dz_42 (n := 0) (r := 0) hz_X12_down_0 rfl
theorem dX12_down_1 : decode cX12_down 1 = .ok (.iload_n 1, 1) := dz_27 (n := 0) (r := 1) hz_X12_down_0 rfl
theorem dX12_down_2 : decode cX12_down 2 = .ok (.invokevirtual 281, 3) := dz_182 (n := 0) (r := 2) hz_X12_down_0 rfl rfl
theorem dX12_down_5 : decode cX12_down 5 = .ok (.ifCond .eq 12, 3) := dz_153 (n := 0) (r := 5) hz_X12_down_0 rfl (by decide +kernel)
theorem dX12_down_8 : decode cX12_down 8 = .ok (.aload_n 0, 1) := dz_42 (n := 0) (r := 8) hz_X12_down_0 rfl
theorem dX12_down_9 : decode cX12_down 9 = .ok (.invokevirtual 193, 3) := dz_182 (n := 0) (r := 9) hz_X12_down_0 rfl rfl
theorem dX12_down_12 : decode cX12_down 12 = .ok (.bipush 10, 2) := dz_16 (n := 0) (r := 12) hz_X12_down_0 rfl rfl
theorem dX12_down_14 : decode cX12_down 14 = .ok (.if_icmp .le 7, 3) := dz_164 (n := 0) (r := 14) hz_X12_down_0 rfl (by decide +kernel)
theorem dX12_down_17 : decode cX12_down 17 = .ok (.ldc2_w 315, 3) := dz_20 (n := 0) (r := 17) hz_X12_down_0 rfl rfl
theorem dX12_down_20 : decode cX12_down 20 = .ok (.lreturn, 1) := dz_173 (n := 0) (r := 20) hz_X12_down_0 rfl
theorem dX12_down_21 : decode cX12_down 21 = .ok (.aload_n 0, 1) := dz_42 (n := 0) (r := 21) hz_X12_down_0 rfl
theorem dX12_down_22 : decode cX12_down 22 = .ok (.invokevirtual 261, 3) := dz_182 (n := 0) (r := 22) hz_X12_down_0 rfl rfl
theorem dX12_down_25 : decode cX12_down 25 = .ok (.iconst 0, 1) := dz_3 (n := 0) (r := 25) hz_X12_down_0 rfl
theorem dX12_down_26 : decode cX12_down 26 = .ok (.istore_n 2, 1) := dz_61 (n := 0) (r := 26) hz_X12_down_0 rfl
theorem dX12_down_27 : decode cX12_down 27 = .ok (.iload_n 2, 1) := dz_28 (n := 0) (r := 27) hz_X12_down_0 rfl
theorem dX12_down_28 : decode cX12_down 28 = .ok (.aload_n 0, 1) := dz_42 (n := 0) (r := 28) hz_X12_down_0 rfl
theorem dX12_down_29 : decode cX12_down 29 = .ok (.getfield 285, 3) := dz_180 (n := 0) (r := 29) hz_X12_down_0 rfl rfl
theorem hz_X12_down_32 : (cX12_down.data.toList.drop 32).take 40 = [162, 0, 126, 3, 62, 29, 42, 182, 1, 14, 162, 0, 110, 42, 180, 0, 57, 29, 46, 42, 180, 0, 63, 28, 46, 159, 0, 6, 167, 0, 86, 42, 180, 0, 84, 29, 9, 80, 3, 54] := by decide +kernel
theorem dX12_down_32 : decode cX12_down 32 = .ok (.if_icmp .ge 126, 3) := dz_162 (n := 32) (r := 0) hz_X12_down_32 rfl (by decide +kernel)
theorem dX12_down_35 : decode cX12_down 35 = .ok (.iconst 0, 1) := dz_3 (n := 32) (r := 3) hz_X12_down_32 rfl
theorem dX12_down_36 : decode cX12_down 36 = .ok (.istore_n 3, 1) := dz_62 (n := 32) (r := 4) hz_X12_down_32 rfl
theorem dX12_down_37 : decode cX12_down 37 = .ok (.iload_n 3, 1) := dz_29 (n := 32) (r := 5) hz_X12_down_32 rfl
theorem dX12_down_38 : decode cX12_down 38 = .ok (.aload_n 0, 1) := dz_42 (n := 32) (r := 6) hz_X12_down_32 rfl
theorem dX12_down_39 : decode cX12_down 39 = .ok (.invokevirtual 270, 3) := dz_182 (n := 32) (r := 7) hz_X12_down_32 rfl rfl
theorem dX12_down_42 : decode cX12_down 42 = .ok (.if_icmp .ge 110, 3) := dz_162 (n := 32) (r := 10) hz_X12_down_32 rfl (by decide +kernel)
theorem dX12_down_45 : decode cX12_down 45 = .ok (.aload_n 0, 1) := dz_42 (n := 32) (r := 13) hz_X12_down_32 rfl
theorem dX12_down_46 : decode cX12_down 46 = .ok (.getfield 57, 3) := dz_180 (n := 32) (r := 14) hz_X12_down_32 rfl rfl
theorem dX12_down_49 : decode cX12_down 49 = .ok (.iload_n 3, 1) := dz_29 (n := 32) (r := 17) hz_X12_down_32 rfl
theorem dX12_down_50 : decode cX12_down 50 = .ok (.iaload, 1) := dz_46 (n := 32) (r := 18) hz_X12_down_32 rfl
theorem dX12_down_51 : decode cX12_down 51 = .ok (.aload_n 0, 1) := dz_42 (n := 32) (r := 19) hz_X12_down_32 rfl
theorem dX12_down_52 : decode cX12_down 52 = .ok (.getfield 63, 3) := dz_180 (n := 32) (r := 20) hz_X12_down_32 rfl rfl
theorem dX12_down_55 : decode cX12_down 55 = .ok (.iload_n 2, 1) := dz_28 (n := 32) (r := 23) hz_X12_down_32 rfl
theorem dX12_down_56 : decode cX12_down 56 = .ok (.iaload, 1) := dz_46 (n := 32) (r := 24) hz_X12_down_32 rfl
theorem dX12_down_57 : decode cX12_down 57 = .ok (.if_icmp .eq 6, 3) := dz_159 (n := 32) (r := 25) hz_X12_down_32 rfl (by decide +kernel)
theorem dX12_down_60 : decode cX12_down 60 = .ok (.goto 86, 3) := dz_167 (n := 32) (r := 28) hz_X12_down_32 rfl (by decide +kernel)
theorem dX12_down_63 : decode cX12_down 63 = .ok (.aload_n 0, 1) := dz_42 (n := 32) (r := 31) hz_X12_down_32 rfl
theorem hz_X12_down_64 : (cX12_down.data.toList.drop 64).take 40 = [180, 0, 84, 29, 9, 80, 3, 54, 4, 21, 4, 42, 182, 0, 193, 162, 0, 49, 42, 180, 0, 57, 29, 4, 21, 4, 120, 130, 46, 42, 180, 0, 57, 29, 46, 162, 0, 23, 42, 180] := by decide +kernel
theorem dX12_down_64 : decode cX12_down 64 = .ok (.getfield 84, 3) := dz_180 (n := 64) (r := 0) hz_X12_down_64 rfl rfl
theorem dX12_down_67 : decode cX12_down 67 = .ok (.iload_n 3, 1) := dz_29 (n := 64) (r := 3) hz_X12_down_64 rfl
theorem dX12_down_68 : decode cX12_down 68 = .ok (.lconst 0, 1) := dz_9 (n := 64) (r := 4) hz_X12_down_64 rfl
theorem dX12_down_69 : decode cX12_down 69 = .ok (.lastore, 1) := dz_80 (n := 64) (r := 5) hz_X12_down_64 rfl
theorem dX12_down_70 : decode cX12_down 70 = .ok (.iconst 0, 1) := dz_3 (n := 64) (r := 6) hz_X12_down_64 rfl
theorem dX12_down_71 : decode cX12_down 71 = .ok (.istore 4, 2) := dz_54 (n := 64) (r := 7) hz_X12_down_64 rfl rfl
theorem dX12_down_73 : decode cX12_down 73 = .ok (.iload 4, 2) := dz_21 (n := 64) (r := 9) hz_X12_down_64 rfl rfl
theorem dX12_down_75 : decode cX12_down 75 = .ok (.aload_n 0, 1) := dz_42 (n := 64) (r := 11) hz_X12_down_64 rfl
theorem dX12_down_76 : decode cX12_down 76 = .ok (.invokevirtual 193, 3) := dz_182 (n := 64) (r := 12) hz_X12_down_64 rfl rfl
theorem dX12_down_79 : decode cX12_down 79 = .ok (.if_icmp .ge 49, 3) := dz_162 (n := 64) (r := 15) hz_X12_down_64 rfl (by decide +kernel)
theorem dX12_down_82 : decode cX12_down 82 = .ok (.aload_n 0, 1) := dz_42 (n := 64) (r := 18) hz_X12_down_64 rfl
theorem dX12_down_83 : decode cX12_down 83 = .ok (.getfield 57, 3) := dz_180 (n := 64) (r := 19) hz_X12_down_64 rfl rfl
theorem dX12_down_86 : decode cX12_down 86 = .ok (.iload_n 3, 1) := dz_29 (n := 64) (r := 22) hz_X12_down_64 rfl
theorem dX12_down_87 : decode cX12_down 87 = .ok (.iconst 1, 1) := dz_4 (n := 64) (r := 23) hz_X12_down_64 rfl
theorem dX12_down_88 : decode cX12_down 88 = .ok (.iload 4, 2) := dz_21 (n := 64) (r := 24) hz_X12_down_64 rfl rfl
theorem dX12_down_90 : decode cX12_down 90 = .ok (.ishl, 1) := dz_120 (n := 64) (r := 26) hz_X12_down_64 rfl
theorem dX12_down_91 : decode cX12_down 91 = .ok (.ixor, 1) := dz_130 (n := 64) (r := 27) hz_X12_down_64 rfl
theorem dX12_down_92 : decode cX12_down 92 = .ok (.iaload, 1) := dz_46 (n := 64) (r := 28) hz_X12_down_64 rfl
theorem dX12_down_93 : decode cX12_down 93 = .ok (.aload_n 0, 1) := dz_42 (n := 64) (r := 29) hz_X12_down_64 rfl
theorem dX12_down_94 : decode cX12_down 94 = .ok (.getfield 57, 3) := dz_180 (n := 64) (r := 30) hz_X12_down_64 rfl rfl
theorem hz_X12_down_96 : (cX12_down.data.toList.drop 96).take 40 = [57, 29, 46, 162, 0, 23, 42, 180, 0, 84, 29, 92, 47, 42, 180, 0, 84, 29, 4, 21, 4, 120, 130, 47, 97, 80, 132, 4, 1, 167, 255, 204, 42, 180, 0, 84, 29, 47, 9, 148] := by decide +kernel
theorem dX12_down_97 : decode cX12_down 97 = .ok (.iload_n 3, 1) := dz_29 (n := 96) (r := 1) hz_X12_down_96 rfl
theorem dX12_down_98 : decode cX12_down 98 = .ok (.iaload, 1) := dz_46 (n := 96) (r := 2) hz_X12_down_96 rfl
theorem dX12_down_99 : decode cX12_down 99 = .ok (.if_icmp .ge 23, 3) := dz_162 (n := 96) (r := 3) hz_X12_down_96 rfl (by decide +kernel)
theorem dX12_down_102 : decode cX12_down 102 = .ok (.aload_n 0, 1) := dz_42 (n := 96) (r := 6) hz_X12_down_96 rfl
theorem dX12_down_103 : decode cX12_down 103 = .ok (.getfield 84, 3) := dz_180 (n := 96) (r := 7) hz_X12_down_96 rfl rfl
theorem dX12_down_106 : decode cX12_down 106 = .ok (.iload_n 3, 1) := dz_29 (n := 96) (r := 10) hz_X12_down_96 rfl
theorem dX12_down_107 : decode cX12_down 107 = .ok (.dup2, 1) := dz_92 (n := 96) (r := 11) hz_X12_down_96 rfl
theorem dX12_down_108 : decode cX12_down 108 = .ok (.laload, 1) := dz_47 (n := 96) (r := 12) hz_X12_down_96 rfl
theorem dX12_down_109 : decode cX12_down 109 = .ok (.aload_n 0, 1) := dz_42 (n := 96) (r := 13) hz_X12_down_96 rfl
theorem dX12_down_110 : decode cX12_down 110 = .ok (.getfield 84, 3) := dz_180 (n := 96) (r := 14) hz_X12_down_96 rfl rfl
theorem dX12_down_113 : decode cX12_down 113 = .ok (.iload_n 3, 1) := dz_29 (n := 96) (r := 17) hz_X12_down_96 rfl
theorem dX12_down_114 : decode cX12_down 114 = .ok (.iconst 1, 1) := dz_4 (n := 96) (r := 18) hz_X12_down_96 rfl
theorem dX12_down_115 : decode cX12_down 115 = .ok (.iload 4, 2) := dz_21 (n := 96) (r := 19) hz_X12_down_96 rfl rfl
theorem dX12_down_117 : decode cX12_down 117 = .ok (.ishl, 1) := dz_120 (n := 96) (r := 21) hz_X12_down_96 rfl
theorem dX12_down_118 : decode cX12_down 118 = .ok (.ixor, 1) := dz_130 (n := 96) (r := 22) hz_X12_down_96 rfl
theorem dX12_down_119 : decode cX12_down 119 = .ok (.laload, 1) := dz_47 (n := 96) (r := 23) hz_X12_down_96 rfl
theorem dX12_down_120 : decode cX12_down 120 = .ok (.ladd, 1) := dz_97 (n := 96) (r := 24) hz_X12_down_96 rfl
theorem dX12_down_121 : decode cX12_down 121 = .ok (.lastore, 1) := dz_80 (n := 96) (r := 25) hz_X12_down_96 rfl
theorem dX12_down_122 : decode cX12_down 122 = .ok (.iinc 4 1, 3) := dz_132 (n := 96) (r := 26) hz_X12_down_96 rfl rfl rfl
theorem dX12_down_125 : decode cX12_down 125 = .ok (.goto (-52), 3) := dz_167 (n := 96) (r := 29) hz_X12_down_96 rfl (by decide +kernel)
theorem hz_X12_down_128 : (cX12_down.data.toList.drop 128).take 40 = [42, 180, 0, 84, 29, 47, 9, 148, 154, 0, 10, 42, 180, 0, 84, 29, 10, 80, 132, 3, 1, 167, 255, 144, 132, 2, 1, 167, 255, 128, 42, 180, 0, 84, 27, 47, 173] := by decide +kernel
theorem dX12_down_128 : decode cX12_down 128 = .ok (.aload_n 0, 1) := dz_42 (n := 128) (r := 0) hz_X12_down_128 rfl
theorem dX12_down_129 : decode cX12_down 129 = .ok (.getfield 84, 3) := dz_180 (n := 128) (r := 1) hz_X12_down_128 rfl rfl
theorem dX12_down_132 : decode cX12_down 132 = .ok (.iload_n 3, 1) := dz_29 (n := 128) (r := 4) hz_X12_down_128 rfl
theorem dX12_down_133 : decode cX12_down 133 = .ok (.laload, 1) := dz_47 (n := 128) (r := 5) hz_X12_down_128 rfl
theorem dX12_down_134 : decode cX12_down 134 = .ok (.lconst 0, 1) := dz_9 (n := 128) (r := 6) hz_X12_down_128 rfl
theorem dX12_down_135 : decode cX12_down 135 = .ok (.lcmp, 1) := dz_148 (n := 128) (r := 7) hz_X12_down_128 rfl
theorem dX12_down_136 : decode cX12_down 136 = .ok (.ifCond .ne 10, 3) := dz_154 (n := 128) (r := 8) hz_X12_down_128 rfl (by decide +kernel)
theorem dX12_down_139 : decode cX12_down 139 = .ok (.aload_n 0, 1) := dz_42 (n := 128) (r := 11) hz_X12_down_128 rfl
theorem dX12_down_140 : decode cX12_down 140 = .ok (.getfield 84, 3) := dz_180 (n := 128) (r := 12) hz_X12_down_128 rfl rfl
theorem dX12_down_143 : decode cX12_down 143 = .ok (.iload_n 3, 1) := dz_29 (n := 128) (r := 15) hz_X12_down_128 rfl
theorem dX12_down_144 : decode cX12_down 144 = .ok (.lconst 1, 1) := dz_10 (n := 128) (r := 16) hz_X12_down_128 rfl
theorem dX12_down_145 : decode cX12_down 145 = .ok (.lastore, 1) := dz_80 (n := 128) (r := 17) hz_X12_down_128 rfl
theorem dX12_down_146 : decode cX12_down 146 = .ok (.iinc 3 1, 3) := dz_132 (n := 128) (r := 18) hz_X12_down_128 rfl rfl rfl
theorem dX12_down_149 : decode cX12_down 149 = .ok (.goto (-112), 3) := dz_167 (n := 128) (r := 21) hz_X12_down_128 rfl (by decide +kernel)
theorem dX12_down_152 : decode cX12_down 152 = .ok (.iinc 2 1, 3) := dz_132 (n := 128) (r := 24) hz_X12_down_128 rfl rfl rfl
theorem dX12_down_155 : decode cX12_down 155 = .ok (.goto (-128), 3) := dz_167 (n := 128) (r := 27) hz_X12_down_128 rfl (by decide +kernel)
theorem dX12_down_158 : decode cX12_down 158 = .ok (.aload_n 0, 1) := dz_42 (n := 128) (r := 30) hz_X12_down_128 rfl
theorem dX12_down_159 : decode cX12_down 159 = .ok (.getfield 84, 3) := dz_180 (n := 128) (r := 31) hz_X12_down_128 rfl rfl
theorem hz_X12_down_160 : (cX12_down.data.toList.drop 160).take 40 = [0, 84, 27, 47, 173] := by decide +kernel
theorem dX12_down_162 : decode cX12_down 162 = .ok (.iload_n 1, 1) := dz_27 (n := 160) (r := 2) hz_X12_down_160 rfl
theorem dX12_down_163 : decode cX12_down 163 = .ok (.laload, 1) := dz_47 (n := 160) (r := 3) hz_X12_down_160 rfl
theorem dX12_down_164 : decode cX12_down 164 = .ok (.lreturn, 1) := dz_173 (n := 160) (r := 4) hz_X12_down_160 rfl
theorem hz_X12_nearest_0 : (cX12_nearest.data.toList.drop 0).take 40 = [42, 27, 182, 1, 25, 153, 0, 12, 28, 3, 4, 184, 0, 213, 154, 0, 7, 19, 1, 32, 172, 42, 182, 1, 5, 2, 62, 3, 54, 4, 21, 4, 42, 182, 1, 14, 162, 0, 51, 42] := by decide +kernel
theorem dX12_nearest_0 : decode cX12_nearest 0 = .ok (.aload_n 0, 1) := dz_42 (n := 0) (r := 0) hz_X12_nearest_0 rfl
theorem dX12_nearest_1 : decode cX12_nearest 1 = .ok (.iload_n 1, 1) := dz_27 (n := 0) (r := 1) hz_X12_nearest_0 rfl
theorem dX12_nearest_2 : decode cX12_nearest 2 = .ok (.invokevirtual 281, 3) := dz_182 (n := 0) (r := 2) hz_X12_nearest_0 rfl rfl
theorem dX12_nearest_5 : decode cX12_nearest 5 = .ok (.ifCond .eq 12, 3) := dz_153 (n := 0) (r := 5) hz_X12_nearest_0 rfl (by decide +kernel)
theorem dX12_nearest_8 : decode cX12_nearest 8 = .ok (.iload_n 2, 1) := dz_28 (n := 0) (r := 8) hz_X12_nearest_0 rfl
theorem dX12_nearest_9 : decode cX12_nearest 9 = .ok (.iconst 0, 1) := dz_3 (n := 0) (r := 9) hz_X12_nearest_0 rfl
theorem dX12_nearest_10 : decode cX12_nearest 10 = .ok (.iconst 1, 1) := dz_4 (n := 0) (r := 10) hz_X12_nearest_0 rfl
theorem dX12_nearest_11 : decode cX12_nearest 11 = .ok (.invokestatic 213, 3) := dz_184 (n := 0) (r := 11) hz_X12_nearest_0 rfl rfl
theorem dX12_nearest_14 : decode cX12_nearest 14 = .ok (.ifCond .ne 7, 3) := dz_154 (n := 0) (r := 14) hz_X12_nearest_0 rfl (by decide +kernel)
theorem dX12_nearest_17 : decode cX12_nearest 17 = .ok (.ldc_w 288, 3) := dz_19 (n := 0) (r := 17) hz_X12_nearest_0 rfl rfl
theorem dX12_nearest_20 : decode cX12_nearest 20 = .ok (.ireturn, 1) := dz_172 (n := 0) (r := 20) hz_X12_nearest_0 rfl
theorem dX12_nearest_21 : decode cX12_nearest 21 = .ok (.aload_n 0, 1) := dz_42 (n := 0) (r := 21) hz_X12_nearest_0 rfl
theorem dX12_nearest_22 : decode cX12_nearest 22 = .ok (.invokevirtual 261, 3) := dz_182 (n := 0) (r := 22) hz_X12_nearest_0 rfl rfl
theorem dX12_nearest_25 : decode cX12_nearest 25 = .ok (.iconst (-1), 1) := dz_2 (n := 0) (r := 25) hz_X12_nearest_0 rfl
theorem dX12_nearest_26 : decode cX12_nearest 26 = .ok (.istore_n 3, 1) := dz_62 (n := 0) (r := 26) hz_X12_nearest_0 rfl
theorem dX12_nearest_27 : decode cX12_nearest 27 = .ok (.iconst 0, 1) := dz_3 (n := 0) (r := 27) hz_X12_nearest_0 rfl
theorem dX12_nearest_28 : decode cX12_nearest 28 = .ok (.istore 4, 2) := dz_54 (n := 0) (r := 28) hz_X12_nearest_0 rfl rfl
theorem dX12_nearest_30 : decode cX12_nearest 30 = .ok (.iload 4, 2) := dz_21 (n := 0) (r := 30) hz_X12_nearest_0 rfl rfl
theorem hz_X12_nearest_32 : (cX12_nearest.data.toList.drop 32).take 40 = [42, 182, 1, 14, 162, 0, 51, 42, 180, 0, 57, 21, 4, 46, 42, 180, 0, 63, 3, 46, 159, 0, 6, 167, 0, 26, 29, 155, 0, 19, 21, 4, 27, 130, 184, 1, 36, 29, 27, 130] := by decide +kernel
theorem dX12_nearest_32 : decode cX12_nearest 32 = .ok (.aload_n 0, 1) := dz_42 (n := 32) (r := 0) hz_X12_nearest_32 rfl
theorem dX12_nearest_33 : decode cX12_nearest 33 = .ok (.invokevirtual 270, 3) := dz_182 (n := 32) (r := 1) hz_X12_nearest_32 rfl rfl
theorem dX12_nearest_36 : decode cX12_nearest 36 = .ok (.if_icmp .ge 51, 3) := dz_162 (n := 32) (r := 4) hz_X12_nearest_32 rfl (by decide +kernel)
theorem dX12_nearest_39 : decode cX12_nearest 39 = .ok (.aload_n 0, 1) := dz_42 (n := 32) (r := 7) hz_X12_nearest_32 rfl
theorem dX12_nearest_40 : decode cX12_nearest 40 = .ok (.getfield 57, 3) := dz_180 (n := 32) (r := 8) hz_X12_nearest_32 rfl rfl
theorem dX12_nearest_43 : decode cX12_nearest 43 = .ok (.iload 4, 2) := dz_21 (n := 32) (r := 11) hz_X12_nearest_32 rfl rfl
theorem dX12_nearest_45 : decode cX12_nearest 45 = .ok (.iaload, 1) := dz_46 (n := 32) (r := 13) hz_X12_nearest_32 rfl
theorem dX12_nearest_46 : decode cX12_nearest 46 = .ok (.aload_n 0, 1) := dz_42 (n := 32) (r := 14) hz_X12_nearest_32 rfl
theorem dX12_nearest_47 : decode cX12_nearest 47 = .ok (.getfield 63, 3) := dz_180 (n := 32) (r := 15) hz_X12_nearest_32 rfl rfl
theorem dX12_nearest_50 : decode cX12_nearest 50 = .ok (.iconst 0, 1) := dz_3 (n := 32) (r := 18) hz_X12_nearest_32 rfl
theorem dX12_nearest_51 : decode cX12_nearest 51 = .ok (.iaload, 1) := dz_46 (n := 32) (r := 19) hz_X12_nearest_32 rfl
theorem dX12_nearest_52 : decode cX12_nearest 52 = .ok (.if_icmp .eq 6, 3) := dz_159 (n := 32) (r := 20) hz_X12_nearest_32 rfl (by decide +kernel)
theorem dX12_nearest_55 : decode cX12_nearest 55 = .ok (.goto 26, 3) := dz_167 (n := 32) (r := 23) hz_X12_nearest_32 rfl (by decide +kernel)
theorem dX12_nearest_58 : decode cX12_nearest 58 = .ok (.iload_n 3, 1) := dz_29 (n := 32) (r := 26) hz_X12_nearest_32 rfl
theorem dX12_nearest_59 : decode cX12_nearest 59 = .ok (.ifCond .lt 19, 3) := dz_155 (n := 32) (r := 27) hz_X12_nearest_32 rfl (by decide +kernel)
theorem dX12_nearest_62 : decode cX12_nearest 62 = .ok (.iload 4, 2) := dz_21 (n := 32) (r := 30) hz_X12_nearest_32 rfl rfl
theorem hz_X12_nearest_64 : (cX12_nearest.data.toList.drop 64).take 40 = [27, 130, 184, 1, 36, 29, 27, 130, 184, 1, 36, 162, 0, 6, 21, 4, 62, 132, 4, 1, 167, 255, 202, 28, 154, 0, 7, 29, 167, 0, 9, 29, 27, 130, 184, 1, 36, 172] := by decide +kernel
theorem dX12_nearest_64 : decode cX12_nearest 64 = .ok (.iload_n 1, 1) := dz_27 (n := 64) (r := 0) hz_X12_nearest_64 rfl
theorem dX12_nearest_65 : decode cX12_nearest 65 = .ok (.ixor, 1) := dz_130 (n := 64) (r := 1) hz_X12_nearest_64 rfl
theorem dX12_nearest_66 : decode cX12_nearest 66 = .ok (.invokestatic 292, 3) := dz_184 (n := 64) (r := 2) hz_X12_nearest_64 rfl rfl
theorem dX12_nearest_69 : decode cX12_nearest 69 = .ok (.iload_n 3, 1) := dz_29 (n := 64) (r := 5) hz_X12_nearest_64 rfl
theorem dX12_nearest_70 : decode cX12_nearest 70 = .ok (.iload_n 1, 1) := dz_27 (n := 64) (r := 6) hz_X12_nearest_64 rfl
theorem dX12_nearest_71 : decode cX12_nearest 71 = .ok (.ixor, 1) := dz_130 (n := 64) (r := 7) hz_X12_nearest_64 rfl
theorem dX12_nearest_72 : decode cX12_nearest 72 = .ok (.invokestatic 292, 3) := dz_184 (n := 64) (r := 8) hz_X12_nearest_64 rfl rfl
theorem dX12_nearest_75 : decode cX12_nearest 75 = .ok (.if_icmp .ge 6, 3) := dz_162 (n := 64) (r := 11) hz_X12_nearest_64 rfl (by decide +kernel)
theorem dX12_nearest_78 : decode cX12_nearest 78 = .ok (.iload 4, 2) := dz_21 (n := 64) (r := 14) hz_X12_nearest_64 rfl rfl
theorem dX12_nearest_80 : decode cX12_nearest 80 = .ok (.istore_n 3, 1) := dz_62 (n := 64) (r := 16) hz_X12_nearest_64 rfl
theorem dX12_nearest_81 : decode cX12_nearest 81 = .ok (.iinc 4 1, 3) := dz_132 (n := 64) (r := 17) hz_X12_nearest_64 rfl rfl rfl
theorem dX12_nearest_84 : decode cX12_nearest 84 = .ok (.goto (-54), 3) := dz_167 (n := 64) (r := 20) hz_X12_nearest_64 rfl (by decide +kernel)
theorem dX12_nearest_87 : decode cX12_nearest 87 = .ok (.iload_n 2, 1) := dz_28 (n := 64) (r := 23) hz_X12_nearest_64 rfl
theorem dX12_nearest_88 : decode cX12_nearest 88 = .ok (.ifCond .ne 7, 3) := dz_154 (n := 64) (r := 24) hz_X12_nearest_64 rfl (by decide +kernel)
theorem dX12_nearest_91 : decode cX12_nearest 91 = .ok (.iload_n 3, 1) := dz_29 (n := 64) (r := 27) hz_X12_nearest_64 rfl
theorem dX12_nearest_92 : decode cX12_nearest 92 = .ok (.goto 9, 3) := dz_167 (n := 64) (r := 28) hz_X12_nearest_64 rfl (by decide +kernel)
theorem dX12_nearest_95 : decode cX12_nearest 95 = .ok (.iload_n 3, 1) := dz_29 (n := 64) (r := 31) hz_X12_nearest_64 rfl
theorem hz_X12_nearest_96 : (cX12_nearest.data.toList.drop 96).take 40 = [27, 130, 184, 1, 36, 172] := by decide +kernel
theorem dX12_nearest_96 : decode cX12_nearest 96 = .ok (.iload_n 1, 1) := dz_27 (n := 96) (r := 0) hz_X12_nearest_96 rfl
theorem dX12_nearest_97 : decode cX12_nearest 97 = .ok (.ixor, 1) := dz_130 (n := 96) (r := 1) hz_X12_nearest_96 rfl
theorem dX12_nearest_98 : decode cX12_nearest 98 = .ok (.invokestatic 292, 3) := dz_184 (n := 96) (r := 2) hz_X12_nearest_96 rfl rfl
theorem dX12_nearest_101 : decode cX12_nearest 101 = .ok (.ireturn, 1) := dz_172 (n := 96) (r := 5) hz_X12_nearest_96 rfl
theorem hz_X12_stiff_0 : (cX12_stiff.data.toList.drop 0).take 40 = [42, 27, 182, 0, 233, 153, 0, 16, 42, 28, 182, 0, 233, 153, 0, 8, 27, 28, 160, 0, 7, 19, 1, 32, 172, 42, 182, 1, 5, 19, 1, 28, 62, 19, 1, 28, 54, 4, 3, 54] := by decide +kernel
theorem dX12_stiff_0 : decode cX12_stiff 0 = .ok (.aload_n 0, 1) := dz_42 (n := 0) (r := 0) hz_X12_stiff_0 rfl
theorem dX12_stiff_1 : decode cX12_stiff 1 = .ok (.iload_n 1, 1) := dz_27 (n := 0) (r := 1) hz_X12_stiff_0 rfl
theorem dX12_stiff_2 : decode cX12_stiff 2 = .ok (.invokevirtual 233, 3) := dz_182 (n := 0) (r := 2) hz_X12_stiff_0 rfl rfl
theorem dX12_stiff_5 : decode cX12_stiff 5 = .ok (.ifCond .eq 16, 3) := dz_153 (n := 0) (r := 5) hz_X12_stiff_0 rfl (by decide +kernel)
theorem dX12_stiff_8 : decode cX12_stiff 8 = .ok (.aload_n 0, 1) := dz_42 (n := 0) (r := 8) hz_X12_stiff_0 rfl
theorem dX12_stiff_9 : decode cX12_stiff 9 = .ok (.iload_n 2, 1) := dz_28 (n := 0) (r := 9) hz_X12_stiff_0 rfl
theorem dX12_stiff_10 : decode cX12_stiff 10 = .ok (.invokevirtual 233, 3) := dz_182 (n := 0) (r := 10) hz_X12_stiff_0 rfl rfl
theorem dX12_stiff_13 : decode cX12_stiff 13 = .ok (.ifCond .eq 8, 3) := dz_153 (n := 0) (r := 13) hz_X12_stiff_0 rfl (by decide +kernel)
theorem dX12_stiff_16 : decode cX12_stiff 16 = .ok (.iload_n 1, 1) := dz_27 (n := 0) (r := 16) hz_X12_stiff_0 rfl
theorem dX12_stiff_17 : decode cX12_stiff 17 = .ok (.iload_n 2, 1) := dz_28 (n := 0) (r := 17) hz_X12_stiff_0 rfl
theorem dX12_stiff_18 : decode cX12_stiff 18 = .ok (.if_icmp .ne 7, 3) := dz_160 (n := 0) (r := 18) hz_X12_stiff_0 rfl (by decide +kernel)
theorem dX12_stiff_21 : decode cX12_stiff 21 = .ok (.ldc_w 288, 3) := dz_19 (n := 0) (r := 21) hz_X12_stiff_0 rfl rfl
theorem dX12_stiff_24 : decode cX12_stiff 24 = .ok (.ireturn, 1) := dz_172 (n := 0) (r := 24) hz_X12_stiff_0 rfl
theorem dX12_stiff_25 : decode cX12_stiff 25 = .ok (.aload_n 0, 1) := dz_42 (n := 0) (r := 25) hz_X12_stiff_0 rfl
theorem dX12_stiff_26 : decode cX12_stiff 26 = .ok (.invokevirtual 261, 3) := dz_182 (n := 0) (r := 26) hz_X12_stiff_0 rfl rfl
theorem dX12_stiff_29 : decode cX12_stiff 29 = .ok (.ldc_w 284, 3) := dz_19 (n := 0) (r := 29) hz_X12_stiff_0 rfl rfl
theorem hz_X12_stiff_32 : (cX12_stiff.data.toList.drop 32).take 40 = [62, 19, 1, 28, 54, 4, 3, 54, 5, 21, 5, 42, 182, 1, 14, 162, 0, 67, 21, 5, 27, 184, 1, 45, 21, 5, 28, 184, 1, 45, 160, 0, 25, 42, 180, 0, 57, 21, 5, 46] := by decide +kernel
theorem dX12_stiff_32 : decode cX12_stiff 32 = .ok (.istore_n 3, 1) := dz_62 (n := 32) (r := 0) hz_X12_stiff_32 rfl
theorem dX12_stiff_33 : decode cX12_stiff 33 = .ok (.ldc_w 284, 3) := dz_19 (n := 32) (r := 1) hz_X12_stiff_32 rfl rfl
theorem dX12_stiff_36 : decode cX12_stiff 36 = .ok (.istore 4, 2) := dz_54 (n := 32) (r := 4) hz_X12_stiff_32 rfl rfl
theorem dX12_stiff_38 : decode cX12_stiff 38 = .ok (.iconst 0, 1) := dz_3 (n := 32) (r := 6) hz_X12_stiff_32 rfl
theorem dX12_stiff_39 : decode cX12_stiff 39 = .ok (.istore 5, 2) := dz_54 (n := 32) (r := 7) hz_X12_stiff_32 rfl rfl
theorem dX12_stiff_41 : decode cX12_stiff 41 = .ok (.iload 5, 2) := dz_21 (n := 32) (r := 9) hz_X12_stiff_32 rfl rfl
theorem dX12_stiff_43 : decode cX12_stiff 43 = .ok (.aload_n 0, 1) := dz_42 (n := 32) (r := 11) hz_X12_stiff_32 rfl
theorem dX12_stiff_44 : decode cX12_stiff 44 = .ok (.invokevirtual 270, 3) := dz_182 (n := 32) (r := 12) hz_X12_stiff_32 rfl rfl
theorem dX12_stiff_47 : decode cX12_stiff 47 = .ok (.if_icmp .ge 67, 3) := dz_162 (n := 32) (r := 15) hz_X12_stiff_32 rfl (by decide +kernel)
theorem dX12_stiff_50 : decode cX12_stiff 50 = .ok (.iload 5, 2) := dz_21 (n := 32) (r := 18) hz_X12_stiff_32 rfl rfl
theorem dX12_stiff_52 : decode cX12_stiff 52 = .ok (.iload_n 1, 1) := dz_27 (n := 32) (r := 20) hz_X12_stiff_32 rfl
theorem dX12_stiff_53 : decode cX12_stiff 53 = .ok (.invokestatic 301, 3) := dz_184 (n := 32) (r := 21) hz_X12_stiff_32 rfl rfl
theorem dX12_stiff_56 : decode cX12_stiff 56 = .ok (.iload 5, 2) := dz_21 (n := 32) (r := 24) hz_X12_stiff_32 rfl rfl
theorem dX12_stiff_58 : decode cX12_stiff 58 = .ok (.iload_n 2, 1) := dz_28 (n := 32) (r := 26) hz_X12_stiff_32 rfl
theorem dX12_stiff_59 : decode cX12_stiff 59 = .ok (.invokestatic 301, 3) := dz_184 (n := 32) (r := 27) hz_X12_stiff_32 rfl rfl
theorem dX12_stiff_62 : decode cX12_stiff 62 = .ok (.if_icmp .ne 25, 3) := dz_160 (n := 32) (r := 30) hz_X12_stiff_32 rfl (by decide +kernel)
theorem hz_X12_stiff_64 : (cX12_stiff.data.toList.drop 64).take 40 = [25, 42, 180, 0, 57, 21, 5, 46, 29, 162, 0, 35, 42, 180, 0, 57, 21, 5, 46, 62, 167, 0, 24, 42, 180, 0, 57, 21, 5, 46, 21, 4, 162, 0, 12, 42, 180, 0, 57, 21] := by decide +kernel
theorem dX12_stiff_65 : decode cX12_stiff 65 = .ok (.aload_n 0, 1) := dz_42 (n := 64) (r := 1) hz_X12_stiff_64 rfl
theorem dX12_stiff_66 : decode cX12_stiff 66 = .ok (.getfield 57, 3) := dz_180 (n := 64) (r := 2) hz_X12_stiff_64 rfl rfl
theorem dX12_stiff_69 : decode cX12_stiff 69 = .ok (.iload 5, 2) := dz_21 (n := 64) (r := 5) hz_X12_stiff_64 rfl rfl
theorem dX12_stiff_71 : decode cX12_stiff 71 = .ok (.iaload, 1) := dz_46 (n := 64) (r := 7) hz_X12_stiff_64 rfl
theorem dX12_stiff_72 : decode cX12_stiff 72 = .ok (.iload_n 3, 1) := dz_29 (n := 64) (r := 8) hz_X12_stiff_64 rfl
theorem dX12_stiff_73 : decode cX12_stiff 73 = .ok (.if_icmp .ge 35, 3) := dz_162 (n := 64) (r := 9) hz_X12_stiff_64 rfl (by decide +kernel)
theorem dX12_stiff_76 : decode cX12_stiff 76 = .ok (.aload_n 0, 1) := dz_42 (n := 64) (r := 12) hz_X12_stiff_64 rfl
theorem dX12_stiff_77 : decode cX12_stiff 77 = .ok (.getfield 57, 3) := dz_180 (n := 64) (r := 13) hz_X12_stiff_64 rfl rfl
theorem dX12_stiff_80 : decode cX12_stiff 80 = .ok (.iload 5, 2) := dz_21 (n := 64) (r := 16) hz_X12_stiff_64 rfl rfl
theorem dX12_stiff_82 : decode cX12_stiff 82 = .ok (.iaload, 1) := dz_46 (n := 64) (r := 18) hz_X12_stiff_64 rfl
theorem dX12_stiff_83 : decode cX12_stiff 83 = .ok (.istore_n 3, 1) := dz_62 (n := 64) (r := 19) hz_X12_stiff_64 rfl
theorem dX12_stiff_84 : decode cX12_stiff 84 = .ok (.goto 24, 3) := dz_167 (n := 64) (r := 20) hz_X12_stiff_64 rfl (by decide +kernel)
theorem dX12_stiff_87 : decode cX12_stiff 87 = .ok (.aload_n 0, 1) := dz_42 (n := 64) (r := 23) hz_X12_stiff_64 rfl
theorem dX12_stiff_88 : decode cX12_stiff 88 = .ok (.getfield 57, 3) := dz_180 (n := 64) (r := 24) hz_X12_stiff_64 rfl rfl
theorem dX12_stiff_91 : decode cX12_stiff 91 = .ok (.iload 5, 2) := dz_21 (n := 64) (r := 27) hz_X12_stiff_64 rfl rfl
theorem dX12_stiff_93 : decode cX12_stiff 93 = .ok (.iaload, 1) := dz_46 (n := 64) (r := 29) hz_X12_stiff_64 rfl
theorem dX12_stiff_94 : decode cX12_stiff 94 = .ok (.iload 4, 2) := dz_21 (n := 64) (r := 30) hz_X12_stiff_64 rfl rfl
theorem hz_X12_stiff_96 : (cX12_stiff.data.toList.drop 96).take 40 = [162, 0, 12, 42, 180, 0, 57, 21, 5, 46, 54, 4, 132, 5, 1, 167, 255, 186, 29, 19, 1, 28, 159, 0, 11, 21, 4, 19, 1, 28, 160, 0, 9, 19, 1, 32, 167, 0, 7, 21] := by decide +kernel
theorem dX12_stiff_96 : decode cX12_stiff 96 = .ok (.if_icmp .ge 12, 3) := dz_162 (n := 96) (r := 0) hz_X12_stiff_96 rfl (by decide +kernel)
theorem dX12_stiff_99 : decode cX12_stiff 99 = .ok (.aload_n 0, 1) := dz_42 (n := 96) (r := 3) hz_X12_stiff_96 rfl
theorem dX12_stiff_100 : decode cX12_stiff 100 = .ok (.getfield 57, 3) := dz_180 (n := 96) (r := 4) hz_X12_stiff_96 rfl rfl
theorem dX12_stiff_103 : decode cX12_stiff 103 = .ok (.iload 5, 2) := dz_21 (n := 96) (r := 7) hz_X12_stiff_96 rfl rfl
theorem dX12_stiff_105 : decode cX12_stiff 105 = .ok (.iaload, 1) := dz_46 (n := 96) (r := 9) hz_X12_stiff_96 rfl
theorem dX12_stiff_106 : decode cX12_stiff 106 = .ok (.istore 4, 2) := dz_54 (n := 96) (r := 10) hz_X12_stiff_96 rfl rfl
theorem dX12_stiff_108 : decode cX12_stiff 108 = .ok (.iinc 5 1, 3) := dz_132 (n := 96) (r := 12) hz_X12_stiff_96 rfl rfl rfl
theorem dX12_stiff_111 : decode cX12_stiff 111 = .ok (.goto (-70), 3) := dz_167 (n := 96) (r := 15) hz_X12_stiff_96 rfl (by decide +kernel)
theorem dX12_stiff_114 : decode cX12_stiff 114 = .ok (.iload_n 3, 1) := dz_29 (n := 96) (r := 18) hz_X12_stiff_96 rfl
theorem dX12_stiff_115 : decode cX12_stiff 115 = .ok (.ldc_w 284, 3) := dz_19 (n := 96) (r := 19) hz_X12_stiff_96 rfl rfl
theorem dX12_stiff_118 : decode cX12_stiff 118 = .ok (.if_icmp .eq 11, 3) := dz_159 (n := 96) (r := 22) hz_X12_stiff_96 rfl (by decide +kernel)
theorem dX12_stiff_121 : decode cX12_stiff 121 = .ok (.iload 4, 2) := dz_21 (n := 96) (r := 25) hz_X12_stiff_96 rfl rfl
theorem dX12_stiff_123 : decode cX12_stiff 123 = .ok (.ldc_w 284, 3) := dz_19 (n := 96) (r := 27) hz_X12_stiff_96 rfl rfl
theorem dX12_stiff_126 : decode cX12_stiff 126 = .ok (.if_icmp .ne 9, 3) := dz_160 (n := 96) (r := 30) hz_X12_stiff_96 rfl (by decide +kernel)
theorem hz_X12_stiff_128 : (cX12_stiff.data.toList.drop 128).take 40 = [9, 19, 1, 32, 167, 0, 7, 21, 4, 29, 100, 172] := by decide +kernel
theorem dX12_stiff_129 : decode cX12_stiff 129 = .ok (.ldc_w 288, 3) := dz_19 (n := 128) (r := 1) hz_X12_stiff_128 rfl rfl
theorem dX12_stiff_132 : decode cX12_stiff 132 = .ok (.goto 7, 3) := dz_167 (n := 128) (r := 4) hz_X12_stiff_128 rfl (by decide +kernel)
theorem dX12_stiff_135 : decode cX12_stiff 135 = .ok (.iload 4, 2) := dz_21 (n := 128) (r := 7) hz_X12_stiff_128 rfl rfl
theorem dX12_stiff_137 : decode cX12_stiff 137 = .ok (.iload_n 3, 1) := dz_29 (n := 128) (r := 9) hz_X12_stiff_128 rfl
theorem dX12_stiff_138 : decode cX12_stiff 138 = .ok (.isub, 1) := dz_100 (n := 128) (r := 10) hz_X12_stiff_128 rfl
theorem dX12_stiff_139 : decode cX12_stiff 139 = .ok (.ireturn, 1) := dz_172 (n := 128) (r := 11) hz_X12_stiff_128 rfl
theorem hz_X12_overlap_0 : (cX12_overlap.data.toList.drop 0).take 40 = [42, 182, 1, 5, 42, 180, 1, 29, 154, 0, 5, 3, 172, 42, 180, 0, 60, 17, 0, 150, 42, 180, 0, 63, 3, 46, 96, 46, 17, 1, 0, 164, 0, 6, 16, 254, 172, 3, 61, 3] := by decide +kernel
theorem dX12_overlap_0 : decode cX12_overlap 0 = .ok (.aload_n 0, 1) := dz_42 (n := 0) (r := 0) hz_X12_overlap_0 rfl
theorem dX12_overlap_1 : decode cX12_overlap 1 = .ok (.invokevirtual 261, 3) := dz_182 (n := 0) (r := 1) hz_X12_overlap_0 rfl rfl
theorem dX12_overlap_4 : decode cX12_overlap 4 = .ok (.aload_n 0, 1) := dz_42 (n := 0) (r := 4) hz_X12_overlap_0 rfl
theorem dX12_overlap_5 : decode cX12_overlap 5 = .ok (.getfield 285, 3) := dz_180 (n := 0) (r := 5) hz_X12_overlap_0 rfl rfl
theorem dX12_overlap_8 : decode cX12_overlap 8 = .ok (.ifCond .ne 5, 3) := dz_154 (n := 0) (r := 8) hz_X12_overlap_0 rfl (by decide +kernel)
theorem dX12_overlap_11 : decode cX12_overlap 11 = .ok (.iconst 0, 1) := dz_3 (n := 0) (r := 11) hz_X12_overlap_0 rfl
theorem dX12_overlap_12 : decode cX12_overlap 12 = .ok (.ireturn, 1) := dz_172 (n := 0) (r := 12) hz_X12_overlap_0 rfl
theorem dX12_overlap_13 : decode cX12_overlap 13 = .ok (.aload_n 0, 1) := dz_42 (n := 0) (r := 13) hz_X12_overlap_0 rfl
theorem dX12_overlap_14 : decode cX12_overlap 14 = .ok (.getfield 60, 3) := dz_180 (n := 0) (r := 14) hz_X12_overlap_0 rfl rfl
theorem dX12_overlap_17 : decode cX12_overlap 17 = .ok (.sipush 150, 3) := dz_17 (n := 0) (r := 17) hz_X12_overlap_0 rfl (by decide +kernel)
theorem dX12_overlap_20 : decode cX12_overlap 20 = .ok (.aload_n 0, 1) := dz_42 (n := 0) (r := 20) hz_X12_overlap_0 rfl
theorem dX12_overlap_21 : decode cX12_overlap 21 = .ok (.getfield 63, 3) := dz_180 (n := 0) (r := 21) hz_X12_overlap_0 rfl rfl
theorem dX12_overlap_24 : decode cX12_overlap 24 = .ok (.iconst 0, 1) := dz_3 (n := 0) (r := 24) hz_X12_overlap_0 rfl
theorem dX12_overlap_25 : decode cX12_overlap 25 = .ok (.iaload, 1) := dz_46 (n := 0) (r := 25) hz_X12_overlap_0 rfl
theorem dX12_overlap_26 : decode cX12_overlap 26 = .ok (.iadd, 1) := dz_96 (n := 0) (r := 26) hz_X12_overlap_0 rfl
theorem dX12_overlap_27 : decode cX12_overlap 27 = .ok (.iaload, 1) := dz_46 (n := 0) (r := 27) hz_X12_overlap_0 rfl
theorem dX12_overlap_28 : decode cX12_overlap 28 = .ok (.sipush 256, 3) := dz_17 (n := 0) (r := 28) hz_X12_overlap_0 rfl (by decide +kernel)
theorem dX12_overlap_31 : decode cX12_overlap 31 = .ok (.if_icmp .le 6, 3) := dz_164 (n := 0) (r := 31) hz_X12_overlap_0 rfl (by decide +kernel)
theorem hz_X12_overlap_32 : (cX12_overlap.data.toList.drop 32).take 40 = [0, 6, 16, 254, 172, 3, 61, 3, 62, 3, 54, 4, 21, 4, 42, 182, 1, 14, 162, 0, 74, 42, 180, 0, 57, 21, 4, 46, 42, 180, 0, 63, 3, 46, 159, 0, 6, 167, 0, 49] := by decide +kernel
theorem dX12_overlap_34 : decode cX12_overlap 34 = .ok (.bipush (-2), 2) := dz_16 (n := 32) (r := 2) hz_X12_overlap_32 rfl rfl
theorem dX12_overlap_36 : decode cX12_overlap 36 = .ok (.ireturn, 1) := dz_172 (n := 32) (r := 4) hz_X12_overlap_32 rfl
theorem dX12_overlap_37 : decode cX12_overlap 37 = .ok (.iconst 0, 1) := dz_3 (n := 32) (r := 5) hz_X12_overlap_32 rfl
theorem dX12_overlap_38 : decode cX12_overlap 38 = .ok (.istore_n 2, 1) := dz_61 (n := 32) (r := 6) hz_X12_overlap_32 rfl
theorem dX12_overlap_39 : decode cX12_overlap 39 = .ok (.iconst 0, 1) := dz_3 (n := 32) (r := 7) hz_X12_overlap_32 rfl
theorem dX12_overlap_40 : decode cX12_overlap 40 = .ok (.istore_n 3, 1) := dz_62 (n := 32) (r := 8) hz_X12_overlap_32 rfl
theorem dX12_overlap_41 : decode cX12_overlap 41 = .ok (.iconst 0, 1) := dz_3 (n := 32) (r := 9) hz_X12_overlap_32 rfl
theorem dX12_overlap_42 : decode cX12_overlap 42 = .ok (.istore 4, 2) := dz_54 (n := 32) (r := 10) hz_X12_overlap_32 rfl rfl
theorem dX12_overlap_44 : decode cX12_overlap 44 = .ok (.iload 4, 2) := dz_21 (n := 32) (r := 12) hz_X12_overlap_32 rfl rfl
theorem dX12_overlap_46 : decode cX12_overlap 46 = .ok (.aload_n 0, 1) := dz_42 (n := 32) (r := 14) hz_X12_overlap_32 rfl
theorem dX12_overlap_47 : decode cX12_overlap 47 = .ok (.invokevirtual 270, 3) := dz_182 (n := 32) (r := 15) hz_X12_overlap_32 rfl rfl
theorem dX12_overlap_50 : decode cX12_overlap 50 = .ok (.if_icmp .ge 74, 3) := dz_162 (n := 32) (r := 18) hz_X12_overlap_32 rfl (by decide +kernel)
theorem dX12_overlap_53 : decode cX12_overlap 53 = .ok (.aload_n 0, 1) := dz_42 (n := 32) (r := 21) hz_X12_overlap_32 rfl
theorem dX12_overlap_54 : decode cX12_overlap 54 = .ok (.getfield 57, 3) := dz_180 (n := 32) (r := 22) hz_X12_overlap_32 rfl rfl
theorem dX12_overlap_57 : decode cX12_overlap 57 = .ok (.iload 4, 2) := dz_21 (n := 32) (r := 25) hz_X12_overlap_32 rfl rfl
theorem dX12_overlap_59 : decode cX12_overlap 59 = .ok (.iaload, 1) := dz_46 (n := 32) (r := 27) hz_X12_overlap_32 rfl
theorem dX12_overlap_60 : decode cX12_overlap 60 = .ok (.aload_n 0, 1) := dz_42 (n := 32) (r := 28) hz_X12_overlap_32 rfl
theorem dX12_overlap_61 : decode cX12_overlap 61 = .ok (.getfield 63, 3) := dz_180 (n := 32) (r := 29) hz_X12_overlap_32 rfl rfl
theorem hz_X12_overlap_64 : (cX12_overlap.data.toList.drop 64).take 40 = [3, 46, 159, 0, 6, 167, 0, 49, 3, 54, 5, 21, 5, 28, 162, 0, 29, 21, 4, 42, 180, 0, 87, 21, 5, 46, 130, 184, 1, 36, 27, 160, 0, 6, 132, 3, 1, 132, 5, 1] := by decide +kernel
theorem dX12_overlap_64 : decode cX12_overlap 64 = .ok (.iconst 0, 1) := dz_3 (n := 64) (r := 0) hz_X12_overlap_64 rfl
theorem dX12_overlap_65 : decode cX12_overlap 65 = .ok (.iaload, 1) := dz_46 (n := 64) (r := 1) hz_X12_overlap_64 rfl
theorem dX12_overlap_66 : decode cX12_overlap 66 = .ok (.if_icmp .eq 6, 3) := dz_159 (n := 64) (r := 2) hz_X12_overlap_64 rfl (by decide +kernel)
theorem dX12_overlap_69 : decode cX12_overlap 69 = .ok (.goto 49, 3) := dz_167 (n := 64) (r := 5) hz_X12_overlap_64 rfl (by decide +kernel)
theorem dX12_overlap_72 : decode cX12_overlap 72 = .ok (.iconst 0, 1) := dz_3 (n := 64) (r := 8) hz_X12_overlap_64 rfl
theorem dX12_overlap_73 : decode cX12_overlap 73 = .ok (.istore 5, 2) := dz_54 (n := 64) (r := 9) hz_X12_overlap_64 rfl rfl
theorem dX12_overlap_75 : decode cX12_overlap 75 = .ok (.iload 5, 2) := dz_21 (n := 64) (r := 11) hz_X12_overlap_64 rfl rfl
theorem dX12_overlap_77 : decode cX12_overlap 77 = .ok (.iload_n 2, 1) := dz_28 (n := 64) (r := 13) hz_X12_overlap_64 rfl
theorem dX12_overlap_78 : decode cX12_overlap 78 = .ok (.if_icmp .ge 29, 3) := dz_162 (n := 64) (r := 14) hz_X12_overlap_64 rfl (by decide +kernel)
theorem dX12_overlap_81 : decode cX12_overlap 81 = .ok (.iload 4, 2) := dz_21 (n := 64) (r := 17) hz_X12_overlap_64 rfl rfl
theorem dX12_overlap_83 : decode cX12_overlap 83 = .ok (.aload_n 0, 1) := dz_42 (n := 64) (r := 19) hz_X12_overlap_64 rfl
theorem dX12_overlap_84 : decode cX12_overlap 84 = .ok (.getfield 87, 3) := dz_180 (n := 64) (r := 20) hz_X12_overlap_64 rfl rfl
theorem dX12_overlap_87 : decode cX12_overlap 87 = .ok (.iload 5, 2) := dz_21 (n := 64) (r := 23) hz_X12_overlap_64 rfl rfl
theorem dX12_overlap_89 : decode cX12_overlap 89 = .ok (.iaload, 1) := dz_46 (n := 64) (r := 25) hz_X12_overlap_64 rfl
theorem dX12_overlap_90 : decode cX12_overlap 90 = .ok (.ixor, 1) := dz_130 (n := 64) (r := 26) hz_X12_overlap_64 rfl
theorem dX12_overlap_91 : decode cX12_overlap 91 = .ok (.invokestatic 292, 3) := dz_184 (n := 64) (r := 27) hz_X12_overlap_64 rfl rfl
theorem dX12_overlap_94 : decode cX12_overlap 94 = .ok (.iload_n 1, 1) := dz_27 (n := 64) (r := 30) hz_X12_overlap_64 rfl
theorem dX12_overlap_95 : decode cX12_overlap 95 = .ok (.if_icmp .ne 6, 3) := dz_160 (n := 64) (r := 31) hz_X12_overlap_64 rfl (by decide +kernel)
theorem hz_X12_overlap_96 : (cX12_overlap.data.toList.drop 96).take 40 = [0, 6, 132, 3, 1, 132, 5, 1, 167, 255, 227, 42, 180, 0, 87, 28, 21, 4, 79, 132, 2, 1, 132, 4, 1, 167, 255, 179, 29, 172] := by decide +kernel
theorem dX12_overlap_98 : decode cX12_overlap 98 = .ok (.iinc 3 1, 3) := dz_132 (n := 96) (r := 2) hz_X12_overlap_96 rfl rfl rfl
theorem dX12_overlap_101 : decode cX12_overlap 101 = .ok (.iinc 5 1, 3) := dz_132 (n := 96) (r := 5) hz_X12_overlap_96 rfl rfl rfl
theorem dX12_overlap_104 : decode cX12_overlap 104 = .ok (.goto (-29), 3) := dz_167 (n := 96) (r := 8) hz_X12_overlap_96 rfl (by decide +kernel)
theorem dX12_overlap_107 : decode cX12_overlap 107 = .ok (.aload_n 0, 1) := dz_42 (n := 96) (r := 11) hz_X12_overlap_96 rfl
theorem dX12_overlap_108 : decode cX12_overlap 108 = .ok (.getfield 87, 3) := dz_180 (n := 96) (r := 12) hz_X12_overlap_96 rfl rfl
theorem dX12_overlap_111 : decode cX12_overlap 111 = .ok (.iload_n 2, 1) := dz_28 (n := 96) (r := 15) hz_X12_overlap_96 rfl
theorem dX12_overlap_112 : decode cX12_overlap 112 = .ok (.iload 4, 2) := dz_21 (n := 96) (r := 16) hz_X12_overlap_96 rfl rfl
theorem dX12_overlap_114 : decode cX12_overlap 114 = .ok (.iastore, 1) := dz_79 (n := 96) (r := 18) hz_X12_overlap_96 rfl
theorem dX12_overlap_115 : decode cX12_overlap 115 = .ok (.iinc 2 1, 3) := dz_132 (n := 96) (r := 19) hz_X12_overlap_96 rfl rfl rfl
theorem dX12_overlap_118 : decode cX12_overlap 118 = .ok (.iinc 4 1, 3) := dz_132 (n := 96) (r := 22) hz_X12_overlap_96 rfl rfl rfl
theorem dX12_overlap_121 : decode cX12_overlap 121 = .ok (.goto (-77), 3) := dz_167 (n := 96) (r := 25) hz_X12_overlap_96 rfl (by decide +kernel)
theorem dX12_overlap_124 : decode cX12_overlap 124 = .ok (.iload_n 3, 1) := dz_29 (n := 96) (r := 28) hz_X12_overlap_96 rfl
theorem dX12_overlap_125 : decode cX12_overlap 125 = .ok (.ireturn, 1) := dz_172 (n := 96) (r := 29) hz_X12_overlap_96 rfl
theorem hz_X12_rows_0 : (cX12_rows.data.toList.drop 0).take 40 = [27, 3, 42, 180, 0, 177, 4, 100, 184, 0, 213, 153, 0, 19, 28, 3, 4, 42, 180, 0, 171, 120, 4, 100, 184, 0, 213, 154, 0, 5, 2, 172, 3, 54, 4, 42, 180, 0, 171, 27] := by decide +kernel
theorem dX12_rows_0 : decode cX12_rows 0 = .ok (.iload_n 1, 1) := dz_27 (n := 0) (r := 0) hz_X12_rows_0 rfl
theorem dX12_rows_1 : decode cX12_rows 1 = .ok (.iconst 0, 1) := dz_3 (n := 0) (r := 1) hz_X12_rows_0 rfl
theorem dX12_rows_2 : decode cX12_rows 2 = .ok (.aload_n 0, 1) := dz_42 (n := 0) (r := 2) hz_X12_rows_0 rfl
theorem dX12_rows_3 : decode cX12_rows 3 = .ok (.getfield 177, 3) := dz_180 (n := 0) (r := 3) hz_X12_rows_0 rfl rfl
theorem dX12_rows_6 : decode cX12_rows 6 = .ok (.iconst 1, 1) := dz_4 (n := 0) (r := 6) hz_X12_rows_0 rfl
theorem dX12_rows_7 : decode cX12_rows 7 = .ok (.isub, 1) := dz_100 (n := 0) (r := 7) hz_X12_rows_0 rfl
theorem dX12_rows_8 : decode cX12_rows 8 = .ok (.invokestatic 213, 3) := dz_184 (n := 0) (r := 8) hz_X12_rows_0 rfl rfl
theorem dX12_rows_11 : decode cX12_rows 11 = .ok (.ifCond .eq 19, 3) := dz_153 (n := 0) (r := 11) hz_X12_rows_0 rfl (by decide +kernel)
theorem dX12_rows_14 : decode cX12_rows 14 = .ok (.iload_n 2, 1) := dz_28 (n := 0) (r := 14) hz_X12_rows_0 rfl
theorem dX12_rows_15 : decode cX12_rows 15 = .ok (.iconst 0, 1) := dz_3 (n := 0) (r := 15) hz_X12_rows_0 rfl
theorem dX12_rows_16 : decode cX12_rows 16 = .ok (.iconst 1, 1) := dz_4 (n := 0) (r := 16) hz_X12_rows_0 rfl
theorem dX12_rows_17 : decode cX12_rows 17 = .ok (.aload_n 0, 1) := dz_42 (n := 0) (r := 17) hz_X12_rows_0 rfl
theorem dX12_rows_18 : decode cX12_rows 18 = .ok (.getfield 171, 3) := dz_180 (n := 0) (r := 18) hz_X12_rows_0 rfl rfl
theorem dX12_rows_21 : decode cX12_rows 21 = .ok (.ishl, 1) := dz_120 (n := 0) (r := 21) hz_X12_rows_0 rfl
theorem dX12_rows_22 : decode cX12_rows 22 = .ok (.iconst 1, 1) := dz_4 (n := 0) (r := 22) hz_X12_rows_0 rfl
theorem dX12_rows_23 : decode cX12_rows 23 = .ok (.isub, 1) := dz_100 (n := 0) (r := 23) hz_X12_rows_0 rfl
theorem dX12_rows_24 : decode cX12_rows 24 = .ok (.invokestatic 213, 3) := dz_184 (n := 0) (r := 24) hz_X12_rows_0 rfl rfl
theorem dX12_rows_27 : decode cX12_rows 27 = .ok (.ifCond .ne 5, 3) := dz_154 (n := 0) (r := 27) hz_X12_rows_0 rfl (by decide +kernel)
theorem dX12_rows_30 : decode cX12_rows 30 = .ok (.iconst (-1), 1) := dz_2 (n := 0) (r := 30) hz_X12_rows_0 rfl
theorem dX12_rows_31 : decode cX12_rows 31 = .ok (.ireturn, 1) := dz_172 (n := 0) (r := 31) hz_X12_rows_0 rfl
theorem hz_X12_rows_32 : (cX12_rows.data.toList.drop 32).take 40 = [3, 54, 4, 42, 180, 0, 171, 27, 104, 54, 5, 3, 54, 6, 21, 6, 4, 21, 5, 120, 162, 0, 57, 21, 6, 28, 21, 5, 120, 128, 54, 7, 42, 180, 0, 40, 21, 7, 21, 5] := by decide +kernel
theorem dX12_rows_32 : decode cX12_rows 32 = .ok (.iconst 0, 1) := dz_3 (n := 32) (r := 0) hz_X12_rows_32 rfl
theorem dX12_rows_33 : decode cX12_rows 33 = .ok (.istore 4, 2) := dz_54 (n := 32) (r := 1) hz_X12_rows_32 rfl rfl
theorem dX12_rows_35 : decode cX12_rows 35 = .ok (.aload_n 0, 1) := dz_42 (n := 32) (r := 3) hz_X12_rows_32 rfl
theorem dX12_rows_36 : decode cX12_rows 36 = .ok (.getfield 171, 3) := dz_180 (n := 32) (r := 4) hz_X12_rows_32 rfl rfl
theorem dX12_rows_39 : decode cX12_rows 39 = .ok (.iload_n 1, 1) := dz_27 (n := 32) (r := 7) hz_X12_rows_32 rfl
theorem dX12_rows_40 : decode cX12_rows 40 = .ok (.imul, 1) := dz_104 (n := 32) (r := 8) hz_X12_rows_32 rfl
theorem dX12_rows_41 : decode cX12_rows 41 = .ok (.istore 5, 2) := dz_54 (n := 32) (r := 9) hz_X12_rows_32 rfl rfl
theorem dX12_rows_43 : decode cX12_rows 43 = .ok (.iconst 0, 1) := dz_3 (n := 32) (r := 11) hz_X12_rows_32 rfl
theorem dX12_rows_44 : decode cX12_rows 44 = .ok (.istore 6, 2) := dz_54 (n := 32) (r := 12) hz_X12_rows_32 rfl rfl
theorem dX12_rows_46 : decode cX12_rows 46 = .ok (.iload 6, 2) := dz_21 (n := 32) (r := 14) hz_X12_rows_32 rfl rfl
theorem dX12_rows_48 : decode cX12_rows 48 = .ok (.iconst 1, 1) := dz_4 (n := 32) (r := 16) hz_X12_rows_32 rfl
theorem dX12_rows_49 : decode cX12_rows 49 = .ok (.iload 5, 2) := dz_21 (n := 32) (r := 17) hz_X12_rows_32 rfl rfl
theorem dX12_rows_51 : decode cX12_rows 51 = .ok (.ishl, 1) := dz_120 (n := 32) (r := 19) hz_X12_rows_32 rfl
theorem dX12_rows_52 : decode cX12_rows 52 = .ok (.if_icmp .ge 57, 3) := dz_162 (n := 32) (r := 20) hz_X12_rows_32 rfl (by decide +kernel)
theorem dX12_rows_55 : decode cX12_rows 55 = .ok (.iload 6, 2) := dz_21 (n := 32) (r := 23) hz_X12_rows_32 rfl rfl
theorem dX12_rows_57 : decode cX12_rows 57 = .ok (.iload_n 2, 1) := dz_28 (n := 32) (r := 25) hz_X12_rows_32 rfl
theorem dX12_rows_58 : decode cX12_rows 58 = .ok (.iload 5, 2) := dz_21 (n := 32) (r := 26) hz_X12_rows_32 rfl rfl
theorem dX12_rows_60 : decode cX12_rows 60 = .ok (.ishl, 1) := dz_120 (n := 32) (r := 28) hz_X12_rows_32 rfl
theorem dX12_rows_61 : decode cX12_rows 61 = .ok (.ior, 1) := dz_128 (n := 32) (r := 29) hz_X12_rows_32 rfl
theorem dX12_rows_62 : decode cX12_rows 62 = .ok (.istore 7, 2) := dz_54 (n := 32) (r := 30) hz_X12_rows_32 rfl rfl
theorem hz_X12_rows_64 : (cX12_rows.data.toList.drop 64).take 40 = [42, 180, 0, 40, 21, 7, 21, 5, 42, 180, 0, 171, 96, 184, 1, 17, 153, 0, 23, 42, 42, 180, 0, 40, 21, 7, 27, 4, 96, 182, 1, 21, 29, 160, 0, 6, 132, 4, 1, 132] := by decide +kernel
theorem dX12_rows_64 : decode cX12_rows 64 = .ok (.aload_n 0, 1) := dz_42 (n := 64) (r := 0) hz_X12_rows_64 rfl
theorem dX12_rows_65 : decode cX12_rows 65 = .ok (.getfield 40, 3) := dz_180 (n := 64) (r := 1) hz_X12_rows_64 rfl rfl
theorem dX12_rows_68 : decode cX12_rows 68 = .ok (.iload 7, 2) := dz_21 (n := 64) (r := 4) hz_X12_rows_64 rfl rfl
theorem dX12_rows_70 : decode cX12_rows 70 = .ok (.iload 5, 2) := dz_21 (n := 64) (r := 6) hz_X12_rows_64 rfl rfl
theorem dX12_rows_72 : decode cX12_rows 72 = .ok (.aload_n 0, 1) := dz_42 (n := 64) (r := 8) hz_X12_rows_64 rfl
theorem dX12_rows_73 : decode cX12_rows 73 = .ok (.getfield 171, 3) := dz_180 (n := 64) (r := 9) hz_X12_rows_64 rfl rfl
theorem dX12_rows_76 : decode cX12_rows 76 = .ok (.iadd, 1) := dz_96 (n := 64) (r := 12) hz_X12_rows_64 rfl
theorem dX12_rows_77 : decode cX12_rows 77 = .ok (.invokestatic 273, 3) := dz_184 (n := 64) (r := 13) hz_X12_rows_64 rfl rfl
theorem dX12_rows_80 : decode cX12_rows 80 = .ok (.ifCond .eq 23, 3) := dz_153 (n := 64) (r := 16) hz_X12_rows_64 rfl (by decide +kernel)
theorem dX12_rows_83 : decode cX12_rows 83 = .ok (.aload_n 0, 1) := dz_42 (n := 64) (r := 19) hz_X12_rows_64 rfl
theorem dX12_rows_84 : decode cX12_rows 84 = .ok (.aload_n 0, 1) := dz_42 (n := 64) (r := 20) hz_X12_rows_64 rfl
theorem dX12_rows_85 : decode cX12_rows 85 = .ok (.getfield 40, 3) := dz_180 (n := 64) (r := 21) hz_X12_rows_64 rfl rfl
theorem dX12_rows_88 : decode cX12_rows 88 = .ok (.iload 7, 2) := dz_21 (n := 64) (r := 24) hz_X12_rows_64 rfl rfl
theorem dX12_rows_90 : decode cX12_rows 90 = .ok (.iload_n 1, 1) := dz_27 (n := 64) (r := 26) hz_X12_rows_64 rfl
theorem dX12_rows_91 : decode cX12_rows 91 = .ok (.iconst 1, 1) := dz_4 (n := 64) (r := 27) hz_X12_rows_64 rfl
theorem dX12_rows_92 : decode cX12_rows 92 = .ok (.iadd, 1) := dz_96 (n := 64) (r := 28) hz_X12_rows_64 rfl
theorem dX12_rows_93 : decode cX12_rows 93 = .ok (.invokevirtual 277, 3) := dz_182 (n := 64) (r := 29) hz_X12_rows_64 rfl rfl
theorem hz_X12_rows_96 : (cX12_rows.data.toList.drop 96).take 40 = [29, 160, 0, 6, 132, 4, 1, 132, 6, 1, 167, 255, 196, 21, 4, 172] := by decide +kernel
theorem dX12_rows_96 : decode cX12_rows 96 = .ok (.iload_n 3, 1) := dz_29 (n := 96) (r := 0) hz_X12_rows_96 rfl
theorem dX12_rows_97 : decode cX12_rows 97 = .ok (.if_icmp .ne 6, 3) := dz_160 (n := 96) (r := 1) hz_X12_rows_96 rfl (by decide +kernel)
theorem dX12_rows_100 : decode cX12_rows 100 = .ok (.iinc 4 1, 3) := dz_132 (n := 96) (r := 4) hz_X12_rows_96 rfl rfl rfl
theorem dX12_rows_103 : decode cX12_rows 103 = .ok (.iinc 6 1, 3) := dz_132 (n := 96) (r := 7) hz_X12_rows_96 rfl rfl rfl
theorem dX12_rows_106 : decode cX12_rows 106 = .ok (.goto (-60), 3) := dz_167 (n := 96) (r := 10) hz_X12_rows_96 rfl (by decide +kernel)
theorem dX12_rows_109 : decode cX12_rows 109 = .ok (.iload 4, 2) := dz_21 (n := 96) (r := 13) hz_X12_rows_96 rfl rfl
theorem dX12_rows_111 : decode cX12_rows 111 = .ok (.ireturn, 1) := dz_172 (n := 96) (r := 15) hz_X12_rows_96 rfl
theorem hz_X12_oddOf_0 : (cX12_oddOf.data.toList.drop 0).take 40 = [42, 27, 3, 182, 0, 236, 61, 42, 27, 4, 182, 0, 236, 62, 28, 155, 0, 7, 29, 156, 0, 6, 16, 254, 172, 42, 180, 0, 40, 3, 27, 96, 46, 42, 180, 0, 40, 16, 16, 27] := by decide +kernel
theorem dX12_oddOf_0 : decode cX12_oddOf 0 = .ok (.aload_n 0, 1) := dz_42 (n := 0) (r := 0) hz_X12_oddOf_0 rfl
theorem dX12_oddOf_1 : decode cX12_oddOf 1 = .ok (.iload_n 1, 1) := dz_27 (n := 0) (r := 1) hz_X12_oddOf_0 rfl
theorem dX12_oddOf_2 : decode cX12_oddOf 2 = .ok (.iconst 0, 1) := dz_3 (n := 0) (r := 2) hz_X12_oddOf_0 rfl
theorem dX12_oddOf_3 : decode cX12_oddOf 3 = .ok (.invokevirtual 236, 3) := dz_182 (n := 0) (r := 3) hz_X12_oddOf_0 rfl rfl
theorem dX12_oddOf_6 : decode cX12_oddOf 6 = .ok (.istore_n 2, 1) := dz_61 (n := 0) (r := 6) hz_X12_oddOf_0 rfl
theorem dX12_oddOf_7 : decode cX12_oddOf 7 = .ok (.aload_n 0, 1) := dz_42 (n := 0) (r := 7) hz_X12_oddOf_0 rfl
theorem dX12_oddOf_8 : decode cX12_oddOf 8 = .ok (.iload_n 1, 1) := dz_27 (n := 0) (r := 8) hz_X12_oddOf_0 rfl
theorem dX12_oddOf_9 : decode cX12_oddOf 9 = .ok (.iconst 1, 1) := dz_4 (n := 0) (r := 9) hz_X12_oddOf_0 rfl
theorem dX12_oddOf_10 : decode cX12_oddOf 10 = .ok (.invokevirtual 236, 3) := dz_182 (n := 0) (r := 10) hz_X12_oddOf_0 rfl rfl
theorem dX12_oddOf_13 : decode cX12_oddOf 13 = .ok (.istore_n 3, 1) := dz_62 (n := 0) (r := 13) hz_X12_oddOf_0 rfl
theorem dX12_oddOf_14 : decode cX12_oddOf 14 = .ok (.iload_n 2, 1) := dz_28 (n := 0) (r := 14) hz_X12_oddOf_0 rfl
theorem dX12_oddOf_15 : decode cX12_oddOf 15 = .ok (.ifCond .lt 7, 3) := dz_155 (n := 0) (r := 15) hz_X12_oddOf_0 rfl (by decide +kernel)
theorem dX12_oddOf_18 : decode cX12_oddOf 18 = .ok (.iload_n 3, 1) := dz_29 (n := 0) (r := 18) hz_X12_oddOf_0 rfl
theorem dX12_oddOf_19 : decode cX12_oddOf 19 = .ok (.ifCond .ge 6, 3) := dz_156 (n := 0) (r := 19) hz_X12_oddOf_0 rfl (by decide +kernel)
theorem dX12_oddOf_22 : decode cX12_oddOf 22 = .ok (.bipush (-2), 2) := dz_16 (n := 0) (r := 22) hz_X12_oddOf_0 rfl rfl
theorem dX12_oddOf_24 : decode cX12_oddOf 24 = .ok (.ireturn, 1) := dz_172 (n := 0) (r := 24) hz_X12_oddOf_0 rfl
theorem dX12_oddOf_25 : decode cX12_oddOf 25 = .ok (.aload_n 0, 1) := dz_42 (n := 0) (r := 25) hz_X12_oddOf_0 rfl
theorem dX12_oddOf_26 : decode cX12_oddOf 26 = .ok (.getfield 40, 3) := dz_180 (n := 0) (r := 26) hz_X12_oddOf_0 rfl rfl
theorem dX12_oddOf_29 : decode cX12_oddOf 29 = .ok (.iconst 0, 1) := dz_3 (n := 0) (r := 29) hz_X12_oddOf_0 rfl
theorem dX12_oddOf_30 : decode cX12_oddOf 30 = .ok (.iload_n 1, 1) := dz_27 (n := 0) (r := 30) hz_X12_oddOf_0 rfl
theorem dX12_oddOf_31 : decode cX12_oddOf 31 = .ok (.iadd, 1) := dz_96 (n := 0) (r := 31) hz_X12_oddOf_0 rfl
theorem hz_X12_oddOf_32 : (cX12_oddOf.data.toList.drop 32).take 40 = [46, 42, 180, 0, 40, 16, 16, 27, 96, 46, 104, 42, 180, 0, 40, 16, 16, 28, 96, 46, 104, 42, 180, 0, 40, 3, 29, 96, 46, 104, 54, 4, 21, 4, 156, 0, 7, 4, 167, 0] := by decide +kernel
theorem dX12_oddOf_32 : decode cX12_oddOf 32 = .ok (.iaload, 1) := dz_46 (n := 32) (r := 0) hz_X12_oddOf_32 rfl
theorem dX12_oddOf_33 : decode cX12_oddOf 33 = .ok (.aload_n 0, 1) := dz_42 (n := 32) (r := 1) hz_X12_oddOf_32 rfl
theorem dX12_oddOf_34 : decode cX12_oddOf 34 = .ok (.getfield 40, 3) := dz_180 (n := 32) (r := 2) hz_X12_oddOf_32 rfl rfl
theorem dX12_oddOf_37 : decode cX12_oddOf 37 = .ok (.bipush 16, 2) := dz_16 (n := 32) (r := 5) hz_X12_oddOf_32 rfl rfl
theorem dX12_oddOf_39 : decode cX12_oddOf 39 = .ok (.iload_n 1, 1) := dz_27 (n := 32) (r := 7) hz_X12_oddOf_32 rfl
theorem dX12_oddOf_40 : decode cX12_oddOf 40 = .ok (.iadd, 1) := dz_96 (n := 32) (r := 8) hz_X12_oddOf_32 rfl
theorem dX12_oddOf_41 : decode cX12_oddOf 41 = .ok (.iaload, 1) := dz_46 (n := 32) (r := 9) hz_X12_oddOf_32 rfl
theorem dX12_oddOf_42 : decode cX12_oddOf 42 = .ok (.imul, 1) := dz_104 (n := 32) (r := 10) hz_X12_oddOf_32 rfl
theorem dX12_oddOf_43 : decode cX12_oddOf 43 = .ok (.aload_n 0, 1) := dz_42 (n := 32) (r := 11) hz_X12_oddOf_32 rfl
theorem dX12_oddOf_44 : decode cX12_oddOf 44 = .ok (.getfield 40, 3) := dz_180 (n := 32) (r := 12) hz_X12_oddOf_32 rfl rfl
theorem dX12_oddOf_47 : decode cX12_oddOf 47 = .ok (.bipush 16, 2) := dz_16 (n := 32) (r := 15) hz_X12_oddOf_32 rfl rfl
theorem dX12_oddOf_49 : decode cX12_oddOf 49 = .ok (.iload_n 2, 1) := dz_28 (n := 32) (r := 17) hz_X12_oddOf_32 rfl
theorem dX12_oddOf_50 : decode cX12_oddOf 50 = .ok (.iadd, 1) := dz_96 (n := 32) (r := 18) hz_X12_oddOf_32 rfl
theorem dX12_oddOf_51 : decode cX12_oddOf 51 = .ok (.iaload, 1) := dz_46 (n := 32) (r := 19) hz_X12_oddOf_32 rfl
theorem dX12_oddOf_52 : decode cX12_oddOf 52 = .ok (.imul, 1) := dz_104 (n := 32) (r := 20) hz_X12_oddOf_32 rfl
theorem dX12_oddOf_53 : decode cX12_oddOf 53 = .ok (.aload_n 0, 1) := dz_42 (n := 32) (r := 21) hz_X12_oddOf_32 rfl
theorem dX12_oddOf_54 : decode cX12_oddOf 54 = .ok (.getfield 40, 3) := dz_180 (n := 32) (r := 22) hz_X12_oddOf_32 rfl rfl
theorem dX12_oddOf_57 : decode cX12_oddOf 57 = .ok (.iconst 0, 1) := dz_3 (n := 32) (r := 25) hz_X12_oddOf_32 rfl
theorem dX12_oddOf_58 : decode cX12_oddOf 58 = .ok (.iload_n 3, 1) := dz_29 (n := 32) (r := 26) hz_X12_oddOf_32 rfl
theorem dX12_oddOf_59 : decode cX12_oddOf 59 = .ok (.iadd, 1) := dz_96 (n := 32) (r := 27) hz_X12_oddOf_32 rfl
theorem dX12_oddOf_60 : decode cX12_oddOf 60 = .ok (.iaload, 1) := dz_46 (n := 32) (r := 28) hz_X12_oddOf_32 rfl
theorem dX12_oddOf_61 : decode cX12_oddOf 61 = .ok (.imul, 1) := dz_104 (n := 32) (r := 29) hz_X12_oddOf_32 rfl
theorem dX12_oddOf_62 : decode cX12_oddOf 62 = .ok (.istore 4, 2) := dz_54 (n := 32) (r := 30) hz_X12_oddOf_32 rfl rfl
theorem hz_X12_oddOf_64 : (cX12_oddOf.data.toList.drop 64).take 40 = [21, 4, 156, 0, 7, 4, 167, 0, 4, 3, 172] := by decide +kernel
theorem dX12_oddOf_64 : decode cX12_oddOf 64 = .ok (.iload 4, 2) := dz_21 (n := 64) (r := 0) hz_X12_oddOf_64 rfl rfl
theorem dX12_oddOf_66 : decode cX12_oddOf 66 = .ok (.ifCond .ge 7, 3) := dz_156 (n := 64) (r := 2) hz_X12_oddOf_64 rfl (by decide +kernel)
theorem dX12_oddOf_69 : decode cX12_oddOf 69 = .ok (.iconst 1, 1) := dz_4 (n := 64) (r := 5) hz_X12_oddOf_64 rfl
theorem dX12_oddOf_70 : decode cX12_oddOf 70 = .ok (.goto 4, 3) := dz_167 (n := 64) (r := 6) hz_X12_oddOf_64 rfl (by decide +kernel)
theorem dX12_oddOf_73 : decode cX12_oddOf 73 = .ok (.iconst 0, 1) := dz_3 (n := 64) (r := 9) hz_X12_oddOf_64 rfl
theorem dX12_oddOf_74 : decode cX12_oddOf 74 = .ok (.ireturn, 1) := dz_172 (n := 64) (r := 10) hz_X12_oddOf_64 rfl
theorem hz_X12_square_0 : (cX12_square.data.toList.drop 0).take 40 = [42, 27, 182, 0, 233, 153, 0, 11, 42, 27, 182, 1, 74, 167, 0, 4, 2, 172] := by decide +kernel
theorem dX12_square_0 : decode cX12_square 0 = .ok (.aload_n 0, 1) := dz_42 (n := 0) (r := 0) hz_X12_square_0 rfl
theorem dX12_square_1 : decode cX12_square 1 = .ok (.iload_n 1, 1) := dz_27 (n := 0) (r := 1) hz_X12_square_0 rfl
theorem dX12_square_2 : decode cX12_square 2 = .ok (.invokevirtual 233, 3) := dz_182 (n := 0) (r := 2) hz_X12_square_0 rfl rfl
theorem dX12_square_5 : decode cX12_square 5 = .ok (.ifCond .eq 11, 3) := dz_153 (n := 0) (r := 5) hz_X12_square_0 rfl (by decide +kernel)
theorem dX12_square_8 : decode cX12_square 8 = .ok (.aload_n 0, 1) := dz_42 (n := 0) (r := 8) hz_X12_square_0 rfl
theorem dX12_square_9 : decode cX12_square 9 = .ok (.iload_n 1, 1) := dz_27 (n := 0) (r := 9) hz_X12_square_0 rfl
theorem dX12_square_10 : decode cX12_square 10 = .ok (.invokevirtual 330, 3) := dz_182 (n := 0) (r := 10) hz_X12_square_0 rfl rfl
theorem dX12_square_13 : decode cX12_square 13 = .ok (.goto 4, 3) := dz_167 (n := 0) (r := 13) hz_X12_square_0 rfl (by decide +kernel)
theorem dX12_square_16 : decode cX12_square 16 = .ok (.iconst (-1), 1) := dz_2 (n := 0) (r := 16) hz_X12_square_0 rfl
theorem dX12_square_17 : decode cX12_square 17 = .ok (.ireturn, 1) := dz_172 (n := 0) (r := 17) hz_X12_square_0 rfl
theorem hz_X12_clusterOf_0 : (cX12_clusterOf.data.toList.drop 0).take 40 = [4, 27, 120, 61, 3, 62, 28, 29, 159, 0, 120, 28, 62, 3, 54, 4, 21, 4, 5, 42, 182, 0, 193, 104, 162, 0, 101, 21, 4, 5, 108, 54, 5, 42, 21, 5, 21, 4, 5, 112] := by decide +kernel
theorem dX12_clusterOf_0 : decode cX12_clusterOf 0 = .ok (.iconst 1, 1) := dz_4 (n := 0) (r := 0) hz_X12_clusterOf_0 rfl
theorem dX12_clusterOf_1 : decode cX12_clusterOf 1 = .ok (.iload_n 1, 1) := dz_27 (n := 0) (r := 1) hz_X12_clusterOf_0 rfl
theorem dX12_clusterOf_2 : decode cX12_clusterOf 2 = .ok (.ishl, 1) := dz_120 (n := 0) (r := 2) hz_X12_clusterOf_0 rfl
theorem dX12_clusterOf_3 : decode cX12_clusterOf 3 = .ok (.istore_n 2, 1) := dz_61 (n := 0) (r := 3) hz_X12_clusterOf_0 rfl
theorem dX12_clusterOf_4 : decode cX12_clusterOf 4 = .ok (.iconst 0, 1) := dz_3 (n := 0) (r := 4) hz_X12_clusterOf_0 rfl
theorem dX12_clusterOf_5 : decode cX12_clusterOf 5 = .ok (.istore_n 3, 1) := dz_62 (n := 0) (r := 5) hz_X12_clusterOf_0 rfl
theorem dX12_clusterOf_6 : decode cX12_clusterOf 6 = .ok (.iload_n 2, 1) := dz_28 (n := 0) (r := 6) hz_X12_clusterOf_0 rfl
theorem dX12_clusterOf_7 : decode cX12_clusterOf 7 = .ok (.iload_n 3, 1) := dz_29 (n := 0) (r := 7) hz_X12_clusterOf_0 rfl
theorem dX12_clusterOf_8 : decode cX12_clusterOf 8 = .ok (.if_icmp .eq 120, 3) := dz_159 (n := 0) (r := 8) hz_X12_clusterOf_0 rfl (by decide +kernel)
theorem dX12_clusterOf_11 : decode cX12_clusterOf 11 = .ok (.iload_n 2, 1) := dz_28 (n := 0) (r := 11) hz_X12_clusterOf_0 rfl
theorem dX12_clusterOf_12 : decode cX12_clusterOf 12 = .ok (.istore_n 3, 1) := dz_62 (n := 0) (r := 12) hz_X12_clusterOf_0 rfl
theorem dX12_clusterOf_13 : decode cX12_clusterOf 13 = .ok (.iconst 0, 1) := dz_3 (n := 0) (r := 13) hz_X12_clusterOf_0 rfl
theorem dX12_clusterOf_14 : decode cX12_clusterOf 14 = .ok (.istore 4, 2) := dz_54 (n := 0) (r := 14) hz_X12_clusterOf_0 rfl rfl
theorem dX12_clusterOf_16 : decode cX12_clusterOf 16 = .ok (.iload 4, 2) := dz_21 (n := 0) (r := 16) hz_X12_clusterOf_0 rfl rfl
theorem dX12_clusterOf_18 : decode cX12_clusterOf 18 = .ok (.iconst 2, 1) := dz_5 (n := 0) (r := 18) hz_X12_clusterOf_0 rfl
theorem dX12_clusterOf_19 : decode cX12_clusterOf 19 = .ok (.aload_n 0, 1) := dz_42 (n := 0) (r := 19) hz_X12_clusterOf_0 rfl
theorem dX12_clusterOf_20 : decode cX12_clusterOf 20 = .ok (.invokevirtual 193, 3) := dz_182 (n := 0) (r := 20) hz_X12_clusterOf_0 rfl rfl
theorem dX12_clusterOf_23 : decode cX12_clusterOf 23 = .ok (.imul, 1) := dz_104 (n := 0) (r := 23) hz_X12_clusterOf_0 rfl
theorem dX12_clusterOf_24 : decode cX12_clusterOf 24 = .ok (.if_icmp .ge 101, 3) := dz_162 (n := 0) (r := 24) hz_X12_clusterOf_0 rfl (by decide +kernel)
theorem dX12_clusterOf_27 : decode cX12_clusterOf 27 = .ok (.iload 4, 2) := dz_21 (n := 0) (r := 27) hz_X12_clusterOf_0 rfl rfl
theorem dX12_clusterOf_29 : decode cX12_clusterOf 29 = .ok (.iconst 2, 1) := dz_5 (n := 0) (r := 29) hz_X12_clusterOf_0 rfl
theorem dX12_clusterOf_30 : decode cX12_clusterOf 30 = .ok (.idiv, 1) := dz_108 (n := 0) (r := 30) hz_X12_clusterOf_0 rfl
theorem dX12_clusterOf_31 : decode cX12_clusterOf 31 = .ok (.istore 5, 2) := dz_54 (n := 0) (r := 31) hz_X12_clusterOf_0 rfl rfl
theorem hz_X12_clusterOf_32 : (cX12_clusterOf.data.toList.drop 32).take 40 = [5, 42, 21, 5, 21, 4, 5, 112, 4, 160, 0, 7, 4, 167, 0, 4, 3, 182, 0, 236, 54, 6, 21, 6, 155, 0, 63, 42, 180, 0, 40, 16, 64, 46, 21, 5, 184, 1, 45, 42] := by decide +kernel
theorem dX12_clusterOf_33 : decode cX12_clusterOf 33 = .ok (.aload_n 0, 1) := dz_42 (n := 32) (r := 1) hz_X12_clusterOf_32 rfl
theorem dX12_clusterOf_34 : decode cX12_clusterOf 34 = .ok (.iload 5, 2) := dz_21 (n := 32) (r := 2) hz_X12_clusterOf_32 rfl rfl
theorem dX12_clusterOf_36 : decode cX12_clusterOf 36 = .ok (.iload 4, 2) := dz_21 (n := 32) (r := 4) hz_X12_clusterOf_32 rfl rfl
theorem dX12_clusterOf_38 : decode cX12_clusterOf 38 = .ok (.iconst 2, 1) := dz_5 (n := 32) (r := 6) hz_X12_clusterOf_32 rfl
theorem dX12_clusterOf_39 : decode cX12_clusterOf 39 = .ok (.irem, 1) := dz_112 (n := 32) (r := 7) hz_X12_clusterOf_32 rfl
theorem dX12_clusterOf_40 : decode cX12_clusterOf 40 = .ok (.iconst 1, 1) := dz_4 (n := 32) (r := 8) hz_X12_clusterOf_32 rfl
theorem dX12_clusterOf_41 : decode cX12_clusterOf 41 = .ok (.if_icmp .ne 7, 3) := dz_160 (n := 32) (r := 9) hz_X12_clusterOf_32 rfl (by decide +kernel)
theorem dX12_clusterOf_44 : decode cX12_clusterOf 44 = .ok (.iconst 1, 1) := dz_4 (n := 32) (r := 12) hz_X12_clusterOf_32 rfl
theorem dX12_clusterOf_45 : decode cX12_clusterOf 45 = .ok (.goto 4, 3) := dz_167 (n := 32) (r := 13) hz_X12_clusterOf_32 rfl (by decide +kernel)
theorem dX12_clusterOf_48 : decode cX12_clusterOf 48 = .ok (.iconst 0, 1) := dz_3 (n := 32) (r := 16) hz_X12_clusterOf_32 rfl
theorem dX12_clusterOf_49 : decode cX12_clusterOf 49 = .ok (.invokevirtual 236, 3) := dz_182 (n := 32) (r := 17) hz_X12_clusterOf_32 rfl rfl
theorem dX12_clusterOf_52 : decode cX12_clusterOf 52 = .ok (.istore 6, 2) := dz_54 (n := 32) (r := 20) hz_X12_clusterOf_32 rfl rfl
theorem dX12_clusterOf_54 : decode cX12_clusterOf 54 = .ok (.iload 6, 2) := dz_21 (n := 32) (r := 22) hz_X12_clusterOf_32 rfl rfl
theorem dX12_clusterOf_56 : decode cX12_clusterOf 56 = .ok (.ifCond .lt 63, 3) := dz_155 (n := 32) (r := 24) hz_X12_clusterOf_32 rfl (by decide +kernel)
theorem dX12_clusterOf_59 : decode cX12_clusterOf 59 = .ok (.aload_n 0, 1) := dz_42 (n := 32) (r := 27) hz_X12_clusterOf_32 rfl
theorem dX12_clusterOf_60 : decode cX12_clusterOf 60 = .ok (.getfield 40, 3) := dz_180 (n := 32) (r := 28) hz_X12_clusterOf_32 rfl rfl
theorem dX12_clusterOf_63 : decode cX12_clusterOf 63 = .ok (.bipush 64, 2) := dz_16 (n := 32) (r := 31) hz_X12_clusterOf_32 rfl rfl
theorem hz_X12_clusterOf_64 : (cX12_clusterOf.data.toList.drop 64).take 40 = [64, 46, 21, 5, 184, 1, 45, 42, 180, 0, 40, 16, 64, 46, 21, 6, 184, 1, 45, 159, 0, 6, 167, 0, 33, 28, 21, 5, 184, 1, 45, 154, 0, 12, 28, 21, 6, 184, 1, 45] := by decide +kernel
theorem dX12_clusterOf_65 : decode cX12_clusterOf 65 = .ok (.iaload, 1) := dz_46 (n := 64) (r := 1) hz_X12_clusterOf_64 rfl
theorem dX12_clusterOf_66 : decode cX12_clusterOf 66 = .ok (.iload 5, 2) := dz_21 (n := 64) (r := 2) hz_X12_clusterOf_64 rfl rfl
theorem dX12_clusterOf_68 : decode cX12_clusterOf 68 = .ok (.invokestatic 301, 3) := dz_184 (n := 64) (r := 4) hz_X12_clusterOf_64 rfl rfl
theorem dX12_clusterOf_71 : decode cX12_clusterOf 71 = .ok (.aload_n 0, 1) := dz_42 (n := 64) (r := 7) hz_X12_clusterOf_64 rfl
theorem dX12_clusterOf_72 : decode cX12_clusterOf 72 = .ok (.getfield 40, 3) := dz_180 (n := 64) (r := 8) hz_X12_clusterOf_64 rfl rfl
theorem dX12_clusterOf_75 : decode cX12_clusterOf 75 = .ok (.bipush 64, 2) := dz_16 (n := 64) (r := 11) hz_X12_clusterOf_64 rfl rfl
theorem dX12_clusterOf_77 : decode cX12_clusterOf 77 = .ok (.iaload, 1) := dz_46 (n := 64) (r := 13) hz_X12_clusterOf_64 rfl
theorem dX12_clusterOf_78 : decode cX12_clusterOf 78 = .ok (.iload 6, 2) := dz_21 (n := 64) (r := 14) hz_X12_clusterOf_64 rfl rfl
theorem dX12_clusterOf_80 : decode cX12_clusterOf 80 = .ok (.invokestatic 301, 3) := dz_184 (n := 64) (r := 16) hz_X12_clusterOf_64 rfl rfl
theorem dX12_clusterOf_83 : decode cX12_clusterOf 83 = .ok (.if_icmp .eq 6, 3) := dz_159 (n := 64) (r := 19) hz_X12_clusterOf_64 rfl (by decide +kernel)
theorem dX12_clusterOf_86 : decode cX12_clusterOf 86 = .ok (.goto 33, 3) := dz_167 (n := 64) (r := 22) hz_X12_clusterOf_64 rfl (by decide +kernel)
theorem dX12_clusterOf_89 : decode cX12_clusterOf 89 = .ok (.iload_n 2, 1) := dz_28 (n := 64) (r := 25) hz_X12_clusterOf_64 rfl
theorem dX12_clusterOf_90 : decode cX12_clusterOf 90 = .ok (.iload 5, 2) := dz_21 (n := 64) (r := 26) hz_X12_clusterOf_64 rfl rfl
theorem dX12_clusterOf_92 : decode cX12_clusterOf 92 = .ok (.invokestatic 301, 3) := dz_184 (n := 64) (r := 28) hz_X12_clusterOf_64 rfl rfl
theorem dX12_clusterOf_95 : decode cX12_clusterOf 95 = .ok (.ifCond .ne 12, 3) := dz_154 (n := 64) (r := 31) hz_X12_clusterOf_64 rfl (by decide +kernel)
theorem hz_X12_clusterOf_96 : (cX12_clusterOf.data.toList.drop 96).take 40 = [0, 12, 28, 21, 6, 184, 1, 45, 153, 0, 15, 28, 4, 21, 5, 120, 4, 21, 6, 120, 128, 128, 61, 132, 4, 1, 167, 255, 150, 167, 255, 137, 28, 172] := by decide +kernel
theorem dX12_clusterOf_98 : decode cX12_clusterOf 98 = .ok (.iload_n 2, 1) := dz_28 (n := 96) (r := 2) hz_X12_clusterOf_96 rfl
theorem dX12_clusterOf_99 : decode cX12_clusterOf 99 = .ok (.iload 6, 2) := dz_21 (n := 96) (r := 3) hz_X12_clusterOf_96 rfl rfl
theorem dX12_clusterOf_101 : decode cX12_clusterOf 101 = .ok (.invokestatic 301, 3) := dz_184 (n := 96) (r := 5) hz_X12_clusterOf_96 rfl rfl
theorem dX12_clusterOf_104 : decode cX12_clusterOf 104 = .ok (.ifCond .eq 15, 3) := dz_153 (n := 96) (r := 8) hz_X12_clusterOf_96 rfl (by decide +kernel)
theorem dX12_clusterOf_107 : decode cX12_clusterOf 107 = .ok (.iload_n 2, 1) := dz_28 (n := 96) (r := 11) hz_X12_clusterOf_96 rfl
theorem dX12_clusterOf_108 : decode cX12_clusterOf 108 = .ok (.iconst 1, 1) := dz_4 (n := 96) (r := 12) hz_X12_clusterOf_96 rfl
theorem dX12_clusterOf_109 : decode cX12_clusterOf 109 = .ok (.iload 5, 2) := dz_21 (n := 96) (r := 13) hz_X12_clusterOf_96 rfl rfl
theorem dX12_clusterOf_111 : decode cX12_clusterOf 111 = .ok (.ishl, 1) := dz_120 (n := 96) (r := 15) hz_X12_clusterOf_96 rfl
theorem dX12_clusterOf_112 : decode cX12_clusterOf 112 = .ok (.iconst 1, 1) := dz_4 (n := 96) (r := 16) hz_X12_clusterOf_96 rfl
theorem dX12_clusterOf_113 : decode cX12_clusterOf 113 = .ok (.iload 6, 2) := dz_21 (n := 96) (r := 17) hz_X12_clusterOf_96 rfl rfl
theorem dX12_clusterOf_115 : decode cX12_clusterOf 115 = .ok (.ishl, 1) := dz_120 (n := 96) (r := 19) hz_X12_clusterOf_96 rfl
theorem dX12_clusterOf_116 : decode cX12_clusterOf 116 = .ok (.ior, 1) := dz_128 (n := 96) (r := 20) hz_X12_clusterOf_96 rfl
theorem dX12_clusterOf_117 : decode cX12_clusterOf 117 = .ok (.ior, 1) := dz_128 (n := 96) (r := 21) hz_X12_clusterOf_96 rfl
theorem dX12_clusterOf_118 : decode cX12_clusterOf 118 = .ok (.istore_n 2, 1) := dz_61 (n := 96) (r := 22) hz_X12_clusterOf_96 rfl
theorem dX12_clusterOf_119 : decode cX12_clusterOf 119 = .ok (.iinc 4 1, 3) := dz_132 (n := 96) (r := 23) hz_X12_clusterOf_96 rfl rfl rfl
theorem dX12_clusterOf_122 : decode cX12_clusterOf 122 = .ok (.goto (-106), 3) := dz_167 (n := 96) (r := 26) hz_X12_clusterOf_96 rfl (by decide +kernel)
theorem dX12_clusterOf_125 : decode cX12_clusterOf 125 = .ok (.goto (-119), 3) := dz_167 (n := 96) (r := 29) hz_X12_clusterOf_96 rfl (by decide +kernel)
theorem hz_X12_clusterOf_128 : (cX12_clusterOf.data.toList.drop 128).take 40 = [28, 172] := by decide +kernel
theorem dX12_clusterOf_128 : decode cX12_clusterOf 128 = .ok (.iload_n 2, 1) := dz_28 (n := 128) (r := 0) hz_X12_clusterOf_128 rfl
theorem dX12_clusterOf_129 : decode cX12_clusterOf 129 = .ok (.ireturn, 1) := dz_172 (n := 128) (r := 1) hz_X12_clusterOf_128 rfl
theorem hz_X12_cluster_0 : (cX12_cluster.data.toList.drop 0).take 40 = [42, 27, 182, 0, 233, 153, 0, 11, 42, 27, 182, 1, 77, 167, 0, 4, 2, 172] := by decide +kernel
theorem dX12_cluster_0 : decode cX12_cluster 0 = .ok (.aload_n 0, 1) := dz_42 (n := 0) (r := 0) hz_X12_cluster_0 rfl
theorem dX12_cluster_1 : decode cX12_cluster 1 = .ok (.iload_n 1, 1) := dz_27 (n := 0) (r := 1) hz_X12_cluster_0 rfl
theorem dX12_cluster_2 : decode cX12_cluster 2 = .ok (.invokevirtual 233, 3) := dz_182 (n := 0) (r := 2) hz_X12_cluster_0 rfl rfl
theorem dX12_cluster_5 : decode cX12_cluster 5 = .ok (.ifCond .eq 11, 3) := dz_153 (n := 0) (r := 5) hz_X12_cluster_0 rfl (by decide +kernel)
theorem dX12_cluster_8 : decode cX12_cluster 8 = .ok (.aload_n 0, 1) := dz_42 (n := 0) (r := 8) hz_X12_cluster_0 rfl
theorem dX12_cluster_9 : decode cX12_cluster 9 = .ok (.iload_n 1, 1) := dz_27 (n := 0) (r := 9) hz_X12_cluster_0 rfl
theorem dX12_cluster_10 : decode cX12_cluster 10 = .ok (.invokevirtual 333, 3) := dz_182 (n := 0) (r := 10) hz_X12_cluster_0 rfl rfl
theorem dX12_cluster_13 : decode cX12_cluster 13 = .ok (.goto 4, 3) := dz_167 (n := 0) (r := 13) hz_X12_cluster_0 rfl (by decide +kernel)
theorem dX12_cluster_16 : decode cX12_cluster 16 = .ok (.iconst (-1), 1) := dz_2 (n := 0) (r := 16) hz_X12_cluster_0 rfl
theorem dX12_cluster_17 : decode cX12_cluster 17 = .ok (.ireturn, 1) := dz_172 (n := 0) (r := 17) hz_X12_cluster_0 rfl
theorem hz_X12_wander_0 : (cX12_wander.data.toList.drop 0).take 40 = [42, 182, 0, 193, 153, 0, 33, 27, 3, 17, 0, 200, 184, 0, 213, 153, 0, 22, 28, 3, 16, 100, 184, 0, 213, 153, 0, 12, 29, 3, 5, 184, 0, 213, 154, 0, 7, 19, 1, 32] := by decide +kernel
theorem dX12_wander_0 : decode cX12_wander 0 = .ok (.aload_n 0, 1) := dz_42 (n := 0) (r := 0) hz_X12_wander_0 rfl
theorem dX12_wander_1 : decode cX12_wander 1 = .ok (.invokevirtual 193, 3) := dz_182 (n := 0) (r := 1) hz_X12_wander_0 rfl rfl
theorem dX12_wander_4 : decode cX12_wander 4 = .ok (.ifCond .eq 33, 3) := dz_153 (n := 0) (r := 4) hz_X12_wander_0 rfl (by decide +kernel)
theorem dX12_wander_7 : decode cX12_wander 7 = .ok (.iload_n 1, 1) := dz_27 (n := 0) (r := 7) hz_X12_wander_0 rfl
theorem dX12_wander_8 : decode cX12_wander 8 = .ok (.iconst 0, 1) := dz_3 (n := 0) (r := 8) hz_X12_wander_0 rfl
theorem dX12_wander_9 : decode cX12_wander 9 = .ok (.sipush 200, 3) := dz_17 (n := 0) (r := 9) hz_X12_wander_0 rfl (by decide +kernel)
theorem dX12_wander_12 : decode cX12_wander 12 = .ok (.invokestatic 213, 3) := dz_184 (n := 0) (r := 12) hz_X12_wander_0 rfl rfl
theorem dX12_wander_15 : decode cX12_wander 15 = .ok (.ifCond .eq 22, 3) := dz_153 (n := 0) (r := 15) hz_X12_wander_0 rfl (by decide +kernel)
theorem dX12_wander_18 : decode cX12_wander 18 = .ok (.iload_n 2, 1) := dz_28 (n := 0) (r := 18) hz_X12_wander_0 rfl
theorem dX12_wander_19 : decode cX12_wander 19 = .ok (.iconst 0, 1) := dz_3 (n := 0) (r := 19) hz_X12_wander_0 rfl
theorem dX12_wander_20 : decode cX12_wander 20 = .ok (.bipush 100, 2) := dz_16 (n := 0) (r := 20) hz_X12_wander_0 rfl rfl
theorem dX12_wander_22 : decode cX12_wander 22 = .ok (.invokestatic 213, 3) := dz_184 (n := 0) (r := 22) hz_X12_wander_0 rfl rfl
theorem dX12_wander_25 : decode cX12_wander 25 = .ok (.ifCond .eq 12, 3) := dz_153 (n := 0) (r := 25) hz_X12_wander_0 rfl (by decide +kernel)
theorem dX12_wander_28 : decode cX12_wander 28 = .ok (.iload_n 3, 1) := dz_29 (n := 0) (r := 28) hz_X12_wander_0 rfl
theorem dX12_wander_29 : decode cX12_wander 29 = .ok (.iconst 0, 1) := dz_3 (n := 0) (r := 29) hz_X12_wander_0 rfl
theorem dX12_wander_30 : decode cX12_wander 30 = .ok (.iconst 2, 1) := dz_5 (n := 0) (r := 30) hz_X12_wander_0 rfl
theorem dX12_wander_31 : decode cX12_wander 31 = .ok (.invokestatic 213, 3) := dz_184 (n := 0) (r := 31) hz_X12_wander_0 rfl rfl
theorem hz_X12_wander_32 : (cX12_wander.data.toList.drop 32).take 40 = [0, 213, 154, 0, 7, 19, 1, 32, 172, 42, 182, 1, 5, 42, 180, 0, 40, 16, 65, 46, 133, 55, 4, 42, 180, 0, 40, 16, 64, 46, 54, 6, 42, 180, 0, 57, 21, 6, 46, 54] := by decide +kernel
theorem dX12_wander_34 : decode cX12_wander 34 = .ok (.ifCond .ne 7, 3) := dz_154 (n := 32) (r := 2) hz_X12_wander_32 rfl (by decide +kernel)
theorem dX12_wander_37 : decode cX12_wander 37 = .ok (.ldc_w 288, 3) := dz_19 (n := 32) (r := 5) hz_X12_wander_32 rfl rfl
theorem dX12_wander_40 : decode cX12_wander 40 = .ok (.ireturn, 1) := dz_172 (n := 32) (r := 8) hz_X12_wander_32 rfl
theorem dX12_wander_41 : decode cX12_wander 41 = .ok (.aload_n 0, 1) := dz_42 (n := 32) (r := 9) hz_X12_wander_32 rfl
theorem dX12_wander_42 : decode cX12_wander 42 = .ok (.invokevirtual 261, 3) := dz_182 (n := 32) (r := 10) hz_X12_wander_32 rfl rfl
theorem dX12_wander_45 : decode cX12_wander 45 = .ok (.aload_n 0, 1) := dz_42 (n := 32) (r := 13) hz_X12_wander_32 rfl
theorem dX12_wander_46 : decode cX12_wander 46 = .ok (.getfield 40, 3) := dz_180 (n := 32) (r := 14) hz_X12_wander_32 rfl rfl
theorem dX12_wander_49 : decode cX12_wander 49 = .ok (.bipush 65, 2) := dz_16 (n := 32) (r := 17) hz_X12_wander_32 rfl rfl
theorem dX12_wander_51 : decode cX12_wander 51 = .ok (.iaload, 1) := dz_46 (n := 32) (r := 19) hz_X12_wander_32 rfl
theorem dX12_wander_52 : decode cX12_wander 52 = .ok (.i2l, 1) := dz_133 (n := 32) (r := 20) hz_X12_wander_32 rfl
theorem dX12_wander_53 : decode cX12_wander 53 = .ok (.lstore 4, 2) := dz_55 (n := 32) (r := 21) hz_X12_wander_32 rfl rfl
theorem dX12_wander_55 : decode cX12_wander 55 = .ok (.aload_n 0, 1) := dz_42 (n := 32) (r := 23) hz_X12_wander_32 rfl
theorem dX12_wander_56 : decode cX12_wander 56 = .ok (.getfield 40, 3) := dz_180 (n := 32) (r := 24) hz_X12_wander_32 rfl rfl
theorem dX12_wander_59 : decode cX12_wander 59 = .ok (.bipush 64, 2) := dz_16 (n := 32) (r := 27) hz_X12_wander_32 rfl rfl
theorem dX12_wander_61 : decode cX12_wander 61 = .ok (.iaload, 1) := dz_46 (n := 32) (r := 29) hz_X12_wander_32 rfl
theorem dX12_wander_62 : decode cX12_wander 62 = .ok (.istore 6, 2) := dz_54 (n := 32) (r := 30) hz_X12_wander_32 rfl rfl
theorem hz_X12_wander_64 : (cX12_wander.data.toList.drop 64).take 40 = [42, 180, 0, 57, 21, 6, 46, 54, 7, 3, 54, 8, 3, 54, 9, 21, 9, 27, 162, 0, 118, 22, 4, 184, 0, 253, 55, 4, 22, 4, 20, 1, 1, 109, 42, 182, 0, 193, 133, 113] := by decide +kernel
theorem dX12_wander_64 : decode cX12_wander 64 = .ok (.aload_n 0, 1) := dz_42 (n := 64) (r := 0) hz_X12_wander_64 rfl
theorem dX12_wander_65 : decode cX12_wander 65 = .ok (.getfield 57, 3) := dz_180 (n := 64) (r := 1) hz_X12_wander_64 rfl rfl
theorem dX12_wander_68 : decode cX12_wander 68 = .ok (.iload 6, 2) := dz_21 (n := 64) (r := 4) hz_X12_wander_64 rfl rfl
theorem dX12_wander_70 : decode cX12_wander 70 = .ok (.iaload, 1) := dz_46 (n := 64) (r := 6) hz_X12_wander_64 rfl
theorem dX12_wander_71 : decode cX12_wander 71 = .ok (.istore 7, 2) := dz_54 (n := 64) (r := 7) hz_X12_wander_64 rfl rfl
theorem dX12_wander_73 : decode cX12_wander 73 = .ok (.iconst 0, 1) := dz_3 (n := 64) (r := 9) hz_X12_wander_64 rfl
theorem dX12_wander_74 : decode cX12_wander 74 = .ok (.istore 8, 2) := dz_54 (n := 64) (r := 10) hz_X12_wander_64 rfl rfl
theorem dX12_wander_76 : decode cX12_wander 76 = .ok (.iconst 0, 1) := dz_3 (n := 64) (r := 12) hz_X12_wander_64 rfl
theorem dX12_wander_77 : decode cX12_wander 77 = .ok (.istore 9, 2) := dz_54 (n := 64) (r := 13) hz_X12_wander_64 rfl rfl
theorem dX12_wander_79 : decode cX12_wander 79 = .ok (.iload 9, 2) := dz_21 (n := 64) (r := 15) hz_X12_wander_64 rfl rfl
theorem dX12_wander_81 : decode cX12_wander 81 = .ok (.iload_n 1, 1) := dz_27 (n := 64) (r := 17) hz_X12_wander_64 rfl
theorem dX12_wander_82 : decode cX12_wander 82 = .ok (.if_icmp .ge 118, 3) := dz_162 (n := 64) (r := 18) hz_X12_wander_64 rfl (by decide +kernel)
theorem dX12_wander_85 : decode cX12_wander 85 = .ok (.lload 4, 2) := dz_22 (n := 64) (r := 21) hz_X12_wander_64 rfl rfl
theorem dX12_wander_87 : decode cX12_wander 87 = .ok (.invokestatic 253, 3) := dz_184 (n := 64) (r := 23) hz_X12_wander_64 rfl rfl
theorem dX12_wander_90 : decode cX12_wander 90 = .ok (.lstore 4, 2) := dz_55 (n := 64) (r := 26) hz_X12_wander_64 rfl rfl
theorem dX12_wander_92 : decode cX12_wander 92 = .ok (.lload 4, 2) := dz_22 (n := 64) (r := 28) hz_X12_wander_64 rfl rfl
theorem dX12_wander_94 : decode cX12_wander 94 = .ok (.ldc2_w 257, 3) := dz_20 (n := 64) (r := 30) hz_X12_wander_64 rfl rfl
theorem hz_X12_wander_96 : (cX12_wander.data.toList.drop 96).take 40 = [1, 109, 42, 182, 0, 193, 133, 113, 136, 54, 10, 22, 4, 184, 0, 253, 55, 4, 22, 4, 20, 1, 1, 109, 20, 1, 80, 113, 136, 54, 11, 42, 180, 0, 40, 16, 48, 21, 10, 96] := by decide +kernel
theorem dX12_wander_97 : decode cX12_wander 97 = .ok (.ldiv, 1) := dz_109 (n := 96) (r := 1) hz_X12_wander_96 rfl
theorem dX12_wander_98 : decode cX12_wander 98 = .ok (.aload_n 0, 1) := dz_42 (n := 96) (r := 2) hz_X12_wander_96 rfl
theorem dX12_wander_99 : decode cX12_wander 99 = .ok (.invokevirtual 193, 3) := dz_182 (n := 96) (r := 3) hz_X12_wander_96 rfl rfl
theorem dX12_wander_102 : decode cX12_wander 102 = .ok (.i2l, 1) := dz_133 (n := 96) (r := 6) hz_X12_wander_96 rfl
theorem dX12_wander_103 : decode cX12_wander 103 = .ok (.lrem, 1) := dz_113 (n := 96) (r := 7) hz_X12_wander_96 rfl
theorem dX12_wander_104 : decode cX12_wander 104 = .ok (.l2i, 1) := dz_136 (n := 96) (r := 8) hz_X12_wander_96 rfl
theorem dX12_wander_105 : decode cX12_wander 105 = .ok (.istore 10, 2) := dz_54 (n := 96) (r := 9) hz_X12_wander_96 rfl rfl
theorem dX12_wander_107 : decode cX12_wander 107 = .ok (.lload 4, 2) := dz_22 (n := 96) (r := 11) hz_X12_wander_96 rfl rfl
theorem dX12_wander_109 : decode cX12_wander 109 = .ok (.invokestatic 253, 3) := dz_184 (n := 96) (r := 13) hz_X12_wander_96 rfl rfl
theorem dX12_wander_112 : decode cX12_wander 112 = .ok (.lstore 4, 2) := dz_55 (n := 96) (r := 16) hz_X12_wander_96 rfl rfl
theorem dX12_wander_114 : decode cX12_wander 114 = .ok (.lload 4, 2) := dz_22 (n := 96) (r := 18) hz_X12_wander_96 rfl rfl
theorem dX12_wander_116 : decode cX12_wander 116 = .ok (.ldc2_w 257, 3) := dz_20 (n := 96) (r := 20) hz_X12_wander_96 rfl rfl
theorem dX12_wander_119 : decode cX12_wander 119 = .ok (.ldiv, 1) := dz_109 (n := 96) (r := 23) hz_X12_wander_96 rfl
theorem dX12_wander_120 : decode cX12_wander 120 = .ok (.ldc2_w 336, 3) := dz_20 (n := 96) (r := 24) hz_X12_wander_96 rfl rfl
theorem dX12_wander_123 : decode cX12_wander 123 = .ok (.lrem, 1) := dz_113 (n := 96) (r := 27) hz_X12_wander_96 rfl
theorem dX12_wander_124 : decode cX12_wander 124 = .ok (.l2i, 1) := dz_136 (n := 96) (r := 28) hz_X12_wander_96 rfl
theorem dX12_wander_125 : decode cX12_wander 125 = .ok (.istore 11, 2) := dz_54 (n := 96) (r := 29) hz_X12_wander_96 rfl rfl
theorem dX12_wander_127 : decode cX12_wander 127 = .ok (.aload_n 0, 1) := dz_42 (n := 96) (r := 31) hz_X12_wander_96 rfl
theorem hz_X12_wander_128 : (cX12_wander.data.toList.drop 128).take 40 = [180, 0, 40, 16, 48, 21, 10, 96, 46, 157, 0, 57, 21, 11, 16, 100, 28, 42, 21, 6, 21, 10, 182, 1, 33, 104, 100, 161, 0, 6, 167, 0, 36, 21, 6, 4, 21, 10, 120, 130] := by decide +kernel
theorem dX12_wander_128 : decode cX12_wander 128 = .ok (.getfield 40, 3) := dz_180 (n := 128) (r := 0) hz_X12_wander_128 rfl rfl
theorem dX12_wander_131 : decode cX12_wander 131 = .ok (.bipush 48, 2) := dz_16 (n := 128) (r := 3) hz_X12_wander_128 rfl rfl
theorem dX12_wander_133 : decode cX12_wander 133 = .ok (.iload 10, 2) := dz_21 (n := 128) (r := 5) hz_X12_wander_128 rfl rfl
theorem dX12_wander_135 : decode cX12_wander 135 = .ok (.iadd, 1) := dz_96 (n := 128) (r := 7) hz_X12_wander_128 rfl
theorem dX12_wander_136 : decode cX12_wander 136 = .ok (.iaload, 1) := dz_46 (n := 128) (r := 8) hz_X12_wander_128 rfl
theorem dX12_wander_137 : decode cX12_wander 137 = .ok (.ifCond .gt 57, 3) := dz_157 (n := 128) (r := 9) hz_X12_wander_128 rfl (by decide +kernel)
theorem dX12_wander_140 : decode cX12_wander 140 = .ok (.iload 11, 2) := dz_21 (n := 128) (r := 12) hz_X12_wander_128 rfl rfl
theorem dX12_wander_142 : decode cX12_wander 142 = .ok (.bipush 100, 2) := dz_16 (n := 128) (r := 14) hz_X12_wander_128 rfl rfl
theorem dX12_wander_144 : decode cX12_wander 144 = .ok (.iload_n 2, 1) := dz_28 (n := 128) (r := 16) hz_X12_wander_128 rfl
theorem dX12_wander_145 : decode cX12_wander 145 = .ok (.aload_n 0, 1) := dz_42 (n := 128) (r := 17) hz_X12_wander_128 rfl
theorem dX12_wander_146 : decode cX12_wander 146 = .ok (.iload 6, 2) := dz_21 (n := 128) (r := 18) hz_X12_wander_128 rfl rfl
theorem dX12_wander_148 : decode cX12_wander 148 = .ok (.iload 10, 2) := dz_21 (n := 128) (r := 20) hz_X12_wander_128 rfl rfl
theorem dX12_wander_150 : decode cX12_wander 150 = .ok (.invokevirtual 289, 3) := dz_182 (n := 128) (r := 22) hz_X12_wander_128 rfl rfl
theorem dX12_wander_153 : decode cX12_wander 153 = .ok (.imul, 1) := dz_104 (n := 128) (r := 25) hz_X12_wander_128 rfl
theorem dX12_wander_154 : decode cX12_wander 154 = .ok (.isub, 1) := dz_100 (n := 128) (r := 26) hz_X12_wander_128 rfl
theorem dX12_wander_155 : decode cX12_wander 155 = .ok (.if_icmp .lt 6, 3) := dz_161 (n := 128) (r := 27) hz_X12_wander_128 rfl (by decide +kernel)
theorem dX12_wander_158 : decode cX12_wander 158 = .ok (.goto 36, 3) := dz_167 (n := 128) (r := 30) hz_X12_wander_128 rfl (by decide +kernel)
theorem hz_X12_wander_160 : (cX12_wander.data.toList.drop 160).take 40 = [36, 21, 6, 4, 21, 10, 120, 130, 54, 6, 132, 8, 1, 42, 180, 0, 57, 21, 6, 46, 21, 7, 162, 0, 12, 42, 180, 0, 57, 21, 6, 46, 54, 7, 132, 9, 1, 167, 255, 138] := by decide +kernel
theorem dX12_wander_161 : decode cX12_wander 161 = .ok (.iload 6, 2) := dz_21 (n := 160) (r := 1) hz_X12_wander_160 rfl rfl
theorem dX12_wander_163 : decode cX12_wander 163 = .ok (.iconst 1, 1) := dz_4 (n := 160) (r := 3) hz_X12_wander_160 rfl
theorem dX12_wander_164 : decode cX12_wander 164 = .ok (.iload 10, 2) := dz_21 (n := 160) (r := 4) hz_X12_wander_160 rfl rfl
theorem dX12_wander_166 : decode cX12_wander 166 = .ok (.ishl, 1) := dz_120 (n := 160) (r := 6) hz_X12_wander_160 rfl
theorem dX12_wander_167 : decode cX12_wander 167 = .ok (.ixor, 1) := dz_130 (n := 160) (r := 7) hz_X12_wander_160 rfl
theorem dX12_wander_168 : decode cX12_wander 168 = .ok (.istore 6, 2) := dz_54 (n := 160) (r := 8) hz_X12_wander_160 rfl rfl
theorem dX12_wander_170 : decode cX12_wander 170 = .ok (.iinc 8 1, 3) := dz_132 (n := 160) (r := 10) hz_X12_wander_160 rfl rfl rfl
theorem dX12_wander_173 : decode cX12_wander 173 = .ok (.aload_n 0, 1) := dz_42 (n := 160) (r := 13) hz_X12_wander_160 rfl
theorem dX12_wander_174 : decode cX12_wander 174 = .ok (.getfield 57, 3) := dz_180 (n := 160) (r := 14) hz_X12_wander_160 rfl rfl
theorem dX12_wander_177 : decode cX12_wander 177 = .ok (.iload 6, 2) := dz_21 (n := 160) (r := 17) hz_X12_wander_160 rfl rfl
theorem dX12_wander_179 : decode cX12_wander 179 = .ok (.iaload, 1) := dz_46 (n := 160) (r := 19) hz_X12_wander_160 rfl
theorem dX12_wander_180 : decode cX12_wander 180 = .ok (.iload 7, 2) := dz_21 (n := 160) (r := 20) hz_X12_wander_160 rfl rfl
theorem dX12_wander_182 : decode cX12_wander 182 = .ok (.if_icmp .ge 12, 3) := dz_162 (n := 160) (r := 22) hz_X12_wander_160 rfl (by decide +kernel)
theorem dX12_wander_185 : decode cX12_wander 185 = .ok (.aload_n 0, 1) := dz_42 (n := 160) (r := 25) hz_X12_wander_160 rfl
theorem dX12_wander_186 : decode cX12_wander 186 = .ok (.getfield 57, 3) := dz_180 (n := 160) (r := 26) hz_X12_wander_160 rfl rfl
theorem dX12_wander_189 : decode cX12_wander 189 = .ok (.iload 6, 2) := dz_21 (n := 160) (r := 29) hz_X12_wander_160 rfl rfl
theorem dX12_wander_191 : decode cX12_wander 191 = .ok (.iaload, 1) := dz_46 (n := 160) (r := 31) hz_X12_wander_160 rfl
theorem hz_X12_wander_192 : (cX12_wander.data.toList.drop 192).take 40 = [54, 7, 132, 9, 1, 167, 255, 138, 29, 154, 0, 8, 21, 6, 167, 0, 15, 29, 4, 160, 0, 8, 21, 7, 167, 0, 5, 21, 8, 172] := by decide +kernel
theorem dX12_wander_192 : decode cX12_wander 192 = .ok (.istore 7, 2) := dz_54 (n := 192) (r := 0) hz_X12_wander_192 rfl rfl
theorem dX12_wander_194 : decode cX12_wander 194 = .ok (.iinc 9 1, 3) := dz_132 (n := 192) (r := 2) hz_X12_wander_192 rfl rfl rfl
theorem dX12_wander_197 : decode cX12_wander 197 = .ok (.goto (-118), 3) := dz_167 (n := 192) (r := 5) hz_X12_wander_192 rfl (by decide +kernel)
theorem dX12_wander_200 : decode cX12_wander 200 = .ok (.iload_n 3, 1) := dz_29 (n := 192) (r := 8) hz_X12_wander_192 rfl
theorem dX12_wander_201 : decode cX12_wander 201 = .ok (.ifCond .ne 8, 3) := dz_154 (n := 192) (r := 9) hz_X12_wander_192 rfl (by decide +kernel)
theorem dX12_wander_204 : decode cX12_wander 204 = .ok (.iload 6, 2) := dz_21 (n := 192) (r := 12) hz_X12_wander_192 rfl rfl
theorem dX12_wander_206 : decode cX12_wander 206 = .ok (.goto 15, 3) := dz_167 (n := 192) (r := 14) hz_X12_wander_192 rfl (by decide +kernel)
theorem dX12_wander_209 : decode cX12_wander 209 = .ok (.iload_n 3, 1) := dz_29 (n := 192) (r := 17) hz_X12_wander_192 rfl
theorem dX12_wander_210 : decode cX12_wander 210 = .ok (.iconst 1, 1) := dz_4 (n := 192) (r := 18) hz_X12_wander_192 rfl
theorem dX12_wander_211 : decode cX12_wander 211 = .ok (.if_icmp .ne 8, 3) := dz_160 (n := 192) (r := 19) hz_X12_wander_192 rfl (by decide +kernel)
theorem dX12_wander_214 : decode cX12_wander 214 = .ok (.iload 7, 2) := dz_21 (n := 192) (r := 22) hz_X12_wander_192 rfl rfl
theorem dX12_wander_216 : decode cX12_wander 216 = .ok (.goto 5, 3) := dz_167 (n := 192) (r := 24) hz_X12_wander_192 rfl (by decide +kernel)
theorem dX12_wander_219 : decode cX12_wander 219 = .ok (.iload 8, 2) := dz_21 (n := 192) (r := 27) hz_X12_wander_192 rfl rfl
theorem dX12_wander_221 : decode cX12_wander 221 = .ok (.ireturn, 1) := dz_172 (n := 192) (r := 29) hz_X12_wander_192 rfl
theorem hz_X12_lawfulMany_0 : (cX12_lawfulMany.data.toList.drop 0).take 40 = [3, 60, 3, 61, 28, 42, 182, 1, 14, 162, 0, 20, 42, 28, 182, 1, 25, 153, 0, 6, 132, 1, 1, 132, 2, 1, 167, 255, 234, 27, 172] := by decide +kernel
theorem dX12_lawfulMany_0 : decode cX12_lawfulMany 0 = .ok (.iconst 0, 1) := dz_3 (n := 0) (r := 0) hz_X12_lawfulMany_0 rfl
theorem dX12_lawfulMany_1 : decode cX12_lawfulMany 1 = .ok (.istore_n 1, 1) := dz_60 (n := 0) (r := 1) hz_X12_lawfulMany_0 rfl
theorem dX12_lawfulMany_2 : decode cX12_lawfulMany 2 = .ok (.iconst 0, 1) := dz_3 (n := 0) (r := 2) hz_X12_lawfulMany_0 rfl
theorem dX12_lawfulMany_3 : decode cX12_lawfulMany 3 = .ok (.istore_n 2, 1) := dz_61 (n := 0) (r := 3) hz_X12_lawfulMany_0 rfl
theorem dX12_lawfulMany_4 : decode cX12_lawfulMany 4 = .ok (.iload_n 2, 1) := dz_28 (n := 0) (r := 4) hz_X12_lawfulMany_0 rfl
theorem dX12_lawfulMany_5 : decode cX12_lawfulMany 5 = .ok (.aload_n 0, 1) := dz_42 (n := 0) (r := 5) hz_X12_lawfulMany_0 rfl
theorem dX12_lawfulMany_6 : decode cX12_lawfulMany 6 = .ok (.invokevirtual 270, 3) := dz_182 (n := 0) (r := 6) hz_X12_lawfulMany_0 rfl rfl
theorem dX12_lawfulMany_9 : decode cX12_lawfulMany 9 = .ok (.if_icmp .ge 20, 3) := dz_162 (n := 0) (r := 9) hz_X12_lawfulMany_0 rfl (by decide +kernel)
theorem dX12_lawfulMany_12 : decode cX12_lawfulMany 12 = .ok (.aload_n 0, 1) := dz_42 (n := 0) (r := 12) hz_X12_lawfulMany_0 rfl
theorem dX12_lawfulMany_13 : decode cX12_lawfulMany 13 = .ok (.iload_n 2, 1) := dz_28 (n := 0) (r := 13) hz_X12_lawfulMany_0 rfl
theorem dX12_lawfulMany_14 : decode cX12_lawfulMany 14 = .ok (.invokevirtual 281, 3) := dz_182 (n := 0) (r := 14) hz_X12_lawfulMany_0 rfl rfl
theorem dX12_lawfulMany_17 : decode cX12_lawfulMany 17 = .ok (.ifCond .eq 6, 3) := dz_153 (n := 0) (r := 17) hz_X12_lawfulMany_0 rfl (by decide +kernel)
theorem dX12_lawfulMany_20 : decode cX12_lawfulMany 20 = .ok (.iinc 1 1, 3) := dz_132 (n := 0) (r := 20) hz_X12_lawfulMany_0 rfl rfl rfl
theorem dX12_lawfulMany_23 : decode cX12_lawfulMany 23 = .ok (.iinc 2 1, 3) := dz_132 (n := 0) (r := 23) hz_X12_lawfulMany_0 rfl rfl rfl
theorem dX12_lawfulMany_26 : decode cX12_lawfulMany 26 = .ok (.goto (-22), 3) := dz_167 (n := 0) (r := 26) hz_X12_lawfulMany_0 rfl (by decide +kernel)
theorem dX12_lawfulMany_29 : decode cX12_lawfulMany 29 = .ok (.iload_n 1, 1) := dz_27 (n := 0) (r := 29) hz_X12_lawfulMany_0 rfl
theorem dX12_lawfulMany_30 : decode cX12_lawfulMany 30 = .ok (.ireturn, 1) := dz_172 (n := 0) (r := 30) hz_X12_lawfulMany_0 rfl
theorem hz_X12_pinned_0 : (cX12_pinned.data.toList.drop 0).take 40 = [3, 60, 3, 61, 28, 42, 182, 0, 193, 162, 0, 27, 42, 180, 0, 40, 16, 48, 28, 96, 46, 158, 0, 9, 27, 4, 28, 120, 128, 60, 132, 2, 1, 167, 255, 227, 27, 172] := by decide +kernel
theorem dX12_pinned_0 : decode cX12_pinned 0 = .ok (.iconst 0, 1) := dz_3 (n := 0) (r := 0) hz_X12_pinned_0 rfl
theorem dX12_pinned_1 : decode cX12_pinned 1 = .ok (.istore_n 1, 1) := dz_60 (n := 0) (r := 1) hz_X12_pinned_0 rfl
theorem dX12_pinned_2 : decode cX12_pinned 2 = .ok (.iconst 0, 1) := dz_3 (n := 0) (r := 2) hz_X12_pinned_0 rfl
theorem dX12_pinned_3 : decode cX12_pinned 3 = .ok (.istore_n 2, 1) := dz_61 (n := 0) (r := 3) hz_X12_pinned_0 rfl
theorem dX12_pinned_4 : decode cX12_pinned 4 = .ok (.iload_n 2, 1) := dz_28 (n := 0) (r := 4) hz_X12_pinned_0 rfl
theorem dX12_pinned_5 : decode cX12_pinned 5 = .ok (.aload_n 0, 1) := dz_42 (n := 0) (r := 5) hz_X12_pinned_0 rfl
theorem dX12_pinned_6 : decode cX12_pinned 6 = .ok (.invokevirtual 193, 3) := dz_182 (n := 0) (r := 6) hz_X12_pinned_0 rfl rfl
theorem dX12_pinned_9 : decode cX12_pinned 9 = .ok (.if_icmp .ge 27, 3) := dz_162 (n := 0) (r := 9) hz_X12_pinned_0 rfl (by decide +kernel)
theorem dX12_pinned_12 : decode cX12_pinned 12 = .ok (.aload_n 0, 1) := dz_42 (n := 0) (r := 12) hz_X12_pinned_0 rfl
theorem dX12_pinned_13 : decode cX12_pinned 13 = .ok (.getfield 40, 3) := dz_180 (n := 0) (r := 13) hz_X12_pinned_0 rfl rfl
theorem dX12_pinned_16 : decode cX12_pinned 16 = .ok (.bipush 48, 2) := dz_16 (n := 0) (r := 16) hz_X12_pinned_0 rfl rfl
theorem dX12_pinned_18 : decode cX12_pinned 18 = .ok (.iload_n 2, 1) := dz_28 (n := 0) (r := 18) hz_X12_pinned_0 rfl
theorem dX12_pinned_19 : decode cX12_pinned 19 = .ok (.iadd, 1) := dz_96 (n := 0) (r := 19) hz_X12_pinned_0 rfl
theorem dX12_pinned_20 : decode cX12_pinned 20 = .ok (.iaload, 1) := dz_46 (n := 0) (r := 20) hz_X12_pinned_0 rfl
theorem dX12_pinned_21 : decode cX12_pinned 21 = .ok (.ifCond .le 9, 3) := dz_158 (n := 0) (r := 21) hz_X12_pinned_0 rfl (by decide +kernel)
theorem dX12_pinned_24 : decode cX12_pinned 24 = .ok (.iload_n 1, 1) := dz_27 (n := 0) (r := 24) hz_X12_pinned_0 rfl
theorem dX12_pinned_25 : decode cX12_pinned 25 = .ok (.iconst 1, 1) := dz_4 (n := 0) (r := 25) hz_X12_pinned_0 rfl
theorem dX12_pinned_26 : decode cX12_pinned 26 = .ok (.iload_n 2, 1) := dz_28 (n := 0) (r := 26) hz_X12_pinned_0 rfl
theorem dX12_pinned_27 : decode cX12_pinned 27 = .ok (.ishl, 1) := dz_120 (n := 0) (r := 27) hz_X12_pinned_0 rfl
theorem dX12_pinned_28 : decode cX12_pinned 28 = .ok (.ior, 1) := dz_128 (n := 0) (r := 28) hz_X12_pinned_0 rfl
theorem dX12_pinned_29 : decode cX12_pinned 29 = .ok (.istore_n 1, 1) := dz_60 (n := 0) (r := 29) hz_X12_pinned_0 rfl
theorem dX12_pinned_30 : decode cX12_pinned 30 = .ok (.iinc 2 1, 3) := dz_132 (n := 0) (r := 30) hz_X12_pinned_0 rfl rfl rfl
theorem hz_X12_pinned_32 : (cX12_pinned.data.toList.drop 32).take 40 = [1, 167, 255, 227, 27, 172] := by decide +kernel
theorem dX12_pinned_33 : decode cX12_pinned 33 = .ok (.goto (-29), 3) := dz_167 (n := 32) (r := 1) hz_X12_pinned_32 rfl (by decide +kernel)
theorem dX12_pinned_36 : decode cX12_pinned 36 = .ok (.iload_n 1, 1) := dz_27 (n := 32) (r := 4) hz_X12_pinned_32 rfl
theorem dX12_pinned_37 : decode cX12_pinned 37 = .ok (.ireturn, 1) := dz_172 (n := 32) (r := 5) hz_X12_pinned_32 rfl
theorem hz_X12_ties_0 : (cX12_ties.data.toList.drop 0).take 40 = [3, 60, 3, 61, 28, 5, 42, 182, 0, 193, 104, 162, 0, 34, 42, 28, 5, 108, 28, 5, 112, 4, 160, 0, 7, 4, 167, 0, 4, 3, 182, 0, 236, 155, 0, 6, 132, 1, 1, 132] := by decide +kernel
theorem dX12_ties_0 : decode cX12_ties 0 = .ok (.iconst 0, 1) := dz_3 (n := 0) (r := 0) hz_X12_ties_0 rfl
theorem dX12_ties_1 : decode cX12_ties 1 = .ok (.istore_n 1, 1) := dz_60 (n := 0) (r := 1) hz_X12_ties_0 rfl
theorem dX12_ties_2 : decode cX12_ties 2 = .ok (.iconst 0, 1) := dz_3 (n := 0) (r := 2) hz_X12_ties_0 rfl
theorem dX12_ties_3 : decode cX12_ties 3 = .ok (.istore_n 2, 1) := dz_61 (n := 0) (r := 3) hz_X12_ties_0 rfl
theorem dX12_ties_4 : decode cX12_ties 4 = .ok (.iload_n 2, 1) := dz_28 (n := 0) (r := 4) hz_X12_ties_0 rfl
theorem dX12_ties_5 : decode cX12_ties 5 = .ok (.iconst 2, 1) := dz_5 (n := 0) (r := 5) hz_X12_ties_0 rfl
theorem dX12_ties_6 : decode cX12_ties 6 = .ok (.aload_n 0, 1) := dz_42 (n := 0) (r := 6) hz_X12_ties_0 rfl
theorem dX12_ties_7 : decode cX12_ties 7 = .ok (.invokevirtual 193, 3) := dz_182 (n := 0) (r := 7) hz_X12_ties_0 rfl rfl
theorem dX12_ties_10 : decode cX12_ties 10 = .ok (.imul, 1) := dz_104 (n := 0) (r := 10) hz_X12_ties_0 rfl
theorem dX12_ties_11 : decode cX12_ties 11 = .ok (.if_icmp .ge 34, 3) := dz_162 (n := 0) (r := 11) hz_X12_ties_0 rfl (by decide +kernel)
theorem dX12_ties_14 : decode cX12_ties 14 = .ok (.aload_n 0, 1) := dz_42 (n := 0) (r := 14) hz_X12_ties_0 rfl
theorem dX12_ties_15 : decode cX12_ties 15 = .ok (.iload_n 2, 1) := dz_28 (n := 0) (r := 15) hz_X12_ties_0 rfl
theorem dX12_ties_16 : decode cX12_ties 16 = .ok (.iconst 2, 1) := dz_5 (n := 0) (r := 16) hz_X12_ties_0 rfl
theorem dX12_ties_17 : decode cX12_ties 17 = .ok (.idiv, 1) := dz_108 (n := 0) (r := 17) hz_X12_ties_0 rfl
theorem dX12_ties_18 : decode cX12_ties 18 = .ok (.iload_n 2, 1) := dz_28 (n := 0) (r := 18) hz_X12_ties_0 rfl
theorem dX12_ties_19 : decode cX12_ties 19 = .ok (.iconst 2, 1) := dz_5 (n := 0) (r := 19) hz_X12_ties_0 rfl
theorem dX12_ties_20 : decode cX12_ties 20 = .ok (.irem, 1) := dz_112 (n := 0) (r := 20) hz_X12_ties_0 rfl
theorem dX12_ties_21 : decode cX12_ties 21 = .ok (.iconst 1, 1) := dz_4 (n := 0) (r := 21) hz_X12_ties_0 rfl
theorem dX12_ties_22 : decode cX12_ties 22 = .ok (.if_icmp .ne 7, 3) := dz_160 (n := 0) (r := 22) hz_X12_ties_0 rfl (by decide +kernel)
theorem dX12_ties_25 : decode cX12_ties 25 = .ok (.iconst 1, 1) := dz_4 (n := 0) (r := 25) hz_X12_ties_0 rfl
theorem dX12_ties_26 : decode cX12_ties 26 = .ok (.goto 4, 3) := dz_167 (n := 0) (r := 26) hz_X12_ties_0 rfl (by decide +kernel)
theorem dX12_ties_29 : decode cX12_ties 29 = .ok (.iconst 0, 1) := dz_3 (n := 0) (r := 29) hz_X12_ties_0 rfl
theorem dX12_ties_30 : decode cX12_ties 30 = .ok (.invokevirtual 236, 3) := dz_182 (n := 0) (r := 30) hz_X12_ties_0 rfl rfl
theorem hz_X12_ties_32 : (cX12_ties.data.toList.drop 32).take 40 = [236, 155, 0, 6, 132, 1, 1, 132, 2, 1, 167, 255, 218, 27, 172] := by decide +kernel
theorem dX12_ties_33 : decode cX12_ties 33 = .ok (.ifCond .lt 6, 3) := dz_155 (n := 32) (r := 1) hz_X12_ties_32 rfl (by decide +kernel)
theorem dX12_ties_36 : decode cX12_ties 36 = .ok (.iinc 1 1, 3) := dz_132 (n := 32) (r := 4) hz_X12_ties_32 rfl rfl rfl
theorem dX12_ties_39 : decode cX12_ties 39 = .ok (.iinc 2 1, 3) := dz_132 (n := 32) (r := 7) hz_X12_ties_32 rfl rfl rfl
theorem dX12_ties_42 : decode cX12_ties 42 = .ok (.goto (-38), 3) := dz_167 (n := 32) (r := 10) hz_X12_ties_32 rfl (by decide +kernel)
theorem dX12_ties_45 : decode cX12_ties 45 = .ok (.iload_n 1, 1) := dz_27 (n := 32) (r := 13) hz_X12_ties_32 rfl
theorem dX12_ties_46 : decode cX12_ties 46 = .ok (.ireturn, 1) := dz_172 (n := 32) (r := 14) hz_X12_ties_32 rfl
theorem hz_X12_clusters_0 : (cX12_clusters.data.toList.drop 0).take 40 = [3, 60, 3, 61, 28, 42, 182, 0, 193, 162, 0, 26, 42, 28, 182, 1, 77, 4, 28, 120, 4, 100, 126, 154, 0, 6, 132, 1, 1, 132, 2, 1, 167, 255, 228, 27, 172] := by decide +kernel
theorem dX12_clusters_0 : decode cX12_clusters 0 = .ok (.iconst 0, 1) := dz_3 (n := 0) (r := 0) hz_X12_clusters_0 rfl
theorem dX12_clusters_1 : decode cX12_clusters 1 = .ok (.istore_n 1, 1) := dz_60 (n := 0) (r := 1) hz_X12_clusters_0 rfl
theorem dX12_clusters_2 : decode cX12_clusters 2 = .ok (.iconst 0, 1) := dz_3 (n := 0) (r := 2) hz_X12_clusters_0 rfl
theorem dX12_clusters_3 : decode cX12_clusters 3 = .ok (.istore_n 2, 1) := dz_61 (n := 0) (r := 3) hz_X12_clusters_0 rfl
theorem dX12_clusters_4 : decode cX12_clusters 4 = .ok (.iload_n 2, 1) := dz_28 (n := 0) (r := 4) hz_X12_clusters_0 rfl
theorem dX12_clusters_5 : decode cX12_clusters 5 = .ok (.aload_n 0, 1) := dz_42 (n := 0) (r := 5) hz_X12_clusters_0 rfl
theorem dX12_clusters_6 : decode cX12_clusters 6 = .ok (.invokevirtual 193, 3) := dz_182 (n := 0) (r := 6) hz_X12_clusters_0 rfl rfl
theorem dX12_clusters_9 : decode cX12_clusters 9 = .ok (.if_icmp .ge 26, 3) := dz_162 (n := 0) (r := 9) hz_X12_clusters_0 rfl (by decide +kernel)
theorem dX12_clusters_12 : decode cX12_clusters 12 = .ok (.aload_n 0, 1) := dz_42 (n := 0) (r := 12) hz_X12_clusters_0 rfl
theorem dX12_clusters_13 : decode cX12_clusters 13 = .ok (.iload_n 2, 1) := dz_28 (n := 0) (r := 13) hz_X12_clusters_0 rfl
theorem dX12_clusters_14 : decode cX12_clusters 14 = .ok (.invokevirtual 333, 3) := dz_182 (n := 0) (r := 14) hz_X12_clusters_0 rfl rfl
theorem dX12_clusters_17 : decode cX12_clusters 17 = .ok (.iconst 1, 1) := dz_4 (n := 0) (r := 17) hz_X12_clusters_0 rfl
theorem dX12_clusters_18 : decode cX12_clusters 18 = .ok (.iload_n 2, 1) := dz_28 (n := 0) (r := 18) hz_X12_clusters_0 rfl
theorem dX12_clusters_19 : decode cX12_clusters 19 = .ok (.ishl, 1) := dz_120 (n := 0) (r := 19) hz_X12_clusters_0 rfl
theorem dX12_clusters_20 : decode cX12_clusters 20 = .ok (.iconst 1, 1) := dz_4 (n := 0) (r := 20) hz_X12_clusters_0 rfl
theorem dX12_clusters_21 : decode cX12_clusters 21 = .ok (.isub, 1) := dz_100 (n := 0) (r := 21) hz_X12_clusters_0 rfl
theorem dX12_clusters_22 : decode cX12_clusters 22 = .ok (.iand, 1) := dz_126 (n := 0) (r := 22) hz_X12_clusters_0 rfl
theorem dX12_clusters_23 : decode cX12_clusters 23 = .ok (.ifCond .ne 6, 3) := dz_154 (n := 0) (r := 23) hz_X12_clusters_0 rfl (by decide +kernel)
theorem dX12_clusters_26 : decode cX12_clusters 26 = .ok (.iinc 1 1, 3) := dz_132 (n := 0) (r := 26) hz_X12_clusters_0 rfl rfl rfl
theorem dX12_clusters_29 : decode cX12_clusters 29 = .ok (.iinc 2 1, 3) := dz_132 (n := 0) (r := 29) hz_X12_clusters_0 rfl rfl rfl
theorem hz_X12_clusters_32 : (cX12_clusters.data.toList.drop 32).take 40 = [167, 255, 228, 27, 172] := by decide +kernel
theorem dX12_clusters_32 : decode cX12_clusters 32 = .ok (.goto (-28), 3) := dz_167 (n := 32) (r := 0) hz_X12_clusters_32 rfl (by decide +kernel)
theorem dX12_clusters_35 : decode cX12_clusters 35 = .ok (.iload_n 1, 1) := dz_27 (n := 32) (r := 3) hz_X12_clusters_32 rfl
theorem dX12_clusters_36 : decode cX12_clusters 36 = .ok (.ireturn, 1) := dz_172 (n := 32) (r := 4) hz_X12_clusters_32 rfl
theorem hz_X12_greatest_0 : (cX12_greatest.data.toList.drop 0).take 40 = [3, 60, 3, 61, 28, 42, 182, 0, 193, 162, 0, 30, 42, 28, 182, 1, 77, 184, 1, 36, 27, 164, 0, 12, 42, 28, 182, 1, 77, 184, 1, 36, 60, 132, 2, 1, 167, 255, 224, 27] := by decide +kernel
theorem dX12_greatest_0 : decode cX12_greatest 0 = .ok (.iconst 0, 1) := dz_3 (n := 0) (r := 0) hz_X12_greatest_0 rfl
theorem dX12_greatest_1 : decode cX12_greatest 1 = .ok (.istore_n 1, 1) := dz_60 (n := 0) (r := 1) hz_X12_greatest_0 rfl
theorem dX12_greatest_2 : decode cX12_greatest 2 = .ok (.iconst 0, 1) := dz_3 (n := 0) (r := 2) hz_X12_greatest_0 rfl
theorem dX12_greatest_3 : decode cX12_greatest 3 = .ok (.istore_n 2, 1) := dz_61 (n := 0) (r := 3) hz_X12_greatest_0 rfl
theorem dX12_greatest_4 : decode cX12_greatest 4 = .ok (.iload_n 2, 1) := dz_28 (n := 0) (r := 4) hz_X12_greatest_0 rfl
theorem dX12_greatest_5 : decode cX12_greatest 5 = .ok (.aload_n 0, 1) := dz_42 (n := 0) (r := 5) hz_X12_greatest_0 rfl
theorem dX12_greatest_6 : decode cX12_greatest 6 = .ok (.invokevirtual 193, 3) := dz_182 (n := 0) (r := 6) hz_X12_greatest_0 rfl rfl
theorem dX12_greatest_9 : decode cX12_greatest 9 = .ok (.if_icmp .ge 30, 3) := dz_162 (n := 0) (r := 9) hz_X12_greatest_0 rfl (by decide +kernel)
theorem dX12_greatest_12 : decode cX12_greatest 12 = .ok (.aload_n 0, 1) := dz_42 (n := 0) (r := 12) hz_X12_greatest_0 rfl
theorem dX12_greatest_13 : decode cX12_greatest 13 = .ok (.iload_n 2, 1) := dz_28 (n := 0) (r := 13) hz_X12_greatest_0 rfl
theorem dX12_greatest_14 : decode cX12_greatest 14 = .ok (.invokevirtual 333, 3) := dz_182 (n := 0) (r := 14) hz_X12_greatest_0 rfl rfl
theorem dX12_greatest_17 : decode cX12_greatest 17 = .ok (.invokestatic 292, 3) := dz_184 (n := 0) (r := 17) hz_X12_greatest_0 rfl rfl
theorem dX12_greatest_20 : decode cX12_greatest 20 = .ok (.iload_n 1, 1) := dz_27 (n := 0) (r := 20) hz_X12_greatest_0 rfl
theorem dX12_greatest_21 : decode cX12_greatest 21 = .ok (.if_icmp .le 12, 3) := dz_164 (n := 0) (r := 21) hz_X12_greatest_0 rfl (by decide +kernel)
theorem dX12_greatest_24 : decode cX12_greatest 24 = .ok (.aload_n 0, 1) := dz_42 (n := 0) (r := 24) hz_X12_greatest_0 rfl
theorem dX12_greatest_25 : decode cX12_greatest 25 = .ok (.iload_n 2, 1) := dz_28 (n := 0) (r := 25) hz_X12_greatest_0 rfl
theorem dX12_greatest_26 : decode cX12_greatest 26 = .ok (.invokevirtual 333, 3) := dz_182 (n := 0) (r := 26) hz_X12_greatest_0 rfl rfl
theorem dX12_greatest_29 : decode cX12_greatest 29 = .ok (.invokestatic 292, 3) := dz_184 (n := 0) (r := 29) hz_X12_greatest_0 rfl rfl
theorem hz_X12_greatest_32 : (cX12_greatest.data.toList.drop 32).take 40 = [60, 132, 2, 1, 167, 255, 224, 27, 172] := by decide +kernel
theorem dX12_greatest_32 : decode cX12_greatest 32 = .ok (.istore_n 1, 1) := dz_60 (n := 32) (r := 0) hz_X12_greatest_32 rfl
theorem dX12_greatest_33 : decode cX12_greatest 33 = .ok (.iinc 2 1, 3) := dz_132 (n := 32) (r := 1) hz_X12_greatest_32 rfl rfl rfl
theorem dX12_greatest_36 : decode cX12_greatest 36 = .ok (.goto (-32), 3) := dz_167 (n := 32) (r := 4) hz_X12_greatest_32 rfl (by decide +kernel)
theorem dX12_greatest_39 : decode cX12_greatest 39 = .ok (.iload_n 1, 1) := dz_27 (n := 32) (r := 7) hz_X12_greatest_32 rfl
theorem dX12_greatest_40 : decode cX12_greatest 40 = .ok (.ireturn, 1) := dz_172 (n := 32) (r := 8) hz_X12_greatest_32 rfl
theorem hz_X12_fewestBroken_0 : (cX12_fewestBroken.data.toList.drop 0).take 40 = [2, 60, 3, 61, 28, 42, 182, 1, 14, 162, 0, 37, 42, 28, 182, 1, 25, 154, 0, 6, 167, 0, 20, 42, 28, 182, 1, 49, 62, 27, 155, 0, 8, 29, 27, 162, 0, 5, 29, 60] := by decide +kernel
theorem dX12_fewestBroken_0 : decode cX12_fewestBroken 0 = .ok (.iconst (-1), 1) := dz_2 (n := 0) (r := 0) hz_X12_fewestBroken_0 rfl
theorem dX12_fewestBroken_1 : decode cX12_fewestBroken 1 = .ok (.istore_n 1, 1) := dz_60 (n := 0) (r := 1) hz_X12_fewestBroken_0 rfl
theorem dX12_fewestBroken_2 : decode cX12_fewestBroken 2 = .ok (.iconst 0, 1) := dz_3 (n := 0) (r := 2) hz_X12_fewestBroken_0 rfl
theorem dX12_fewestBroken_3 : decode cX12_fewestBroken 3 = .ok (.istore_n 2, 1) := dz_61 (n := 0) (r := 3) hz_X12_fewestBroken_0 rfl
theorem dX12_fewestBroken_4 : decode cX12_fewestBroken 4 = .ok (.iload_n 2, 1) := dz_28 (n := 0) (r := 4) hz_X12_fewestBroken_0 rfl
theorem dX12_fewestBroken_5 : decode cX12_fewestBroken 5 = .ok (.aload_n 0, 1) := dz_42 (n := 0) (r := 5) hz_X12_fewestBroken_0 rfl
theorem dX12_fewestBroken_6 : decode cX12_fewestBroken 6 = .ok (.invokevirtual 270, 3) := dz_182 (n := 0) (r := 6) hz_X12_fewestBroken_0 rfl rfl
theorem dX12_fewestBroken_9 : decode cX12_fewestBroken 9 = .ok (.if_icmp .ge 37, 3) := dz_162 (n := 0) (r := 9) hz_X12_fewestBroken_0 rfl (by decide +kernel)
theorem dX12_fewestBroken_12 : decode cX12_fewestBroken 12 = .ok (.aload_n 0, 1) := dz_42 (n := 0) (r := 12) hz_X12_fewestBroken_0 rfl
theorem dX12_fewestBroken_13 : decode cX12_fewestBroken 13 = .ok (.iload_n 2, 1) := dz_28 (n := 0) (r := 13) hz_X12_fewestBroken_0 rfl
theorem dX12_fewestBroken_14 : decode cX12_fewestBroken 14 = .ok (.invokevirtual 281, 3) := dz_182 (n := 0) (r := 14) hz_X12_fewestBroken_0 rfl rfl
theorem dX12_fewestBroken_17 : decode cX12_fewestBroken 17 = .ok (.ifCond .ne 6, 3) := dz_154 (n := 0) (r := 17) hz_X12_fewestBroken_0 rfl (by decide +kernel)
theorem dX12_fewestBroken_20 : decode cX12_fewestBroken 20 = .ok (.goto 20, 3) := dz_167 (n := 0) (r := 20) hz_X12_fewestBroken_0 rfl (by decide +kernel)
theorem dX12_fewestBroken_23 : decode cX12_fewestBroken 23 = .ok (.aload_n 0, 1) := dz_42 (n := 0) (r := 23) hz_X12_fewestBroken_0 rfl
theorem dX12_fewestBroken_24 : decode cX12_fewestBroken 24 = .ok (.iload_n 2, 1) := dz_28 (n := 0) (r := 24) hz_X12_fewestBroken_0 rfl
theorem dX12_fewestBroken_25 : decode cX12_fewestBroken 25 = .ok (.invokevirtual 305, 3) := dz_182 (n := 0) (r := 25) hz_X12_fewestBroken_0 rfl rfl
theorem dX12_fewestBroken_28 : decode cX12_fewestBroken 28 = .ok (.istore_n 3, 1) := dz_62 (n := 0) (r := 28) hz_X12_fewestBroken_0 rfl
theorem dX12_fewestBroken_29 : decode cX12_fewestBroken 29 = .ok (.iload_n 1, 1) := dz_27 (n := 0) (r := 29) hz_X12_fewestBroken_0 rfl
theorem dX12_fewestBroken_30 : decode cX12_fewestBroken 30 = .ok (.ifCond .lt 8, 3) := dz_155 (n := 0) (r := 30) hz_X12_fewestBroken_0 rfl (by decide +kernel)
theorem hz_X12_fewestBroken_32 : (cX12_fewestBroken.data.toList.drop 32).take 40 = [8, 29, 27, 162, 0, 5, 29, 60, 132, 2, 1, 167, 255, 217, 27, 156, 0, 7, 3, 167, 0, 4, 27, 172] := by decide +kernel
theorem dX12_fewestBroken_33 : decode cX12_fewestBroken 33 = .ok (.iload_n 3, 1) := dz_29 (n := 32) (r := 1) hz_X12_fewestBroken_32 rfl
theorem dX12_fewestBroken_34 : decode cX12_fewestBroken 34 = .ok (.iload_n 1, 1) := dz_27 (n := 32) (r := 2) hz_X12_fewestBroken_32 rfl
theorem dX12_fewestBroken_35 : decode cX12_fewestBroken 35 = .ok (.if_icmp .ge 5, 3) := dz_162 (n := 32) (r := 3) hz_X12_fewestBroken_32 rfl (by decide +kernel)
theorem dX12_fewestBroken_38 : decode cX12_fewestBroken 38 = .ok (.iload_n 3, 1) := dz_29 (n := 32) (r := 6) hz_X12_fewestBroken_32 rfl
theorem dX12_fewestBroken_39 : decode cX12_fewestBroken 39 = .ok (.istore_n 1, 1) := dz_60 (n := 32) (r := 7) hz_X12_fewestBroken_32 rfl
theorem dX12_fewestBroken_40 : decode cX12_fewestBroken 40 = .ok (.iinc 2 1, 3) := dz_132 (n := 32) (r := 8) hz_X12_fewestBroken_32 rfl rfl rfl
theorem dX12_fewestBroken_43 : decode cX12_fewestBroken 43 = .ok (.goto (-39), 3) := dz_167 (n := 32) (r := 11) hz_X12_fewestBroken_32 rfl (by decide +kernel)
theorem dX12_fewestBroken_46 : decode cX12_fewestBroken 46 = .ok (.iload_n 1, 1) := dz_27 (n := 32) (r := 14) hz_X12_fewestBroken_32 rfl
theorem dX12_fewestBroken_47 : decode cX12_fewestBroken 47 = .ok (.ifCond .ge 7, 3) := dz_156 (n := 32) (r := 15) hz_X12_fewestBroken_32 rfl (by decide +kernel)
theorem dX12_fewestBroken_50 : decode cX12_fewestBroken 50 = .ok (.iconst 0, 1) := dz_3 (n := 32) (r := 18) hz_X12_fewestBroken_32 rfl
theorem dX12_fewestBroken_51 : decode cX12_fewestBroken 51 = .ok (.goto 4, 3) := dz_167 (n := 32) (r := 19) hz_X12_fewestBroken_32 rfl (by decide +kernel)
theorem dX12_fewestBroken_54 : decode cX12_fewestBroken 54 = .ok (.iload_n 1, 1) := dz_27 (n := 32) (r := 22) hz_X12_fewestBroken_32 rfl
theorem dX12_fewestBroken_55 : decode cX12_fewestBroken 55 = .ok (.ireturn, 1) := dz_172 (n := 32) (r := 23) hz_X12_fewestBroken_32 rfl
theorem hz_X12_odds_0 : (cX12_odds.data.toList.drop 0).take 40 = [3, 60, 3, 61, 28, 42, 182, 0, 193, 162, 0, 21, 42, 28, 182, 1, 74, 4, 160, 0, 6, 132, 1, 1, 132, 2, 1, 167, 255, 233, 27, 172] := by decide +kernel
theorem dX12_odds_0 : decode cX12_odds 0 = .ok (.iconst 0, 1) := dz_3 (n := 0) (r := 0) hz_X12_odds_0 rfl
theorem dX12_odds_1 : decode cX12_odds 1 = .ok (.istore_n 1, 1) := dz_60 (n := 0) (r := 1) hz_X12_odds_0 rfl
theorem dX12_odds_2 : decode cX12_odds 2 = .ok (.iconst 0, 1) := dz_3 (n := 0) (r := 2) hz_X12_odds_0 rfl
theorem dX12_odds_3 : decode cX12_odds 3 = .ok (.istore_n 2, 1) := dz_61 (n := 0) (r := 3) hz_X12_odds_0 rfl
theorem dX12_odds_4 : decode cX12_odds 4 = .ok (.iload_n 2, 1) := dz_28 (n := 0) (r := 4) hz_X12_odds_0 rfl
theorem dX12_odds_5 : decode cX12_odds 5 = .ok (.aload_n 0, 1) := dz_42 (n := 0) (r := 5) hz_X12_odds_0 rfl
theorem dX12_odds_6 : decode cX12_odds 6 = .ok (.invokevirtual 193, 3) := dz_182 (n := 0) (r := 6) hz_X12_odds_0 rfl rfl
theorem dX12_odds_9 : decode cX12_odds 9 = .ok (.if_icmp .ge 21, 3) := dz_162 (n := 0) (r := 9) hz_X12_odds_0 rfl (by decide +kernel)
theorem dX12_odds_12 : decode cX12_odds 12 = .ok (.aload_n 0, 1) := dz_42 (n := 0) (r := 12) hz_X12_odds_0 rfl
theorem dX12_odds_13 : decode cX12_odds 13 = .ok (.iload_n 2, 1) := dz_28 (n := 0) (r := 13) hz_X12_odds_0 rfl
theorem dX12_odds_14 : decode cX12_odds 14 = .ok (.invokevirtual 330, 3) := dz_182 (n := 0) (r := 14) hz_X12_odds_0 rfl rfl
theorem dX12_odds_17 : decode cX12_odds 17 = .ok (.iconst 1, 1) := dz_4 (n := 0) (r := 17) hz_X12_odds_0 rfl
theorem dX12_odds_18 : decode cX12_odds 18 = .ok (.if_icmp .ne 6, 3) := dz_160 (n := 0) (r := 18) hz_X12_odds_0 rfl (by decide +kernel)
theorem dX12_odds_21 : decode cX12_odds 21 = .ok (.iinc 1 1, 3) := dz_132 (n := 0) (r := 21) hz_X12_odds_0 rfl rfl rfl
theorem dX12_odds_24 : decode cX12_odds 24 = .ok (.iinc 2 1, 3) := dz_132 (n := 0) (r := 24) hz_X12_odds_0 rfl rfl rfl
theorem dX12_odds_27 : decode cX12_odds 27 = .ok (.goto (-23), 3) := dz_167 (n := 0) (r := 27) hz_X12_odds_0 rfl (by decide +kernel)
theorem dX12_odds_30 : decode cX12_odds 30 = .ok (.iload_n 1, 1) := dz_27 (n := 0) (r := 30) hz_X12_odds_0 rfl
theorem dX12_odds_31 : decode cX12_odds 31 = .ok (.ireturn, 1) := dz_172 (n := 0) (r := 31) hz_X12_odds_0 rfl
theorem hz_X12_count_0 : (cX12_count.data.toList.drop 0).take 40 = [27, 170, 0, 0, 0, 0, 0, 217, 0, 0, 0, 0, 0, 0, 0, 14, 0, 0, 0, 75, 0, 0, 0, 80, 0, 0, 0, 85, 0, 0, 0, 93, 0, 0, 0, 98, 0, 0, 0, 103] := by decide +kernel
theorem dX12_count_0 : decode cX12_count 0 = .ok (.iload_n 1, 1) := dz_27 (n := 0) (r := 0) hz_X12_count_0 rfl
theorem dX12_count_1 : decode cX12_count 1 = .ok (.tableswitch 217 0 14 #[75, 80, 85, 93, 98, 103, 108, 113, 118, 163, 171, 176, 181, 207, 212], 75) := by decide +kernel
theorem hz_X12_count_64 : (cX12_count.data.toList.drop 64).take 40 = [0, 0, 0, 181, 0, 0, 0, 207, 0, 0, 0, 212, 42, 180, 0, 171, 172, 42, 180, 0, 177, 172, 42, 180, 0, 40, 16, 64, 46, 172, 42, 182, 1, 82, 172, 42, 182, 1, 85, 172] := by decide +kernel
theorem dX12_count_76 : decode cX12_count 76 = .ok (.aload_n 0, 1) := dz_42 (n := 64) (r := 12) hz_X12_count_64 rfl
theorem dX12_count_77 : decode cX12_count 77 = .ok (.getfield 171, 3) := dz_180 (n := 64) (r := 13) hz_X12_count_64 rfl rfl
theorem dX12_count_80 : decode cX12_count 80 = .ok (.ireturn, 1) := dz_172 (n := 64) (r := 16) hz_X12_count_64 rfl
theorem dX12_count_81 : decode cX12_count 81 = .ok (.aload_n 0, 1) := dz_42 (n := 64) (r := 17) hz_X12_count_64 rfl
theorem dX12_count_82 : decode cX12_count 82 = .ok (.getfield 177, 3) := dz_180 (n := 64) (r := 18) hz_X12_count_64 rfl rfl
theorem dX12_count_85 : decode cX12_count 85 = .ok (.ireturn, 1) := dz_172 (n := 64) (r := 21) hz_X12_count_64 rfl
theorem dX12_count_86 : decode cX12_count 86 = .ok (.aload_n 0, 1) := dz_42 (n := 64) (r := 22) hz_X12_count_64 rfl
theorem dX12_count_87 : decode cX12_count 87 = .ok (.getfield 40, 3) := dz_180 (n := 64) (r := 23) hz_X12_count_64 rfl rfl
theorem dX12_count_90 : decode cX12_count 90 = .ok (.bipush 64, 2) := dz_16 (n := 64) (r := 26) hz_X12_count_64 rfl rfl
theorem dX12_count_92 : decode cX12_count 92 = .ok (.iaload, 1) := dz_46 (n := 64) (r := 28) hz_X12_count_64 rfl
theorem dX12_count_93 : decode cX12_count 93 = .ok (.ireturn, 1) := dz_172 (n := 64) (r := 29) hz_X12_count_64 rfl
theorem dX12_count_94 : decode cX12_count 94 = .ok (.aload_n 0, 1) := dz_42 (n := 64) (r := 30) hz_X12_count_64 rfl
theorem dX12_count_95 : decode cX12_count 95 = .ok (.invokevirtual 338, 3) := dz_182 (n := 64) (r := 31) hz_X12_count_64 rfl rfl
theorem hz_X12_count_96 : (cX12_count.data.toList.drop 96).take 40 = [1, 82, 172, 42, 182, 1, 85, 172, 42, 182, 1, 88, 172, 42, 180, 0, 94, 172, 42, 180, 0, 197, 172, 42, 180, 0, 52, 3, 51, 153, 0, 7, 4, 167, 0, 4, 3, 42, 180, 0] := by decide +kernel
theorem dX12_count_98 : decode cX12_count 98 = .ok (.ireturn, 1) := dz_172 (n := 96) (r := 2) hz_X12_count_96 rfl
theorem dX12_count_99 : decode cX12_count 99 = .ok (.aload_n 0, 1) := dz_42 (n := 96) (r := 3) hz_X12_count_96 rfl
theorem dX12_count_100 : decode cX12_count 100 = .ok (.invokevirtual 341, 3) := dz_182 (n := 96) (r := 4) hz_X12_count_96 rfl rfl
theorem dX12_count_103 : decode cX12_count 103 = .ok (.ireturn, 1) := dz_172 (n := 96) (r := 7) hz_X12_count_96 rfl
theorem dX12_count_104 : decode cX12_count 104 = .ok (.aload_n 0, 1) := dz_42 (n := 96) (r := 8) hz_X12_count_96 rfl
theorem dX12_count_105 : decode cX12_count 105 = .ok (.invokevirtual 344, 3) := dz_182 (n := 96) (r := 9) hz_X12_count_96 rfl rfl
theorem dX12_count_108 : decode cX12_count 108 = .ok (.ireturn, 1) := dz_172 (n := 96) (r := 12) hz_X12_count_96 rfl
theorem dX12_count_109 : decode cX12_count 109 = .ok (.aload_n 0, 1) := dz_42 (n := 96) (r := 13) hz_X12_count_96 rfl
theorem dX12_count_110 : decode cX12_count 110 = .ok (.getfield 94, 3) := dz_180 (n := 96) (r := 14) hz_X12_count_96 rfl rfl
theorem dX12_count_113 : decode cX12_count 113 = .ok (.ireturn, 1) := dz_172 (n := 96) (r := 17) hz_X12_count_96 rfl
theorem dX12_count_114 : decode cX12_count 114 = .ok (.aload_n 0, 1) := dz_42 (n := 96) (r := 18) hz_X12_count_96 rfl
theorem dX12_count_115 : decode cX12_count 115 = .ok (.getfield 197, 3) := dz_180 (n := 96) (r := 19) hz_X12_count_96 rfl rfl
theorem dX12_count_118 : decode cX12_count 118 = .ok (.ireturn, 1) := dz_172 (n := 96) (r := 22) hz_X12_count_96 rfl
theorem dX12_count_119 : decode cX12_count 119 = .ok (.aload_n 0, 1) := dz_42 (n := 96) (r := 23) hz_X12_count_96 rfl
theorem dX12_count_120 : decode cX12_count 120 = .ok (.getfield 52, 3) := dz_180 (n := 96) (r := 24) hz_X12_count_96 rfl rfl
theorem dX12_count_123 : decode cX12_count 123 = .ok (.iconst 0, 1) := dz_3 (n := 96) (r := 27) hz_X12_count_96 rfl
theorem dX12_count_124 : decode cX12_count 124 = .ok (.baload, 1) := dz_51 (n := 96) (r := 28) hz_X12_count_96 rfl
theorem dX12_count_125 : decode cX12_count 125 = .ok (.ifCond .eq 7, 3) := dz_153 (n := 96) (r := 29) hz_X12_count_96 rfl (by decide +kernel)
theorem hz_X12_count_128 : (cX12_count.data.toList.drop 128).take 40 = [4, 167, 0, 4, 3, 42, 180, 0, 52, 4, 51, 153, 0, 7, 4, 167, 0, 4, 3, 96, 42, 180, 0, 52, 5, 51, 153, 0, 7, 4, 167, 0, 4, 3, 96, 172, 42, 180, 0, 40] := by decide +kernel
theorem dX12_count_128 : decode cX12_count 128 = .ok (.iconst 1, 1) := dz_4 (n := 128) (r := 0) hz_X12_count_128 rfl
theorem dX12_count_129 : decode cX12_count 129 = .ok (.goto 4, 3) := dz_167 (n := 128) (r := 1) hz_X12_count_128 rfl (by decide +kernel)
theorem dX12_count_132 : decode cX12_count 132 = .ok (.iconst 0, 1) := dz_3 (n := 128) (r := 4) hz_X12_count_128 rfl
theorem dX12_count_133 : decode cX12_count 133 = .ok (.aload_n 0, 1) := dz_42 (n := 128) (r := 5) hz_X12_count_128 rfl
theorem dX12_count_134 : decode cX12_count 134 = .ok (.getfield 52, 3) := dz_180 (n := 128) (r := 6) hz_X12_count_128 rfl rfl
theorem dX12_count_137 : decode cX12_count 137 = .ok (.iconst 1, 1) := dz_4 (n := 128) (r := 9) hz_X12_count_128 rfl
theorem dX12_count_138 : decode cX12_count 138 = .ok (.baload, 1) := dz_51 (n := 128) (r := 10) hz_X12_count_128 rfl
theorem dX12_count_139 : decode cX12_count 139 = .ok (.ifCond .eq 7, 3) := dz_153 (n := 128) (r := 11) hz_X12_count_128 rfl (by decide +kernel)
theorem dX12_count_142 : decode cX12_count 142 = .ok (.iconst 1, 1) := dz_4 (n := 128) (r := 14) hz_X12_count_128 rfl
theorem dX12_count_143 : decode cX12_count 143 = .ok (.goto 4, 3) := dz_167 (n := 128) (r := 15) hz_X12_count_128 rfl (by decide +kernel)
theorem dX12_count_146 : decode cX12_count 146 = .ok (.iconst 0, 1) := dz_3 (n := 128) (r := 18) hz_X12_count_128 rfl
theorem dX12_count_147 : decode cX12_count 147 = .ok (.iadd, 1) := dz_96 (n := 128) (r := 19) hz_X12_count_128 rfl
theorem dX12_count_148 : decode cX12_count 148 = .ok (.aload_n 0, 1) := dz_42 (n := 128) (r := 20) hz_X12_count_128 rfl
theorem dX12_count_149 : decode cX12_count 149 = .ok (.getfield 52, 3) := dz_180 (n := 128) (r := 21) hz_X12_count_128 rfl rfl
theorem dX12_count_152 : decode cX12_count 152 = .ok (.iconst 2, 1) := dz_5 (n := 128) (r := 24) hz_X12_count_128 rfl
theorem dX12_count_153 : decode cX12_count 153 = .ok (.baload, 1) := dz_51 (n := 128) (r := 25) hz_X12_count_128 rfl
theorem dX12_count_154 : decode cX12_count 154 = .ok (.ifCond .eq 7, 3) := dz_153 (n := 128) (r := 26) hz_X12_count_128 rfl (by decide +kernel)
theorem dX12_count_157 : decode cX12_count 157 = .ok (.iconst 1, 1) := dz_4 (n := 128) (r := 29) hz_X12_count_128 rfl
theorem dX12_count_158 : decode cX12_count 158 = .ok (.goto 4, 3) := dz_167 (n := 128) (r := 30) hz_X12_count_128 rfl (by decide +kernel)
theorem hz_X12_count_160 : (cX12_count.data.toList.drop 160).take 40 = [4, 3, 96, 172, 42, 180, 0, 40, 16, 65, 46, 172, 42, 182, 1, 91, 172, 42, 182, 1, 94, 172, 42, 180, 0, 184, 153, 0, 7, 4, 167, 0, 4, 3, 42, 180, 0, 190, 153, 0] := by decide +kernel
theorem dX12_count_161 : decode cX12_count 161 = .ok (.iconst 0, 1) := dz_3 (n := 160) (r := 1) hz_X12_count_160 rfl
theorem dX12_count_162 : decode cX12_count 162 = .ok (.iadd, 1) := dz_96 (n := 160) (r := 2) hz_X12_count_160 rfl
theorem dX12_count_163 : decode cX12_count 163 = .ok (.ireturn, 1) := dz_172 (n := 160) (r := 3) hz_X12_count_160 rfl
theorem dX12_count_164 : decode cX12_count 164 = .ok (.aload_n 0, 1) := dz_42 (n := 160) (r := 4) hz_X12_count_160 rfl
theorem dX12_count_165 : decode cX12_count 165 = .ok (.getfield 40, 3) := dz_180 (n := 160) (r := 5) hz_X12_count_160 rfl rfl
theorem dX12_count_168 : decode cX12_count 168 = .ok (.bipush 65, 2) := dz_16 (n := 160) (r := 8) hz_X12_count_160 rfl rfl
theorem dX12_count_170 : decode cX12_count 170 = .ok (.iaload, 1) := dz_46 (n := 160) (r := 10) hz_X12_count_160 rfl
theorem dX12_count_171 : decode cX12_count 171 = .ok (.ireturn, 1) := dz_172 (n := 160) (r := 11) hz_X12_count_160 rfl
theorem dX12_count_172 : decode cX12_count 172 = .ok (.aload_n 0, 1) := dz_42 (n := 160) (r := 12) hz_X12_count_160 rfl
theorem dX12_count_173 : decode cX12_count 173 = .ok (.invokevirtual 347, 3) := dz_182 (n := 160) (r := 13) hz_X12_count_160 rfl rfl
theorem dX12_count_176 : decode cX12_count 176 = .ok (.ireturn, 1) := dz_172 (n := 160) (r := 16) hz_X12_count_160 rfl
theorem dX12_count_177 : decode cX12_count 177 = .ok (.aload_n 0, 1) := dz_42 (n := 160) (r := 17) hz_X12_count_160 rfl
theorem dX12_count_178 : decode cX12_count 178 = .ok (.invokevirtual 350, 3) := dz_182 (n := 160) (r := 18) hz_X12_count_160 rfl rfl
theorem dX12_count_181 : decode cX12_count 181 = .ok (.ireturn, 1) := dz_172 (n := 160) (r := 21) hz_X12_count_160 rfl
theorem dX12_count_182 : decode cX12_count 182 = .ok (.aload_n 0, 1) := dz_42 (n := 160) (r := 22) hz_X12_count_160 rfl
theorem dX12_count_183 : decode cX12_count 183 = .ok (.getfield 184, 3) := dz_180 (n := 160) (r := 23) hz_X12_count_160 rfl rfl
theorem dX12_count_186 : decode cX12_count 186 = .ok (.ifCond .eq 7, 3) := dz_153 (n := 160) (r := 26) hz_X12_count_160 rfl (by decide +kernel)
theorem dX12_count_189 : decode cX12_count 189 = .ok (.iconst 1, 1) := dz_4 (n := 160) (r := 29) hz_X12_count_160 rfl
theorem dX12_count_190 : decode cX12_count 190 = .ok (.goto 4, 3) := dz_167 (n := 160) (r := 30) hz_X12_count_160 rfl (by decide +kernel)
theorem hz_X12_count_192 : (cX12_count.data.toList.drop 192).take 40 = [4, 3, 42, 180, 0, 190, 153, 0, 7, 5, 167, 0, 4, 3, 96, 172, 42, 182, 1, 97, 172, 42, 182, 1, 100, 172, 2, 172] := by decide +kernel
theorem dX12_count_193 : decode cX12_count 193 = .ok (.iconst 0, 1) := dz_3 (n := 192) (r := 1) hz_X12_count_192 rfl
theorem dX12_count_194 : decode cX12_count 194 = .ok (.aload_n 0, 1) := dz_42 (n := 192) (r := 2) hz_X12_count_192 rfl
theorem dX12_count_195 : decode cX12_count 195 = .ok (.getfield 190, 3) := dz_180 (n := 192) (r := 3) hz_X12_count_192 rfl rfl
theorem dX12_count_198 : decode cX12_count 198 = .ok (.ifCond .eq 7, 3) := dz_153 (n := 192) (r := 6) hz_X12_count_192 rfl (by decide +kernel)
theorem dX12_count_201 : decode cX12_count 201 = .ok (.iconst 2, 1) := dz_5 (n := 192) (r := 9) hz_X12_count_192 rfl
theorem dX12_count_202 : decode cX12_count 202 = .ok (.goto 4, 3) := dz_167 (n := 192) (r := 10) hz_X12_count_192 rfl (by decide +kernel)
theorem dX12_count_205 : decode cX12_count 205 = .ok (.iconst 0, 1) := dz_3 (n := 192) (r := 13) hz_X12_count_192 rfl
theorem dX12_count_206 : decode cX12_count 206 = .ok (.iadd, 1) := dz_96 (n := 192) (r := 14) hz_X12_count_192 rfl
theorem dX12_count_207 : decode cX12_count 207 = .ok (.ireturn, 1) := dz_172 (n := 192) (r := 15) hz_X12_count_192 rfl
theorem dX12_count_208 : decode cX12_count 208 = .ok (.aload_n 0, 1) := dz_42 (n := 192) (r := 16) hz_X12_count_192 rfl
theorem dX12_count_209 : decode cX12_count 209 = .ok (.invokevirtual 353, 3) := dz_182 (n := 192) (r := 17) hz_X12_count_192 rfl rfl
theorem dX12_count_212 : decode cX12_count 212 = .ok (.ireturn, 1) := dz_172 (n := 192) (r := 20) hz_X12_count_192 rfl
theorem dX12_count_213 : decode cX12_count 213 = .ok (.aload_n 0, 1) := dz_42 (n := 192) (r := 21) hz_X12_count_192 rfl
theorem dX12_count_214 : decode cX12_count 214 = .ok (.invokevirtual 356, 3) := dz_182 (n := 192) (r := 22) hz_X12_count_192 rfl rfl
theorem dX12_count_217 : decode cX12_count 217 = .ok (.ireturn, 1) := dz_172 (n := 192) (r := 25) hz_X12_count_192 rfl
theorem dX12_count_218 : decode cX12_count 218 = .ok (.iconst (-1), 1) := dz_2 (n := 192) (r := 26) hz_X12_count_192 rfl
theorem dX12_count_219 : decode cX12_count 219 = .ok (.ireturn, 1) := dz_172 (n := 192) (r := 27) hz_X12_count_192 rfl
theorem hz_J6_bitCount_0f7a4_0 : (cJ6_bitCount_0f7a4.data.toList.drop 0).take 40 = [26, 26, 4, 124, 19, 1, 9, 126, 100, 59, 26, 19, 1, 10, 126, 26, 5, 124, 19, 1, 10, 126, 96, 59, 26, 26, 7, 124, 96, 19, 1, 11, 126, 59, 26, 26, 16, 8, 124, 96] := by decide +kernel
theorem dJ6_bitCount_0f7a4_0 : decode cJ6_bitCount_0f7a4 0 = .ok (.iload_n 0, 1) := dz_26 (n := 0) (r := 0) hz_J6_bitCount_0f7a4_0 rfl
theorem dJ6_bitCount_0f7a4_1 : decode cJ6_bitCount_0f7a4 1 = .ok (.iload_n 0, 1) := dz_26 (n := 0) (r := 1) hz_J6_bitCount_0f7a4_0 rfl
theorem dJ6_bitCount_0f7a4_2 : decode cJ6_bitCount_0f7a4 2 = .ok (.iconst 1, 1) := dz_4 (n := 0) (r := 2) hz_J6_bitCount_0f7a4_0 rfl
theorem dJ6_bitCount_0f7a4_3 : decode cJ6_bitCount_0f7a4 3 = .ok (.iushr, 1) := dz_124 (n := 0) (r := 3) hz_J6_bitCount_0f7a4_0 rfl
theorem dJ6_bitCount_0f7a4_4 : decode cJ6_bitCount_0f7a4 4 = .ok (.ldc_w 265, 3) := dz_19 (n := 0) (r := 4) hz_J6_bitCount_0f7a4_0 rfl rfl
theorem dJ6_bitCount_0f7a4_7 : decode cJ6_bitCount_0f7a4 7 = .ok (.iand, 1) := dz_126 (n := 0) (r := 7) hz_J6_bitCount_0f7a4_0 rfl
theorem dJ6_bitCount_0f7a4_8 : decode cJ6_bitCount_0f7a4 8 = .ok (.isub, 1) := dz_100 (n := 0) (r := 8) hz_J6_bitCount_0f7a4_0 rfl
theorem dJ6_bitCount_0f7a4_9 : decode cJ6_bitCount_0f7a4 9 = .ok (.istore_n 0, 1) := dz_59 (n := 0) (r := 9) hz_J6_bitCount_0f7a4_0 rfl
theorem dJ6_bitCount_0f7a4_10 : decode cJ6_bitCount_0f7a4 10 = .ok (.iload_n 0, 1) := dz_26 (n := 0) (r := 10) hz_J6_bitCount_0f7a4_0 rfl
theorem dJ6_bitCount_0f7a4_11 : decode cJ6_bitCount_0f7a4 11 = .ok (.ldc_w 266, 3) := dz_19 (n := 0) (r := 11) hz_J6_bitCount_0f7a4_0 rfl rfl
theorem dJ6_bitCount_0f7a4_14 : decode cJ6_bitCount_0f7a4 14 = .ok (.iand, 1) := dz_126 (n := 0) (r := 14) hz_J6_bitCount_0f7a4_0 rfl
theorem dJ6_bitCount_0f7a4_15 : decode cJ6_bitCount_0f7a4 15 = .ok (.iload_n 0, 1) := dz_26 (n := 0) (r := 15) hz_J6_bitCount_0f7a4_0 rfl
theorem dJ6_bitCount_0f7a4_16 : decode cJ6_bitCount_0f7a4 16 = .ok (.iconst 2, 1) := dz_5 (n := 0) (r := 16) hz_J6_bitCount_0f7a4_0 rfl
theorem dJ6_bitCount_0f7a4_17 : decode cJ6_bitCount_0f7a4 17 = .ok (.iushr, 1) := dz_124 (n := 0) (r := 17) hz_J6_bitCount_0f7a4_0 rfl
theorem dJ6_bitCount_0f7a4_18 : decode cJ6_bitCount_0f7a4 18 = .ok (.ldc_w 266, 3) := dz_19 (n := 0) (r := 18) hz_J6_bitCount_0f7a4_0 rfl rfl
theorem dJ6_bitCount_0f7a4_21 : decode cJ6_bitCount_0f7a4 21 = .ok (.iand, 1) := dz_126 (n := 0) (r := 21) hz_J6_bitCount_0f7a4_0 rfl
theorem dJ6_bitCount_0f7a4_22 : decode cJ6_bitCount_0f7a4 22 = .ok (.iadd, 1) := dz_96 (n := 0) (r := 22) hz_J6_bitCount_0f7a4_0 rfl
theorem dJ6_bitCount_0f7a4_23 : decode cJ6_bitCount_0f7a4 23 = .ok (.istore_n 0, 1) := dz_59 (n := 0) (r := 23) hz_J6_bitCount_0f7a4_0 rfl
theorem dJ6_bitCount_0f7a4_24 : decode cJ6_bitCount_0f7a4 24 = .ok (.iload_n 0, 1) := dz_26 (n := 0) (r := 24) hz_J6_bitCount_0f7a4_0 rfl
theorem dJ6_bitCount_0f7a4_25 : decode cJ6_bitCount_0f7a4 25 = .ok (.iload_n 0, 1) := dz_26 (n := 0) (r := 25) hz_J6_bitCount_0f7a4_0 rfl
theorem dJ6_bitCount_0f7a4_26 : decode cJ6_bitCount_0f7a4 26 = .ok (.iconst 4, 1) := dz_7 (n := 0) (r := 26) hz_J6_bitCount_0f7a4_0 rfl
theorem dJ6_bitCount_0f7a4_27 : decode cJ6_bitCount_0f7a4 27 = .ok (.iushr, 1) := dz_124 (n := 0) (r := 27) hz_J6_bitCount_0f7a4_0 rfl
theorem dJ6_bitCount_0f7a4_28 : decode cJ6_bitCount_0f7a4 28 = .ok (.iadd, 1) := dz_96 (n := 0) (r := 28) hz_J6_bitCount_0f7a4_0 rfl
theorem dJ6_bitCount_0f7a4_29 : decode cJ6_bitCount_0f7a4 29 = .ok (.ldc_w 267, 3) := dz_19 (n := 0) (r := 29) hz_J6_bitCount_0f7a4_0 rfl rfl
theorem hz_J6_bitCount_0f7a4_32 : (cJ6_bitCount_0f7a4.data.toList.drop 32).take 40 = [126, 59, 26, 26, 16, 8, 124, 96, 59, 26, 26, 16, 16, 124, 96, 59, 26, 16, 63, 126, 172] := by decide +kernel
theorem dJ6_bitCount_0f7a4_32 : decode cJ6_bitCount_0f7a4 32 = .ok (.iand, 1) := dz_126 (n := 32) (r := 0) hz_J6_bitCount_0f7a4_32 rfl
theorem dJ6_bitCount_0f7a4_33 : decode cJ6_bitCount_0f7a4 33 = .ok (.istore_n 0, 1) := dz_59 (n := 32) (r := 1) hz_J6_bitCount_0f7a4_32 rfl
theorem dJ6_bitCount_0f7a4_34 : decode cJ6_bitCount_0f7a4 34 = .ok (.iload_n 0, 1) := dz_26 (n := 32) (r := 2) hz_J6_bitCount_0f7a4_32 rfl
theorem dJ6_bitCount_0f7a4_35 : decode cJ6_bitCount_0f7a4 35 = .ok (.iload_n 0, 1) := dz_26 (n := 32) (r := 3) hz_J6_bitCount_0f7a4_32 rfl
theorem dJ6_bitCount_0f7a4_36 : decode cJ6_bitCount_0f7a4 36 = .ok (.bipush 8, 2) := dz_16 (n := 32) (r := 4) hz_J6_bitCount_0f7a4_32 rfl rfl
theorem dJ6_bitCount_0f7a4_38 : decode cJ6_bitCount_0f7a4 38 = .ok (.iushr, 1) := dz_124 (n := 32) (r := 6) hz_J6_bitCount_0f7a4_32 rfl
theorem dJ6_bitCount_0f7a4_39 : decode cJ6_bitCount_0f7a4 39 = .ok (.iadd, 1) := dz_96 (n := 32) (r := 7) hz_J6_bitCount_0f7a4_32 rfl
theorem dJ6_bitCount_0f7a4_40 : decode cJ6_bitCount_0f7a4 40 = .ok (.istore_n 0, 1) := dz_59 (n := 32) (r := 8) hz_J6_bitCount_0f7a4_32 rfl
theorem dJ6_bitCount_0f7a4_41 : decode cJ6_bitCount_0f7a4 41 = .ok (.iload_n 0, 1) := dz_26 (n := 32) (r := 9) hz_J6_bitCount_0f7a4_32 rfl
theorem dJ6_bitCount_0f7a4_42 : decode cJ6_bitCount_0f7a4 42 = .ok (.iload_n 0, 1) := dz_26 (n := 32) (r := 10) hz_J6_bitCount_0f7a4_32 rfl
theorem dJ6_bitCount_0f7a4_43 : decode cJ6_bitCount_0f7a4 43 = .ok (.bipush 16, 2) := dz_16 (n := 32) (r := 11) hz_J6_bitCount_0f7a4_32 rfl rfl
theorem dJ6_bitCount_0f7a4_45 : decode cJ6_bitCount_0f7a4 45 = .ok (.iushr, 1) := dz_124 (n := 32) (r := 13) hz_J6_bitCount_0f7a4_32 rfl
theorem dJ6_bitCount_0f7a4_46 : decode cJ6_bitCount_0f7a4 46 = .ok (.iadd, 1) := dz_96 (n := 32) (r := 14) hz_J6_bitCount_0f7a4_32 rfl
theorem dJ6_bitCount_0f7a4_47 : decode cJ6_bitCount_0f7a4 47 = .ok (.istore_n 0, 1) := dz_59 (n := 32) (r := 15) hz_J6_bitCount_0f7a4_32 rfl
theorem dJ6_bitCount_0f7a4_48 : decode cJ6_bitCount_0f7a4 48 = .ok (.iload_n 0, 1) := dz_26 (n := 32) (r := 16) hz_J6_bitCount_0f7a4_32 rfl
theorem dJ6_bitCount_0f7a4_49 : decode cJ6_bitCount_0f7a4 49 = .ok (.bipush 63, 2) := dz_16 (n := 32) (r := 17) hz_J6_bitCount_0f7a4_32 rfl rfl
theorem dJ6_bitCount_0f7a4_51 : decode cJ6_bitCount_0f7a4 51 = .ok (.iand, 1) := dz_126 (n := 32) (r := 19) hz_J6_bitCount_0f7a4_32 rfl
theorem dJ6_bitCount_0f7a4_52 : decode cJ6_bitCount_0f7a4 52 = .ok (.ireturn, 1) := dz_172 (n := 32) (r := 20) hz_J6_bitCount_0f7a4_32 rfl
theorem hz_J6_signum_0f7a4_0 : (cJ6_signum_0f7a4.data.toList.drop 0).take 40 = [26, 16, 31, 122, 26, 116, 16, 31, 124, 128, 172] := by decide +kernel
theorem dJ6_signum_0f7a4_0 : decode cJ6_signum_0f7a4 0 = .ok (.iload_n 0, 1) := dz_26 (n := 0) (r := 0) hz_J6_signum_0f7a4_0 rfl
theorem dJ6_signum_0f7a4_1 : decode cJ6_signum_0f7a4 1 = .ok (.bipush 31, 2) := dz_16 (n := 0) (r := 1) hz_J6_signum_0f7a4_0 rfl rfl
theorem dJ6_signum_0f7a4_3 : decode cJ6_signum_0f7a4 3 = .ok (.ishr, 1) := dz_122 (n := 0) (r := 3) hz_J6_signum_0f7a4_0 rfl
theorem dJ6_signum_0f7a4_4 : decode cJ6_signum_0f7a4 4 = .ok (.iload_n 0, 1) := dz_26 (n := 0) (r := 4) hz_J6_signum_0f7a4_0 rfl
theorem dJ6_signum_0f7a4_5 : decode cJ6_signum_0f7a4 5 = .ok (.ineg, 1) := dz_116 (n := 0) (r := 5) hz_J6_signum_0f7a4_0 rfl
theorem dJ6_signum_0f7a4_6 : decode cJ6_signum_0f7a4 6 = .ok (.bipush 31, 2) := dz_16 (n := 0) (r := 6) hz_J6_signum_0f7a4_0 rfl rfl
theorem dJ6_signum_0f7a4_8 : decode cJ6_signum_0f7a4 8 = .ok (.iushr, 1) := dz_124 (n := 0) (r := 8) hz_J6_signum_0f7a4_0 rfl
theorem dJ6_signum_0f7a4_9 : decode cJ6_signum_0f7a4 9 = .ok (.ior, 1) := dz_128 (n := 0) (r := 9) hz_J6_signum_0f7a4_0 rfl
theorem dJ6_signum_0f7a4_10 : decode cJ6_signum_0f7a4 10 = .ok (.ireturn, 1) := dz_172 (n := 0) (r := 10) hz_J6_signum_0f7a4_0 rfl
theorem hz_J9_abs_0f7a4_0 : (cJ9_abs_0f7a4.data.toList.drop 0).take 40 = [26, 156, 0, 8, 26, 116, 167, 0, 4, 26, 172] := by decide +kernel
theorem dJ9_abs_0f7a4_0 : decode cJ9_abs_0f7a4 0 = .ok (.iload_n 0, 1) := dz_26 (n := 0) (r := 0) hz_J9_abs_0f7a4_0 rfl
theorem dJ9_abs_0f7a4_1 : decode cJ9_abs_0f7a4 1 = .ok (.ifCond .ge 8, 3) := dz_156 (n := 0) (r := 1) hz_J9_abs_0f7a4_0 rfl (by decide +kernel)
theorem dJ9_abs_0f7a4_4 : decode cJ9_abs_0f7a4 4 = .ok (.iload_n 0, 1) := dz_26 (n := 0) (r := 4) hz_J9_abs_0f7a4_0 rfl
theorem dJ9_abs_0f7a4_5 : decode cJ9_abs_0f7a4 5 = .ok (.ineg, 1) := dz_116 (n := 0) (r := 5) hz_J9_abs_0f7a4_0 rfl
theorem dJ9_abs_0f7a4_6 : decode cJ9_abs_0f7a4 6 = .ok (.goto 4, 3) := dz_167 (n := 0) (r := 6) hz_J9_abs_0f7a4_0 rfl (by decide +kernel)
theorem dJ9_abs_0f7a4_9 : decode cJ9_abs_0f7a4 9 = .ok (.iload_n 0, 1) := dz_26 (n := 0) (r := 9) hz_J9_abs_0f7a4_0 rfl
theorem dJ9_abs_0f7a4_10 : decode cJ9_abs_0f7a4 10 = .ok (.ireturn, 1) := dz_172 (n := 0) (r := 10) hz_J9_abs_0f7a4_0 rfl
theorem hz_J9_max_7cf53_0 : (cJ9_max_7cf53.data.toList.drop 0).take 40 = [26, 27, 161, 0, 7, 26, 167, 0, 4, 27, 172] := by decide +kernel
theorem dJ9_max_7cf53_0 : decode cJ9_max_7cf53 0 = .ok (.iload_n 0, 1) := dz_26 (n := 0) (r := 0) hz_J9_max_7cf53_0 rfl
theorem dJ9_max_7cf53_1 : decode cJ9_max_7cf53 1 = .ok (.iload_n 1, 1) := dz_27 (n := 0) (r := 1) hz_J9_max_7cf53_0 rfl
theorem dJ9_max_7cf53_2 : decode cJ9_max_7cf53 2 = .ok (.if_icmp .lt 7, 3) := dz_161 (n := 0) (r := 2) hz_J9_max_7cf53_0 rfl (by decide +kernel)
theorem dJ9_max_7cf53_5 : decode cJ9_max_7cf53 5 = .ok (.iload_n 0, 1) := dz_26 (n := 0) (r := 5) hz_J9_max_7cf53_0 rfl
theorem dJ9_max_7cf53_6 : decode cJ9_max_7cf53 6 = .ok (.goto 4, 3) := dz_167 (n := 0) (r := 6) hz_J9_max_7cf53_0 rfl (by decide +kernel)
theorem dJ9_max_7cf53_9 : decode cJ9_max_7cf53 9 = .ok (.iload_n 1, 1) := dz_27 (n := 0) (r := 9) hz_J9_max_7cf53_0 rfl
theorem dJ9_max_7cf53_10 : decode cJ9_max_7cf53 10 = .ok (.ireturn, 1) := dz_172 (n := 0) (r := 10) hz_J9_max_7cf53_0 rfl
theorem hz_J9_min_7cf53_0 : (cJ9_min_7cf53.data.toList.drop 0).take 40 = [26, 27, 163, 0, 7, 26, 167, 0, 4, 27, 172] := by decide +kernel
theorem dJ9_min_7cf53_0 : decode cJ9_min_7cf53 0 = .ok (.iload_n 0, 1) := dz_26 (n := 0) (r := 0) hz_J9_min_7cf53_0 rfl
theorem dJ9_min_7cf53_1 : decode cJ9_min_7cf53 1 = .ok (.iload_n 1, 1) := dz_27 (n := 0) (r := 1) hz_J9_min_7cf53_0 rfl
theorem dJ9_min_7cf53_2 : decode cJ9_min_7cf53 2 = .ok (.if_icmp .gt 7, 3) := dz_163 (n := 0) (r := 2) hz_J9_min_7cf53_0 rfl (by decide +kernel)
theorem dJ9_min_7cf53_5 : decode cJ9_min_7cf53 5 = .ok (.iload_n 0, 1) := dz_26 (n := 0) (r := 5) hz_J9_min_7cf53_0 rfl
theorem dJ9_min_7cf53_6 : decode cJ9_min_7cf53 6 = .ok (.goto 4, 3) := dz_167 (n := 0) (r := 6) hz_J9_min_7cf53_0 rfl (by decide +kernel)
theorem dJ9_min_7cf53_9 : decode cJ9_min_7cf53 9 = .ok (.iload_n 1, 1) := dz_27 (n := 0) (r := 9) hz_J9_min_7cf53_0 rfl
theorem dJ9_min_7cf53_10 : decode cJ9_min_7cf53 10 = .ok (.ireturn, 1) := dz_172 (n := 0) (r := 10) hz_J9_min_7cf53_0 rfl
theorem hz_J0_length_8abf5_0 : (cJ0_length_8abf5.data.toList.drop 0).take 40 = [42, 180, 0, 9, 190, 42, 182, 1, 79, 122, 172] := by decide +kernel
theorem dJ0_length_8abf5_0 : decode cJ0_length_8abf5 0 = .ok (.aload_n 0, 1) := dz_42 (n := 0) (r := 0) hz_J0_length_8abf5_0 rfl
theorem dJ0_length_8abf5_1 : decode cJ0_length_8abf5 1 = .ok (.getfield 9, 3) := dz_180 (n := 0) (r := 1) hz_J0_length_8abf5_0 rfl rfl
theorem dJ0_length_8abf5_4 : decode cJ0_length_8abf5 4 = .ok (.arraylength, 1) := dz_190 (n := 0) (r := 4) hz_J0_length_8abf5_0 rfl
theorem dJ0_length_8abf5_5 : decode cJ0_length_8abf5 5 = .ok (.aload_n 0, 1) := dz_42 (n := 0) (r := 5) hz_J0_length_8abf5_0 rfl
theorem dJ0_length_8abf5_6 : decode cJ0_length_8abf5 6 = .ok (.invokevirtual 335, 3) := dz_182 (n := 0) (r := 6) hz_J0_length_8abf5_0 rfl rfl
theorem dJ0_length_8abf5_9 : decode cJ0_length_8abf5 9 = .ok (.ishr, 1) := dz_122 (n := 0) (r := 9) hz_J0_length_8abf5_0 rfl
theorem dJ0_length_8abf5_10 : decode cJ0_length_8abf5 10 = .ok (.ireturn, 1) := dz_172 (n := 0) (r := 10) hz_J0_length_8abf5_0 rfl
theorem hz_J0_charAt_5068e_0 : (cJ0_charAt_5068e.data.toList.drop 0).take 40 = [42, 182, 1, 236, 153, 0, 12, 42, 180, 0, 9, 27, 184, 1, 239, 172, 42, 180, 0, 9, 27, 184, 1, 242, 172] := by decide +kernel
theorem dJ0_charAt_5068e_0 : decode cJ0_charAt_5068e 0 = .ok (.aload_n 0, 1) := dz_42 (n := 0) (r := 0) hz_J0_charAt_5068e_0 rfl
theorem dJ0_charAt_5068e_1 : decode cJ0_charAt_5068e 1 = .ok (.invokevirtual 492, 3) := dz_182 (n := 0) (r := 1) hz_J0_charAt_5068e_0 rfl rfl
theorem dJ0_charAt_5068e_4 : decode cJ0_charAt_5068e 4 = .ok (.ifCond .eq 12, 3) := dz_153 (n := 0) (r := 4) hz_J0_charAt_5068e_0 rfl (by decide +kernel)
theorem dJ0_charAt_5068e_7 : decode cJ0_charAt_5068e 7 = .ok (.aload_n 0, 1) := dz_42 (n := 0) (r := 7) hz_J0_charAt_5068e_0 rfl
theorem dJ0_charAt_5068e_8 : decode cJ0_charAt_5068e 8 = .ok (.getfield 9, 3) := dz_180 (n := 0) (r := 8) hz_J0_charAt_5068e_0 rfl rfl
theorem dJ0_charAt_5068e_11 : decode cJ0_charAt_5068e 11 = .ok (.iload_n 1, 1) := dz_27 (n := 0) (r := 11) hz_J0_charAt_5068e_0 rfl
theorem dJ0_charAt_5068e_12 : decode cJ0_charAt_5068e 12 = .ok (.invokestatic 495, 3) := dz_184 (n := 0) (r := 12) hz_J0_charAt_5068e_0 rfl rfl
theorem dJ0_charAt_5068e_15 : decode cJ0_charAt_5068e 15 = .ok (.ireturn, 1) := dz_172 (n := 0) (r := 15) hz_J0_charAt_5068e_0 rfl
theorem dJ0_charAt_5068e_16 : decode cJ0_charAt_5068e 16 = .ok (.aload_n 0, 1) := dz_42 (n := 0) (r := 16) hz_J0_charAt_5068e_0 rfl
theorem dJ0_charAt_5068e_17 : decode cJ0_charAt_5068e 17 = .ok (.getfield 9, 3) := dz_180 (n := 0) (r := 17) hz_J0_charAt_5068e_0 rfl rfl
theorem dJ0_charAt_5068e_20 : decode cJ0_charAt_5068e 20 = .ok (.iload_n 1, 1) := dz_27 (n := 0) (r := 20) hz_J0_charAt_5068e_0 rfl
theorem dJ0_charAt_5068e_21 : decode cJ0_charAt_5068e 21 = .ok (.invokestatic 498, 3) := dz_184 (n := 0) (r := 21) hz_J0_charAt_5068e_0 rfl rfl
theorem dJ0_charAt_5068e_24 : decode cJ0_charAt_5068e 24 = .ok (.ireturn, 1) := dz_172 (n := 0) (r := 24) hz_J0_charAt_5068e_0 rfl
theorem hz_J0_coder_7d493_0 : (cJ0_coder_7d493.data.toList.drop 0).take 40 = [178, 0, 38, 153, 0, 10, 42, 180, 0, 15, 167, 0, 4, 4, 172] := by decide +kernel
theorem dJ0_coder_7d493_0 : decode cJ0_coder_7d493 0 = .ok (.getstatic 38, 3) := dz_178 (n := 0) (r := 0) hz_J0_coder_7d493_0 rfl rfl
theorem dJ0_coder_7d493_3 : decode cJ0_coder_7d493 3 = .ok (.ifCond .eq 10, 3) := dz_153 (n := 0) (r := 3) hz_J0_coder_7d493_0 rfl (by decide +kernel)
theorem dJ0_coder_7d493_6 : decode cJ0_coder_7d493 6 = .ok (.aload_n 0, 1) := dz_42 (n := 0) (r := 6) hz_J0_coder_7d493_0 rfl
theorem dJ0_coder_7d493_7 : decode cJ0_coder_7d493 7 = .ok (.getfield 15, 3) := dz_180 (n := 0) (r := 7) hz_J0_coder_7d493_0 rfl rfl
theorem dJ0_coder_7d493_10 : decode cJ0_coder_7d493 10 = .ok (.goto 4, 3) := dz_167 (n := 0) (r := 10) hz_J0_coder_7d493_0 rfl (by decide +kernel)
theorem dJ0_coder_7d493_13 : decode cJ0_coder_7d493 13 = .ok (.iconst 1, 1) := dz_4 (n := 0) (r := 13) hz_J0_coder_7d493_0 rfl
theorem dJ0_coder_7d493_14 : decode cJ0_coder_7d493 14 = .ok (.ireturn, 1) := dz_172 (n := 0) (r := 14) hz_J0_coder_7d493_0 rfl
theorem hz_J0_isLatin1_aae02_0 : (cJ0_isLatin1_aae02.data.toList.drop 0).take 40 = [178, 0, 38, 153, 0, 14, 42, 180, 0, 15, 154, 0, 7, 4, 167, 0, 4, 3, 172] := by decide +kernel
theorem dJ0_isLatin1_aae02_0 : decode cJ0_isLatin1_aae02 0 = .ok (.getstatic 38, 3) := dz_178 (n := 0) (r := 0) hz_J0_isLatin1_aae02_0 rfl rfl
theorem dJ0_isLatin1_aae02_3 : decode cJ0_isLatin1_aae02 3 = .ok (.ifCond .eq 14, 3) := dz_153 (n := 0) (r := 3) hz_J0_isLatin1_aae02_0 rfl (by decide +kernel)
theorem dJ0_isLatin1_aae02_6 : decode cJ0_isLatin1_aae02 6 = .ok (.aload_n 0, 1) := dz_42 (n := 0) (r := 6) hz_J0_isLatin1_aae02_0 rfl
theorem dJ0_isLatin1_aae02_7 : decode cJ0_isLatin1_aae02 7 = .ok (.getfield 15, 3) := dz_180 (n := 0) (r := 7) hz_J0_isLatin1_aae02_0 rfl rfl
theorem dJ0_isLatin1_aae02_10 : decode cJ0_isLatin1_aae02 10 = .ok (.ifCond .ne 7, 3) := dz_154 (n := 0) (r := 10) hz_J0_isLatin1_aae02_0 rfl (by decide +kernel)
theorem dJ0_isLatin1_aae02_13 : decode cJ0_isLatin1_aae02 13 = .ok (.iconst 1, 1) := dz_4 (n := 0) (r := 13) hz_J0_isLatin1_aae02_0 rfl
theorem dJ0_isLatin1_aae02_14 : decode cJ0_isLatin1_aae02 14 = .ok (.goto 4, 3) := dz_167 (n := 0) (r := 14) hz_J0_isLatin1_aae02_0 rfl (by decide +kernel)
theorem dJ0_isLatin1_aae02_17 : decode cJ0_isLatin1_aae02 17 = .ok (.iconst 0, 1) := dz_3 (n := 0) (r := 17) hz_J0_isLatin1_aae02_0 rfl
theorem dJ0_isLatin1_aae02_18 : decode cJ0_isLatin1_aae02 18 = .ok (.ireturn, 1) := dz_172 (n := 0) (r := 18) hz_J0_isLatin1_aae02_0 rfl
theorem hz_J0_checkIndex_df160_0 : (cJ0_checkIndex_df160.data.toList.drop 0).take 40 = [26, 27, 178, 4, 29, 184, 4, 35, 87, 177] := by decide +kernel
theorem dJ0_checkIndex_df160_0 : decode cJ0_checkIndex_df160 0 = .ok (.iload_n 0, 1) := dz_26 (n := 0) (r := 0) hz_J0_checkIndex_df160_0 rfl
theorem dJ0_checkIndex_df160_1 : decode cJ0_checkIndex_df160 1 = .ok (.iload_n 1, 1) := dz_27 (n := 0) (r := 1) hz_J0_checkIndex_df160_0 rfl
theorem dJ0_checkIndex_df160_2 : decode cJ0_checkIndex_df160 2 = .ok (.getstatic 1053, 3) := dz_178 (n := 0) (r := 2) hz_J0_checkIndex_df160_0 rfl rfl
theorem dJ0_checkIndex_df160_5 : decode cJ0_checkIndex_df160 5 = .ok (.invokestatic 1059, 3) := dz_184 (n := 0) (r := 5) hz_J0_checkIndex_df160_0 rfl rfl
theorem dJ0_checkIndex_df160_8 : decode cJ0_checkIndex_df160 8 = .ok (.pop, 1) := dz_87 (n := 0) (r := 8) hz_J0_checkIndex_df160_0 rfl
theorem dJ0_checkIndex_df160_9 : decode cJ0_checkIndex_df160 9 = .ok (.return_, 1) := dz_177 (n := 0) (r := 9) hz_J0_checkIndex_df160_0 rfl
theorem hz_J1_charAt_3b067_0 : (cJ1_charAt_3b067.data.toList.drop 0).take 40 = [27, 42, 190, 184, 0, 9, 42, 27, 51, 17, 0, 255, 126, 146, 172] := by decide +kernel
theorem dJ1_charAt_3b067_0 : decode cJ1_charAt_3b067 0 = .ok (.iload_n 1, 1) := dz_27 (n := 0) (r := 0) hz_J1_charAt_3b067_0 rfl
theorem dJ1_charAt_3b067_1 : decode cJ1_charAt_3b067 1 = .ok (.aload_n 0, 1) := dz_42 (n := 0) (r := 1) hz_J1_charAt_3b067_0 rfl
theorem dJ1_charAt_3b067_2 : decode cJ1_charAt_3b067 2 = .ok (.arraylength, 1) := dz_190 (n := 0) (r := 2) hz_J1_charAt_3b067_0 rfl
theorem dJ1_charAt_3b067_3 : decode cJ1_charAt_3b067 3 = .ok (.invokestatic 9, 3) := dz_184 (n := 0) (r := 3) hz_J1_charAt_3b067_0 rfl rfl
theorem dJ1_charAt_3b067_6 : decode cJ1_charAt_3b067 6 = .ok (.aload_n 0, 1) := dz_42 (n := 0) (r := 6) hz_J1_charAt_3b067_0 rfl
theorem dJ1_charAt_3b067_7 : decode cJ1_charAt_3b067 7 = .ok (.iload_n 1, 1) := dz_27 (n := 0) (r := 7) hz_J1_charAt_3b067_0 rfl
theorem dJ1_charAt_3b067_8 : decode cJ1_charAt_3b067 8 = .ok (.baload, 1) := dz_51 (n := 0) (r := 8) hz_J1_charAt_3b067_0 rfl
theorem dJ1_charAt_3b067_9 : decode cJ1_charAt_3b067 9 = .ok (.sipush 255, 3) := dz_17 (n := 0) (r := 9) hz_J1_charAt_3b067_0 rfl (by decide +kernel)
theorem dJ1_charAt_3b067_12 : decode cJ1_charAt_3b067 12 = .ok (.iand, 1) := dz_126 (n := 0) (r := 12) hz_J1_charAt_3b067_0 rfl
theorem dJ1_charAt_3b067_13 : decode cJ1_charAt_3b067 13 = .ok (.i2c, 1) := dz_146 (n := 0) (r := 13) hz_J1_charAt_3b067_0 rfl
theorem dJ1_charAt_3b067_14 : decode cJ1_charAt_3b067 14 = .ok (.ireturn, 1) := dz_172 (n := 0) (r := 14) hz_J1_charAt_3b067_0 rfl
theorem hz_J2_getChar_3b067_0 : (cJ2_getChar_3b067.data.toList.drop 0).take 40 = [178, 0, 44, 154, 0, 25, 27, 155, 0, 11, 27, 42, 184, 0, 48, 161, 0, 13, 187, 0, 52, 89, 18, 54, 183, 0, 56, 191, 27, 4, 120, 60, 42, 27, 132, 1, 1, 51, 17, 0] := by decide +kernel
theorem dJ2_getChar_3b067_0 : decode cJ2_getChar_3b067 0 = .ok (.getstatic 44, 3) := dz_178 (n := 0) (r := 0) hz_J2_getChar_3b067_0 rfl rfl
theorem dJ2_getChar_3b067_3 : decode cJ2_getChar_3b067 3 = .ok (.ifCond .ne 25, 3) := dz_154 (n := 0) (r := 3) hz_J2_getChar_3b067_0 rfl (by decide +kernel)
theorem dJ2_getChar_3b067_6 : decode cJ2_getChar_3b067 6 = .ok (.iload_n 1, 1) := dz_27 (n := 0) (r := 6) hz_J2_getChar_3b067_0 rfl
theorem dJ2_getChar_3b067_7 : decode cJ2_getChar_3b067 7 = .ok (.ifCond .lt 11, 3) := dz_155 (n := 0) (r := 7) hz_J2_getChar_3b067_0 rfl (by decide +kernel)
theorem dJ2_getChar_3b067_10 : decode cJ2_getChar_3b067 10 = .ok (.iload_n 1, 1) := dz_27 (n := 0) (r := 10) hz_J2_getChar_3b067_0 rfl
theorem dJ2_getChar_3b067_11 : decode cJ2_getChar_3b067 11 = .ok (.aload_n 0, 1) := dz_42 (n := 0) (r := 11) hz_J2_getChar_3b067_0 rfl
theorem dJ2_getChar_3b067_12 : decode cJ2_getChar_3b067 12 = .ok (.invokestatic 48, 3) := dz_184 (n := 0) (r := 12) hz_J2_getChar_3b067_0 rfl rfl
theorem dJ2_getChar_3b067_15 : decode cJ2_getChar_3b067 15 = .ok (.if_icmp .lt 13, 3) := dz_161 (n := 0) (r := 15) hz_J2_getChar_3b067_0 rfl (by decide +kernel)
theorem dJ2_getChar_3b067_18 : decode cJ2_getChar_3b067 18 = .ok (.new 52, 3) := dz_187 (n := 0) (r := 18) hz_J2_getChar_3b067_0 rfl rfl
theorem dJ2_getChar_3b067_21 : decode cJ2_getChar_3b067 21 = .ok (.dup, 1) := dz_89 (n := 0) (r := 21) hz_J2_getChar_3b067_0 rfl
theorem dJ2_getChar_3b067_22 : decode cJ2_getChar_3b067 22 = .ok (.ldc 54, 2) := dz_18 (n := 0) (r := 22) hz_J2_getChar_3b067_0 rfl rfl
theorem dJ2_getChar_3b067_24 : decode cJ2_getChar_3b067 24 = .ok (.invokespecial 56, 3) := dz_183 (n := 0) (r := 24) hz_J2_getChar_3b067_0 rfl rfl
theorem dJ2_getChar_3b067_27 : decode cJ2_getChar_3b067 27 = .ok (.athrow, 1) := dz_191 (n := 0) (r := 27) hz_J2_getChar_3b067_0 rfl
theorem dJ2_getChar_3b067_28 : decode cJ2_getChar_3b067 28 = .ok (.iload_n 1, 1) := dz_27 (n := 0) (r := 28) hz_J2_getChar_3b067_0 rfl
theorem dJ2_getChar_3b067_29 : decode cJ2_getChar_3b067 29 = .ok (.iconst 1, 1) := dz_4 (n := 0) (r := 29) hz_J2_getChar_3b067_0 rfl
theorem dJ2_getChar_3b067_30 : decode cJ2_getChar_3b067 30 = .ok (.ishl, 1) := dz_120 (n := 0) (r := 30) hz_J2_getChar_3b067_0 rfl
theorem dJ2_getChar_3b067_31 : decode cJ2_getChar_3b067 31 = .ok (.istore_n 1, 1) := dz_60 (n := 0) (r := 31) hz_J2_getChar_3b067_0 rfl
theorem hz_J2_getChar_3b067_32 : (cJ2_getChar_3b067.data.toList.drop 32).take 40 = [42, 27, 132, 1, 1, 51, 17, 0, 255, 126, 178, 0, 59, 120, 42, 27, 51, 17, 0, 255, 126, 178, 0, 63, 120, 128, 146, 172] := by decide +kernel
theorem dJ2_getChar_3b067_32 : decode cJ2_getChar_3b067 32 = .ok (.aload_n 0, 1) := dz_42 (n := 32) (r := 0) hz_J2_getChar_3b067_32 rfl
theorem dJ2_getChar_3b067_33 : decode cJ2_getChar_3b067 33 = .ok (.iload_n 1, 1) := dz_27 (n := 32) (r := 1) hz_J2_getChar_3b067_32 rfl
theorem dJ2_getChar_3b067_34 : decode cJ2_getChar_3b067 34 = .ok (.iinc 1 1, 3) := dz_132 (n := 32) (r := 2) hz_J2_getChar_3b067_32 rfl rfl rfl
theorem dJ2_getChar_3b067_37 : decode cJ2_getChar_3b067 37 = .ok (.baload, 1) := dz_51 (n := 32) (r := 5) hz_J2_getChar_3b067_32 rfl
theorem dJ2_getChar_3b067_38 : decode cJ2_getChar_3b067 38 = .ok (.sipush 255, 3) := dz_17 (n := 32) (r := 6) hz_J2_getChar_3b067_32 rfl (by decide +kernel)
theorem dJ2_getChar_3b067_41 : decode cJ2_getChar_3b067 41 = .ok (.iand, 1) := dz_126 (n := 32) (r := 9) hz_J2_getChar_3b067_32 rfl
theorem dJ2_getChar_3b067_42 : decode cJ2_getChar_3b067 42 = .ok (.getstatic 59, 3) := dz_178 (n := 32) (r := 10) hz_J2_getChar_3b067_32 rfl rfl
theorem dJ2_getChar_3b067_45 : decode cJ2_getChar_3b067 45 = .ok (.ishl, 1) := dz_120 (n := 32) (r := 13) hz_J2_getChar_3b067_32 rfl
theorem dJ2_getChar_3b067_46 : decode cJ2_getChar_3b067 46 = .ok (.aload_n 0, 1) := dz_42 (n := 32) (r := 14) hz_J2_getChar_3b067_32 rfl
theorem dJ2_getChar_3b067_47 : decode cJ2_getChar_3b067 47 = .ok (.iload_n 1, 1) := dz_27 (n := 32) (r := 15) hz_J2_getChar_3b067_32 rfl
theorem dJ2_getChar_3b067_48 : decode cJ2_getChar_3b067 48 = .ok (.baload, 1) := dz_51 (n := 32) (r := 16) hz_J2_getChar_3b067_32 rfl
theorem dJ2_getChar_3b067_49 : decode cJ2_getChar_3b067 49 = .ok (.sipush 255, 3) := dz_17 (n := 32) (r := 17) hz_J2_getChar_3b067_32 rfl (by decide +kernel)
theorem dJ2_getChar_3b067_52 : decode cJ2_getChar_3b067 52 = .ok (.iand, 1) := dz_126 (n := 32) (r := 20) hz_J2_getChar_3b067_32 rfl
theorem dJ2_getChar_3b067_53 : decode cJ2_getChar_3b067 53 = .ok (.getstatic 63, 3) := dz_178 (n := 32) (r := 21) hz_J2_getChar_3b067_32 rfl rfl
theorem dJ2_getChar_3b067_56 : decode cJ2_getChar_3b067 56 = .ok (.ishl, 1) := dz_120 (n := 32) (r := 24) hz_J2_getChar_3b067_32 rfl
theorem dJ2_getChar_3b067_57 : decode cJ2_getChar_3b067 57 = .ok (.ior, 1) := dz_128 (n := 32) (r := 25) hz_J2_getChar_3b067_32 rfl
theorem dJ2_getChar_3b067_58 : decode cJ2_getChar_3b067 58 = .ok (.i2c, 1) := dz_146 (n := 32) (r := 26) hz_J2_getChar_3b067_32 rfl
theorem dJ2_getChar_3b067_59 : decode cJ2_getChar_3b067 59 = .ok (.ireturn, 1) := dz_172 (n := 32) (r := 27) hz_J2_getChar_3b067_32 rfl
theorem hz_J2_length_9d52b_0 : (cJ2_length_9d52b.data.toList.drop 0).take 40 = [42, 190, 4, 122, 172] := by decide +kernel
theorem dJ2_length_9d52b_0 : decode cJ2_length_9d52b 0 = .ok (.aload_n 0, 1) := dz_42 (n := 0) (r := 0) hz_J2_length_9d52b_0 rfl
theorem dJ2_length_9d52b_1 : decode cJ2_length_9d52b 1 = .ok (.arraylength, 1) := dz_190 (n := 0) (r := 1) hz_J2_length_9d52b_0 rfl
theorem dJ2_length_9d52b_2 : decode cJ2_length_9d52b 2 = .ok (.iconst 1, 1) := dz_4 (n := 0) (r := 2) hz_J2_length_9d52b_0 rfl
theorem dJ2_length_9d52b_3 : decode cJ2_length_9d52b 3 = .ok (.ishr, 1) := dz_122 (n := 0) (r := 3) hz_J2_length_9d52b_0 rfl
theorem dJ2_length_9d52b_4 : decode cJ2_length_9d52b 4 = .ok (.ireturn, 1) := dz_172 (n := 0) (r := 4) hz_J2_length_9d52b_0 rfl
theorem hz_J2_charAt_3b067_0 : (cJ2_charAt_3b067.data.toList.drop 0).take 40 = [27, 42, 184, 0, 67, 42, 27, 184, 0, 71, 172] := by decide +kernel
theorem dJ2_charAt_3b067_0 : decode cJ2_charAt_3b067 0 = .ok (.iload_n 1, 1) := dz_27 (n := 0) (r := 0) hz_J2_charAt_3b067_0 rfl
theorem dJ2_charAt_3b067_1 : decode cJ2_charAt_3b067 1 = .ok (.aload_n 0, 1) := dz_42 (n := 0) (r := 1) hz_J2_charAt_3b067_0 rfl
theorem dJ2_charAt_3b067_2 : decode cJ2_charAt_3b067 2 = .ok (.invokestatic 67, 3) := dz_184 (n := 0) (r := 2) hz_J2_charAt_3b067_0 rfl rfl
theorem dJ2_charAt_3b067_5 : decode cJ2_charAt_3b067 5 = .ok (.aload_n 0, 1) := dz_42 (n := 0) (r := 5) hz_J2_charAt_3b067_0 rfl
theorem dJ2_charAt_3b067_6 : decode cJ2_charAt_3b067 6 = .ok (.iload_n 1, 1) := dz_27 (n := 0) (r := 6) hz_J2_charAt_3b067_0 rfl
theorem dJ2_charAt_3b067_7 : decode cJ2_charAt_3b067 7 = .ok (.invokestatic 71, 3) := dz_184 (n := 0) (r := 7) hz_J2_charAt_3b067_0 rfl rfl
theorem dJ2_charAt_3b067_10 : decode cJ2_charAt_3b067 10 = .ok (.ireturn, 1) := dz_172 (n := 0) (r := 10) hz_J2_charAt_3b067_0 rfl
theorem hz_J2_checkIndex_2214a_0 : (cJ2_checkIndex_2214a.data.toList.drop 0).take 40 = [26, 43, 184, 0, 48, 184, 1, 158, 177] := by decide +kernel
theorem dJ2_checkIndex_2214a_0 : decode cJ2_checkIndex_2214a 0 = .ok (.iload_n 0, 1) := dz_26 (n := 0) (r := 0) hz_J2_checkIndex_2214a_0 rfl
theorem dJ2_checkIndex_2214a_1 : decode cJ2_checkIndex_2214a 1 = .ok (.aload_n 1, 1) := dz_43 (n := 0) (r := 1) hz_J2_checkIndex_2214a_0 rfl
theorem dJ2_checkIndex_2214a_2 : decode cJ2_checkIndex_2214a 2 = .ok (.invokestatic 48, 3) := dz_184 (n := 0) (r := 2) hz_J2_checkIndex_2214a_0 rfl rfl
theorem dJ2_checkIndex_2214a_5 : decode cJ2_checkIndex_2214a 5 = .ok (.invokestatic 414, 3) := dz_184 (n := 0) (r := 5) hz_J2_checkIndex_2214a_0 rfl rfl
theorem dJ2_checkIndex_2214a_8 : decode cJ2_checkIndex_2214a 8 = .ok (.return_, 1) := dz_177 (n := 0) (r := 8) hz_J2_checkIndex_2214a_0 rfl
theorem hz_J7_fill_d0a16_0 : (cJ7_fill_d0a16.data.toList.drop 0).take 40 = [3, 62, 42, 190, 54, 4, 29, 21, 4, 162, 0, 13, 42, 29, 31, 80, 132, 3, 1, 167, 255, 243, 177] := by decide +kernel
theorem dJ7_fill_d0a16_0 : decode cJ7_fill_d0a16 0 = .ok (.iconst 0, 1) := dz_3 (n := 0) (r := 0) hz_J7_fill_d0a16_0 rfl
theorem dJ7_fill_d0a16_1 : decode cJ7_fill_d0a16 1 = .ok (.istore_n 3, 1) := dz_62 (n := 0) (r := 1) hz_J7_fill_d0a16_0 rfl
theorem dJ7_fill_d0a16_2 : decode cJ7_fill_d0a16 2 = .ok (.aload_n 0, 1) := dz_42 (n := 0) (r := 2) hz_J7_fill_d0a16_0 rfl
theorem dJ7_fill_d0a16_3 : decode cJ7_fill_d0a16 3 = .ok (.arraylength, 1) := dz_190 (n := 0) (r := 3) hz_J7_fill_d0a16_0 rfl
theorem dJ7_fill_d0a16_4 : decode cJ7_fill_d0a16 4 = .ok (.istore 4, 2) := dz_54 (n := 0) (r := 4) hz_J7_fill_d0a16_0 rfl rfl
theorem dJ7_fill_d0a16_6 : decode cJ7_fill_d0a16 6 = .ok (.iload_n 3, 1) := dz_29 (n := 0) (r := 6) hz_J7_fill_d0a16_0 rfl
theorem dJ7_fill_d0a16_7 : decode cJ7_fill_d0a16 7 = .ok (.iload 4, 2) := dz_21 (n := 0) (r := 7) hz_J7_fill_d0a16_0 rfl rfl
theorem dJ7_fill_d0a16_9 : decode cJ7_fill_d0a16 9 = .ok (.if_icmp .ge 13, 3) := dz_162 (n := 0) (r := 9) hz_J7_fill_d0a16_0 rfl (by decide +kernel)
theorem dJ7_fill_d0a16_12 : decode cJ7_fill_d0a16 12 = .ok (.aload_n 0, 1) := dz_42 (n := 0) (r := 12) hz_J7_fill_d0a16_0 rfl
theorem dJ7_fill_d0a16_13 : decode cJ7_fill_d0a16 13 = .ok (.iload_n 3, 1) := dz_29 (n := 0) (r := 13) hz_J7_fill_d0a16_0 rfl
theorem dJ7_fill_d0a16_14 : decode cJ7_fill_d0a16 14 = .ok (.lload_n 1, 1) := dz_31 (n := 0) (r := 14) hz_J7_fill_d0a16_0 rfl
theorem dJ7_fill_d0a16_15 : decode cJ7_fill_d0a16 15 = .ok (.lastore, 1) := dz_80 (n := 0) (r := 15) hz_J7_fill_d0a16_0 rfl
theorem dJ7_fill_d0a16_16 : decode cJ7_fill_d0a16 16 = .ok (.iinc 3 1, 3) := dz_132 (n := 0) (r := 16) hz_J7_fill_d0a16_0 rfl rfl rfl
theorem dJ7_fill_d0a16_19 : decode cJ7_fill_d0a16 19 = .ok (.goto (-13), 3) := dz_167 (n := 0) (r := 19) hz_J7_fill_d0a16_0 rfl (by decide +kernel)
theorem dJ7_fill_d0a16_22 : decode cJ7_fill_d0a16 22 = .ok (.return_, 1) := dz_177 (n := 0) (r := 22) hz_J7_fill_d0a16_0 rfl
theorem hz_J7_fill_53178_0 : (cJ7_fill_53178.data.toList.drop 0).take 40 = [3, 61, 42, 190, 62, 28, 29, 162, 0, 13, 42, 28, 27, 79, 132, 2, 1, 167, 255, 244, 177] := by decide +kernel
theorem dJ7_fill_53178_0 : decode cJ7_fill_53178 0 = .ok (.iconst 0, 1) := dz_3 (n := 0) (r := 0) hz_J7_fill_53178_0 rfl
theorem dJ7_fill_53178_1 : decode cJ7_fill_53178 1 = .ok (.istore_n 2, 1) := dz_61 (n := 0) (r := 1) hz_J7_fill_53178_0 rfl
theorem dJ7_fill_53178_2 : decode cJ7_fill_53178 2 = .ok (.aload_n 0, 1) := dz_42 (n := 0) (r := 2) hz_J7_fill_53178_0 rfl
theorem dJ7_fill_53178_3 : decode cJ7_fill_53178 3 = .ok (.arraylength, 1) := dz_190 (n := 0) (r := 3) hz_J7_fill_53178_0 rfl
theorem dJ7_fill_53178_4 : decode cJ7_fill_53178 4 = .ok (.istore_n 3, 1) := dz_62 (n := 0) (r := 4) hz_J7_fill_53178_0 rfl
theorem dJ7_fill_53178_5 : decode cJ7_fill_53178 5 = .ok (.iload_n 2, 1) := dz_28 (n := 0) (r := 5) hz_J7_fill_53178_0 rfl
theorem dJ7_fill_53178_6 : decode cJ7_fill_53178 6 = .ok (.iload_n 3, 1) := dz_29 (n := 0) (r := 6) hz_J7_fill_53178_0 rfl
theorem dJ7_fill_53178_7 : decode cJ7_fill_53178 7 = .ok (.if_icmp .ge 13, 3) := dz_162 (n := 0) (r := 7) hz_J7_fill_53178_0 rfl (by decide +kernel)
theorem dJ7_fill_53178_10 : decode cJ7_fill_53178 10 = .ok (.aload_n 0, 1) := dz_42 (n := 0) (r := 10) hz_J7_fill_53178_0 rfl
theorem dJ7_fill_53178_11 : decode cJ7_fill_53178 11 = .ok (.iload_n 2, 1) := dz_28 (n := 0) (r := 11) hz_J7_fill_53178_0 rfl
theorem dJ7_fill_53178_12 : decode cJ7_fill_53178 12 = .ok (.iload_n 1, 1) := dz_27 (n := 0) (r := 12) hz_J7_fill_53178_0 rfl
theorem dJ7_fill_53178_13 : decode cJ7_fill_53178 13 = .ok (.iastore, 1) := dz_79 (n := 0) (r := 13) hz_J7_fill_53178_0 rfl
theorem dJ7_fill_53178_14 : decode cJ7_fill_53178 14 = .ok (.iinc 2 1, 3) := dz_132 (n := 0) (r := 14) hz_J7_fill_53178_0 rfl rfl rfl
theorem dJ7_fill_53178_17 : decode cJ7_fill_53178 17 = .ok (.goto (-12), 3) := dz_167 (n := 0) (r := 17) hz_J7_fill_53178_0 rfl (by decide +kernel)
theorem dJ7_fill_53178_20 : decode cJ7_fill_53178 20 = .ok (.return_, 1) := dz_177 (n := 0) (r := 20) hz_J7_fill_53178_0 rfl
theorem hz_J3_checkIndex_8e157_0 : (cJ3_checkIndex_8e157.data.toList.drop 0).take 40 = [26, 155, 0, 8, 26, 27, 161, 0, 10, 44, 26, 27, 184, 0, 95, 191, 26, 172] := by decide +kernel
theorem dJ3_checkIndex_8e157_0 : decode cJ3_checkIndex_8e157 0 = .ok (.iload_n 0, 1) := dz_26 (n := 0) (r := 0) hz_J3_checkIndex_8e157_0 rfl
theorem dJ3_checkIndex_8e157_1 : decode cJ3_checkIndex_8e157 1 = .ok (.ifCond .lt 8, 3) := dz_155 (n := 0) (r := 1) hz_J3_checkIndex_8e157_0 rfl (by decide +kernel)
theorem dJ3_checkIndex_8e157_4 : decode cJ3_checkIndex_8e157 4 = .ok (.iload_n 0, 1) := dz_26 (n := 0) (r := 4) hz_J3_checkIndex_8e157_0 rfl
theorem dJ3_checkIndex_8e157_5 : decode cJ3_checkIndex_8e157 5 = .ok (.iload_n 1, 1) := dz_27 (n := 0) (r := 5) hz_J3_checkIndex_8e157_0 rfl
theorem dJ3_checkIndex_8e157_6 : decode cJ3_checkIndex_8e157 6 = .ok (.if_icmp .lt 10, 3) := dz_161 (n := 0) (r := 6) hz_J3_checkIndex_8e157_0 rfl (by decide +kernel)
theorem dJ3_checkIndex_8e157_9 : decode cJ3_checkIndex_8e157 9 = .ok (.aload_n 2, 1) := dz_44 (n := 0) (r := 9) hz_J3_checkIndex_8e157_0 rfl
theorem dJ3_checkIndex_8e157_10 : decode cJ3_checkIndex_8e157 10 = .ok (.iload_n 0, 1) := dz_26 (n := 0) (r := 10) hz_J3_checkIndex_8e157_0 rfl
theorem dJ3_checkIndex_8e157_11 : decode cJ3_checkIndex_8e157 11 = .ok (.iload_n 1, 1) := dz_27 (n := 0) (r := 11) hz_J3_checkIndex_8e157_0 rfl
theorem dJ3_checkIndex_8e157_12 : decode cJ3_checkIndex_8e157 12 = .ok (.invokestatic 95, 3) := dz_184 (n := 0) (r := 12) hz_J3_checkIndex_8e157_0 rfl rfl
theorem dJ3_checkIndex_8e157_15 : decode cJ3_checkIndex_8e157 15 = .ok (.athrow, 1) := dz_191 (n := 0) (r := 15) hz_J3_checkIndex_8e157_0 rfl
theorem dJ3_checkIndex_8e157_16 : decode cJ3_checkIndex_8e157 16 = .ok (.iload_n 0, 1) := dz_26 (n := 0) (r := 16) hz_J3_checkIndex_8e157_0 rfl
theorem dJ3_checkIndex_8e157_17 : decode cJ3_checkIndex_8e157 17 = .ok (.ireturn, 1) := dz_172 (n := 0) (r := 17) hz_J3_checkIndex_8e157_0 rfl
theorem hz_L_law_0 : (cL_law.data.toList.drop 0).take 40 = [187, 0, 7, 89, 183, 0, 9, 76, 187, 0, 10, 89, 183, 0, 12, 77, 3, 62, 29, 42, 190, 16, 6, 100, 163, 4, 247, 42, 29, 46, 16, 63, 126, 170, 0, 0, 0, 0, 4, 232] := by decide +kernel
theorem dL_law_0 : decode cL_law 0 = .ok (.new 7, 3) := dz_187 (n := 0) (r := 0) hz_L_law_0 rfl rfl
theorem dL_law_3 : decode cL_law 3 = .ok (.dup, 1) := dz_89 (n := 0) (r := 3) hz_L_law_0 rfl
theorem dL_law_4 : decode cL_law 4 = .ok (.invokespecial 9, 3) := dz_183 (n := 0) (r := 4) hz_L_law_0 rfl rfl
theorem dL_law_7 : decode cL_law 7 = .ok (.astore_n 1, 1) := dz_76 (n := 0) (r := 7) hz_L_law_0 rfl
theorem dL_law_8 : decode cL_law 8 = .ok (.new 10, 3) := dz_187 (n := 0) (r := 8) hz_L_law_0 rfl rfl
theorem dL_law_11 : decode cL_law 11 = .ok (.dup, 1) := dz_89 (n := 0) (r := 11) hz_L_law_0 rfl
theorem dL_law_12 : decode cL_law 12 = .ok (.invokespecial 12, 3) := dz_183 (n := 0) (r := 12) hz_L_law_0 rfl rfl
theorem dL_law_15 : decode cL_law 15 = .ok (.astore_n 2, 1) := dz_77 (n := 0) (r := 15) hz_L_law_0 rfl
theorem dL_law_16 : decode cL_law 16 = .ok (.iconst 0, 1) := dz_3 (n := 0) (r := 16) hz_L_law_0 rfl
theorem dL_law_17 : decode cL_law 17 = .ok (.istore_n 3, 1) := dz_62 (n := 0) (r := 17) hz_L_law_0 rfl
theorem dL_law_18 : decode cL_law 18 = .ok (.iload_n 3, 1) := dz_29 (n := 0) (r := 18) hz_L_law_0 rfl
theorem dL_law_19 : decode cL_law 19 = .ok (.aload_n 0, 1) := dz_42 (n := 0) (r := 19) hz_L_law_0 rfl
theorem dL_law_20 : decode cL_law 20 = .ok (.arraylength, 1) := dz_190 (n := 0) (r := 20) hz_L_law_0 rfl
theorem dL_law_21 : decode cL_law 21 = .ok (.bipush 6, 2) := dz_16 (n := 0) (r := 21) hz_L_law_0 rfl rfl
theorem dL_law_23 : decode cL_law 23 = .ok (.isub, 1) := dz_100 (n := 0) (r := 23) hz_L_law_0 rfl
theorem dL_law_24 : decode cL_law 24 = .ok (.if_icmp .gt 1271, 3) := dz_163 (n := 0) (r := 24) hz_L_law_0 rfl (by decide +kernel)
theorem dL_law_27 : decode cL_law 27 = .ok (.aload_n 0, 1) := dz_42 (n := 0) (r := 27) hz_L_law_0 rfl
theorem dL_law_28 : decode cL_law 28 = .ok (.iload_n 3, 1) := dz_29 (n := 0) (r := 28) hz_L_law_0 rfl
theorem dL_law_29 : decode cL_law 29 = .ok (.iaload, 1) := dz_46 (n := 0) (r := 29) hz_L_law_0 rfl
theorem dL_law_30 : decode cL_law 30 = .ok (.bipush 63, 2) := dz_16 (n := 0) (r := 30) hz_L_law_0 rfl rfl
theorem hz_L_law_32 : (cL_law.data.toList.drop 32).take 40 = [126, 170, 0, 0, 0, 0, 4, 232, 0, 0, 0, 0, 0, 0, 0, 36, 0, 0, 0, 163, 0, 0, 0, 226, 0, 0, 0, 249, 0, 0, 1, 6, 0, 0, 1, 19, 0, 0, 1, 78] := by decide +kernel
theorem dL_law_32 : decode cL_law 32 = .ok (.iand, 1) := dz_126 (n := 32) (r := 0) hz_L_law_32 rfl
theorem dL_law_33 : decode cL_law 33 = .ok (.tableswitch 1256 0 36 #[163, 226, 249, 262, 275, 334, 367, 400, 423, 446, 459, 472, 505, 538, 571, 594, 617, 670, 703, 726, 769, 802, 841, 884, 907, 930, 953, 986, 1009, 1042, 1065, 1088, 1121, 1144, 1187, 1210, 1233], 163) := by decide +kernel
theorem hz_L_law_192 : (cL_law.data.toList.drop 192).take 40 = [0, 0, 4, 209, 43, 42, 29, 4, 96, 46, 42, 29, 5, 96, 46, 42, 29, 6, 96, 46, 42, 29, 7, 96, 46, 42, 29, 8, 96, 46, 182, 0, 13, 87, 44, 42, 29, 4, 96, 46] := by decide +kernel
theorem dL_law_196 : decode cL_law 196 = .ok (.aload_n 1, 1) := dz_43 (n := 192) (r := 4) hz_L_law_192 rfl
theorem dL_law_197 : decode cL_law 197 = .ok (.aload_n 0, 1) := dz_42 (n := 192) (r := 5) hz_L_law_192 rfl
theorem dL_law_198 : decode cL_law 198 = .ok (.iload_n 3, 1) := dz_29 (n := 192) (r := 6) hz_L_law_192 rfl
theorem dL_law_199 : decode cL_law 199 = .ok (.iconst 1, 1) := dz_4 (n := 192) (r := 7) hz_L_law_192 rfl
theorem dL_law_200 : decode cL_law 200 = .ok (.iadd, 1) := dz_96 (n := 192) (r := 8) hz_L_law_192 rfl
theorem dL_law_201 : decode cL_law 201 = .ok (.iaload, 1) := dz_46 (n := 192) (r := 9) hz_L_law_192 rfl
theorem dL_law_202 : decode cL_law 202 = .ok (.aload_n 0, 1) := dz_42 (n := 192) (r := 10) hz_L_law_192 rfl
theorem dL_law_203 : decode cL_law 203 = .ok (.iload_n 3, 1) := dz_29 (n := 192) (r := 11) hz_L_law_192 rfl
theorem dL_law_204 : decode cL_law 204 = .ok (.iconst 2, 1) := dz_5 (n := 192) (r := 12) hz_L_law_192 rfl
theorem dL_law_205 : decode cL_law 205 = .ok (.iadd, 1) := dz_96 (n := 192) (r := 13) hz_L_law_192 rfl
theorem dL_law_206 : decode cL_law 206 = .ok (.iaload, 1) := dz_46 (n := 192) (r := 14) hz_L_law_192 rfl
theorem dL_law_207 : decode cL_law 207 = .ok (.aload_n 0, 1) := dz_42 (n := 192) (r := 15) hz_L_law_192 rfl
theorem dL_law_208 : decode cL_law 208 = .ok (.iload_n 3, 1) := dz_29 (n := 192) (r := 16) hz_L_law_192 rfl
theorem dL_law_209 : decode cL_law 209 = .ok (.iconst 3, 1) := dz_6 (n := 192) (r := 17) hz_L_law_192 rfl
theorem dL_law_210 : decode cL_law 210 = .ok (.iadd, 1) := dz_96 (n := 192) (r := 18) hz_L_law_192 rfl
theorem dL_law_211 : decode cL_law 211 = .ok (.iaload, 1) := dz_46 (n := 192) (r := 19) hz_L_law_192 rfl
theorem dL_law_212 : decode cL_law 212 = .ok (.aload_n 0, 1) := dz_42 (n := 192) (r := 20) hz_L_law_192 rfl
theorem dL_law_213 : decode cL_law 213 = .ok (.iload_n 3, 1) := dz_29 (n := 192) (r := 21) hz_L_law_192 rfl
theorem dL_law_214 : decode cL_law 214 = .ok (.iconst 4, 1) := dz_7 (n := 192) (r := 22) hz_L_law_192 rfl
theorem dL_law_215 : decode cL_law 215 = .ok (.iadd, 1) := dz_96 (n := 192) (r := 23) hz_L_law_192 rfl
theorem dL_law_216 : decode cL_law 216 = .ok (.iaload, 1) := dz_46 (n := 192) (r := 24) hz_L_law_192 rfl
theorem dL_law_217 : decode cL_law 217 = .ok (.aload_n 0, 1) := dz_42 (n := 192) (r := 25) hz_L_law_192 rfl
theorem dL_law_218 : decode cL_law 218 = .ok (.iload_n 3, 1) := dz_29 (n := 192) (r := 26) hz_L_law_192 rfl
theorem dL_law_219 : decode cL_law 219 = .ok (.iconst 5, 1) := dz_8 (n := 192) (r := 27) hz_L_law_192 rfl
theorem dL_law_220 : decode cL_law 220 = .ok (.iadd, 1) := dz_96 (n := 192) (r := 28) hz_L_law_192 rfl
theorem dL_law_221 : decode cL_law 221 = .ok (.iaload, 1) := dz_46 (n := 192) (r := 29) hz_L_law_192 rfl
theorem dL_law_222 : decode cL_law 222 = .ok (.invokevirtual 13, 3) := dz_182 (n := 192) (r := 30) hz_L_law_192 rfl rfl
theorem hz_L_law_224 : (cL_law.data.toList.drop 224).take 40 = [13, 87, 44, 42, 29, 4, 96, 46, 42, 29, 5, 96, 46, 42, 29, 6, 96, 46, 42, 29, 7, 96, 46, 42, 29, 8, 96, 46, 182, 0, 17, 87, 167, 4, 9, 43, 42, 29, 4, 96] := by decide +kernel
theorem dL_law_225 : decode cL_law 225 = .ok (.pop, 1) := dz_87 (n := 224) (r := 1) hz_L_law_224 rfl
theorem dL_law_226 : decode cL_law 226 = .ok (.aload_n 2, 1) := dz_44 (n := 224) (r := 2) hz_L_law_224 rfl
theorem dL_law_227 : decode cL_law 227 = .ok (.aload_n 0, 1) := dz_42 (n := 224) (r := 3) hz_L_law_224 rfl
theorem dL_law_228 : decode cL_law 228 = .ok (.iload_n 3, 1) := dz_29 (n := 224) (r := 4) hz_L_law_224 rfl
theorem dL_law_229 : decode cL_law 229 = .ok (.iconst 1, 1) := dz_4 (n := 224) (r := 5) hz_L_law_224 rfl
theorem dL_law_230 : decode cL_law 230 = .ok (.iadd, 1) := dz_96 (n := 224) (r := 6) hz_L_law_224 rfl
theorem dL_law_231 : decode cL_law 231 = .ok (.iaload, 1) := dz_46 (n := 224) (r := 7) hz_L_law_224 rfl
theorem dL_law_232 : decode cL_law 232 = .ok (.aload_n 0, 1) := dz_42 (n := 224) (r := 8) hz_L_law_224 rfl
theorem dL_law_233 : decode cL_law 233 = .ok (.iload_n 3, 1) := dz_29 (n := 224) (r := 9) hz_L_law_224 rfl
theorem dL_law_234 : decode cL_law 234 = .ok (.iconst 2, 1) := dz_5 (n := 224) (r := 10) hz_L_law_224 rfl
theorem dL_law_235 : decode cL_law 235 = .ok (.iadd, 1) := dz_96 (n := 224) (r := 11) hz_L_law_224 rfl
theorem dL_law_236 : decode cL_law 236 = .ok (.iaload, 1) := dz_46 (n := 224) (r := 12) hz_L_law_224 rfl
theorem dL_law_237 : decode cL_law 237 = .ok (.aload_n 0, 1) := dz_42 (n := 224) (r := 13) hz_L_law_224 rfl
theorem dL_law_238 : decode cL_law 238 = .ok (.iload_n 3, 1) := dz_29 (n := 224) (r := 14) hz_L_law_224 rfl
theorem dL_law_239 : decode cL_law 239 = .ok (.iconst 3, 1) := dz_6 (n := 224) (r := 15) hz_L_law_224 rfl
theorem dL_law_240 : decode cL_law 240 = .ok (.iadd, 1) := dz_96 (n := 224) (r := 16) hz_L_law_224 rfl
theorem dL_law_241 : decode cL_law 241 = .ok (.iaload, 1) := dz_46 (n := 224) (r := 17) hz_L_law_224 rfl
theorem dL_law_242 : decode cL_law 242 = .ok (.aload_n 0, 1) := dz_42 (n := 224) (r := 18) hz_L_law_224 rfl
theorem dL_law_243 : decode cL_law 243 = .ok (.iload_n 3, 1) := dz_29 (n := 224) (r := 19) hz_L_law_224 rfl
theorem dL_law_244 : decode cL_law 244 = .ok (.iconst 4, 1) := dz_7 (n := 224) (r := 20) hz_L_law_224 rfl
theorem dL_law_245 : decode cL_law 245 = .ok (.iadd, 1) := dz_96 (n := 224) (r := 21) hz_L_law_224 rfl
theorem dL_law_246 : decode cL_law 246 = .ok (.iaload, 1) := dz_46 (n := 224) (r := 22) hz_L_law_224 rfl
theorem dL_law_247 : decode cL_law 247 = .ok (.aload_n 0, 1) := dz_42 (n := 224) (r := 23) hz_L_law_224 rfl
theorem dL_law_248 : decode cL_law 248 = .ok (.iload_n 3, 1) := dz_29 (n := 224) (r := 24) hz_L_law_224 rfl
theorem dL_law_249 : decode cL_law 249 = .ok (.iconst 5, 1) := dz_8 (n := 224) (r := 25) hz_L_law_224 rfl
theorem dL_law_250 : decode cL_law 250 = .ok (.iadd, 1) := dz_96 (n := 224) (r := 26) hz_L_law_224 rfl
theorem dL_law_251 : decode cL_law 251 = .ok (.iaload, 1) := dz_46 (n := 224) (r := 27) hz_L_law_224 rfl
theorem dL_law_252 : decode cL_law 252 = .ok (.invokevirtual 17, 3) := dz_182 (n := 224) (r := 28) hz_L_law_224 rfl rfl
theorem dL_law_255 : decode cL_law 255 = .ok (.pop, 1) := dz_87 (n := 224) (r := 31) hz_L_law_224 rfl
theorem hz_L_law_256 : (cL_law.data.toList.drop 256).take 40 = [167, 4, 9, 43, 42, 29, 4, 96, 46, 182, 0, 18, 87, 44, 42, 29, 4, 96, 46, 182, 0, 22, 87, 167, 3, 242, 43, 182, 0, 23, 87, 44, 182, 0, 27, 87, 167, 3, 229, 43] := by decide +kernel
theorem dL_law_256 : decode cL_law 256 = .ok (.goto 1033, 3) := dz_167 (n := 256) (r := 0) hz_L_law_256 rfl (by decide +kernel)
theorem dL_law_259 : decode cL_law 259 = .ok (.aload_n 1, 1) := dz_43 (n := 256) (r := 3) hz_L_law_256 rfl
theorem dL_law_260 : decode cL_law 260 = .ok (.aload_n 0, 1) := dz_42 (n := 256) (r := 4) hz_L_law_256 rfl
theorem dL_law_261 : decode cL_law 261 = .ok (.iload_n 3, 1) := dz_29 (n := 256) (r := 5) hz_L_law_256 rfl
theorem dL_law_262 : decode cL_law 262 = .ok (.iconst 1, 1) := dz_4 (n := 256) (r := 6) hz_L_law_256 rfl
theorem dL_law_263 : decode cL_law 263 = .ok (.iadd, 1) := dz_96 (n := 256) (r := 7) hz_L_law_256 rfl
theorem dL_law_264 : decode cL_law 264 = .ok (.iaload, 1) := dz_46 (n := 256) (r := 8) hz_L_law_256 rfl
theorem dL_law_265 : decode cL_law 265 = .ok (.invokevirtual 18, 3) := dz_182 (n := 256) (r := 9) hz_L_law_256 rfl rfl
theorem dL_law_268 : decode cL_law 268 = .ok (.pop, 1) := dz_87 (n := 256) (r := 12) hz_L_law_256 rfl
theorem dL_law_269 : decode cL_law 269 = .ok (.aload_n 2, 1) := dz_44 (n := 256) (r := 13) hz_L_law_256 rfl
theorem dL_law_270 : decode cL_law 270 = .ok (.aload_n 0, 1) := dz_42 (n := 256) (r := 14) hz_L_law_256 rfl
theorem dL_law_271 : decode cL_law 271 = .ok (.iload_n 3, 1) := dz_29 (n := 256) (r := 15) hz_L_law_256 rfl
theorem dL_law_272 : decode cL_law 272 = .ok (.iconst 1, 1) := dz_4 (n := 256) (r := 16) hz_L_law_256 rfl
theorem dL_law_273 : decode cL_law 273 = .ok (.iadd, 1) := dz_96 (n := 256) (r := 17) hz_L_law_256 rfl
theorem dL_law_274 : decode cL_law 274 = .ok (.iaload, 1) := dz_46 (n := 256) (r := 18) hz_L_law_256 rfl
theorem dL_law_275 : decode cL_law 275 = .ok (.invokevirtual 22, 3) := dz_182 (n := 256) (r := 19) hz_L_law_256 rfl rfl
theorem dL_law_278 : decode cL_law 278 = .ok (.pop, 1) := dz_87 (n := 256) (r := 22) hz_L_law_256 rfl
theorem dL_law_279 : decode cL_law 279 = .ok (.goto 1010, 3) := dz_167 (n := 256) (r := 23) hz_L_law_256 rfl (by decide +kernel)
theorem dL_law_282 : decode cL_law 282 = .ok (.aload_n 1, 1) := dz_43 (n := 256) (r := 26) hz_L_law_256 rfl
theorem dL_law_283 : decode cL_law 283 = .ok (.invokevirtual 23, 3) := dz_182 (n := 256) (r := 27) hz_L_law_256 rfl rfl
theorem dL_law_286 : decode cL_law 286 = .ok (.pop, 1) := dz_87 (n := 256) (r := 30) hz_L_law_256 rfl
theorem dL_law_287 : decode cL_law 287 = .ok (.aload_n 2, 1) := dz_44 (n := 256) (r := 31) hz_L_law_256 rfl
theorem hz_L_law_288 : (cL_law.data.toList.drop 288).take 40 = [182, 0, 27, 87, 167, 3, 229, 43, 182, 0, 28, 87, 44, 182, 0, 31, 87, 167, 3, 216, 43, 42, 29, 4, 96, 46, 42, 29, 5, 96, 46, 153, 0, 7, 4, 167, 0, 4, 3, 42] := by decide +kernel
theorem dL_law_288 : decode cL_law 288 = .ok (.invokevirtual 27, 3) := dz_182 (n := 288) (r := 0) hz_L_law_288 rfl rfl
theorem dL_law_291 : decode cL_law 291 = .ok (.pop, 1) := dz_87 (n := 288) (r := 3) hz_L_law_288 rfl
theorem dL_law_292 : decode cL_law 292 = .ok (.goto 997, 3) := dz_167 (n := 288) (r := 4) hz_L_law_288 rfl (by decide +kernel)
theorem dL_law_295 : decode cL_law 295 = .ok (.aload_n 1, 1) := dz_43 (n := 288) (r := 7) hz_L_law_288 rfl
theorem dL_law_296 : decode cL_law 296 = .ok (.invokevirtual 28, 3) := dz_182 (n := 288) (r := 8) hz_L_law_288 rfl rfl
theorem dL_law_299 : decode cL_law 299 = .ok (.pop, 1) := dz_87 (n := 288) (r := 11) hz_L_law_288 rfl
theorem dL_law_300 : decode cL_law 300 = .ok (.aload_n 2, 1) := dz_44 (n := 288) (r := 12) hz_L_law_288 rfl
theorem dL_law_301 : decode cL_law 301 = .ok (.invokevirtual 31, 3) := dz_182 (n := 288) (r := 13) hz_L_law_288 rfl rfl
theorem dL_law_304 : decode cL_law 304 = .ok (.pop, 1) := dz_87 (n := 288) (r := 16) hz_L_law_288 rfl
theorem dL_law_305 : decode cL_law 305 = .ok (.goto 984, 3) := dz_167 (n := 288) (r := 17) hz_L_law_288 rfl (by decide +kernel)
theorem dL_law_308 : decode cL_law 308 = .ok (.aload_n 1, 1) := dz_43 (n := 288) (r := 20) hz_L_law_288 rfl
theorem dL_law_309 : decode cL_law 309 = .ok (.aload_n 0, 1) := dz_42 (n := 288) (r := 21) hz_L_law_288 rfl
theorem dL_law_310 : decode cL_law 310 = .ok (.iload_n 3, 1) := dz_29 (n := 288) (r := 22) hz_L_law_288 rfl
theorem dL_law_311 : decode cL_law 311 = .ok (.iconst 1, 1) := dz_4 (n := 288) (r := 23) hz_L_law_288 rfl
theorem dL_law_312 : decode cL_law 312 = .ok (.iadd, 1) := dz_96 (n := 288) (r := 24) hz_L_law_288 rfl
theorem dL_law_313 : decode cL_law 313 = .ok (.iaload, 1) := dz_46 (n := 288) (r := 25) hz_L_law_288 rfl
theorem dL_law_314 : decode cL_law 314 = .ok (.aload_n 0, 1) := dz_42 (n := 288) (r := 26) hz_L_law_288 rfl
theorem dL_law_315 : decode cL_law 315 = .ok (.iload_n 3, 1) := dz_29 (n := 288) (r := 27) hz_L_law_288 rfl
theorem dL_law_316 : decode cL_law 316 = .ok (.iconst 2, 1) := dz_5 (n := 288) (r := 28) hz_L_law_288 rfl
theorem dL_law_317 : decode cL_law 317 = .ok (.iadd, 1) := dz_96 (n := 288) (r := 29) hz_L_law_288 rfl
theorem dL_law_318 : decode cL_law 318 = .ok (.iaload, 1) := dz_46 (n := 288) (r := 30) hz_L_law_288 rfl
theorem dL_law_319 : decode cL_law 319 = .ok (.ifCond .eq 7, 3) := dz_153 (n := 288) (r := 31) hz_L_law_288 rfl (by decide +kernel)
theorem hz_L_law_320 : (cL_law.data.toList.drop 320).take 40 = [0, 7, 4, 167, 0, 4, 3, 42, 29, 6, 96, 46, 182, 0, 32, 87, 44, 42, 29, 4, 96, 46, 42, 29, 5, 96, 46, 153, 0, 7, 4, 167, 0, 4, 3, 42, 29, 6, 96, 46] := by decide +kernel
theorem dL_law_322 : decode cL_law 322 = .ok (.iconst 1, 1) := dz_4 (n := 320) (r := 2) hz_L_law_320 rfl
theorem dL_law_323 : decode cL_law 323 = .ok (.goto 4, 3) := dz_167 (n := 320) (r := 3) hz_L_law_320 rfl (by decide +kernel)
theorem dL_law_326 : decode cL_law 326 = .ok (.iconst 0, 1) := dz_3 (n := 320) (r := 6) hz_L_law_320 rfl
theorem dL_law_327 : decode cL_law 327 = .ok (.aload_n 0, 1) := dz_42 (n := 320) (r := 7) hz_L_law_320 rfl
theorem dL_law_328 : decode cL_law 328 = .ok (.iload_n 3, 1) := dz_29 (n := 320) (r := 8) hz_L_law_320 rfl
theorem dL_law_329 : decode cL_law 329 = .ok (.iconst 3, 1) := dz_6 (n := 320) (r := 9) hz_L_law_320 rfl
theorem dL_law_330 : decode cL_law 330 = .ok (.iadd, 1) := dz_96 (n := 320) (r := 10) hz_L_law_320 rfl
theorem dL_law_331 : decode cL_law 331 = .ok (.iaload, 1) := dz_46 (n := 320) (r := 11) hz_L_law_320 rfl
theorem dL_law_332 : decode cL_law 332 = .ok (.invokevirtual 32, 3) := dz_182 (n := 320) (r := 12) hz_L_law_320 rfl rfl
theorem dL_law_335 : decode cL_law 335 = .ok (.pop, 1) := dz_87 (n := 320) (r := 15) hz_L_law_320 rfl
theorem dL_law_336 : decode cL_law 336 = .ok (.aload_n 2, 1) := dz_44 (n := 320) (r := 16) hz_L_law_320 rfl
theorem dL_law_337 : decode cL_law 337 = .ok (.aload_n 0, 1) := dz_42 (n := 320) (r := 17) hz_L_law_320 rfl
theorem dL_law_338 : decode cL_law 338 = .ok (.iload_n 3, 1) := dz_29 (n := 320) (r := 18) hz_L_law_320 rfl
theorem dL_law_339 : decode cL_law 339 = .ok (.iconst 1, 1) := dz_4 (n := 320) (r := 19) hz_L_law_320 rfl
theorem dL_law_340 : decode cL_law 340 = .ok (.iadd, 1) := dz_96 (n := 320) (r := 20) hz_L_law_320 rfl
theorem dL_law_341 : decode cL_law 341 = .ok (.iaload, 1) := dz_46 (n := 320) (r := 21) hz_L_law_320 rfl
theorem dL_law_342 : decode cL_law 342 = .ok (.aload_n 0, 1) := dz_42 (n := 320) (r := 22) hz_L_law_320 rfl
theorem dL_law_343 : decode cL_law 343 = .ok (.iload_n 3, 1) := dz_29 (n := 320) (r := 23) hz_L_law_320 rfl
theorem dL_law_344 : decode cL_law 344 = .ok (.iconst 2, 1) := dz_5 (n := 320) (r := 24) hz_L_law_320 rfl
theorem dL_law_345 : decode cL_law 345 = .ok (.iadd, 1) := dz_96 (n := 320) (r := 25) hz_L_law_320 rfl
theorem dL_law_346 : decode cL_law 346 = .ok (.iaload, 1) := dz_46 (n := 320) (r := 26) hz_L_law_320 rfl
theorem dL_law_347 : decode cL_law 347 = .ok (.ifCond .eq 7, 3) := dz_153 (n := 320) (r := 27) hz_L_law_320 rfl (by decide +kernel)
theorem dL_law_350 : decode cL_law 350 = .ok (.iconst 1, 1) := dz_4 (n := 320) (r := 30) hz_L_law_320 rfl
theorem dL_law_351 : decode cL_law 351 = .ok (.goto 4, 3) := dz_167 (n := 320) (r := 31) hz_L_law_320 rfl (by decide +kernel)
theorem hz_L_law_352 : (cL_law.data.toList.drop 352).take 40 = [0, 4, 3, 42, 29, 6, 96, 46, 182, 0, 36, 87, 167, 3, 157, 43, 42, 29, 4, 96, 46, 42, 29, 5, 96, 46, 182, 0, 37, 87, 44, 42, 29, 4, 96, 46, 42, 29, 5, 96] := by decide +kernel
theorem dL_law_354 : decode cL_law 354 = .ok (.iconst 0, 1) := dz_3 (n := 352) (r := 2) hz_L_law_352 rfl
theorem dL_law_355 : decode cL_law 355 = .ok (.aload_n 0, 1) := dz_42 (n := 352) (r := 3) hz_L_law_352 rfl
theorem dL_law_356 : decode cL_law 356 = .ok (.iload_n 3, 1) := dz_29 (n := 352) (r := 4) hz_L_law_352 rfl
theorem dL_law_357 : decode cL_law 357 = .ok (.iconst 3, 1) := dz_6 (n := 352) (r := 5) hz_L_law_352 rfl
theorem dL_law_358 : decode cL_law 358 = .ok (.iadd, 1) := dz_96 (n := 352) (r := 6) hz_L_law_352 rfl
theorem dL_law_359 : decode cL_law 359 = .ok (.iaload, 1) := dz_46 (n := 352) (r := 7) hz_L_law_352 rfl
theorem dL_law_360 : decode cL_law 360 = .ok (.invokevirtual 36, 3) := dz_182 (n := 352) (r := 8) hz_L_law_352 rfl rfl
theorem dL_law_363 : decode cL_law 363 = .ok (.pop, 1) := dz_87 (n := 352) (r := 11) hz_L_law_352 rfl
theorem dL_law_364 : decode cL_law 364 = .ok (.goto 925, 3) := dz_167 (n := 352) (r := 12) hz_L_law_352 rfl (by decide +kernel)
theorem dL_law_367 : decode cL_law 367 = .ok (.aload_n 1, 1) := dz_43 (n := 352) (r := 15) hz_L_law_352 rfl
theorem dL_law_368 : decode cL_law 368 = .ok (.aload_n 0, 1) := dz_42 (n := 352) (r := 16) hz_L_law_352 rfl
theorem dL_law_369 : decode cL_law 369 = .ok (.iload_n 3, 1) := dz_29 (n := 352) (r := 17) hz_L_law_352 rfl
theorem dL_law_370 : decode cL_law 370 = .ok (.iconst 1, 1) := dz_4 (n := 352) (r := 18) hz_L_law_352 rfl
theorem dL_law_371 : decode cL_law 371 = .ok (.iadd, 1) := dz_96 (n := 352) (r := 19) hz_L_law_352 rfl
theorem dL_law_372 : decode cL_law 372 = .ok (.iaload, 1) := dz_46 (n := 352) (r := 20) hz_L_law_352 rfl
theorem dL_law_373 : decode cL_law 373 = .ok (.aload_n 0, 1) := dz_42 (n := 352) (r := 21) hz_L_law_352 rfl
theorem dL_law_374 : decode cL_law 374 = .ok (.iload_n 3, 1) := dz_29 (n := 352) (r := 22) hz_L_law_352 rfl
theorem dL_law_375 : decode cL_law 375 = .ok (.iconst 2, 1) := dz_5 (n := 352) (r := 23) hz_L_law_352 rfl
theorem dL_law_376 : decode cL_law 376 = .ok (.iadd, 1) := dz_96 (n := 352) (r := 24) hz_L_law_352 rfl
theorem dL_law_377 : decode cL_law 377 = .ok (.iaload, 1) := dz_46 (n := 352) (r := 25) hz_L_law_352 rfl
theorem dL_law_378 : decode cL_law 378 = .ok (.invokevirtual 37, 3) := dz_182 (n := 352) (r := 26) hz_L_law_352 rfl rfl
theorem dL_law_381 : decode cL_law 381 = .ok (.pop, 1) := dz_87 (n := 352) (r := 29) hz_L_law_352 rfl
theorem dL_law_382 : decode cL_law 382 = .ok (.aload_n 2, 1) := dz_44 (n := 352) (r := 30) hz_L_law_352 rfl
theorem dL_law_383 : decode cL_law 383 = .ok (.aload_n 0, 1) := dz_42 (n := 352) (r := 31) hz_L_law_352 rfl
theorem hz_L_law_384 : (cL_law.data.toList.drop 384).take 40 = [29, 4, 96, 46, 42, 29, 5, 96, 46, 182, 0, 41, 87, 167, 3, 124, 43, 42, 29, 4, 96, 46, 42, 29, 5, 96, 46, 182, 0, 42, 87, 44, 42, 29, 4, 96, 46, 42, 29, 5] := by decide +kernel
theorem dL_law_384 : decode cL_law 384 = .ok (.iload_n 3, 1) := dz_29 (n := 384) (r := 0) hz_L_law_384 rfl
theorem dL_law_385 : decode cL_law 385 = .ok (.iconst 1, 1) := dz_4 (n := 384) (r := 1) hz_L_law_384 rfl
theorem dL_law_386 : decode cL_law 386 = .ok (.iadd, 1) := dz_96 (n := 384) (r := 2) hz_L_law_384 rfl
theorem dL_law_387 : decode cL_law 387 = .ok (.iaload, 1) := dz_46 (n := 384) (r := 3) hz_L_law_384 rfl
theorem dL_law_388 : decode cL_law 388 = .ok (.aload_n 0, 1) := dz_42 (n := 384) (r := 4) hz_L_law_384 rfl
theorem dL_law_389 : decode cL_law 389 = .ok (.iload_n 3, 1) := dz_29 (n := 384) (r := 5) hz_L_law_384 rfl
theorem dL_law_390 : decode cL_law 390 = .ok (.iconst 2, 1) := dz_5 (n := 384) (r := 6) hz_L_law_384 rfl
theorem dL_law_391 : decode cL_law 391 = .ok (.iadd, 1) := dz_96 (n := 384) (r := 7) hz_L_law_384 rfl
theorem dL_law_392 : decode cL_law 392 = .ok (.iaload, 1) := dz_46 (n := 384) (r := 8) hz_L_law_384 rfl
theorem dL_law_393 : decode cL_law 393 = .ok (.invokevirtual 41, 3) := dz_182 (n := 384) (r := 9) hz_L_law_384 rfl rfl
theorem dL_law_396 : decode cL_law 396 = .ok (.pop, 1) := dz_87 (n := 384) (r := 12) hz_L_law_384 rfl
theorem dL_law_397 : decode cL_law 397 = .ok (.goto 892, 3) := dz_167 (n := 384) (r := 13) hz_L_law_384 rfl (by decide +kernel)
theorem dL_law_400 : decode cL_law 400 = .ok (.aload_n 1, 1) := dz_43 (n := 384) (r := 16) hz_L_law_384 rfl
theorem dL_law_401 : decode cL_law 401 = .ok (.aload_n 0, 1) := dz_42 (n := 384) (r := 17) hz_L_law_384 rfl
theorem dL_law_402 : decode cL_law 402 = .ok (.iload_n 3, 1) := dz_29 (n := 384) (r := 18) hz_L_law_384 rfl
theorem dL_law_403 : decode cL_law 403 = .ok (.iconst 1, 1) := dz_4 (n := 384) (r := 19) hz_L_law_384 rfl
theorem dL_law_404 : decode cL_law 404 = .ok (.iadd, 1) := dz_96 (n := 384) (r := 20) hz_L_law_384 rfl
theorem dL_law_405 : decode cL_law 405 = .ok (.iaload, 1) := dz_46 (n := 384) (r := 21) hz_L_law_384 rfl
theorem dL_law_406 : decode cL_law 406 = .ok (.aload_n 0, 1) := dz_42 (n := 384) (r := 22) hz_L_law_384 rfl
theorem dL_law_407 : decode cL_law 407 = .ok (.iload_n 3, 1) := dz_29 (n := 384) (r := 23) hz_L_law_384 rfl
theorem dL_law_408 : decode cL_law 408 = .ok (.iconst 2, 1) := dz_5 (n := 384) (r := 24) hz_L_law_384 rfl
theorem dL_law_409 : decode cL_law 409 = .ok (.iadd, 1) := dz_96 (n := 384) (r := 25) hz_L_law_384 rfl
theorem dL_law_410 : decode cL_law 410 = .ok (.iaload, 1) := dz_46 (n := 384) (r := 26) hz_L_law_384 rfl
theorem dL_law_411 : decode cL_law 411 = .ok (.invokevirtual 42, 3) := dz_182 (n := 384) (r := 27) hz_L_law_384 rfl rfl
theorem dL_law_414 : decode cL_law 414 = .ok (.pop, 1) := dz_87 (n := 384) (r := 30) hz_L_law_384 rfl
theorem dL_law_415 : decode cL_law 415 = .ok (.aload_n 2, 1) := dz_44 (n := 384) (r := 31) hz_L_law_384 rfl
theorem hz_L_law_416 : (cL_law.data.toList.drop 416).take 40 = [42, 29, 4, 96, 46, 42, 29, 5, 96, 46, 182, 0, 45, 87, 167, 3, 91, 43, 42, 29, 4, 96, 46, 182, 0, 46, 87, 44, 42, 29, 4, 96, 46, 182, 0, 50, 87, 167, 3, 68] := by decide +kernel
theorem dL_law_416 : decode cL_law 416 = .ok (.aload_n 0, 1) := dz_42 (n := 416) (r := 0) hz_L_law_416 rfl
theorem dL_law_417 : decode cL_law 417 = .ok (.iload_n 3, 1) := dz_29 (n := 416) (r := 1) hz_L_law_416 rfl
theorem dL_law_418 : decode cL_law 418 = .ok (.iconst 1, 1) := dz_4 (n := 416) (r := 2) hz_L_law_416 rfl
theorem dL_law_419 : decode cL_law 419 = .ok (.iadd, 1) := dz_96 (n := 416) (r := 3) hz_L_law_416 rfl
theorem dL_law_420 : decode cL_law 420 = .ok (.iaload, 1) := dz_46 (n := 416) (r := 4) hz_L_law_416 rfl
theorem dL_law_421 : decode cL_law 421 = .ok (.aload_n 0, 1) := dz_42 (n := 416) (r := 5) hz_L_law_416 rfl
theorem dL_law_422 : decode cL_law 422 = .ok (.iload_n 3, 1) := dz_29 (n := 416) (r := 6) hz_L_law_416 rfl
theorem dL_law_423 : decode cL_law 423 = .ok (.iconst 2, 1) := dz_5 (n := 416) (r := 7) hz_L_law_416 rfl
theorem dL_law_424 : decode cL_law 424 = .ok (.iadd, 1) := dz_96 (n := 416) (r := 8) hz_L_law_416 rfl
theorem dL_law_425 : decode cL_law 425 = .ok (.iaload, 1) := dz_46 (n := 416) (r := 9) hz_L_law_416 rfl
theorem dL_law_426 : decode cL_law 426 = .ok (.invokevirtual 45, 3) := dz_182 (n := 416) (r := 10) hz_L_law_416 rfl rfl
theorem dL_law_429 : decode cL_law 429 = .ok (.pop, 1) := dz_87 (n := 416) (r := 13) hz_L_law_416 rfl
theorem dL_law_430 : decode cL_law 430 = .ok (.goto 859, 3) := dz_167 (n := 416) (r := 14) hz_L_law_416 rfl (by decide +kernel)
theorem dL_law_433 : decode cL_law 433 = .ok (.aload_n 1, 1) := dz_43 (n := 416) (r := 17) hz_L_law_416 rfl
theorem dL_law_434 : decode cL_law 434 = .ok (.aload_n 0, 1) := dz_42 (n := 416) (r := 18) hz_L_law_416 rfl
theorem dL_law_435 : decode cL_law 435 = .ok (.iload_n 3, 1) := dz_29 (n := 416) (r := 19) hz_L_law_416 rfl
theorem dL_law_436 : decode cL_law 436 = .ok (.iconst 1, 1) := dz_4 (n := 416) (r := 20) hz_L_law_416 rfl
