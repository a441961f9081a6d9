section
theorem hz_X0_init_0 : (cX0_init.data.toList.drop 0).take 40 = [42, 183, 0, 3, 42, 16, 33, 188, 10, 181, 0, 9, 42, 16, 32, 188, 10, 181, 0, 15, 42, 16, 16, 188, 10, 181, 0, 18, 42, 2, 181, 0, 21, 177] := by decide +kernel
theorem dX0_init_0 : decode cX0_init 0 = .ok (.aload_n 0, 1) := dz_42 (n := 0) (r := 0) hz_X0_init_0 rfl
theorem dX0_init_1 : decode cX0_init 1 = .ok (.invokespecial 3, 3) := dz_183 (n := 0) (r := 1) hz_X0_init_0 rfl rfl
theorem dX0_init_4 : decode cX0_init 4 = .ok (.aload_n 0, 1) := dz_42 (n := 0) (r := 4) hz_X0_init_0 rfl
theorem dX0_init_5 : decode cX0_init 5 = .ok (.bipush 33, 2) := dz_16 (n := 0) (r := 5) hz_X0_init_0 rfl rfl
theorem dX0_init_7 : decode cX0_init 7 = .ok (.newarray .int, 2) := dz_188_10 (n := 0) (r := 7) hz_X0_init_0 rfl
theorem dX0_init_9 : decode cX0_init 9 = .ok (.putfield 9, 3) := dz_181 (n := 0) (r := 9) hz_X0_init_0 rfl rfl
theorem dX0_init_12 : decode cX0_init 12 = .ok (.aload_n 0, 1) := dz_42 (n := 0) (r := 12) hz_X0_init_0 rfl
theorem dX0_init_13 : decode cX0_init 13 = .ok (.bipush 32, 2) := dz_16 (n := 0) (r := 13) hz_X0_init_0 rfl rfl
theorem dX0_init_15 : decode cX0_init 15 = .ok (.newarray .int, 2) := dz_188_10 (n := 0) (r := 15) hz_X0_init_0 rfl
theorem dX0_init_17 : decode cX0_init 17 = .ok (.putfield 15, 3) := dz_181 (n := 0) (r := 17) hz_X0_init_0 rfl rfl
theorem dX0_init_20 : decode cX0_init 20 = .ok (.aload_n 0, 1) := dz_42 (n := 0) (r := 20) hz_X0_init_0 rfl
theorem dX0_init_21 : decode cX0_init 21 = .ok (.bipush 16, 2) := dz_16 (n := 0) (r := 21) hz_X0_init_0 rfl rfl
theorem dX0_init_23 : decode cX0_init 23 = .ok (.newarray .int, 2) := dz_188_10 (n := 0) (r := 23) hz_X0_init_0 rfl
theorem dX0_init_25 : decode cX0_init 25 = .ok (.putfield 18, 3) := dz_181 (n := 0) (r := 25) hz_X0_init_0 rfl rfl
theorem dX0_init_28 : decode cX0_init 28 = .ok (.aload_n 0, 1) := dz_42 (n := 0) (r := 28) hz_X0_init_0 rfl
theorem dX0_init_29 : decode cX0_init 29 = .ok (.iconst (-1), 1) := dz_2 (n := 0) (r := 29) hz_X0_init_0 rfl
theorem dX0_init_30 : decode cX0_init 30 = .ok (.putfield 21, 3) := dz_181 (n := 0) (r := 30) hz_X0_init_0 rfl rfl
theorem hz_X0_init_32 : (cX0_init.data.toList.drop 32).take 40 = [21, 177] := by decide +kernel
theorem dX0_init_33 : decode cX0_init 33 = .ok (.return_, 1) := dz_177 (n := 32) (r := 1) hz_X0_init_32 rfl
theorem hz_X0_gather_0 : (cX0_gather.data.toList.drop 0).take 40 = [3, 54, 4, 3, 54, 5, 21, 5, 16, 32, 162, 0, 54, 42, 180, 0, 15, 21, 5, 43, 21, 5, 182, 0, 25, 2, 160, 0, 7, 3, 167, 0, 12, 44, 21, 5, 182, 0, 31, 184] := by decide +kernel
theorem dX0_gather_0 : decode cX0_gather 0 = .ok (.iconst 0, 1) := dz_3 (n := 0) (r := 0) hz_X0_gather_0 rfl
theorem dX0_gather_1 : decode cX0_gather 1 = .ok (.istore 4, 2) := dz_54 (n := 0) (r := 1) hz_X0_gather_0 rfl rfl
theorem dX0_gather_3 : decode cX0_gather 3 = .ok (.iconst 0, 1) := dz_3 (n := 0) (r := 3) hz_X0_gather_0 rfl
theorem dX0_gather_4 : decode cX0_gather 4 = .ok (.istore 5, 2) := dz_54 (n := 0) (r := 4) hz_X0_gather_0 rfl rfl
theorem dX0_gather_6 : decode cX0_gather 6 = .ok (.iload 5, 2) := dz_21 (n := 0) (r := 6) hz_X0_gather_0 rfl rfl
theorem dX0_gather_8 : decode cX0_gather 8 = .ok (.bipush 32, 2) := dz_16 (n := 0) (r := 8) hz_X0_gather_0 rfl rfl
theorem dX0_gather_10 : decode cX0_gather 10 = .ok (.if_icmp .ge 54, 3) := dz_162 (n := 0) (r := 10) hz_X0_gather_0 rfl (by decide +kernel)
theorem dX0_gather_13 : decode cX0_gather 13 = .ok (.aload_n 0, 1) := dz_42 (n := 0) (r := 13) hz_X0_gather_0 rfl
theorem dX0_gather_14 : decode cX0_gather 14 = .ok (.getfield 15, 3) := dz_180 (n := 0) (r := 14) hz_X0_gather_0 rfl rfl
theorem dX0_gather_17 : decode cX0_gather 17 = .ok (.iload 5, 2) := dz_21 (n := 0) (r := 17) hz_X0_gather_0 rfl rfl
theorem dX0_gather_19 : decode cX0_gather 19 = .ok (.aload_n 1, 1) := dz_43 (n := 0) (r := 19) hz_X0_gather_0 rfl
theorem dX0_gather_20 : decode cX0_gather 20 = .ok (.iload 5, 2) := dz_21 (n := 0) (r := 20) hz_X0_gather_0 rfl rfl
theorem dX0_gather_22 : decode cX0_gather 22 = .ok (.invokevirtual 25, 3) := dz_182 (n := 0) (r := 22) hz_X0_gather_0 rfl rfl
theorem dX0_gather_25 : decode cX0_gather 25 = .ok (.iconst (-1), 1) := dz_2 (n := 0) (r := 25) hz_X0_gather_0 rfl
theorem dX0_gather_26 : decode cX0_gather 26 = .ok (.if_icmp .ne 7, 3) := dz_160 (n := 0) (r := 26) hz_X0_gather_0 rfl (by decide +kernel)
theorem dX0_gather_29 : decode cX0_gather 29 = .ok (.iconst 0, 1) := dz_3 (n := 0) (r := 29) hz_X0_gather_0 rfl
theorem dX0_gather_30 : decode cX0_gather 30 = .ok (.goto 12, 3) := dz_167 (n := 0) (r := 30) hz_X0_gather_0 rfl (by decide +kernel)
theorem hz_X0_gather_32 : (cX0_gather.data.toList.drop 32).take 40 = [12, 44, 21, 5, 182, 0, 31, 184, 0, 36, 79, 21, 4, 42, 180, 0, 15, 21, 5, 46, 184, 0, 41, 96, 54, 4, 132, 5, 1, 167, 255, 201, 45, 43, 42, 180, 0, 15, 42, 180] := by decide +kernel
theorem dX0_gather_33 : decode cX0_gather 33 = .ok (.aload_n 2, 1) := dz_44 (n := 32) (r := 1) hz_X0_gather_32 rfl
theorem dX0_gather_34 : decode cX0_gather 34 = .ok (.iload 5, 2) := dz_21 (n := 32) (r := 2) hz_X0_gather_32 rfl rfl
theorem dX0_gather_36 : decode cX0_gather 36 = .ok (.invokevirtual 31, 3) := dz_182 (n := 32) (r := 4) hz_X0_gather_32 rfl rfl
theorem dX0_gather_39 : decode cX0_gather 39 = .ok (.invokestatic 36, 3) := dz_184 (n := 32) (r := 7) hz_X0_gather_32 rfl rfl
theorem dX0_gather_42 : decode cX0_gather 42 = .ok (.iastore, 1) := dz_79 (n := 32) (r := 10) hz_X0_gather_32 rfl
theorem dX0_gather_43 : decode cX0_gather 43 = .ok (.iload 4, 2) := dz_21 (n := 32) (r := 11) hz_X0_gather_32 rfl rfl
theorem dX0_gather_45 : decode cX0_gather 45 = .ok (.aload_n 0, 1) := dz_42 (n := 32) (r := 13) hz_X0_gather_32 rfl
theorem dX0_gather_46 : decode cX0_gather 46 = .ok (.getfield 15, 3) := dz_180 (n := 32) (r := 14) hz_X0_gather_32 rfl rfl
theorem dX0_gather_49 : decode cX0_gather 49 = .ok (.iload 5, 2) := dz_21 (n := 32) (r := 17) hz_X0_gather_32 rfl rfl
theorem dX0_gather_51 : decode cX0_gather 51 = .ok (.iaload, 1) := dz_46 (n := 32) (r := 19) hz_X0_gather_32 rfl
theorem dX0_gather_52 : decode cX0_gather 52 = .ok (.invokestatic 41, 3) := dz_184 (n := 32) (r := 20) hz_X0_gather_32 rfl rfl
theorem dX0_gather_55 : decode cX0_gather 55 = .ok (.iadd, 1) := dz_96 (n := 32) (r := 23) hz_X0_gather_32 rfl
theorem dX0_gather_56 : decode cX0_gather 56 = .ok (.istore 4, 2) := dz_54 (n := 32) (r := 24) hz_X0_gather_32 rfl rfl
theorem dX0_gather_58 : decode cX0_gather 58 = .ok (.iinc 5 1, 3) := dz_132 (n := 32) (r := 26) hz_X0_gather_32 rfl rfl rfl
theorem dX0_gather_61 : decode cX0_gather 61 = .ok (.goto (-55), 3) := dz_167 (n := 32) (r := 29) hz_X0_gather_32 rfl (by decide +kernel)
theorem hz_X0_gather_64 : (cX0_gather.data.toList.drop 64).take 40 = [45, 43, 42, 180, 0, 15, 42, 180, 0, 18, 43, 180, 0, 46, 182, 0, 49, 42, 180, 0, 9, 3, 184, 0, 55, 43, 182, 0, 60, 54, 5, 3, 54, 6, 21, 6, 21, 5, 162, 0] := by decide +kernel
theorem dX0_gather_64 : decode cX0_gather 64 = .ok (.aload_n 3, 1) := dz_45 (n := 64) (r := 0) hz_X0_gather_64 rfl
theorem dX0_gather_65 : decode cX0_gather 65 = .ok (.aload_n 1, 1) := dz_43 (n := 64) (r := 1) hz_X0_gather_64 rfl
theorem dX0_gather_66 : decode cX0_gather 66 = .ok (.aload_n 0, 1) := dz_42 (n := 64) (r := 2) hz_X0_gather_64 rfl
theorem dX0_gather_67 : decode cX0_gather 67 = .ok (.getfield 15, 3) := dz_180 (n := 64) (r := 3) hz_X0_gather_64 rfl rfl
theorem dX0_gather_70 : decode cX0_gather 70 = .ok (.aload_n 0, 1) := dz_42 (n := 64) (r := 6) hz_X0_gather_64 rfl
theorem dX0_gather_71 : decode cX0_gather 71 = .ok (.getfield 18, 3) := dz_180 (n := 64) (r := 7) hz_X0_gather_64 rfl rfl
theorem dX0_gather_74 : decode cX0_gather 74 = .ok (.aload_n 1, 1) := dz_43 (n := 64) (r := 10) hz_X0_gather_64 rfl
theorem dX0_gather_75 : decode cX0_gather 75 = .ok (.getfield 46, 3) := dz_180 (n := 64) (r := 11) hz_X0_gather_64 rfl rfl
theorem dX0_gather_78 : decode cX0_gather 78 = .ok (.invokevirtual 49, 3) := dz_182 (n := 64) (r := 14) hz_X0_gather_64 rfl rfl
theorem dX0_gather_81 : decode cX0_gather 81 = .ok (.aload_n 0, 1) := dz_42 (n := 64) (r := 17) hz_X0_gather_64 rfl
theorem dX0_gather_82 : decode cX0_gather 82 = .ok (.getfield 9, 3) := dz_180 (n := 64) (r := 18) hz_X0_gather_64 rfl rfl
theorem dX0_gather_85 : decode cX0_gather 85 = .ok (.iconst 0, 1) := dz_3 (n := 64) (r := 21) hz_X0_gather_64 rfl
theorem dX0_gather_86 : decode cX0_gather 86 = .ok (.invokestatic 55, 3) := dz_184 (n := 64) (r := 22) hz_X0_gather_64 rfl rfl
theorem dX0_gather_89 : decode cX0_gather 89 = .ok (.aload_n 1, 1) := dz_43 (n := 64) (r := 25) hz_X0_gather_64 rfl
theorem dX0_gather_90 : decode cX0_gather 90 = .ok (.invokevirtual 60, 3) := dz_182 (n := 64) (r := 26) hz_X0_gather_64 rfl rfl
theorem dX0_gather_93 : decode cX0_gather 93 = .ok (.istore 5, 2) := dz_54 (n := 64) (r := 29) hz_X0_gather_64 rfl rfl
theorem dX0_gather_95 : decode cX0_gather 95 = .ok (.iconst 0, 1) := dz_3 (n := 64) (r := 31) hz_X0_gather_64 rfl
theorem hz_X0_gather_96 : (cX0_gather.data.toList.drop 96).take 40 = [54, 6, 21, 6, 21, 5, 162, 0, 57, 21, 4, 45, 21, 6, 182, 0, 64, 96, 5, 108, 54, 7, 44, 21, 6, 182, 0, 67, 153, 0, 29, 21, 7, 155, 0, 24, 21, 7, 42, 180] := by decide +kernel
theorem dX0_gather_96 : decode cX0_gather 96 = .ok (.istore 6, 2) := dz_54 (n := 96) (r := 0) hz_X0_gather_96 rfl rfl
theorem dX0_gather_98 : decode cX0_gather 98 = .ok (.iload 6, 2) := dz_21 (n := 96) (r := 2) hz_X0_gather_96 rfl rfl
theorem dX0_gather_100 : decode cX0_gather 100 = .ok (.iload 5, 2) := dz_21 (n := 96) (r := 4) hz_X0_gather_96 rfl rfl
theorem dX0_gather_102 : decode cX0_gather 102 = .ok (.if_icmp .ge 57, 3) := dz_162 (n := 96) (r := 6) hz_X0_gather_96 rfl (by decide +kernel)
theorem dX0_gather_105 : decode cX0_gather 105 = .ok (.iload 4, 2) := dz_21 (n := 96) (r := 9) hz_X0_gather_96 rfl rfl
theorem dX0_gather_107 : decode cX0_gather 107 = .ok (.aload_n 3, 1) := dz_45 (n := 96) (r := 11) hz_X0_gather_96 rfl
theorem dX0_gather_108 : decode cX0_gather 108 = .ok (.iload 6, 2) := dz_21 (n := 96) (r := 12) hz_X0_gather_96 rfl rfl
theorem dX0_gather_110 : decode cX0_gather 110 = .ok (.invokevirtual 64, 3) := dz_182 (n := 96) (r := 14) hz_X0_gather_96 rfl rfl
theorem dX0_gather_113 : decode cX0_gather 113 = .ok (.iadd, 1) := dz_96 (n := 96) (r := 17) hz_X0_gather_96 rfl
theorem dX0_gather_114 : decode cX0_gather 114 = .ok (.iconst 2, 1) := dz_5 (n := 96) (r := 18) hz_X0_gather_96 rfl
theorem dX0_gather_115 : decode cX0_gather 115 = .ok (.idiv, 1) := dz_108 (n := 96) (r := 19) hz_X0_gather_96 rfl
theorem dX0_gather_116 : decode cX0_gather 116 = .ok (.istore 7, 2) := dz_54 (n := 96) (r := 20) hz_X0_gather_96 rfl rfl
theorem dX0_gather_118 : decode cX0_gather 118 = .ok (.aload_n 2, 1) := dz_44 (n := 96) (r := 22) hz_X0_gather_96 rfl
theorem dX0_gather_119 : decode cX0_gather 119 = .ok (.iload 6, 2) := dz_21 (n := 96) (r := 23) hz_X0_gather_96 rfl rfl
theorem dX0_gather_121 : decode cX0_gather 121 = .ok (.invokevirtual 67, 3) := dz_182 (n := 96) (r := 25) hz_X0_gather_96 rfl rfl
theorem dX0_gather_124 : decode cX0_gather 124 = .ok (.ifCond .eq 29, 3) := dz_153 (n := 96) (r := 28) hz_X0_gather_96 rfl (by decide +kernel)
theorem dX0_gather_127 : decode cX0_gather 127 = .ok (.iload 7, 2) := dz_21 (n := 96) (r := 31) hz_X0_gather_96 rfl rfl
theorem hz_X0_gather_128 : (cX0_gather.data.toList.drop 128).take 40 = [7, 155, 0, 24, 21, 7, 42, 180, 0, 9, 190, 162, 0, 14, 42, 180, 0, 9, 21, 7, 92, 46, 4, 96, 79, 132, 6, 1, 167, 255, 198, 177] := by decide +kernel
theorem dX0_gather_129 : decode cX0_gather 129 = .ok (.ifCond .lt 24, 3) := dz_155 (n := 128) (r := 1) hz_X0_gather_128 rfl (by decide +kernel)
theorem dX0_gather_132 : decode cX0_gather 132 = .ok (.iload 7, 2) := dz_21 (n := 128) (r := 4) hz_X0_gather_128 rfl rfl
theorem dX0_gather_134 : decode cX0_gather 134 = .ok (.aload_n 0, 1) := dz_42 (n := 128) (r := 6) hz_X0_gather_128 rfl
theorem dX0_gather_135 : decode cX0_gather 135 = .ok (.getfield 9, 3) := dz_180 (n := 128) (r := 7) hz_X0_gather_128 rfl rfl
theorem dX0_gather_138 : decode cX0_gather 138 = .ok (.arraylength, 1) := dz_190 (n := 128) (r := 10) hz_X0_gather_128 rfl
theorem dX0_gather_139 : decode cX0_gather 139 = .ok (.if_icmp .ge 14, 3) := dz_162 (n := 128) (r := 11) hz_X0_gather_128 rfl (by decide +kernel)
theorem dX0_gather_142 : decode cX0_gather 142 = .ok (.aload_n 0, 1) := dz_42 (n := 128) (r := 14) hz_X0_gather_128 rfl
theorem dX0_gather_143 : decode cX0_gather 143 = .ok (.getfield 9, 3) := dz_180 (n := 128) (r := 15) hz_X0_gather_128 rfl rfl
theorem dX0_gather_146 : decode cX0_gather 146 = .ok (.iload 7, 2) := dz_21 (n := 128) (r := 18) hz_X0_gather_128 rfl rfl
theorem dX0_gather_148 : decode cX0_gather 148 = .ok (.dup2, 1) := dz_92 (n := 128) (r := 20) hz_X0_gather_128 rfl
theorem dX0_gather_149 : decode cX0_gather 149 = .ok (.iaload, 1) := dz_46 (n := 128) (r := 21) hz_X0_gather_128 rfl
theorem dX0_gather_150 : decode cX0_gather 150 = .ok (.iconst 1, 1) := dz_4 (n := 128) (r := 22) hz_X0_gather_128 rfl
theorem dX0_gather_151 : decode cX0_gather 151 = .ok (.iadd, 1) := dz_96 (n := 128) (r := 23) hz_X0_gather_128 rfl
theorem dX0_gather_152 : decode cX0_gather 152 = .ok (.iastore, 1) := dz_79 (n := 128) (r := 24) hz_X0_gather_128 rfl
theorem dX0_gather_153 : decode cX0_gather 153 = .ok (.iinc 6 1, 3) := dz_132 (n := 128) (r := 25) hz_X0_gather_128 rfl rfl rfl
theorem dX0_gather_156 : decode cX0_gather 156 = .ok (.goto (-58), 3) := dz_167 (n := 128) (r := 28) hz_X0_gather_128 rfl (by decide +kernel)
theorem dX0_gather_159 : decode cX0_gather 159 = .ok (.return_, 1) := dz_177 (n := 128) (r := 31) hz_X0_gather_128 rfl
theorem hz_X0_waysOf_0 : (cX0_waysOf.data.toList.drop 0).take 40 = [27, 155, 0, 21, 27, 42, 180, 0, 9, 190, 162, 0, 12, 42, 180, 0, 9, 27, 46, 167, 0, 4, 3, 172] := by decide +kernel
theorem dX0_waysOf_0 : decode cX0_waysOf 0 = .ok (.iload_n 1, 1) := dz_27 (n := 0) (r := 0) hz_X0_waysOf_0 rfl
theorem dX0_waysOf_1 : decode cX0_waysOf 1 = .ok (.ifCond .lt 21, 3) := dz_155 (n := 0) (r := 1) hz_X0_waysOf_0 rfl (by decide +kernel)
theorem dX0_waysOf_4 : decode cX0_waysOf 4 = .ok (.iload_n 1, 1) := dz_27 (n := 0) (r := 4) hz_X0_waysOf_0 rfl
theorem dX0_waysOf_5 : decode cX0_waysOf 5 = .ok (.aload_n 0, 1) := dz_42 (n := 0) (r := 5) hz_X0_waysOf_0 rfl
theorem dX0_waysOf_6 : decode cX0_waysOf 6 = .ok (.getfield 9, 3) := dz_180 (n := 0) (r := 6) hz_X0_waysOf_0 rfl rfl
theorem dX0_waysOf_9 : decode cX0_waysOf 9 = .ok (.arraylength, 1) := dz_190 (n := 0) (r := 9) hz_X0_waysOf_0 rfl
theorem dX0_waysOf_10 : decode cX0_waysOf 10 = .ok (.if_icmp .ge 12, 3) := dz_162 (n := 0) (r := 10) hz_X0_waysOf_0 rfl (by decide +kernel)
theorem dX0_waysOf_13 : decode cX0_waysOf 13 = .ok (.aload_n 0, 1) := dz_42 (n := 0) (r := 13) hz_X0_waysOf_0 rfl
theorem dX0_waysOf_14 : decode cX0_waysOf 14 = .ok (.getfield 9, 3) := dz_180 (n := 0) (r := 14) hz_X0_waysOf_0 rfl rfl
theorem dX0_waysOf_17 : decode cX0_waysOf 17 = .ok (.iload_n 1, 1) := dz_27 (n := 0) (r := 17) hz_X0_waysOf_0 rfl
theorem dX0_waysOf_18 : decode cX0_waysOf 18 = .ok (.iaload, 1) := dz_46 (n := 0) (r := 18) hz_X0_waysOf_0 rfl
theorem dX0_waysOf_19 : decode cX0_waysOf 19 = .ok (.goto 4, 3) := dz_167 (n := 0) (r := 19) hz_X0_waysOf_0 rfl (by decide +kernel)
theorem dX0_waysOf_22 : decode cX0_waysOf 22 = .ok (.iconst 0, 1) := dz_3 (n := 0) (r := 22) hz_X0_waysOf_0 rfl
theorem dX0_waysOf_23 : decode cX0_waysOf 23 = .ok (.ireturn, 1) := dz_172 (n := 0) (r := 23) hz_X0_waysOf_0 rfl
theorem hz_X0_fewest_0 : (cX0_fewest.data.toList.drop 0).take 40 = [3, 60, 27, 42, 180, 0, 9, 190, 162, 0, 20, 42, 180, 0, 9, 27, 46, 158, 0, 5, 27, 172, 132, 1, 1, 167, 255, 233, 3, 172] := by decide +kernel
theorem dX0_fewest_0 : decode cX0_fewest 0 = .ok (.iconst 0, 1) := dz_3 (n := 0) (r := 0) hz_X0_fewest_0 rfl
theorem dX0_fewest_1 : decode cX0_fewest 1 = .ok (.istore_n 1, 1) := dz_60 (n := 0) (r := 1) hz_X0_fewest_0 rfl
theorem dX0_fewest_2 : decode cX0_fewest 2 = .ok (.iload_n 1, 1) := dz_27 (n := 0) (r := 2) hz_X0_fewest_0 rfl
theorem dX0_fewest_3 : decode cX0_fewest 3 = .ok (.aload_n 0, 1) := dz_42 (n := 0) (r := 3) hz_X0_fewest_0 rfl
theorem dX0_fewest_4 : decode cX0_fewest 4 = .ok (.getfield 9, 3) := dz_180 (n := 0) (r := 4) hz_X0_fewest_0 rfl rfl
theorem dX0_fewest_7 : decode cX0_fewest 7 = .ok (.arraylength, 1) := dz_190 (n := 0) (r := 7) hz_X0_fewest_0 rfl
theorem dX0_fewest_8 : decode cX0_fewest 8 = .ok (.if_icmp .ge 20, 3) := dz_162 (n := 0) (r := 8) hz_X0_fewest_0 rfl (by decide +kernel)
theorem dX0_fewest_11 : decode cX0_fewest 11 = .ok (.aload_n 0, 1) := dz_42 (n := 0) (r := 11) hz_X0_fewest_0 rfl
theorem dX0_fewest_12 : decode cX0_fewest 12 = .ok (.getfield 9, 3) := dz_180 (n := 0) (r := 12) hz_X0_fewest_0 rfl rfl
theorem dX0_fewest_15 : decode cX0_fewest 15 = .ok (.iload_n 1, 1) := dz_27 (n := 0) (r := 15) hz_X0_fewest_0 rfl
theorem dX0_fewest_16 : decode cX0_fewest 16 = .ok (.iaload, 1) := dz_46 (n := 0) (r := 16) hz_X0_fewest_0 rfl
theorem dX0_fewest_17 : decode cX0_fewest 17 = .ok (.ifCond .le 5, 3) := dz_158 (n := 0) (r := 17) hz_X0_fewest_0 rfl (by decide +kernel)
theorem dX0_fewest_20 : decode cX0_fewest 20 = .ok (.iload_n 1, 1) := dz_27 (n := 0) (r := 20) hz_X0_fewest_0 rfl
theorem dX0_fewest_21 : decode cX0_fewest 21 = .ok (.ireturn, 1) := dz_172 (n := 0) (r := 21) hz_X0_fewest_0 rfl
theorem dX0_fewest_22 : decode cX0_fewest 22 = .ok (.iinc 1 1, 3) := dz_132 (n := 0) (r := 22) hz_X0_fewest_0 rfl rfl rfl
theorem dX0_fewest_25 : decode cX0_fewest 25 = .ok (.goto (-23), 3) := dz_167 (n := 0) (r := 25) hz_X0_fewest_0 rfl (by decide +kernel)
theorem dX0_fewest_28 : decode cX0_fewest 28 = .ok (.iconst 0, 1) := dz_3 (n := 0) (r := 28) hz_X0_fewest_0 rfl
theorem dX0_fewest_29 : decode cX0_fewest 29 = .ok (.ireturn, 1) := dz_172 (n := 0) (r := 29) hz_X0_fewest_0 rfl
theorem hz_X1_init_0 : (cX1_init.data.toList.drop 0).take 40 = [42, 183, 0, 3, 42, 187, 0, 9, 89, 183, 0, 11, 181, 0, 12, 42, 187, 0, 18, 89, 183, 0, 20, 181, 0, 21, 177] := by decide +kernel
theorem dX1_init_0 : decode cX1_init 0 = .ok (.aload_n 0, 1) := dz_42 (n := 0) (r := 0) hz_X1_init_0 rfl
theorem dX1_init_1 : decode cX1_init 1 = .ok (.invokespecial 3, 3) := dz_183 (n := 0) (r := 1) hz_X1_init_0 rfl rfl
theorem dX1_init_4 : decode cX1_init 4 = .ok (.aload_n 0, 1) := dz_42 (n := 0) (r := 4) hz_X1_init_0 rfl
theorem dX1_init_5 : decode cX1_init 5 = .ok (.new 9, 3) := dz_187 (n := 0) (r := 5) hz_X1_init_0 rfl rfl
theorem dX1_init_8 : decode cX1_init 8 = .ok (.dup, 1) := dz_89 (n := 0) (r := 8) hz_X1_init_0 rfl
theorem dX1_init_9 : decode cX1_init 9 = .ok (.invokespecial 11, 3) := dz_183 (n := 0) (r := 9) hz_X1_init_0 rfl rfl
theorem dX1_init_12 : decode cX1_init 12 = .ok (.putfield 12, 3) := dz_181 (n := 0) (r := 12) hz_X1_init_0 rfl rfl
theorem dX1_init_15 : decode cX1_init 15 = .ok (.aload_n 0, 1) := dz_42 (n := 0) (r := 15) hz_X1_init_0 rfl
theorem dX1_init_16 : decode cX1_init 16 = .ok (.new 18, 3) := dz_187 (n := 0) (r := 16) hz_X1_init_0 rfl rfl
theorem dX1_init_19 : decode cX1_init 19 = .ok (.dup, 1) := dz_89 (n := 0) (r := 19) hz_X1_init_0 rfl
theorem dX1_init_20 : decode cX1_init 20 = .ok (.invokespecial 20, 3) := dz_183 (n := 0) (r := 20) hz_X1_init_0 rfl rfl
theorem dX1_init_23 : decode cX1_init 23 = .ok (.putfield 21, 3) := dz_181 (n := 0) (r := 23) hz_X1_init_0 rfl rfl
theorem dX1_init_26 : decode cX1_init 26 = .ok (.return_, 1) := dz_177 (n := 0) (r := 26) hz_X1_init_0 rfl
theorem hz_X1_build_0 : (cX1_build.data.toList.drop 0).take 40 = [42, 182, 0, 25, 42, 180, 0, 12, 182, 0, 28, 60, 27, 153, 0, 16, 42, 27, 42, 180, 0, 12, 180, 0, 32, 182, 0, 36, 177, 42, 182, 0, 40, 42, 182, 0, 43, 3, 61, 28] := by decide +kernel
theorem dX1_build_0 : decode cX1_build 0 = .ok (.aload_n 0, 1) := dz_42 (n := 0) (r := 0) hz_X1_build_0 rfl
theorem dX1_build_1 : decode cX1_build 1 = .ok (.invokevirtual 25, 3) := dz_182 (n := 0) (r := 1) hz_X1_build_0 rfl rfl
theorem dX1_build_4 : decode cX1_build 4 = .ok (.aload_n 0, 1) := dz_42 (n := 0) (r := 4) hz_X1_build_0 rfl
theorem dX1_build_5 : decode cX1_build 5 = .ok (.getfield 12, 3) := dz_180 (n := 0) (r := 5) hz_X1_build_0 rfl rfl
theorem dX1_build_8 : decode cX1_build 8 = .ok (.invokevirtual 28, 3) := dz_182 (n := 0) (r := 8) hz_X1_build_0 rfl rfl
theorem dX1_build_11 : decode cX1_build 11 = .ok (.istore_n 1, 1) := dz_60 (n := 0) (r := 11) hz_X1_build_0 rfl
theorem dX1_build_12 : decode cX1_build 12 = .ok (.iload_n 1, 1) := dz_27 (n := 0) (r := 12) hz_X1_build_0 rfl
theorem dX1_build_13 : decode cX1_build 13 = .ok (.ifCond .eq 16, 3) := dz_153 (n := 0) (r := 13) hz_X1_build_0 rfl (by decide +kernel)
theorem dX1_build_16 : decode cX1_build 16 = .ok (.aload_n 0, 1) := dz_42 (n := 0) (r := 16) hz_X1_build_0 rfl
theorem dX1_build_17 : decode cX1_build 17 = .ok (.iload_n 1, 1) := dz_27 (n := 0) (r := 17) hz_X1_build_0 rfl
theorem dX1_build_18 : decode cX1_build 18 = .ok (.aload_n 0, 1) := dz_42 (n := 0) (r := 18) hz_X1_build_0 rfl
theorem dX1_build_19 : decode cX1_build 19 = .ok (.getfield 12, 3) := dz_180 (n := 0) (r := 19) hz_X1_build_0 rfl rfl
theorem dX1_build_22 : decode cX1_build 22 = .ok (.getfield 32, 3) := dz_180 (n := 0) (r := 22) hz_X1_build_0 rfl rfl
theorem dX1_build_25 : decode cX1_build 25 = .ok (.invokevirtual 36, 3) := dz_182 (n := 0) (r := 25) hz_X1_build_0 rfl rfl
theorem dX1_build_28 : decode cX1_build 28 = .ok (.return_, 1) := dz_177 (n := 0) (r := 28) hz_X1_build_0 rfl
theorem dX1_build_29 : decode cX1_build 29 = .ok (.aload_n 0, 1) := dz_42 (n := 0) (r := 29) hz_X1_build_0 rfl
theorem dX1_build_30 : decode cX1_build 30 = .ok (.invokevirtual 40, 3) := dz_182 (n := 0) (r := 30) hz_X1_build_0 rfl rfl
theorem hz_X1_build_32 : (cX1_build.data.toList.drop 32).take 40 = [40, 42, 182, 0, 43, 3, 61, 28, 17, 1, 144, 162, 0, 34, 42, 180, 0, 46, 154, 0, 27, 42, 180, 0, 49, 42, 180, 0, 12, 180, 0, 52, 162, 0, 13, 42, 182, 0, 55, 132] := by decide +kernel
theorem dX1_build_33 : decode cX1_build 33 = .ok (.aload_n 0, 1) := dz_42 (n := 32) (r := 1) hz_X1_build_32 rfl
theorem dX1_build_34 : decode cX1_build 34 = .ok (.invokevirtual 43, 3) := dz_182 (n := 32) (r := 2) hz_X1_build_32 rfl rfl
theorem dX1_build_37 : decode cX1_build 37 = .ok (.iconst 0, 1) := dz_3 (n := 32) (r := 5) hz_X1_build_32 rfl
theorem dX1_build_38 : decode cX1_build 38 = .ok (.istore_n 2, 1) := dz_61 (n := 32) (r := 6) hz_X1_build_32 rfl
theorem dX1_build_39 : decode cX1_build 39 = .ok (.iload_n 2, 1) := dz_28 (n := 32) (r := 7) hz_X1_build_32 rfl
theorem dX1_build_40 : decode cX1_build 40 = .ok (.sipush 400, 3) := dz_17 (n := 32) (r := 8) hz_X1_build_32 rfl (by decide +kernel)
theorem dX1_build_43 : decode cX1_build 43 = .ok (.if_icmp .ge 34, 3) := dz_162 (n := 32) (r := 11) hz_X1_build_32 rfl (by decide +kernel)
theorem dX1_build_46 : decode cX1_build 46 = .ok (.aload_n 0, 1) := dz_42 (n := 32) (r := 14) hz_X1_build_32 rfl
theorem dX1_build_47 : decode cX1_build 47 = .ok (.getfield 46, 3) := dz_180 (n := 32) (r := 15) hz_X1_build_32 rfl rfl
theorem dX1_build_50 : decode cX1_build 50 = .ok (.ifCond .ne 27, 3) := dz_154 (n := 32) (r := 18) hz_X1_build_32 rfl (by decide +kernel)
theorem dX1_build_53 : decode cX1_build 53 = .ok (.aload_n 0, 1) := dz_42 (n := 32) (r := 21) hz_X1_build_32 rfl
theorem dX1_build_54 : decode cX1_build 54 = .ok (.getfield 49, 3) := dz_180 (n := 32) (r := 22) hz_X1_build_32 rfl rfl
theorem dX1_build_57 : decode cX1_build 57 = .ok (.aload_n 0, 1) := dz_42 (n := 32) (r := 25) hz_X1_build_32 rfl
theorem dX1_build_58 : decode cX1_build 58 = .ok (.getfield 12, 3) := dz_180 (n := 32) (r := 26) hz_X1_build_32 rfl rfl
theorem dX1_build_61 : decode cX1_build 61 = .ok (.getfield 52, 3) := dz_180 (n := 32) (r := 29) hz_X1_build_32 rfl rfl
theorem hz_X1_build_64 : (cX1_build.data.toList.drop 64).take 40 = [162, 0, 13, 42, 182, 0, 55, 132, 2, 1, 167, 255, 221, 42, 182, 0, 58, 177] := by decide +kernel
theorem dX1_build_64 : decode cX1_build 64 = .ok (.if_icmp .ge 13, 3) := dz_162 (n := 64) (r := 0) hz_X1_build_64 rfl (by decide +kernel)
theorem dX1_build_67 : decode cX1_build 67 = .ok (.aload_n 0, 1) := dz_42 (n := 64) (r := 3) hz_X1_build_64 rfl
theorem dX1_build_68 : decode cX1_build 68 = .ok (.invokevirtual 55, 3) := dz_182 (n := 64) (r := 4) hz_X1_build_64 rfl rfl
theorem dX1_build_71 : decode cX1_build 71 = .ok (.iinc 2 1, 3) := dz_132 (n := 64) (r := 7) hz_X1_build_64 rfl rfl rfl
theorem dX1_build_74 : decode cX1_build 74 = .ok (.goto (-35), 3) := dz_167 (n := 64) (r := 10) hz_X1_build_64 rfl (by decide +kernel)
theorem dX1_build_77 : decode cX1_build 77 = .ok (.aload_n 0, 1) := dz_42 (n := 64) (r := 13) hz_X1_build_64 rfl
theorem dX1_build_78 : decode cX1_build 78 = .ok (.invokevirtual 58, 3) := dz_182 (n := 64) (r := 14) hz_X1_build_64 rfl rfl
theorem dX1_build_81 : decode cX1_build 81 = .ok (.return_, 1) := dz_177 (n := 64) (r := 17) hz_X1_build_64 rfl
theorem hz_X1_begin_0 : (cX1_begin.data.toList.drop 0).take 40 = [42, 180, 0, 21, 182, 0, 61, 42, 3, 181, 0, 46, 42, 2, 181, 0, 64, 42, 3, 181, 0, 49, 42, 3, 181, 0, 67, 42, 3, 181, 0, 70, 42, 3, 181, 0, 73, 42, 3, 181] := by decide +kernel
theorem dX1_begin_0 : decode cX1_begin 0 = .ok (.aload_n 0, 1) := dz_42 (n := 0) (r := 0) hz_X1_begin_0 rfl
theorem dX1_begin_1 : decode cX1_begin 1 = .ok (.getfield 21, 3) := dz_180 (n := 0) (r := 1) hz_X1_begin_0 rfl rfl
theorem dX1_begin_4 : decode cX1_begin 4 = .ok (.invokevirtual 61, 3) := dz_182 (n := 0) (r := 4) hz_X1_begin_0 rfl rfl
theorem dX1_begin_7 : decode cX1_begin 7 = .ok (.aload_n 0, 1) := dz_42 (n := 0) (r := 7) hz_X1_begin_0 rfl
theorem dX1_begin_8 : decode cX1_begin 8 = .ok (.iconst 0, 1) := dz_3 (n := 0) (r := 8) hz_X1_begin_0 rfl
theorem dX1_begin_9 : decode cX1_begin 9 = .ok (.putfield 46, 3) := dz_181 (n := 0) (r := 9) hz_X1_begin_0 rfl rfl
theorem dX1_begin_12 : decode cX1_begin 12 = .ok (.aload_n 0, 1) := dz_42 (n := 0) (r := 12) hz_X1_begin_0 rfl
theorem dX1_begin_13 : decode cX1_begin 13 = .ok (.iconst (-1), 1) := dz_2 (n := 0) (r := 13) hz_X1_begin_0 rfl
theorem dX1_begin_14 : decode cX1_begin 14 = .ok (.putfield 64, 3) := dz_181 (n := 0) (r := 14) hz_X1_begin_0 rfl rfl
theorem dX1_begin_17 : decode cX1_begin 17 = .ok (.aload_n 0, 1) := dz_42 (n := 0) (r := 17) hz_X1_begin_0 rfl
theorem dX1_begin_18 : decode cX1_begin 18 = .ok (.iconst 0, 1) := dz_3 (n := 0) (r := 18) hz_X1_begin_0 rfl
theorem dX1_begin_19 : decode cX1_begin 19 = .ok (.putfield 49, 3) := dz_181 (n := 0) (r := 19) hz_X1_begin_0 rfl rfl
theorem dX1_begin_22 : decode cX1_begin 22 = .ok (.aload_n 0, 1) := dz_42 (n := 0) (r := 22) hz_X1_begin_0 rfl
theorem dX1_begin_23 : decode cX1_begin 23 = .ok (.iconst 0, 1) := dz_3 (n := 0) (r := 23) hz_X1_begin_0 rfl
theorem dX1_begin_24 : decode cX1_begin 24 = .ok (.putfield 67, 3) := dz_181 (n := 0) (r := 24) hz_X1_begin_0 rfl rfl
theorem dX1_begin_27 : decode cX1_begin 27 = .ok (.aload_n 0, 1) := dz_42 (n := 0) (r := 27) hz_X1_begin_0 rfl
theorem dX1_begin_28 : decode cX1_begin 28 = .ok (.iconst 0, 1) := dz_3 (n := 0) (r := 28) hz_X1_begin_0 rfl
theorem dX1_begin_29 : decode cX1_begin 29 = .ok (.putfield 70, 3) := dz_181 (n := 0) (r := 29) hz_X1_begin_0 rfl rfl
theorem hz_X1_begin_32 : (cX1_begin.data.toList.drop 32).take 40 = [42, 3, 181, 0, 73, 42, 3, 181, 0, 76, 42, 3, 181, 0, 79, 42, 3, 181, 0, 82, 177] := by decide +kernel
theorem dX1_begin_32 : decode cX1_begin 32 = .ok (.aload_n 0, 1) := dz_42 (n := 32) (r := 0) hz_X1_begin_32 rfl
theorem dX1_begin_33 : decode cX1_begin 33 = .ok (.iconst 0, 1) := dz_3 (n := 32) (r := 1) hz_X1_begin_32 rfl
theorem dX1_begin_34 : decode cX1_begin 34 = .ok (.putfield 73, 3) := dz_181 (n := 32) (r := 2) hz_X1_begin_32 rfl rfl
theorem dX1_begin_37 : decode cX1_begin 37 = .ok (.aload_n 0, 1) := dz_42 (n := 32) (r := 5) hz_X1_begin_32 rfl
theorem dX1_begin_38 : decode cX1_begin 38 = .ok (.iconst 0, 1) := dz_3 (n := 32) (r := 6) hz_X1_begin_32 rfl
theorem dX1_begin_39 : decode cX1_begin 39 = .ok (.putfield 76, 3) := dz_181 (n := 32) (r := 7) hz_X1_begin_32 rfl rfl
theorem dX1_begin_42 : decode cX1_begin 42 = .ok (.aload_n 0, 1) := dz_42 (n := 32) (r := 10) hz_X1_begin_32 rfl
theorem dX1_begin_43 : decode cX1_begin 43 = .ok (.iconst 0, 1) := dz_3 (n := 32) (r := 11) hz_X1_begin_32 rfl
theorem dX1_begin_44 : decode cX1_begin 44 = .ok (.putfield 79, 3) := dz_181 (n := 32) (r := 12) hz_X1_begin_32 rfl rfl
theorem dX1_begin_47 : decode cX1_begin 47 = .ok (.aload_n 0, 1) := dz_42 (n := 32) (r := 15) hz_X1_begin_32 rfl
theorem dX1_begin_48 : decode cX1_begin 48 = .ok (.iconst 0, 1) := dz_3 (n := 32) (r := 16) hz_X1_begin_32 rfl
theorem dX1_begin_49 : decode cX1_begin 49 = .ok (.putfield 82, 3) := dz_181 (n := 32) (r := 17) hz_X1_begin_32 rfl rfl
theorem dX1_begin_52 : decode cX1_begin 52 = .ok (.return_, 1) := dz_177 (n := 32) (r := 20) hz_X1_begin_32 rfl
theorem hz_X1_blame_0 : (cX1_blame.data.toList.drop 0).take 40 = [42, 180, 0, 46, 154, 0, 13, 42, 27, 181, 0, 46, 42, 28, 181, 0, 64, 177] := by decide +kernel
theorem dX1_blame_0 : decode cX1_blame 0 = .ok (.aload_n 0, 1) := dz_42 (n := 0) (r := 0) hz_X1_blame_0 rfl
theorem dX1_blame_1 : decode cX1_blame 1 = .ok (.getfield 46, 3) := dz_180 (n := 0) (r := 1) hz_X1_blame_0 rfl rfl
theorem dX1_blame_4 : decode cX1_blame 4 = .ok (.ifCond .ne 13, 3) := dz_154 (n := 0) (r := 4) hz_X1_blame_0 rfl (by decide +kernel)
theorem dX1_blame_7 : decode cX1_blame 7 = .ok (.aload_n 0, 1) := dz_42 (n := 0) (r := 7) hz_X1_blame_0 rfl
theorem dX1_blame_8 : decode cX1_blame 8 = .ok (.iload_n 1, 1) := dz_27 (n := 0) (r := 8) hz_X1_blame_0 rfl
theorem dX1_blame_9 : decode cX1_blame 9 = .ok (.putfield 46, 3) := dz_181 (n := 0) (r := 9) hz_X1_blame_0 rfl rfl
theorem dX1_blame_12 : decode cX1_blame 12 = .ok (.aload_n 0, 1) := dz_42 (n := 0) (r := 12) hz_X1_blame_0 rfl
theorem dX1_blame_13 : decode cX1_blame 13 = .ok (.iload_n 2, 1) := dz_28 (n := 0) (r := 13) hz_X1_blame_0 rfl
theorem dX1_blame_14 : decode cX1_blame 14 = .ok (.putfield 64, 3) := dz_181 (n := 0) (r := 14) hz_X1_blame_0 rfl rfl
theorem dX1_blame_17 : decode cX1_blame 17 = .ok (.return_, 1) := dz_177 (n := 0) (r := 17) hz_X1_blame_0 rfl
theorem hz_X1_takeKind_0 : (cX1_takeKind.data.toList.drop 0).take 40 = [42, 180, 0, 12, 42, 180, 0, 49, 182, 0, 85, 60, 42, 89, 180, 0, 49, 4, 96, 181, 0, 49, 27, 172] := by decide +kernel
theorem dX1_takeKind_0 : decode cX1_takeKind 0 = .ok (.aload_n 0, 1) := dz_42 (n := 0) (r := 0) hz_X1_takeKind_0 rfl
theorem dX1_takeKind_1 : decode cX1_takeKind 1 = .ok (.getfield 12, 3) := dz_180 (n := 0) (r := 1) hz_X1_takeKind_0 rfl rfl
theorem dX1_takeKind_4 : decode cX1_takeKind 4 = .ok (.aload_n 0, 1) := dz_42 (n := 0) (r := 4) hz_X1_takeKind_0 rfl
theorem dX1_takeKind_5 : decode cX1_takeKind 5 = .ok (.getfield 49, 3) := dz_180 (n := 0) (r := 5) hz_X1_takeKind_0 rfl rfl
theorem dX1_takeKind_8 : decode cX1_takeKind 8 = .ok (.invokevirtual 85, 3) := dz_182 (n := 0) (r := 8) hz_X1_takeKind_0 rfl rfl
theorem dX1_takeKind_11 : decode cX1_takeKind 11 = .ok (.istore_n 1, 1) := dz_60 (n := 0) (r := 11) hz_X1_takeKind_0 rfl
theorem dX1_takeKind_12 : decode cX1_takeKind 12 = .ok (.aload_n 0, 1) := dz_42 (n := 0) (r := 12) hz_X1_takeKind_0 rfl
theorem dX1_takeKind_13 : decode cX1_takeKind 13 = .ok (.dup, 1) := dz_89 (n := 0) (r := 13) hz_X1_takeKind_0 rfl
theorem dX1_takeKind_14 : decode cX1_takeKind 14 = .ok (.getfield 49, 3) := dz_180 (n := 0) (r := 14) hz_X1_takeKind_0 rfl rfl
theorem dX1_takeKind_17 : decode cX1_takeKind 17 = .ok (.iconst 1, 1) := dz_4 (n := 0) (r := 17) hz_X1_takeKind_0 rfl
theorem dX1_takeKind_18 : decode cX1_takeKind 18 = .ok (.iadd, 1) := dz_96 (n := 0) (r := 18) hz_X1_takeKind_0 rfl
theorem dX1_takeKind_19 : decode cX1_takeKind 19 = .ok (.putfield 49, 3) := dz_181 (n := 0) (r := 19) hz_X1_takeKind_0 rfl rfl
theorem dX1_takeKind_22 : decode cX1_takeKind 22 = .ok (.iload_n 1, 1) := dz_27 (n := 0) (r := 22) hz_X1_takeKind_0 rfl
theorem dX1_takeKind_23 : decode cX1_takeKind 23 = .ok (.ireturn, 1) := dz_172 (n := 0) (r := 23) hz_X1_takeKind_0 rfl
theorem hz_X1_takeInt_0 : (cX1_takeInt.data.toList.drop 0).take 40 = [42, 180, 0, 12, 42, 180, 0, 49, 182, 0, 89, 60, 42, 89, 180, 0, 49, 4, 96, 181, 0, 49, 27, 172] := by decide +kernel
theorem dX1_takeInt_0 : decode cX1_takeInt 0 = .ok (.aload_n 0, 1) := dz_42 (n := 0) (r := 0) hz_X1_takeInt_0 rfl
theorem dX1_takeInt_1 : decode cX1_takeInt 1 = .ok (.getfield 12, 3) := dz_180 (n := 0) (r := 1) hz_X1_takeInt_0 rfl rfl
theorem dX1_takeInt_4 : decode cX1_takeInt 4 = .ok (.aload_n 0, 1) := dz_42 (n := 0) (r := 4) hz_X1_takeInt_0 rfl
theorem dX1_takeInt_5 : decode cX1_takeInt 5 = .ok (.getfield 49, 3) := dz_180 (n := 0) (r := 5) hz_X1_takeInt_0 rfl rfl
theorem dX1_takeInt_8 : decode cX1_takeInt 8 = .ok (.invokevirtual 89, 3) := dz_182 (n := 0) (r := 8) hz_X1_takeInt_0 rfl rfl
theorem dX1_takeInt_11 : decode cX1_takeInt 11 = .ok (.istore_n 1, 1) := dz_60 (n := 0) (r := 11) hz_X1_takeInt_0 rfl
theorem dX1_takeInt_12 : decode cX1_takeInt 12 = .ok (.aload_n 0, 1) := dz_42 (n := 0) (r := 12) hz_X1_takeInt_0 rfl
theorem dX1_takeInt_13 : decode cX1_takeInt 13 = .ok (.dup, 1) := dz_89 (n := 0) (r := 13) hz_X1_takeInt_0 rfl
theorem dX1_takeInt_14 : decode cX1_takeInt 14 = .ok (.getfield 49, 3) := dz_180 (n := 0) (r := 14) hz_X1_takeInt_0 rfl rfl
theorem dX1_takeInt_17 : decode cX1_takeInt 17 = .ok (.iconst 1, 1) := dz_4 (n := 0) (r := 17) hz_X1_takeInt_0 rfl
theorem dX1_takeInt_18 : decode cX1_takeInt 18 = .ok (.iadd, 1) := dz_96 (n := 0) (r := 18) hz_X1_takeInt_0 rfl
theorem dX1_takeInt_19 : decode cX1_takeInt 19 = .ok (.putfield 49, 3) := dz_181 (n := 0) (r := 19) hz_X1_takeInt_0 rfl rfl
theorem dX1_takeInt_22 : decode cX1_takeInt 22 = .ok (.iload_n 1, 1) := dz_27 (n := 0) (r := 22) hz_X1_takeInt_0 rfl
theorem dX1_takeInt_23 : decode cX1_takeInt 23 = .ok (.ireturn, 1) := dz_172 (n := 0) (r := 23) hz_X1_takeInt_0 rfl
theorem hz_X1_takeSize_0 : (cX1_takeSize.data.toList.drop 0).take 40 = [42, 182, 0, 92, 87, 42, 42, 182, 0, 95, 181, 0, 98, 42, 180, 0, 98, 4, 161, 0, 11, 42, 180, 0, 98, 7, 164, 0, 21, 42, 6, 42, 180, 0, 12, 42, 180, 0, 49, 4] := by decide +kernel
theorem dX1_takeSize_0 : decode cX1_takeSize 0 = .ok (.aload_n 0, 1) := dz_42 (n := 0) (r := 0) hz_X1_takeSize_0 rfl
theorem dX1_takeSize_1 : decode cX1_takeSize 1 = .ok (.invokevirtual 92, 3) := dz_182 (n := 0) (r := 1) hz_X1_takeSize_0 rfl rfl
theorem dX1_takeSize_4 : decode cX1_takeSize 4 = .ok (.pop, 1) := dz_87 (n := 0) (r := 4) hz_X1_takeSize_0 rfl
theorem dX1_takeSize_5 : decode cX1_takeSize 5 = .ok (.aload_n 0, 1) := dz_42 (n := 0) (r := 5) hz_X1_takeSize_0 rfl
theorem dX1_takeSize_6 : decode cX1_takeSize 6 = .ok (.aload_n 0, 1) := dz_42 (n := 0) (r := 6) hz_X1_takeSize_0 rfl
theorem dX1_takeSize_7 : decode cX1_takeSize 7 = .ok (.invokevirtual 95, 3) := dz_182 (n := 0) (r := 7) hz_X1_takeSize_0 rfl rfl
theorem dX1_takeSize_10 : decode cX1_takeSize 10 = .ok (.putfield 98, 3) := dz_181 (n := 0) (r := 10) hz_X1_takeSize_0 rfl rfl
theorem dX1_takeSize_13 : decode cX1_takeSize 13 = .ok (.aload_n 0, 1) := dz_42 (n := 0) (r := 13) hz_X1_takeSize_0 rfl
theorem dX1_takeSize_14 : decode cX1_takeSize 14 = .ok (.getfield 98, 3) := dz_180 (n := 0) (r := 14) hz_X1_takeSize_0 rfl rfl
theorem dX1_takeSize_17 : decode cX1_takeSize 17 = .ok (.iconst 1, 1) := dz_4 (n := 0) (r := 17) hz_X1_takeSize_0 rfl
theorem dX1_takeSize_18 : decode cX1_takeSize 18 = .ok (.if_icmp .lt 11, 3) := dz_161 (n := 0) (r := 18) hz_X1_takeSize_0 rfl (by decide +kernel)
theorem dX1_takeSize_21 : decode cX1_takeSize 21 = .ok (.aload_n 0, 1) := dz_42 (n := 0) (r := 21) hz_X1_takeSize_0 rfl
theorem dX1_takeSize_22 : decode cX1_takeSize 22 = .ok (.getfield 98, 3) := dz_180 (n := 0) (r := 22) hz_X1_takeSize_0 rfl rfl
theorem dX1_takeSize_25 : decode cX1_takeSize 25 = .ok (.iconst 4, 1) := dz_7 (n := 0) (r := 25) hz_X1_takeSize_0 rfl
theorem dX1_takeSize_26 : decode cX1_takeSize 26 = .ok (.if_icmp .le 21, 3) := dz_164 (n := 0) (r := 26) hz_X1_takeSize_0 rfl (by decide +kernel)
theorem dX1_takeSize_29 : decode cX1_takeSize 29 = .ok (.aload_n 0, 1) := dz_42 (n := 0) (r := 29) hz_X1_takeSize_0 rfl
theorem dX1_takeSize_30 : decode cX1_takeSize 30 = .ok (.iconst 3, 1) := dz_6 (n := 0) (r := 30) hz_X1_takeSize_0 rfl
theorem dX1_takeSize_31 : decode cX1_takeSize 31 = .ok (.aload_n 0, 1) := dz_42 (n := 0) (r := 31) hz_X1_takeSize_0 rfl
theorem hz_X1_takeSize_32 : (cX1_takeSize.data.toList.drop 32).take 40 = [180, 0, 12, 42, 180, 0, 49, 4, 100, 182, 0, 101, 182, 0, 36, 42, 42, 182, 0, 95, 181, 0, 104, 42, 180, 0, 104, 4, 161, 0, 26, 42, 180, 0, 104, 16, 16, 163, 0, 17] := by decide +kernel
theorem dX1_takeSize_32 : decode cX1_takeSize 32 = .ok (.getfield 12, 3) := dz_180 (n := 32) (r := 0) hz_X1_takeSize_32 rfl rfl
theorem dX1_takeSize_35 : decode cX1_takeSize 35 = .ok (.aload_n 0, 1) := dz_42 (n := 32) (r := 3) hz_X1_takeSize_32 rfl
theorem dX1_takeSize_36 : decode cX1_takeSize 36 = .ok (.getfield 49, 3) := dz_180 (n := 32) (r := 4) hz_X1_takeSize_32 rfl rfl
theorem dX1_takeSize_39 : decode cX1_takeSize 39 = .ok (.iconst 1, 1) := dz_4 (n := 32) (r := 7) hz_X1_takeSize_32 rfl
theorem dX1_takeSize_40 : decode cX1_takeSize 40 = .ok (.isub, 1) := dz_100 (n := 32) (r := 8) hz_X1_takeSize_32 rfl
theorem dX1_takeSize_41 : decode cX1_takeSize 41 = .ok (.invokevirtual 101, 3) := dz_182 (n := 32) (r := 9) hz_X1_takeSize_32 rfl rfl
theorem dX1_takeSize_44 : decode cX1_takeSize 44 = .ok (.invokevirtual 36, 3) := dz_182 (n := 32) (r := 12) hz_X1_takeSize_32 rfl rfl
theorem dX1_takeSize_47 : decode cX1_takeSize 47 = .ok (.aload_n 0, 1) := dz_42 (n := 32) (r := 15) hz_X1_takeSize_32 rfl
theorem dX1_takeSize_48 : decode cX1_takeSize 48 = .ok (.aload_n 0, 1) := dz_42 (n := 32) (r := 16) hz_X1_takeSize_32 rfl
theorem dX1_takeSize_49 : decode cX1_takeSize 49 = .ok (.invokevirtual 95, 3) := dz_182 (n := 32) (r := 17) hz_X1_takeSize_32 rfl rfl
theorem dX1_takeSize_52 : decode cX1_takeSize 52 = .ok (.putfield 104, 3) := dz_181 (n := 32) (r := 20) hz_X1_takeSize_32 rfl rfl
theorem dX1_takeSize_55 : decode cX1_takeSize 55 = .ok (.aload_n 0, 1) := dz_42 (n := 32) (r := 23) hz_X1_takeSize_32 rfl
theorem dX1_takeSize_56 : decode cX1_takeSize 56 = .ok (.getfield 104, 3) := dz_180 (n := 32) (r := 24) hz_X1_takeSize_32 rfl rfl
theorem dX1_takeSize_59 : decode cX1_takeSize 59 = .ok (.iconst 1, 1) := dz_4 (n := 32) (r := 27) hz_X1_takeSize_32 rfl
theorem dX1_takeSize_60 : decode cX1_takeSize 60 = .ok (.if_icmp .lt 26, 3) := dz_161 (n := 32) (r := 28) hz_X1_takeSize_32 rfl (by decide +kernel)
theorem dX1_takeSize_63 : decode cX1_takeSize 63 = .ok (.aload_n 0, 1) := dz_42 (n := 32) (r := 31) hz_X1_takeSize_32 rfl
theorem hz_X1_takeSize_64 : (cX1_takeSize.data.toList.drop 64).take 40 = [180, 0, 104, 16, 16, 163, 0, 17, 42, 180, 0, 98, 42, 180, 0, 104, 104, 16, 16, 164, 0, 21, 42, 6, 42, 180, 0, 12, 42, 180, 0, 49, 4, 100, 182, 0, 101, 182, 0, 36] := by decide +kernel
theorem dX1_takeSize_64 : decode cX1_takeSize 64 = .ok (.getfield 104, 3) := dz_180 (n := 64) (r := 0) hz_X1_takeSize_64 rfl rfl
theorem dX1_takeSize_67 : decode cX1_takeSize 67 = .ok (.bipush 16, 2) := dz_16 (n := 64) (r := 3) hz_X1_takeSize_64 rfl rfl
theorem dX1_takeSize_69 : decode cX1_takeSize 69 = .ok (.if_icmp .gt 17, 3) := dz_163 (n := 64) (r := 5) hz_X1_takeSize_64 rfl (by decide +kernel)
theorem dX1_takeSize_72 : decode cX1_takeSize 72 = .ok (.aload_n 0, 1) := dz_42 (n := 64) (r := 8) hz_X1_takeSize_64 rfl
theorem dX1_takeSize_73 : decode cX1_takeSize 73 = .ok (.getfield 98, 3) := dz_180 (n := 64) (r := 9) hz_X1_takeSize_64 rfl rfl
theorem dX1_takeSize_76 : decode cX1_takeSize 76 = .ok (.aload_n 0, 1) := dz_42 (n := 64) (r := 12) hz_X1_takeSize_64 rfl
theorem dX1_takeSize_77 : decode cX1_takeSize 77 = .ok (.getfield 104, 3) := dz_180 (n := 64) (r := 13) hz_X1_takeSize_64 rfl rfl
theorem dX1_takeSize_80 : decode cX1_takeSize 80 = .ok (.imul, 1) := dz_104 (n := 64) (r := 16) hz_X1_takeSize_64 rfl
theorem dX1_takeSize_81 : decode cX1_takeSize 81 = .ok (.bipush 16, 2) := dz_16 (n := 64) (r := 17) hz_X1_takeSize_64 rfl rfl
theorem dX1_takeSize_83 : decode cX1_takeSize 83 = .ok (.if_icmp .le 21, 3) := dz_164 (n := 64) (r := 19) hz_X1_takeSize_64 rfl (by decide +kernel)
theorem dX1_takeSize_86 : decode cX1_takeSize 86 = .ok (.aload_n 0, 1) := dz_42 (n := 64) (r := 22) hz_X1_takeSize_64 rfl
theorem dX1_takeSize_87 : decode cX1_takeSize 87 = .ok (.iconst 3, 1) := dz_6 (n := 64) (r := 23) hz_X1_takeSize_64 rfl
theorem dX1_takeSize_88 : decode cX1_takeSize 88 = .ok (.aload_n 0, 1) := dz_42 (n := 64) (r := 24) hz_X1_takeSize_64 rfl
theorem dX1_takeSize_89 : decode cX1_takeSize 89 = .ok (.getfield 12, 3) := dz_180 (n := 64) (r := 25) hz_X1_takeSize_64 rfl rfl
theorem dX1_takeSize_92 : decode cX1_takeSize 92 = .ok (.aload_n 0, 1) := dz_42 (n := 64) (r := 28) hz_X1_takeSize_64 rfl
theorem dX1_takeSize_93 : decode cX1_takeSize 93 = .ok (.getfield 49, 3) := dz_180 (n := 64) (r := 29) hz_X1_takeSize_64 rfl rfl
theorem hz_X1_takeSize_96 : (cX1_takeSize.data.toList.drop 96).take 40 = [4, 100, 182, 0, 101, 182, 0, 36, 42, 182, 0, 92, 87, 177] := by decide +kernel
theorem dX1_takeSize_96 : decode cX1_takeSize 96 = .ok (.iconst 1, 1) := dz_4 (n := 96) (r := 0) hz_X1_takeSize_96 rfl
theorem dX1_takeSize_97 : decode cX1_takeSize 97 = .ok (.isub, 1) := dz_100 (n := 96) (r := 1) hz_X1_takeSize_96 rfl
theorem dX1_takeSize_98 : decode cX1_takeSize 98 = .ok (.invokevirtual 101, 3) := dz_182 (n := 96) (r := 2) hz_X1_takeSize_96 rfl rfl
theorem dX1_takeSize_101 : decode cX1_takeSize 101 = .ok (.invokevirtual 36, 3) := dz_182 (n := 96) (r := 5) hz_X1_takeSize_96 rfl rfl
theorem dX1_takeSize_104 : decode cX1_takeSize 104 = .ok (.aload_n 0, 1) := dz_42 (n := 96) (r := 8) hz_X1_takeSize_96 rfl
theorem dX1_takeSize_105 : decode cX1_takeSize 105 = .ok (.invokevirtual 92, 3) := dz_182 (n := 96) (r := 9) hz_X1_takeSize_96 rfl rfl
theorem dX1_takeSize_108 : decode cX1_takeSize 108 = .ok (.pop, 1) := dz_87 (n := 96) (r := 12) hz_X1_takeSize_96 rfl
theorem dX1_takeSize_109 : decode cX1_takeSize 109 = .ok (.return_, 1) := dz_177 (n := 96) (r := 13) hz_X1_takeSize_96 rfl
theorem hz_X1_seeRings_0 : (cX1_seeRings.data.toList.drop 0).take 40 = [42, 180, 0, 49, 60, 27, 42, 180, 0, 12, 180, 0, 52, 162, 0, 51, 42, 180, 0, 12, 27, 182, 0, 85, 16, 9, 160, 0, 32, 42, 89, 180, 0, 67, 42, 180, 0, 12, 27, 4] := by decide +kernel
theorem dX1_seeRings_0 : decode cX1_seeRings 0 = .ok (.aload_n 0, 1) := dz_42 (n := 0) (r := 0) hz_X1_seeRings_0 rfl
theorem dX1_seeRings_1 : decode cX1_seeRings 1 = .ok (.getfield 49, 3) := dz_180 (n := 0) (r := 1) hz_X1_seeRings_0 rfl rfl
theorem dX1_seeRings_4 : decode cX1_seeRings 4 = .ok (.istore_n 1, 1) := dz_60 (n := 0) (r := 4) hz_X1_seeRings_0 rfl
theorem dX1_seeRings_5 : decode cX1_seeRings 5 = .ok (.iload_n 1, 1) := dz_27 (n := 0) (r := 5) hz_X1_seeRings_0 rfl
theorem dX1_seeRings_6 : decode cX1_seeRings 6 = .ok (.aload_n 0, 1) := dz_42 (n := 0) (r := 6) hz_X1_seeRings_0 rfl
theorem dX1_seeRings_7 : decode cX1_seeRings 7 = .ok (.getfield 12, 3) := dz_180 (n := 0) (r := 7) hz_X1_seeRings_0 rfl rfl
theorem dX1_seeRings_10 : decode cX1_seeRings 10 = .ok (.getfield 52, 3) := dz_180 (n := 0) (r := 10) hz_X1_seeRings_0 rfl rfl
theorem dX1_seeRings_13 : decode cX1_seeRings 13 = .ok (.if_icmp .ge 51, 3) := dz_162 (n := 0) (r := 13) hz_X1_seeRings_0 rfl (by decide +kernel)
theorem dX1_seeRings_16 : decode cX1_seeRings 16 = .ok (.aload_n 0, 1) := dz_42 (n := 0) (r := 16) hz_X1_seeRings_0 rfl
theorem dX1_seeRings_17 : decode cX1_seeRings 17 = .ok (.getfield 12, 3) := dz_180 (n := 0) (r := 17) hz_X1_seeRings_0 rfl rfl
theorem dX1_seeRings_20 : decode cX1_seeRings 20 = .ok (.iload_n 1, 1) := dz_27 (n := 0) (r := 20) hz_X1_seeRings_0 rfl
theorem dX1_seeRings_21 : decode cX1_seeRings 21 = .ok (.invokevirtual 85, 3) := dz_182 (n := 0) (r := 21) hz_X1_seeRings_0 rfl rfl
theorem dX1_seeRings_24 : decode cX1_seeRings 24 = .ok (.bipush 9, 2) := dz_16 (n := 0) (r := 24) hz_X1_seeRings_0 rfl rfl
theorem dX1_seeRings_26 : decode cX1_seeRings 26 = .ok (.if_icmp .ne 32, 3) := dz_160 (n := 0) (r := 26) hz_X1_seeRings_0 rfl (by decide +kernel)
theorem dX1_seeRings_29 : decode cX1_seeRings 29 = .ok (.aload_n 0, 1) := dz_42 (n := 0) (r := 29) hz_X1_seeRings_0 rfl
theorem dX1_seeRings_30 : decode cX1_seeRings 30 = .ok (.dup, 1) := dz_89 (n := 0) (r := 30) hz_X1_seeRings_0 rfl
theorem dX1_seeRings_31 : decode cX1_seeRings 31 = .ok (.getfield 67, 3) := dz_180 (n := 0) (r := 31) hz_X1_seeRings_0 rfl rfl
theorem hz_X1_seeRings_32 : (cX1_seeRings.data.toList.drop 32).take 40 = [0, 67, 42, 180, 0, 12, 27, 4, 96, 182, 0, 85, 16, 6, 160, 0, 7, 4, 167, 0, 4, 5, 128, 181, 0, 67, 132, 1, 1, 167, 255, 200, 177] := by decide +kernel
theorem dX1_seeRings_34 : decode cX1_seeRings 34 = .ok (.aload_n 0, 1) := dz_42 (n := 32) (r := 2) hz_X1_seeRings_32 rfl
theorem dX1_seeRings_35 : decode cX1_seeRings 35 = .ok (.getfield 12, 3) := dz_180 (n := 32) (r := 3) hz_X1_seeRings_32 rfl rfl
theorem dX1_seeRings_38 : decode cX1_seeRings 38 = .ok (.iload_n 1, 1) := dz_27 (n := 32) (r := 6) hz_X1_seeRings_32 rfl
theorem dX1_seeRings_39 : decode cX1_seeRings 39 = .ok (.iconst 1, 1) := dz_4 (n := 32) (r := 7) hz_X1_seeRings_32 rfl
theorem dX1_seeRings_40 : decode cX1_seeRings 40 = .ok (.iadd, 1) := dz_96 (n := 32) (r := 8) hz_X1_seeRings_32 rfl
theorem dX1_seeRings_41 : decode cX1_seeRings 41 = .ok (.invokevirtual 85, 3) := dz_182 (n := 32) (r := 9) hz_X1_seeRings_32 rfl rfl
theorem dX1_seeRings_44 : decode cX1_seeRings 44 = .ok (.bipush 6, 2) := dz_16 (n := 32) (r := 12) hz_X1_seeRings_32 rfl rfl
theorem dX1_seeRings_46 : decode cX1_seeRings 46 = .ok (.if_icmp .ne 7, 3) := dz_160 (n := 32) (r := 14) hz_X1_seeRings_32 rfl (by decide +kernel)
theorem dX1_seeRings_49 : decode cX1_seeRings 49 = .ok (.iconst 1, 1) := dz_4 (n := 32) (r := 17) hz_X1_seeRings_32 rfl
theorem dX1_seeRings_50 : decode cX1_seeRings 50 = .ok (.goto 4, 3) := dz_167 (n := 32) (r := 18) hz_X1_seeRings_32 rfl (by decide +kernel)
theorem dX1_seeRings_53 : decode cX1_seeRings 53 = .ok (.iconst 2, 1) := dz_5 (n := 32) (r := 21) hz_X1_seeRings_32 rfl
theorem dX1_seeRings_54 : decode cX1_seeRings 54 = .ok (.ior, 1) := dz_128 (n := 32) (r := 22) hz_X1_seeRings_32 rfl
theorem dX1_seeRings_55 : decode cX1_seeRings 55 = .ok (.putfield 67, 3) := dz_181 (n := 32) (r := 23) hz_X1_seeRings_32 rfl rfl
theorem dX1_seeRings_58 : decode cX1_seeRings 58 = .ok (.iinc 1 1, 3) := dz_132 (n := 32) (r := 26) hz_X1_seeRings_32 rfl rfl rfl
theorem dX1_seeRings_61 : decode cX1_seeRings 61 = .ok (.goto (-56), 3) := dz_167 (n := 32) (r := 29) hz_X1_seeRings_32 rfl (by decide +kernel)
theorem hz_X1_seeRings_64 : (cX1_seeRings.data.toList.drop 64).take 40 = [177] := by decide +kernel
theorem dX1_seeRings_64 : decode cX1_seeRings 64 = .ok (.return_, 1) := dz_177 (n := 64) (r := 0) hz_X1_seeRings_64 rfl
theorem hz_X1_takeTell_0 : (cX1_takeTell.data.toList.drop 0).take 40 = [42, 182, 0, 92, 170, 0, 0, 0, 0, 0, 0, 124, 0, 0, 0, 6, 0, 0, 0, 15, 0, 0, 0, 56, 0, 0, 0, 67, 0, 0, 0, 78, 0, 0, 0, 124, 0, 0, 0, 89] := by decide +kernel
theorem dX1_takeTell_0 : decode cX1_takeTell 0 = .ok (.aload_n 0, 1) := dz_42 (n := 0) (r := 0) hz_X1_takeTell_0 rfl
theorem dX1_takeTell_1 : decode cX1_takeTell 1 = .ok (.invokevirtual 92, 3) := dz_182 (n := 0) (r := 1) hz_X1_takeTell_0 rfl rfl
theorem dX1_takeTell_4 : decode cX1_takeTell 4 = .ok (.tableswitch 124 6 15 #[56, 67, 78, 124, 89, 96, 103, 124, 124, 110], 56) := by decide +kernel
theorem hz_X1_takeTell_32 : (cX1_takeTell.data.toList.drop 32).take 40 = [0, 0, 0, 124, 0, 0, 0, 89, 0, 0, 0, 96, 0, 0, 0, 103, 0, 0, 0, 124, 0, 0, 0, 124, 0, 0, 0, 110, 42, 42, 182, 0, 107, 181, 0, 70, 167, 0, 65, 42] := by decide +kernel
theorem dX1_takeTell_60 : decode cX1_takeTell 60 = .ok (.aload_n 0, 1) := dz_42 (n := 32) (r := 28) hz_X1_takeTell_32 rfl
theorem dX1_takeTell_61 : decode cX1_takeTell 61 = .ok (.aload_n 0, 1) := dz_42 (n := 32) (r := 29) hz_X1_takeTell_32 rfl
theorem dX1_takeTell_62 : decode cX1_takeTell 62 = .ok (.invokevirtual 107, 3) := dz_182 (n := 32) (r := 30) hz_X1_takeTell_32 rfl rfl
theorem hz_X1_takeTell_64 : (cX1_takeTell.data.toList.drop 64).take 40 = [107, 181, 0, 70, 167, 0, 65, 42, 42, 182, 0, 107, 181, 0, 73, 167, 0, 54, 42, 42, 182, 0, 107, 181, 0, 76, 167, 0, 43, 42, 182, 0, 110, 167, 0, 36, 42, 182, 0, 113] := by decide +kernel
theorem dX1_takeTell_65 : decode cX1_takeTell 65 = .ok (.putfield 70, 3) := dz_181 (n := 64) (r := 1) hz_X1_takeTell_64 rfl rfl
theorem dX1_takeTell_68 : decode cX1_takeTell 68 = .ok (.goto 65, 3) := dz_167 (n := 64) (r := 4) hz_X1_takeTell_64 rfl (by decide +kernel)
theorem dX1_takeTell_71 : decode cX1_takeTell 71 = .ok (.aload_n 0, 1) := dz_42 (n := 64) (r := 7) hz_X1_takeTell_64 rfl
theorem dX1_takeTell_72 : decode cX1_takeTell 72 = .ok (.aload_n 0, 1) := dz_42 (n := 64) (r := 8) hz_X1_takeTell_64 rfl
theorem dX1_takeTell_73 : decode cX1_takeTell 73 = .ok (.invokevirtual 107, 3) := dz_182 (n := 64) (r := 9) hz_X1_takeTell_64 rfl rfl
theorem dX1_takeTell_76 : decode cX1_takeTell 76 = .ok (.putfield 73, 3) := dz_181 (n := 64) (r := 12) hz_X1_takeTell_64 rfl rfl
theorem dX1_takeTell_79 : decode cX1_takeTell 79 = .ok (.goto 54, 3) := dz_167 (n := 64) (r := 15) hz_X1_takeTell_64 rfl (by decide +kernel)
theorem dX1_takeTell_82 : decode cX1_takeTell 82 = .ok (.aload_n 0, 1) := dz_42 (n := 64) (r := 18) hz_X1_takeTell_64 rfl
theorem dX1_takeTell_83 : decode cX1_takeTell 83 = .ok (.aload_n 0, 1) := dz_42 (n := 64) (r := 19) hz_X1_takeTell_64 rfl
theorem dX1_takeTell_84 : decode cX1_takeTell 84 = .ok (.invokevirtual 107, 3) := dz_182 (n := 64) (r := 20) hz_X1_takeTell_64 rfl rfl
theorem dX1_takeTell_87 : decode cX1_takeTell 87 = .ok (.putfield 76, 3) := dz_181 (n := 64) (r := 23) hz_X1_takeTell_64 rfl rfl
theorem dX1_takeTell_90 : decode cX1_takeTell 90 = .ok (.goto 43, 3) := dz_167 (n := 64) (r := 26) hz_X1_takeTell_64 rfl (by decide +kernel)
theorem dX1_takeTell_93 : decode cX1_takeTell 93 = .ok (.aload_n 0, 1) := dz_42 (n := 64) (r := 29) hz_X1_takeTell_64 rfl
theorem dX1_takeTell_94 : decode cX1_takeTell 94 = .ok (.invokevirtual 110, 3) := dz_182 (n := 64) (r := 30) hz_X1_takeTell_64 rfl rfl
theorem hz_X1_takeTell_96 : (cX1_takeTell.data.toList.drop 96).take 40 = [110, 167, 0, 36, 42, 182, 0, 113, 167, 0, 29, 42, 182, 0, 116, 167, 0, 22, 42, 180, 0, 21, 42, 182, 0, 95, 181, 0, 119, 167, 0, 8, 42, 182, 0, 92, 87, 42, 182, 0] := by decide +kernel
theorem dX1_takeTell_97 : decode cX1_takeTell 97 = .ok (.goto 36, 3) := dz_167 (n := 96) (r := 1) hz_X1_takeTell_96 rfl (by decide +kernel)
theorem dX1_takeTell_100 : decode cX1_takeTell 100 = .ok (.aload_n 0, 1) := dz_42 (n := 96) (r := 4) hz_X1_takeTell_96 rfl
theorem dX1_takeTell_101 : decode cX1_takeTell 101 = .ok (.invokevirtual 113, 3) := dz_182 (n := 96) (r := 5) hz_X1_takeTell_96 rfl rfl
theorem dX1_takeTell_104 : decode cX1_takeTell 104 = .ok (.goto 29, 3) := dz_167 (n := 96) (r := 8) hz_X1_takeTell_96 rfl (by decide +kernel)
theorem dX1_takeTell_107 : decode cX1_takeTell 107 = .ok (.aload_n 0, 1) := dz_42 (n := 96) (r := 11) hz_X1_takeTell_96 rfl
theorem dX1_takeTell_108 : decode cX1_takeTell 108 = .ok (.invokevirtual 116, 3) := dz_182 (n := 96) (r := 12) hz_X1_takeTell_96 rfl rfl
theorem dX1_takeTell_111 : decode cX1_takeTell 111 = .ok (.goto 22, 3) := dz_167 (n := 96) (r := 15) hz_X1_takeTell_96 rfl (by decide +kernel)
theorem dX1_takeTell_114 : decode cX1_takeTell 114 = .ok (.aload_n 0, 1) := dz_42 (n := 96) (r := 18) hz_X1_takeTell_96 rfl
theorem dX1_takeTell_115 : decode cX1_takeTell 115 = .ok (.getfield 21, 3) := dz_180 (n := 96) (r := 19) hz_X1_takeTell_96 rfl rfl
theorem dX1_takeTell_118 : decode cX1_takeTell 118 = .ok (.aload_n 0, 1) := dz_42 (n := 96) (r := 22) hz_X1_takeTell_96 rfl
theorem dX1_takeTell_119 : decode cX1_takeTell 119 = .ok (.invokevirtual 95, 3) := dz_182 (n := 96) (r := 23) hz_X1_takeTell_96 rfl rfl
theorem dX1_takeTell_122 : decode cX1_takeTell 122 = .ok (.putfield 119, 3) := dz_181 (n := 96) (r := 26) hz_X1_takeTell_96 rfl rfl
theorem dX1_takeTell_125 : decode cX1_takeTell 125 = .ok (.goto 8, 3) := dz_167 (n := 96) (r := 29) hz_X1_takeTell_96 rfl (by decide +kernel)
theorem hz_X1_takeTell_128 : (cX1_takeTell.data.toList.drop 128).take 40 = [42, 182, 0, 92, 87, 42, 182, 0, 92, 87, 177] := by decide +kernel
theorem dX1_takeTell_128 : decode cX1_takeTell 128 = .ok (.aload_n 0, 1) := dz_42 (n := 128) (r := 0) hz_X1_takeTell_128 rfl
theorem dX1_takeTell_129 : decode cX1_takeTell 129 = .ok (.invokevirtual 92, 3) := dz_182 (n := 128) (r := 1) hz_X1_takeTell_128 rfl rfl
theorem dX1_takeTell_132 : decode cX1_takeTell 132 = .ok (.pop, 1) := dz_87 (n := 128) (r := 4) hz_X1_takeTell_128 rfl
theorem dX1_takeTell_133 : decode cX1_takeTell 133 = .ok (.aload_n 0, 1) := dz_42 (n := 128) (r := 5) hz_X1_takeTell_128 rfl
theorem dX1_takeTell_134 : decode cX1_takeTell 134 = .ok (.invokevirtual 92, 3) := dz_182 (n := 128) (r := 6) hz_X1_takeTell_128 rfl rfl
theorem dX1_takeTell_137 : decode cX1_takeTell 137 = .ok (.pop, 1) := dz_87 (n := 128) (r := 9) hz_X1_takeTell_128 rfl
theorem dX1_takeTell_138 : decode cX1_takeTell 138 = .ok (.return_, 1) := dz_177 (n := 128) (r := 10) hz_X1_takeTell_128 rfl
theorem hz_X1_takeJ_0 : (cX1_takeJ.data.toList.drop 0).take 40 = [42, 180, 0, 12, 42, 180, 0, 49, 182, 0, 85, 6, 160, 0, 7, 4, 167, 0, 4, 3, 60, 27, 153, 0, 8, 42, 182, 0, 92, 87, 42, 182, 0, 95, 61, 28, 6, 164, 0, 21] := by decide +kernel
theorem dX1_takeJ_0 : decode cX1_takeJ 0 = .ok (.aload_n 0, 1) := dz_42 (n := 0) (r := 0) hz_X1_takeJ_0 rfl
theorem dX1_takeJ_1 : decode cX1_takeJ 1 = .ok (.getfield 12, 3) := dz_180 (n := 0) (r := 1) hz_X1_takeJ_0 rfl rfl
theorem dX1_takeJ_4 : decode cX1_takeJ 4 = .ok (.aload_n 0, 1) := dz_42 (n := 0) (r := 4) hz_X1_takeJ_0 rfl
theorem dX1_takeJ_5 : decode cX1_takeJ 5 = .ok (.getfield 49, 3) := dz_180 (n := 0) (r := 5) hz_X1_takeJ_0 rfl rfl
theorem dX1_takeJ_8 : decode cX1_takeJ 8 = .ok (.invokevirtual 85, 3) := dz_182 (n := 0) (r := 8) hz_X1_takeJ_0 rfl rfl
theorem dX1_takeJ_11 : decode cX1_takeJ 11 = .ok (.iconst 3, 1) := dz_6 (n := 0) (r := 11) hz_X1_takeJ_0 rfl
theorem dX1_takeJ_12 : decode cX1_takeJ 12 = .ok (.if_icmp .ne 7, 3) := dz_160 (n := 0) (r := 12) hz_X1_takeJ_0 rfl (by decide +kernel)
theorem dX1_takeJ_15 : decode cX1_takeJ 15 = .ok (.iconst 1, 1) := dz_4 (n := 0) (r := 15) hz_X1_takeJ_0 rfl
theorem dX1_takeJ_16 : decode cX1_takeJ 16 = .ok (.goto 4, 3) := dz_167 (n := 0) (r := 16) hz_X1_takeJ_0 rfl (by decide +kernel)
theorem dX1_takeJ_19 : decode cX1_takeJ 19 = .ok (.iconst 0, 1) := dz_3 (n := 0) (r := 19) hz_X1_takeJ_0 rfl
theorem dX1_takeJ_20 : decode cX1_takeJ 20 = .ok (.istore_n 1, 1) := dz_60 (n := 0) (r := 20) hz_X1_takeJ_0 rfl
theorem dX1_takeJ_21 : decode cX1_takeJ 21 = .ok (.iload_n 1, 1) := dz_27 (n := 0) (r := 21) hz_X1_takeJ_0 rfl
theorem dX1_takeJ_22 : decode cX1_takeJ 22 = .ok (.ifCond .eq 8, 3) := dz_153 (n := 0) (r := 22) hz_X1_takeJ_0 rfl (by decide +kernel)
theorem dX1_takeJ_25 : decode cX1_takeJ 25 = .ok (.aload_n 0, 1) := dz_42 (n := 0) (r := 25) hz_X1_takeJ_0 rfl
theorem dX1_takeJ_26 : decode cX1_takeJ 26 = .ok (.invokevirtual 92, 3) := dz_182 (n := 0) (r := 26) hz_X1_takeJ_0 rfl rfl
theorem dX1_takeJ_29 : decode cX1_takeJ 29 = .ok (.pop, 1) := dz_87 (n := 0) (r := 29) hz_X1_takeJ_0 rfl
theorem dX1_takeJ_30 : decode cX1_takeJ 30 = .ok (.aload_n 0, 1) := dz_42 (n := 0) (r := 30) hz_X1_takeJ_0 rfl
theorem dX1_takeJ_31 : decode cX1_takeJ 31 = .ok (.invokevirtual 95, 3) := dz_182 (n := 0) (r := 31) hz_X1_takeJ_0 rfl rfl
theorem hz_X1_takeJ_32 : (cX1_takeJ.data.toList.drop 32).take 40 = [0, 95, 61, 28, 6, 164, 0, 21, 42, 6, 42, 180, 0, 12, 42, 180, 0, 49, 4, 100, 182, 0, 101, 182, 0, 36, 27, 153, 0, 8, 28, 116, 167, 0, 4, 28, 172] := by decide +kernel
theorem dX1_takeJ_34 : decode cX1_takeJ 34 = .ok (.istore_n 2, 1) := dz_61 (n := 32) (r := 2) hz_X1_takeJ_32 rfl
theorem dX1_takeJ_35 : decode cX1_takeJ 35 = .ok (.iload_n 2, 1) := dz_28 (n := 32) (r := 3) hz_X1_takeJ_32 rfl
theorem dX1_takeJ_36 : decode cX1_takeJ 36 = .ok (.iconst 3, 1) := dz_6 (n := 32) (r := 4) hz_X1_takeJ_32 rfl
theorem dX1_takeJ_37 : decode cX1_takeJ 37 = .ok (.if_icmp .le 21, 3) := dz_164 (n := 32) (r := 5) hz_X1_takeJ_32 rfl (by decide +kernel)
theorem dX1_takeJ_40 : decode cX1_takeJ 40 = .ok (.aload_n 0, 1) := dz_42 (n := 32) (r := 8) hz_X1_takeJ_32 rfl
theorem dX1_takeJ_41 : decode cX1_takeJ 41 = .ok (.iconst 3, 1) := dz_6 (n := 32) (r := 9) hz_X1_takeJ_32 rfl
theorem dX1_takeJ_42 : decode cX1_takeJ 42 = .ok (.aload_n 0, 1) := dz_42 (n := 32) (r := 10) hz_X1_takeJ_32 rfl
theorem dX1_takeJ_43 : decode cX1_takeJ 43 = .ok (.getfield 12, 3) := dz_180 (n := 32) (r := 11) hz_X1_takeJ_32 rfl rfl
theorem dX1_takeJ_46 : decode cX1_takeJ 46 = .ok (.aload_n 0, 1) := dz_42 (n := 32) (r := 14) hz_X1_takeJ_32 rfl
theorem dX1_takeJ_47 : decode cX1_takeJ 47 = .ok (.getfield 49, 3) := dz_180 (n := 32) (r := 15) hz_X1_takeJ_32 rfl rfl
theorem dX1_takeJ_50 : decode cX1_takeJ 50 = .ok (.iconst 1, 1) := dz_4 (n := 32) (r := 18) hz_X1_takeJ_32 rfl
theorem dX1_takeJ_51 : decode cX1_takeJ 51 = .ok (.isub, 1) := dz_100 (n := 32) (r := 19) hz_X1_takeJ_32 rfl
theorem dX1_takeJ_52 : decode cX1_takeJ 52 = .ok (.invokevirtual 101, 3) := dz_182 (n := 32) (r := 20) hz_X1_takeJ_32 rfl rfl
theorem dX1_takeJ_55 : decode cX1_takeJ 55 = .ok (.invokevirtual 36, 3) := dz_182 (n := 32) (r := 23) hz_X1_takeJ_32 rfl rfl
theorem dX1_takeJ_58 : decode cX1_takeJ 58 = .ok (.iload_n 1, 1) := dz_27 (n := 32) (r := 26) hz_X1_takeJ_32 rfl
theorem dX1_takeJ_59 : decode cX1_takeJ 59 = .ok (.ifCond .eq 8, 3) := dz_153 (n := 32) (r := 27) hz_X1_takeJ_32 rfl (by decide +kernel)
theorem dX1_takeJ_62 : decode cX1_takeJ 62 = .ok (.iload_n 2, 1) := dz_28 (n := 32) (r := 30) hz_X1_takeJ_32 rfl
theorem dX1_takeJ_63 : decode cX1_takeJ 63 = .ok (.ineg, 1) := dz_116 (n := 32) (r := 31) hz_X1_takeJ_32 rfl
theorem hz_X1_takeJ_64 : (cX1_takeJ.data.toList.drop 64).take 40 = [167, 0, 4, 28, 172] := by decide +kernel
theorem dX1_takeJ_64 : decode cX1_takeJ 64 = .ok (.goto 4, 3) := dz_167 (n := 64) (r := 0) hz_X1_takeJ_64 rfl (by decide +kernel)
theorem dX1_takeJ_67 : decode cX1_takeJ 67 = .ok (.iload_n 2, 1) := dz_28 (n := 64) (r := 3) hz_X1_takeJ_64 rfl
theorem dX1_takeJ_68 : decode cX1_takeJ 68 = .ok (.ireturn, 1) := dz_172 (n := 64) (r := 4) hz_X1_takeJ_64 rfl
theorem hz_X1_takeSite_0 : (cX1_takeSite.data.toList.drop 0).take 40 = [42, 182, 0, 95, 60, 27, 42, 180, 0, 98, 42, 180, 0, 104, 104, 161, 0, 21, 42, 7, 42, 180, 0, 12, 42, 180, 0, 49, 4, 100, 182, 0, 101, 182, 0, 36, 27, 172] := by decide +kernel
theorem dX1_takeSite_0 : decode cX1_takeSite 0 = .ok (.aload_n 0, 1) := dz_42 (n := 0) (r := 0) hz_X1_takeSite_0 rfl
theorem dX1_takeSite_1 : decode cX1_takeSite 1 = .ok (.invokevirtual 95, 3) := dz_182 (n := 0) (r := 1) hz_X1_takeSite_0 rfl rfl
theorem dX1_takeSite_4 : decode cX1_takeSite 4 = .ok (.istore_n 1, 1) := dz_60 (n := 0) (r := 4) hz_X1_takeSite_0 rfl
theorem dX1_takeSite_5 : decode cX1_takeSite 5 = .ok (.iload_n 1, 1) := dz_27 (n := 0) (r := 5) hz_X1_takeSite_0 rfl
theorem dX1_takeSite_6 : decode cX1_takeSite 6 = .ok (.aload_n 0, 1) := dz_42 (n := 0) (r := 6) hz_X1_takeSite_0 rfl
theorem dX1_takeSite_7 : decode cX1_takeSite 7 = .ok (.getfield 98, 3) := dz_180 (n := 0) (r := 7) hz_X1_takeSite_0 rfl rfl
theorem dX1_takeSite_10 : decode cX1_takeSite 10 = .ok (.aload_n 0, 1) := dz_42 (n := 0) (r := 10) hz_X1_takeSite_0 rfl
theorem dX1_takeSite_11 : decode cX1_takeSite 11 = .ok (.getfield 104, 3) := dz_180 (n := 0) (r := 11) hz_X1_takeSite_0 rfl rfl
theorem dX1_takeSite_14 : decode cX1_takeSite 14 = .ok (.imul, 1) := dz_104 (n := 0) (r := 14) hz_X1_takeSite_0 rfl
theorem dX1_takeSite_15 : decode cX1_takeSite 15 = .ok (.if_icmp .lt 21, 3) := dz_161 (n := 0) (r := 15) hz_X1_takeSite_0 rfl (by decide +kernel)
theorem dX1_takeSite_18 : decode cX1_takeSite 18 = .ok (.aload_n 0, 1) := dz_42 (n := 0) (r := 18) hz_X1_takeSite_0 rfl
theorem dX1_takeSite_19 : decode cX1_takeSite 19 = .ok (.iconst 4, 1) := dz_7 (n := 0) (r := 19) hz_X1_takeSite_0 rfl
theorem dX1_takeSite_20 : decode cX1_takeSite 20 = .ok (.aload_n 0, 1) := dz_42 (n := 0) (r := 20) hz_X1_takeSite_0 rfl
theorem dX1_takeSite_21 : decode cX1_takeSite 21 = .ok (.getfield 12, 3) := dz_180 (n := 0) (r := 21) hz_X1_takeSite_0 rfl rfl
theorem dX1_takeSite_24 : decode cX1_takeSite 24 = .ok (.aload_n 0, 1) := dz_42 (n := 0) (r := 24) hz_X1_takeSite_0 rfl
theorem dX1_takeSite_25 : decode cX1_takeSite 25 = .ok (.getfield 49, 3) := dz_180 (n := 0) (r := 25) hz_X1_takeSite_0 rfl rfl
theorem dX1_takeSite_28 : decode cX1_takeSite 28 = .ok (.iconst 1, 1) := dz_4 (n := 0) (r := 28) hz_X1_takeSite_0 rfl
theorem dX1_takeSite_29 : decode cX1_takeSite 29 = .ok (.isub, 1) := dz_100 (n := 0) (r := 29) hz_X1_takeSite_0 rfl
theorem dX1_takeSite_30 : decode cX1_takeSite 30 = .ok (.invokevirtual 101, 3) := dz_182 (n := 0) (r := 30) hz_X1_takeSite_0 rfl rfl
theorem hz_X1_takeSite_32 : (cX1_takeSite.data.toList.drop 32).take 40 = [101, 182, 0, 36, 27, 172] := by decide +kernel
theorem dX1_takeSite_33 : decode cX1_takeSite 33 = .ok (.invokevirtual 36, 3) := dz_182 (n := 32) (r := 1) hz_X1_takeSite_32 rfl rfl
theorem dX1_takeSite_36 : decode cX1_takeSite 36 = .ok (.iload_n 1, 1) := dz_27 (n := 32) (r := 4) hz_X1_takeSite_32 rfl
theorem dX1_takeSite_37 : decode cX1_takeSite 37 = .ok (.ireturn, 1) := dz_172 (n := 32) (r := 5) hz_X1_takeSite_32 rfl
theorem hz_X1_takeTie_0 : (cX1_takeTie.data.toList.drop 0).take 40 = [42, 182, 0, 122, 60, 42, 182, 0, 92, 16, 7, 160, 0, 10, 16, 16, 27, 96, 167, 0, 4, 27, 61, 42, 180, 0, 46, 154, 0, 41, 42, 180, 0, 98, 42, 180, 0, 104, 42, 180] := by decide +kernel
theorem dX1_takeTie_0 : decode cX1_takeTie 0 = .ok (.aload_n 0, 1) := dz_42 (n := 0) (r := 0) hz_X1_takeTie_0 rfl
theorem dX1_takeTie_1 : decode cX1_takeTie 1 = .ok (.invokevirtual 122, 3) := dz_182 (n := 0) (r := 1) hz_X1_takeTie_0 rfl rfl
theorem dX1_takeTie_4 : decode cX1_takeTie 4 = .ok (.istore_n 1, 1) := dz_60 (n := 0) (r := 4) hz_X1_takeTie_0 rfl
theorem dX1_takeTie_5 : decode cX1_takeTie 5 = .ok (.aload_n 0, 1) := dz_42 (n := 0) (r := 5) hz_X1_takeTie_0 rfl
theorem dX1_takeTie_6 : decode cX1_takeTie 6 = .ok (.invokevirtual 92, 3) := dz_182 (n := 0) (r := 6) hz_X1_takeTie_0 rfl rfl
theorem dX1_takeTie_9 : decode cX1_takeTie 9 = .ok (.bipush 7, 2) := dz_16 (n := 0) (r := 9) hz_X1_takeTie_0 rfl rfl
theorem dX1_takeTie_11 : decode cX1_takeTie 11 = .ok (.if_icmp .ne 10, 3) := dz_160 (n := 0) (r := 11) hz_X1_takeTie_0 rfl (by decide +kernel)
theorem dX1_takeTie_14 : decode cX1_takeTie 14 = .ok (.bipush 16, 2) := dz_16 (n := 0) (r := 14) hz_X1_takeTie_0 rfl rfl
theorem dX1_takeTie_16 : decode cX1_takeTie 16 = .ok (.iload_n 1, 1) := dz_27 (n := 0) (r := 16) hz_X1_takeTie_0 rfl
theorem dX1_takeTie_17 : decode cX1_takeTie 17 = .ok (.iadd, 1) := dz_96 (n := 0) (r := 17) hz_X1_takeTie_0 rfl
theorem dX1_takeTie_18 : decode cX1_takeTie 18 = .ok (.goto 4, 3) := dz_167 (n := 0) (r := 18) hz_X1_takeTie_0 rfl (by decide +kernel)
theorem dX1_takeTie_21 : decode cX1_takeTie 21 = .ok (.iload_n 1, 1) := dz_27 (n := 0) (r := 21) hz_X1_takeTie_0 rfl
theorem dX1_takeTie_22 : decode cX1_takeTie 22 = .ok (.istore_n 2, 1) := dz_61 (n := 0) (r := 22) hz_X1_takeTie_0 rfl
theorem dX1_takeTie_23 : decode cX1_takeTie 23 = .ok (.aload_n 0, 1) := dz_42 (n := 0) (r := 23) hz_X1_takeTie_0 rfl
theorem dX1_takeTie_24 : decode cX1_takeTie 24 = .ok (.getfield 46, 3) := dz_180 (n := 0) (r := 24) hz_X1_takeTie_0 rfl rfl
theorem dX1_takeTie_27 : decode cX1_takeTie 27 = .ok (.ifCond .ne 41, 3) := dz_154 (n := 0) (r := 27) hz_X1_takeTie_0 rfl (by decide +kernel)
theorem dX1_takeTie_30 : decode cX1_takeTie 30 = .ok (.aload_n 0, 1) := dz_42 (n := 0) (r := 30) hz_X1_takeTie_0 rfl
theorem dX1_takeTie_31 : decode cX1_takeTie 31 = .ok (.getfield 98, 3) := dz_180 (n := 0) (r := 31) hz_X1_takeTie_0 rfl rfl
theorem hz_X1_takeTie_32 : (cX1_takeTie.data.toList.drop 32).take 40 = [0, 98, 42, 180, 0, 104, 42, 180, 0, 67, 28, 184, 0, 125, 2, 160, 0, 21, 42, 7, 42, 180, 0, 12, 42, 180, 0, 49, 5, 100, 182, 0, 101, 182, 0, 36, 42, 182, 0, 107] := by decide +kernel
theorem dX1_takeTie_34 : decode cX1_takeTie 34 = .ok (.aload_n 0, 1) := dz_42 (n := 32) (r := 2) hz_X1_takeTie_32 rfl
theorem dX1_takeTie_35 : decode cX1_takeTie 35 = .ok (.getfield 104, 3) := dz_180 (n := 32) (r := 3) hz_X1_takeTie_32 rfl rfl
theorem dX1_takeTie_38 : decode cX1_takeTie 38 = .ok (.aload_n 0, 1) := dz_42 (n := 32) (r := 6) hz_X1_takeTie_32 rfl
theorem dX1_takeTie_39 : decode cX1_takeTie 39 = .ok (.getfield 67, 3) := dz_180 (n := 32) (r := 7) hz_X1_takeTie_32 rfl rfl
theorem dX1_takeTie_42 : decode cX1_takeTie 42 = .ok (.iload_n 2, 1) := dz_28 (n := 32) (r := 10) hz_X1_takeTie_32 rfl
theorem dX1_takeTie_43 : decode cX1_takeTie 43 = .ok (.invokestatic 125, 3) := dz_184 (n := 32) (r := 11) hz_X1_takeTie_32 rfl rfl
theorem dX1_takeTie_46 : decode cX1_takeTie 46 = .ok (.iconst (-1), 1) := dz_2 (n := 32) (r := 14) hz_X1_takeTie_32 rfl
theorem dX1_takeTie_47 : decode cX1_takeTie 47 = .ok (.if_icmp .ne 21, 3) := dz_160 (n := 32) (r := 15) hz_X1_takeTie_32 rfl (by decide +kernel)
theorem dX1_takeTie_50 : decode cX1_takeTie 50 = .ok (.aload_n 0, 1) := dz_42 (n := 32) (r := 18) hz_X1_takeTie_32 rfl
theorem dX1_takeTie_51 : decode cX1_takeTie 51 = .ok (.iconst 4, 1) := dz_7 (n := 32) (r := 19) hz_X1_takeTie_32 rfl
theorem dX1_takeTie_52 : decode cX1_takeTie 52 = .ok (.aload_n 0, 1) := dz_42 (n := 32) (r := 20) hz_X1_takeTie_32 rfl
theorem dX1_takeTie_53 : decode cX1_takeTie 53 = .ok (.getfield 12, 3) := dz_180 (n := 32) (r := 21) hz_X1_takeTie_32 rfl rfl
theorem dX1_takeTie_56 : decode cX1_takeTie 56 = .ok (.aload_n 0, 1) := dz_42 (n := 32) (r := 24) hz_X1_takeTie_32 rfl
theorem dX1_takeTie_57 : decode cX1_takeTie 57 = .ok (.getfield 49, 3) := dz_180 (n := 32) (r := 25) hz_X1_takeTie_32 rfl rfl
theorem dX1_takeTie_60 : decode cX1_takeTie 60 = .ok (.iconst 2, 1) := dz_5 (n := 32) (r := 28) hz_X1_takeTie_32 rfl
theorem dX1_takeTie_61 : decode cX1_takeTie 61 = .ok (.isub, 1) := dz_100 (n := 32) (r := 29) hz_X1_takeTie_32 rfl
theorem dX1_takeTie_62 : decode cX1_takeTie 62 = .ok (.invokevirtual 101, 3) := dz_182 (n := 32) (r := 30) hz_X1_takeTie_32 rfl rfl
theorem hz_X1_takeTie_64 : (cX1_takeTie.data.toList.drop 64).take 40 = [101, 182, 0, 36, 42, 182, 0, 107, 62, 42, 180, 0, 46, 154, 0, 24, 42, 180, 0, 21, 28, 29, 182, 0, 131, 42, 89, 180, 0, 79, 4, 28, 120, 128, 181, 0, 79, 177] := by decide +kernel
theorem dX1_takeTie_65 : decode cX1_takeTie 65 = .ok (.invokevirtual 36, 3) := dz_182 (n := 64) (r := 1) hz_X1_takeTie_64 rfl rfl
theorem dX1_takeTie_68 : decode cX1_takeTie 68 = .ok (.aload_n 0, 1) := dz_42 (n := 64) (r := 4) hz_X1_takeTie_64 rfl
theorem dX1_takeTie_69 : decode cX1_takeTie 69 = .ok (.invokevirtual 107, 3) := dz_182 (n := 64) (r := 5) hz_X1_takeTie_64 rfl rfl
theorem dX1_takeTie_72 : decode cX1_takeTie 72 = .ok (.istore_n 3, 1) := dz_62 (n := 64) (r := 8) hz_X1_takeTie_64 rfl
theorem dX1_takeTie_73 : decode cX1_takeTie 73 = .ok (.aload_n 0, 1) := dz_42 (n := 64) (r := 9) hz_X1_takeTie_64 rfl
theorem dX1_takeTie_74 : decode cX1_takeTie 74 = .ok (.getfield 46, 3) := dz_180 (n := 64) (r := 10) hz_X1_takeTie_64 rfl rfl
theorem dX1_takeTie_77 : decode cX1_takeTie 77 = .ok (.ifCond .ne 24, 3) := dz_154 (n := 64) (r := 13) hz_X1_takeTie_64 rfl (by decide +kernel)
theorem dX1_takeTie_80 : decode cX1_takeTie 80 = .ok (.aload_n 0, 1) := dz_42 (n := 64) (r := 16) hz_X1_takeTie_64 rfl
theorem dX1_takeTie_81 : decode cX1_takeTie 81 = .ok (.getfield 21, 3) := dz_180 (n := 64) (r := 17) hz_X1_takeTie_64 rfl rfl
theorem dX1_takeTie_84 : decode cX1_takeTie 84 = .ok (.iload_n 2, 1) := dz_28 (n := 64) (r := 20) hz_X1_takeTie_64 rfl
theorem dX1_takeTie_85 : decode cX1_takeTie 85 = .ok (.iload_n 3, 1) := dz_29 (n := 64) (r := 21) hz_X1_takeTie_64 rfl
theorem dX1_takeTie_86 : decode cX1_takeTie 86 = .ok (.invokevirtual 131, 3) := dz_182 (n := 64) (r := 22) hz_X1_takeTie_64 rfl rfl
theorem dX1_takeTie_89 : decode cX1_takeTie 89 = .ok (.aload_n 0, 1) := dz_42 (n := 64) (r := 25) hz_X1_takeTie_64 rfl
theorem dX1_takeTie_90 : decode cX1_takeTie 90 = .ok (.dup, 1) := dz_89 (n := 64) (r := 26) hz_X1_takeTie_64 rfl
theorem dX1_takeTie_91 : decode cX1_takeTie 91 = .ok (.getfield 79, 3) := dz_180 (n := 64) (r := 27) hz_X1_takeTie_64 rfl rfl
theorem dX1_takeTie_94 : decode cX1_takeTie 94 = .ok (.iconst 1, 1) := dz_4 (n := 64) (r := 30) hz_X1_takeTie_64 rfl
theorem dX1_takeTie_95 : decode cX1_takeTie 95 = .ok (.iload_n 2, 1) := dz_28 (n := 64) (r := 31) hz_X1_takeTie_64 rfl
theorem hz_X1_takeTie_96 : (cX1_takeTie.data.toList.drop 96).take 40 = [120, 128, 181, 0, 79, 177] := by decide +kernel
theorem dX1_takeTie_96 : decode cX1_takeTie 96 = .ok (.ishl, 1) := dz_120 (n := 96) (r := 0) hz_X1_takeTie_96 rfl
theorem dX1_takeTie_97 : decode cX1_takeTie 97 = .ok (.ior, 1) := dz_128 (n := 96) (r := 1) hz_X1_takeTie_96 rfl
theorem dX1_takeTie_98 : decode cX1_takeTie 98 = .ok (.putfield 79, 3) := dz_181 (n := 96) (r := 2) hz_X1_takeTie_96 rfl rfl
theorem dX1_takeTie_101 : decode cX1_takeTie 101 = .ok (.return_, 1) := dz_177 (n := 96) (r := 5) hz_X1_takeTie_96 rfl
theorem hz_X1_takePull_0 : (cX1_takePull.data.toList.drop 0).take 40 = [42, 182, 0, 122, 60, 42, 182, 0, 107, 61, 42, 180, 0, 46, 154, 0, 24, 42, 180, 0, 21, 27, 28, 182, 0, 134, 42, 89, 180, 0, 82, 4, 27, 120, 128, 181, 0, 82, 177] := by decide +kernel
theorem dX1_takePull_0 : decode cX1_takePull 0 = .ok (.aload_n 0, 1) := dz_42 (n := 0) (r := 0) hz_X1_takePull_0 rfl
theorem dX1_takePull_1 : decode cX1_takePull 1 = .ok (.invokevirtual 122, 3) := dz_182 (n := 0) (r := 1) hz_X1_takePull_0 rfl rfl
theorem dX1_takePull_4 : decode cX1_takePull 4 = .ok (.istore_n 1, 1) := dz_60 (n := 0) (r := 4) hz_X1_takePull_0 rfl
theorem dX1_takePull_5 : decode cX1_takePull 5 = .ok (.aload_n 0, 1) := dz_42 (n := 0) (r := 5) hz_X1_takePull_0 rfl
theorem dX1_takePull_6 : decode cX1_takePull 6 = .ok (.invokevirtual 107, 3) := dz_182 (n := 0) (r := 6) hz_X1_takePull_0 rfl rfl
theorem dX1_takePull_9 : decode cX1_takePull 9 = .ok (.istore_n 2, 1) := dz_61 (n := 0) (r := 9) hz_X1_takePull_0 rfl
theorem dX1_takePull_10 : decode cX1_takePull 10 = .ok (.aload_n 0, 1) := dz_42 (n := 0) (r := 10) hz_X1_takePull_0 rfl
theorem dX1_takePull_11 : decode cX1_takePull 11 = .ok (.getfield 46, 3) := dz_180 (n := 0) (r := 11) hz_X1_takePull_0 rfl rfl
theorem dX1_takePull_14 : decode cX1_takePull 14 = .ok (.ifCond .ne 24, 3) := dz_154 (n := 0) (r := 14) hz_X1_takePull_0 rfl (by decide +kernel)
theorem dX1_takePull_17 : decode cX1_takePull 17 = .ok (.aload_n 0, 1) := dz_42 (n := 0) (r := 17) hz_X1_takePull_0 rfl
theorem dX1_takePull_18 : decode cX1_takePull 18 = .ok (.getfield 21, 3) := dz_180 (n := 0) (r := 18) hz_X1_takePull_0 rfl rfl
theorem dX1_takePull_21 : decode cX1_takePull 21 = .ok (.iload_n 1, 1) := dz_27 (n := 0) (r := 21) hz_X1_takePull_0 rfl
theorem dX1_takePull_22 : decode cX1_takePull 22 = .ok (.iload_n 2, 1) := dz_28 (n := 0) (r := 22) hz_X1_takePull_0 rfl
theorem dX1_takePull_23 : decode cX1_takePull 23 = .ok (.invokevirtual 134, 3) := dz_182 (n := 0) (r := 23) hz_X1_takePull_0 rfl rfl
theorem dX1_takePull_26 : decode cX1_takePull 26 = .ok (.aload_n 0, 1) := dz_42 (n := 0) (r := 26) hz_X1_takePull_0 rfl
theorem dX1_takePull_27 : decode cX1_takePull 27 = .ok (.dup, 1) := dz_89 (n := 0) (r := 27) hz_X1_takePull_0 rfl
theorem dX1_takePull_28 : decode cX1_takePull 28 = .ok (.getfield 82, 3) := dz_180 (n := 0) (r := 28) hz_X1_takePull_0 rfl rfl
theorem dX1_takePull_31 : decode cX1_takePull 31 = .ok (.iconst 1, 1) := dz_4 (n := 0) (r := 31) hz_X1_takePull_0 rfl
theorem hz_X1_takePull_32 : (cX1_takePull.data.toList.drop 32).take 40 = [27, 120, 128, 181, 0, 82, 177] := by decide +kernel
theorem dX1_takePull_32 : decode cX1_takePull 32 = .ok (.iload_n 1, 1) := dz_27 (n := 32) (r := 0) hz_X1_takePull_32 rfl
theorem dX1_takePull_33 : decode cX1_takePull 33 = .ok (.ishl, 1) := dz_120 (n := 32) (r := 1) hz_X1_takePull_32 rfl
theorem dX1_takePull_34 : decode cX1_takePull 34 = .ok (.ior, 1) := dz_128 (n := 32) (r := 2) hz_X1_takePull_32 rfl
theorem dX1_takePull_35 : decode cX1_takePull 35 = .ok (.putfield 82, 3) := dz_181 (n := 32) (r := 3) hz_X1_takePull_32 rfl rfl
theorem dX1_takePull_38 : decode cX1_takePull 38 = .ok (.return_, 1) := dz_177 (n := 32) (r := 6) hz_X1_takePull_32 rfl
theorem hz_X1_takePin_0 : (cX1_takePin.data.toList.drop 0).take 40 = [42, 182, 0, 122, 60, 42, 182, 0, 92, 16, 13, 160, 0, 7, 4, 167, 0, 4, 5, 61, 42, 180, 0, 46, 154, 0, 12, 42, 180, 0, 21, 27, 28, 182, 0, 137, 177] := by decide +kernel
theorem dX1_takePin_0 : decode cX1_takePin 0 = .ok (.aload_n 0, 1) := dz_42 (n := 0) (r := 0) hz_X1_takePin_0 rfl
theorem dX1_takePin_1 : decode cX1_takePin 1 = .ok (.invokevirtual 122, 3) := dz_182 (n := 0) (r := 1) hz_X1_takePin_0 rfl rfl
theorem dX1_takePin_4 : decode cX1_takePin 4 = .ok (.istore_n 1, 1) := dz_60 (n := 0) (r := 4) hz_X1_takePin_0 rfl
theorem dX1_takePin_5 : decode cX1_takePin 5 = .ok (.aload_n 0, 1) := dz_42 (n := 0) (r := 5) hz_X1_takePin_0 rfl
theorem dX1_takePin_6 : decode cX1_takePin 6 = .ok (.invokevirtual 92, 3) := dz_182 (n := 0) (r := 6) hz_X1_takePin_0 rfl rfl
theorem dX1_takePin_9 : decode cX1_takePin 9 = .ok (.bipush 13, 2) := dz_16 (n := 0) (r := 9) hz_X1_takePin_0 rfl rfl
theorem dX1_takePin_11 : decode cX1_takePin 11 = .ok (.if_icmp .ne 7, 3) := dz_160 (n := 0) (r := 11) hz_X1_takePin_0 rfl (by decide +kernel)
theorem dX1_takePin_14 : decode cX1_takePin 14 = .ok (.iconst 1, 1) := dz_4 (n := 0) (r := 14) hz_X1_takePin_0 rfl
theorem dX1_takePin_15 : decode cX1_takePin 15 = .ok (.goto 4, 3) := dz_167 (n := 0) (r := 15) hz_X1_takePin_0 rfl (by decide +kernel)
theorem dX1_takePin_18 : decode cX1_takePin 18 = .ok (.iconst 2, 1) := dz_5 (n := 0) (r := 18) hz_X1_takePin_0 rfl
theorem dX1_takePin_19 : decode cX1_takePin 19 = .ok (.istore_n 2, 1) := dz_61 (n := 0) (r := 19) hz_X1_takePin_0 rfl
theorem dX1_takePin_20 : decode cX1_takePin 20 = .ok (.aload_n 0, 1) := dz_42 (n := 0) (r := 20) hz_X1_takePin_0 rfl
theorem dX1_takePin_21 : decode cX1_takePin 21 = .ok (.getfield 46, 3) := dz_180 (n := 0) (r := 21) hz_X1_takePin_0 rfl rfl
theorem dX1_takePin_24 : decode cX1_takePin 24 = .ok (.ifCond .ne 12, 3) := dz_154 (n := 0) (r := 24) hz_X1_takePin_0 rfl (by decide +kernel)
theorem dX1_takePin_27 : decode cX1_takePin 27 = .ok (.aload_n 0, 1) := dz_42 (n := 0) (r := 27) hz_X1_takePin_0 rfl
theorem dX1_takePin_28 : decode cX1_takePin 28 = .ok (.getfield 21, 3) := dz_180 (n := 0) (r := 28) hz_X1_takePin_0 rfl rfl
theorem dX1_takePin_31 : decode cX1_takePin 31 = .ok (.iload_n 1, 1) := dz_27 (n := 0) (r := 31) hz_X1_takePin_0 rfl
theorem hz_X1_takePin_32 : (cX1_takePin.data.toList.drop 32).take 40 = [28, 182, 0, 137, 177] := by decide +kernel
theorem dX1_takePin_32 : decode cX1_takePin 32 = .ok (.iload_n 2, 1) := dz_28 (n := 32) (r := 0) hz_X1_takePin_32 rfl
theorem dX1_takePin_33 : decode cX1_takePin 33 = .ok (.invokevirtual 137, 3) := dz_182 (n := 32) (r := 1) hz_X1_takePin_32 rfl rfl
theorem dX1_takePin_36 : decode cX1_takePin 36 = .ok (.return_, 1) := dz_177 (n := 32) (r := 4) hz_X1_takePin_32 rfl
theorem hz_X1_giveUntold_0 : (cX1_giveUntold.data.toList.drop 0).take 40 = [3, 60, 42, 180, 0, 46, 154, 0, 71, 27, 16, 32, 162, 0, 65, 42, 180, 0, 79, 27, 184, 0, 140, 154, 0, 48, 42, 180, 0, 98, 42, 180, 0, 104, 42, 180, 0, 67, 27, 184] := by decide +kernel
theorem dX1_giveUntold_0 : decode cX1_giveUntold 0 = .ok (.iconst 0, 1) := dz_3 (n := 0) (r := 0) hz_X1_giveUntold_0 rfl
theorem dX1_giveUntold_1 : decode cX1_giveUntold 1 = .ok (.istore_n 1, 1) := dz_60 (n := 0) (r := 1) hz_X1_giveUntold_0 rfl
theorem dX1_giveUntold_2 : decode cX1_giveUntold 2 = .ok (.aload_n 0, 1) := dz_42 (n := 0) (r := 2) hz_X1_giveUntold_0 rfl
theorem dX1_giveUntold_3 : decode cX1_giveUntold 3 = .ok (.getfield 46, 3) := dz_180 (n := 0) (r := 3) hz_X1_giveUntold_0 rfl rfl
theorem dX1_giveUntold_6 : decode cX1_giveUntold 6 = .ok (.ifCond .ne 71, 3) := dz_154 (n := 0) (r := 6) hz_X1_giveUntold_0 rfl (by decide +kernel)
theorem dX1_giveUntold_9 : decode cX1_giveUntold 9 = .ok (.iload_n 1, 1) := dz_27 (n := 0) (r := 9) hz_X1_giveUntold_0 rfl
theorem dX1_giveUntold_10 : decode cX1_giveUntold 10 = .ok (.bipush 32, 2) := dz_16 (n := 0) (r := 10) hz_X1_giveUntold_0 rfl rfl
theorem dX1_giveUntold_12 : decode cX1_giveUntold 12 = .ok (.if_icmp .ge 65, 3) := dz_162 (n := 0) (r := 12) hz_X1_giveUntold_0 rfl (by decide +kernel)
theorem dX1_giveUntold_15 : decode cX1_giveUntold 15 = .ok (.aload_n 0, 1) := dz_42 (n := 0) (r := 15) hz_X1_giveUntold_0 rfl
theorem dX1_giveUntold_16 : decode cX1_giveUntold 16 = .ok (.getfield 79, 3) := dz_180 (n := 0) (r := 16) hz_X1_giveUntold_0 rfl rfl
theorem dX1_giveUntold_19 : decode cX1_giveUntold 19 = .ok (.iload_n 1, 1) := dz_27 (n := 0) (r := 19) hz_X1_giveUntold_0 rfl
theorem dX1_giveUntold_20 : decode cX1_giveUntold 20 = .ok (.invokestatic 140, 3) := dz_184 (n := 0) (r := 20) hz_X1_giveUntold_0 rfl rfl
theorem dX1_giveUntold_23 : decode cX1_giveUntold 23 = .ok (.ifCond .ne 48, 3) := dz_154 (n := 0) (r := 23) hz_X1_giveUntold_0 rfl (by decide +kernel)
theorem dX1_giveUntold_26 : decode cX1_giveUntold 26 = .ok (.aload_n 0, 1) := dz_42 (n := 0) (r := 26) hz_X1_giveUntold_0 rfl
theorem dX1_giveUntold_27 : decode cX1_giveUntold 27 = .ok (.getfield 98, 3) := dz_180 (n := 0) (r := 27) hz_X1_giveUntold_0 rfl rfl
theorem dX1_giveUntold_30 : decode cX1_giveUntold 30 = .ok (.aload_n 0, 1) := dz_42 (n := 0) (r := 30) hz_X1_giveUntold_0 rfl
theorem dX1_giveUntold_31 : decode cX1_giveUntold 31 = .ok (.getfield 104, 3) := dz_180 (n := 0) (r := 31) hz_X1_giveUntold_0 rfl rfl
theorem hz_X1_giveUntold_32 : (cX1_giveUntold.data.toList.drop 32).take 40 = [0, 104, 42, 180, 0, 67, 27, 184, 0, 125, 2, 159, 0, 28, 42, 180, 0, 21, 27, 27, 16, 16, 162, 0, 10, 42, 180, 0, 70, 167, 0, 7, 42, 180, 0, 73, 182, 0, 131, 132] := by decide +kernel
theorem dX1_giveUntold_34 : decode cX1_giveUntold 34 = .ok (.aload_n 0, 1) := dz_42 (n := 32) (r := 2) hz_X1_giveUntold_32 rfl
theorem dX1_giveUntold_35 : decode cX1_giveUntold 35 = .ok (.getfield 67, 3) := dz_180 (n := 32) (r := 3) hz_X1_giveUntold_32 rfl rfl
theorem dX1_giveUntold_38 : decode cX1_giveUntold 38 = .ok (.iload_n 1, 1) := dz_27 (n := 32) (r := 6) hz_X1_giveUntold_32 rfl
theorem dX1_giveUntold_39 : decode cX1_giveUntold 39 = .ok (.invokestatic 125, 3) := dz_184 (n := 32) (r := 7) hz_X1_giveUntold_32 rfl rfl
theorem dX1_giveUntold_42 : decode cX1_giveUntold 42 = .ok (.iconst (-1), 1) := dz_2 (n := 32) (r := 10) hz_X1_giveUntold_32 rfl
theorem dX1_giveUntold_43 : decode cX1_giveUntold 43 = .ok (.if_icmp .eq 28, 3) := dz_159 (n := 32) (r := 11) hz_X1_giveUntold_32 rfl (by decide +kernel)
theorem dX1_giveUntold_46 : decode cX1_giveUntold 46 = .ok (.aload_n 0, 1) := dz_42 (n := 32) (r := 14) hz_X1_giveUntold_32 rfl
theorem dX1_giveUntold_47 : decode cX1_giveUntold 47 = .ok (.getfield 21, 3) := dz_180 (n := 32) (r := 15) hz_X1_giveUntold_32 rfl rfl
theorem dX1_giveUntold_50 : decode cX1_giveUntold 50 = .ok (.iload_n 1, 1) := dz_27 (n := 32) (r := 18) hz_X1_giveUntold_32 rfl
theorem dX1_giveUntold_51 : decode cX1_giveUntold 51 = .ok (.iload_n 1, 1) := dz_27 (n := 32) (r := 19) hz_X1_giveUntold_32 rfl
theorem dX1_giveUntold_52 : decode cX1_giveUntold 52 = .ok (.bipush 16, 2) := dz_16 (n := 32) (r := 20) hz_X1_giveUntold_32 rfl rfl
theorem dX1_giveUntold_54 : decode cX1_giveUntold 54 = .ok (.if_icmp .ge 10, 3) := dz_162 (n := 32) (r := 22) hz_X1_giveUntold_32 rfl (by decide +kernel)
theorem dX1_giveUntold_57 : decode cX1_giveUntold 57 = .ok (.aload_n 0, 1) := dz_42 (n := 32) (r := 25) hz_X1_giveUntold_32 rfl
theorem dX1_giveUntold_58 : decode cX1_giveUntold 58 = .ok (.getfield 70, 3) := dz_180 (n := 32) (r := 26) hz_X1_giveUntold_32 rfl rfl
theorem dX1_giveUntold_61 : decode cX1_giveUntold 61 = .ok (.goto 7, 3) := dz_167 (n := 32) (r := 29) hz_X1_giveUntold_32 rfl (by decide +kernel)
theorem hz_X1_giveUntold_64 : (cX1_giveUntold.data.toList.drop 64).take 40 = [42, 180, 0, 73, 182, 0, 131, 132, 1, 1, 167, 255, 184, 3, 60, 42, 180, 0, 46, 154, 0, 45, 27, 42, 180, 0, 98, 42, 180, 0, 104, 104, 162, 0, 32, 42, 180, 0, 82, 27] := by decide +kernel
theorem dX1_giveUntold_64 : decode cX1_giveUntold 64 = .ok (.aload_n 0, 1) := dz_42 (n := 64) (r := 0) hz_X1_giveUntold_64 rfl
theorem dX1_giveUntold_65 : decode cX1_giveUntold 65 = .ok (.getfield 73, 3) := dz_180 (n := 64) (r := 1) hz_X1_giveUntold_64 rfl rfl
theorem dX1_giveUntold_68 : decode cX1_giveUntold 68 = .ok (.invokevirtual 131, 3) := dz_182 (n := 64) (r := 4) hz_X1_giveUntold_64 rfl rfl
theorem dX1_giveUntold_71 : decode cX1_giveUntold 71 = .ok (.iinc 1 1, 3) := dz_132 (n := 64) (r := 7) hz_X1_giveUntold_64 rfl rfl rfl
theorem dX1_giveUntold_74 : decode cX1_giveUntold 74 = .ok (.goto (-72), 3) := dz_167 (n := 64) (r := 10) hz_X1_giveUntold_64 rfl (by decide +kernel)
theorem dX1_giveUntold_77 : decode cX1_giveUntold 77 = .ok (.iconst 0, 1) := dz_3 (n := 64) (r := 13) hz_X1_giveUntold_64 rfl
theorem dX1_giveUntold_78 : decode cX1_giveUntold 78 = .ok (.istore_n 1, 1) := dz_60 (n := 64) (r := 14) hz_X1_giveUntold_64 rfl
theorem dX1_giveUntold_79 : decode cX1_giveUntold 79 = .ok (.aload_n 0, 1) := dz_42 (n := 64) (r := 15) hz_X1_giveUntold_64 rfl
theorem dX1_giveUntold_80 : decode cX1_giveUntold 80 = .ok (.getfield 46, 3) := dz_180 (n := 64) (r := 16) hz_X1_giveUntold_64 rfl rfl
theorem dX1_giveUntold_83 : decode cX1_giveUntold 83 = .ok (.ifCond .ne 45, 3) := dz_154 (n := 64) (r := 19) hz_X1_giveUntold_64 rfl (by decide +kernel)
theorem dX1_giveUntold_86 : decode cX1_giveUntold 86 = .ok (.iload_n 1, 1) := dz_27 (n := 64) (r := 22) hz_X1_giveUntold_64 rfl
theorem dX1_giveUntold_87 : decode cX1_giveUntold 87 = .ok (.aload_n 0, 1) := dz_42 (n := 64) (r := 23) hz_X1_giveUntold_64 rfl
theorem dX1_giveUntold_88 : decode cX1_giveUntold 88 = .ok (.getfield 98, 3) := dz_180 (n := 64) (r := 24) hz_X1_giveUntold_64 rfl rfl
theorem dX1_giveUntold_91 : decode cX1_giveUntold 91 = .ok (.aload_n 0, 1) := dz_42 (n := 64) (r := 27) hz_X1_giveUntold_64 rfl
theorem dX1_giveUntold_92 : decode cX1_giveUntold 92 = .ok (.getfield 104, 3) := dz_180 (n := 64) (r := 28) hz_X1_giveUntold_64 rfl rfl
theorem dX1_giveUntold_95 : decode cX1_giveUntold 95 = .ok (.imul, 1) := dz_104 (n := 64) (r := 31) hz_X1_giveUntold_64 rfl
theorem hz_X1_giveUntold_96 : (cX1_giveUntold.data.toList.drop 96).take 40 = [162, 0, 32, 42, 180, 0, 82, 27, 184, 0, 140, 154, 0, 15, 42, 180, 0, 21, 27, 42, 180, 0, 76, 182, 0, 134, 132, 1, 1, 167, 255, 210, 177] := by decide +kernel
theorem dX1_giveUntold_96 : decode cX1_giveUntold 96 = .ok (.if_icmp .ge 32, 3) := dz_162 (n := 96) (r := 0) hz_X1_giveUntold_96 rfl (by decide +kernel)
theorem dX1_giveUntold_99 : decode cX1_giveUntold 99 = .ok (.aload_n 0, 1) := dz_42 (n := 96) (r := 3) hz_X1_giveUntold_96 rfl
theorem dX1_giveUntold_100 : decode cX1_giveUntold 100 = .ok (.getfield 82, 3) := dz_180 (n := 96) (r := 4) hz_X1_giveUntold_96 rfl rfl
theorem dX1_giveUntold_103 : decode cX1_giveUntold 103 = .ok (.iload_n 1, 1) := dz_27 (n := 96) (r := 7) hz_X1_giveUntold_96 rfl
theorem dX1_giveUntold_104 : decode cX1_giveUntold 104 = .ok (.invokestatic 140, 3) := dz_184 (n := 96) (r := 8) hz_X1_giveUntold_96 rfl rfl
theorem dX1_giveUntold_107 : decode cX1_giveUntold 107 = .ok (.ifCond .ne 15, 3) := dz_154 (n := 96) (r := 11) hz_X1_giveUntold_96 rfl (by decide +kernel)
theorem dX1_giveUntold_110 : decode cX1_giveUntold 110 = .ok (.aload_n 0, 1) := dz_42 (n := 96) (r := 14) hz_X1_giveUntold_96 rfl
theorem dX1_giveUntold_111 : decode cX1_giveUntold 111 = .ok (.getfield 21, 3) := dz_180 (n := 96) (r := 15) hz_X1_giveUntold_96 rfl rfl
theorem dX1_giveUntold_114 : decode cX1_giveUntold 114 = .ok (.iload_n 1, 1) := dz_27 (n := 96) (r := 18) hz_X1_giveUntold_96 rfl
theorem dX1_giveUntold_115 : decode cX1_giveUntold 115 = .ok (.aload_n 0, 1) := dz_42 (n := 96) (r := 19) hz_X1_giveUntold_96 rfl
theorem dX1_giveUntold_116 : decode cX1_giveUntold 116 = .ok (.getfield 76, 3) := dz_180 (n := 96) (r := 20) hz_X1_giveUntold_96 rfl rfl
theorem dX1_giveUntold_119 : decode cX1_giveUntold 119 = .ok (.invokevirtual 134, 3) := dz_182 (n := 96) (r := 23) hz_X1_giveUntold_96 rfl rfl
theorem dX1_giveUntold_122 : decode cX1_giveUntold 122 = .ok (.iinc 1 1, 3) := dz_132 (n := 96) (r := 26) hz_X1_giveUntold_96 rfl rfl rfl
theorem dX1_giveUntold_125 : decode cX1_giveUntold 125 = .ok (.goto (-46), 3) := dz_167 (n := 96) (r := 29) hz_X1_giveUntold_96 rfl (by decide +kernel)
theorem hz_X1_giveUntold_128 : (cX1_giveUntold.data.toList.drop 128).take 40 = [177] := by decide +kernel
theorem dX1_giveUntold_128 : decode cX1_giveUntold 128 = .ok (.return_, 1) := dz_177 (n := 128) (r := 0) hz_X1_giveUntold_128 rfl
theorem hz_X2_init_0 : (cX2_init.data.toList.drop 0).take 40 = [42, 183, 0, 3, 42, 7, 188, 10, 181, 0, 9, 42, 7, 188, 10, 181, 0, 15, 42, 4, 188, 10, 181, 0, 18, 42, 2, 181, 0, 21, 177] := by decide +kernel
theorem dX2_init_0 : decode cX2_init 0 = .ok (.aload_n 0, 1) := dz_42 (n := 0) (r := 0) hz_X2_init_0 rfl
theorem dX2_init_1 : decode cX2_init 1 = .ok (.invokespecial 3, 3) := dz_183 (n := 0) (r := 1) hz_X2_init_0 rfl rfl
theorem dX2_init_4 : decode cX2_init 4 = .ok (.aload_n 0, 1) := dz_42 (n := 0) (r := 4) hz_X2_init_0 rfl
theorem dX2_init_5 : decode cX2_init 5 = .ok (.iconst 4, 1) := dz_7 (n := 0) (r := 5) hz_X2_init_0 rfl
theorem dX2_init_6 : decode cX2_init 6 = .ok (.newarray .int, 2) := dz_188_10 (n := 0) (r := 6) hz_X2_init_0 rfl
theorem dX2_init_8 : decode cX2_init 8 = .ok (.putfield 9, 3) := dz_181 (n := 0) (r := 8) hz_X2_init_0 rfl rfl
theorem dX2_init_11 : decode cX2_init 11 = .ok (.aload_n 0, 1) := dz_42 (n := 0) (r := 11) hz_X2_init_0 rfl
theorem dX2_init_12 : decode cX2_init 12 = .ok (.iconst 4, 1) := dz_7 (n := 0) (r := 12) hz_X2_init_0 rfl
theorem dX2_init_13 : decode cX2_init 13 = .ok (.newarray .int, 2) := dz_188_10 (n := 0) (r := 13) hz_X2_init_0 rfl
theorem dX2_init_15 : decode cX2_init 15 = .ok (.putfield 15, 3) := dz_181 (n := 0) (r := 15) hz_X2_init_0 rfl rfl
theorem dX2_init_18 : decode cX2_init 18 = .ok (.aload_n 0, 1) := dz_42 (n := 0) (r := 18) hz_X2_init_0 rfl
theorem dX2_init_19 : decode cX2_init 19 = .ok (.iconst 1, 1) := dz_4 (n := 0) (r := 19) hz_X2_init_0 rfl
theorem dX2_init_20 : decode cX2_init 20 = .ok (.newarray .int, 2) := dz_188_10 (n := 0) (r := 20) hz_X2_init_0 rfl
theorem dX2_init_22 : decode cX2_init 22 = .ok (.putfield 18, 3) := dz_181 (n := 0) (r := 22) hz_X2_init_0 rfl rfl
theorem dX2_init_25 : decode cX2_init 25 = .ok (.aload_n 0, 1) := dz_42 (n := 0) (r := 25) hz_X2_init_0 rfl
theorem dX2_init_26 : decode cX2_init 26 = .ok (.iconst (-1), 1) := dz_2 (n := 0) (r := 26) hz_X2_init_0 rfl
theorem dX2_init_27 : decode cX2_init 27 = .ok (.putfield 21, 3) := dz_181 (n := 0) (r := 27) hz_X2_init_0 rfl rfl
theorem dX2_init_30 : decode cX2_init 30 = .ok (.return_, 1) := dz_177 (n := 0) (r := 30) hz_X2_init_0 rfl
theorem hz_X2_of_0 : (cX2_of.data.toList.drop 0).take 40 = [27, 155, 0, 21, 27, 42, 180, 0, 18, 190, 162, 0, 12, 42, 180, 0, 18, 27, 46, 167, 0, 4, 3, 172] := by decide +kernel
theorem dX2_of_0 : decode cX2_of 0 = .ok (.iload_n 1, 1) := dz_27 (n := 0) (r := 0) hz_X2_of_0 rfl
theorem dX2_of_1 : decode cX2_of 1 = .ok (.ifCond .lt 21, 3) := dz_155 (n := 0) (r := 1) hz_X2_of_0 rfl (by decide +kernel)
theorem dX2_of_4 : decode cX2_of 4 = .ok (.iload_n 1, 1) := dz_27 (n := 0) (r := 4) hz_X2_of_0 rfl
theorem dX2_of_5 : decode cX2_of 5 = .ok (.aload_n 0, 1) := dz_42 (n := 0) (r := 5) hz_X2_of_0 rfl
theorem dX2_of_6 : decode cX2_of 6 = .ok (.getfield 18, 3) := dz_180 (n := 0) (r := 6) hz_X2_of_0 rfl rfl
theorem dX2_of_9 : decode cX2_of 9 = .ok (.arraylength, 1) := dz_190 (n := 0) (r := 9) hz_X2_of_0 rfl
theorem dX2_of_10 : decode cX2_of 10 = .ok (.if_icmp .ge 12, 3) := dz_162 (n := 0) (r := 10) hz_X2_of_0 rfl (by decide +kernel)
theorem dX2_of_13 : decode cX2_of 13 = .ok (.aload_n 0, 1) := dz_42 (n := 0) (r := 13) hz_X2_of_0 rfl
theorem dX2_of_14 : decode cX2_of 14 = .ok (.getfield 18, 3) := dz_180 (n := 0) (r := 14) hz_X2_of_0 rfl rfl
theorem dX2_of_17 : decode cX2_of 17 = .ok (.iload_n 1, 1) := dz_27 (n := 0) (r := 17) hz_X2_of_0 rfl
theorem dX2_of_18 : decode cX2_of 18 = .ok (.iaload, 1) := dz_46 (n := 0) (r := 18) hz_X2_of_0 rfl
theorem dX2_of_19 : decode cX2_of 19 = .ok (.goto 4, 3) := dz_167 (n := 0) (r := 19) hz_X2_of_0 rfl (by decide +kernel)
theorem dX2_of_22 : decode cX2_of 22 = .ok (.iconst 0, 1) := dz_3 (n := 0) (r := 22) hz_X2_of_0 rfl
theorem dX2_of_23 : decode cX2_of 23 = .ok (.ireturn, 1) := dz_172 (n := 0) (r := 23) hz_X2_of_0 rfl
theorem hz_X2_hasNoneLower_0 : (cX2_hasNoneLower.data.toList.drop 0).take 40 = [42, 27, 182, 0, 25, 54, 4, 4, 54, 5, 21, 5, 29, 162, 0, 55, 27, 21, 5, 130, 54, 6, 28, 21, 5, 126, 154, 0, 32, 21, 6, 155, 0, 27, 21, 6, 42, 180, 0, 18] := by decide +kernel
theorem dX2_hasNoneLower_0 : decode cX2_hasNoneLower 0 = .ok (.aload_n 0, 1) := dz_42 (n := 0) (r := 0) hz_X2_hasNoneLower_0 rfl
theorem dX2_hasNoneLower_1 : decode cX2_hasNoneLower 1 = .ok (.iload_n 1, 1) := dz_27 (n := 0) (r := 1) hz_X2_hasNoneLower_0 rfl
theorem dX2_hasNoneLower_2 : decode cX2_hasNoneLower 2 = .ok (.invokevirtual 25, 3) := dz_182 (n := 0) (r := 2) hz_X2_hasNoneLower_0 rfl rfl
theorem dX2_hasNoneLower_5 : decode cX2_hasNoneLower 5 = .ok (.istore 4, 2) := dz_54 (n := 0) (r := 5) hz_X2_hasNoneLower_0 rfl rfl
theorem dX2_hasNoneLower_7 : decode cX2_hasNoneLower 7 = .ok (.iconst 1, 1) := dz_4 (n := 0) (r := 7) hz_X2_hasNoneLower_0 rfl
theorem dX2_hasNoneLower_8 : decode cX2_hasNoneLower 8 = .ok (.istore 5, 2) := dz_54 (n := 0) (r := 8) hz_X2_hasNoneLower_0 rfl rfl
theorem dX2_hasNoneLower_10 : decode cX2_hasNoneLower 10 = .ok (.iload 5, 2) := dz_21 (n := 0) (r := 10) hz_X2_hasNoneLower_0 rfl rfl
theorem dX2_hasNoneLower_12 : decode cX2_hasNoneLower 12 = .ok (.iload_n 3, 1) := dz_29 (n := 0) (r := 12) hz_X2_hasNoneLower_0 rfl
theorem dX2_hasNoneLower_13 : decode cX2_hasNoneLower 13 = .ok (.if_icmp .ge 55, 3) := dz_162 (n := 0) (r := 13) hz_X2_hasNoneLower_0 rfl (by decide +kernel)
theorem dX2_hasNoneLower_16 : decode cX2_hasNoneLower 16 = .ok (.iload_n 1, 1) := dz_27 (n := 0) (r := 16) hz_X2_hasNoneLower_0 rfl
theorem dX2_hasNoneLower_17 : decode cX2_hasNoneLower 17 = .ok (.iload 5, 2) := dz_21 (n := 0) (r := 17) hz_X2_hasNoneLower_0 rfl rfl
theorem dX2_hasNoneLower_19 : decode cX2_hasNoneLower 19 = .ok (.ixor, 1) := dz_130 (n := 0) (r := 19) hz_X2_hasNoneLower_0 rfl
theorem dX2_hasNoneLower_20 : decode cX2_hasNoneLower 20 = .ok (.istore 6, 2) := dz_54 (n := 0) (r := 20) hz_X2_hasNoneLower_0 rfl rfl
theorem dX2_hasNoneLower_22 : decode cX2_hasNoneLower 22 = .ok (.iload_n 2, 1) := dz_28 (n := 0) (r := 22) hz_X2_hasNoneLower_0 rfl
theorem dX2_hasNoneLower_23 : decode cX2_hasNoneLower 23 = .ok (.iload 5, 2) := dz_21 (n := 0) (r := 23) hz_X2_hasNoneLower_0 rfl rfl
theorem dX2_hasNoneLower_25 : decode cX2_hasNoneLower 25 = .ok (.iand, 1) := dz_126 (n := 0) (r := 25) hz_X2_hasNoneLower_0 rfl
theorem dX2_hasNoneLower_26 : decode cX2_hasNoneLower 26 = .ok (.ifCond .ne 32, 3) := dz_154 (n := 0) (r := 26) hz_X2_hasNoneLower_0 rfl (by decide +kernel)
theorem dX2_hasNoneLower_29 : decode cX2_hasNoneLower 29 = .ok (.iload 6, 2) := dz_21 (n := 0) (r := 29) hz_X2_hasNoneLower_0 rfl rfl
theorem dX2_hasNoneLower_31 : decode cX2_hasNoneLower 31 = .ok (.ifCond .lt 27, 3) := dz_155 (n := 0) (r := 31) hz_X2_hasNoneLower_0 rfl (by decide +kernel)
theorem hz_X2_hasNoneLower_32 : (cX2_hasNoneLower.data.toList.drop 32).take 40 = [0, 27, 21, 6, 42, 180, 0, 18, 190, 162, 0, 17, 42, 180, 0, 18, 21, 6, 46, 21, 4, 162, 0, 5, 3, 172, 21, 5, 21, 5, 96, 54, 5, 167, 255, 201, 4, 172] := by decide +kernel
theorem dX2_hasNoneLower_34 : decode cX2_hasNoneLower 34 = .ok (.iload 6, 2) := dz_21 (n := 32) (r := 2) hz_X2_hasNoneLower_32 rfl rfl
theorem dX2_hasNoneLower_36 : decode cX2_hasNoneLower 36 = .ok (.aload_n 0, 1) := dz_42 (n := 32) (r := 4) hz_X2_hasNoneLower_32 rfl
theorem dX2_hasNoneLower_37 : decode cX2_hasNoneLower 37 = .ok (.getfield 18, 3) := dz_180 (n := 32) (r := 5) hz_X2_hasNoneLower_32 rfl rfl
theorem dX2_hasNoneLower_40 : decode cX2_hasNoneLower 40 = .ok (.arraylength, 1) := dz_190 (n := 32) (r := 8) hz_X2_hasNoneLower_32 rfl
theorem dX2_hasNoneLower_41 : decode cX2_hasNoneLower 41 = .ok (.if_icmp .ge 17, 3) := dz_162 (n := 32) (r := 9) hz_X2_hasNoneLower_32 rfl (by decide +kernel)
theorem dX2_hasNoneLower_44 : decode cX2_hasNoneLower 44 = .ok (.aload_n 0, 1) := dz_42 (n := 32) (r := 12) hz_X2_hasNoneLower_32 rfl
theorem dX2_hasNoneLower_45 : decode cX2_hasNoneLower 45 = .ok (.getfield 18, 3) := dz_180 (n := 32) (r := 13) hz_X2_hasNoneLower_32 rfl rfl
theorem dX2_hasNoneLower_48 : decode cX2_hasNoneLower 48 = .ok (.iload 6, 2) := dz_21 (n := 32) (r := 16) hz_X2_hasNoneLower_32 rfl rfl
theorem dX2_hasNoneLower_50 : decode cX2_hasNoneLower 50 = .ok (.iaload, 1) := dz_46 (n := 32) (r := 18) hz_X2_hasNoneLower_32 rfl
theorem dX2_hasNoneLower_51 : decode cX2_hasNoneLower 51 = .ok (.iload 4, 2) := dz_21 (n := 32) (r := 19) hz_X2_hasNoneLower_32 rfl rfl
theorem dX2_hasNoneLower_53 : decode cX2_hasNoneLower 53 = .ok (.if_icmp .ge 5, 3) := dz_162 (n := 32) (r := 21) hz_X2_hasNoneLower_32 rfl (by decide +kernel)
theorem dX2_hasNoneLower_56 : decode cX2_hasNoneLower 56 = .ok (.iconst 0, 1) := dz_3 (n := 32) (r := 24) hz_X2_hasNoneLower_32 rfl
theorem dX2_hasNoneLower_57 : decode cX2_hasNoneLower 57 = .ok (.ireturn, 1) := dz_172 (n := 32) (r := 25) hz_X2_hasNoneLower_32 rfl
theorem dX2_hasNoneLower_58 : decode cX2_hasNoneLower 58 = .ok (.iload 5, 2) := dz_21 (n := 32) (r := 26) hz_X2_hasNoneLower_32 rfl rfl
theorem dX2_hasNoneLower_60 : decode cX2_hasNoneLower 60 = .ok (.iload 5, 2) := dz_21 (n := 32) (r := 28) hz_X2_hasNoneLower_32 rfl rfl
theorem dX2_hasNoneLower_62 : decode cX2_hasNoneLower 62 = .ok (.iadd, 1) := dz_96 (n := 32) (r := 30) hz_X2_hasNoneLower_32 rfl
theorem dX2_hasNoneLower_63 : decode cX2_hasNoneLower 63 = .ok (.istore 5, 2) := dz_54 (n := 32) (r := 31) hz_X2_hasNoneLower_32 rfl rfl
theorem hz_X2_hasNoneLower_64 : (cX2_hasNoneLower.data.toList.drop 64).take 40 = [5, 167, 255, 201, 4, 172] := by decide +kernel
theorem dX2_hasNoneLower_65 : decode cX2_hasNoneLower 65 = .ok (.goto (-55), 3) := dz_167 (n := 64) (r := 1) hz_X2_hasNoneLower_64 rfl (by decide +kernel)
theorem dX2_hasNoneLower_68 : decode cX2_hasNoneLower 68 = .ok (.iconst 1, 1) := dz_4 (n := 64) (r := 4) hz_X2_hasNoneLower_64 rfl
theorem dX2_hasNoneLower_69 : decode cX2_hasNoneLower 69 = .ok (.ireturn, 1) := dz_172 (n := 64) (r := 5) hz_X2_hasNoneLower_64 rfl
theorem hz_X2_fill_0 : (cX2_fill.data.toList.drop 0).take 40 = [21, 4, 155, 0, 10, 21, 4, 16, 16, 164, 0, 4, 177, 42, 180, 0, 18, 190, 4, 21, 4, 120, 162, 0, 13, 42, 4, 21, 4, 120, 188, 10, 181, 0, 18, 42, 180, 0, 18, 3] := by decide +kernel
theorem dX2_fill_0 : decode cX2_fill 0 = .ok (.iload 4, 2) := dz_21 (n := 0) (r := 0) hz_X2_fill_0 rfl rfl
theorem dX2_fill_2 : decode cX2_fill 2 = .ok (.ifCond .lt 10, 3) := dz_155 (n := 0) (r := 2) hz_X2_fill_0 rfl (by decide +kernel)
theorem dX2_fill_5 : decode cX2_fill 5 = .ok (.iload 4, 2) := dz_21 (n := 0) (r := 5) hz_X2_fill_0 rfl rfl
theorem dX2_fill_7 : decode cX2_fill 7 = .ok (.bipush 16, 2) := dz_16 (n := 0) (r := 7) hz_X2_fill_0 rfl rfl
theorem dX2_fill_9 : decode cX2_fill 9 = .ok (.if_icmp .le 4, 3) := dz_164 (n := 0) (r := 9) hz_X2_fill_0 rfl (by decide +kernel)
theorem dX2_fill_12 : decode cX2_fill 12 = .ok (.return_, 1) := dz_177 (n := 0) (r := 12) hz_X2_fill_0 rfl
theorem dX2_fill_13 : decode cX2_fill 13 = .ok (.aload_n 0, 1) := dz_42 (n := 0) (r := 13) hz_X2_fill_0 rfl
theorem dX2_fill_14 : decode cX2_fill 14 = .ok (.getfield 18, 3) := dz_180 (n := 0) (r := 14) hz_X2_fill_0 rfl rfl
theorem dX2_fill_17 : decode cX2_fill 17 = .ok (.arraylength, 1) := dz_190 (n := 0) (r := 17) hz_X2_fill_0 rfl
theorem dX2_fill_18 : decode cX2_fill 18 = .ok (.iconst 1, 1) := dz_4 (n := 0) (r := 18) hz_X2_fill_0 rfl
theorem dX2_fill_19 : decode cX2_fill 19 = .ok (.iload 4, 2) := dz_21 (n := 0) (r := 19) hz_X2_fill_0 rfl rfl
theorem dX2_fill_21 : decode cX2_fill 21 = .ok (.ishl, 1) := dz_120 (n := 0) (r := 21) hz_X2_fill_0 rfl
theorem dX2_fill_22 : decode cX2_fill 22 = .ok (.if_icmp .ge 13, 3) := dz_162 (n := 0) (r := 22) hz_X2_fill_0 rfl (by decide +kernel)
theorem dX2_fill_25 : decode cX2_fill 25 = .ok (.aload_n 0, 1) := dz_42 (n := 0) (r := 25) hz_X2_fill_0 rfl
theorem dX2_fill_26 : decode cX2_fill 26 = .ok (.iconst 1, 1) := dz_4 (n := 0) (r := 26) hz_X2_fill_0 rfl
theorem dX2_fill_27 : decode cX2_fill 27 = .ok (.iload 4, 2) := dz_21 (n := 0) (r := 27) hz_X2_fill_0 rfl rfl
theorem dX2_fill_29 : decode cX2_fill 29 = .ok (.ishl, 1) := dz_120 (n := 0) (r := 29) hz_X2_fill_0 rfl
theorem dX2_fill_30 : decode cX2_fill 30 = .ok (.newarray .int, 2) := dz_188_10 (n := 0) (r := 30) hz_X2_fill_0 rfl
theorem hz_X2_fill_32 : (cX2_fill.data.toList.drop 32).take 40 = [181, 0, 18, 42, 180, 0, 18, 3, 3, 79, 3, 54, 5, 21, 5, 21, 4, 162, 0, 34, 21, 5, 45, 190, 162, 0, 27, 42, 43, 44, 21, 5, 182, 0, 29, 42, 21, 5, 45, 21] := by decide +kernel
theorem dX2_fill_32 : decode cX2_fill 32 = .ok (.putfield 18, 3) := dz_181 (n := 32) (r := 0) hz_X2_fill_32 rfl rfl
theorem dX2_fill_35 : decode cX2_fill 35 = .ok (.aload_n 0, 1) := dz_42 (n := 32) (r := 3) hz_X2_fill_32 rfl
theorem dX2_fill_36 : decode cX2_fill 36 = .ok (.getfield 18, 3) := dz_180 (n := 32) (r := 4) hz_X2_fill_32 rfl rfl
theorem dX2_fill_39 : decode cX2_fill 39 = .ok (.iconst 0, 1) := dz_3 (n := 32) (r := 7) hz_X2_fill_32 rfl
theorem dX2_fill_40 : decode cX2_fill 40 = .ok (.iconst 0, 1) := dz_3 (n := 32) (r := 8) hz_X2_fill_32 rfl
theorem dX2_fill_41 : decode cX2_fill 41 = .ok (.iastore, 1) := dz_79 (n := 32) (r := 9) hz_X2_fill_32 rfl
theorem dX2_fill_42 : decode cX2_fill 42 = .ok (.iconst 0, 1) := dz_3 (n := 32) (r := 10) hz_X2_fill_32 rfl
theorem dX2_fill_43 : decode cX2_fill 43 = .ok (.istore 5, 2) := dz_54 (n := 32) (r := 11) hz_X2_fill_32 rfl rfl
theorem dX2_fill_45 : decode cX2_fill 45 = .ok (.iload 5, 2) := dz_21 (n := 32) (r := 13) hz_X2_fill_32 rfl rfl
theorem dX2_fill_47 : decode cX2_fill 47 = .ok (.iload 4, 2) := dz_21 (n := 32) (r := 15) hz_X2_fill_32 rfl rfl
theorem dX2_fill_49 : decode cX2_fill 49 = .ok (.if_icmp .ge 34, 3) := dz_162 (n := 32) (r := 17) hz_X2_fill_32 rfl (by decide +kernel)
theorem dX2_fill_52 : decode cX2_fill 52 = .ok (.iload 5, 2) := dz_21 (n := 32) (r := 20) hz_X2_fill_32 rfl rfl
theorem dX2_fill_54 : decode cX2_fill 54 = .ok (.aload_n 3, 1) := dz_45 (n := 32) (r := 22) hz_X2_fill_32 rfl
theorem dX2_fill_55 : decode cX2_fill 55 = .ok (.arraylength, 1) := dz_190 (n := 32) (r := 23) hz_X2_fill_32 rfl
theorem dX2_fill_56 : decode cX2_fill 56 = .ok (.if_icmp .ge 27, 3) := dz_162 (n := 32) (r := 24) hz_X2_fill_32 rfl (by decide +kernel)
theorem dX2_fill_59 : decode cX2_fill 59 = .ok (.aload_n 0, 1) := dz_42 (n := 32) (r := 27) hz_X2_fill_32 rfl
theorem dX2_fill_60 : decode cX2_fill 60 = .ok (.aload_n 1, 1) := dz_43 (n := 32) (r := 28) hz_X2_fill_32 rfl
theorem dX2_fill_61 : decode cX2_fill 61 = .ok (.aload_n 2, 1) := dz_44 (n := 32) (r := 29) hz_X2_fill_32 rfl
theorem dX2_fill_62 : decode cX2_fill 62 = .ok (.iload 5, 2) := dz_21 (n := 32) (r := 30) hz_X2_fill_32 rfl rfl
theorem hz_X2_fill_64 : (cX2_fill.data.toList.drop 64).take 40 = [182, 0, 29, 42, 21, 5, 45, 21, 5, 46, 182, 0, 33, 132, 5, 1, 167, 255, 221, 177] := by decide +kernel
theorem dX2_fill_64 : decode cX2_fill 64 = .ok (.invokevirtual 29, 3) := dz_182 (n := 64) (r := 0) hz_X2_fill_64 rfl rfl
theorem dX2_fill_67 : decode cX2_fill 67 = .ok (.aload_n 0, 1) := dz_42 (n := 64) (r := 3) hz_X2_fill_64 rfl
theorem dX2_fill_68 : decode cX2_fill 68 = .ok (.iload 5, 2) := dz_21 (n := 64) (r := 4) hz_X2_fill_64 rfl rfl
theorem dX2_fill_70 : decode cX2_fill 70 = .ok (.aload_n 3, 1) := dz_45 (n := 64) (r := 6) hz_X2_fill_64 rfl
theorem dX2_fill_71 : decode cX2_fill 71 = .ok (.iload 5, 2) := dz_21 (n := 64) (r := 7) hz_X2_fill_64 rfl rfl
theorem dX2_fill_73 : decode cX2_fill 73 = .ok (.iaload, 1) := dz_46 (n := 64) (r := 9) hz_X2_fill_64 rfl
theorem dX2_fill_74 : decode cX2_fill 74 = .ok (.invokevirtual 33, 3) := dz_182 (n := 64) (r := 10) hz_X2_fill_64 rfl rfl
theorem dX2_fill_77 : decode cX2_fill 77 = .ok (.iinc 5 1, 3) := dz_132 (n := 64) (r := 13) hz_X2_fill_64 rfl rfl rfl
theorem dX2_fill_80 : decode cX2_fill 80 = .ok (.goto (-35), 3) := dz_167 (n := 64) (r := 16) hz_X2_fill_64 rfl (by decide +kernel)
theorem dX2_fill_83 : decode cX2_fill 83 = .ok (.return_, 1) := dz_177 (n := 64) (r := 19) hz_X2_fill_64 rfl
theorem hz_X2_seeLowerMates_0 : (cX2_seeLowerMates.data.toList.drop 0).take 40 = [42, 3, 181, 0, 37, 42, 29, 181, 0, 40, 3, 54, 4, 21, 4, 7, 162, 0, 118, 21, 4, 43, 180, 0, 43, 29, 46, 162, 0, 107, 43, 180, 0, 48, 7, 29, 104, 21, 4, 96] := by decide +kernel
theorem dX2_seeLowerMates_0 : decode cX2_seeLowerMates 0 = .ok (.aload_n 0, 1) := dz_42 (n := 0) (r := 0) hz_X2_seeLowerMates_0 rfl
theorem dX2_seeLowerMates_1 : decode cX2_seeLowerMates 1 = .ok (.iconst 0, 1) := dz_3 (n := 0) (r := 1) hz_X2_seeLowerMates_0 rfl
theorem dX2_seeLowerMates_2 : decode cX2_seeLowerMates 2 = .ok (.putfield 37, 3) := dz_181 (n := 0) (r := 2) hz_X2_seeLowerMates_0 rfl rfl
theorem dX2_seeLowerMates_5 : decode cX2_seeLowerMates 5 = .ok (.aload_n 0, 1) := dz_42 (n := 0) (r := 5) hz_X2_seeLowerMates_0 rfl
theorem dX2_seeLowerMates_6 : decode cX2_seeLowerMates 6 = .ok (.iload_n 3, 1) := dz_29 (n := 0) (r := 6) hz_X2_seeLowerMates_0 rfl
theorem dX2_seeLowerMates_7 : decode cX2_seeLowerMates 7 = .ok (.putfield 40, 3) := dz_181 (n := 0) (r := 7) hz_X2_seeLowerMates_0 rfl rfl
theorem dX2_seeLowerMates_10 : decode cX2_seeLowerMates 10 = .ok (.iconst 0, 1) := dz_3 (n := 0) (r := 10) hz_X2_seeLowerMates_0 rfl
theorem dX2_seeLowerMates_11 : decode cX2_seeLowerMates 11 = .ok (.istore 4, 2) := dz_54 (n := 0) (r := 11) hz_X2_seeLowerMates_0 rfl rfl
theorem dX2_seeLowerMates_13 : decode cX2_seeLowerMates 13 = .ok (.iload 4, 2) := dz_21 (n := 0) (r := 13) hz_X2_seeLowerMates_0 rfl rfl
theorem dX2_seeLowerMates_15 : decode cX2_seeLowerMates 15 = .ok (.iconst 4, 1) := dz_7 (n := 0) (r := 15) hz_X2_seeLowerMates_0 rfl
theorem dX2_seeLowerMates_16 : decode cX2_seeLowerMates 16 = .ok (.if_icmp .ge 118, 3) := dz_162 (n := 0) (r := 16) hz_X2_seeLowerMates_0 rfl (by decide +kernel)
theorem dX2_seeLowerMates_19 : decode cX2_seeLowerMates 19 = .ok (.iload 4, 2) := dz_21 (n := 0) (r := 19) hz_X2_seeLowerMates_0 rfl rfl
theorem dX2_seeLowerMates_21 : decode cX2_seeLowerMates 21 = .ok (.aload_n 1, 1) := dz_43 (n := 0) (r := 21) hz_X2_seeLowerMates_0 rfl
theorem dX2_seeLowerMates_22 : decode cX2_seeLowerMates 22 = .ok (.getfield 43, 3) := dz_180 (n := 0) (r := 22) hz_X2_seeLowerMates_0 rfl rfl
theorem dX2_seeLowerMates_25 : decode cX2_seeLowerMates 25 = .ok (.iload_n 3, 1) := dz_29 (n := 0) (r := 25) hz_X2_seeLowerMates_0 rfl
theorem dX2_seeLowerMates_26 : decode cX2_seeLowerMates 26 = .ok (.iaload, 1) := dz_46 (n := 0) (r := 26) hz_X2_seeLowerMates_0 rfl
theorem dX2_seeLowerMates_27 : decode cX2_seeLowerMates 27 = .ok (.if_icmp .ge 107, 3) := dz_162 (n := 0) (r := 27) hz_X2_seeLowerMates_0 rfl (by decide +kernel)
theorem dX2_seeLowerMates_30 : decode cX2_seeLowerMates 30 = .ok (.aload_n 1, 1) := dz_43 (n := 0) (r := 30) hz_X2_seeLowerMates_0 rfl
theorem dX2_seeLowerMates_31 : decode cX2_seeLowerMates 31 = .ok (.getfield 48, 3) := dz_180 (n := 0) (r := 31) hz_X2_seeLowerMates_0 rfl rfl
theorem hz_X2_seeLowerMates_32 : (cX2_seeLowerMates.data.toList.drop 32).take 40 = [0, 48, 7, 29, 104, 21, 4, 96, 46, 54, 5, 43, 180, 0, 51, 7, 29, 104, 21, 4, 96, 46, 54, 6, 21, 5, 29, 162, 0, 69, 21, 6, 155, 0, 64, 21, 6, 44, 190, 162] := by decide +kernel
theorem dX2_seeLowerMates_34 : decode cX2_seeLowerMates 34 = .ok (.iconst 4, 1) := dz_7 (n := 32) (r := 2) hz_X2_seeLowerMates_32 rfl
theorem dX2_seeLowerMates_35 : decode cX2_seeLowerMates 35 = .ok (.iload_n 3, 1) := dz_29 (n := 32) (r := 3) hz_X2_seeLowerMates_32 rfl
theorem dX2_seeLowerMates_36 : decode cX2_seeLowerMates 36 = .ok (.imul, 1) := dz_104 (n := 32) (r := 4) hz_X2_seeLowerMates_32 rfl
theorem dX2_seeLowerMates_37 : decode cX2_seeLowerMates 37 = .ok (.iload 4, 2) := dz_21 (n := 32) (r := 5) hz_X2_seeLowerMates_32 rfl rfl
theorem dX2_seeLowerMates_39 : decode cX2_seeLowerMates 39 = .ok (.iadd, 1) := dz_96 (n := 32) (r := 7) hz_X2_seeLowerMates_32 rfl
theorem dX2_seeLowerMates_40 : decode cX2_seeLowerMates 40 = .ok (.iaload, 1) := dz_46 (n := 32) (r := 8) hz_X2_seeLowerMates_32 rfl
theorem dX2_seeLowerMates_41 : decode cX2_seeLowerMates 41 = .ok (.istore 5, 2) := dz_54 (n := 32) (r := 9) hz_X2_seeLowerMates_32 rfl rfl
theorem dX2_seeLowerMates_43 : decode cX2_seeLowerMates 43 = .ok (.aload_n 1, 1) := dz_43 (n := 32) (r := 11) hz_X2_seeLowerMates_32 rfl
theorem dX2_seeLowerMates_44 : decode cX2_seeLowerMates 44 = .ok (.getfield 51, 3) := dz_180 (n := 32) (r := 12) hz_X2_seeLowerMates_32 rfl rfl
theorem dX2_seeLowerMates_47 : decode cX2_seeLowerMates 47 = .ok (.iconst 4, 1) := dz_7 (n := 32) (r := 15) hz_X2_seeLowerMates_32 rfl
theorem dX2_seeLowerMates_48 : decode cX2_seeLowerMates 48 = .ok (.iload_n 3, 1) := dz_29 (n := 32) (r := 16) hz_X2_seeLowerMates_32 rfl
theorem dX2_seeLowerMates_49 : decode cX2_seeLowerMates 49 = .ok (.imul, 1) := dz_104 (n := 32) (r := 17) hz_X2_seeLowerMates_32 rfl
theorem dX2_seeLowerMates_50 : decode cX2_seeLowerMates 50 = .ok (.iload 4, 2) := dz_21 (n := 32) (r := 18) hz_X2_seeLowerMates_32 rfl rfl
theorem dX2_seeLowerMates_52 : decode cX2_seeLowerMates 52 = .ok (.iadd, 1) := dz_96 (n := 32) (r := 20) hz_X2_seeLowerMates_32 rfl
theorem dX2_seeLowerMates_53 : decode cX2_seeLowerMates 53 = .ok (.iaload, 1) := dz_46 (n := 32) (r := 21) hz_X2_seeLowerMates_32 rfl
theorem dX2_seeLowerMates_54 : decode cX2_seeLowerMates 54 = .ok (.istore 6, 2) := dz_54 (n := 32) (r := 22) hz_X2_seeLowerMates_32 rfl rfl
theorem dX2_seeLowerMates_56 : decode cX2_seeLowerMates 56 = .ok (.iload 5, 2) := dz_21 (n := 32) (r := 24) hz_X2_seeLowerMates_32 rfl rfl
theorem dX2_seeLowerMates_58 : decode cX2_seeLowerMates 58 = .ok (.iload_n 3, 1) := dz_29 (n := 32) (r := 26) hz_X2_seeLowerMates_32 rfl
theorem dX2_seeLowerMates_59 : decode cX2_seeLowerMates 59 = .ok (.if_icmp .ge 69, 3) := dz_162 (n := 32) (r := 27) hz_X2_seeLowerMates_32 rfl (by decide +kernel)
theorem dX2_seeLowerMates_62 : decode cX2_seeLowerMates 62 = .ok (.iload 6, 2) := dz_21 (n := 32) (r := 30) hz_X2_seeLowerMates_32 rfl rfl
theorem hz_X2_seeLowerMates_64 : (cX2_seeLowerMates.data.toList.drop 64).take 40 = [155, 0, 64, 21, 6, 44, 190, 162, 0, 57, 44, 21, 6, 46, 153, 0, 50, 42, 180, 0, 9, 42, 180, 0, 37, 21, 5, 79, 42, 180, 0, 15, 42, 180, 0, 37, 44, 21, 6, 46] := by decide +kernel
theorem dX2_seeLowerMates_64 : decode cX2_seeLowerMates 64 = .ok (.ifCond .lt 64, 3) := dz_155 (n := 64) (r := 0) hz_X2_seeLowerMates_64 rfl (by decide +kernel)
theorem dX2_seeLowerMates_67 : decode cX2_seeLowerMates 67 = .ok (.iload 6, 2) := dz_21 (n := 64) (r := 3) hz_X2_seeLowerMates_64 rfl rfl
theorem dX2_seeLowerMates_69 : decode cX2_seeLowerMates 69 = .ok (.aload_n 2, 1) := dz_44 (n := 64) (r := 5) hz_X2_seeLowerMates_64 rfl
theorem dX2_seeLowerMates_70 : decode cX2_seeLowerMates 70 = .ok (.arraylength, 1) := dz_190 (n := 64) (r := 6) hz_X2_seeLowerMates_64 rfl
theorem dX2_seeLowerMates_71 : decode cX2_seeLowerMates 71 = .ok (.if_icmp .ge 57, 3) := dz_162 (n := 64) (r := 7) hz_X2_seeLowerMates_64 rfl (by decide +kernel)
theorem dX2_seeLowerMates_74 : decode cX2_seeLowerMates 74 = .ok (.aload_n 2, 1) := dz_44 (n := 64) (r := 10) hz_X2_seeLowerMates_64 rfl
theorem dX2_seeLowerMates_75 : decode cX2_seeLowerMates 75 = .ok (.iload 6, 2) := dz_21 (n := 64) (r := 11) hz_X2_seeLowerMates_64 rfl rfl
theorem dX2_seeLowerMates_77 : decode cX2_seeLowerMates 77 = .ok (.iaload, 1) := dz_46 (n := 64) (r := 13) hz_X2_seeLowerMates_64 rfl
theorem dX2_seeLowerMates_78 : decode cX2_seeLowerMates 78 = .ok (.ifCond .eq 50, 3) := dz_153 (n := 64) (r := 14) hz_X2_seeLowerMates_64 rfl (by decide +kernel)
theorem dX2_seeLowerMates_81 : decode cX2_seeLowerMates 81 = .ok (.aload_n 0, 1) := dz_42 (n := 64) (r := 17) hz_X2_seeLowerMates_64 rfl
theorem dX2_seeLowerMates_82 : decode cX2_seeLowerMates 82 = .ok (.getfield 9, 3) := dz_180 (n := 64) (r := 18) hz_X2_seeLowerMates_64 rfl rfl
theorem dX2_seeLowerMates_85 : decode cX2_seeLowerMates 85 = .ok (.aload_n 0, 1) := dz_42 (n := 64) (r := 21) hz_X2_seeLowerMates_64 rfl
theorem dX2_seeLowerMates_86 : decode cX2_seeLowerMates 86 = .ok (.getfield 37, 3) := dz_180 (n := 64) (r := 22) hz_X2_seeLowerMates_64 rfl rfl
theorem dX2_seeLowerMates_89 : decode cX2_seeLowerMates 89 = .ok (.iload 5, 2) := dz_21 (n := 64) (r := 25) hz_X2_seeLowerMates_64 rfl rfl
theorem dX2_seeLowerMates_91 : decode cX2_seeLowerMates 91 = .ok (.iastore, 1) := dz_79 (n := 64) (r := 27) hz_X2_seeLowerMates_64 rfl
theorem dX2_seeLowerMates_92 : decode cX2_seeLowerMates 92 = .ok (.aload_n 0, 1) := dz_42 (n := 64) (r := 28) hz_X2_seeLowerMates_64 rfl
theorem dX2_seeLowerMates_93 : decode cX2_seeLowerMates 93 = .ok (.getfield 15, 3) := dz_180 (n := 64) (r := 29) hz_X2_seeLowerMates_64 rfl rfl
theorem hz_X2_seeLowerMates_96 : (cX2_seeLowerMates.data.toList.drop 96).take 40 = [42, 180, 0, 37, 44, 21, 6, 46, 79, 42, 89, 180, 0, 37, 4, 96, 181, 0, 37, 42, 42, 180, 0, 40, 21, 5, 184, 0, 54, 181, 0, 40, 132, 4, 1, 167, 255, 138, 177] := by decide +kernel
theorem dX2_seeLowerMates_96 : decode cX2_seeLowerMates 96 = .ok (.aload_n 0, 1) := dz_42 (n := 96) (r := 0) hz_X2_seeLowerMates_96 rfl
theorem dX2_seeLowerMates_97 : decode cX2_seeLowerMates 97 = .ok (.getfield 37, 3) := dz_180 (n := 96) (r := 1) hz_X2_seeLowerMates_96 rfl rfl
theorem dX2_seeLowerMates_100 : decode cX2_seeLowerMates 100 = .ok (.aload_n 2, 1) := dz_44 (n := 96) (r := 4) hz_X2_seeLowerMates_96 rfl
theorem dX2_seeLowerMates_101 : decode cX2_seeLowerMates 101 = .ok (.iload 6, 2) := dz_21 (n := 96) (r := 5) hz_X2_seeLowerMates_96 rfl rfl
theorem dX2_seeLowerMates_103 : decode cX2_seeLowerMates 103 = .ok (.iaload, 1) := dz_46 (n := 96) (r := 7) hz_X2_seeLowerMates_96 rfl
theorem dX2_seeLowerMates_104 : decode cX2_seeLowerMates 104 = .ok (.iastore, 1) := dz_79 (n := 96) (r := 8) hz_X2_seeLowerMates_96 rfl
theorem dX2_seeLowerMates_105 : decode cX2_seeLowerMates 105 = .ok (.aload_n 0, 1) := dz_42 (n := 96) (r := 9) hz_X2_seeLowerMates_96 rfl
theorem dX2_seeLowerMates_106 : decode cX2_seeLowerMates 106 = .ok (.dup, 1) := dz_89 (n := 96) (r := 10) hz_X2_seeLowerMates_96 rfl
theorem dX2_seeLowerMates_107 : decode cX2_seeLowerMates 107 = .ok (.getfield 37, 3) := dz_180 (n := 96) (r := 11) hz_X2_seeLowerMates_96 rfl rfl
theorem dX2_seeLowerMates_110 : decode cX2_seeLowerMates 110 = .ok (.iconst 1, 1) := dz_4 (n := 96) (r := 14) hz_X2_seeLowerMates_96 rfl
theorem dX2_seeLowerMates_111 : decode cX2_seeLowerMates 111 = .ok (.iadd, 1) := dz_96 (n := 96) (r := 15) hz_X2_seeLowerMates_96 rfl
theorem dX2_seeLowerMates_112 : decode cX2_seeLowerMates 112 = .ok (.putfield 37, 3) := dz_181 (n := 96) (r := 16) hz_X2_seeLowerMates_96 rfl rfl
theorem dX2_seeLowerMates_115 : decode cX2_seeLowerMates 115 = .ok (.aload_n 0, 1) := dz_42 (n := 96) (r := 19) hz_X2_seeLowerMates_96 rfl
theorem dX2_seeLowerMates_116 : decode cX2_seeLowerMates 116 = .ok (.aload_n 0, 1) := dz_42 (n := 96) (r := 20) hz_X2_seeLowerMates_96 rfl
theorem dX2_seeLowerMates_117 : decode cX2_seeLowerMates 117 = .ok (.getfield 40, 3) := dz_180 (n := 96) (r := 21) hz_X2_seeLowerMates_96 rfl rfl
theorem dX2_seeLowerMates_120 : decode cX2_seeLowerMates 120 = .ok (.iload 5, 2) := dz_21 (n := 96) (r := 24) hz_X2_seeLowerMates_96 rfl rfl
theorem dX2_seeLowerMates_122 : decode cX2_seeLowerMates 122 = .ok (.invokestatic 54, 3) := dz_184 (n := 96) (r := 26) hz_X2_seeLowerMates_96 rfl rfl
theorem dX2_seeLowerMates_125 : decode cX2_seeLowerMates 125 = .ok (.putfield 40, 3) := dz_181 (n := 96) (r := 29) hz_X2_seeLowerMates_96 rfl rfl
theorem hz_X2_seeLowerMates_128 : (cX2_seeLowerMates.data.toList.drop 128).take 40 = [132, 4, 1, 167, 255, 138, 177] := by decide +kernel
theorem dX2_seeLowerMates_128 : decode cX2_seeLowerMates 128 = .ok (.iinc 4 1, 3) := dz_132 (n := 128) (r := 0) hz_X2_seeLowerMates_128 rfl rfl rfl
theorem dX2_seeLowerMates_131 : decode cX2_seeLowerMates 131 = .ok (.goto (-118), 3) := dz_167 (n := 128) (r := 3) hz_X2_seeLowerMates_128 rfl (by decide +kernel)
theorem dX2_seeLowerMates_134 : decode cX2_seeLowerMates 134 = .ok (.return_, 1) := dz_177 (n := 128) (r := 6) hz_X2_seeLowerMates_128 rfl
theorem hz_X2_addSite_0 : (cX2_addSite.data.toList.drop 0).take 40 = [4, 27, 120, 62, 4, 42, 180, 0, 40, 120, 54, 4, 3, 54, 5, 21, 5, 29, 162, 0, 86, 28, 42, 21, 5, 182, 0, 60, 96, 54, 6, 21, 5, 54, 7, 21, 7, 21, 5, 21] := by decide +kernel
theorem dX2_addSite_0 : decode cX2_addSite 0 = .ok (.iconst 1, 1) := dz_4 (n := 0) (r := 0) hz_X2_addSite_0 rfl
theorem dX2_addSite_1 : decode cX2_addSite 1 = .ok (.iload_n 1, 1) := dz_27 (n := 0) (r := 1) hz_X2_addSite_0 rfl
theorem dX2_addSite_2 : decode cX2_addSite 2 = .ok (.ishl, 1) := dz_120 (n := 0) (r := 2) hz_X2_addSite_0 rfl
theorem dX2_addSite_3 : decode cX2_addSite 3 = .ok (.istore_n 3, 1) := dz_62 (n := 0) (r := 3) hz_X2_addSite_0 rfl
theorem dX2_addSite_4 : decode cX2_addSite 4 = .ok (.iconst 1, 1) := dz_4 (n := 0) (r := 4) hz_X2_addSite_0 rfl
theorem dX2_addSite_5 : decode cX2_addSite 5 = .ok (.aload_n 0, 1) := dz_42 (n := 0) (r := 5) hz_X2_addSite_0 rfl
theorem dX2_addSite_6 : decode cX2_addSite 6 = .ok (.getfield 40, 3) := dz_180 (n := 0) (r := 6) hz_X2_addSite_0 rfl rfl
theorem dX2_addSite_9 : decode cX2_addSite 9 = .ok (.ishl, 1) := dz_120 (n := 0) (r := 9) hz_X2_addSite_0 rfl
theorem dX2_addSite_10 : decode cX2_addSite 10 = .ok (.istore 4, 2) := dz_54 (n := 0) (r := 10) hz_X2_addSite_0 rfl rfl
theorem dX2_addSite_12 : decode cX2_addSite 12 = .ok (.iconst 0, 1) := dz_3 (n := 0) (r := 12) hz_X2_addSite_0 rfl
theorem dX2_addSite_13 : decode cX2_addSite 13 = .ok (.istore 5, 2) := dz_54 (n := 0) (r := 13) hz_X2_addSite_0 rfl rfl
theorem dX2_addSite_15 : decode cX2_addSite 15 = .ok (.iload 5, 2) := dz_21 (n := 0) (r := 15) hz_X2_addSite_0 rfl rfl
theorem dX2_addSite_17 : decode cX2_addSite 17 = .ok (.iload_n 3, 1) := dz_29 (n := 0) (r := 17) hz_X2_addSite_0 rfl
theorem dX2_addSite_18 : decode cX2_addSite 18 = .ok (.if_icmp .ge 86, 3) := dz_162 (n := 0) (r := 18) hz_X2_addSite_0 rfl (by decide +kernel)
theorem dX2_addSite_21 : decode cX2_addSite 21 = .ok (.iload_n 2, 1) := dz_28 (n := 0) (r := 21) hz_X2_addSite_0 rfl
theorem dX2_addSite_22 : decode cX2_addSite 22 = .ok (.aload_n 0, 1) := dz_42 (n := 0) (r := 22) hz_X2_addSite_0 rfl
theorem dX2_addSite_23 : decode cX2_addSite 23 = .ok (.iload 5, 2) := dz_21 (n := 0) (r := 23) hz_X2_addSite_0 rfl rfl
theorem dX2_addSite_25 : decode cX2_addSite 25 = .ok (.invokevirtual 60, 3) := dz_182 (n := 0) (r := 25) hz_X2_addSite_0 rfl rfl
theorem dX2_addSite_28 : decode cX2_addSite 28 = .ok (.iadd, 1) := dz_96 (n := 0) (r := 28) hz_X2_addSite_0 rfl
theorem dX2_addSite_29 : decode cX2_addSite 29 = .ok (.istore 6, 2) := dz_54 (n := 0) (r := 29) hz_X2_addSite_0 rfl rfl
theorem dX2_addSite_31 : decode cX2_addSite 31 = .ok (.iload 5, 2) := dz_21 (n := 0) (r := 31) hz_X2_addSite_0 rfl rfl
theorem hz_X2_addSite_32 : (cX2_addSite.data.toList.drop 32).take 40 = [5, 54, 7, 21, 7, 21, 5, 21, 4, 96, 162, 0, 52, 29, 21, 7, 96, 42, 180, 0, 18, 190, 162, 0, 40, 42, 180, 0, 18, 29, 21, 7, 96, 42, 180, 0, 18, 21, 7, 46] := by decide +kernel
theorem dX2_addSite_33 : decode cX2_addSite 33 = .ok (.istore 7, 2) := dz_54 (n := 32) (r := 1) hz_X2_addSite_32 rfl rfl
theorem dX2_addSite_35 : decode cX2_addSite 35 = .ok (.iload 7, 2) := dz_21 (n := 32) (r := 3) hz_X2_addSite_32 rfl rfl
theorem dX2_addSite_37 : decode cX2_addSite 37 = .ok (.iload 5, 2) := dz_21 (n := 32) (r := 5) hz_X2_addSite_32 rfl rfl
theorem dX2_addSite_39 : decode cX2_addSite 39 = .ok (.iload 4, 2) := dz_21 (n := 32) (r := 7) hz_X2_addSite_32 rfl rfl
theorem dX2_addSite_41 : decode cX2_addSite 41 = .ok (.iadd, 1) := dz_96 (n := 32) (r := 9) hz_X2_addSite_32 rfl
theorem dX2_addSite_42 : decode cX2_addSite 42 = .ok (.if_icmp .ge 52, 3) := dz_162 (n := 32) (r := 10) hz_X2_addSite_32 rfl (by decide +kernel)
theorem dX2_addSite_45 : decode cX2_addSite 45 = .ok (.iload_n 3, 1) := dz_29 (n := 32) (r := 13) hz_X2_addSite_32 rfl
theorem dX2_addSite_46 : decode cX2_addSite 46 = .ok (.iload 7, 2) := dz_21 (n := 32) (r := 14) hz_X2_addSite_32 rfl rfl
theorem dX2_addSite_48 : decode cX2_addSite 48 = .ok (.iadd, 1) := dz_96 (n := 32) (r := 16) hz_X2_addSite_32 rfl
theorem dX2_addSite_49 : decode cX2_addSite 49 = .ok (.aload_n 0, 1) := dz_42 (n := 32) (r := 17) hz_X2_addSite_32 rfl
theorem dX2_addSite_50 : decode cX2_addSite 50 = .ok (.getfield 18, 3) := dz_180 (n := 32) (r := 18) hz_X2_addSite_32 rfl rfl
theorem dX2_addSite_53 : decode cX2_addSite 53 = .ok (.arraylength, 1) := dz_190 (n := 32) (r := 21) hz_X2_addSite_32 rfl
theorem dX2_addSite_54 : decode cX2_addSite 54 = .ok (.if_icmp .ge 40, 3) := dz_162 (n := 32) (r := 22) hz_X2_addSite_32 rfl (by decide +kernel)
theorem dX2_addSite_57 : decode cX2_addSite 57 = .ok (.aload_n 0, 1) := dz_42 (n := 32) (r := 25) hz_X2_addSite_32 rfl
theorem dX2_addSite_58 : decode cX2_addSite 58 = .ok (.getfield 18, 3) := dz_180 (n := 32) (r := 26) hz_X2_addSite_32 rfl rfl
theorem dX2_addSite_61 : decode cX2_addSite 61 = .ok (.iload_n 3, 1) := dz_29 (n := 32) (r := 29) hz_X2_addSite_32 rfl
theorem dX2_addSite_62 : decode cX2_addSite 62 = .ok (.iload 7, 2) := dz_21 (n := 32) (r := 30) hz_X2_addSite_32 rfl rfl
theorem hz_X2_addSite_64 : (cX2_addSite.data.toList.drop 64).take 40 = [96, 42, 180, 0, 18, 21, 7, 46, 21, 6, 100, 79, 42, 180, 0, 18, 21, 7, 92, 46, 21, 6, 96, 79, 132, 7, 1, 167, 255, 200, 21, 5, 21, 4, 96, 54, 5, 167, 255, 170] := by decide +kernel
theorem dX2_addSite_64 : decode cX2_addSite 64 = .ok (.iadd, 1) := dz_96 (n := 64) (r := 0) hz_X2_addSite_64 rfl
theorem dX2_addSite_65 : decode cX2_addSite 65 = .ok (.aload_n 0, 1) := dz_42 (n := 64) (r := 1) hz_X2_addSite_64 rfl
theorem dX2_addSite_66 : decode cX2_addSite 66 = .ok (.getfield 18, 3) := dz_180 (n := 64) (r := 2) hz_X2_addSite_64 rfl rfl
theorem dX2_addSite_69 : decode cX2_addSite 69 = .ok (.iload 7, 2) := dz_21 (n := 64) (r := 5) hz_X2_addSite_64 rfl rfl
theorem dX2_addSite_71 : decode cX2_addSite 71 = .ok (.iaload, 1) := dz_46 (n := 64) (r := 7) hz_X2_addSite_64 rfl
theorem dX2_addSite_72 : decode cX2_addSite 72 = .ok (.iload 6, 2) := dz_21 (n := 64) (r := 8) hz_X2_addSite_64 rfl rfl
theorem dX2_addSite_74 : decode cX2_addSite 74 = .ok (.isub, 1) := dz_100 (n := 64) (r := 10) hz_X2_addSite_64 rfl
theorem dX2_addSite_75 : decode cX2_addSite 75 = .ok (.iastore, 1) := dz_79 (n := 64) (r := 11) hz_X2_addSite_64 rfl
theorem dX2_addSite_76 : decode cX2_addSite 76 = .ok (.aload_n 0, 1) := dz_42 (n := 64) (r := 12) hz_X2_addSite_64 rfl
theorem dX2_addSite_77 : decode cX2_addSite 77 = .ok (.getfield 18, 3) := dz_180 (n := 64) (r := 13) hz_X2_addSite_64 rfl rfl
theorem dX2_addSite_80 : decode cX2_addSite 80 = .ok (.iload 7, 2) := dz_21 (n := 64) (r := 16) hz_X2_addSite_64 rfl rfl
theorem dX2_addSite_82 : decode cX2_addSite 82 = .ok (.dup2, 1) := dz_92 (n := 64) (r := 18) hz_X2_addSite_64 rfl
theorem dX2_addSite_83 : decode cX2_addSite 83 = .ok (.iaload, 1) := dz_46 (n := 64) (r := 19) hz_X2_addSite_64 rfl
theorem dX2_addSite_84 : decode cX2_addSite 84 = .ok (.iload 6, 2) := dz_21 (n := 64) (r := 20) hz_X2_addSite_64 rfl rfl
theorem dX2_addSite_86 : decode cX2_addSite 86 = .ok (.iadd, 1) := dz_96 (n := 64) (r := 22) hz_X2_addSite_64 rfl
theorem dX2_addSite_87 : decode cX2_addSite 87 = .ok (.iastore, 1) := dz_79 (n := 64) (r := 23) hz_X2_addSite_64 rfl
theorem dX2_addSite_88 : decode cX2_addSite 88 = .ok (.iinc 7 1, 3) := dz_132 (n := 64) (r := 24) hz_X2_addSite_64 rfl rfl rfl
theorem dX2_addSite_91 : decode cX2_addSite 91 = .ok (.goto (-56), 3) := dz_167 (n := 64) (r := 27) hz_X2_addSite_64 rfl (by decide +kernel)
theorem dX2_addSite_94 : decode cX2_addSite 94 = .ok (.iload 5, 2) := dz_21 (n := 64) (r := 30) hz_X2_addSite_64 rfl rfl
theorem hz_X2_addSite_96 : (cX2_addSite.data.toList.drop 96).take 40 = [21, 4, 96, 54, 5, 167, 255, 170, 177] := by decide +kernel
theorem dX2_addSite_96 : decode cX2_addSite 96 = .ok (.iload 4, 2) := dz_21 (n := 96) (r := 0) hz_X2_addSite_96 rfl rfl
theorem dX2_addSite_98 : decode cX2_addSite 98 = .ok (.iadd, 1) := dz_96 (n := 96) (r := 2) hz_X2_addSite_96 rfl
theorem dX2_addSite_99 : decode cX2_addSite 99 = .ok (.istore 5, 2) := dz_54 (n := 96) (r := 3) hz_X2_addSite_96 rfl rfl
theorem dX2_addSite_101 : decode cX2_addSite 101 = .ok (.goto (-86), 3) := dz_167 (n := 96) (r := 5) hz_X2_addSite_96 rfl (by decide +kernel)
theorem dX2_addSite_104 : decode cX2_addSite 104 = .ok (.return_, 1) := dz_177 (n := 96) (r := 8) hz_X2_addSite_96 rfl
theorem hz_X2_pulledByMates_0 : (cX2_pulledByMates.data.toList.drop 0).take 40 = [3, 61, 3, 62, 29, 42, 180, 0, 37, 162, 0, 47, 29, 7, 162, 0, 42, 28, 27, 42, 180, 0, 9, 29, 46, 122, 4, 126, 4, 160, 0, 12, 42, 180, 0, 15, 29, 46, 167, 0] := by decide +kernel
theorem dX2_pulledByMates_0 : decode cX2_pulledByMates 0 = .ok (.iconst 0, 1) := dz_3 (n := 0) (r := 0) hz_X2_pulledByMates_0 rfl
theorem dX2_pulledByMates_1 : decode cX2_pulledByMates 1 = .ok (.istore_n 2, 1) := dz_61 (n := 0) (r := 1) hz_X2_pulledByMates_0 rfl
theorem dX2_pulledByMates_2 : decode cX2_pulledByMates 2 = .ok (.iconst 0, 1) := dz_3 (n := 0) (r := 2) hz_X2_pulledByMates_0 rfl
theorem dX2_pulledByMates_3 : decode cX2_pulledByMates 3 = .ok (.istore_n 3, 1) := dz_62 (n := 0) (r := 3) hz_X2_pulledByMates_0 rfl
theorem dX2_pulledByMates_4 : decode cX2_pulledByMates 4 = .ok (.iload_n 3, 1) := dz_29 (n := 0) (r := 4) hz_X2_pulledByMates_0 rfl
theorem dX2_pulledByMates_5 : decode cX2_pulledByMates 5 = .ok (.aload_n 0, 1) := dz_42 (n := 0) (r := 5) hz_X2_pulledByMates_0 rfl
theorem dX2_pulledByMates_6 : decode cX2_pulledByMates 6 = .ok (.getfield 37, 3) := dz_180 (n := 0) (r := 6) hz_X2_pulledByMates_0 rfl rfl
theorem dX2_pulledByMates_9 : decode cX2_pulledByMates 9 = .ok (.if_icmp .ge 47, 3) := dz_162 (n := 0) (r := 9) hz_X2_pulledByMates_0 rfl (by decide +kernel)
theorem dX2_pulledByMates_12 : decode cX2_pulledByMates 12 = .ok (.iload_n 3, 1) := dz_29 (n := 0) (r := 12) hz_X2_pulledByMates_0 rfl
theorem dX2_pulledByMates_13 : decode cX2_pulledByMates 13 = .ok (.iconst 4, 1) := dz_7 (n := 0) (r := 13) hz_X2_pulledByMates_0 rfl
theorem dX2_pulledByMates_14 : decode cX2_pulledByMates 14 = .ok (.if_icmp .ge 42, 3) := dz_162 (n := 0) (r := 14) hz_X2_pulledByMates_0 rfl (by decide +kernel)
theorem dX2_pulledByMates_17 : decode cX2_pulledByMates 17 = .ok (.iload_n 2, 1) := dz_28 (n := 0) (r := 17) hz_X2_pulledByMates_0 rfl
theorem dX2_pulledByMates_18 : decode cX2_pulledByMates 18 = .ok (.iload_n 1, 1) := dz_27 (n := 0) (r := 18) hz_X2_pulledByMates_0 rfl
theorem dX2_pulledByMates_19 : decode cX2_pulledByMates 19 = .ok (.aload_n 0, 1) := dz_42 (n := 0) (r := 19) hz_X2_pulledByMates_0 rfl
theorem dX2_pulledByMates_20 : decode cX2_pulledByMates 20 = .ok (.getfield 9, 3) := dz_180 (n := 0) (r := 20) hz_X2_pulledByMates_0 rfl rfl
theorem dX2_pulledByMates_23 : decode cX2_pulledByMates 23 = .ok (.iload_n 3, 1) := dz_29 (n := 0) (r := 23) hz_X2_pulledByMates_0 rfl
theorem dX2_pulledByMates_24 : decode cX2_pulledByMates 24 = .ok (.iaload, 1) := dz_46 (n := 0) (r := 24) hz_X2_pulledByMates_0 rfl
theorem dX2_pulledByMates_25 : decode cX2_pulledByMates 25 = .ok (.ishr, 1) := dz_122 (n := 0) (r := 25) hz_X2_pulledByMates_0 rfl
theorem dX2_pulledByMates_26 : decode cX2_pulledByMates 26 = .ok (.iconst 1, 1) := dz_4 (n := 0) (r := 26) hz_X2_pulledByMates_0 rfl
theorem dX2_pulledByMates_27 : decode cX2_pulledByMates 27 = .ok (.iand, 1) := dz_126 (n := 0) (r := 27) hz_X2_pulledByMates_0 rfl
theorem dX2_pulledByMates_28 : decode cX2_pulledByMates 28 = .ok (.iconst 1, 1) := dz_4 (n := 0) (r := 28) hz_X2_pulledByMates_0 rfl
theorem dX2_pulledByMates_29 : decode cX2_pulledByMates 29 = .ok (.if_icmp .ne 12, 3) := dz_160 (n := 0) (r := 29) hz_X2_pulledByMates_0 rfl (by decide +kernel)
theorem hz_X2_pulledByMates_32 : (cX2_pulledByMates.data.toList.drop 32).take 40 = [42, 180, 0, 15, 29, 46, 167, 0, 10, 42, 180, 0, 15, 29, 46, 116, 96, 61, 132, 3, 1, 167, 255, 207, 28, 172] := by decide +kernel
theorem dX2_pulledByMates_32 : decode cX2_pulledByMates 32 = .ok (.aload_n 0, 1) := dz_42 (n := 32) (r := 0) hz_X2_pulledByMates_32 rfl
theorem dX2_pulledByMates_33 : decode cX2_pulledByMates 33 = .ok (.getfield 15, 3) := dz_180 (n := 32) (r := 1) hz_X2_pulledByMates_32 rfl rfl
theorem dX2_pulledByMates_36 : decode cX2_pulledByMates 36 = .ok (.iload_n 3, 1) := dz_29 (n := 32) (r := 4) hz_X2_pulledByMates_32 rfl
theorem dX2_pulledByMates_37 : decode cX2_pulledByMates 37 = .ok (.iaload, 1) := dz_46 (n := 32) (r := 5) hz_X2_pulledByMates_32 rfl
theorem dX2_pulledByMates_38 : decode cX2_pulledByMates 38 = .ok (.goto 10, 3) := dz_167 (n := 32) (r := 6) hz_X2_pulledByMates_32 rfl (by decide +kernel)
theorem dX2_pulledByMates_41 : decode cX2_pulledByMates 41 = .ok (.aload_n 0, 1) := dz_42 (n := 32) (r := 9) hz_X2_pulledByMates_32 rfl
theorem dX2_pulledByMates_42 : decode cX2_pulledByMates 42 = .ok (.getfield 15, 3) := dz_180 (n := 32) (r := 10) hz_X2_pulledByMates_32 rfl rfl
theorem dX2_pulledByMates_45 : decode cX2_pulledByMates 45 = .ok (.iload_n 3, 1) := dz_29 (n := 32) (r := 13) hz_X2_pulledByMates_32 rfl
theorem dX2_pulledByMates_46 : decode cX2_pulledByMates 46 = .ok (.iaload, 1) := dz_46 (n := 32) (r := 14) hz_X2_pulledByMates_32 rfl
theorem dX2_pulledByMates_47 : decode cX2_pulledByMates 47 = .ok (.ineg, 1) := dz_116 (n := 32) (r := 15) hz_X2_pulledByMates_32 rfl
theorem dX2_pulledByMates_48 : decode cX2_pulledByMates 48 = .ok (.iadd, 1) := dz_96 (n := 32) (r := 16) hz_X2_pulledByMates_32 rfl
theorem dX2_pulledByMates_49 : decode cX2_pulledByMates 49 = .ok (.istore_n 2, 1) := dz_61 (n := 32) (r := 17) hz_X2_pulledByMates_32 rfl
theorem dX2_pulledByMates_50 : decode cX2_pulledByMates 50 = .ok (.iinc 3 1, 3) := dz_132 (n := 32) (r := 18) hz_X2_pulledByMates_32 rfl rfl rfl
theorem dX2_pulledByMates_53 : decode cX2_pulledByMates 53 = .ok (.goto (-49), 3) := dz_167 (n := 32) (r := 21) hz_X2_pulledByMates_32 rfl (by decide +kernel)
theorem dX2_pulledByMates_56 : decode cX2_pulledByMates 56 = .ok (.iload_n 2, 1) := dz_28 (n := 32) (r := 24) hz_X2_pulledByMates_32 rfl
theorem dX2_pulledByMates_57 : decode cX2_pulledByMates 57 = .ok (.ireturn, 1) := dz_172 (n := 32) (r := 25) hz_X2_pulledByMates_32 rfl
theorem hz_X3_init_0 : (cX3_init.data.toList.drop 0).take 40 = [42, 183, 0, 3, 42, 16, 32, 188, 10, 181, 0, 9, 42, 16, 64, 188, 10, 181, 0, 15, 42, 16, 64, 188, 10, 181, 0, 18, 42, 16, 16, 188, 10, 181, 0, 21, 42, 180, 0, 9] := by decide +kernel
theorem dX3_init_0 : decode cX3_init 0 = .ok (.aload_n 0, 1) := dz_42 (n := 0) (r := 0) hz_X3_init_0 rfl
theorem dX3_init_1 : decode cX3_init 1 = .ok (.invokespecial 3, 3) := dz_183 (n := 0) (r := 1) hz_X3_init_0 rfl rfl
theorem dX3_init_4 : decode cX3_init 4 = .ok (.aload_n 0, 1) := dz_42 (n := 0) (r := 4) hz_X3_init_0 rfl
theorem dX3_init_5 : decode cX3_init 5 = .ok (.bipush 32, 2) := dz_16 (n := 0) (r := 5) hz_X3_init_0 rfl rfl
theorem dX3_init_7 : decode cX3_init 7 = .ok (.newarray .int, 2) := dz_188_10 (n := 0) (r := 7) hz_X3_init_0 rfl
theorem dX3_init_9 : decode cX3_init 9 = .ok (.putfield 9, 3) := dz_181 (n := 0) (r := 9) hz_X3_init_0 rfl rfl
theorem dX3_init_12 : decode cX3_init 12 = .ok (.aload_n 0, 1) := dz_42 (n := 0) (r := 12) hz_X3_init_0 rfl
theorem dX3_init_13 : decode cX3_init 13 = .ok (.bipush 64, 2) := dz_16 (n := 0) (r := 13) hz_X3_init_0 rfl rfl
theorem dX3_init_15 : decode cX3_init 15 = .ok (.newarray .int, 2) := dz_188_10 (n := 0) (r := 15) hz_X3_init_0 rfl
theorem dX3_init_17 : decode cX3_init 17 = .ok (.putfield 15, 3) := dz_181 (n := 0) (r := 17) hz_X3_init_0 rfl rfl
theorem dX3_init_20 : decode cX3_init 20 = .ok (.aload_n 0, 1) := dz_42 (n := 0) (r := 20) hz_X3_init_0 rfl
theorem dX3_init_21 : decode cX3_init 21 = .ok (.bipush 64, 2) := dz_16 (n := 0) (r := 21) hz_X3_init_0 rfl rfl
theorem dX3_init_23 : decode cX3_init 23 = .ok (.newarray .int, 2) := dz_188_10 (n := 0) (r := 23) hz_X3_init_0 rfl
theorem dX3_init_25 : decode cX3_init 25 = .ok (.putfield 18, 3) := dz_181 (n := 0) (r := 25) hz_X3_init_0 rfl rfl
theorem dX3_init_28 : decode cX3_init 28 = .ok (.aload_n 0, 1) := dz_42 (n := 0) (r := 28) hz_X3_init_0 rfl
theorem dX3_init_29 : decode cX3_init 29 = .ok (.bipush 16, 2) := dz_16 (n := 0) (r := 29) hz_X3_init_0 rfl rfl
theorem dX3_init_31 : decode cX3_init 31 = .ok (.newarray .int, 2) := dz_188_10 (n := 0) (r := 31) hz_X3_init_0 rfl
theorem hz_X3_init_32 : (cX3_init.data.toList.drop 32).take 40 = [10, 181, 0, 21, 42, 180, 0, 9, 2, 184, 0, 24, 177] := by decide +kernel
theorem dX3_init_33 : decode cX3_init 33 = .ok (.putfield 21, 3) := dz_181 (n := 32) (r := 1) hz_X3_init_32 rfl rfl
theorem dX3_init_36 : decode cX3_init 36 = .ok (.aload_n 0, 1) := dz_42 (n := 32) (r := 4) hz_X3_init_32 rfl
theorem dX3_init_37 : decode cX3_init 37 = .ok (.getfield 9, 3) := dz_180 (n := 32) (r := 5) hz_X3_init_32 rfl rfl
theorem dX3_init_40 : decode cX3_init 40 = .ok (.iconst (-1), 1) := dz_2 (n := 32) (r := 8) hz_X3_init_32 rfl
theorem dX3_init_41 : decode cX3_init 41 = .ok (.invokestatic 24, 3) := dz_184 (n := 32) (r := 9) hz_X3_init_32 rfl rfl
theorem dX3_init_44 : decode cX3_init 44 = .ok (.return_, 1) := dz_177 (n := 32) (r := 12) hz_X3_init_32 rfl
theorem hz_X3_lay_0 : (cX3_lay.data.toList.drop 0).take 40 = [42, 27, 181, 0, 30, 42, 28, 181, 0, 34, 42, 29, 181, 0, 37, 42, 42, 180, 0, 30, 42, 180, 0, 34, 104, 181, 0, 40, 42, 180, 0, 21, 3, 184, 0, 24, 3, 54, 4, 21] := by decide +kernel
theorem dX3_lay_0 : decode cX3_lay 0 = .ok (.aload_n 0, 1) := dz_42 (n := 0) (r := 0) hz_X3_lay_0 rfl
theorem dX3_lay_1 : decode cX3_lay 1 = .ok (.iload_n 1, 1) := dz_27 (n := 0) (r := 1) hz_X3_lay_0 rfl
theorem dX3_lay_2 : decode cX3_lay 2 = .ok (.putfield 30, 3) := dz_181 (n := 0) (r := 2) hz_X3_lay_0 rfl rfl
theorem dX3_lay_5 : decode cX3_lay 5 = .ok (.aload_n 0, 1) := dz_42 (n := 0) (r := 5) hz_X3_lay_0 rfl
theorem dX3_lay_6 : decode cX3_lay 6 = .ok (.iload_n 2, 1) := dz_28 (n := 0) (r := 6) hz_X3_lay_0 rfl
theorem dX3_lay_7 : decode cX3_lay 7 = .ok (.putfield 34, 3) := dz_181 (n := 0) (r := 7) hz_X3_lay_0 rfl rfl
theorem dX3_lay_10 : decode cX3_lay 10 = .ok (.aload_n 0, 1) := dz_42 (n := 0) (r := 10) hz_X3_lay_0 rfl
theorem dX3_lay_11 : decode cX3_lay 11 = .ok (.iload_n 3, 1) := dz_29 (n := 0) (r := 11) hz_X3_lay_0 rfl
theorem dX3_lay_12 : decode cX3_lay 12 = .ok (.putfield 37, 3) := dz_181 (n := 0) (r := 12) hz_X3_lay_0 rfl rfl
theorem dX3_lay_15 : decode cX3_lay 15 = .ok (.aload_n 0, 1) := dz_42 (n := 0) (r := 15) hz_X3_lay_0 rfl
theorem dX3_lay_16 : decode cX3_lay 16 = .ok (.aload_n 0, 1) := dz_42 (n := 0) (r := 16) hz_X3_lay_0 rfl
theorem dX3_lay_17 : decode cX3_lay 17 = .ok (.getfield 30, 3) := dz_180 (n := 0) (r := 17) hz_X3_lay_0 rfl rfl
theorem dX3_lay_20 : decode cX3_lay 20 = .ok (.aload_n 0, 1) := dz_42 (n := 0) (r := 20) hz_X3_lay_0 rfl
theorem dX3_lay_21 : decode cX3_lay 21 = .ok (.getfield 34, 3) := dz_180 (n := 0) (r := 21) hz_X3_lay_0 rfl rfl
theorem dX3_lay_24 : decode cX3_lay 24 = .ok (.imul, 1) := dz_104 (n := 0) (r := 24) hz_X3_lay_0 rfl
theorem dX3_lay_25 : decode cX3_lay 25 = .ok (.putfield 40, 3) := dz_181 (n := 0) (r := 25) hz_X3_lay_0 rfl rfl
theorem dX3_lay_28 : decode cX3_lay 28 = .ok (.aload_n 0, 1) := dz_42 (n := 0) (r := 28) hz_X3_lay_0 rfl
theorem dX3_lay_29 : decode cX3_lay 29 = .ok (.getfield 21, 3) := dz_180 (n := 0) (r := 29) hz_X3_lay_0 rfl rfl
theorem hz_X3_lay_32 : (cX3_lay.data.toList.drop 32).take 40 = [3, 184, 0, 24, 3, 54, 4, 21, 4, 16, 32, 162, 0, 80, 42, 180, 0, 9, 21, 4, 42, 180, 0, 30, 42, 180, 0, 34, 42, 180, 0, 37, 21, 4, 184, 0, 43, 79, 42, 180] := by decide +kernel
theorem dX3_lay_32 : decode cX3_lay 32 = .ok (.iconst 0, 1) := dz_3 (n := 32) (r := 0) hz_X3_lay_32 rfl
theorem dX3_lay_33 : decode cX3_lay 33 = .ok (.invokestatic 24, 3) := dz_184 (n := 32) (r := 1) hz_X3_lay_32 rfl rfl
theorem dX3_lay_36 : decode cX3_lay 36 = .ok (.iconst 0, 1) := dz_3 (n := 32) (r := 4) hz_X3_lay_32 rfl
theorem dX3_lay_37 : decode cX3_lay 37 = .ok (.istore 4, 2) := dz_54 (n := 32) (r := 5) hz_X3_lay_32 rfl rfl
theorem dX3_lay_39 : decode cX3_lay 39 = .ok (.iload 4, 2) := dz_21 (n := 32) (r := 7) hz_X3_lay_32 rfl rfl
theorem dX3_lay_41 : decode cX3_lay 41 = .ok (.bipush 32, 2) := dz_16 (n := 32) (r := 9) hz_X3_lay_32 rfl rfl
theorem dX3_lay_43 : decode cX3_lay 43 = .ok (.if_icmp .ge 80, 3) := dz_162 (n := 32) (r := 11) hz_X3_lay_32 rfl (by decide +kernel)
theorem dX3_lay_46 : decode cX3_lay 46 = .ok (.aload_n 0, 1) := dz_42 (n := 32) (r := 14) hz_X3_lay_32 rfl
theorem dX3_lay_47 : decode cX3_lay 47 = .ok (.getfield 9, 3) := dz_180 (n := 32) (r := 15) hz_X3_lay_32 rfl rfl
theorem dX3_lay_50 : decode cX3_lay 50 = .ok (.iload 4, 2) := dz_21 (n := 32) (r := 18) hz_X3_lay_32 rfl rfl
theorem dX3_lay_52 : decode cX3_lay 52 = .ok (.aload_n 0, 1) := dz_42 (n := 32) (r := 20) hz_X3_lay_32 rfl
theorem dX3_lay_53 : decode cX3_lay 53 = .ok (.getfield 30, 3) := dz_180 (n := 32) (r := 21) hz_X3_lay_32 rfl rfl
theorem dX3_lay_56 : decode cX3_lay 56 = .ok (.aload_n 0, 1) := dz_42 (n := 32) (r := 24) hz_X3_lay_32 rfl
theorem dX3_lay_57 : decode cX3_lay 57 = .ok (.getfield 34, 3) := dz_180 (n := 32) (r := 25) hz_X3_lay_32 rfl rfl
theorem dX3_lay_60 : decode cX3_lay 60 = .ok (.aload_n 0, 1) := dz_42 (n := 32) (r := 28) hz_X3_lay_32 rfl
theorem dX3_lay_61 : decode cX3_lay 61 = .ok (.getfield 37, 3) := dz_180 (n := 32) (r := 29) hz_X3_lay_32 rfl rfl
theorem hz_X3_lay_64 : (cX3_lay.data.toList.drop 64).take 40 = [21, 4, 184, 0, 43, 79, 42, 180, 0, 9, 21, 4, 46, 2, 159, 0, 39, 42, 21, 4, 184, 0, 47, 42, 180, 0, 9, 21, 4, 46, 21, 4, 182, 0, 51, 42, 42, 180, 0, 9] := by decide +kernel
theorem dX3_lay_64 : decode cX3_lay 64 = .ok (.iload 4, 2) := dz_21 (n := 64) (r := 0) hz_X3_lay_64 rfl rfl
theorem dX3_lay_66 : decode cX3_lay 66 = .ok (.invokestatic 43, 3) := dz_184 (n := 64) (r := 2) hz_X3_lay_64 rfl rfl
theorem dX3_lay_69 : decode cX3_lay 69 = .ok (.iastore, 1) := dz_79 (n := 64) (r := 5) hz_X3_lay_64 rfl
theorem dX3_lay_70 : decode cX3_lay 70 = .ok (.aload_n 0, 1) := dz_42 (n := 64) (r := 6) hz_X3_lay_64 rfl
theorem dX3_lay_71 : decode cX3_lay 71 = .ok (.getfield 9, 3) := dz_180 (n := 64) (r := 7) hz_X3_lay_64 rfl rfl
theorem dX3_lay_74 : decode cX3_lay 74 = .ok (.iload 4, 2) := dz_21 (n := 64) (r := 10) hz_X3_lay_64 rfl rfl
theorem dX3_lay_76 : decode cX3_lay 76 = .ok (.iaload, 1) := dz_46 (n := 64) (r := 12) hz_X3_lay_64 rfl
theorem dX3_lay_77 : decode cX3_lay 77 = .ok (.iconst (-1), 1) := dz_2 (n := 64) (r := 13) hz_X3_lay_64 rfl
theorem dX3_lay_78 : decode cX3_lay 78 = .ok (.if_icmp .eq 39, 3) := dz_159 (n := 64) (r := 14) hz_X3_lay_64 rfl (by decide +kernel)
theorem dX3_lay_81 : decode cX3_lay 81 = .ok (.aload_n 0, 1) := dz_42 (n := 64) (r := 17) hz_X3_lay_64 rfl
theorem dX3_lay_82 : decode cX3_lay 82 = .ok (.iload 4, 2) := dz_21 (n := 64) (r := 18) hz_X3_lay_64 rfl rfl
theorem dX3_lay_84 : decode cX3_lay 84 = .ok (.invokestatic 47, 3) := dz_184 (n := 64) (r := 20) hz_X3_lay_64 rfl rfl
theorem dX3_lay_87 : decode cX3_lay 87 = .ok (.aload_n 0, 1) := dz_42 (n := 64) (r := 23) hz_X3_lay_64 rfl
theorem dX3_lay_88 : decode cX3_lay 88 = .ok (.getfield 9, 3) := dz_180 (n := 64) (r := 24) hz_X3_lay_64 rfl rfl
theorem dX3_lay_91 : decode cX3_lay 91 = .ok (.iload 4, 2) := dz_21 (n := 64) (r := 27) hz_X3_lay_64 rfl rfl
theorem dX3_lay_93 : decode cX3_lay 93 = .ok (.iaload, 1) := dz_46 (n := 64) (r := 29) hz_X3_lay_64 rfl
theorem dX3_lay_94 : decode cX3_lay 94 = .ok (.iload 4, 2) := dz_21 (n := 64) (r := 30) hz_X3_lay_64 rfl rfl
theorem hz_X3_lay_96 : (cX3_lay.data.toList.drop 96).take 40 = [182, 0, 51, 42, 42, 180, 0, 9, 21, 4, 46, 21, 4, 184, 0, 47, 21, 4, 182, 0, 51, 132, 4, 1, 167, 255, 175, 177] := by decide +kernel
theorem dX3_lay_96 : decode cX3_lay 96 = .ok (.invokevirtual 51, 3) := dz_182 (n := 96) (r := 0) hz_X3_lay_96 rfl rfl
theorem dX3_lay_99 : decode cX3_lay 99 = .ok (.aload_n 0, 1) := dz_42 (n := 96) (r := 3) hz_X3_lay_96 rfl
theorem dX3_lay_100 : decode cX3_lay 100 = .ok (.aload_n 0, 1) := dz_42 (n := 96) (r := 4) hz_X3_lay_96 rfl
theorem dX3_lay_101 : decode cX3_lay 101 = .ok (.getfield 9, 3) := dz_180 (n := 96) (r := 5) hz_X3_lay_96 rfl rfl
theorem dX3_lay_104 : decode cX3_lay 104 = .ok (.iload 4, 2) := dz_21 (n := 96) (r := 8) hz_X3_lay_96 rfl rfl
theorem dX3_lay_106 : decode cX3_lay 106 = .ok (.iaload, 1) := dz_46 (n := 96) (r := 10) hz_X3_lay_96 rfl
theorem dX3_lay_107 : decode cX3_lay 107 = .ok (.iload 4, 2) := dz_21 (n := 96) (r := 11) hz_X3_lay_96 rfl rfl
theorem dX3_lay_109 : decode cX3_lay 109 = .ok (.invokestatic 47, 3) := dz_184 (n := 96) (r := 13) hz_X3_lay_96 rfl rfl
theorem dX3_lay_112 : decode cX3_lay 112 = .ok (.iload 4, 2) := dz_21 (n := 96) (r := 16) hz_X3_lay_96 rfl rfl
theorem dX3_lay_114 : decode cX3_lay 114 = .ok (.invokevirtual 51, 3) := dz_182 (n := 96) (r := 18) hz_X3_lay_96 rfl rfl
theorem dX3_lay_117 : decode cX3_lay 117 = .ok (.iinc 4 1, 3) := dz_132 (n := 96) (r := 21) hz_X3_lay_96 rfl rfl rfl
theorem dX3_lay_120 : decode cX3_lay 120 = .ok (.goto (-81), 3) := dz_167 (n := 96) (r := 24) hz_X3_lay_96 rfl (by decide +kernel)
theorem dX3_lay_123 : decode cX3_lay 123 = .ok (.return_, 1) := dz_177 (n := 96) (r := 27) hz_X3_lay_96 rfl
theorem hz_X3_addMate_0 : (cX3_addMate.data.toList.drop 0).take 40 = [27, 155, 0, 19, 27, 16, 16, 162, 0, 13, 42, 180, 0, 21, 27, 46, 7, 161, 0, 4, 177, 7, 27, 104, 42, 180, 0, 21, 27, 46, 96, 54, 4, 42, 180, 0, 15, 21, 4, 28] := by decide +kernel
theorem dX3_addMate_0 : decode cX3_addMate 0 = .ok (.iload_n 1, 1) := dz_27 (n := 0) (r := 0) hz_X3_addMate_0 rfl
theorem dX3_addMate_1 : decode cX3_addMate 1 = .ok (.ifCond .lt 19, 3) := dz_155 (n := 0) (r := 1) hz_X3_addMate_0 rfl (by decide +kernel)
theorem dX3_addMate_4 : decode cX3_addMate 4 = .ok (.iload_n 1, 1) := dz_27 (n := 0) (r := 4) hz_X3_addMate_0 rfl
theorem dX3_addMate_5 : decode cX3_addMate 5 = .ok (.bipush 16, 2) := dz_16 (n := 0) (r := 5) hz_X3_addMate_0 rfl rfl
theorem dX3_addMate_7 : decode cX3_addMate 7 = .ok (.if_icmp .ge 13, 3) := dz_162 (n := 0) (r := 7) hz_X3_addMate_0 rfl (by decide +kernel)
theorem dX3_addMate_10 : decode cX3_addMate 10 = .ok (.aload_n 0, 1) := dz_42 (n := 0) (r := 10) hz_X3_addMate_0 rfl
theorem dX3_addMate_11 : decode cX3_addMate 11 = .ok (.getfield 21, 3) := dz_180 (n := 0) (r := 11) hz_X3_addMate_0 rfl rfl
theorem dX3_addMate_14 : decode cX3_addMate 14 = .ok (.iload_n 1, 1) := dz_27 (n := 0) (r := 14) hz_X3_addMate_0 rfl
theorem dX3_addMate_15 : decode cX3_addMate 15 = .ok (.iaload, 1) := dz_46 (n := 0) (r := 15) hz_X3_addMate_0 rfl
theorem dX3_addMate_16 : decode cX3_addMate 16 = .ok (.iconst 4, 1) := dz_7 (n := 0) (r := 16) hz_X3_addMate_0 rfl
theorem dX3_addMate_17 : decode cX3_addMate 17 = .ok (.if_icmp .lt 4, 3) := dz_161 (n := 0) (r := 17) hz_X3_addMate_0 rfl (by decide +kernel)
theorem dX3_addMate_20 : decode cX3_addMate 20 = .ok (.return_, 1) := dz_177 (n := 0) (r := 20) hz_X3_addMate_0 rfl
theorem dX3_addMate_21 : decode cX3_addMate 21 = .ok (.iconst 4, 1) := dz_7 (n := 0) (r := 21) hz_X3_addMate_0 rfl
theorem dX3_addMate_22 : decode cX3_addMate 22 = .ok (.iload_n 1, 1) := dz_27 (n := 0) (r := 22) hz_X3_addMate_0 rfl
theorem dX3_addMate_23 : decode cX3_addMate 23 = .ok (.imul, 1) := dz_104 (n := 0) (r := 23) hz_X3_addMate_0 rfl
theorem dX3_addMate_24 : decode cX3_addMate 24 = .ok (.aload_n 0, 1) := dz_42 (n := 0) (r := 24) hz_X3_addMate_0 rfl
theorem dX3_addMate_25 : decode cX3_addMate 25 = .ok (.getfield 21, 3) := dz_180 (n := 0) (r := 25) hz_X3_addMate_0 rfl rfl
theorem dX3_addMate_28 : decode cX3_addMate 28 = .ok (.iload_n 1, 1) := dz_27 (n := 0) (r := 28) hz_X3_addMate_0 rfl
theorem dX3_addMate_29 : decode cX3_addMate 29 = .ok (.iaload, 1) := dz_46 (n := 0) (r := 29) hz_X3_addMate_0 rfl
theorem dX3_addMate_30 : decode cX3_addMate 30 = .ok (.iadd, 1) := dz_96 (n := 0) (r := 30) hz_X3_addMate_0 rfl
theorem dX3_addMate_31 : decode cX3_addMate 31 = .ok (.istore 4, 2) := dz_54 (n := 0) (r := 31) hz_X3_addMate_0 rfl rfl
theorem hz_X3_addMate_32 : (cX3_addMate.data.toList.drop 32).take 40 = [4, 42, 180, 0, 15, 21, 4, 28, 79, 42, 180, 0, 18, 21, 4, 29, 79, 42, 180, 0, 21, 27, 92, 46, 4, 96, 79, 177] := by decide +kernel
theorem dX3_addMate_33 : decode cX3_addMate 33 = .ok (.aload_n 0, 1) := dz_42 (n := 32) (r := 1) hz_X3_addMate_32 rfl
theorem dX3_addMate_34 : decode cX3_addMate 34 = .ok (.getfield 15, 3) := dz_180 (n := 32) (r := 2) hz_X3_addMate_32 rfl rfl
theorem dX3_addMate_37 : decode cX3_addMate 37 = .ok (.iload 4, 2) := dz_21 (n := 32) (r := 5) hz_X3_addMate_32 rfl rfl
theorem dX3_addMate_39 : decode cX3_addMate 39 = .ok (.iload_n 2, 1) := dz_28 (n := 32) (r := 7) hz_X3_addMate_32 rfl
theorem dX3_addMate_40 : decode cX3_addMate 40 = .ok (.iastore, 1) := dz_79 (n := 32) (r := 8) hz_X3_addMate_32 rfl
theorem dX3_addMate_41 : decode cX3_addMate 41 = .ok (.aload_n 0, 1) := dz_42 (n := 32) (r := 9) hz_X3_addMate_32 rfl
theorem dX3_addMate_42 : decode cX3_addMate 42 = .ok (.getfield 18, 3) := dz_180 (n := 32) (r := 10) hz_X3_addMate_32 rfl rfl
theorem dX3_addMate_45 : decode cX3_addMate 45 = .ok (.iload 4, 2) := dz_21 (n := 32) (r := 13) hz_X3_addMate_32 rfl rfl
theorem dX3_addMate_47 : decode cX3_addMate 47 = .ok (.iload_n 3, 1) := dz_29 (n := 32) (r := 15) hz_X3_addMate_32 rfl
theorem dX3_addMate_48 : decode cX3_addMate 48 = .ok (.iastore, 1) := dz_79 (n := 32) (r := 16) hz_X3_addMate_32 rfl
theorem dX3_addMate_49 : decode cX3_addMate 49 = .ok (.aload_n 0, 1) := dz_42 (n := 32) (r := 17) hz_X3_addMate_32 rfl
theorem dX3_addMate_50 : decode cX3_addMate 50 = .ok (.getfield 21, 3) := dz_180 (n := 32) (r := 18) hz_X3_addMate_32 rfl rfl
theorem dX3_addMate_53 : decode cX3_addMate 53 = .ok (.iload_n 1, 1) := dz_27 (n := 32) (r := 21) hz_X3_addMate_32 rfl
theorem dX3_addMate_54 : decode cX3_addMate 54 = .ok (.dup2, 1) := dz_92 (n := 32) (r := 22) hz_X3_addMate_32 rfl
theorem dX3_addMate_55 : decode cX3_addMate 55 = .ok (.iaload, 1) := dz_46 (n := 32) (r := 23) hz_X3_addMate_32 rfl
theorem dX3_addMate_56 : decode cX3_addMate 56 = .ok (.iconst 1, 1) := dz_4 (n := 32) (r := 24) hz_X3_addMate_32 rfl
theorem dX3_addMate_57 : decode cX3_addMate 57 = .ok (.iadd, 1) := dz_96 (n := 32) (r := 25) hz_X3_addMate_32 rfl
theorem dX3_addMate_58 : decode cX3_addMate 58 = .ok (.iastore, 1) := dz_79 (n := 32) (r := 26) hz_X3_addMate_32 rfl
theorem dX3_addMate_59 : decode cX3_addMate 59 = .ok (.return_, 1) := dz_177 (n := 32) (r := 27) hz_X3_addMate_32 rfl
theorem hz_X3_startOf_0 : (cX3_startOf.data.toList.drop 0).take 40 = [26, 16, 16, 162, 0, 7, 26, 167, 0, 7, 26, 16, 16, 100, 172] := by decide +kernel
theorem dX3_startOf_0 : decode cX3_startOf 0 = .ok (.iload_n 0, 1) := dz_26 (n := 0) (r := 0) hz_X3_startOf_0 rfl
theorem dX3_startOf_1 : decode cX3_startOf 1 = .ok (.bipush 16, 2) := dz_16 (n := 0) (r := 1) hz_X3_startOf_0 rfl rfl
theorem dX3_startOf_3 : decode cX3_startOf 3 = .ok (.if_icmp .ge 7, 3) := dz_162 (n := 0) (r := 3) hz_X3_startOf_0 rfl (by decide +kernel)
theorem dX3_startOf_6 : decode cX3_startOf 6 = .ok (.iload_n 0, 1) := dz_26 (n := 0) (r := 6) hz_X3_startOf_0 rfl
theorem dX3_startOf_7 : decode cX3_startOf 7 = .ok (.goto 7, 3) := dz_167 (n := 0) (r := 7) hz_X3_startOf_0 rfl (by decide +kernel)
theorem dX3_startOf_10 : decode cX3_startOf 10 = .ok (.iload_n 0, 1) := dz_26 (n := 0) (r := 10) hz_X3_startOf_0 rfl
theorem dX3_startOf_11 : decode cX3_startOf 11 = .ok (.bipush 16, 2) := dz_16 (n := 0) (r := 11) hz_X3_startOf_0 rfl rfl
theorem dX3_startOf_13 : decode cX3_startOf 13 = .ok (.isub, 1) := dz_100 (n := 0) (r := 13) hz_X3_startOf_0 rfl
theorem dX3_startOf_14 : decode cX3_startOf 14 = .ok (.ireturn, 1) := dz_172 (n := 0) (r := 14) hz_X3_startOf_0 rfl
theorem hz_X3_endOf_0 : (cX3_endOf.data.toList.drop 0).take 40 = [29, 184, 0, 47, 54, 4, 26, 4, 161, 0, 16, 21, 4, 155, 0, 11, 21, 4, 26, 27, 104, 161, 0, 5, 2, 172, 21, 4, 26, 108, 54, 5, 21, 4, 26, 112, 54, 6, 29, 16] := by decide +kernel
theorem dX3_endOf_0 : decode cX3_endOf 0 = .ok (.iload_n 3, 1) := dz_29 (n := 0) (r := 0) hz_X3_endOf_0 rfl
theorem dX3_endOf_1 : decode cX3_endOf 1 = .ok (.invokestatic 47, 3) := dz_184 (n := 0) (r := 1) hz_X3_endOf_0 rfl rfl
theorem dX3_endOf_4 : decode cX3_endOf 4 = .ok (.istore 4, 2) := dz_54 (n := 0) (r := 4) hz_X3_endOf_0 rfl rfl
theorem dX3_endOf_6 : decode cX3_endOf 6 = .ok (.iload_n 0, 1) := dz_26 (n := 0) (r := 6) hz_X3_endOf_0 rfl
theorem dX3_endOf_7 : decode cX3_endOf 7 = .ok (.iconst 1, 1) := dz_4 (n := 0) (r := 7) hz_X3_endOf_0 rfl
theorem dX3_endOf_8 : decode cX3_endOf 8 = .ok (.if_icmp .lt 16, 3) := dz_161 (n := 0) (r := 8) hz_X3_endOf_0 rfl (by decide +kernel)
theorem dX3_endOf_11 : decode cX3_endOf 11 = .ok (.iload 4, 2) := dz_21 (n := 0) (r := 11) hz_X3_endOf_0 rfl rfl
theorem dX3_endOf_13 : decode cX3_endOf 13 = .ok (.ifCond .lt 11, 3) := dz_155 (n := 0) (r := 13) hz_X3_endOf_0 rfl (by decide +kernel)
theorem dX3_endOf_16 : decode cX3_endOf 16 = .ok (.iload 4, 2) := dz_21 (n := 0) (r := 16) hz_X3_endOf_0 rfl rfl
theorem dX3_endOf_18 : decode cX3_endOf 18 = .ok (.iload_n 0, 1) := dz_26 (n := 0) (r := 18) hz_X3_endOf_0 rfl
theorem dX3_endOf_19 : decode cX3_endOf 19 = .ok (.iload_n 1, 1) := dz_27 (n := 0) (r := 19) hz_X3_endOf_0 rfl
theorem dX3_endOf_20 : decode cX3_endOf 20 = .ok (.imul, 1) := dz_104 (n := 0) (r := 20) hz_X3_endOf_0 rfl
theorem dX3_endOf_21 : decode cX3_endOf 21 = .ok (.if_icmp .lt 5, 3) := dz_161 (n := 0) (r := 21) hz_X3_endOf_0 rfl (by decide +kernel)
theorem dX3_endOf_24 : decode cX3_endOf 24 = .ok (.iconst (-1), 1) := dz_2 (n := 0) (r := 24) hz_X3_endOf_0 rfl
theorem dX3_endOf_25 : decode cX3_endOf 25 = .ok (.ireturn, 1) := dz_172 (n := 0) (r := 25) hz_X3_endOf_0 rfl
theorem dX3_endOf_26 : decode cX3_endOf 26 = .ok (.iload 4, 2) := dz_21 (n := 0) (r := 26) hz_X3_endOf_0 rfl rfl
theorem dX3_endOf_28 : decode cX3_endOf 28 = .ok (.iload_n 0, 1) := dz_26 (n := 0) (r := 28) hz_X3_endOf_0 rfl
theorem dX3_endOf_29 : decode cX3_endOf 29 = .ok (.idiv, 1) := dz_108 (n := 0) (r := 29) hz_X3_endOf_0 rfl
theorem dX3_endOf_30 : decode cX3_endOf 30 = .ok (.istore 5, 2) := dz_54 (n := 0) (r := 30) hz_X3_endOf_0 rfl rfl
theorem hz_X3_endOf_32 : (cX3_endOf.data.toList.drop 32).take 40 = [21, 4, 26, 112, 54, 6, 29, 16, 16, 162, 0, 50, 28, 4, 126, 153, 0, 12, 26, 5, 164, 0, 7, 4, 167, 0, 4, 3, 54, 7, 21, 6, 4, 96, 26, 162, 0, 10, 21, 4] := by decide +kernel
theorem dX3_endOf_32 : decode cX3_endOf 32 = .ok (.iload 4, 2) := dz_21 (n := 32) (r := 0) hz_X3_endOf_32 rfl rfl
theorem dX3_endOf_34 : decode cX3_endOf 34 = .ok (.iload_n 0, 1) := dz_26 (n := 32) (r := 2) hz_X3_endOf_32 rfl
theorem dX3_endOf_35 : decode cX3_endOf 35 = .ok (.irem, 1) := dz_112 (n := 32) (r := 3) hz_X3_endOf_32 rfl
theorem dX3_endOf_36 : decode cX3_endOf 36 = .ok (.istore 6, 2) := dz_54 (n := 32) (r := 4) hz_X3_endOf_32 rfl rfl
theorem dX3_endOf_38 : decode cX3_endOf 38 = .ok (.iload_n 3, 1) := dz_29 (n := 32) (r := 6) hz_X3_endOf_32 rfl
theorem dX3_endOf_39 : decode cX3_endOf 39 = .ok (.bipush 16, 2) := dz_16 (n := 32) (r := 7) hz_X3_endOf_32 rfl rfl
theorem dX3_endOf_41 : decode cX3_endOf 41 = .ok (.if_icmp .ge 50, 3) := dz_162 (n := 32) (r := 9) hz_X3_endOf_32 rfl (by decide +kernel)
theorem dX3_endOf_44 : decode cX3_endOf 44 = .ok (.iload_n 2, 1) := dz_28 (n := 32) (r := 12) hz_X3_endOf_32 rfl
theorem dX3_endOf_45 : decode cX3_endOf 45 = .ok (.iconst 1, 1) := dz_4 (n := 32) (r := 13) hz_X3_endOf_32 rfl
theorem dX3_endOf_46 : decode cX3_endOf 46 = .ok (.iand, 1) := dz_126 (n := 32) (r := 14) hz_X3_endOf_32 rfl
theorem dX3_endOf_47 : decode cX3_endOf 47 = .ok (.ifCond .eq 12, 3) := dz_153 (n := 32) (r := 15) hz_X3_endOf_32 rfl (by decide +kernel)
theorem dX3_endOf_50 : decode cX3_endOf 50 = .ok (.iload_n 0, 1) := dz_26 (n := 32) (r := 18) hz_X3_endOf_32 rfl
theorem dX3_endOf_51 : decode cX3_endOf 51 = .ok (.iconst 2, 1) := dz_5 (n := 32) (r := 19) hz_X3_endOf_32 rfl
theorem dX3_endOf_52 : decode cX3_endOf 52 = .ok (.if_icmp .le 7, 3) := dz_164 (n := 32) (r := 20) hz_X3_endOf_32 rfl (by decide +kernel)
theorem dX3_endOf_55 : decode cX3_endOf 55 = .ok (.iconst 1, 1) := dz_4 (n := 32) (r := 23) hz_X3_endOf_32 rfl
theorem dX3_endOf_56 : decode cX3_endOf 56 = .ok (.goto 4, 3) := dz_167 (n := 32) (r := 24) hz_X3_endOf_32 rfl (by decide +kernel)
theorem dX3_endOf_59 : decode cX3_endOf 59 = .ok (.iconst 0, 1) := dz_3 (n := 32) (r := 27) hz_X3_endOf_32 rfl
theorem dX3_endOf_60 : decode cX3_endOf 60 = .ok (.istore 7, 2) := dz_54 (n := 32) (r := 28) hz_X3_endOf_32 rfl rfl
theorem dX3_endOf_62 : decode cX3_endOf 62 = .ok (.iload 6, 2) := dz_21 (n := 32) (r := 30) hz_X3_endOf_32 rfl rfl
theorem hz_X3_endOf_64 : (cX3_endOf.data.toList.drop 64).take 40 = [4, 96, 26, 162, 0, 10, 21, 4, 4, 96, 167, 0, 16, 21, 7, 153, 0, 10, 21, 5, 26, 104, 167, 0, 4, 2, 172, 28, 5, 126, 153, 0, 12, 27, 5, 164, 0, 7, 4, 167] := by decide +kernel
theorem dX3_endOf_64 : decode cX3_endOf 64 = .ok (.iconst 1, 1) := dz_4 (n := 64) (r := 0) hz_X3_endOf_64 rfl
theorem dX3_endOf_65 : decode cX3_endOf 65 = .ok (.iadd, 1) := dz_96 (n := 64) (r := 1) hz_X3_endOf_64 rfl
theorem dX3_endOf_66 : decode cX3_endOf 66 = .ok (.iload_n 0, 1) := dz_26 (n := 64) (r := 2) hz_X3_endOf_64 rfl
theorem dX3_endOf_67 : decode cX3_endOf 67 = .ok (.if_icmp .ge 10, 3) := dz_162 (n := 64) (r := 3) hz_X3_endOf_64 rfl (by decide +kernel)
theorem dX3_endOf_70 : decode cX3_endOf 70 = .ok (.iload 4, 2) := dz_21 (n := 64) (r := 6) hz_X3_endOf_64 rfl rfl
theorem dX3_endOf_72 : decode cX3_endOf 72 = .ok (.iconst 1, 1) := dz_4 (n := 64) (r := 8) hz_X3_endOf_64 rfl
theorem dX3_endOf_73 : decode cX3_endOf 73 = .ok (.iadd, 1) := dz_96 (n := 64) (r := 9) hz_X3_endOf_64 rfl
theorem dX3_endOf_74 : decode cX3_endOf 74 = .ok (.goto 16, 3) := dz_167 (n := 64) (r := 10) hz_X3_endOf_64 rfl (by decide +kernel)
theorem dX3_endOf_77 : decode cX3_endOf 77 = .ok (.iload 7, 2) := dz_21 (n := 64) (r := 13) hz_X3_endOf_64 rfl rfl
theorem dX3_endOf_79 : decode cX3_endOf 79 = .ok (.ifCond .eq 10, 3) := dz_153 (n := 64) (r := 15) hz_X3_endOf_64 rfl (by decide +kernel)
theorem dX3_endOf_82 : decode cX3_endOf 82 = .ok (.iload 5, 2) := dz_21 (n := 64) (r := 18) hz_X3_endOf_64 rfl rfl
theorem dX3_endOf_84 : decode cX3_endOf 84 = .ok (.iload_n 0, 1) := dz_26 (n := 64) (r := 20) hz_X3_endOf_64 rfl
theorem dX3_endOf_85 : decode cX3_endOf 85 = .ok (.imul, 1) := dz_104 (n := 64) (r := 21) hz_X3_endOf_64 rfl
theorem dX3_endOf_86 : decode cX3_endOf 86 = .ok (.goto 4, 3) := dz_167 (n := 64) (r := 22) hz_X3_endOf_64 rfl (by decide +kernel)
theorem dX3_endOf_89 : decode cX3_endOf 89 = .ok (.iconst (-1), 1) := dz_2 (n := 64) (r := 25) hz_X3_endOf_64 rfl
theorem dX3_endOf_90 : decode cX3_endOf 90 = .ok (.ireturn, 1) := dz_172 (n := 64) (r := 26) hz_X3_endOf_64 rfl
theorem dX3_endOf_91 : decode cX3_endOf 91 = .ok (.iload_n 2, 1) := dz_28 (n := 64) (r := 27) hz_X3_endOf_64 rfl
theorem dX3_endOf_92 : decode cX3_endOf 92 = .ok (.iconst 2, 1) := dz_5 (n := 64) (r := 28) hz_X3_endOf_64 rfl
theorem dX3_endOf_93 : decode cX3_endOf 93 = .ok (.iand, 1) := dz_126 (n := 64) (r := 29) hz_X3_endOf_64 rfl
theorem dX3_endOf_94 : decode cX3_endOf 94 = .ok (.ifCond .eq 12, 3) := dz_153 (n := 64) (r := 30) hz_X3_endOf_64 rfl (by decide +kernel)
theorem hz_X3_endOf_96 : (cX3_endOf.data.toList.drop 96).take 40 = [12, 27, 5, 164, 0, 7, 4, 167, 0, 4, 3, 54, 7, 21, 5, 4, 96, 27, 162, 0, 10, 21, 4, 26, 96, 167, 0, 14, 21, 7, 153, 0, 8, 21, 6, 167, 0, 4, 2, 172] := by decide +kernel
theorem dX3_endOf_97 : decode cX3_endOf 97 = .ok (.iload_n 1, 1) := dz_27 (n := 96) (r := 1) hz_X3_endOf_96 rfl
theorem dX3_endOf_98 : decode cX3_endOf 98 = .ok (.iconst 2, 1) := dz_5 (n := 96) (r := 2) hz_X3_endOf_96 rfl
theorem dX3_endOf_99 : decode cX3_endOf 99 = .ok (.if_icmp .le 7, 3) := dz_164 (n := 96) (r := 3) hz_X3_endOf_96 rfl (by decide +kernel)
theorem dX3_endOf_102 : decode cX3_endOf 102 = .ok (.iconst 1, 1) := dz_4 (n := 96) (r := 6) hz_X3_endOf_96 rfl
theorem dX3_endOf_103 : decode cX3_endOf 103 = .ok (.goto 4, 3) := dz_167 (n := 96) (r := 7) hz_X3_endOf_96 rfl (by decide +kernel)
theorem dX3_endOf_106 : decode cX3_endOf 106 = .ok (.iconst 0, 1) := dz_3 (n := 96) (r := 10) hz_X3_endOf_96 rfl
theorem dX3_endOf_107 : decode cX3_endOf 107 = .ok (.istore 7, 2) := dz_54 (n := 96) (r := 11) hz_X3_endOf_96 rfl rfl
theorem dX3_endOf_109 : decode cX3_endOf 109 = .ok (.iload 5, 2) := dz_21 (n := 96) (r := 13) hz_X3_endOf_96 rfl rfl
theorem dX3_endOf_111 : decode cX3_endOf 111 = .ok (.iconst 1, 1) := dz_4 (n := 96) (r := 15) hz_X3_endOf_96 rfl
theorem dX3_endOf_112 : decode cX3_endOf 112 = .ok (.iadd, 1) := dz_96 (n := 96) (r := 16) hz_X3_endOf_96 rfl
theorem dX3_endOf_113 : decode cX3_endOf 113 = .ok (.iload_n 1, 1) := dz_27 (n := 96) (r := 17) hz_X3_endOf_96 rfl
theorem dX3_endOf_114 : decode cX3_endOf 114 = .ok (.if_icmp .ge 10, 3) := dz_162 (n := 96) (r := 18) hz_X3_endOf_96 rfl (by decide +kernel)
theorem dX3_endOf_117 : decode cX3_endOf 117 = .ok (.iload 4, 2) := dz_21 (n := 96) (r := 21) hz_X3_endOf_96 rfl rfl
theorem dX3_endOf_119 : decode cX3_endOf 119 = .ok (.iload_n 0, 1) := dz_26 (n := 96) (r := 23) hz_X3_endOf_96 rfl
theorem dX3_endOf_120 : decode cX3_endOf 120 = .ok (.iadd, 1) := dz_96 (n := 96) (r := 24) hz_X3_endOf_96 rfl
theorem dX3_endOf_121 : decode cX3_endOf 121 = .ok (.goto 14, 3) := dz_167 (n := 96) (r := 25) hz_X3_endOf_96 rfl (by decide +kernel)
theorem dX3_endOf_124 : decode cX3_endOf 124 = .ok (.iload 7, 2) := dz_21 (n := 96) (r := 28) hz_X3_endOf_96 rfl rfl
theorem dX3_endOf_126 : decode cX3_endOf 126 = .ok (.ifCond .eq 8, 3) := dz_153 (n := 96) (r := 30) hz_X3_endOf_96 rfl (by decide +kernel)
theorem hz_X3_endOf_128 : (cX3_endOf.data.toList.drop 128).take 40 = [8, 21, 6, 167, 0, 4, 2, 172] := by decide +kernel
theorem dX3_endOf_129 : decode cX3_endOf 129 = .ok (.iload 6, 2) := dz_21 (n := 128) (r := 1) hz_X3_endOf_128 rfl rfl
theorem dX3_endOf_131 : decode cX3_endOf 131 = .ok (.goto 4, 3) := dz_167 (n := 128) (r := 3) hz_X3_endOf_128 rfl (by decide +kernel)
theorem dX3_endOf_134 : decode cX3_endOf 134 = .ok (.iconst (-1), 1) := dz_2 (n := 128) (r := 6) hz_X3_endOf_128 rfl
theorem dX3_endOf_135 : decode cX3_endOf 135 = .ok (.ireturn, 1) := dz_172 (n := 128) (r := 7) hz_X3_endOf_128 rfl
theorem hz_X3_endAt_0 : (cX3_endAt.data.toList.drop 0).take 40 = [27, 155, 0, 21, 27, 42, 180, 0, 9, 190, 162, 0, 12, 42, 180, 0, 9, 27, 46, 167, 0, 4, 2, 172] := by decide +kernel
theorem dX3_endAt_0 : decode cX3_endAt 0 = .ok (.iload_n 1, 1) := dz_27 (n := 0) (r := 0) hz_X3_endAt_0 rfl
theorem dX3_endAt_1 : decode cX3_endAt 1 = .ok (.ifCond .lt 21, 3) := dz_155 (n := 0) (r := 1) hz_X3_endAt_0 rfl (by decide +kernel)
theorem dX3_endAt_4 : decode cX3_endAt 4 = .ok (.iload_n 1, 1) := dz_27 (n := 0) (r := 4) hz_X3_endAt_0 rfl
theorem dX3_endAt_5 : decode cX3_endAt 5 = .ok (.aload_n 0, 1) := dz_42 (n := 0) (r := 5) hz_X3_endAt_0 rfl
theorem dX3_endAt_6 : decode cX3_endAt 6 = .ok (.getfield 9, 3) := dz_180 (n := 0) (r := 6) hz_X3_endAt_0 rfl rfl
theorem dX3_endAt_9 : decode cX3_endAt 9 = .ok (.arraylength, 1) := dz_190 (n := 0) (r := 9) hz_X3_endAt_0 rfl
theorem dX3_endAt_10 : decode cX3_endAt 10 = .ok (.if_icmp .ge 12, 3) := dz_162 (n := 0) (r := 10) hz_X3_endAt_0 rfl (by decide +kernel)
theorem dX3_endAt_13 : decode cX3_endAt 13 = .ok (.aload_n 0, 1) := dz_42 (n := 0) (r := 13) hz_X3_endAt_0 rfl
theorem dX3_endAt_14 : decode cX3_endAt 14 = .ok (.getfield 9, 3) := dz_180 (n := 0) (r := 14) hz_X3_endAt_0 rfl rfl
theorem dX3_endAt_17 : decode cX3_endAt 17 = .ok (.iload_n 1, 1) := dz_27 (n := 0) (r := 17) hz_X3_endAt_0 rfl
theorem dX3_endAt_18 : decode cX3_endAt 18 = .ok (.iaload, 1) := dz_46 (n := 0) (r := 18) hz_X3_endAt_0 rfl
theorem dX3_endAt_19 : decode cX3_endAt 19 = .ok (.goto 4, 3) := dz_167 (n := 0) (r := 19) hz_X3_endAt_0 rfl (by decide +kernel)
theorem dX3_endAt_22 : decode cX3_endAt 22 = .ok (.iconst (-1), 1) := dz_2 (n := 0) (r := 22) hz_X3_endAt_0 rfl
theorem dX3_endAt_23 : decode cX3_endAt 23 = .ok (.ireturn, 1) := dz_172 (n := 0) (r := 23) hz_X3_endAt_0 rfl
theorem hz_X3_hasSite_0 : (cX3_hasSite.data.toList.drop 0).take 40 = [27, 155, 0, 15, 27, 42, 180, 0, 40, 162, 0, 7, 4, 167, 0, 4, 3, 172] := by decide +kernel
theorem dX3_hasSite_0 : decode cX3_hasSite 0 = .ok (.iload_n 1, 1) := dz_27 (n := 0) (r := 0) hz_X3_hasSite_0 rfl
theorem dX3_hasSite_1 : decode cX3_hasSite 1 = .ok (.ifCond .lt 15, 3) := dz_155 (n := 0) (r := 1) hz_X3_hasSite_0 rfl (by decide +kernel)
theorem dX3_hasSite_4 : decode cX3_hasSite 4 = .ok (.iload_n 1, 1) := dz_27 (n := 0) (r := 4) hz_X3_hasSite_0 rfl
theorem dX3_hasSite_5 : decode cX3_hasSite 5 = .ok (.aload_n 0, 1) := dz_42 (n := 0) (r := 5) hz_X3_hasSite_0 rfl
theorem dX3_hasSite_6 : decode cX3_hasSite 6 = .ok (.getfield 40, 3) := dz_180 (n := 0) (r := 6) hz_X3_hasSite_0 rfl rfl
theorem dX3_hasSite_9 : decode cX3_hasSite 9 = .ok (.if_icmp .ge 7, 3) := dz_162 (n := 0) (r := 9) hz_X3_hasSite_0 rfl (by decide +kernel)
theorem dX3_hasSite_12 : decode cX3_hasSite 12 = .ok (.iconst 1, 1) := dz_4 (n := 0) (r := 12) hz_X3_hasSite_0 rfl
theorem dX3_hasSite_13 : decode cX3_hasSite 13 = .ok (.goto 4, 3) := dz_167 (n := 0) (r := 13) hz_X3_hasSite_0 rfl (by decide +kernel)
theorem dX3_hasSite_16 : decode cX3_hasSite 16 = .ok (.iconst 0, 1) := dz_3 (n := 0) (r := 16) hz_X3_hasSite_0 rfl
theorem dX3_hasSite_17 : decode cX3_hasSite 17 = .ok (.ireturn, 1) := dz_172 (n := 0) (r := 17) hz_X3_hasSite_0 rfl
theorem hz_X3_states_0 : (cX3_states.data.toList.drop 0).take 40 = [42, 180, 0, 40, 158, 0, 12, 4, 42, 180, 0, 40, 120, 167, 0, 4, 3, 172] := by decide +kernel
theorem dX3_states_0 : decode cX3_states 0 = .ok (.aload_n 0, 1) := dz_42 (n := 0) (r := 0) hz_X3_states_0 rfl
theorem dX3_states_1 : decode cX3_states 1 = .ok (.getfield 40, 3) := dz_180 (n := 0) (r := 1) hz_X3_states_0 rfl rfl
theorem dX3_states_4 : decode cX3_states 4 = .ok (.ifCond .le 12, 3) := dz_158 (n := 0) (r := 4) hz_X3_states_0 rfl (by decide +kernel)
theorem dX3_states_7 : decode cX3_states 7 = .ok (.iconst 1, 1) := dz_4 (n := 0) (r := 7) hz_X3_states_0 rfl
theorem dX3_states_8 : decode cX3_states 8 = .ok (.aload_n 0, 1) := dz_42 (n := 0) (r := 8) hz_X3_states_0 rfl
theorem dX3_states_9 : decode cX3_states 9 = .ok (.getfield 40, 3) := dz_180 (n := 0) (r := 9) hz_X3_states_0 rfl rfl
theorem dX3_states_12 : decode cX3_states 12 = .ok (.ishl, 1) := dz_120 (n := 0) (r := 12) hz_X3_states_0 rfl
theorem dX3_states_13 : decode cX3_states 13 = .ok (.goto 4, 3) := dz_167 (n := 0) (r := 13) hz_X3_states_0 rfl (by decide +kernel)
theorem dX3_states_16 : decode cX3_states 16 = .ok (.iconst 0, 1) := dz_3 (n := 0) (r := 16) hz_X3_states_0 rfl
theorem dX3_states_17 : decode cX3_states 17 = .ok (.ireturn, 1) := dz_172 (n := 0) (r := 17) hz_X3_states_0 rfl
theorem hz_X3_rowOf_0 : (cX3_rowOf.data.toList.drop 0).take 40 = [42, 180, 0, 30, 158, 0, 12, 27, 42, 180, 0, 30, 108, 167, 0, 4, 3, 172] := by decide +kernel
theorem dX3_rowOf_0 : decode cX3_rowOf 0 = .ok (.aload_n 0, 1) := dz_42 (n := 0) (r := 0) hz_X3_rowOf_0 rfl
theorem dX3_rowOf_1 : decode cX3_rowOf 1 = .ok (.getfield 30, 3) := dz_180 (n := 0) (r := 1) hz_X3_rowOf_0 rfl rfl
theorem dX3_rowOf_4 : decode cX3_rowOf 4 = .ok (.ifCond .le 12, 3) := dz_158 (n := 0) (r := 4) hz_X3_rowOf_0 rfl (by decide +kernel)
theorem dX3_rowOf_7 : decode cX3_rowOf 7 = .ok (.iload_n 1, 1) := dz_27 (n := 0) (r := 7) hz_X3_rowOf_0 rfl
theorem dX3_rowOf_8 : decode cX3_rowOf 8 = .ok (.aload_n 0, 1) := dz_42 (n := 0) (r := 8) hz_X3_rowOf_0 rfl
theorem dX3_rowOf_9 : decode cX3_rowOf 9 = .ok (.getfield 30, 3) := dz_180 (n := 0) (r := 9) hz_X3_rowOf_0 rfl rfl
theorem dX3_rowOf_12 : decode cX3_rowOf 12 = .ok (.idiv, 1) := dz_108 (n := 0) (r := 12) hz_X3_rowOf_0 rfl
theorem dX3_rowOf_13 : decode cX3_rowOf 13 = .ok (.goto 4, 3) := dz_167 (n := 0) (r := 13) hz_X3_rowOf_0 rfl (by decide +kernel)
theorem dX3_rowOf_16 : decode cX3_rowOf 16 = .ok (.iconst 0, 1) := dz_3 (n := 0) (r := 16) hz_X3_rowOf_0 rfl
theorem dX3_rowOf_17 : decode cX3_rowOf 17 = .ok (.ireturn, 1) := dz_172 (n := 0) (r := 17) hz_X3_rowOf_0 rfl
theorem hz_X3_columnOf_0 : (cX3_columnOf.data.toList.drop 0).take 40 = [42, 180, 0, 30, 158, 0, 12, 27, 42, 180, 0, 30, 112, 167, 0, 4, 3, 172] := by decide +kernel
theorem dX3_columnOf_0 : decode cX3_columnOf 0 = .ok (.aload_n 0, 1) := dz_42 (n := 0) (r := 0) hz_X3_columnOf_0 rfl
theorem dX3_columnOf_1 : decode cX3_columnOf 1 = .ok (.getfield 30, 3) := dz_180 (n := 0) (r := 1) hz_X3_columnOf_0 rfl rfl
theorem dX3_columnOf_4 : decode cX3_columnOf 4 = .ok (.ifCond .le 12, 3) := dz_158 (n := 0) (r := 4) hz_X3_columnOf_0 rfl (by decide +kernel)
theorem dX3_columnOf_7 : decode cX3_columnOf 7 = .ok (.iload_n 1, 1) := dz_27 (n := 0) (r := 7) hz_X3_columnOf_0 rfl
theorem dX3_columnOf_8 : decode cX3_columnOf 8 = .ok (.aload_n 0, 1) := dz_42 (n := 0) (r := 8) hz_X3_columnOf_0 rfl
theorem dX3_columnOf_9 : decode cX3_columnOf 9 = .ok (.getfield 30, 3) := dz_180 (n := 0) (r := 9) hz_X3_columnOf_0 rfl rfl
theorem dX3_columnOf_12 : decode cX3_columnOf 12 = .ok (.irem, 1) := dz_112 (n := 0) (r := 12) hz_X3_columnOf_0 rfl
theorem dX3_columnOf_13 : decode cX3_columnOf 13 = .ok (.goto 4, 3) := dz_167 (n := 0) (r := 13) hz_X3_columnOf_0 rfl (by decide +kernel)
theorem dX3_columnOf_16 : decode cX3_columnOf 16 = .ok (.iconst 0, 1) := dz_3 (n := 0) (r := 16) hz_X3_columnOf_0 rfl
theorem dX3_columnOf_17 : decode cX3_columnOf 17 = .ok (.ireturn, 1) := dz_172 (n := 0) (r := 17) hz_X3_columnOf_0 rfl
theorem hz_X3_tiePlace_0 : (cX3_tiePlace.data.toList.drop 0).take 40 = [42, 27, 182, 0, 55, 154, 0, 5, 2, 172, 28, 153, 0, 10, 16, 16, 27, 96, 167, 0, 4, 27, 62, 42, 29, 182, 0, 59, 2, 160, 0, 7, 2, 167, 0, 4, 29, 172] := by decide +kernel
theorem dX3_tiePlace_0 : decode cX3_tiePlace 0 = .ok (.aload_n 0, 1) := dz_42 (n := 0) (r := 0) hz_X3_tiePlace_0 rfl
theorem dX3_tiePlace_1 : decode cX3_tiePlace 1 = .ok (.iload_n 1, 1) := dz_27 (n := 0) (r := 1) hz_X3_tiePlace_0 rfl
theorem dX3_tiePlace_2 : decode cX3_tiePlace 2 = .ok (.invokevirtual 55, 3) := dz_182 (n := 0) (r := 2) hz_X3_tiePlace_0 rfl rfl
theorem dX3_tiePlace_5 : decode cX3_tiePlace 5 = .ok (.ifCond .ne 5, 3) := dz_154 (n := 0) (r := 5) hz_X3_tiePlace_0 rfl (by decide +kernel)
theorem dX3_tiePlace_8 : decode cX3_tiePlace 8 = .ok (.iconst (-1), 1) := dz_2 (n := 0) (r := 8) hz_X3_tiePlace_0 rfl
theorem dX3_tiePlace_9 : decode cX3_tiePlace 9 = .ok (.ireturn, 1) := dz_172 (n := 0) (r := 9) hz_X3_tiePlace_0 rfl
theorem dX3_tiePlace_10 : decode cX3_tiePlace 10 = .ok (.iload_n 2, 1) := dz_28 (n := 0) (r := 10) hz_X3_tiePlace_0 rfl
theorem dX3_tiePlace_11 : decode cX3_tiePlace 11 = .ok (.ifCond .eq 10, 3) := dz_153 (n := 0) (r := 11) hz_X3_tiePlace_0 rfl (by decide +kernel)
theorem dX3_tiePlace_14 : decode cX3_tiePlace 14 = .ok (.bipush 16, 2) := dz_16 (n := 0) (r := 14) hz_X3_tiePlace_0 rfl rfl
theorem dX3_tiePlace_16 : decode cX3_tiePlace 16 = .ok (.iload_n 1, 1) := dz_27 (n := 0) (r := 16) hz_X3_tiePlace_0 rfl
theorem dX3_tiePlace_17 : decode cX3_tiePlace 17 = .ok (.iadd, 1) := dz_96 (n := 0) (r := 17) hz_X3_tiePlace_0 rfl
theorem dX3_tiePlace_18 : decode cX3_tiePlace 18 = .ok (.goto 4, 3) := dz_167 (n := 0) (r := 18) hz_X3_tiePlace_0 rfl (by decide +kernel)
theorem dX3_tiePlace_21 : decode cX3_tiePlace 21 = .ok (.iload_n 1, 1) := dz_27 (n := 0) (r := 21) hz_X3_tiePlace_0 rfl
theorem dX3_tiePlace_22 : decode cX3_tiePlace 22 = .ok (.istore_n 3, 1) := dz_62 (n := 0) (r := 22) hz_X3_tiePlace_0 rfl
theorem dX3_tiePlace_23 : decode cX3_tiePlace 23 = .ok (.aload_n 0, 1) := dz_42 (n := 0) (r := 23) hz_X3_tiePlace_0 rfl
theorem dX3_tiePlace_24 : decode cX3_tiePlace 24 = .ok (.iload_n 3, 1) := dz_29 (n := 0) (r := 24) hz_X3_tiePlace_0 rfl
theorem dX3_tiePlace_25 : decode cX3_tiePlace 25 = .ok (.invokevirtual 59, 3) := dz_182 (n := 0) (r := 25) hz_X3_tiePlace_0 rfl rfl
theorem dX3_tiePlace_28 : decode cX3_tiePlace 28 = .ok (.iconst (-1), 1) := dz_2 (n := 0) (r := 28) hz_X3_tiePlace_0 rfl
theorem dX3_tiePlace_29 : decode cX3_tiePlace 29 = .ok (.if_icmp .ne 7, 3) := dz_160 (n := 0) (r := 29) hz_X3_tiePlace_0 rfl (by decide +kernel)
theorem hz_X3_tiePlace_32 : (cX3_tiePlace.data.toList.drop 32).take 40 = [2, 167, 0, 4, 29, 172] := by decide +kernel
theorem dX3_tiePlace_32 : decode cX3_tiePlace 32 = .ok (.iconst (-1), 1) := dz_2 (n := 32) (r := 0) hz_X3_tiePlace_32 rfl
theorem dX3_tiePlace_33 : decode cX3_tiePlace 33 = .ok (.goto 4, 3) := dz_167 (n := 32) (r := 1) hz_X3_tiePlace_32 rfl (by decide +kernel)
theorem dX3_tiePlace_36 : decode cX3_tiePlace 36 = .ok (.iload_n 3, 1) := dz_29 (n := 32) (r := 4) hz_X3_tiePlace_32 rfl
theorem dX3_tiePlace_37 : decode cX3_tiePlace 37 = .ok (.ireturn, 1) := dz_172 (n := 32) (r := 5) hz_X3_tiePlace_32 rfl
theorem hz_X3_countTies_0 : (cX3_countTies.data.toList.drop 0).take 40 = [3, 60, 3, 61, 28, 16, 32, 162, 0, 21, 42, 28, 182, 0, 59, 2, 159, 0, 6, 132, 1, 1, 132, 2, 1, 167, 255, 235, 27, 172] := by decide +kernel
theorem dX3_countTies_0 : decode cX3_countTies 0 = .ok (.iconst 0, 1) := dz_3 (n := 0) (r := 0) hz_X3_countTies_0 rfl
theorem dX3_countTies_1 : decode cX3_countTies 1 = .ok (.istore_n 1, 1) := dz_60 (n := 0) (r := 1) hz_X3_countTies_0 rfl
theorem dX3_countTies_2 : decode cX3_countTies 2 = .ok (.iconst 0, 1) := dz_3 (n := 0) (r := 2) hz_X3_countTies_0 rfl
theorem dX3_countTies_3 : decode cX3_countTies 3 = .ok (.istore_n 2, 1) := dz_61 (n := 0) (r := 3) hz_X3_countTies_0 rfl
theorem dX3_countTies_4 : decode cX3_countTies 4 = .ok (.iload_n 2, 1) := dz_28 (n := 0) (r := 4) hz_X3_countTies_0 rfl
theorem dX3_countTies_5 : decode cX3_countTies 5 = .ok (.bipush 32, 2) := dz_16 (n := 0) (r := 5) hz_X3_countTies_0 rfl rfl
theorem dX3_countTies_7 : decode cX3_countTies 7 = .ok (.if_icmp .ge 21, 3) := dz_162 (n := 0) (r := 7) hz_X3_countTies_0 rfl (by decide +kernel)
theorem dX3_countTies_10 : decode cX3_countTies 10 = .ok (.aload_n 0, 1) := dz_42 (n := 0) (r := 10) hz_X3_countTies_0 rfl
theorem dX3_countTies_11 : decode cX3_countTies 11 = .ok (.iload_n 2, 1) := dz_28 (n := 0) (r := 11) hz_X3_countTies_0 rfl
theorem dX3_countTies_12 : decode cX3_countTies 12 = .ok (.invokevirtual 59, 3) := dz_182 (n := 0) (r := 12) hz_X3_countTies_0 rfl rfl
theorem dX3_countTies_15 : decode cX3_countTies 15 = .ok (.iconst (-1), 1) := dz_2 (n := 0) (r := 15) hz_X3_countTies_0 rfl
theorem dX3_countTies_16 : decode cX3_countTies 16 = .ok (.if_icmp .eq 6, 3) := dz_159 (n := 0) (r := 16) hz_X3_countTies_0 rfl (by decide +kernel)
theorem dX3_countTies_19 : decode cX3_countTies 19 = .ok (.iinc 1 1, 3) := dz_132 (n := 0) (r := 19) hz_X3_countTies_0 rfl rfl rfl
theorem dX3_countTies_22 : decode cX3_countTies 22 = .ok (.iinc 2 1, 3) := dz_132 (n := 0) (r := 22) hz_X3_countTies_0 rfl rfl rfl
theorem dX3_countTies_25 : decode cX3_countTies 25 = .ok (.goto (-21), 3) := dz_167 (n := 0) (r := 25) hz_X3_countTies_0 rfl (by decide +kernel)
theorem dX3_countTies_28 : decode cX3_countTies 28 = .ok (.iload_n 1, 1) := dz_27 (n := 0) (r := 28) hz_X3_countTies_0 rfl
theorem dX3_countTies_29 : decode cX3_countTies 29 = .ok (.ireturn, 1) := dz_172 (n := 0) (r := 29) hz_X3_countTies_0 rfl
theorem hz_X3_isAlike_0 : (cX3_isAlike.data.toList.drop 0).take 40 = [27, 28, 184, 0, 47, 184, 0, 62, 27, 42, 28, 182, 0, 59, 184, 0, 62, 160, 0, 7, 4, 167, 0, 4, 3, 172] := by decide +kernel
theorem dX3_isAlike_0 : decode cX3_isAlike 0 = .ok (.iload_n 1, 1) := dz_27 (n := 0) (r := 0) hz_X3_isAlike_0 rfl
theorem dX3_isAlike_1 : decode cX3_isAlike 1 = .ok (.iload_n 2, 1) := dz_28 (n := 0) (r := 1) hz_X3_isAlike_0 rfl
theorem dX3_isAlike_2 : decode cX3_isAlike 2 = .ok (.invokestatic 47, 3) := dz_184 (n := 0) (r := 2) hz_X3_isAlike_0 rfl rfl
theorem dX3_isAlike_5 : decode cX3_isAlike 5 = .ok (.invokestatic 62, 3) := dz_184 (n := 0) (r := 5) hz_X3_isAlike_0 rfl rfl
theorem dX3_isAlike_8 : decode cX3_isAlike 8 = .ok (.iload_n 1, 1) := dz_27 (n := 0) (r := 8) hz_X3_isAlike_0 rfl
theorem dX3_isAlike_9 : decode cX3_isAlike 9 = .ok (.aload_n 0, 1) := dz_42 (n := 0) (r := 9) hz_X3_isAlike_0 rfl
theorem dX3_isAlike_10 : decode cX3_isAlike 10 = .ok (.iload_n 2, 1) := dz_28 (n := 0) (r := 10) hz_X3_isAlike_0 rfl
theorem dX3_isAlike_11 : decode cX3_isAlike 11 = .ok (.invokevirtual 59, 3) := dz_182 (n := 0) (r := 11) hz_X3_isAlike_0 rfl rfl
theorem dX3_isAlike_14 : decode cX3_isAlike 14 = .ok (.invokestatic 62, 3) := dz_184 (n := 0) (r := 14) hz_X3_isAlike_0 rfl rfl
theorem dX3_isAlike_17 : decode cX3_isAlike 17 = .ok (.if_icmp .ne 7, 3) := dz_160 (n := 0) (r := 17) hz_X3_isAlike_0 rfl (by decide +kernel)
theorem dX3_isAlike_20 : decode cX3_isAlike 20 = .ok (.iconst 1, 1) := dz_4 (n := 0) (r := 20) hz_X3_isAlike_0 rfl
theorem dX3_isAlike_21 : decode cX3_isAlike 21 = .ok (.goto 4, 3) := dz_167 (n := 0) (r := 21) hz_X3_isAlike_0 rfl (by decide +kernel)
theorem dX3_isAlike_24 : decode cX3_isAlike 24 = .ok (.iconst 0, 1) := dz_3 (n := 0) (r := 24) hz_X3_isAlike_0 rfl
theorem dX3_isAlike_25 : decode cX3_isAlike 25 = .ok (.ireturn, 1) := dz_172 (n := 0) (r := 25) hz_X3_isAlike_0 rfl
theorem hz_X3_energyOf_0 : (cX3_energyOf.data.toList.drop 0).take 40 = [3, 62, 3, 54, 4, 21, 4, 16, 32, 162, 0, 48, 42, 21, 4, 182, 0, 59, 2, 159, 0, 32, 29, 42, 28, 21, 4, 182, 0, 66, 153, 0, 13, 43, 21, 4, 182, 0, 70, 116] := by decide +kernel
theorem dX3_energyOf_0 : decode cX3_energyOf 0 = .ok (.iconst 0, 1) := dz_3 (n := 0) (r := 0) hz_X3_energyOf_0 rfl
theorem dX3_energyOf_1 : decode cX3_energyOf 1 = .ok (.istore_n 3, 1) := dz_62 (n := 0) (r := 1) hz_X3_energyOf_0 rfl
theorem dX3_energyOf_2 : decode cX3_energyOf 2 = .ok (.iconst 0, 1) := dz_3 (n := 0) (r := 2) hz_X3_energyOf_0 rfl
theorem dX3_energyOf_3 : decode cX3_energyOf 3 = .ok (.istore 4, 2) := dz_54 (n := 0) (r := 3) hz_X3_energyOf_0 rfl rfl
theorem dX3_energyOf_5 : decode cX3_energyOf 5 = .ok (.iload 4, 2) := dz_21 (n := 0) (r := 5) hz_X3_energyOf_0 rfl rfl
theorem dX3_energyOf_7 : decode cX3_energyOf 7 = .ok (.bipush 32, 2) := dz_16 (n := 0) (r := 7) hz_X3_energyOf_0 rfl rfl
theorem dX3_energyOf_9 : decode cX3_energyOf 9 = .ok (.if_icmp .ge 48, 3) := dz_162 (n := 0) (r := 9) hz_X3_energyOf_0 rfl (by decide +kernel)
theorem dX3_energyOf_12 : decode cX3_energyOf 12 = .ok (.aload_n 0, 1) := dz_42 (n := 0) (r := 12) hz_X3_energyOf_0 rfl
theorem dX3_energyOf_13 : decode cX3_energyOf 13 = .ok (.iload 4, 2) := dz_21 (n := 0) (r := 13) hz_X3_energyOf_0 rfl rfl
theorem dX3_energyOf_15 : decode cX3_energyOf 15 = .ok (.invokevirtual 59, 3) := dz_182 (n := 0) (r := 15) hz_X3_energyOf_0 rfl rfl
theorem dX3_energyOf_18 : decode cX3_energyOf 18 = .ok (.iconst (-1), 1) := dz_2 (n := 0) (r := 18) hz_X3_energyOf_0 rfl
theorem dX3_energyOf_19 : decode cX3_energyOf 19 = .ok (.if_icmp .eq 32, 3) := dz_159 (n := 0) (r := 19) hz_X3_energyOf_0 rfl (by decide +kernel)
theorem dX3_energyOf_22 : decode cX3_energyOf 22 = .ok (.iload_n 3, 1) := dz_29 (n := 0) (r := 22) hz_X3_energyOf_0 rfl
theorem dX3_energyOf_23 : decode cX3_energyOf 23 = .ok (.aload_n 0, 1) := dz_42 (n := 0) (r := 23) hz_X3_energyOf_0 rfl
theorem dX3_energyOf_24 : decode cX3_energyOf 24 = .ok (.iload_n 2, 1) := dz_28 (n := 0) (r := 24) hz_X3_energyOf_0 rfl
theorem dX3_energyOf_25 : decode cX3_energyOf 25 = .ok (.iload 4, 2) := dz_21 (n := 0) (r := 25) hz_X3_energyOf_0 rfl rfl
theorem dX3_energyOf_27 : decode cX3_energyOf 27 = .ok (.invokevirtual 66, 3) := dz_182 (n := 0) (r := 27) hz_X3_energyOf_0 rfl rfl
theorem dX3_energyOf_30 : decode cX3_energyOf 30 = .ok (.ifCond .eq 13, 3) := dz_153 (n := 0) (r := 30) hz_X3_energyOf_0 rfl (by decide +kernel)
theorem hz_X3_energyOf_32 : (cX3_energyOf.data.toList.drop 32).take 40 = [13, 43, 21, 4, 182, 0, 70, 116, 167, 0, 9, 43, 21, 4, 182, 0, 70, 96, 62, 132, 4, 1, 167, 255, 207, 3, 54, 4, 21, 4, 42, 180, 0, 40, 162, 0, 38, 29, 28, 21] := by decide +kernel
theorem dX3_energyOf_33 : decode cX3_energyOf 33 = .ok (.aload_n 1, 1) := dz_43 (n := 32) (r := 1) hz_X3_energyOf_32 rfl
theorem dX3_energyOf_34 : decode cX3_energyOf 34 = .ok (.iload 4, 2) := dz_21 (n := 32) (r := 2) hz_X3_energyOf_32 rfl rfl
theorem dX3_energyOf_36 : decode cX3_energyOf 36 = .ok (.invokevirtual 70, 3) := dz_182 (n := 32) (r := 4) hz_X3_energyOf_32 rfl rfl
theorem dX3_energyOf_39 : decode cX3_energyOf 39 = .ok (.ineg, 1) := dz_116 (n := 32) (r := 7) hz_X3_energyOf_32 rfl
theorem dX3_energyOf_40 : decode cX3_energyOf 40 = .ok (.goto 9, 3) := dz_167 (n := 32) (r := 8) hz_X3_energyOf_32 rfl (by decide +kernel)
theorem dX3_energyOf_43 : decode cX3_energyOf 43 = .ok (.aload_n 1, 1) := dz_43 (n := 32) (r := 11) hz_X3_energyOf_32 rfl
theorem dX3_energyOf_44 : decode cX3_energyOf 44 = .ok (.iload 4, 2) := dz_21 (n := 32) (r := 12) hz_X3_energyOf_32 rfl rfl
theorem dX3_energyOf_46 : decode cX3_energyOf 46 = .ok (.invokevirtual 70, 3) := dz_182 (n := 32) (r := 14) hz_X3_energyOf_32 rfl rfl
theorem dX3_energyOf_49 : decode cX3_energyOf 49 = .ok (.iadd, 1) := dz_96 (n := 32) (r := 17) hz_X3_energyOf_32 rfl
theorem dX3_energyOf_50 : decode cX3_energyOf 50 = .ok (.istore_n 3, 1) := dz_62 (n := 32) (r := 18) hz_X3_energyOf_32 rfl
theorem dX3_energyOf_51 : decode cX3_energyOf 51 = .ok (.iinc 4 1, 3) := dz_132 (n := 32) (r := 19) hz_X3_energyOf_32 rfl rfl rfl
theorem dX3_energyOf_54 : decode cX3_energyOf 54 = .ok (.goto (-49), 3) := dz_167 (n := 32) (r := 22) hz_X3_energyOf_32 rfl (by decide +kernel)
theorem dX3_energyOf_57 : decode cX3_energyOf 57 = .ok (.iconst 0, 1) := dz_3 (n := 32) (r := 25) hz_X3_energyOf_32 rfl
theorem dX3_energyOf_58 : decode cX3_energyOf 58 = .ok (.istore 4, 2) := dz_54 (n := 32) (r := 26) hz_X3_energyOf_32 rfl rfl
theorem dX3_energyOf_60 : decode cX3_energyOf 60 = .ok (.iload 4, 2) := dz_21 (n := 32) (r := 28) hz_X3_energyOf_32 rfl rfl
theorem dX3_energyOf_62 : decode cX3_energyOf 62 = .ok (.aload_n 0, 1) := dz_42 (n := 32) (r := 30) hz_X3_energyOf_32 rfl
theorem dX3_energyOf_63 : decode cX3_energyOf 63 = .ok (.getfield 40, 3) := dz_180 (n := 32) (r := 31) hz_X3_energyOf_32 rfl rfl
theorem hz_X3_energyOf_64 : (cX3_energyOf.data.toList.drop 64).take 40 = [0, 40, 162, 0, 38, 29, 28, 21, 4, 184, 0, 62, 4, 160, 0, 13, 43, 21, 4, 182, 0, 75, 116, 167, 0, 9, 43, 21, 4, 182, 0, 75, 96, 62, 132, 4, 1, 167, 255, 215] := by decide +kernel
theorem dX3_energyOf_66 : decode cX3_energyOf 66 = .ok (.if_icmp .ge 38, 3) := dz_162 (n := 64) (r := 2) hz_X3_energyOf_64 rfl (by decide +kernel)
theorem dX3_energyOf_69 : decode cX3_energyOf 69 = .ok (.iload_n 3, 1) := dz_29 (n := 64) (r := 5) hz_X3_energyOf_64 rfl
theorem dX3_energyOf_70 : decode cX3_energyOf 70 = .ok (.iload_n 2, 1) := dz_28 (n := 64) (r := 6) hz_X3_energyOf_64 rfl
theorem dX3_energyOf_71 : decode cX3_energyOf 71 = .ok (.iload 4, 2) := dz_21 (n := 64) (r := 7) hz_X3_energyOf_64 rfl rfl
theorem dX3_energyOf_73 : decode cX3_energyOf 73 = .ok (.invokestatic 62, 3) := dz_184 (n := 64) (r := 9) hz_X3_energyOf_64 rfl rfl
theorem dX3_energyOf_76 : decode cX3_energyOf 76 = .ok (.iconst 1, 1) := dz_4 (n := 64) (r := 12) hz_X3_energyOf_64 rfl
theorem dX3_energyOf_77 : decode cX3_energyOf 77 = .ok (.if_icmp .ne 13, 3) := dz_160 (n := 64) (r := 13) hz_X3_energyOf_64 rfl (by decide +kernel)
theorem dX3_energyOf_80 : decode cX3_energyOf 80 = .ok (.aload_n 1, 1) := dz_43 (n := 64) (r := 16) hz_X3_energyOf_64 rfl
theorem dX3_energyOf_81 : decode cX3_energyOf 81 = .ok (.iload 4, 2) := dz_21 (n := 64) (r := 17) hz_X3_energyOf_64 rfl rfl
theorem dX3_energyOf_83 : decode cX3_energyOf 83 = .ok (.invokevirtual 75, 3) := dz_182 (n := 64) (r := 19) hz_X3_energyOf_64 rfl rfl
theorem dX3_energyOf_86 : decode cX3_energyOf 86 = .ok (.ineg, 1) := dz_116 (n := 64) (r := 22) hz_X3_energyOf_64 rfl
theorem dX3_energyOf_87 : decode cX3_energyOf 87 = .ok (.goto 9, 3) := dz_167 (n := 64) (r := 23) hz_X3_energyOf_64 rfl (by decide +kernel)
theorem dX3_energyOf_90 : decode cX3_energyOf 90 = .ok (.aload_n 1, 1) := dz_43 (n := 64) (r := 26) hz_X3_energyOf_64 rfl
theorem dX3_energyOf_91 : decode cX3_energyOf 91 = .ok (.iload 4, 2) := dz_21 (n := 64) (r := 27) hz_X3_energyOf_64 rfl rfl
theorem dX3_energyOf_93 : decode cX3_energyOf 93 = .ok (.invokevirtual 75, 3) := dz_182 (n := 64) (r := 29) hz_X3_energyOf_64 rfl rfl
theorem hz_X3_energyOf_96 : (cX3_energyOf.data.toList.drop 96).take 40 = [96, 62, 132, 4, 1, 167, 255, 215, 29, 172] := by decide +kernel
theorem dX3_energyOf_96 : decode cX3_energyOf 96 = .ok (.iadd, 1) := dz_96 (n := 96) (r := 0) hz_X3_energyOf_96 rfl
theorem dX3_energyOf_97 : decode cX3_energyOf 97 = .ok (.istore_n 3, 1) := dz_62 (n := 96) (r := 1) hz_X3_energyOf_96 rfl
theorem dX3_energyOf_98 : decode cX3_energyOf 98 = .ok (.iinc 4 1, 3) := dz_132 (n := 96) (r := 2) hz_X3_energyOf_96 rfl rfl rfl
theorem dX3_energyOf_101 : decode cX3_energyOf 101 = .ok (.goto (-41), 3) := dz_167 (n := 96) (r := 5) hz_X3_energyOf_96 rfl (by decide +kernel)
theorem dX3_energyOf_104 : decode cX3_energyOf 104 = .ok (.iload_n 3, 1) := dz_29 (n := 96) (r := 8) hz_X3_energyOf_96 rfl
theorem dX3_energyOf_105 : decode cX3_energyOf 105 = .ok (.ireturn, 1) := dz_172 (n := 96) (r := 9) hz_X3_energyOf_96 rfl
theorem hz_X3_brokenOf_0 : (cX3_brokenOf.data.toList.drop 0).take 40 = [3, 62, 3, 54, 4, 21, 4, 16, 32, 162, 0, 55, 43, 21, 4, 182, 0, 70, 54, 5, 42, 21, 4, 182, 0, 59, 2, 159, 0, 31, 21, 5, 153, 0, 26, 42, 28, 21, 4, 182] := by decide +kernel
theorem dX3_brokenOf_0 : decode cX3_brokenOf 0 = .ok (.iconst 0, 1) := dz_3 (n := 0) (r := 0) hz_X3_brokenOf_0 rfl
theorem dX3_brokenOf_1 : decode cX3_brokenOf 1 = .ok (.istore_n 3, 1) := dz_62 (n := 0) (r := 1) hz_X3_brokenOf_0 rfl
theorem dX3_brokenOf_2 : decode cX3_brokenOf 2 = .ok (.iconst 0, 1) := dz_3 (n := 0) (r := 2) hz_X3_brokenOf_0 rfl
theorem dX3_brokenOf_3 : decode cX3_brokenOf 3 = .ok (.istore 4, 2) := dz_54 (n := 0) (r := 3) hz_X3_brokenOf_0 rfl rfl
theorem dX3_brokenOf_5 : decode cX3_brokenOf 5 = .ok (.iload 4, 2) := dz_21 (n := 0) (r := 5) hz_X3_brokenOf_0 rfl rfl
theorem dX3_brokenOf_7 : decode cX3_brokenOf 7 = .ok (.bipush 32, 2) := dz_16 (n := 0) (r := 7) hz_X3_brokenOf_0 rfl rfl
theorem dX3_brokenOf_9 : decode cX3_brokenOf 9 = .ok (.if_icmp .ge 55, 3) := dz_162 (n := 0) (r := 9) hz_X3_brokenOf_0 rfl (by decide +kernel)
theorem dX3_brokenOf_12 : decode cX3_brokenOf 12 = .ok (.aload_n 1, 1) := dz_43 (n := 0) (r := 12) hz_X3_brokenOf_0 rfl
theorem dX3_brokenOf_13 : decode cX3_brokenOf 13 = .ok (.iload 4, 2) := dz_21 (n := 0) (r := 13) hz_X3_brokenOf_0 rfl rfl
theorem dX3_brokenOf_15 : decode cX3_brokenOf 15 = .ok (.invokevirtual 70, 3) := dz_182 (n := 0) (r := 15) hz_X3_brokenOf_0 rfl rfl
theorem dX3_brokenOf_18 : decode cX3_brokenOf 18 = .ok (.istore 5, 2) := dz_54 (n := 0) (r := 18) hz_X3_brokenOf_0 rfl rfl
theorem dX3_brokenOf_20 : decode cX3_brokenOf 20 = .ok (.aload_n 0, 1) := dz_42 (n := 0) (r := 20) hz_X3_brokenOf_0 rfl
theorem dX3_brokenOf_21 : decode cX3_brokenOf 21 = .ok (.iload 4, 2) := dz_21 (n := 0) (r := 21) hz_X3_brokenOf_0 rfl rfl
theorem dX3_brokenOf_23 : decode cX3_brokenOf 23 = .ok (.invokevirtual 59, 3) := dz_182 (n := 0) (r := 23) hz_X3_brokenOf_0 rfl rfl
theorem dX3_brokenOf_26 : decode cX3_brokenOf 26 = .ok (.iconst (-1), 1) := dz_2 (n := 0) (r := 26) hz_X3_brokenOf_0 rfl
theorem dX3_brokenOf_27 : decode cX3_brokenOf 27 = .ok (.if_icmp .eq 31, 3) := dz_159 (n := 0) (r := 27) hz_X3_brokenOf_0 rfl (by decide +kernel)
theorem dX3_brokenOf_30 : decode cX3_brokenOf 30 = .ok (.iload 5, 2) := dz_21 (n := 0) (r := 30) hz_X3_brokenOf_0 rfl rfl
theorem hz_X3_brokenOf_32 : (cX3_brokenOf.data.toList.drop 32).take 40 = [153, 0, 26, 42, 28, 21, 4, 182, 0, 66, 21, 5, 156, 0, 7, 4, 167, 0, 4, 3, 160, 0, 6, 132, 3, 1, 132, 4, 1, 167, 255, 200, 29, 172] := by decide +kernel
theorem dX3_brokenOf_32 : decode cX3_brokenOf 32 = .ok (.ifCond .eq 26, 3) := dz_153 (n := 32) (r := 0) hz_X3_brokenOf_32 rfl (by decide +kernel)
theorem dX3_brokenOf_35 : decode cX3_brokenOf 35 = .ok (.aload_n 0, 1) := dz_42 (n := 32) (r := 3) hz_X3_brokenOf_32 rfl
theorem dX3_brokenOf_36 : decode cX3_brokenOf 36 = .ok (.iload_n 2, 1) := dz_28 (n := 32) (r := 4) hz_X3_brokenOf_32 rfl
theorem dX3_brokenOf_37 : decode cX3_brokenOf 37 = .ok (.iload 4, 2) := dz_21 (n := 32) (r := 5) hz_X3_brokenOf_32 rfl rfl
theorem dX3_brokenOf_39 : decode cX3_brokenOf 39 = .ok (.invokevirtual 66, 3) := dz_182 (n := 32) (r := 7) hz_X3_brokenOf_32 rfl rfl
theorem dX3_brokenOf_42 : decode cX3_brokenOf 42 = .ok (.iload 5, 2) := dz_21 (n := 32) (r := 10) hz_X3_brokenOf_32 rfl rfl
theorem dX3_brokenOf_44 : decode cX3_brokenOf 44 = .ok (.ifCond .ge 7, 3) := dz_156 (n := 32) (r := 12) hz_X3_brokenOf_32 rfl (by decide +kernel)
theorem dX3_brokenOf_47 : decode cX3_brokenOf 47 = .ok (.iconst 1, 1) := dz_4 (n := 32) (r := 15) hz_X3_brokenOf_32 rfl
theorem dX3_brokenOf_48 : decode cX3_brokenOf 48 = .ok (.goto 4, 3) := dz_167 (n := 32) (r := 16) hz_X3_brokenOf_32 rfl (by decide +kernel)
theorem dX3_brokenOf_51 : decode cX3_brokenOf 51 = .ok (.iconst 0, 1) := dz_3 (n := 32) (r := 19) hz_X3_brokenOf_32 rfl
theorem dX3_brokenOf_52 : decode cX3_brokenOf 52 = .ok (.if_icmp .ne 6, 3) := dz_160 (n := 32) (r := 20) hz_X3_brokenOf_32 rfl (by decide +kernel)
theorem dX3_brokenOf_55 : decode cX3_brokenOf 55 = .ok (.iinc 3 1, 3) := dz_132 (n := 32) (r := 23) hz_X3_brokenOf_32 rfl rfl rfl
theorem dX3_brokenOf_58 : decode cX3_brokenOf 58 = .ok (.iinc 4 1, 3) := dz_132 (n := 32) (r := 26) hz_X3_brokenOf_32 rfl rfl rfl
theorem dX3_brokenOf_61 : decode cX3_brokenOf 61 = .ok (.goto (-56), 3) := dz_167 (n := 32) (r := 29) hz_X3_brokenOf_32 rfl (by decide +kernel)
theorem hz_X3_brokenOf_64 : (cX3_brokenOf.data.toList.drop 64).take 40 = [29, 172] := by decide +kernel
theorem dX3_brokenOf_64 : decode cX3_brokenOf 64 = .ok (.iload_n 3, 1) := dz_29 (n := 64) (r := 0) hz_X3_brokenOf_64 rfl
theorem dX3_brokenOf_65 : decode cX3_brokenOf 65 = .ok (.ireturn, 1) := dz_172 (n := 64) (r := 1) hz_X3_brokenOf_64 rfl
theorem hz_X3_costOfTurn_0 : (cX3_costOfTurn.data.toList.drop 0).take 40 = [29, 155, 0, 9, 29, 16, 16, 161, 0, 5, 3, 172, 43, 29, 182, 0, 75, 54, 4, 7, 29, 104, 54, 5, 21, 5, 54, 6, 21, 6, 21, 5, 42, 180, 0, 21, 29, 46, 96, 162] := by decide +kernel
theorem dX3_costOfTurn_0 : decode cX3_costOfTurn 0 = .ok (.iload_n 3, 1) := dz_29 (n := 0) (r := 0) hz_X3_costOfTurn_0 rfl
theorem dX3_costOfTurn_1 : decode cX3_costOfTurn 1 = .ok (.ifCond .lt 9, 3) := dz_155 (n := 0) (r := 1) hz_X3_costOfTurn_0 rfl (by decide +kernel)
theorem dX3_costOfTurn_4 : decode cX3_costOfTurn 4 = .ok (.iload_n 3, 1) := dz_29 (n := 0) (r := 4) hz_X3_costOfTurn_0 rfl
theorem dX3_costOfTurn_5 : decode cX3_costOfTurn 5 = .ok (.bipush 16, 2) := dz_16 (n := 0) (r := 5) hz_X3_costOfTurn_0 rfl rfl
theorem dX3_costOfTurn_7 : decode cX3_costOfTurn 7 = .ok (.if_icmp .lt 5, 3) := dz_161 (n := 0) (r := 7) hz_X3_costOfTurn_0 rfl (by decide +kernel)
theorem dX3_costOfTurn_10 : decode cX3_costOfTurn 10 = .ok (.iconst 0, 1) := dz_3 (n := 0) (r := 10) hz_X3_costOfTurn_0 rfl
theorem dX3_costOfTurn_11 : decode cX3_costOfTurn 11 = .ok (.ireturn, 1) := dz_172 (n := 0) (r := 11) hz_X3_costOfTurn_0 rfl
theorem dX3_costOfTurn_12 : decode cX3_costOfTurn 12 = .ok (.aload_n 1, 1) := dz_43 (n := 0) (r := 12) hz_X3_costOfTurn_0 rfl
theorem dX3_costOfTurn_13 : decode cX3_costOfTurn 13 = .ok (.iload_n 3, 1) := dz_29 (n := 0) (r := 13) hz_X3_costOfTurn_0 rfl
theorem dX3_costOfTurn_14 : decode cX3_costOfTurn 14 = .ok (.invokevirtual 75, 3) := dz_182 (n := 0) (r := 14) hz_X3_costOfTurn_0 rfl rfl
theorem dX3_costOfTurn_17 : decode cX3_costOfTurn 17 = .ok (.istore 4, 2) := dz_54 (n := 0) (r := 17) hz_X3_costOfTurn_0 rfl rfl
theorem dX3_costOfTurn_19 : decode cX3_costOfTurn 19 = .ok (.iconst 4, 1) := dz_7 (n := 0) (r := 19) hz_X3_costOfTurn_0 rfl
theorem dX3_costOfTurn_20 : decode cX3_costOfTurn 20 = .ok (.iload_n 3, 1) := dz_29 (n := 0) (r := 20) hz_X3_costOfTurn_0 rfl
theorem dX3_costOfTurn_21 : decode cX3_costOfTurn 21 = .ok (.imul, 1) := dz_104 (n := 0) (r := 21) hz_X3_costOfTurn_0 rfl
theorem dX3_costOfTurn_22 : decode cX3_costOfTurn 22 = .ok (.istore 5, 2) := dz_54 (n := 0) (r := 22) hz_X3_costOfTurn_0 rfl rfl
theorem dX3_costOfTurn_24 : decode cX3_costOfTurn 24 = .ok (.iload 5, 2) := dz_21 (n := 0) (r := 24) hz_X3_costOfTurn_0 rfl rfl
theorem dX3_costOfTurn_26 : decode cX3_costOfTurn 26 = .ok (.istore 6, 2) := dz_54 (n := 0) (r := 26) hz_X3_costOfTurn_0 rfl rfl
theorem dX3_costOfTurn_28 : decode cX3_costOfTurn 28 = .ok (.iload 6, 2) := dz_21 (n := 0) (r := 28) hz_X3_costOfTurn_0 rfl rfl
theorem dX3_costOfTurn_30 : decode cX3_costOfTurn 30 = .ok (.iload 5, 2) := dz_21 (n := 0) (r := 30) hz_X3_costOfTurn_0 rfl rfl
theorem hz_X3_costOfTurn_32 : (cX3_costOfTurn.data.toList.drop 32).take 40 = [42, 180, 0, 21, 29, 46, 96, 162, 0, 60, 21, 6, 42, 180, 0, 15, 190, 162, 0, 50, 43, 42, 180, 0, 18, 21, 6, 46, 182, 0, 70, 54, 7, 21, 4, 28, 42, 180, 0, 15] := by decide +kernel
theorem dX3_costOfTurn_32 : decode cX3_costOfTurn 32 = .ok (.aload_n 0, 1) := dz_42 (n := 32) (r := 0) hz_X3_costOfTurn_32 rfl
theorem dX3_costOfTurn_33 : decode cX3_costOfTurn 33 = .ok (.getfield 21, 3) := dz_180 (n := 32) (r := 1) hz_X3_costOfTurn_32 rfl rfl
theorem dX3_costOfTurn_36 : decode cX3_costOfTurn 36 = .ok (.iload_n 3, 1) := dz_29 (n := 32) (r := 4) hz_X3_costOfTurn_32 rfl
theorem dX3_costOfTurn_37 : decode cX3_costOfTurn 37 = .ok (.iaload, 1) := dz_46 (n := 32) (r := 5) hz_X3_costOfTurn_32 rfl
theorem dX3_costOfTurn_38 : decode cX3_costOfTurn 38 = .ok (.iadd, 1) := dz_96 (n := 32) (r := 6) hz_X3_costOfTurn_32 rfl
theorem dX3_costOfTurn_39 : decode cX3_costOfTurn 39 = .ok (.if_icmp .ge 60, 3) := dz_162 (n := 32) (r := 7) hz_X3_costOfTurn_32 rfl (by decide +kernel)
theorem dX3_costOfTurn_42 : decode cX3_costOfTurn 42 = .ok (.iload 6, 2) := dz_21 (n := 32) (r := 10) hz_X3_costOfTurn_32 rfl rfl
theorem dX3_costOfTurn_44 : decode cX3_costOfTurn 44 = .ok (.aload_n 0, 1) := dz_42 (n := 32) (r := 12) hz_X3_costOfTurn_32 rfl
theorem dX3_costOfTurn_45 : decode cX3_costOfTurn 45 = .ok (.getfield 15, 3) := dz_180 (n := 32) (r := 13) hz_X3_costOfTurn_32 rfl rfl
theorem dX3_costOfTurn_48 : decode cX3_costOfTurn 48 = .ok (.arraylength, 1) := dz_190 (n := 32) (r := 16) hz_X3_costOfTurn_32 rfl
theorem dX3_costOfTurn_49 : decode cX3_costOfTurn 49 = .ok (.if_icmp .ge 50, 3) := dz_162 (n := 32) (r := 17) hz_X3_costOfTurn_32 rfl (by decide +kernel)
theorem dX3_costOfTurn_52 : decode cX3_costOfTurn 52 = .ok (.aload_n 1, 1) := dz_43 (n := 32) (r := 20) hz_X3_costOfTurn_32 rfl
theorem dX3_costOfTurn_53 : decode cX3_costOfTurn 53 = .ok (.aload_n 0, 1) := dz_42 (n := 32) (r := 21) hz_X3_costOfTurn_32 rfl
theorem dX3_costOfTurn_54 : decode cX3_costOfTurn 54 = .ok (.getfield 18, 3) := dz_180 (n := 32) (r := 22) hz_X3_costOfTurn_32 rfl rfl
theorem dX3_costOfTurn_57 : decode cX3_costOfTurn 57 = .ok (.iload 6, 2) := dz_21 (n := 32) (r := 25) hz_X3_costOfTurn_32 rfl rfl
theorem dX3_costOfTurn_59 : decode cX3_costOfTurn 59 = .ok (.iaload, 1) := dz_46 (n := 32) (r := 27) hz_X3_costOfTurn_32 rfl
theorem dX3_costOfTurn_60 : decode cX3_costOfTurn 60 = .ok (.invokevirtual 70, 3) := dz_182 (n := 32) (r := 28) hz_X3_costOfTurn_32 rfl rfl
theorem dX3_costOfTurn_63 : decode cX3_costOfTurn 63 = .ok (.istore 7, 2) := dz_54 (n := 32) (r := 31) hz_X3_costOfTurn_32 rfl rfl
theorem hz_X3_costOfTurn_64 : (cX3_costOfTurn.data.toList.drop 64).take 40 = [7, 21, 4, 28, 42, 180, 0, 15, 21, 6, 46, 184, 0, 62, 4, 160, 0, 8, 21, 7, 167, 0, 6, 21, 7, 116, 96, 54, 4, 132, 6, 1, 167, 255, 188, 28, 29, 184, 0, 62] := by decide +kernel
theorem dX3_costOfTurn_65 : decode cX3_costOfTurn 65 = .ok (.iload 4, 2) := dz_21 (n := 64) (r := 1) hz_X3_costOfTurn_64 rfl rfl
theorem dX3_costOfTurn_67 : decode cX3_costOfTurn 67 = .ok (.iload_n 2, 1) := dz_28 (n := 64) (r := 3) hz_X3_costOfTurn_64 rfl
theorem dX3_costOfTurn_68 : decode cX3_costOfTurn 68 = .ok (.aload_n 0, 1) := dz_42 (n := 64) (r := 4) hz_X3_costOfTurn_64 rfl
theorem dX3_costOfTurn_69 : decode cX3_costOfTurn 69 = .ok (.getfield 15, 3) := dz_180 (n := 64) (r := 5) hz_X3_costOfTurn_64 rfl rfl
theorem dX3_costOfTurn_72 : decode cX3_costOfTurn 72 = .ok (.iload 6, 2) := dz_21 (n := 64) (r := 8) hz_X3_costOfTurn_64 rfl rfl
theorem dX3_costOfTurn_74 : decode cX3_costOfTurn 74 = .ok (.iaload, 1) := dz_46 (n := 64) (r := 10) hz_X3_costOfTurn_64 rfl
theorem dX3_costOfTurn_75 : decode cX3_costOfTurn 75 = .ok (.invokestatic 62, 3) := dz_184 (n := 64) (r := 11) hz_X3_costOfTurn_64 rfl rfl
theorem dX3_costOfTurn_78 : decode cX3_costOfTurn 78 = .ok (.iconst 1, 1) := dz_4 (n := 64) (r := 14) hz_X3_costOfTurn_64 rfl
theorem dX3_costOfTurn_79 : decode cX3_costOfTurn 79 = .ok (.if_icmp .ne 8, 3) := dz_160 (n := 64) (r := 15) hz_X3_costOfTurn_64 rfl (by decide +kernel)
theorem dX3_costOfTurn_82 : decode cX3_costOfTurn 82 = .ok (.iload 7, 2) := dz_21 (n := 64) (r := 18) hz_X3_costOfTurn_64 rfl rfl
theorem dX3_costOfTurn_84 : decode cX3_costOfTurn 84 = .ok (.goto 6, 3) := dz_167 (n := 64) (r := 20) hz_X3_costOfTurn_64 rfl (by decide +kernel)
theorem dX3_costOfTurn_87 : decode cX3_costOfTurn 87 = .ok (.iload 7, 2) := dz_21 (n := 64) (r := 23) hz_X3_costOfTurn_64 rfl rfl
theorem dX3_costOfTurn_89 : decode cX3_costOfTurn 89 = .ok (.ineg, 1) := dz_116 (n := 64) (r := 25) hz_X3_costOfTurn_64 rfl
theorem dX3_costOfTurn_90 : decode cX3_costOfTurn 90 = .ok (.iadd, 1) := dz_96 (n := 64) (r := 26) hz_X3_costOfTurn_64 rfl
theorem dX3_costOfTurn_91 : decode cX3_costOfTurn 91 = .ok (.istore 4, 2) := dz_54 (n := 64) (r := 27) hz_X3_costOfTurn_64 rfl rfl
theorem dX3_costOfTurn_93 : decode cX3_costOfTurn 93 = .ok (.iinc 6 1, 3) := dz_132 (n := 64) (r := 29) hz_X3_costOfTurn_64 rfl rfl rfl
theorem hz_X3_costOfTurn_96 : (cX3_costOfTurn.data.toList.drop 96).take 40 = [167, 255, 188, 28, 29, 184, 0, 62, 4, 160, 0, 10, 5, 21, 4, 104, 167, 0, 8, 16, 254, 21, 4, 104, 172] := by decide +kernel
theorem dX3_costOfTurn_96 : decode cX3_costOfTurn 96 = .ok (.goto (-68), 3) := dz_167 (n := 96) (r := 0) hz_X3_costOfTurn_96 rfl (by decide +kernel)
theorem dX3_costOfTurn_99 : decode cX3_costOfTurn 99 = .ok (.iload_n 2, 1) := dz_28 (n := 96) (r := 3) hz_X3_costOfTurn_96 rfl
theorem dX3_costOfTurn_100 : decode cX3_costOfTurn 100 = .ok (.iload_n 3, 1) := dz_29 (n := 96) (r := 4) hz_X3_costOfTurn_96 rfl
theorem dX3_costOfTurn_101 : decode cX3_costOfTurn 101 = .ok (.invokestatic 62, 3) := dz_184 (n := 96) (r := 5) hz_X3_costOfTurn_96 rfl rfl
theorem dX3_costOfTurn_104 : decode cX3_costOfTurn 104 = .ok (.iconst 1, 1) := dz_4 (n := 96) (r := 8) hz_X3_costOfTurn_96 rfl
theorem dX3_costOfTurn_105 : decode cX3_costOfTurn 105 = .ok (.if_icmp .ne 10, 3) := dz_160 (n := 96) (r := 9) hz_X3_costOfTurn_96 rfl (by decide +kernel)
theorem dX3_costOfTurn_108 : decode cX3_costOfTurn 108 = .ok (.iconst 2, 1) := dz_5 (n := 96) (r := 12) hz_X3_costOfTurn_96 rfl
theorem dX3_costOfTurn_109 : decode cX3_costOfTurn 109 = .ok (.iload 4, 2) := dz_21 (n := 96) (r := 13) hz_X3_costOfTurn_96 rfl rfl
theorem dX3_costOfTurn_111 : decode cX3_costOfTurn 111 = .ok (.imul, 1) := dz_104 (n := 96) (r := 15) hz_X3_costOfTurn_96 rfl
theorem dX3_costOfTurn_112 : decode cX3_costOfTurn 112 = .ok (.goto 8, 3) := dz_167 (n := 96) (r := 16) hz_X3_costOfTurn_96 rfl (by decide +kernel)
theorem dX3_costOfTurn_115 : decode cX3_costOfTurn 115 = .ok (.bipush (-2), 2) := dz_16 (n := 96) (r := 19) hz_X3_costOfTurn_96 rfl rfl
theorem dX3_costOfTurn_117 : decode cX3_costOfTurn 117 = .ok (.iload 4, 2) := dz_21 (n := 96) (r := 21) hz_X3_costOfTurn_96 rfl rfl
theorem dX3_costOfTurn_119 : decode cX3_costOfTurn 119 = .ok (.imul, 1) := dz_104 (n := 96) (r := 23) hz_X3_costOfTurn_96 rfl
theorem dX3_costOfTurn_120 : decode cX3_costOfTurn 120 = .ok (.ireturn, 1) := dz_172 (n := 96) (r := 24) hz_X3_costOfTurn_96 rfl
theorem hz_X3_steepest_0 : (cX3_steepest.data.toList.drop 0).take 40 = [2, 62, 3, 54, 4, 3, 54, 5, 21, 5, 42, 180, 0, 40, 162, 0, 42, 42, 43, 28, 21, 5, 182, 0, 78, 54, 6, 21, 6, 21, 4, 162, 0, 19, 43, 21, 5, 182, 0, 82] := by decide +kernel
theorem dX3_steepest_0 : decode cX3_steepest 0 = .ok (.iconst (-1), 1) := dz_2 (n := 0) (r := 0) hz_X3_steepest_0 rfl
theorem dX3_steepest_1 : decode cX3_steepest 1 = .ok (.istore_n 3, 1) := dz_62 (n := 0) (r := 1) hz_X3_steepest_0 rfl
theorem dX3_steepest_2 : decode cX3_steepest 2 = .ok (.iconst 0, 1) := dz_3 (n := 0) (r := 2) hz_X3_steepest_0 rfl
theorem dX3_steepest_3 : decode cX3_steepest 3 = .ok (.istore 4, 2) := dz_54 (n := 0) (r := 3) hz_X3_steepest_0 rfl rfl
theorem dX3_steepest_5 : decode cX3_steepest 5 = .ok (.iconst 0, 1) := dz_3 (n := 0) (r := 5) hz_X3_steepest_0 rfl
theorem dX3_steepest_6 : decode cX3_steepest 6 = .ok (.istore 5, 2) := dz_54 (n := 0) (r := 6) hz_X3_steepest_0 rfl rfl
theorem dX3_steepest_8 : decode cX3_steepest 8 = .ok (.iload 5, 2) := dz_21 (n := 0) (r := 8) hz_X3_steepest_0 rfl rfl
theorem dX3_steepest_10 : decode cX3_steepest 10 = .ok (.aload_n 0, 1) := dz_42 (n := 0) (r := 10) hz_X3_steepest_0 rfl
theorem dX3_steepest_11 : decode cX3_steepest 11 = .ok (.getfield 40, 3) := dz_180 (n := 0) (r := 11) hz_X3_steepest_0 rfl rfl
theorem dX3_steepest_14 : decode cX3_steepest 14 = .ok (.if_icmp .ge 42, 3) := dz_162 (n := 0) (r := 14) hz_X3_steepest_0 rfl (by decide +kernel)
theorem dX3_steepest_17 : decode cX3_steepest 17 = .ok (.aload_n 0, 1) := dz_42 (n := 0) (r := 17) hz_X3_steepest_0 rfl
theorem dX3_steepest_18 : decode cX3_steepest 18 = .ok (.aload_n 1, 1) := dz_43 (n := 0) (r := 18) hz_X3_steepest_0 rfl
theorem dX3_steepest_19 : decode cX3_steepest 19 = .ok (.iload_n 2, 1) := dz_28 (n := 0) (r := 19) hz_X3_steepest_0 rfl
theorem dX3_steepest_20 : decode cX3_steepest 20 = .ok (.iload 5, 2) := dz_21 (n := 0) (r := 20) hz_X3_steepest_0 rfl rfl
theorem dX3_steepest_22 : decode cX3_steepest 22 = .ok (.invokevirtual 78, 3) := dz_182 (n := 0) (r := 22) hz_X3_steepest_0 rfl rfl
theorem dX3_steepest_25 : decode cX3_steepest 25 = .ok (.istore 6, 2) := dz_54 (n := 0) (r := 25) hz_X3_steepest_0 rfl rfl
theorem dX3_steepest_27 : decode cX3_steepest 27 = .ok (.iload 6, 2) := dz_21 (n := 0) (r := 27) hz_X3_steepest_0 rfl rfl
theorem dX3_steepest_29 : decode cX3_steepest 29 = .ok (.iload 4, 2) := dz_21 (n := 0) (r := 29) hz_X3_steepest_0 rfl rfl
theorem dX3_steepest_31 : decode cX3_steepest 31 = .ok (.if_icmp .ge 19, 3) := dz_162 (n := 0) (r := 31) hz_X3_steepest_0 rfl (by decide +kernel)
theorem hz_X3_steepest_32 : (cX3_steepest.data.toList.drop 32).take 40 = [0, 19, 43, 21, 5, 182, 0, 82, 154, 0, 10, 21, 6, 54, 4, 21, 5, 62, 132, 5, 1, 167, 255, 211, 29, 172] := by decide +kernel
theorem dX3_steepest_34 : decode cX3_steepest 34 = .ok (.aload_n 1, 1) := dz_43 (n := 32) (r := 2) hz_X3_steepest_32 rfl
theorem dX3_steepest_35 : decode cX3_steepest 35 = .ok (.iload 5, 2) := dz_21 (n := 32) (r := 3) hz_X3_steepest_32 rfl rfl
theorem dX3_steepest_37 : decode cX3_steepest 37 = .ok (.invokevirtual 82, 3) := dz_182 (n := 32) (r := 5) hz_X3_steepest_32 rfl rfl
theorem dX3_steepest_40 : decode cX3_steepest 40 = .ok (.ifCond .ne 10, 3) := dz_154 (n := 32) (r := 8) hz_X3_steepest_32 rfl (by decide +kernel)
theorem dX3_steepest_43 : decode cX3_steepest 43 = .ok (.iload 6, 2) := dz_21 (n := 32) (r := 11) hz_X3_steepest_32 rfl rfl
theorem dX3_steepest_45 : decode cX3_steepest 45 = .ok (.istore 4, 2) := dz_54 (n := 32) (r := 13) hz_X3_steepest_32 rfl rfl
theorem dX3_steepest_47 : decode cX3_steepest 47 = .ok (.iload 5, 2) := dz_21 (n := 32) (r := 15) hz_X3_steepest_32 rfl rfl
theorem dX3_steepest_49 : decode cX3_steepest 49 = .ok (.istore_n 3, 1) := dz_62 (n := 32) (r := 17) hz_X3_steepest_32 rfl
theorem dX3_steepest_50 : decode cX3_steepest 50 = .ok (.iinc 5 1, 3) := dz_132 (n := 32) (r := 18) hz_X3_steepest_32 rfl rfl rfl
theorem dX3_steepest_53 : decode cX3_steepest 53 = .ok (.goto (-45), 3) := dz_167 (n := 32) (r := 21) hz_X3_steepest_32 rfl (by decide +kernel)
theorem dX3_steepest_56 : decode cX3_steepest 56 = .ok (.iload_n 3, 1) := dz_29 (n := 32) (r := 24) hz_X3_steepest_32 rfl
theorem dX3_steepest_57 : decode cX3_steepest 57 = .ok (.ireturn, 1) := dz_172 (n := 32) (r := 25) hz_X3_steepest_32 rfl
theorem hz_X3_squareOf_0 : (cX3_squareOf.data.toList.drop 0).take 40 = [42, 28, 182, 0, 59, 62, 42, 16, 16, 28, 96, 182, 0, 59, 54, 4, 29, 2, 159, 0, 9, 21, 4, 2, 160, 0, 6, 16, 254, 172, 43, 28, 182, 0, 70, 43, 16, 16, 28, 96] := by decide +kernel
theorem dX3_squareOf_0 : decode cX3_squareOf 0 = .ok (.aload_n 0, 1) := dz_42 (n := 0) (r := 0) hz_X3_squareOf_0 rfl
theorem dX3_squareOf_1 : decode cX3_squareOf 1 = .ok (.iload_n 2, 1) := dz_28 (n := 0) (r := 1) hz_X3_squareOf_0 rfl
theorem dX3_squareOf_2 : decode cX3_squareOf 2 = .ok (.invokevirtual 59, 3) := dz_182 (n := 0) (r := 2) hz_X3_squareOf_0 rfl rfl
theorem dX3_squareOf_5 : decode cX3_squareOf 5 = .ok (.istore_n 3, 1) := dz_62 (n := 0) (r := 5) hz_X3_squareOf_0 rfl
theorem dX3_squareOf_6 : decode cX3_squareOf 6 = .ok (.aload_n 0, 1) := dz_42 (n := 0) (r := 6) hz_X3_squareOf_0 rfl
theorem dX3_squareOf_7 : decode cX3_squareOf 7 = .ok (.bipush 16, 2) := dz_16 (n := 0) (r := 7) hz_X3_squareOf_0 rfl rfl
theorem dX3_squareOf_9 : decode cX3_squareOf 9 = .ok (.iload_n 2, 1) := dz_28 (n := 0) (r := 9) hz_X3_squareOf_0 rfl
theorem dX3_squareOf_10 : decode cX3_squareOf 10 = .ok (.iadd, 1) := dz_96 (n := 0) (r := 10) hz_X3_squareOf_0 rfl
theorem dX3_squareOf_11 : decode cX3_squareOf 11 = .ok (.invokevirtual 59, 3) := dz_182 (n := 0) (r := 11) hz_X3_squareOf_0 rfl rfl
theorem dX3_squareOf_14 : decode cX3_squareOf 14 = .ok (.istore 4, 2) := dz_54 (n := 0) (r := 14) hz_X3_squareOf_0 rfl rfl
theorem dX3_squareOf_16 : decode cX3_squareOf 16 = .ok (.iload_n 3, 1) := dz_29 (n := 0) (r := 16) hz_X3_squareOf_0 rfl
theorem dX3_squareOf_17 : decode cX3_squareOf 17 = .ok (.iconst (-1), 1) := dz_2 (n := 0) (r := 17) hz_X3_squareOf_0 rfl
theorem dX3_squareOf_18 : decode cX3_squareOf 18 = .ok (.if_icmp .eq 9, 3) := dz_159 (n := 0) (r := 18) hz_X3_squareOf_0 rfl (by decide +kernel)
theorem dX3_squareOf_21 : decode cX3_squareOf 21 = .ok (.iload 4, 2) := dz_21 (n := 0) (r := 21) hz_X3_squareOf_0 rfl rfl
theorem dX3_squareOf_23 : decode cX3_squareOf 23 = .ok (.iconst (-1), 1) := dz_2 (n := 0) (r := 23) hz_X3_squareOf_0 rfl
theorem dX3_squareOf_24 : decode cX3_squareOf 24 = .ok (.if_icmp .ne 6, 3) := dz_160 (n := 0) (r := 24) hz_X3_squareOf_0 rfl (by decide +kernel)
theorem dX3_squareOf_27 : decode cX3_squareOf 27 = .ok (.bipush (-2), 2) := dz_16 (n := 0) (r := 27) hz_X3_squareOf_0 rfl rfl
theorem dX3_squareOf_29 : decode cX3_squareOf 29 = .ok (.ireturn, 1) := dz_172 (n := 0) (r := 29) hz_X3_squareOf_0 rfl
theorem dX3_squareOf_30 : decode cX3_squareOf 30 = .ok (.aload_n 1, 1) := dz_43 (n := 0) (r := 30) hz_X3_squareOf_0 rfl
theorem dX3_squareOf_31 : decode cX3_squareOf 31 = .ok (.iload_n 2, 1) := dz_28 (n := 0) (r := 31) hz_X3_squareOf_0 rfl
theorem hz_X3_squareOf_32 : (cX3_squareOf.data.toList.drop 32).take 40 = [182, 0, 70, 43, 16, 16, 28, 96, 182, 0, 70, 104, 43, 16, 16, 29, 96, 182, 0, 70, 104, 43, 21, 4, 182, 0, 70, 104, 54, 5, 21, 5, 156, 0, 7, 4, 167, 0, 4, 3] := by decide +kernel
theorem dX3_squareOf_32 : decode cX3_squareOf 32 = .ok (.invokevirtual 70, 3) := dz_182 (n := 32) (r := 0) hz_X3_squareOf_32 rfl rfl
theorem dX3_squareOf_35 : decode cX3_squareOf 35 = .ok (.aload_n 1, 1) := dz_43 (n := 32) (r := 3) hz_X3_squareOf_32 rfl
theorem dX3_squareOf_36 : decode cX3_squareOf 36 = .ok (.bipush 16, 2) := dz_16 (n := 32) (r := 4) hz_X3_squareOf_32 rfl rfl
theorem dX3_squareOf_38 : decode cX3_squareOf 38 = .ok (.iload_n 2, 1) := dz_28 (n := 32) (r := 6) hz_X3_squareOf_32 rfl
theorem dX3_squareOf_39 : decode cX3_squareOf 39 = .ok (.iadd, 1) := dz_96 (n := 32) (r := 7) hz_X3_squareOf_32 rfl
theorem dX3_squareOf_40 : decode cX3_squareOf 40 = .ok (.invokevirtual 70, 3) := dz_182 (n := 32) (r := 8) hz_X3_squareOf_32 rfl rfl
theorem dX3_squareOf_43 : decode cX3_squareOf 43 = .ok (.imul, 1) := dz_104 (n := 32) (r := 11) hz_X3_squareOf_32 rfl
theorem dX3_squareOf_44 : decode cX3_squareOf 44 = .ok (.aload_n 1, 1) := dz_43 (n := 32) (r := 12) hz_X3_squareOf_32 rfl
theorem dX3_squareOf_45 : decode cX3_squareOf 45 = .ok (.bipush 16, 2) := dz_16 (n := 32) (r := 13) hz_X3_squareOf_32 rfl rfl
theorem dX3_squareOf_47 : decode cX3_squareOf 47 = .ok (.iload_n 3, 1) := dz_29 (n := 32) (r := 15) hz_X3_squareOf_32 rfl
theorem dX3_squareOf_48 : decode cX3_squareOf 48 = .ok (.iadd, 1) := dz_96 (n := 32) (r := 16) hz_X3_squareOf_32 rfl
theorem dX3_squareOf_49 : decode cX3_squareOf 49 = .ok (.invokevirtual 70, 3) := dz_182 (n := 32) (r := 17) hz_X3_squareOf_32 rfl rfl
theorem dX3_squareOf_52 : decode cX3_squareOf 52 = .ok (.imul, 1) := dz_104 (n := 32) (r := 20) hz_X3_squareOf_32 rfl
theorem dX3_squareOf_53 : decode cX3_squareOf 53 = .ok (.aload_n 1, 1) := dz_43 (n := 32) (r := 21) hz_X3_squareOf_32 rfl
theorem dX3_squareOf_54 : decode cX3_squareOf 54 = .ok (.iload 4, 2) := dz_21 (n := 32) (r := 22) hz_X3_squareOf_32 rfl rfl
theorem dX3_squareOf_56 : decode cX3_squareOf 56 = .ok (.invokevirtual 70, 3) := dz_182 (n := 32) (r := 24) hz_X3_squareOf_32 rfl rfl
theorem dX3_squareOf_59 : decode cX3_squareOf 59 = .ok (.imul, 1) := dz_104 (n := 32) (r := 27) hz_X3_squareOf_32 rfl
theorem dX3_squareOf_60 : decode cX3_squareOf 60 = .ok (.istore 5, 2) := dz_54 (n := 32) (r := 28) hz_X3_squareOf_32 rfl rfl
theorem dX3_squareOf_62 : decode cX3_squareOf 62 = .ok (.iload 5, 2) := dz_21 (n := 32) (r := 30) hz_X3_squareOf_32 rfl rfl
theorem hz_X3_squareOf_64 : (cX3_squareOf.data.toList.drop 64).take 40 = [156, 0, 7, 4, 167, 0, 4, 3, 172] := by decide +kernel
theorem dX3_squareOf_64 : decode cX3_squareOf 64 = .ok (.ifCond .ge 7, 3) := dz_156 (n := 64) (r := 0) hz_X3_squareOf_64 rfl (by decide +kernel)
theorem dX3_squareOf_67 : decode cX3_squareOf 67 = .ok (.iconst 1, 1) := dz_4 (n := 64) (r := 3) hz_X3_squareOf_64 rfl
theorem dX3_squareOf_68 : decode cX3_squareOf 68 = .ok (.goto 4, 3) := dz_167 (n := 64) (r := 4) hz_X3_squareOf_64 rfl (by decide +kernel)
theorem dX3_squareOf_71 : decode cX3_squareOf 71 = .ok (.iconst 0, 1) := dz_3 (n := 64) (r := 7) hz_X3_squareOf_64 rfl
theorem dX3_squareOf_72 : decode cX3_squareOf 72 = .ok (.ireturn, 1) := dz_172 (n := 64) (r := 8) hz_X3_squareOf_64 rfl
theorem hz_X3_countOddSquares_0 : (cX3_countOddSquares.data.toList.drop 0).take 40 = [3, 61, 3, 62, 29, 42, 180, 0, 40, 162, 0, 22, 42, 43, 29, 182, 0, 85, 4, 160, 0, 6, 132, 2, 1, 132, 3, 1, 167, 255, 232, 28, 172] := by decide +kernel
theorem dX3_countOddSquares_0 : decode cX3_countOddSquares 0 = .ok (.iconst 0, 1) := dz_3 (n := 0) (r := 0) hz_X3_countOddSquares_0 rfl
theorem dX3_countOddSquares_1 : decode cX3_countOddSquares 1 = .ok (.istore_n 2, 1) := dz_61 (n := 0) (r := 1) hz_X3_countOddSquares_0 rfl
theorem dX3_countOddSquares_2 : decode cX3_countOddSquares 2 = .ok (.iconst 0, 1) := dz_3 (n := 0) (r := 2) hz_X3_countOddSquares_0 rfl
theorem dX3_countOddSquares_3 : decode cX3_countOddSquares 3 = .ok (.istore_n 3, 1) := dz_62 (n := 0) (r := 3) hz_X3_countOddSquares_0 rfl
theorem dX3_countOddSquares_4 : decode cX3_countOddSquares 4 = .ok (.iload_n 3, 1) := dz_29 (n := 0) (r := 4) hz_X3_countOddSquares_0 rfl
theorem dX3_countOddSquares_5 : decode cX3_countOddSquares 5 = .ok (.aload_n 0, 1) := dz_42 (n := 0) (r := 5) hz_X3_countOddSquares_0 rfl
theorem dX3_countOddSquares_6 : decode cX3_countOddSquares 6 = .ok (.getfield 40, 3) := dz_180 (n := 0) (r := 6) hz_X3_countOddSquares_0 rfl rfl
theorem dX3_countOddSquares_9 : decode cX3_countOddSquares 9 = .ok (.if_icmp .ge 22, 3) := dz_162 (n := 0) (r := 9) hz_X3_countOddSquares_0 rfl (by decide +kernel)
theorem dX3_countOddSquares_12 : decode cX3_countOddSquares 12 = .ok (.aload_n 0, 1) := dz_42 (n := 0) (r := 12) hz_X3_countOddSquares_0 rfl
theorem dX3_countOddSquares_13 : decode cX3_countOddSquares 13 = .ok (.aload_n 1, 1) := dz_43 (n := 0) (r := 13) hz_X3_countOddSquares_0 rfl
theorem dX3_countOddSquares_14 : decode cX3_countOddSquares 14 = .ok (.iload_n 3, 1) := dz_29 (n := 0) (r := 14) hz_X3_countOddSquares_0 rfl
theorem dX3_countOddSquares_15 : decode cX3_countOddSquares 15 = .ok (.invokevirtual 85, 3) := dz_182 (n := 0) (r := 15) hz_X3_countOddSquares_0 rfl rfl
theorem dX3_countOddSquares_18 : decode cX3_countOddSquares 18 = .ok (.iconst 1, 1) := dz_4 (n := 0) (r := 18) hz_X3_countOddSquares_0 rfl
theorem dX3_countOddSquares_19 : decode cX3_countOddSquares 19 = .ok (.if_icmp .ne 6, 3) := dz_160 (n := 0) (r := 19) hz_X3_countOddSquares_0 rfl (by decide +kernel)
theorem dX3_countOddSquares_22 : decode cX3_countOddSquares 22 = .ok (.iinc 2 1, 3) := dz_132 (n := 0) (r := 22) hz_X3_countOddSquares_0 rfl rfl rfl
theorem dX3_countOddSquares_25 : decode cX3_countOddSquares 25 = .ok (.iinc 3 1, 3) := dz_132 (n := 0) (r := 25) hz_X3_countOddSquares_0 rfl rfl rfl
theorem dX3_countOddSquares_28 : decode cX3_countOddSquares 28 = .ok (.goto (-24), 3) := dz_167 (n := 0) (r := 28) hz_X3_countOddSquares_0 rfl (by decide +kernel)
theorem dX3_countOddSquares_31 : decode cX3_countOddSquares 31 = .ok (.iload_n 2, 1) := dz_28 (n := 0) (r := 31) hz_X3_countOddSquares_0 rfl
theorem hz_X3_countOddSquares_32 : (cX3_countOddSquares.data.toList.drop 32).take 40 = [172] := by decide +kernel
theorem dX3_countOddSquares_32 : decode cX3_countOddSquares 32 = .ok (.ireturn, 1) := dz_172 (n := 32) (r := 0) hz_X3_countOddSquares_32 rfl
theorem hz_X3_clusterOf_0 : (cX3_clusterOf.data.toList.drop 0).take 40 = [4, 28, 120, 62, 3, 54, 4, 3, 54, 5, 21, 5, 16, 16, 162, 0, 25, 29, 21, 4, 159, 0, 19, 29, 54, 4, 42, 27, 29, 182, 0, 89, 62, 132, 5, 1, 167, 255, 230, 29] := by decide +kernel
theorem dX3_clusterOf_0 : decode cX3_clusterOf 0 = .ok (.iconst 1, 1) := dz_4 (n := 0) (r := 0) hz_X3_clusterOf_0 rfl
theorem dX3_clusterOf_1 : decode cX3_clusterOf 1 = .ok (.iload_n 2, 1) := dz_28 (n := 0) (r := 1) hz_X3_clusterOf_0 rfl
theorem dX3_clusterOf_2 : decode cX3_clusterOf 2 = .ok (.ishl, 1) := dz_120 (n := 0) (r := 2) hz_X3_clusterOf_0 rfl
theorem dX3_clusterOf_3 : decode cX3_clusterOf 3 = .ok (.istore_n 3, 1) := dz_62 (n := 0) (r := 3) hz_X3_clusterOf_0 rfl
theorem dX3_clusterOf_4 : decode cX3_clusterOf 4 = .ok (.iconst 0, 1) := dz_3 (n := 0) (r := 4) hz_X3_clusterOf_0 rfl
theorem dX3_clusterOf_5 : decode cX3_clusterOf 5 = .ok (.istore 4, 2) := dz_54 (n := 0) (r := 5) hz_X3_clusterOf_0 rfl rfl
theorem dX3_clusterOf_7 : decode cX3_clusterOf 7 = .ok (.iconst 0, 1) := dz_3 (n := 0) (r := 7) hz_X3_clusterOf_0 rfl
theorem dX3_clusterOf_8 : decode cX3_clusterOf 8 = .ok (.istore 5, 2) := dz_54 (n := 0) (r := 8) hz_X3_clusterOf_0 rfl rfl
theorem dX3_clusterOf_10 : decode cX3_clusterOf 10 = .ok (.iload 5, 2) := dz_21 (n := 0) (r := 10) hz_X3_clusterOf_0 rfl rfl
theorem dX3_clusterOf_12 : decode cX3_clusterOf 12 = .ok (.bipush 16, 2) := dz_16 (n := 0) (r := 12) hz_X3_clusterOf_0 rfl rfl
theorem dX3_clusterOf_14 : decode cX3_clusterOf 14 = .ok (.if_icmp .ge 25, 3) := dz_162 (n := 0) (r := 14) hz_X3_clusterOf_0 rfl (by decide +kernel)
theorem dX3_clusterOf_17 : decode cX3_clusterOf 17 = .ok (.iload_n 3, 1) := dz_29 (n := 0) (r := 17) hz_X3_clusterOf_0 rfl
theorem dX3_clusterOf_18 : decode cX3_clusterOf 18 = .ok (.iload 4, 2) := dz_21 (n := 0) (r := 18) hz_X3_clusterOf_0 rfl rfl
theorem dX3_clusterOf_20 : decode cX3_clusterOf 20 = .ok (.if_icmp .eq 19, 3) := dz_159 (n := 0) (r := 20) hz_X3_clusterOf_0 rfl (by decide +kernel)
theorem dX3_clusterOf_23 : decode cX3_clusterOf 23 = .ok (.iload_n 3, 1) := dz_29 (n := 0) (r := 23) hz_X3_clusterOf_0 rfl
theorem dX3_clusterOf_24 : decode cX3_clusterOf 24 = .ok (.istore 4, 2) := dz_54 (n := 0) (r := 24) hz_X3_clusterOf_0 rfl rfl
theorem dX3_clusterOf_26 : decode cX3_clusterOf 26 = .ok (.aload_n 0, 1) := dz_42 (n := 0) (r := 26) hz_X3_clusterOf_0 rfl
theorem dX3_clusterOf_27 : decode cX3_clusterOf 27 = .ok (.iload_n 1, 1) := dz_27 (n := 0) (r := 27) hz_X3_clusterOf_0 rfl
theorem dX3_clusterOf_28 : decode cX3_clusterOf 28 = .ok (.iload_n 3, 1) := dz_29 (n := 0) (r := 28) hz_X3_clusterOf_0 rfl
theorem dX3_clusterOf_29 : decode cX3_clusterOf 29 = .ok (.invokevirtual 89, 3) := dz_182 (n := 0) (r := 29) hz_X3_clusterOf_0 rfl rfl
theorem hz_X3_clusterOf_32 : (cX3_clusterOf.data.toList.drop 32).take 40 = [62, 132, 5, 1, 167, 255, 230, 29, 172] := by decide +kernel
theorem dX3_clusterOf_32 : decode cX3_clusterOf 32 = .ok (.istore_n 3, 1) := dz_62 (n := 32) (r := 0) hz_X3_clusterOf_32 rfl
theorem dX3_clusterOf_33 : decode cX3_clusterOf 33 = .ok (.iinc 5 1, 3) := dz_132 (n := 32) (r := 1) hz_X3_clusterOf_32 rfl rfl rfl
theorem dX3_clusterOf_36 : decode cX3_clusterOf 36 = .ok (.goto (-26), 3) := dz_167 (n := 32) (r := 4) hz_X3_clusterOf_32 rfl (by decide +kernel)
theorem dX3_clusterOf_39 : decode cX3_clusterOf 39 = .ok (.iload_n 3, 1) := dz_29 (n := 32) (r := 7) hz_X3_clusterOf_32 rfl
theorem dX3_clusterOf_40 : decode cX3_clusterOf 40 = .ok (.ireturn, 1) := dz_172 (n := 32) (r := 8) hz_X3_clusterOf_32 rfl
theorem hz_X3_grownCluster_0 : (cX3_grownCluster.data.toList.drop 0).take 40 = [28, 62, 3, 54, 4, 21, 4, 16, 32, 162, 0, 63, 42, 21, 4, 182, 0, 59, 2, 159, 0, 47, 42, 27, 21, 4, 182, 0, 66, 153, 0, 37, 4, 21, 4, 184, 0, 47, 120, 4] := by decide +kernel
theorem dX3_grownCluster_0 : decode cX3_grownCluster 0 = .ok (.iload_n 2, 1) := dz_28 (n := 0) (r := 0) hz_X3_grownCluster_0 rfl
theorem dX3_grownCluster_1 : decode cX3_grownCluster 1 = .ok (.istore_n 3, 1) := dz_62 (n := 0) (r := 1) hz_X3_grownCluster_0 rfl
theorem dX3_grownCluster_2 : decode cX3_grownCluster 2 = .ok (.iconst 0, 1) := dz_3 (n := 0) (r := 2) hz_X3_grownCluster_0 rfl
theorem dX3_grownCluster_3 : decode cX3_grownCluster 3 = .ok (.istore 4, 2) := dz_54 (n := 0) (r := 3) hz_X3_grownCluster_0 rfl rfl
theorem dX3_grownCluster_5 : decode cX3_grownCluster 5 = .ok (.iload 4, 2) := dz_21 (n := 0) (r := 5) hz_X3_grownCluster_0 rfl rfl
theorem dX3_grownCluster_7 : decode cX3_grownCluster 7 = .ok (.bipush 32, 2) := dz_16 (n := 0) (r := 7) hz_X3_grownCluster_0 rfl rfl
theorem dX3_grownCluster_9 : decode cX3_grownCluster 9 = .ok (.if_icmp .ge 63, 3) := dz_162 (n := 0) (r := 9) hz_X3_grownCluster_0 rfl (by decide +kernel)
theorem dX3_grownCluster_12 : decode cX3_grownCluster 12 = .ok (.aload_n 0, 1) := dz_42 (n := 0) (r := 12) hz_X3_grownCluster_0 rfl
theorem dX3_grownCluster_13 : decode cX3_grownCluster 13 = .ok (.iload 4, 2) := dz_21 (n := 0) (r := 13) hz_X3_grownCluster_0 rfl rfl
theorem dX3_grownCluster_15 : decode cX3_grownCluster 15 = .ok (.invokevirtual 59, 3) := dz_182 (n := 0) (r := 15) hz_X3_grownCluster_0 rfl rfl
theorem dX3_grownCluster_18 : decode cX3_grownCluster 18 = .ok (.iconst (-1), 1) := dz_2 (n := 0) (r := 18) hz_X3_grownCluster_0 rfl
theorem dX3_grownCluster_19 : decode cX3_grownCluster 19 = .ok (.if_icmp .eq 47, 3) := dz_159 (n := 0) (r := 19) hz_X3_grownCluster_0 rfl (by decide +kernel)
theorem dX3_grownCluster_22 : decode cX3_grownCluster 22 = .ok (.aload_n 0, 1) := dz_42 (n := 0) (r := 22) hz_X3_grownCluster_0 rfl
theorem dX3_grownCluster_23 : decode cX3_grownCluster 23 = .ok (.iload_n 1, 1) := dz_27 (n := 0) (r := 23) hz_X3_grownCluster_0 rfl
theorem dX3_grownCluster_24 : decode cX3_grownCluster 24 = .ok (.iload 4, 2) := dz_21 (n := 0) (r := 24) hz_X3_grownCluster_0 rfl rfl
theorem dX3_grownCluster_26 : decode cX3_grownCluster 26 = .ok (.invokevirtual 66, 3) := dz_182 (n := 0) (r := 26) hz_X3_grownCluster_0 rfl rfl
theorem dX3_grownCluster_29 : decode cX3_grownCluster 29 = .ok (.ifCond .eq 37, 3) := dz_153 (n := 0) (r := 29) hz_X3_grownCluster_0 rfl (by decide +kernel)
theorem hz_X3_grownCluster_32 : (cX3_grownCluster.data.toList.drop 32).take 40 = [4, 21, 4, 184, 0, 47, 120, 4, 42, 21, 4, 182, 0, 59, 120, 128, 54, 5, 29, 21, 5, 126, 153, 0, 10, 29, 21, 5, 128, 167, 0, 4, 29, 62, 132, 4, 1, 167, 255, 192] := by decide +kernel
theorem dX3_grownCluster_32 : decode cX3_grownCluster 32 = .ok (.iconst 1, 1) := dz_4 (n := 32) (r := 0) hz_X3_grownCluster_32 rfl
theorem dX3_grownCluster_33 : decode cX3_grownCluster 33 = .ok (.iload 4, 2) := dz_21 (n := 32) (r := 1) hz_X3_grownCluster_32 rfl rfl
theorem dX3_grownCluster_35 : decode cX3_grownCluster 35 = .ok (.invokestatic 47, 3) := dz_184 (n := 32) (r := 3) hz_X3_grownCluster_32 rfl rfl
theorem dX3_grownCluster_38 : decode cX3_grownCluster 38 = .ok (.ishl, 1) := dz_120 (n := 32) (r := 6) hz_X3_grownCluster_32 rfl
theorem dX3_grownCluster_39 : decode cX3_grownCluster 39 = .ok (.iconst 1, 1) := dz_4 (n := 32) (r := 7) hz_X3_grownCluster_32 rfl
theorem dX3_grownCluster_40 : decode cX3_grownCluster 40 = .ok (.aload_n 0, 1) := dz_42 (n := 32) (r := 8) hz_X3_grownCluster_32 rfl
theorem dX3_grownCluster_41 : decode cX3_grownCluster 41 = .ok (.iload 4, 2) := dz_21 (n := 32) (r := 9) hz_X3_grownCluster_32 rfl rfl
theorem dX3_grownCluster_43 : decode cX3_grownCluster 43 = .ok (.invokevirtual 59, 3) := dz_182 (n := 32) (r := 11) hz_X3_grownCluster_32 rfl rfl
theorem dX3_grownCluster_46 : decode cX3_grownCluster 46 = .ok (.ishl, 1) := dz_120 (n := 32) (r := 14) hz_X3_grownCluster_32 rfl
theorem dX3_grownCluster_47 : decode cX3_grownCluster 47 = .ok (.ior, 1) := dz_128 (n := 32) (r := 15) hz_X3_grownCluster_32 rfl
theorem dX3_grownCluster_48 : decode cX3_grownCluster 48 = .ok (.istore 5, 2) := dz_54 (n := 32) (r := 16) hz_X3_grownCluster_32 rfl rfl
theorem dX3_grownCluster_50 : decode cX3_grownCluster 50 = .ok (.iload_n 3, 1) := dz_29 (n := 32) (r := 18) hz_X3_grownCluster_32 rfl
theorem dX3_grownCluster_51 : decode cX3_grownCluster 51 = .ok (.iload 5, 2) := dz_21 (n := 32) (r := 19) hz_X3_grownCluster_32 rfl rfl
theorem dX3_grownCluster_53 : decode cX3_grownCluster 53 = .ok (.iand, 1) := dz_126 (n := 32) (r := 21) hz_X3_grownCluster_32 rfl
theorem dX3_grownCluster_54 : decode cX3_grownCluster 54 = .ok (.ifCond .eq 10, 3) := dz_153 (n := 32) (r := 22) hz_X3_grownCluster_32 rfl (by decide +kernel)
theorem dX3_grownCluster_57 : decode cX3_grownCluster 57 = .ok (.iload_n 3, 1) := dz_29 (n := 32) (r := 25) hz_X3_grownCluster_32 rfl
theorem dX3_grownCluster_58 : decode cX3_grownCluster 58 = .ok (.iload 5, 2) := dz_21 (n := 32) (r := 26) hz_X3_grownCluster_32 rfl rfl
theorem dX3_grownCluster_60 : decode cX3_grownCluster 60 = .ok (.ior, 1) := dz_128 (n := 32) (r := 28) hz_X3_grownCluster_32 rfl
theorem dX3_grownCluster_61 : decode cX3_grownCluster 61 = .ok (.goto 4, 3) := dz_167 (n := 32) (r := 29) hz_X3_grownCluster_32 rfl (by decide +kernel)
theorem hz_X3_grownCluster_64 : (cX3_grownCluster.data.toList.drop 64).take 40 = [29, 62, 132, 4, 1, 167, 255, 192, 29, 172] := by decide +kernel
theorem dX3_grownCluster_64 : decode cX3_grownCluster 64 = .ok (.iload_n 3, 1) := dz_29 (n := 64) (r := 0) hz_X3_grownCluster_64 rfl
theorem dX3_grownCluster_65 : decode cX3_grownCluster 65 = .ok (.istore_n 3, 1) := dz_62 (n := 64) (r := 1) hz_X3_grownCluster_64 rfl
theorem dX3_grownCluster_66 : decode cX3_grownCluster 66 = .ok (.iinc 4 1, 3) := dz_132 (n := 64) (r := 2) hz_X3_grownCluster_64 rfl rfl rfl
theorem dX3_grownCluster_69 : decode cX3_grownCluster 69 = .ok (.goto (-64), 3) := dz_167 (n := 64) (r := 5) hz_X3_grownCluster_64 rfl (by decide +kernel)
theorem dX3_grownCluster_72 : decode cX3_grownCluster 72 = .ok (.iload_n 3, 1) := dz_29 (n := 64) (r := 8) hz_X3_grownCluster_64 rfl
theorem dX3_grownCluster_73 : decode cX3_grownCluster 73 = .ok (.ireturn, 1) := dz_172 (n := 64) (r := 9) hz_X3_grownCluster_64 rfl
theorem hz_X3_countClusters_0 : (cX3_countClusters.data.toList.drop 0).take 40 = [3, 61, 3, 62, 3, 54, 4, 21, 4, 42, 180, 0, 40, 162, 0, 31, 28, 21, 4, 184, 0, 62, 154, 0, 16, 28, 42, 27, 21, 4, 182, 0, 92, 128, 61, 132, 3, 1, 132, 4] := by decide +kernel
theorem dX3_countClusters_0 : decode cX3_countClusters 0 = .ok (.iconst 0, 1) := dz_3 (n := 0) (r := 0) hz_X3_countClusters_0 rfl
theorem dX3_countClusters_1 : decode cX3_countClusters 1 = .ok (.istore_n 2, 1) := dz_61 (n := 0) (r := 1) hz_X3_countClusters_0 rfl
theorem dX3_countClusters_2 : decode cX3_countClusters 2 = .ok (.iconst 0, 1) := dz_3 (n := 0) (r := 2) hz_X3_countClusters_0 rfl
theorem dX3_countClusters_3 : decode cX3_countClusters 3 = .ok (.istore_n 3, 1) := dz_62 (n := 0) (r := 3) hz_X3_countClusters_0 rfl
theorem dX3_countClusters_4 : decode cX3_countClusters 4 = .ok (.iconst 0, 1) := dz_3 (n := 0) (r := 4) hz_X3_countClusters_0 rfl
theorem dX3_countClusters_5 : decode cX3_countClusters 5 = .ok (.istore 4, 2) := dz_54 (n := 0) (r := 5) hz_X3_countClusters_0 rfl rfl
theorem dX3_countClusters_7 : decode cX3_countClusters 7 = .ok (.iload 4, 2) := dz_21 (n := 0) (r := 7) hz_X3_countClusters_0 rfl rfl
theorem dX3_countClusters_9 : decode cX3_countClusters 9 = .ok (.aload_n 0, 1) := dz_42 (n := 0) (r := 9) hz_X3_countClusters_0 rfl
theorem dX3_countClusters_10 : decode cX3_countClusters 10 = .ok (.getfield 40, 3) := dz_180 (n := 0) (r := 10) hz_X3_countClusters_0 rfl rfl
theorem dX3_countClusters_13 : decode cX3_countClusters 13 = .ok (.if_icmp .ge 31, 3) := dz_162 (n := 0) (r := 13) hz_X3_countClusters_0 rfl (by decide +kernel)
theorem dX3_countClusters_16 : decode cX3_countClusters 16 = .ok (.iload_n 2, 1) := dz_28 (n := 0) (r := 16) hz_X3_countClusters_0 rfl
theorem dX3_countClusters_17 : decode cX3_countClusters 17 = .ok (.iload 4, 2) := dz_21 (n := 0) (r := 17) hz_X3_countClusters_0 rfl rfl
theorem dX3_countClusters_19 : decode cX3_countClusters 19 = .ok (.invokestatic 62, 3) := dz_184 (n := 0) (r := 19) hz_X3_countClusters_0 rfl rfl
theorem dX3_countClusters_22 : decode cX3_countClusters 22 = .ok (.ifCond .ne 16, 3) := dz_154 (n := 0) (r := 22) hz_X3_countClusters_0 rfl (by decide +kernel)
theorem dX3_countClusters_25 : decode cX3_countClusters 25 = .ok (.iload_n 2, 1) := dz_28 (n := 0) (r := 25) hz_X3_countClusters_0 rfl
theorem dX3_countClusters_26 : decode cX3_countClusters 26 = .ok (.aload_n 0, 1) := dz_42 (n := 0) (r := 26) hz_X3_countClusters_0 rfl
theorem dX3_countClusters_27 : decode cX3_countClusters 27 = .ok (.iload_n 1, 1) := dz_27 (n := 0) (r := 27) hz_X3_countClusters_0 rfl
theorem dX3_countClusters_28 : decode cX3_countClusters 28 = .ok (.iload 4, 2) := dz_21 (n := 0) (r := 28) hz_X3_countClusters_0 rfl rfl
theorem dX3_countClusters_30 : decode cX3_countClusters 30 = .ok (.invokevirtual 92, 3) := dz_182 (n := 0) (r := 30) hz_X3_countClusters_0 rfl rfl
theorem hz_X3_countClusters_32 : (cX3_countClusters.data.toList.drop 32).take 40 = [92, 128, 61, 132, 3, 1, 132, 4, 1, 167, 255, 222, 29, 172] := by decide +kernel
theorem dX3_countClusters_33 : decode cX3_countClusters 33 = .ok (.ior, 1) := dz_128 (n := 32) (r := 1) hz_X3_countClusters_32 rfl
theorem dX3_countClusters_34 : decode cX3_countClusters 34 = .ok (.istore_n 2, 1) := dz_61 (n := 32) (r := 2) hz_X3_countClusters_32 rfl
theorem dX3_countClusters_35 : decode cX3_countClusters 35 = .ok (.iinc 3 1, 3) := dz_132 (n := 32) (r := 3) hz_X3_countClusters_32 rfl rfl rfl
theorem dX3_countClusters_38 : decode cX3_countClusters 38 = .ok (.iinc 4 1, 3) := dz_132 (n := 32) (r := 6) hz_X3_countClusters_32 rfl rfl rfl
theorem dX3_countClusters_41 : decode cX3_countClusters 41 = .ok (.goto (-34), 3) := dz_167 (n := 32) (r := 9) hz_X3_countClusters_32 rfl (by decide +kernel)
theorem dX3_countClusters_44 : decode cX3_countClusters 44 = .ok (.iload_n 3, 1) := dz_29 (n := 32) (r := 12) hz_X3_countClusters_32 rfl
theorem dX3_countClusters_45 : decode cX3_countClusters 45 = .ok (.ireturn, 1) := dz_172 (n := 32) (r := 13) hz_X3_countClusters_32 rfl
theorem hz_X3_greatestCluster_0 : (cX3_greatestCluster.data.toList.drop 0).take 40 = [3, 61, 3, 62, 29, 42, 180, 0, 40, 162, 0, 23, 28, 42, 27, 29, 182, 0, 92, 184, 0, 95, 184, 0, 100, 61, 132, 3, 1, 167, 255, 231, 28, 172] := by decide +kernel
theorem dX3_greatestCluster_0 : decode cX3_greatestCluster 0 = .ok (.iconst 0, 1) := dz_3 (n := 0) (r := 0) hz_X3_greatestCluster_0 rfl
theorem dX3_greatestCluster_1 : decode cX3_greatestCluster 1 = .ok (.istore_n 2, 1) := dz_61 (n := 0) (r := 1) hz_X3_greatestCluster_0 rfl
theorem dX3_greatestCluster_2 : decode cX3_greatestCluster 2 = .ok (.iconst 0, 1) := dz_3 (n := 0) (r := 2) hz_X3_greatestCluster_0 rfl
theorem dX3_greatestCluster_3 : decode cX3_greatestCluster 3 = .ok (.istore_n 3, 1) := dz_62 (n := 0) (r := 3) hz_X3_greatestCluster_0 rfl
theorem dX3_greatestCluster_4 : decode cX3_greatestCluster 4 = .ok (.iload_n 3, 1) := dz_29 (n := 0) (r := 4) hz_X3_greatestCluster_0 rfl
theorem dX3_greatestCluster_5 : decode cX3_greatestCluster 5 = .ok (.aload_n 0, 1) := dz_42 (n := 0) (r := 5) hz_X3_greatestCluster_0 rfl
theorem dX3_greatestCluster_6 : decode cX3_greatestCluster 6 = .ok (.getfield 40, 3) := dz_180 (n := 0) (r := 6) hz_X3_greatestCluster_0 rfl rfl
theorem dX3_greatestCluster_9 : decode cX3_greatestCluster 9 = .ok (.if_icmp .ge 23, 3) := dz_162 (n := 0) (r := 9) hz_X3_greatestCluster_0 rfl (by decide +kernel)
theorem dX3_greatestCluster_12 : decode cX3_greatestCluster 12 = .ok (.iload_n 2, 1) := dz_28 (n := 0) (r := 12) hz_X3_greatestCluster_0 rfl
theorem dX3_greatestCluster_13 : decode cX3_greatestCluster 13 = .ok (.aload_n 0, 1) := dz_42 (n := 0) (r := 13) hz_X3_greatestCluster_0 rfl
theorem dX3_greatestCluster_14 : decode cX3_greatestCluster 14 = .ok (.iload_n 1, 1) := dz_27 (n := 0) (r := 14) hz_X3_greatestCluster_0 rfl
theorem dX3_greatestCluster_15 : decode cX3_greatestCluster 15 = .ok (.iload_n 3, 1) := dz_29 (n := 0) (r := 15) hz_X3_greatestCluster_0 rfl
theorem dX3_greatestCluster_16 : decode cX3_greatestCluster 16 = .ok (.invokevirtual 92, 3) := dz_182 (n := 0) (r := 16) hz_X3_greatestCluster_0 rfl rfl
theorem dX3_greatestCluster_19 : decode cX3_greatestCluster 19 = .ok (.invokestatic 95, 3) := dz_184 (n := 0) (r := 19) hz_X3_greatestCluster_0 rfl rfl
theorem dX3_greatestCluster_22 : decode cX3_greatestCluster 22 = .ok (.invokestatic 100, 3) := dz_184 (n := 0) (r := 22) hz_X3_greatestCluster_0 rfl rfl
theorem dX3_greatestCluster_25 : decode cX3_greatestCluster 25 = .ok (.istore_n 2, 1) := dz_61 (n := 0) (r := 25) hz_X3_greatestCluster_0 rfl
theorem dX3_greatestCluster_26 : decode cX3_greatestCluster 26 = .ok (.iinc 3 1, 3) := dz_132 (n := 0) (r := 26) hz_X3_greatestCluster_0 rfl rfl rfl
theorem dX3_greatestCluster_29 : decode cX3_greatestCluster 29 = .ok (.goto (-25), 3) := dz_167 (n := 0) (r := 29) hz_X3_greatestCluster_0 rfl (by decide +kernel)
theorem hz_X3_greatestCluster_32 : (cX3_greatestCluster.data.toList.drop 32).take 40 = [28, 172] := by decide +kernel
theorem dX3_greatestCluster_32 : decode cX3_greatestCluster 32 = .ok (.iload_n 2, 1) := dz_28 (n := 32) (r := 0) hz_X3_greatestCluster_32 rfl
theorem dX3_greatestCluster_33 : decode cX3_greatestCluster 33 = .ok (.ireturn, 1) := dz_172 (n := 32) (r := 1) hz_X3_greatestCluster_32 rfl
theorem hz_X4_init_0 : (cX4_init.data.toList.drop 0).take 40 = [42, 183, 0, 3, 42, 17, 1, 33, 188, 10, 181, 0, 9, 42, 17, 1, 33, 188, 10, 181, 0, 15, 42, 17, 19, 49, 188, 10, 181, 0, 18, 42, 17, 1, 33, 188, 10, 181, 0, 21] := by decide +kernel
theorem dX4_init_0 : decode cX4_init 0 = .ok (.aload_n 0, 1) := dz_42 (n := 0) (r := 0) hz_X4_init_0 rfl
theorem dX4_init_1 : decode cX4_init 1 = .ok (.invokespecial 3, 3) := dz_183 (n := 0) (r := 1) hz_X4_init_0 rfl rfl
theorem dX4_init_4 : decode cX4_init 4 = .ok (.aload_n 0, 1) := dz_42 (n := 0) (r := 4) hz_X4_init_0 rfl
theorem dX4_init_5 : decode cX4_init 5 = .ok (.sipush 289, 3) := dz_17 (n := 0) (r := 5) hz_X4_init_0 rfl (by decide +kernel)
theorem dX4_init_8 : decode cX4_init 8 = .ok (.newarray .int, 2) := dz_188_10 (n := 0) (r := 8) hz_X4_init_0 rfl
theorem dX4_init_10 : decode cX4_init 10 = .ok (.putfield 9, 3) := dz_181 (n := 0) (r := 10) hz_X4_init_0 rfl rfl
theorem dX4_init_13 : decode cX4_init 13 = .ok (.aload_n 0, 1) := dz_42 (n := 0) (r := 13) hz_X4_init_0 rfl
theorem dX4_init_14 : decode cX4_init 14 = .ok (.sipush 289, 3) := dz_17 (n := 0) (r := 14) hz_X4_init_0 rfl (by decide +kernel)
theorem dX4_init_17 : decode cX4_init 17 = .ok (.newarray .int, 2) := dz_188_10 (n := 0) (r := 17) hz_X4_init_0 rfl
theorem dX4_init_19 : decode cX4_init 19 = .ok (.putfield 15, 3) := dz_181 (n := 0) (r := 19) hz_X4_init_0 rfl rfl
theorem dX4_init_22 : decode cX4_init 22 = .ok (.aload_n 0, 1) := dz_42 (n := 0) (r := 22) hz_X4_init_0 rfl
theorem dX4_init_23 : decode cX4_init 23 = .ok (.sipush 4913, 3) := dz_17 (n := 0) (r := 23) hz_X4_init_0 rfl (by decide +kernel)
theorem dX4_init_26 : decode cX4_init 26 = .ok (.newarray .int, 2) := dz_188_10 (n := 0) (r := 26) hz_X4_init_0 rfl
theorem dX4_init_28 : decode cX4_init 28 = .ok (.putfield 18, 3) := dz_181 (n := 0) (r := 28) hz_X4_init_0 rfl rfl
theorem dX4_init_31 : decode cX4_init 31 = .ok (.aload_n 0, 1) := dz_42 (n := 0) (r := 31) hz_X4_init_0 rfl
theorem hz_X4_init_32 : (cX4_init.data.toList.drop 32).take 40 = [17, 1, 33, 188, 10, 181, 0, 21, 42, 2, 181, 0, 24, 177] := by decide +kernel
theorem dX4_init_32 : decode cX4_init 32 = .ok (.sipush 289, 3) := dz_17 (n := 32) (r := 0) hz_X4_init_32 rfl (by decide +kernel)
theorem dX4_init_35 : decode cX4_init 35 = .ok (.newarray .int, 2) := dz_188_10 (n := 32) (r := 3) hz_X4_init_32 rfl
theorem dX4_init_37 : decode cX4_init 37 = .ok (.putfield 21, 3) := dz_181 (n := 32) (r := 5) hz_X4_init_32 rfl rfl
theorem dX4_init_40 : decode cX4_init 40 = .ok (.aload_n 0, 1) := dz_42 (n := 32) (r := 8) hz_X4_init_32 rfl
theorem dX4_init_41 : decode cX4_init 41 = .ok (.iconst (-1), 1) := dz_2 (n := 32) (r := 9) hz_X4_init_32 rfl
theorem dX4_init_42 : decode cX4_init 42 = .ok (.putfield 24, 3) := dz_181 (n := 32) (r := 10) hz_X4_init_32 rfl rfl
theorem dX4_init_45 : decode cX4_init 45 = .ok (.return_, 1) := dz_177 (n := 32) (r := 13) hz_X4_init_32 rfl
theorem hz_X4_gather_0 : (cX4_gather.data.toList.drop 0).take 40 = [42, 180, 0, 9, 3, 184, 0, 28, 42, 180, 0, 18, 3, 184, 0, 28, 29, 4, 100, 54, 4, 21, 4, 155, 0, 94, 43, 21, 4, 182, 0, 34, 17, 0, 144, 96, 54, 5, 21, 4] := by decide +kernel
theorem dX4_gather_0 : decode cX4_gather 0 = .ok (.aload_n 0, 1) := dz_42 (n := 0) (r := 0) hz_X4_gather_0 rfl
theorem dX4_gather_1 : decode cX4_gather 1 = .ok (.getfield 9, 3) := dz_180 (n := 0) (r := 1) hz_X4_gather_0 rfl rfl
theorem dX4_gather_4 : decode cX4_gather 4 = .ok (.iconst 0, 1) := dz_3 (n := 0) (r := 4) hz_X4_gather_0 rfl
theorem dX4_gather_5 : decode cX4_gather 5 = .ok (.invokestatic 28, 3) := dz_184 (n := 0) (r := 5) hz_X4_gather_0 rfl rfl
theorem dX4_gather_8 : decode cX4_gather 8 = .ok (.aload_n 0, 1) := dz_42 (n := 0) (r := 8) hz_X4_gather_0 rfl
theorem dX4_gather_9 : decode cX4_gather 9 = .ok (.getfield 18, 3) := dz_180 (n := 0) (r := 9) hz_X4_gather_0 rfl rfl
theorem dX4_gather_12 : decode cX4_gather 12 = .ok (.iconst 0, 1) := dz_3 (n := 0) (r := 12) hz_X4_gather_0 rfl
theorem dX4_gather_13 : decode cX4_gather 13 = .ok (.invokestatic 28, 3) := dz_184 (n := 0) (r := 13) hz_X4_gather_0 rfl rfl
theorem dX4_gather_16 : decode cX4_gather 16 = .ok (.iload_n 3, 1) := dz_29 (n := 0) (r := 16) hz_X4_gather_0 rfl
theorem dX4_gather_17 : decode cX4_gather 17 = .ok (.iconst 1, 1) := dz_4 (n := 0) (r := 17) hz_X4_gather_0 rfl
theorem dX4_gather_18 : decode cX4_gather 18 = .ok (.isub, 1) := dz_100 (n := 0) (r := 18) hz_X4_gather_0 rfl
theorem dX4_gather_19 : decode cX4_gather 19 = .ok (.istore 4, 2) := dz_54 (n := 0) (r := 19) hz_X4_gather_0 rfl rfl
theorem dX4_gather_21 : decode cX4_gather 21 = .ok (.iload 4, 2) := dz_21 (n := 0) (r := 21) hz_X4_gather_0 rfl rfl
theorem dX4_gather_23 : decode cX4_gather 23 = .ok (.ifCond .lt 94, 3) := dz_155 (n := 0) (r := 23) hz_X4_gather_0 rfl (by decide +kernel)
theorem dX4_gather_26 : decode cX4_gather 26 = .ok (.aload_n 1, 1) := dz_43 (n := 0) (r := 26) hz_X4_gather_0 rfl
theorem dX4_gather_27 : decode cX4_gather 27 = .ok (.iload 4, 2) := dz_21 (n := 0) (r := 27) hz_X4_gather_0 rfl rfl
theorem dX4_gather_29 : decode cX4_gather 29 = .ok (.invokevirtual 34, 3) := dz_182 (n := 0) (r := 29) hz_X4_gather_0 rfl rfl
theorem hz_X4_gather_32 : (cX4_gather.data.toList.drop 32).take 40 = [17, 0, 144, 96, 54, 5, 21, 4, 184, 0, 40, 54, 6, 44, 21, 4, 182, 0, 45, 153, 0, 60, 21, 5, 155, 0, 55, 21, 5, 17, 1, 33, 162, 0, 47, 21, 6, 16, 17, 162] := by decide +kernel
theorem dX4_gather_32 : decode cX4_gather 32 = .ok (.sipush 144, 3) := dz_17 (n := 32) (r := 0) hz_X4_gather_32 rfl (by decide +kernel)
theorem dX4_gather_35 : decode cX4_gather 35 = .ok (.iadd, 1) := dz_96 (n := 32) (r := 3) hz_X4_gather_32 rfl
theorem dX4_gather_36 : decode cX4_gather 36 = .ok (.istore 5, 2) := dz_54 (n := 32) (r := 4) hz_X4_gather_32 rfl rfl
theorem dX4_gather_38 : decode cX4_gather 38 = .ok (.iload 4, 2) := dz_21 (n := 32) (r := 6) hz_X4_gather_32 rfl rfl
theorem dX4_gather_40 : decode cX4_gather 40 = .ok (.invokestatic 40, 3) := dz_184 (n := 32) (r := 8) hz_X4_gather_32 rfl rfl
theorem dX4_gather_43 : decode cX4_gather 43 = .ok (.istore 6, 2) := dz_54 (n := 32) (r := 11) hz_X4_gather_32 rfl rfl
theorem dX4_gather_45 : decode cX4_gather 45 = .ok (.aload_n 2, 1) := dz_44 (n := 32) (r := 13) hz_X4_gather_32 rfl
theorem dX4_gather_46 : decode cX4_gather 46 = .ok (.iload 4, 2) := dz_21 (n := 32) (r := 14) hz_X4_gather_32 rfl rfl
theorem dX4_gather_48 : decode cX4_gather 48 = .ok (.invokevirtual 45, 3) := dz_182 (n := 32) (r := 16) hz_X4_gather_32 rfl rfl
theorem dX4_gather_51 : decode cX4_gather 51 = .ok (.ifCond .eq 60, 3) := dz_153 (n := 32) (r := 19) hz_X4_gather_32 rfl (by decide +kernel)
theorem dX4_gather_54 : decode cX4_gather 54 = .ok (.iload 5, 2) := dz_21 (n := 32) (r := 22) hz_X4_gather_32 rfl rfl
theorem dX4_gather_56 : decode cX4_gather 56 = .ok (.ifCond .lt 55, 3) := dz_155 (n := 32) (r := 24) hz_X4_gather_32 rfl (by decide +kernel)
theorem dX4_gather_59 : decode cX4_gather 59 = .ok (.iload 5, 2) := dz_21 (n := 32) (r := 27) hz_X4_gather_32 rfl rfl
theorem dX4_gather_61 : decode cX4_gather 61 = .ok (.sipush 289, 3) := dz_17 (n := 32) (r := 29) hz_X4_gather_32 rfl (by decide +kernel)
theorem hz_X4_gather_64 : (cX4_gather.data.toList.drop 64).take 40 = [162, 0, 47, 21, 6, 16, 17, 162, 0, 40, 42, 180, 0, 15, 21, 5, 21, 4, 79, 42, 180, 0, 9, 21, 5, 92, 46, 4, 96, 79, 42, 180, 0, 18, 21, 5, 16, 17, 104, 21] := by decide +kernel
theorem dX4_gather_64 : decode cX4_gather 64 = .ok (.if_icmp .ge 47, 3) := dz_162 (n := 64) (r := 0) hz_X4_gather_64 rfl (by decide +kernel)
theorem dX4_gather_67 : decode cX4_gather 67 = .ok (.iload 6, 2) := dz_21 (n := 64) (r := 3) hz_X4_gather_64 rfl rfl
theorem dX4_gather_69 : decode cX4_gather 69 = .ok (.bipush 17, 2) := dz_16 (n := 64) (r := 5) hz_X4_gather_64 rfl rfl
theorem dX4_gather_71 : decode cX4_gather 71 = .ok (.if_icmp .ge 40, 3) := dz_162 (n := 64) (r := 7) hz_X4_gather_64 rfl (by decide +kernel)
theorem dX4_gather_74 : decode cX4_gather 74 = .ok (.aload_n 0, 1) := dz_42 (n := 64) (r := 10) hz_X4_gather_64 rfl
theorem dX4_gather_75 : decode cX4_gather 75 = .ok (.getfield 15, 3) := dz_180 (n := 64) (r := 11) hz_X4_gather_64 rfl rfl
theorem dX4_gather_78 : decode cX4_gather 78 = .ok (.iload 5, 2) := dz_21 (n := 64) (r := 14) hz_X4_gather_64 rfl rfl
theorem dX4_gather_80 : decode cX4_gather 80 = .ok (.iload 4, 2) := dz_21 (n := 64) (r := 16) hz_X4_gather_64 rfl rfl
theorem dX4_gather_82 : decode cX4_gather 82 = .ok (.iastore, 1) := dz_79 (n := 64) (r := 18) hz_X4_gather_64 rfl
theorem dX4_gather_83 : decode cX4_gather 83 = .ok (.aload_n 0, 1) := dz_42 (n := 64) (r := 19) hz_X4_gather_64 rfl
theorem dX4_gather_84 : decode cX4_gather 84 = .ok (.getfield 9, 3) := dz_180 (n := 64) (r := 20) hz_X4_gather_64 rfl rfl
theorem dX4_gather_87 : decode cX4_gather 87 = .ok (.iload 5, 2) := dz_21 (n := 64) (r := 23) hz_X4_gather_64 rfl rfl
theorem dX4_gather_89 : decode cX4_gather 89 = .ok (.dup2, 1) := dz_92 (n := 64) (r := 25) hz_X4_gather_64 rfl
theorem dX4_gather_90 : decode cX4_gather 90 = .ok (.iaload, 1) := dz_46 (n := 64) (r := 26) hz_X4_gather_64 rfl
theorem dX4_gather_91 : decode cX4_gather 91 = .ok (.iconst 1, 1) := dz_4 (n := 64) (r := 27) hz_X4_gather_64 rfl
theorem dX4_gather_92 : decode cX4_gather 92 = .ok (.iadd, 1) := dz_96 (n := 64) (r := 28) hz_X4_gather_64 rfl
theorem dX4_gather_93 : decode cX4_gather 93 = .ok (.iastore, 1) := dz_79 (n := 64) (r := 29) hz_X4_gather_64 rfl
theorem dX4_gather_94 : decode cX4_gather 94 = .ok (.aload_n 0, 1) := dz_42 (n := 64) (r := 30) hz_X4_gather_64 rfl
theorem dX4_gather_95 : decode cX4_gather 95 = .ok (.getfield 18, 3) := dz_180 (n := 64) (r := 31) hz_X4_gather_64 rfl rfl
theorem hz_X4_gather_96 : (cX4_gather.data.toList.drop 96).take 40 = [0, 18, 21, 5, 16, 17, 104, 21, 6, 96, 92, 46, 4, 96, 79, 132, 4, 255, 167, 255, 163, 42, 182, 0, 51, 177] := by decide +kernel
theorem dX4_gather_98 : decode cX4_gather 98 = .ok (.iload 5, 2) := dz_21 (n := 96) (r := 2) hz_X4_gather_96 rfl rfl
theorem dX4_gather_100 : decode cX4_gather 100 = .ok (.bipush 17, 2) := dz_16 (n := 96) (r := 4) hz_X4_gather_96 rfl rfl
theorem dX4_gather_102 : decode cX4_gather 102 = .ok (.imul, 1) := dz_104 (n := 96) (r := 6) hz_X4_gather_96 rfl
theorem dX4_gather_103 : decode cX4_gather 103 = .ok (.iload 6, 2) := dz_21 (n := 96) (r := 7) hz_X4_gather_96 rfl rfl
theorem dX4_gather_105 : decode cX4_gather 105 = .ok (.iadd, 1) := dz_96 (n := 96) (r := 9) hz_X4_gather_96 rfl
theorem dX4_gather_106 : decode cX4_gather 106 = .ok (.dup2, 1) := dz_92 (n := 96) (r := 10) hz_X4_gather_96 rfl
theorem dX4_gather_107 : decode cX4_gather 107 = .ok (.iaload, 1) := dz_46 (n := 96) (r := 11) hz_X4_gather_96 rfl
theorem dX4_gather_108 : decode cX4_gather 108 = .ok (.iconst 1, 1) := dz_4 (n := 96) (r := 12) hz_X4_gather_96 rfl
theorem dX4_gather_109 : decode cX4_gather 109 = .ok (.iadd, 1) := dz_96 (n := 96) (r := 13) hz_X4_gather_96 rfl
theorem dX4_gather_110 : decode cX4_gather 110 = .ok (.iastore, 1) := dz_79 (n := 96) (r := 14) hz_X4_gather_96 rfl
theorem dX4_gather_111 : decode cX4_gather 111 = .ok (.iinc 4 (-1), 3) := dz_132 (n := 96) (r := 15) hz_X4_gather_96 rfl rfl rfl
theorem dX4_gather_114 : decode cX4_gather 114 = .ok (.goto (-93), 3) := dz_167 (n := 96) (r := 18) hz_X4_gather_96 rfl (by decide +kernel)
theorem dX4_gather_117 : decode cX4_gather 117 = .ok (.aload_n 0, 1) := dz_42 (n := 96) (r := 21) hz_X4_gather_96 rfl
theorem dX4_gather_118 : decode cX4_gather 118 = .ok (.invokevirtual 51, 3) := dz_182 (n := 96) (r := 22) hz_X4_gather_96 rfl rfl
theorem dX4_gather_121 : decode cX4_gather 121 = .ok (.return_, 1) := dz_177 (n := 96) (r := 25) hz_X4_gather_96 rfl
theorem hz_X4_listLevels_0 : (cX4_listLevels.data.toList.drop 0).take 40 = [42, 3, 181, 0, 54, 3, 60, 27, 17, 1, 33, 162, 0, 42, 42, 180, 0, 9, 27, 46, 158, 0, 27, 42, 180, 0, 21, 42, 180, 0, 54, 27, 17, 0, 144, 100, 79, 42, 89, 180] := by decide +kernel
theorem dX4_listLevels_0 : decode cX4_listLevels 0 = .ok (.aload_n 0, 1) := dz_42 (n := 0) (r := 0) hz_X4_listLevels_0 rfl
theorem dX4_listLevels_1 : decode cX4_listLevels 1 = .ok (.iconst 0, 1) := dz_3 (n := 0) (r := 1) hz_X4_listLevels_0 rfl
theorem dX4_listLevels_2 : decode cX4_listLevels 2 = .ok (.putfield 54, 3) := dz_181 (n := 0) (r := 2) hz_X4_listLevels_0 rfl rfl
theorem dX4_listLevels_5 : decode cX4_listLevels 5 = .ok (.iconst 0, 1) := dz_3 (n := 0) (r := 5) hz_X4_listLevels_0 rfl
theorem dX4_listLevels_6 : decode cX4_listLevels 6 = .ok (.istore_n 1, 1) := dz_60 (n := 0) (r := 6) hz_X4_listLevels_0 rfl
theorem dX4_listLevels_7 : decode cX4_listLevels 7 = .ok (.iload_n 1, 1) := dz_27 (n := 0) (r := 7) hz_X4_listLevels_0 rfl
theorem dX4_listLevels_8 : decode cX4_listLevels 8 = .ok (.sipush 289, 3) := dz_17 (n := 0) (r := 8) hz_X4_listLevels_0 rfl (by decide +kernel)
theorem dX4_listLevels_11 : decode cX4_listLevels 11 = .ok (.if_icmp .ge 42, 3) := dz_162 (n := 0) (r := 11) hz_X4_listLevels_0 rfl (by decide +kernel)
theorem dX4_listLevels_14 : decode cX4_listLevels 14 = .ok (.aload_n 0, 1) := dz_42 (n := 0) (r := 14) hz_X4_listLevels_0 rfl
theorem dX4_listLevels_15 : decode cX4_listLevels 15 = .ok (.getfield 9, 3) := dz_180 (n := 0) (r := 15) hz_X4_listLevels_0 rfl rfl
theorem dX4_listLevels_18 : decode cX4_listLevels 18 = .ok (.iload_n 1, 1) := dz_27 (n := 0) (r := 18) hz_X4_listLevels_0 rfl
theorem dX4_listLevels_19 : decode cX4_listLevels 19 = .ok (.iaload, 1) := dz_46 (n := 0) (r := 19) hz_X4_listLevels_0 rfl
theorem dX4_listLevels_20 : decode cX4_listLevels 20 = .ok (.ifCond .le 27, 3) := dz_158 (n := 0) (r := 20) hz_X4_listLevels_0 rfl (by decide +kernel)
theorem dX4_listLevels_23 : decode cX4_listLevels 23 = .ok (.aload_n 0, 1) := dz_42 (n := 0) (r := 23) hz_X4_listLevels_0 rfl
theorem dX4_listLevels_24 : decode cX4_listLevels 24 = .ok (.getfield 21, 3) := dz_180 (n := 0) (r := 24) hz_X4_listLevels_0 rfl rfl
theorem dX4_listLevels_27 : decode cX4_listLevels 27 = .ok (.aload_n 0, 1) := dz_42 (n := 0) (r := 27) hz_X4_listLevels_0 rfl
theorem dX4_listLevels_28 : decode cX4_listLevels 28 = .ok (.getfield 54, 3) := dz_180 (n := 0) (r := 28) hz_X4_listLevels_0 rfl rfl
theorem dX4_listLevels_31 : decode cX4_listLevels 31 = .ok (.iload_n 1, 1) := dz_27 (n := 0) (r := 31) hz_X4_listLevels_0 rfl
theorem hz_X4_listLevels_32 : (cX4_listLevels.data.toList.drop 32).take 40 = [17, 0, 144, 100, 79, 42, 89, 180, 0, 54, 4, 96, 181, 0, 54, 132, 1, 1, 167, 255, 213, 177] := by decide +kernel
theorem dX4_listLevels_32 : decode cX4_listLevels 32 = .ok (.sipush 144, 3) := dz_17 (n := 32) (r := 0) hz_X4_listLevels_32 rfl (by decide +kernel)
theorem dX4_listLevels_35 : decode cX4_listLevels 35 = .ok (.isub, 1) := dz_100 (n := 32) (r := 3) hz_X4_listLevels_32 rfl
theorem dX4_listLevels_36 : decode cX4_listLevels 36 = .ok (.iastore, 1) := dz_79 (n := 32) (r := 4) hz_X4_listLevels_32 rfl
theorem dX4_listLevels_37 : decode cX4_listLevels 37 = .ok (.aload_n 0, 1) := dz_42 (n := 32) (r := 5) hz_X4_listLevels_32 rfl
end
section
theorem dX4_listLevels_38 : decode cX4_listLevels 38 = .ok (.dup, 1) := dz_89 (n := 32) (r := 6) hz_X4_listLevels_32 rfl
theorem dX4_listLevels_39 : decode cX4_listLevels 39 = .ok (.getfield 54, 3) := dz_180 (n := 32) (r := 7) hz_X4_listLevels_32 rfl rfl
theorem dX4_listLevels_42 : decode cX4_listLevels 42 = .ok (.iconst 1, 1) := dz_4 (n := 32) (r := 10) hz_X4_listLevels_32 rfl
theorem dX4_listLevels_43 : decode cX4_listLevels 43 = .ok (.iadd, 1) := dz_96 (n := 32) (r := 11) hz_X4_listLevels_32 rfl
theorem dX4_listLevels_44 : decode cX4_listLevels 44 = .ok (.putfield 54, 3) := dz_181 (n := 32) (r := 12) hz_X4_listLevels_32 rfl rfl
theorem dX4_listLevels_47 : decode cX4_listLevels 47 = .ok (.iinc 1 1, 3) := dz_132 (n := 32) (r := 15) hz_X4_listLevels_32 rfl rfl rfl
theorem dX4_listLevels_50 : decode cX4_listLevels 50 = .ok (.goto (-43), 3) := dz_167 (n := 32) (r := 18) hz_X4_listLevels_32 rfl (by decide +kernel)
theorem dX4_listLevels_53 : decode cX4_listLevels 53 = .ok (.return_, 1) := dz_177 (n := 32) (r := 21) hz_X4_listLevels_32 rfl
theorem hz_X4_hasLevel_0 : (cX4_hasLevel.data.toList.drop 0).take 40 = [27, 155, 0, 15, 27, 42, 180, 0, 54, 162, 0, 7, 4, 167, 0, 4, 3, 172] := by decide +kernel
theorem dX4_hasLevel_0 : decode cX4_hasLevel 0 = .ok (.iload_n 1, 1) := dz_27 (n := 0) (r := 0) hz_X4_hasLevel_0 rfl
theorem dX4_hasLevel_1 : decode cX4_hasLevel 1 = .ok (.ifCond .lt 15, 3) := dz_155 (n := 0) (r := 1) hz_X4_hasLevel_0 rfl (by decide +kernel)
theorem dX4_hasLevel_4 : decode cX4_hasLevel 4 = .ok (.iload_n 1, 1) := dz_27 (n := 0) (r := 4) hz_X4_hasLevel_0 rfl
theorem dX4_hasLevel_5 : decode cX4_hasLevel 5 = .ok (.aload_n 0, 1) := dz_42 (n := 0) (r := 5) hz_X4_hasLevel_0 rfl
theorem dX4_hasLevel_6 : decode cX4_hasLevel 6 = .ok (.getfield 54, 3) := dz_180 (n := 0) (r := 6) hz_X4_hasLevel_0 rfl rfl
theorem dX4_hasLevel_9 : decode cX4_hasLevel 9 = .ok (.if_icmp .ge 7, 3) := dz_162 (n := 0) (r := 9) hz_X4_hasLevel_0 rfl (by decide +kernel)
theorem dX4_hasLevel_12 : decode cX4_hasLevel 12 = .ok (.iconst 1, 1) := dz_4 (n := 0) (r := 12) hz_X4_hasLevel_0 rfl
theorem dX4_hasLevel_13 : decode cX4_hasLevel 13 = .ok (.goto 4, 3) := dz_167 (n := 0) (r := 13) hz_X4_hasLevel_0 rfl (by decide +kernel)
theorem dX4_hasLevel_16 : decode cX4_hasLevel 16 = .ok (.iconst 0, 1) := dz_3 (n := 0) (r := 16) hz_X4_hasLevel_0 rfl
theorem dX4_hasLevel_17 : decode cX4_hasLevel 17 = .ok (.ireturn, 1) := dz_172 (n := 0) (r := 17) hz_X4_hasLevel_0 rfl
theorem hz_X4_energyOf_0 : (cX4_energyOf.data.toList.drop 0).take 40 = [27, 155, 0, 29, 27, 42, 180, 0, 54, 162, 0, 21, 27, 42, 180, 0, 21, 190, 162, 0, 12, 42, 180, 0, 21, 27, 46, 167, 0, 4, 3, 172] := by decide +kernel
theorem dX4_energyOf_0 : decode cX4_energyOf 0 = .ok (.iload_n 1, 1) := dz_27 (n := 0) (r := 0) hz_X4_energyOf_0 rfl
theorem dX4_energyOf_1 : decode cX4_energyOf 1 = .ok (.ifCond .lt 29, 3) := dz_155 (n := 0) (r := 1) hz_X4_energyOf_0 rfl (by decide +kernel)
theorem dX4_energyOf_4 : decode cX4_energyOf 4 = .ok (.iload_n 1, 1) := dz_27 (n := 0) (r := 4) hz_X4_energyOf_0 rfl
theorem dX4_energyOf_5 : decode cX4_energyOf 5 = .ok (.aload_n 0, 1) := dz_42 (n := 0) (r := 5) hz_X4_energyOf_0 rfl
theorem dX4_energyOf_6 : decode cX4_energyOf 6 = .ok (.getfield 54, 3) := dz_180 (n := 0) (r := 6) hz_X4_energyOf_0 rfl rfl
theorem dX4_energyOf_9 : decode cX4_energyOf 9 = .ok (.if_icmp .ge 21, 3) := dz_162 (n := 0) (r := 9) hz_X4_energyOf_0 rfl (by decide +kernel)
theorem dX4_energyOf_12 : decode cX4_energyOf 12 = .ok (.iload_n 1, 1) := dz_27 (n := 0) (r := 12) hz_X4_energyOf_0 rfl
theorem dX4_energyOf_13 : decode cX4_energyOf 13 = .ok (.aload_n 0, 1) := dz_42 (n := 0) (r := 13) hz_X4_energyOf_0 rfl
theorem dX4_energyOf_14 : decode cX4_energyOf 14 = .ok (.getfield 21, 3) := dz_180 (n := 0) (r := 14) hz_X4_energyOf_0 rfl rfl
theorem dX4_energyOf_17 : decode cX4_energyOf 17 = .ok (.arraylength, 1) := dz_190 (n := 0) (r := 17) hz_X4_energyOf_0 rfl
theorem dX4_energyOf_18 : decode cX4_energyOf 18 = .ok (.if_icmp .ge 12, 3) := dz_162 (n := 0) (r := 18) hz_X4_energyOf_0 rfl (by decide +kernel)
theorem dX4_energyOf_21 : decode cX4_energyOf 21 = .ok (.aload_n 0, 1) := dz_42 (n := 0) (r := 21) hz_X4_energyOf_0 rfl
theorem dX4_energyOf_22 : decode cX4_energyOf 22 = .ok (.getfield 21, 3) := dz_180 (n := 0) (r := 22) hz_X4_energyOf_0 rfl rfl
theorem dX4_energyOf_25 : decode cX4_energyOf 25 = .ok (.iload_n 1, 1) := dz_27 (n := 0) (r := 25) hz_X4_energyOf_0 rfl
theorem dX4_energyOf_26 : decode cX4_energyOf 26 = .ok (.iaload, 1) := dz_46 (n := 0) (r := 26) hz_X4_energyOf_0 rfl
theorem dX4_energyOf_27 : decode cX4_energyOf 27 = .ok (.goto 4, 3) := dz_167 (n := 0) (r := 27) hz_X4_energyOf_0 rfl (by decide +kernel)
theorem dX4_energyOf_30 : decode cX4_energyOf 30 = .ok (.iconst 0, 1) := dz_3 (n := 0) (r := 30) hz_X4_energyOf_0 rfl
theorem dX4_energyOf_31 : decode cX4_energyOf 31 = .ok (.ireturn, 1) := dz_172 (n := 0) (r := 31) hz_X4_energyOf_0 rfl
theorem hz_X4_numberOf_0 : (cX4_numberOf.data.toList.drop 0).take 40 = [3, 61, 28, 42, 180, 0, 54, 162, 0, 30, 28, 42, 180, 0, 21, 190, 162, 0, 21, 42, 180, 0, 21, 28, 46, 27, 160, 0, 5, 28, 172, 132, 2, 1, 167, 255, 224, 18, 57, 172] := by decide +kernel
theorem dX4_numberOf_0 : decode cX4_numberOf 0 = .ok (.iconst 0, 1) := dz_3 (n := 0) (r := 0) hz_X4_numberOf_0 rfl
theorem dX4_numberOf_1 : decode cX4_numberOf 1 = .ok (.istore_n 2, 1) := dz_61 (n := 0) (r := 1) hz_X4_numberOf_0 rfl
theorem dX4_numberOf_2 : decode cX4_numberOf 2 = .ok (.iload_n 2, 1) := dz_28 (n := 0) (r := 2) hz_X4_numberOf_0 rfl
theorem dX4_numberOf_3 : decode cX4_numberOf 3 = .ok (.aload_n 0, 1) := dz_42 (n := 0) (r := 3) hz_X4_numberOf_0 rfl
theorem dX4_numberOf_4 : decode cX4_numberOf 4 = .ok (.getfield 54, 3) := dz_180 (n := 0) (r := 4) hz_X4_numberOf_0 rfl rfl
theorem dX4_numberOf_7 : decode cX4_numberOf 7 = .ok (.if_icmp .ge 30, 3) := dz_162 (n := 0) (r := 7) hz_X4_numberOf_0 rfl (by decide +kernel)
theorem dX4_numberOf_10 : decode cX4_numberOf 10 = .ok (.iload_n 2, 1) := dz_28 (n := 0) (r := 10) hz_X4_numberOf_0 rfl
theorem dX4_numberOf_11 : decode cX4_numberOf 11 = .ok (.aload_n 0, 1) := dz_42 (n := 0) (r := 11) hz_X4_numberOf_0 rfl
theorem dX4_numberOf_12 : decode cX4_numberOf 12 = .ok (.getfield 21, 3) := dz_180 (n := 0) (r := 12) hz_X4_numberOf_0 rfl rfl
theorem dX4_numberOf_15 : decode cX4_numberOf 15 = .ok (.arraylength, 1) := dz_190 (n := 0) (r := 15) hz_X4_numberOf_0 rfl
theorem dX4_numberOf_16 : decode cX4_numberOf 16 = .ok (.if_icmp .ge 21, 3) := dz_162 (n := 0) (r := 16) hz_X4_numberOf_0 rfl (by decide +kernel)
theorem dX4_numberOf_19 : decode cX4_numberOf 19 = .ok (.aload_n 0, 1) := dz_42 (n := 0) (r := 19) hz_X4_numberOf_0 rfl
theorem dX4_numberOf_20 : decode cX4_numberOf 20 = .ok (.getfield 21, 3) := dz_180 (n := 0) (r := 20) hz_X4_numberOf_0 rfl rfl
theorem dX4_numberOf_23 : decode cX4_numberOf 23 = .ok (.iload_n 2, 1) := dz_28 (n := 0) (r := 23) hz_X4_numberOf_0 rfl
theorem dX4_numberOf_24 : decode cX4_numberOf 24 = .ok (.iaload, 1) := dz_46 (n := 0) (r := 24) hz_X4_numberOf_0 rfl
theorem dX4_numberOf_25 : decode cX4_numberOf 25 = .ok (.iload_n 1, 1) := dz_27 (n := 0) (r := 25) hz_X4_numberOf_0 rfl
theorem dX4_numberOf_26 : decode cX4_numberOf 26 = .ok (.if_icmp .ne 5, 3) := dz_160 (n := 0) (r := 26) hz_X4_numberOf_0 rfl (by decide +kernel)
theorem dX4_numberOf_29 : decode cX4_numberOf 29 = .ok (.iload_n 2, 1) := dz_28 (n := 0) (r := 29) hz_X4_numberOf_0 rfl
theorem dX4_numberOf_30 : decode cX4_numberOf 30 = .ok (.ireturn, 1) := dz_172 (n := 0) (r := 30) hz_X4_numberOf_0 rfl
theorem dX4_numberOf_31 : decode cX4_numberOf 31 = .ok (.iinc 2 1, 3) := dz_132 (n := 0) (r := 31) hz_X4_numberOf_0 rfl rfl rfl
theorem hz_X4_numberOf_32 : (cX4_numberOf.data.toList.drop 32).take 40 = [2, 1, 167, 255, 224, 18, 57, 172] := by decide +kernel
theorem dX4_numberOf_34 : decode cX4_numberOf 34 = .ok (.goto (-32), 3) := dz_167 (n := 32) (r := 2) hz_X4_numberOf_32 rfl (by decide +kernel)
theorem dX4_numberOf_37 : decode cX4_numberOf 37 = .ok (.ldc 57, 2) := dz_18 (n := 32) (r := 5) hz_X4_numberOf_32 rfl rfl
theorem dX4_numberOf_39 : decode cX4_numberOf 39 = .ok (.ireturn, 1) := dz_172 (n := 32) (r := 7) hz_X4_numberOf_32 rfl
theorem hz_X4_isEnergy_0 : (cX4_isEnergy.data.toList.drop 0).take 40 = [26, 17, 255, 112, 161, 0, 14, 26, 17, 0, 144, 163, 0, 7, 4, 167, 0, 4, 3, 172] := by decide +kernel
theorem dX4_isEnergy_0 : decode cX4_isEnergy 0 = .ok (.iload_n 0, 1) := dz_26 (n := 0) (r := 0) hz_X4_isEnergy_0 rfl
theorem dX4_isEnergy_1 : decode cX4_isEnergy 1 = .ok (.sipush (-144), 3) := dz_17 (n := 0) (r := 1) hz_X4_isEnergy_0 rfl (by decide +kernel)
theorem dX4_isEnergy_4 : decode cX4_isEnergy 4 = .ok (.if_icmp .lt 14, 3) := dz_161 (n := 0) (r := 4) hz_X4_isEnergy_0 rfl (by decide +kernel)
theorem dX4_isEnergy_7 : decode cX4_isEnergy 7 = .ok (.iload_n 0, 1) := dz_26 (n := 0) (r := 7) hz_X4_isEnergy_0 rfl
theorem dX4_isEnergy_8 : decode cX4_isEnergy 8 = .ok (.sipush 144, 3) := dz_17 (n := 0) (r := 8) hz_X4_isEnergy_0 rfl (by decide +kernel)
theorem dX4_isEnergy_11 : decode cX4_isEnergy 11 = .ok (.if_icmp .gt 7, 3) := dz_163 (n := 0) (r := 11) hz_X4_isEnergy_0 rfl (by decide +kernel)
theorem dX4_isEnergy_14 : decode cX4_isEnergy 14 = .ok (.iconst 1, 1) := dz_4 (n := 0) (r := 14) hz_X4_isEnergy_0 rfl
theorem dX4_isEnergy_15 : decode cX4_isEnergy 15 = .ok (.goto 4, 3) := dz_167 (n := 0) (r := 15) hz_X4_isEnergy_0 rfl (by decide +kernel)
theorem dX4_isEnergy_18 : decode cX4_isEnergy 18 = .ok (.iconst 0, 1) := dz_3 (n := 0) (r := 18) hz_X4_isEnergy_0 rfl
theorem dX4_isEnergy_19 : decode cX4_isEnergy 19 = .ok (.ireturn, 1) := dz_172 (n := 0) (r := 19) hz_X4_isEnergy_0 rfl
theorem hz_X4_waysOf_0 : (cX4_waysOf.data.toList.drop 0).take 40 = [27, 184, 0, 58, 153, 0, 16, 42, 180, 0, 9, 27, 17, 0, 144, 96, 46, 167, 0, 4, 3, 172] := by decide +kernel
theorem dX4_waysOf_0 : decode cX4_waysOf 0 = .ok (.iload_n 1, 1) := dz_27 (n := 0) (r := 0) hz_X4_waysOf_0 rfl
theorem dX4_waysOf_1 : decode cX4_waysOf 1 = .ok (.invokestatic 58, 3) := dz_184 (n := 0) (r := 1) hz_X4_waysOf_0 rfl rfl
theorem dX4_waysOf_4 : decode cX4_waysOf 4 = .ok (.ifCond .eq 16, 3) := dz_153 (n := 0) (r := 4) hz_X4_waysOf_0 rfl (by decide +kernel)
theorem dX4_waysOf_7 : decode cX4_waysOf 7 = .ok (.aload_n 0, 1) := dz_42 (n := 0) (r := 7) hz_X4_waysOf_0 rfl
theorem dX4_waysOf_8 : decode cX4_waysOf 8 = .ok (.getfield 9, 3) := dz_180 (n := 0) (r := 8) hz_X4_waysOf_0 rfl rfl
theorem dX4_waysOf_11 : decode cX4_waysOf 11 = .ok (.iload_n 1, 1) := dz_27 (n := 0) (r := 11) hz_X4_waysOf_0 rfl
theorem dX4_waysOf_12 : decode cX4_waysOf 12 = .ok (.sipush 144, 3) := dz_17 (n := 0) (r := 12) hz_X4_waysOf_0 rfl (by decide +kernel)
theorem dX4_waysOf_15 : decode cX4_waysOf 15 = .ok (.iadd, 1) := dz_96 (n := 0) (r := 15) hz_X4_waysOf_0 rfl
theorem dX4_waysOf_16 : decode cX4_waysOf 16 = .ok (.iaload, 1) := dz_46 (n := 0) (r := 16) hz_X4_waysOf_0 rfl
theorem dX4_waysOf_17 : decode cX4_waysOf 17 = .ok (.goto 4, 3) := dz_167 (n := 0) (r := 17) hz_X4_waysOf_0 rfl (by decide +kernel)
theorem dX4_waysOf_20 : decode cX4_waysOf 20 = .ok (.iconst 0, 1) := dz_3 (n := 0) (r := 20) hz_X4_waysOf_0 rfl
theorem dX4_waysOf_21 : decode cX4_waysOf 21 = .ok (.ireturn, 1) := dz_172 (n := 0) (r := 21) hz_X4_waysOf_0 rfl
theorem hz_X4_leastOf_0 : (cX4_leastOf.data.toList.drop 0).take 40 = [27, 184, 0, 58, 153, 0, 16, 42, 180, 0, 15, 27, 17, 0, 144, 96, 46, 167, 0, 4, 3, 172] := by decide +kernel
theorem dX4_leastOf_0 : decode cX4_leastOf 0 = .ok (.iload_n 1, 1) := dz_27 (n := 0) (r := 0) hz_X4_leastOf_0 rfl
theorem dX4_leastOf_1 : decode cX4_leastOf 1 = .ok (.invokestatic 58, 3) := dz_184 (n := 0) (r := 1) hz_X4_leastOf_0 rfl rfl
theorem dX4_leastOf_4 : decode cX4_leastOf 4 = .ok (.ifCond .eq 16, 3) := dz_153 (n := 0) (r := 4) hz_X4_leastOf_0 rfl (by decide +kernel)
theorem dX4_leastOf_7 : decode cX4_leastOf 7 = .ok (.aload_n 0, 1) := dz_42 (n := 0) (r := 7) hz_X4_leastOf_0 rfl
theorem dX4_leastOf_8 : decode cX4_leastOf 8 = .ok (.getfield 15, 3) := dz_180 (n := 0) (r := 8) hz_X4_leastOf_0 rfl rfl
theorem dX4_leastOf_11 : decode cX4_leastOf 11 = .ok (.iload_n 1, 1) := dz_27 (n := 0) (r := 11) hz_X4_leastOf_0 rfl
theorem dX4_leastOf_12 : decode cX4_leastOf 12 = .ok (.sipush 144, 3) := dz_17 (n := 0) (r := 12) hz_X4_leastOf_0 rfl (by decide +kernel)
theorem dX4_leastOf_15 : decode cX4_leastOf 15 = .ok (.iadd, 1) := dz_96 (n := 0) (r := 15) hz_X4_leastOf_0 rfl
theorem dX4_leastOf_16 : decode cX4_leastOf 16 = .ok (.iaload, 1) := dz_46 (n := 0) (r := 16) hz_X4_leastOf_0 rfl
theorem dX4_leastOf_17 : decode cX4_leastOf 17 = .ok (.goto 4, 3) := dz_167 (n := 0) (r := 17) hz_X4_leastOf_0 rfl (by decide +kernel)
theorem dX4_leastOf_20 : decode cX4_leastOf 20 = .ok (.iconst 0, 1) := dz_3 (n := 0) (r := 20) hz_X4_leastOf_0 rfl
theorem dX4_leastOf_21 : decode cX4_leastOf 21 = .ok (.ireturn, 1) := dz_172 (n := 0) (r := 21) hz_X4_leastOf_0 rfl
theorem hz_X4_waysWithUps_0 : (cX4_waysWithUps.data.toList.drop 0).take 40 = [27, 184, 0, 58, 153, 0, 17, 28, 155, 0, 13, 28, 16, 17, 162, 0, 7, 4, 167, 0, 4, 3, 62, 29, 153, 0, 21, 42, 180, 0, 18, 27, 17, 0, 144, 96, 16, 17, 104, 28] := by decide +kernel
theorem dX4_waysWithUps_0 : decode cX4_waysWithUps 0 = .ok (.iload_n 1, 1) := dz_27 (n := 0) (r := 0) hz_X4_waysWithUps_0 rfl
theorem dX4_waysWithUps_1 : decode cX4_waysWithUps 1 = .ok (.invokestatic 58, 3) := dz_184 (n := 0) (r := 1) hz_X4_waysWithUps_0 rfl rfl
theorem dX4_waysWithUps_4 : decode cX4_waysWithUps 4 = .ok (.ifCond .eq 17, 3) := dz_153 (n := 0) (r := 4) hz_X4_waysWithUps_0 rfl (by decide +kernel)
theorem dX4_waysWithUps_7 : decode cX4_waysWithUps 7 = .ok (.iload_n 2, 1) := dz_28 (n := 0) (r := 7) hz_X4_waysWithUps_0 rfl
theorem dX4_waysWithUps_8 : decode cX4_waysWithUps 8 = .ok (.ifCond .lt 13, 3) := dz_155 (n := 0) (r := 8) hz_X4_waysWithUps_0 rfl (by decide +kernel)
theorem dX4_waysWithUps_11 : decode cX4_waysWithUps 11 = .ok (.iload_n 2, 1) := dz_28 (n := 0) (r := 11) hz_X4_waysWithUps_0 rfl
theorem dX4_waysWithUps_12 : decode cX4_waysWithUps 12 = .ok (.bipush 17, 2) := dz_16 (n := 0) (r := 12) hz_X4_waysWithUps_0 rfl rfl
theorem dX4_waysWithUps_14 : decode cX4_waysWithUps 14 = .ok (.if_icmp .ge 7, 3) := dz_162 (n := 0) (r := 14) hz_X4_waysWithUps_0 rfl (by decide +kernel)
theorem dX4_waysWithUps_17 : decode cX4_waysWithUps 17 = .ok (.iconst 1, 1) := dz_4 (n := 0) (r := 17) hz_X4_waysWithUps_0 rfl
theorem dX4_waysWithUps_18 : decode cX4_waysWithUps 18 = .ok (.goto 4, 3) := dz_167 (n := 0) (r := 18) hz_X4_waysWithUps_0 rfl (by decide +kernel)
theorem dX4_waysWithUps_21 : decode cX4_waysWithUps 21 = .ok (.iconst 0, 1) := dz_3 (n := 0) (r := 21) hz_X4_waysWithUps_0 rfl
theorem dX4_waysWithUps_22 : decode cX4_waysWithUps 22 = .ok (.istore_n 3, 1) := dz_62 (n := 0) (r := 22) hz_X4_waysWithUps_0 rfl
theorem dX4_waysWithUps_23 : decode cX4_waysWithUps 23 = .ok (.iload_n 3, 1) := dz_29 (n := 0) (r := 23) hz_X4_waysWithUps_0 rfl
theorem dX4_waysWithUps_24 : decode cX4_waysWithUps 24 = .ok (.ifCond .eq 21, 3) := dz_153 (n := 0) (r := 24) hz_X4_waysWithUps_0 rfl (by decide +kernel)
theorem dX4_waysWithUps_27 : decode cX4_waysWithUps 27 = .ok (.aload_n 0, 1) := dz_42 (n := 0) (r := 27) hz_X4_waysWithUps_0 rfl
theorem dX4_waysWithUps_28 : decode cX4_waysWithUps 28 = .ok (.getfield 18, 3) := dz_180 (n := 0) (r := 28) hz_X4_waysWithUps_0 rfl rfl
theorem dX4_waysWithUps_31 : decode cX4_waysWithUps 31 = .ok (.iload_n 1, 1) := dz_27 (n := 0) (r := 31) hz_X4_waysWithUps_0 rfl
theorem hz_X4_waysWithUps_32 : (cX4_waysWithUps.data.toList.drop 32).take 40 = [17, 0, 144, 96, 16, 17, 104, 28, 96, 46, 167, 0, 4, 3, 172] := by decide +kernel
theorem dX4_waysWithUps_32 : decode cX4_waysWithUps 32 = .ok (.sipush 144, 3) := dz_17 (n := 32) (r := 0) hz_X4_waysWithUps_32 rfl (by decide +kernel)
theorem dX4_waysWithUps_35 : decode cX4_waysWithUps 35 = .ok (.iadd, 1) := dz_96 (n := 32) (r := 3) hz_X4_waysWithUps_32 rfl
theorem dX4_waysWithUps_36 : decode cX4_waysWithUps 36 = .ok (.bipush 17, 2) := dz_16 (n := 32) (r := 4) hz_X4_waysWithUps_32 rfl rfl
theorem dX4_waysWithUps_38 : decode cX4_waysWithUps 38 = .ok (.imul, 1) := dz_104 (n := 32) (r := 6) hz_X4_waysWithUps_32 rfl
theorem dX4_waysWithUps_39 : decode cX4_waysWithUps 39 = .ok (.iload_n 2, 1) := dz_28 (n := 32) (r := 7) hz_X4_waysWithUps_32 rfl
theorem dX4_waysWithUps_40 : decode cX4_waysWithUps 40 = .ok (.iadd, 1) := dz_96 (n := 32) (r := 8) hz_X4_waysWithUps_32 rfl
theorem dX4_waysWithUps_41 : decode cX4_waysWithUps 41 = .ok (.iaload, 1) := dz_46 (n := 32) (r := 9) hz_X4_waysWithUps_32 rfl
theorem dX4_waysWithUps_42 : decode cX4_waysWithUps 42 = .ok (.goto 4, 3) := dz_167 (n := 32) (r := 10) hz_X4_waysWithUps_32 rfl (by decide +kernel)
theorem dX4_waysWithUps_45 : decode cX4_waysWithUps 45 = .ok (.iconst 0, 1) := dz_3 (n := 32) (r := 13) hz_X4_waysWithUps_32 rfl
theorem dX4_waysWithUps_46 : decode cX4_waysWithUps 46 = .ok (.ireturn, 1) := dz_172 (n := 32) (r := 14) hz_X4_waysWithUps_32 rfl
theorem hz_X4_fewestUps_0 : (cX4_fewestUps.data.toList.drop 0).take 40 = [3, 61, 28, 16, 17, 162, 0, 20, 42, 27, 28, 182, 0, 61, 158, 0, 5, 28, 172, 132, 2, 1, 167, 255, 236, 18, 57, 172] := by decide +kernel
theorem dX4_fewestUps_0 : decode cX4_fewestUps 0 = .ok (.iconst 0, 1) := dz_3 (n := 0) (r := 0) hz_X4_fewestUps_0 rfl
theorem dX4_fewestUps_1 : decode cX4_fewestUps 1 = .ok (.istore_n 2, 1) := dz_61 (n := 0) (r := 1) hz_X4_fewestUps_0 rfl
theorem dX4_fewestUps_2 : decode cX4_fewestUps 2 = .ok (.iload_n 2, 1) := dz_28 (n := 0) (r := 2) hz_X4_fewestUps_0 rfl
theorem dX4_fewestUps_3 : decode cX4_fewestUps 3 = .ok (.bipush 17, 2) := dz_16 (n := 0) (r := 3) hz_X4_fewestUps_0 rfl rfl
theorem dX4_fewestUps_5 : decode cX4_fewestUps 5 = .ok (.if_icmp .ge 20, 3) := dz_162 (n := 0) (r := 5) hz_X4_fewestUps_0 rfl (by decide +kernel)
theorem dX4_fewestUps_8 : decode cX4_fewestUps 8 = .ok (.aload_n 0, 1) := dz_42 (n := 0) (r := 8) hz_X4_fewestUps_0 rfl
theorem dX4_fewestUps_9 : decode cX4_fewestUps 9 = .ok (.iload_n 1, 1) := dz_27 (n := 0) (r := 9) hz_X4_fewestUps_0 rfl
theorem dX4_fewestUps_10 : decode cX4_fewestUps 10 = .ok (.iload_n 2, 1) := dz_28 (n := 0) (r := 10) hz_X4_fewestUps_0 rfl
theorem dX4_fewestUps_11 : decode cX4_fewestUps 11 = .ok (.invokevirtual 61, 3) := dz_182 (n := 0) (r := 11) hz_X4_fewestUps_0 rfl rfl
theorem dX4_fewestUps_14 : decode cX4_fewestUps 14 = .ok (.ifCond .le 5, 3) := dz_158 (n := 0) (r := 14) hz_X4_fewestUps_0 rfl (by decide +kernel)
theorem dX4_fewestUps_17 : decode cX4_fewestUps 17 = .ok (.iload_n 2, 1) := dz_28 (n := 0) (r := 17) hz_X4_fewestUps_0 rfl
theorem dX4_fewestUps_18 : decode cX4_fewestUps 18 = .ok (.ireturn, 1) := dz_172 (n := 0) (r := 18) hz_X4_fewestUps_0 rfl
theorem dX4_fewestUps_19 : decode cX4_fewestUps 19 = .ok (.iinc 2 1, 3) := dz_132 (n := 0) (r := 19) hz_X4_fewestUps_0 rfl rfl rfl
theorem dX4_fewestUps_22 : decode cX4_fewestUps 22 = .ok (.goto (-20), 3) := dz_167 (n := 0) (r := 22) hz_X4_fewestUps_0 rfl (by decide +kernel)
theorem dX4_fewestUps_25 : decode cX4_fewestUps 25 = .ok (.ldc 57, 2) := dz_18 (n := 0) (r := 25) hz_X4_fewestUps_0 rfl rfl
theorem dX4_fewestUps_27 : decode cX4_fewestUps 27 = .ok (.ireturn, 1) := dz_172 (n := 0) (r := 27) hz_X4_fewestUps_0 rfl
theorem hz_X4_mostUps_0 : (cX4_mostUps.data.toList.drop 0).take 40 = [16, 16, 61, 28, 155, 0, 20, 42, 27, 28, 182, 0, 61, 158, 0, 5, 28, 172, 132, 2, 255, 167, 255, 238, 18, 57, 172] := by decide +kernel
theorem dX4_mostUps_0 : decode cX4_mostUps 0 = .ok (.bipush 16, 2) := dz_16 (n := 0) (r := 0) hz_X4_mostUps_0 rfl rfl
theorem dX4_mostUps_2 : decode cX4_mostUps 2 = .ok (.istore_n 2, 1) := dz_61 (n := 0) (r := 2) hz_X4_mostUps_0 rfl
theorem dX4_mostUps_3 : decode cX4_mostUps 3 = .ok (.iload_n 2, 1) := dz_28 (n := 0) (r := 3) hz_X4_mostUps_0 rfl
theorem dX4_mostUps_4 : decode cX4_mostUps 4 = .ok (.ifCond .lt 20, 3) := dz_155 (n := 0) (r := 4) hz_X4_mostUps_0 rfl (by decide +kernel)
theorem dX4_mostUps_7 : decode cX4_mostUps 7 = .ok (.aload_n 0, 1) := dz_42 (n := 0) (r := 7) hz_X4_mostUps_0 rfl
theorem dX4_mostUps_8 : decode cX4_mostUps 8 = .ok (.iload_n 1, 1) := dz_27 (n := 0) (r := 8) hz_X4_mostUps_0 rfl
theorem dX4_mostUps_9 : decode cX4_mostUps 9 = .ok (.iload_n 2, 1) := dz_28 (n := 0) (r := 9) hz_X4_mostUps_0 rfl
theorem dX4_mostUps_10 : decode cX4_mostUps 10 = .ok (.invokevirtual 61, 3) := dz_182 (n := 0) (r := 10) hz_X4_mostUps_0 rfl rfl
theorem dX4_mostUps_13 : decode cX4_mostUps 13 = .ok (.ifCond .le 5, 3) := dz_158 (n := 0) (r := 13) hz_X4_mostUps_0 rfl (by decide +kernel)
theorem dX4_mostUps_16 : decode cX4_mostUps 16 = .ok (.iload_n 2, 1) := dz_28 (n := 0) (r := 16) hz_X4_mostUps_0 rfl
theorem dX4_mostUps_17 : decode cX4_mostUps 17 = .ok (.ireturn, 1) := dz_172 (n := 0) (r := 17) hz_X4_mostUps_0 rfl
theorem dX4_mostUps_18 : decode cX4_mostUps 18 = .ok (.iinc 2 (-1), 3) := dz_132 (n := 0) (r := 18) hz_X4_mostUps_0 rfl rfl rfl
theorem dX4_mostUps_21 : decode cX4_mostUps 21 = .ok (.goto (-18), 3) := dz_167 (n := 0) (r := 21) hz_X4_mostUps_0 rfl (by decide +kernel)
theorem dX4_mostUps_24 : decode cX4_mostUps 24 = .ok (.ldc 57, 2) := dz_18 (n := 0) (r := 24) hz_X4_mostUps_0 rfl rfl
theorem dX4_mostUps_26 : decode cX4_mostUps 26 = .ok (.ireturn, 1) := dz_172 (n := 0) (r := 26) hz_X4_mostUps_0 rfl
theorem hz_X4_upsAdded_0 : (cX4_upsAdded.data.toList.drop 0).take 40 = [3, 61, 3, 62, 29, 16, 17, 162, 0, 20, 28, 29, 42, 27, 29, 182, 0, 61, 104, 96, 61, 132, 3, 1, 167, 255, 236, 28, 172] := by decide +kernel
theorem dX4_upsAdded_0 : decode cX4_upsAdded 0 = .ok (.iconst 0, 1) := dz_3 (n := 0) (r := 0) hz_X4_upsAdded_0 rfl
theorem dX4_upsAdded_1 : decode cX4_upsAdded 1 = .ok (.istore_n 2, 1) := dz_61 (n := 0) (r := 1) hz_X4_upsAdded_0 rfl
theorem dX4_upsAdded_2 : decode cX4_upsAdded 2 = .ok (.iconst 0, 1) := dz_3 (n := 0) (r := 2) hz_X4_upsAdded_0 rfl
theorem dX4_upsAdded_3 : decode cX4_upsAdded 3 = .ok (.istore_n 3, 1) := dz_62 (n := 0) (r := 3) hz_X4_upsAdded_0 rfl
theorem dX4_upsAdded_4 : decode cX4_upsAdded 4 = .ok (.iload_n 3, 1) := dz_29 (n := 0) (r := 4) hz_X4_upsAdded_0 rfl
theorem dX4_upsAdded_5 : decode cX4_upsAdded 5 = .ok (.bipush 17, 2) := dz_16 (n := 0) (r := 5) hz_X4_upsAdded_0 rfl rfl
theorem dX4_upsAdded_7 : decode cX4_upsAdded 7 = .ok (.if_icmp .ge 20, 3) := dz_162 (n := 0) (r := 7) hz_X4_upsAdded_0 rfl (by decide +kernel)
theorem dX4_upsAdded_10 : decode cX4_upsAdded 10 = .ok (.iload_n 2, 1) := dz_28 (n := 0) (r := 10) hz_X4_upsAdded_0 rfl
theorem dX4_upsAdded_11 : decode cX4_upsAdded 11 = .ok (.iload_n 3, 1) := dz_29 (n := 0) (r := 11) hz_X4_upsAdded_0 rfl
theorem dX4_upsAdded_12 : decode cX4_upsAdded 12 = .ok (.aload_n 0, 1) := dz_42 (n := 0) (r := 12) hz_X4_upsAdded_0 rfl
theorem dX4_upsAdded_13 : decode cX4_upsAdded 13 = .ok (.iload_n 1, 1) := dz_27 (n := 0) (r := 13) hz_X4_upsAdded_0 rfl
theorem dX4_upsAdded_14 : decode cX4_upsAdded 14 = .ok (.iload_n 3, 1) := dz_29 (n := 0) (r := 14) hz_X4_upsAdded_0 rfl
theorem dX4_upsAdded_15 : decode cX4_upsAdded 15 = .ok (.invokevirtual 61, 3) := dz_182 (n := 0) (r := 15) hz_X4_upsAdded_0 rfl rfl
theorem dX4_upsAdded_18 : decode cX4_upsAdded 18 = .ok (.imul, 1) := dz_104 (n := 0) (r := 18) hz_X4_upsAdded_0 rfl
theorem dX4_upsAdded_19 : decode cX4_upsAdded 19 = .ok (.iadd, 1) := dz_96 (n := 0) (r := 19) hz_X4_upsAdded_0 rfl
theorem dX4_upsAdded_20 : decode cX4_upsAdded 20 = .ok (.istore_n 2, 1) := dz_61 (n := 0) (r := 20) hz_X4_upsAdded_0 rfl
theorem dX4_upsAdded_21 : decode cX4_upsAdded 21 = .ok (.iinc 3 1, 3) := dz_132 (n := 0) (r := 21) hz_X4_upsAdded_0 rfl rfl rfl
theorem dX4_upsAdded_24 : decode cX4_upsAdded 24 = .ok (.goto (-20), 3) := dz_167 (n := 0) (r := 24) hz_X4_upsAdded_0 rfl (by decide +kernel)
theorem dX4_upsAdded_27 : decode cX4_upsAdded 27 = .ok (.iload_n 2, 1) := dz_28 (n := 0) (r := 27) hz_X4_upsAdded_0 rfl
theorem dX4_upsAdded_28 : decode cX4_upsAdded 28 = .ok (.ireturn, 1) := dz_172 (n := 0) (r := 28) hz_X4_upsAdded_0 rfl
theorem hz_X5_init_0 : (cX5_init.data.toList.drop 0).take 40 = [42, 183, 0, 3, 42, 16, 40, 189, 0, 9, 181, 0, 11, 3, 60, 27, 42, 180, 0, 11, 190, 162, 0, 22, 42, 180, 0, 11, 27, 187, 0, 9, 89, 183, 0, 17, 83, 132, 1, 1] := by decide +kernel
theorem dX5_init_0 : decode cX5_init 0 = .ok (.aload_n 0, 1) := dz_42 (n := 0) (r := 0) hz_X5_init_0 rfl
theorem dX5_init_1 : decode cX5_init 1 = .ok (.invokespecial 3, 3) := dz_183 (n := 0) (r := 1) hz_X5_init_0 rfl rfl
theorem dX5_init_4 : decode cX5_init 4 = .ok (.aload_n 0, 1) := dz_42 (n := 0) (r := 4) hz_X5_init_0 rfl
theorem dX5_init_5 : decode cX5_init 5 = .ok (.bipush 40, 2) := dz_16 (n := 0) (r := 5) hz_X5_init_0 rfl rfl
theorem dX5_init_7 : decode cX5_init 7 = .ok (.anewarray 9, 3) := dz_189 (n := 0) (r := 7) hz_X5_init_0 rfl rfl
theorem dX5_init_10 : decode cX5_init 10 = .ok (.putfield 11, 3) := dz_181 (n := 0) (r := 10) hz_X5_init_0 rfl rfl
theorem dX5_init_13 : decode cX5_init 13 = .ok (.iconst 0, 1) := dz_3 (n := 0) (r := 13) hz_X5_init_0 rfl
theorem dX5_init_14 : decode cX5_init 14 = .ok (.istore_n 1, 1) := dz_60 (n := 0) (r := 14) hz_X5_init_0 rfl
theorem dX5_init_15 : decode cX5_init 15 = .ok (.iload_n 1, 1) := dz_27 (n := 0) (r := 15) hz_X5_init_0 rfl
theorem dX5_init_16 : decode cX5_init 16 = .ok (.aload_n 0, 1) := dz_42 (n := 0) (r := 16) hz_X5_init_0 rfl
theorem dX5_init_17 : decode cX5_init 17 = .ok (.getfield 11, 3) := dz_180 (n := 0) (r := 17) hz_X5_init_0 rfl rfl
theorem dX5_init_20 : decode cX5_init 20 = .ok (.arraylength, 1) := dz_190 (n := 0) (r := 20) hz_X5_init_0 rfl
theorem dX5_init_21 : decode cX5_init 21 = .ok (.if_icmp .ge 22, 3) := dz_162 (n := 0) (r := 21) hz_X5_init_0 rfl (by decide +kernel)
theorem dX5_init_24 : decode cX5_init 24 = .ok (.aload_n 0, 1) := dz_42 (n := 0) (r := 24) hz_X5_init_0 rfl
theorem dX5_init_25 : decode cX5_init 25 = .ok (.getfield 11, 3) := dz_180 (n := 0) (r := 25) hz_X5_init_0 rfl rfl
theorem dX5_init_28 : decode cX5_init 28 = .ok (.iload_n 1, 1) := dz_27 (n := 0) (r := 28) hz_X5_init_0 rfl
theorem dX5_init_29 : decode cX5_init 29 = .ok (.new 9, 3) := dz_187 (n := 0) (r := 29) hz_X5_init_0 rfl rfl
theorem hz_X5_init_32 : (cX5_init.data.toList.drop 32).take 40 = [89, 183, 0, 17, 83, 132, 1, 1, 167, 255, 231, 177] := by decide +kernel
theorem dX5_init_32 : decode cX5_init 32 = .ok (.dup, 1) := dz_89 (n := 32) (r := 0) hz_X5_init_32 rfl
theorem dX5_init_33 : decode cX5_init 33 = .ok (.invokespecial 17, 3) := dz_183 (n := 32) (r := 1) hz_X5_init_32 rfl rfl
theorem dX5_init_36 : decode cX5_init 36 = .ok (.aastore, 1) := dz_83 (n := 32) (r := 4) hz_X5_init_32 rfl
theorem dX5_init_37 : decode cX5_init 37 = .ok (.iinc 1 1, 3) := dz_132 (n := 32) (r := 5) hz_X5_init_32 rfl rfl rfl
theorem dX5_init_40 : decode cX5_init 40 = .ok (.goto (-25), 3) := dz_167 (n := 32) (r := 8) hz_X5_init_32 rfl (by decide +kernel)
theorem dX5_init_43 : decode cX5_init 43 = .ok (.return_, 1) := dz_177 (n := 32) (r := 11) hz_X5_init_32 rfl
theorem hz_X5_forget_0 : (cX5_forget.data.toList.drop 0).take 40 = [42, 3, 181, 0, 18, 42, 3, 181, 0, 22, 177] := by decide +kernel
theorem dX5_forget_0 : decode cX5_forget 0 = .ok (.aload_n 0, 1) := dz_42 (n := 0) (r := 0) hz_X5_forget_0 rfl
theorem dX5_forget_1 : decode cX5_forget 1 = .ok (.iconst 0, 1) := dz_3 (n := 0) (r := 1) hz_X5_forget_0 rfl
theorem dX5_forget_2 : decode cX5_forget 2 = .ok (.putfield 18, 3) := dz_181 (n := 0) (r := 2) hz_X5_forget_0 rfl rfl
theorem dX5_forget_5 : decode cX5_forget 5 = .ok (.aload_n 0, 1) := dz_42 (n := 0) (r := 5) hz_X5_forget_0 rfl
theorem dX5_forget_6 : decode cX5_forget 6 = .ok (.iconst 0, 1) := dz_3 (n := 0) (r := 6) hz_X5_forget_0 rfl
theorem dX5_forget_7 : decode cX5_forget 7 = .ok (.putfield 22, 3) := dz_181 (n := 0) (r := 7) hz_X5_forget_0 rfl rfl
theorem dX5_forget_10 : decode cX5_forget 10 = .ok (.return_, 1) := dz_177 (n := 0) (r := 10) hz_X5_forget_0 rfl
theorem hz_X5_keep_0 : (cX5_keep.data.toList.drop 0).take 40 = [42, 180, 0, 18, 155, 0, 15, 42, 180, 0, 18, 42, 180, 0, 11, 190, 161, 0, 4, 177, 42, 180, 0, 11, 42, 180, 0, 18, 50, 43, 182, 0, 25, 42, 42, 180, 0, 18, 4, 96] := by decide +kernel
theorem dX5_keep_0 : decode cX5_keep 0 = .ok (.aload_n 0, 1) := dz_42 (n := 0) (r := 0) hz_X5_keep_0 rfl
theorem dX5_keep_1 : decode cX5_keep 1 = .ok (.getfield 18, 3) := dz_180 (n := 0) (r := 1) hz_X5_keep_0 rfl rfl
theorem dX5_keep_4 : decode cX5_keep 4 = .ok (.ifCond .lt 15, 3) := dz_155 (n := 0) (r := 4) hz_X5_keep_0 rfl (by decide +kernel)
theorem dX5_keep_7 : decode cX5_keep 7 = .ok (.aload_n 0, 1) := dz_42 (n := 0) (r := 7) hz_X5_keep_0 rfl
theorem dX5_keep_8 : decode cX5_keep 8 = .ok (.getfield 18, 3) := dz_180 (n := 0) (r := 8) hz_X5_keep_0 rfl rfl
theorem dX5_keep_11 : decode cX5_keep 11 = .ok (.aload_n 0, 1) := dz_42 (n := 0) (r := 11) hz_X5_keep_0 rfl
theorem dX5_keep_12 : decode cX5_keep 12 = .ok (.getfield 11, 3) := dz_180 (n := 0) (r := 12) hz_X5_keep_0 rfl rfl
theorem dX5_keep_15 : decode cX5_keep 15 = .ok (.arraylength, 1) := dz_190 (n := 0) (r := 15) hz_X5_keep_0 rfl
theorem dX5_keep_16 : decode cX5_keep 16 = .ok (.if_icmp .lt 4, 3) := dz_161 (n := 0) (r := 16) hz_X5_keep_0 rfl (by decide +kernel)
theorem dX5_keep_19 : decode cX5_keep 19 = .ok (.return_, 1) := dz_177 (n := 0) (r := 19) hz_X5_keep_0 rfl
theorem dX5_keep_20 : decode cX5_keep 20 = .ok (.aload_n 0, 1) := dz_42 (n := 0) (r := 20) hz_X5_keep_0 rfl
theorem dX5_keep_21 : decode cX5_keep 21 = .ok (.getfield 11, 3) := dz_180 (n := 0) (r := 21) hz_X5_keep_0 rfl rfl
theorem dX5_keep_24 : decode cX5_keep 24 = .ok (.aload_n 0, 1) := dz_42 (n := 0) (r := 24) hz_X5_keep_0 rfl
theorem dX5_keep_25 : decode cX5_keep 25 = .ok (.getfield 18, 3) := dz_180 (n := 0) (r := 25) hz_X5_keep_0 rfl rfl
theorem dX5_keep_28 : decode cX5_keep 28 = .ok (.aaload, 1) := dz_50 (n := 0) (r := 28) hz_X5_keep_0 rfl
theorem dX5_keep_29 : decode cX5_keep 29 = .ok (.aload_n 1, 1) := dz_43 (n := 0) (r := 29) hz_X5_keep_0 rfl
theorem dX5_keep_30 : decode cX5_keep 30 = .ok (.invokevirtual 25, 3) := dz_182 (n := 0) (r := 30) hz_X5_keep_0 rfl rfl
theorem hz_X5_keep_32 : (cX5_keep.data.toList.drop 32).take 40 = [25, 42, 42, 180, 0, 18, 4, 96, 16, 40, 162, 0, 12, 42, 180, 0, 18, 4, 96, 167, 0, 4, 3, 181, 0, 18, 42, 42, 180, 0, 22, 4, 96, 16, 40, 184, 0, 29, 181, 0] := by decide +kernel
theorem dX5_keep_33 : decode cX5_keep 33 = .ok (.aload_n 0, 1) := dz_42 (n := 32) (r := 1) hz_X5_keep_32 rfl
theorem dX5_keep_34 : decode cX5_keep 34 = .ok (.aload_n 0, 1) := dz_42 (n := 32) (r := 2) hz_X5_keep_32 rfl
theorem dX5_keep_35 : decode cX5_keep 35 = .ok (.getfield 18, 3) := dz_180 (n := 32) (r := 3) hz_X5_keep_32 rfl rfl
theorem dX5_keep_38 : decode cX5_keep 38 = .ok (.iconst 1, 1) := dz_4 (n := 32) (r := 6) hz_X5_keep_32 rfl
theorem dX5_keep_39 : decode cX5_keep 39 = .ok (.iadd, 1) := dz_96 (n := 32) (r := 7) hz_X5_keep_32 rfl
theorem dX5_keep_40 : decode cX5_keep 40 = .ok (.bipush 40, 2) := dz_16 (n := 32) (r := 8) hz_X5_keep_32 rfl rfl
theorem dX5_keep_42 : decode cX5_keep 42 = .ok (.if_icmp .ge 12, 3) := dz_162 (n := 32) (r := 10) hz_X5_keep_32 rfl (by decide +kernel)
theorem dX5_keep_45 : decode cX5_keep 45 = .ok (.aload_n 0, 1) := dz_42 (n := 32) (r := 13) hz_X5_keep_32 rfl
theorem dX5_keep_46 : decode cX5_keep 46 = .ok (.getfield 18, 3) := dz_180 (n := 32) (r := 14) hz_X5_keep_32 rfl rfl
theorem dX5_keep_49 : decode cX5_keep 49 = .ok (.iconst 1, 1) := dz_4 (n := 32) (r := 17) hz_X5_keep_32 rfl
theorem dX5_keep_50 : decode cX5_keep 50 = .ok (.iadd, 1) := dz_96 (n := 32) (r := 18) hz_X5_keep_32 rfl
theorem dX5_keep_51 : decode cX5_keep 51 = .ok (.goto 4, 3) := dz_167 (n := 32) (r := 19) hz_X5_keep_32 rfl (by decide +kernel)
theorem dX5_keep_54 : decode cX5_keep 54 = .ok (.iconst 0, 1) := dz_3 (n := 32) (r := 22) hz_X5_keep_32 rfl
theorem dX5_keep_55 : decode cX5_keep 55 = .ok (.putfield 18, 3) := dz_181 (n := 32) (r := 23) hz_X5_keep_32 rfl rfl
theorem dX5_keep_58 : decode cX5_keep 58 = .ok (.aload_n 0, 1) := dz_42 (n := 32) (r := 26) hz_X5_keep_32 rfl
theorem dX5_keep_59 : decode cX5_keep 59 = .ok (.aload_n 0, 1) := dz_42 (n := 32) (r := 27) hz_X5_keep_32 rfl
theorem dX5_keep_60 : decode cX5_keep 60 = .ok (.getfield 22, 3) := dz_180 (n := 32) (r := 28) hz_X5_keep_32 rfl rfl
theorem dX5_keep_63 : decode cX5_keep 63 = .ok (.iconst 1, 1) := dz_4 (n := 32) (r := 31) hz_X5_keep_32 rfl
theorem hz_X5_keep_64 : (cX5_keep.data.toList.drop 64).take 40 = [96, 16, 40, 184, 0, 29, 181, 0, 22, 177] := by decide +kernel
theorem dX5_keep_64 : decode cX5_keep 64 = .ok (.iadd, 1) := dz_96 (n := 64) (r := 0) hz_X5_keep_64 rfl
theorem dX5_keep_65 : decode cX5_keep 65 = .ok (.bipush 40, 2) := dz_16 (n := 64) (r := 1) hz_X5_keep_64 rfl rfl
theorem dX5_keep_67 : decode cX5_keep 67 = .ok (.invokestatic 29, 3) := dz_184 (n := 64) (r := 3) hz_X5_keep_64 rfl rfl
theorem dX5_keep_70 : decode cX5_keep 70 = .ok (.putfield 22, 3) := dz_181 (n := 64) (r := 6) hz_X5_keep_64 rfl rfl
theorem dX5_keep_73 : decode cX5_keep 73 = .ok (.return_, 1) := dz_177 (n := 64) (r := 9) hz_X5_keep_64 rfl
theorem hz_X5_giveBack_0 : (cX5_giveBack.data.toList.drop 0).take 40 = [42, 180, 0, 18, 158, 0, 12, 42, 180, 0, 18, 4, 100, 167, 0, 5, 16, 39, 61, 42, 180, 0, 22, 153, 0, 12, 28, 42, 180, 0, 11, 190, 161, 0, 5, 3, 172, 43, 42, 180] := by decide +kernel
theorem dX5_giveBack_0 : decode cX5_giveBack 0 = .ok (.aload_n 0, 1) := dz_42 (n := 0) (r := 0) hz_X5_giveBack_0 rfl
theorem dX5_giveBack_1 : decode cX5_giveBack 1 = .ok (.getfield 18, 3) := dz_180 (n := 0) (r := 1) hz_X5_giveBack_0 rfl rfl
theorem dX5_giveBack_4 : decode cX5_giveBack 4 = .ok (.ifCond .le 12, 3) := dz_158 (n := 0) (r := 4) hz_X5_giveBack_0 rfl (by decide +kernel)
theorem dX5_giveBack_7 : decode cX5_giveBack 7 = .ok (.aload_n 0, 1) := dz_42 (n := 0) (r := 7) hz_X5_giveBack_0 rfl
theorem dX5_giveBack_8 : decode cX5_giveBack 8 = .ok (.getfield 18, 3) := dz_180 (n := 0) (r := 8) hz_X5_giveBack_0 rfl rfl
theorem dX5_giveBack_11 : decode cX5_giveBack 11 = .ok (.iconst 1, 1) := dz_4 (n := 0) (r := 11) hz_X5_giveBack_0 rfl
theorem dX5_giveBack_12 : decode cX5_giveBack 12 = .ok (.isub, 1) := dz_100 (n := 0) (r := 12) hz_X5_giveBack_0 rfl
theorem dX5_giveBack_13 : decode cX5_giveBack 13 = .ok (.goto 5, 3) := dz_167 (n := 0) (r := 13) hz_X5_giveBack_0 rfl (by decide +kernel)
theorem dX5_giveBack_16 : decode cX5_giveBack 16 = .ok (.bipush 39, 2) := dz_16 (n := 0) (r := 16) hz_X5_giveBack_0 rfl rfl
theorem dX5_giveBack_18 : decode cX5_giveBack 18 = .ok (.istore_n 2, 1) := dz_61 (n := 0) (r := 18) hz_X5_giveBack_0 rfl
theorem dX5_giveBack_19 : decode cX5_giveBack 19 = .ok (.aload_n 0, 1) := dz_42 (n := 0) (r := 19) hz_X5_giveBack_0 rfl
theorem dX5_giveBack_20 : decode cX5_giveBack 20 = .ok (.getfield 22, 3) := dz_180 (n := 0) (r := 20) hz_X5_giveBack_0 rfl rfl
theorem dX5_giveBack_23 : decode cX5_giveBack 23 = .ok (.ifCond .eq 12, 3) := dz_153 (n := 0) (r := 23) hz_X5_giveBack_0 rfl (by decide +kernel)
theorem dX5_giveBack_26 : decode cX5_giveBack 26 = .ok (.iload_n 2, 1) := dz_28 (n := 0) (r := 26) hz_X5_giveBack_0 rfl
theorem dX5_giveBack_27 : decode cX5_giveBack 27 = .ok (.aload_n 0, 1) := dz_42 (n := 0) (r := 27) hz_X5_giveBack_0 rfl
theorem dX5_giveBack_28 : decode cX5_giveBack 28 = .ok (.getfield 11, 3) := dz_180 (n := 0) (r := 28) hz_X5_giveBack_0 rfl rfl
theorem dX5_giveBack_31 : decode cX5_giveBack 31 = .ok (.arraylength, 1) := dz_190 (n := 0) (r := 31) hz_X5_giveBack_0 rfl
theorem hz_X5_giveBack_32 : (cX5_giveBack.data.toList.drop 32).take 40 = [161, 0, 5, 3, 172, 43, 42, 180, 0, 11, 28, 50, 182, 0, 25, 42, 28, 181, 0, 18, 42, 89, 180, 0, 22, 4, 100, 181, 0, 22, 4, 172] := by decide +kernel
theorem dX5_giveBack_32 : decode cX5_giveBack 32 = .ok (.if_icmp .lt 5, 3) := dz_161 (n := 32) (r := 0) hz_X5_giveBack_32 rfl (by decide +kernel)
theorem dX5_giveBack_35 : decode cX5_giveBack 35 = .ok (.iconst 0, 1) := dz_3 (n := 32) (r := 3) hz_X5_giveBack_32 rfl
theorem dX5_giveBack_36 : decode cX5_giveBack 36 = .ok (.ireturn, 1) := dz_172 (n := 32) (r := 4) hz_X5_giveBack_32 rfl
theorem dX5_giveBack_37 : decode cX5_giveBack 37 = .ok (.aload_n 1, 1) := dz_43 (n := 32) (r := 5) hz_X5_giveBack_32 rfl
theorem dX5_giveBack_38 : decode cX5_giveBack 38 = .ok (.aload_n 0, 1) := dz_42 (n := 32) (r := 6) hz_X5_giveBack_32 rfl
theorem dX5_giveBack_39 : decode cX5_giveBack 39 = .ok (.getfield 11, 3) := dz_180 (n := 32) (r := 7) hz_X5_giveBack_32 rfl rfl
theorem dX5_giveBack_42 : decode cX5_giveBack 42 = .ok (.iload_n 2, 1) := dz_28 (n := 32) (r := 10) hz_X5_giveBack_32 rfl
theorem dX5_giveBack_43 : decode cX5_giveBack 43 = .ok (.aaload, 1) := dz_50 (n := 32) (r := 11) hz_X5_giveBack_32 rfl
theorem dX5_giveBack_44 : decode cX5_giveBack 44 = .ok (.invokevirtual 25, 3) := dz_182 (n := 32) (r := 12) hz_X5_giveBack_32 rfl rfl
theorem dX5_giveBack_47 : decode cX5_giveBack 47 = .ok (.aload_n 0, 1) := dz_42 (n := 32) (r := 15) hz_X5_giveBack_32 rfl
theorem dX5_giveBack_48 : decode cX5_giveBack 48 = .ok (.iload_n 2, 1) := dz_28 (n := 32) (r := 16) hz_X5_giveBack_32 rfl
theorem dX5_giveBack_49 : decode cX5_giveBack 49 = .ok (.putfield 18, 3) := dz_181 (n := 32) (r := 17) hz_X5_giveBack_32 rfl rfl
theorem dX5_giveBack_52 : decode cX5_giveBack 52 = .ok (.aload_n 0, 1) := dz_42 (n := 32) (r := 20) hz_X5_giveBack_32 rfl
theorem dX5_giveBack_53 : decode cX5_giveBack 53 = .ok (.dup, 1) := dz_89 (n := 32) (r := 21) hz_X5_giveBack_32 rfl
theorem dX5_giveBack_54 : decode cX5_giveBack 54 = .ok (.getfield 22, 3) := dz_180 (n := 32) (r := 22) hz_X5_giveBack_32 rfl rfl
theorem dX5_giveBack_57 : decode cX5_giveBack 57 = .ok (.iconst 1, 1) := dz_4 (n := 32) (r := 25) hz_X5_giveBack_32 rfl
theorem dX5_giveBack_58 : decode cX5_giveBack 58 = .ok (.isub, 1) := dz_100 (n := 32) (r := 26) hz_X5_giveBack_32 rfl
theorem dX5_giveBack_59 : decode cX5_giveBack 59 = .ok (.putfield 22, 3) := dz_181 (n := 32) (r := 27) hz_X5_giveBack_32 rfl rfl
theorem dX5_giveBack_62 : decode cX5_giveBack 62 = .ok (.iconst 1, 1) := dz_4 (n := 32) (r := 30) hz_X5_giveBack_32 rfl
theorem dX5_giveBack_63 : decode cX5_giveBack 63 = .ok (.ireturn, 1) := dz_172 (n := 32) (r := 31) hz_X5_giveBack_32 rfl
theorem hz_X6_init_0 : (cX6_init.data.toList.drop 0).take 40 = [42, 183, 0, 3, 42, 16, 32, 188, 10, 181, 0, 9, 42, 16, 16, 188, 10, 181, 0, 15, 177] := by decide +kernel
theorem dX6_init_0 : decode cX6_init 0 = .ok (.aload_n 0, 1) := dz_42 (n := 0) (r := 0) hz_X6_init_0 rfl
theorem dX6_init_1 : decode cX6_init 1 = .ok (.invokespecial 3, 3) := dz_183 (n := 0) (r := 1) hz_X6_init_0 rfl rfl
theorem dX6_init_4 : decode cX6_init 4 = .ok (.aload_n 0, 1) := dz_42 (n := 0) (r := 4) hz_X6_init_0 rfl
theorem dX6_init_5 : decode cX6_init 5 = .ok (.bipush 32, 2) := dz_16 (n := 0) (r := 5) hz_X6_init_0 rfl rfl
theorem dX6_init_7 : decode cX6_init 7 = .ok (.newarray .int, 2) := dz_188_10 (n := 0) (r := 7) hz_X6_init_0 rfl
theorem dX6_init_9 : decode cX6_init 9 = .ok (.putfield 9, 3) := dz_181 (n := 0) (r := 9) hz_X6_init_0 rfl rfl
theorem dX6_init_12 : decode cX6_init 12 = .ok (.aload_n 0, 1) := dz_42 (n := 0) (r := 12) hz_X6_init_0 rfl
theorem dX6_init_13 : decode cX6_init 13 = .ok (.bipush 16, 2) := dz_16 (n := 0) (r := 13) hz_X6_init_0 rfl rfl
theorem dX6_init_15 : decode cX6_init 15 = .ok (.newarray .int, 2) := dz_188_10 (n := 0) (r := 15) hz_X6_init_0 rfl
theorem dX6_init_17 : decode cX6_init 17 = .ok (.putfield 15, 3) := dz_181 (n := 0) (r := 17) hz_X6_init_0 rfl rfl
theorem dX6_init_20 : decode cX6_init 20 = .ok (.return_, 1) := dz_177 (n := 0) (r := 20) hz_X6_init_0 rfl
theorem hz_X6_clear_0 : (cX6_clear.data.toList.drop 0).take 40 = [42, 180, 0, 9, 3, 184, 0, 18, 42, 180, 0, 15, 3, 184, 0, 18, 42, 3, 181, 0, 24, 42, 3, 181, 0, 28, 42, 3, 181, 0, 31, 42, 3, 181, 0, 34, 177] := by decide +kernel
theorem dX6_clear_0 : decode cX6_clear 0 = .ok (.aload_n 0, 1) := dz_42 (n := 0) (r := 0) hz_X6_clear_0 rfl
theorem dX6_clear_1 : decode cX6_clear 1 = .ok (.getfield 9, 3) := dz_180 (n := 0) (r := 1) hz_X6_clear_0 rfl rfl
theorem dX6_clear_4 : decode cX6_clear 4 = .ok (.iconst 0, 1) := dz_3 (n := 0) (r := 4) hz_X6_clear_0 rfl
theorem dX6_clear_5 : decode cX6_clear 5 = .ok (.invokestatic 18, 3) := dz_184 (n := 0) (r := 5) hz_X6_clear_0 rfl rfl
theorem dX6_clear_8 : decode cX6_clear 8 = .ok (.aload_n 0, 1) := dz_42 (n := 0) (r := 8) hz_X6_clear_0 rfl
theorem dX6_clear_9 : decode cX6_clear 9 = .ok (.getfield 15, 3) := dz_180 (n := 0) (r := 9) hz_X6_clear_0 rfl rfl
theorem dX6_clear_12 : decode cX6_clear 12 = .ok (.iconst 0, 1) := dz_3 (n := 0) (r := 12) hz_X6_clear_0 rfl
theorem dX6_clear_13 : decode cX6_clear 13 = .ok (.invokestatic 18, 3) := dz_184 (n := 0) (r := 13) hz_X6_clear_0 rfl rfl
theorem dX6_clear_16 : decode cX6_clear 16 = .ok (.aload_n 0, 1) := dz_42 (n := 0) (r := 16) hz_X6_clear_0 rfl
theorem dX6_clear_17 : decode cX6_clear 17 = .ok (.iconst 0, 1) := dz_3 (n := 0) (r := 17) hz_X6_clear_0 rfl
theorem dX6_clear_18 : decode cX6_clear 18 = .ok (.putfield 24, 3) := dz_181 (n := 0) (r := 18) hz_X6_clear_0 rfl rfl
theorem dX6_clear_21 : decode cX6_clear 21 = .ok (.aload_n 0, 1) := dz_42 (n := 0) (r := 21) hz_X6_clear_0 rfl
theorem dX6_clear_22 : decode cX6_clear 22 = .ok (.iconst 0, 1) := dz_3 (n := 0) (r := 22) hz_X6_clear_0 rfl
theorem dX6_clear_23 : decode cX6_clear 23 = .ok (.putfield 28, 3) := dz_181 (n := 0) (r := 23) hz_X6_clear_0 rfl rfl
theorem dX6_clear_26 : decode cX6_clear 26 = .ok (.aload_n 0, 1) := dz_42 (n := 0) (r := 26) hz_X6_clear_0 rfl
theorem dX6_clear_27 : decode cX6_clear 27 = .ok (.iconst 0, 1) := dz_3 (n := 0) (r := 27) hz_X6_clear_0 rfl
theorem dX6_clear_28 : decode cX6_clear 28 = .ok (.putfield 31, 3) := dz_181 (n := 0) (r := 28) hz_X6_clear_0 rfl rfl
theorem dX6_clear_31 : decode cX6_clear 31 = .ok (.aload_n 0, 1) := dz_42 (n := 0) (r := 31) hz_X6_clear_0 rfl
theorem hz_X6_clear_32 : (cX6_clear.data.toList.drop 32).take 40 = [3, 181, 0, 34, 177] := by decide +kernel
theorem dX6_clear_32 : decode cX6_clear 32 = .ok (.iconst 0, 1) := dz_3 (n := 32) (r := 0) hz_X6_clear_32 rfl
theorem dX6_clear_33 : decode cX6_clear 33 = .ok (.putfield 34, 3) := dz_181 (n := 32) (r := 1) hz_X6_clear_32 rfl rfl
theorem dX6_clear_36 : decode cX6_clear 36 = .ok (.return_, 1) := dz_177 (n := 32) (r := 4) hz_X6_clear_32 rfl
theorem hz_X6_copyFrom_0 : (cX6_copyFrom.data.toList.drop 0).take 40 = [43, 180, 0, 9, 3, 42, 180, 0, 9, 3, 16, 32, 184, 0, 37, 43, 180, 0, 15, 3, 42, 180, 0, 15, 3, 16, 16, 184, 0, 37, 42, 43, 180, 0, 24, 181, 0, 24, 42, 43] := by decide +kernel
theorem dX6_copyFrom_0 : decode cX6_copyFrom 0 = .ok (.aload_n 1, 1) := dz_43 (n := 0) (r := 0) hz_X6_copyFrom_0 rfl
theorem dX6_copyFrom_1 : decode cX6_copyFrom 1 = .ok (.getfield 9, 3) := dz_180 (n := 0) (r := 1) hz_X6_copyFrom_0 rfl rfl
theorem dX6_copyFrom_4 : decode cX6_copyFrom 4 = .ok (.iconst 0, 1) := dz_3 (n := 0) (r := 4) hz_X6_copyFrom_0 rfl
theorem dX6_copyFrom_5 : decode cX6_copyFrom 5 = .ok (.aload_n 0, 1) := dz_42 (n := 0) (r := 5) hz_X6_copyFrom_0 rfl
theorem dX6_copyFrom_6 : decode cX6_copyFrom 6 = .ok (.getfield 9, 3) := dz_180 (n := 0) (r := 6) hz_X6_copyFrom_0 rfl rfl
theorem dX6_copyFrom_9 : decode cX6_copyFrom 9 = .ok (.iconst 0, 1) := dz_3 (n := 0) (r := 9) hz_X6_copyFrom_0 rfl
theorem dX6_copyFrom_10 : decode cX6_copyFrom 10 = .ok (.bipush 32, 2) := dz_16 (n := 0) (r := 10) hz_X6_copyFrom_0 rfl rfl
theorem dX6_copyFrom_12 : decode cX6_copyFrom 12 = .ok (.invokestatic 37, 3) := dz_184 (n := 0) (r := 12) hz_X6_copyFrom_0 rfl rfl
theorem dX6_copyFrom_15 : decode cX6_copyFrom 15 = .ok (.aload_n 1, 1) := dz_43 (n := 0) (r := 15) hz_X6_copyFrom_0 rfl
theorem dX6_copyFrom_16 : decode cX6_copyFrom 16 = .ok (.getfield 15, 3) := dz_180 (n := 0) (r := 16) hz_X6_copyFrom_0 rfl rfl
theorem dX6_copyFrom_19 : decode cX6_copyFrom 19 = .ok (.iconst 0, 1) := dz_3 (n := 0) (r := 19) hz_X6_copyFrom_0 rfl
theorem dX6_copyFrom_20 : decode cX6_copyFrom 20 = .ok (.aload_n 0, 1) := dz_42 (n := 0) (r := 20) hz_X6_copyFrom_0 rfl
theorem dX6_copyFrom_21 : decode cX6_copyFrom 21 = .ok (.getfield 15, 3) := dz_180 (n := 0) (r := 21) hz_X6_copyFrom_0 rfl rfl
theorem dX6_copyFrom_24 : decode cX6_copyFrom 24 = .ok (.iconst 0, 1) := dz_3 (n := 0) (r := 24) hz_X6_copyFrom_0 rfl
theorem dX6_copyFrom_25 : decode cX6_copyFrom 25 = .ok (.bipush 16, 2) := dz_16 (n := 0) (r := 25) hz_X6_copyFrom_0 rfl rfl
theorem dX6_copyFrom_27 : decode cX6_copyFrom 27 = .ok (.invokestatic 37, 3) := dz_184 (n := 0) (r := 27) hz_X6_copyFrom_0 rfl rfl
theorem dX6_copyFrom_30 : decode cX6_copyFrom 30 = .ok (.aload_n 0, 1) := dz_42 (n := 0) (r := 30) hz_X6_copyFrom_0 rfl
theorem dX6_copyFrom_31 : decode cX6_copyFrom 31 = .ok (.aload_n 1, 1) := dz_43 (n := 0) (r := 31) hz_X6_copyFrom_0 rfl
theorem hz_X6_copyFrom_32 : (cX6_copyFrom.data.toList.drop 32).take 40 = [180, 0, 24, 181, 0, 24, 42, 43, 180, 0, 28, 181, 0, 28, 42, 43, 180, 0, 31, 181, 0, 31, 42, 43, 180, 0, 34, 181, 0, 34, 42, 43, 180, 0, 43, 181, 0, 43, 42, 43] := by decide +kernel
theorem dX6_copyFrom_32 : decode cX6_copyFrom 32 = .ok (.getfield 24, 3) := dz_180 (n := 32) (r := 0) hz_X6_copyFrom_32 rfl rfl
theorem dX6_copyFrom_35 : decode cX6_copyFrom 35 = .ok (.putfield 24, 3) := dz_181 (n := 32) (r := 3) hz_X6_copyFrom_32 rfl rfl
theorem dX6_copyFrom_38 : decode cX6_copyFrom 38 = .ok (.aload_n 0, 1) := dz_42 (n := 32) (r := 6) hz_X6_copyFrom_32 rfl
theorem dX6_copyFrom_39 : decode cX6_copyFrom 39 = .ok (.aload_n 1, 1) := dz_43 (n := 32) (r := 7) hz_X6_copyFrom_32 rfl
theorem dX6_copyFrom_40 : decode cX6_copyFrom 40 = .ok (.getfield 28, 3) := dz_180 (n := 32) (r := 8) hz_X6_copyFrom_32 rfl rfl
theorem dX6_copyFrom_43 : decode cX6_copyFrom 43 = .ok (.putfield 28, 3) := dz_181 (n := 32) (r := 11) hz_X6_copyFrom_32 rfl rfl
theorem dX6_copyFrom_46 : decode cX6_copyFrom 46 = .ok (.aload_n 0, 1) := dz_42 (n := 32) (r := 14) hz_X6_copyFrom_32 rfl
theorem dX6_copyFrom_47 : decode cX6_copyFrom 47 = .ok (.aload_n 1, 1) := dz_43 (n := 32) (r := 15) hz_X6_copyFrom_32 rfl
theorem dX6_copyFrom_48 : decode cX6_copyFrom 48 = .ok (.getfield 31, 3) := dz_180 (n := 32) (r := 16) hz_X6_copyFrom_32 rfl rfl
theorem dX6_copyFrom_51 : decode cX6_copyFrom 51 = .ok (.putfield 31, 3) := dz_181 (n := 32) (r := 19) hz_X6_copyFrom_32 rfl rfl
theorem dX6_copyFrom_54 : decode cX6_copyFrom 54 = .ok (.aload_n 0, 1) := dz_42 (n := 32) (r := 22) hz_X6_copyFrom_32 rfl
theorem dX6_copyFrom_55 : decode cX6_copyFrom 55 = .ok (.aload_n 1, 1) := dz_43 (n := 32) (r := 23) hz_X6_copyFrom_32 rfl
theorem dX6_copyFrom_56 : decode cX6_copyFrom 56 = .ok (.getfield 34, 3) := dz_180 (n := 32) (r := 24) hz_X6_copyFrom_32 rfl rfl
theorem dX6_copyFrom_59 : decode cX6_copyFrom 59 = .ok (.putfield 34, 3) := dz_181 (n := 32) (r := 27) hz_X6_copyFrom_32 rfl rfl
theorem dX6_copyFrom_62 : decode cX6_copyFrom 62 = .ok (.aload_n 0, 1) := dz_42 (n := 32) (r := 30) hz_X6_copyFrom_32 rfl
theorem dX6_copyFrom_63 : decode cX6_copyFrom 63 = .ok (.aload_n 1, 1) := dz_43 (n := 32) (r := 31) hz_X6_copyFrom_32 rfl
theorem hz_X6_copyFrom_64 : (cX6_copyFrom.data.toList.drop 64).take 40 = [180, 0, 43, 181, 0, 43, 42, 43, 180, 0, 46, 181, 0, 46, 177] := by decide +kernel
theorem dX6_copyFrom_64 : decode cX6_copyFrom 64 = .ok (.getfield 43, 3) := dz_180 (n := 64) (r := 0) hz_X6_copyFrom_64 rfl rfl
theorem dX6_copyFrom_67 : decode cX6_copyFrom 67 = .ok (.putfield 43, 3) := dz_181 (n := 64) (r := 3) hz_X6_copyFrom_64 rfl rfl
theorem dX6_copyFrom_70 : decode cX6_copyFrom 70 = .ok (.aload_n 0, 1) := dz_42 (n := 64) (r := 6) hz_X6_copyFrom_64 rfl
theorem dX6_copyFrom_71 : decode cX6_copyFrom 71 = .ok (.aload_n 1, 1) := dz_43 (n := 64) (r := 7) hz_X6_copyFrom_64 rfl
theorem dX6_copyFrom_72 : decode cX6_copyFrom 72 = .ok (.getfield 46, 3) := dz_180 (n := 64) (r := 8) hz_X6_copyFrom_64 rfl rfl
theorem dX6_copyFrom_75 : decode cX6_copyFrom 75 = .ok (.putfield 46, 3) := dz_181 (n := 64) (r := 11) hz_X6_copyFrom_64 rfl rfl
theorem dX6_copyFrom_78 : decode cX6_copyFrom 78 = .ok (.return_, 1) := dz_177 (n := 64) (r := 14) hz_X6_copyFrom_64 rfl
theorem hz_X6_bondAt_0 : (cX6_bondAt.data.toList.drop 0).take 40 = [27, 155, 0, 21, 27, 42, 180, 0, 9, 190, 162, 0, 12, 42, 180, 0, 9, 27, 46, 167, 0, 4, 3, 172] := by decide +kernel
theorem dX6_bondAt_0 : decode cX6_bondAt 0 = .ok (.iload_n 1, 1) := dz_27 (n := 0) (r := 0) hz_X6_bondAt_0 rfl
theorem dX6_bondAt_1 : decode cX6_bondAt 1 = .ok (.ifCond .lt 21, 3) := dz_155 (n := 0) (r := 1) hz_X6_bondAt_0 rfl (by decide +kernel)
theorem dX6_bondAt_4 : decode cX6_bondAt 4 = .ok (.iload_n 1, 1) := dz_27 (n := 0) (r := 4) hz_X6_bondAt_0 rfl
theorem dX6_bondAt_5 : decode cX6_bondAt 5 = .ok (.aload_n 0, 1) := dz_42 (n := 0) (r := 5) hz_X6_bondAt_0 rfl
theorem dX6_bondAt_6 : decode cX6_bondAt 6 = .ok (.getfield 9, 3) := dz_180 (n := 0) (r := 6) hz_X6_bondAt_0 rfl rfl
theorem dX6_bondAt_9 : decode cX6_bondAt 9 = .ok (.arraylength, 1) := dz_190 (n := 0) (r := 9) hz_X6_bondAt_0 rfl
theorem dX6_bondAt_10 : decode cX6_bondAt 10 = .ok (.if_icmp .ge 12, 3) := dz_162 (n := 0) (r := 10) hz_X6_bondAt_0 rfl (by decide +kernel)
theorem dX6_bondAt_13 : decode cX6_bondAt 13 = .ok (.aload_n 0, 1) := dz_42 (n := 0) (r := 13) hz_X6_bondAt_0 rfl
theorem dX6_bondAt_14 : decode cX6_bondAt 14 = .ok (.getfield 9, 3) := dz_180 (n := 0) (r := 14) hz_X6_bondAt_0 rfl rfl
theorem dX6_bondAt_17 : decode cX6_bondAt 17 = .ok (.iload_n 1, 1) := dz_27 (n := 0) (r := 17) hz_X6_bondAt_0 rfl
theorem dX6_bondAt_18 : decode cX6_bondAt 18 = .ok (.iaload, 1) := dz_46 (n := 0) (r := 18) hz_X6_bondAt_0 rfl
theorem dX6_bondAt_19 : decode cX6_bondAt 19 = .ok (.goto 4, 3) := dz_167 (n := 0) (r := 19) hz_X6_bondAt_0 rfl (by decide +kernel)
theorem dX6_bondAt_22 : decode cX6_bondAt 22 = .ok (.iconst 0, 1) := dz_3 (n := 0) (r := 22) hz_X6_bondAt_0 rfl
theorem dX6_bondAt_23 : decode cX6_bondAt 23 = .ok (.ireturn, 1) := dz_172 (n := 0) (r := 23) hz_X6_bondAt_0 rfl
theorem hz_X6_setBond_0 : (cX6_setBond.data.toList.drop 0).take 40 = [27, 155, 0, 19, 27, 42, 180, 0, 9, 190, 162, 0, 10, 42, 180, 0, 9, 27, 28, 79, 177] := by decide +kernel
theorem dX6_setBond_0 : decode cX6_setBond 0 = .ok (.iload_n 1, 1) := dz_27 (n := 0) (r := 0) hz_X6_setBond_0 rfl
theorem dX6_setBond_1 : decode cX6_setBond 1 = .ok (.ifCond .lt 19, 3) := dz_155 (n := 0) (r := 1) hz_X6_setBond_0 rfl (by decide +kernel)
theorem dX6_setBond_4 : decode cX6_setBond 4 = .ok (.iload_n 1, 1) := dz_27 (n := 0) (r := 4) hz_X6_setBond_0 rfl
theorem dX6_setBond_5 : decode cX6_setBond 5 = .ok (.aload_n 0, 1) := dz_42 (n := 0) (r := 5) hz_X6_setBond_0 rfl
theorem dX6_setBond_6 : decode cX6_setBond 6 = .ok (.getfield 9, 3) := dz_180 (n := 0) (r := 6) hz_X6_setBond_0 rfl rfl
theorem dX6_setBond_9 : decode cX6_setBond 9 = .ok (.arraylength, 1) := dz_190 (n := 0) (r := 9) hz_X6_setBond_0 rfl
theorem dX6_setBond_10 : decode cX6_setBond 10 = .ok (.if_icmp .ge 10, 3) := dz_162 (n := 0) (r := 10) hz_X6_setBond_0 rfl (by decide +kernel)
theorem dX6_setBond_13 : decode cX6_setBond 13 = .ok (.aload_n 0, 1) := dz_42 (n := 0) (r := 13) hz_X6_setBond_0 rfl
theorem dX6_setBond_14 : decode cX6_setBond 14 = .ok (.getfield 9, 3) := dz_180 (n := 0) (r := 14) hz_X6_setBond_0 rfl rfl
theorem dX6_setBond_17 : decode cX6_setBond 17 = .ok (.iload_n 1, 1) := dz_27 (n := 0) (r := 17) hz_X6_setBond_0 rfl
theorem dX6_setBond_18 : decode cX6_setBond 18 = .ok (.iload_n 2, 1) := dz_28 (n := 0) (r := 18) hz_X6_setBond_0 rfl
theorem dX6_setBond_19 : decode cX6_setBond 19 = .ok (.iastore, 1) := dz_79 (n := 0) (r := 19) hz_X6_setBond_0 rfl
theorem dX6_setBond_20 : decode cX6_setBond 20 = .ok (.return_, 1) := dz_177 (n := 0) (r := 20) hz_X6_setBond_0 rfl
theorem hz_X6_fieldAt_0 : (cX6_fieldAt.data.toList.drop 0).take 40 = [27, 155, 0, 21, 27, 42, 180, 0, 15, 190, 162, 0, 12, 42, 180, 0, 15, 27, 46, 167, 0, 4, 3, 172] := by decide +kernel
theorem dX6_fieldAt_0 : decode cX6_fieldAt 0 = .ok (.iload_n 1, 1) := dz_27 (n := 0) (r := 0) hz_X6_fieldAt_0 rfl
theorem dX6_fieldAt_1 : decode cX6_fieldAt 1 = .ok (.ifCond .lt 21, 3) := dz_155 (n := 0) (r := 1) hz_X6_fieldAt_0 rfl (by decide +kernel)
theorem dX6_fieldAt_4 : decode cX6_fieldAt 4 = .ok (.iload_n 1, 1) := dz_27 (n := 0) (r := 4) hz_X6_fieldAt_0 rfl
theorem dX6_fieldAt_5 : decode cX6_fieldAt 5 = .ok (.aload_n 0, 1) := dz_42 (n := 0) (r := 5) hz_X6_fieldAt_0 rfl
theorem dX6_fieldAt_6 : decode cX6_fieldAt 6 = .ok (.getfield 15, 3) := dz_180 (n := 0) (r := 6) hz_X6_fieldAt_0 rfl rfl
theorem dX6_fieldAt_9 : decode cX6_fieldAt 9 = .ok (.arraylength, 1) := dz_190 (n := 0) (r := 9) hz_X6_fieldAt_0 rfl
theorem dX6_fieldAt_10 : decode cX6_fieldAt 10 = .ok (.if_icmp .ge 12, 3) := dz_162 (n := 0) (r := 10) hz_X6_fieldAt_0 rfl (by decide +kernel)
theorem dX6_fieldAt_13 : decode cX6_fieldAt 13 = .ok (.aload_n 0, 1) := dz_42 (n := 0) (r := 13) hz_X6_fieldAt_0 rfl
theorem dX6_fieldAt_14 : decode cX6_fieldAt 14 = .ok (.getfield 15, 3) := dz_180 (n := 0) (r := 14) hz_X6_fieldAt_0 rfl rfl
theorem dX6_fieldAt_17 : decode cX6_fieldAt 17 = .ok (.iload_n 1, 1) := dz_27 (n := 0) (r := 17) hz_X6_fieldAt_0 rfl
theorem dX6_fieldAt_18 : decode cX6_fieldAt 18 = .ok (.iaload, 1) := dz_46 (n := 0) (r := 18) hz_X6_fieldAt_0 rfl
theorem dX6_fieldAt_19 : decode cX6_fieldAt 19 = .ok (.goto 4, 3) := dz_167 (n := 0) (r := 19) hz_X6_fieldAt_0 rfl (by decide +kernel)
theorem dX6_fieldAt_22 : decode cX6_fieldAt 22 = .ok (.iconst 0, 1) := dz_3 (n := 0) (r := 22) hz_X6_fieldAt_0 rfl
theorem dX6_fieldAt_23 : decode cX6_fieldAt 23 = .ok (.ireturn, 1) := dz_172 (n := 0) (r := 23) hz_X6_fieldAt_0 rfl
theorem hz_X6_setField_0 : (cX6_setField.data.toList.drop 0).take 40 = [27, 155, 0, 19, 27, 42, 180, 0, 15, 190, 162, 0, 10, 42, 180, 0, 15, 27, 28, 79, 177] := by decide +kernel
theorem dX6_setField_0 : decode cX6_setField 0 = .ok (.iload_n 1, 1) := dz_27 (n := 0) (r := 0) hz_X6_setField_0 rfl
theorem dX6_setField_1 : decode cX6_setField 1 = .ok (.ifCond .lt 19, 3) := dz_155 (n := 0) (r := 1) hz_X6_setField_0 rfl (by decide +kernel)
theorem dX6_setField_4 : decode cX6_setField 4 = .ok (.iload_n 1, 1) := dz_27 (n := 0) (r := 4) hz_X6_setField_0 rfl
theorem dX6_setField_5 : decode cX6_setField 5 = .ok (.aload_n 0, 1) := dz_42 (n := 0) (r := 5) hz_X6_setField_0 rfl
theorem dX6_setField_6 : decode cX6_setField 6 = .ok (.getfield 15, 3) := dz_180 (n := 0) (r := 6) hz_X6_setField_0 rfl rfl
theorem dX6_setField_9 : decode cX6_setField 9 = .ok (.arraylength, 1) := dz_190 (n := 0) (r := 9) hz_X6_setField_0 rfl
theorem dX6_setField_10 : decode cX6_setField 10 = .ok (.if_icmp .ge 10, 3) := dz_162 (n := 0) (r := 10) hz_X6_setField_0 rfl (by decide +kernel)
theorem dX6_setField_13 : decode cX6_setField 13 = .ok (.aload_n 0, 1) := dz_42 (n := 0) (r := 13) hz_X6_setField_0 rfl
theorem dX6_setField_14 : decode cX6_setField 14 = .ok (.getfield 15, 3) := dz_180 (n := 0) (r := 14) hz_X6_setField_0 rfl rfl
theorem dX6_setField_17 : decode cX6_setField 17 = .ok (.iload_n 1, 1) := dz_27 (n := 0) (r := 17) hz_X6_setField_0 rfl
theorem dX6_setField_18 : decode cX6_setField 18 = .ok (.iload_n 2, 1) := dz_28 (n := 0) (r := 18) hz_X6_setField_0 rfl
theorem dX6_setField_19 : decode cX6_setField 19 = .ok (.iastore, 1) := dz_79 (n := 0) (r := 19) hz_X6_setField_0 rfl
theorem dX6_setField_20 : decode cX6_setField 20 = .ok (.return_, 1) := dz_177 (n := 0) (r := 20) hz_X6_setField_0 rfl
theorem hz_X6_isPinned_0 : (cX6_isPinned.data.toList.drop 0).take 40 = [42, 180, 0, 24, 27, 184, 0, 49, 4, 160, 0, 7, 4, 167, 0, 4, 3, 172] := by decide +kernel
theorem dX6_isPinned_0 : decode cX6_isPinned 0 = .ok (.aload_n 0, 1) := dz_42 (n := 0) (r := 0) hz_X6_isPinned_0 rfl
theorem dX6_isPinned_1 : decode cX6_isPinned 1 = .ok (.getfield 24, 3) := dz_180 (n := 0) (r := 1) hz_X6_isPinned_0 rfl rfl
theorem dX6_isPinned_4 : decode cX6_isPinned 4 = .ok (.iload_n 1, 1) := dz_27 (n := 0) (r := 4) hz_X6_isPinned_0 rfl
theorem dX6_isPinned_5 : decode cX6_isPinned 5 = .ok (.invokestatic 49, 3) := dz_184 (n := 0) (r := 5) hz_X6_isPinned_0 rfl rfl
theorem dX6_isPinned_8 : decode cX6_isPinned 8 = .ok (.iconst 1, 1) := dz_4 (n := 0) (r := 8) hz_X6_isPinned_0 rfl
theorem dX6_isPinned_9 : decode cX6_isPinned 9 = .ok (.if_icmp .ne 7, 3) := dz_160 (n := 0) (r := 9) hz_X6_isPinned_0 rfl (by decide +kernel)
theorem dX6_isPinned_12 : decode cX6_isPinned 12 = .ok (.iconst 1, 1) := dz_4 (n := 0) (r := 12) hz_X6_isPinned_0 rfl
theorem dX6_isPinned_13 : decode cX6_isPinned 13 = .ok (.goto 4, 3) := dz_167 (n := 0) (r := 13) hz_X6_isPinned_0 rfl (by decide +kernel)
theorem dX6_isPinned_16 : decode cX6_isPinned 16 = .ok (.iconst 0, 1) := dz_3 (n := 0) (r := 16) hz_X6_isPinned_0 rfl
theorem dX6_isPinned_17 : decode cX6_isPinned 17 = .ok (.ireturn, 1) := dz_172 (n := 0) (r := 17) hz_X6_isPinned_0 rfl
theorem hz_X6_pinAt_0 : (cX6_pinAt.data.toList.drop 0).take 40 = [42, 27, 182, 0, 53, 154, 0, 5, 3, 172, 42, 180, 0, 28, 27, 184, 0, 49, 4, 160, 0, 7, 4, 167, 0, 4, 5, 172] := by decide +kernel
theorem dX6_pinAt_0 : decode cX6_pinAt 0 = .ok (.aload_n 0, 1) := dz_42 (n := 0) (r := 0) hz_X6_pinAt_0 rfl
theorem dX6_pinAt_1 : decode cX6_pinAt 1 = .ok (.iload_n 1, 1) := dz_27 (n := 0) (r := 1) hz_X6_pinAt_0 rfl
theorem dX6_pinAt_2 : decode cX6_pinAt 2 = .ok (.invokevirtual 53, 3) := dz_182 (n := 0) (r := 2) hz_X6_pinAt_0 rfl rfl
theorem dX6_pinAt_5 : decode cX6_pinAt 5 = .ok (.ifCond .ne 5, 3) := dz_154 (n := 0) (r := 5) hz_X6_pinAt_0 rfl (by decide +kernel)
theorem dX6_pinAt_8 : decode cX6_pinAt 8 = .ok (.iconst 0, 1) := dz_3 (n := 0) (r := 8) hz_X6_pinAt_0 rfl
theorem dX6_pinAt_9 : decode cX6_pinAt 9 = .ok (.ireturn, 1) := dz_172 (n := 0) (r := 9) hz_X6_pinAt_0 rfl
theorem dX6_pinAt_10 : decode cX6_pinAt 10 = .ok (.aload_n 0, 1) := dz_42 (n := 0) (r := 10) hz_X6_pinAt_0 rfl
theorem dX6_pinAt_11 : decode cX6_pinAt 11 = .ok (.getfield 28, 3) := dz_180 (n := 0) (r := 11) hz_X6_pinAt_0 rfl rfl
theorem dX6_pinAt_14 : decode cX6_pinAt 14 = .ok (.iload_n 1, 1) := dz_27 (n := 0) (r := 14) hz_X6_pinAt_0 rfl
theorem dX6_pinAt_15 : decode cX6_pinAt 15 = .ok (.invokestatic 49, 3) := dz_184 (n := 0) (r := 15) hz_X6_pinAt_0 rfl rfl
theorem dX6_pinAt_18 : decode cX6_pinAt 18 = .ok (.iconst 1, 1) := dz_4 (n := 0) (r := 18) hz_X6_pinAt_0 rfl
theorem dX6_pinAt_19 : decode cX6_pinAt 19 = .ok (.if_icmp .ne 7, 3) := dz_160 (n := 0) (r := 19) hz_X6_pinAt_0 rfl (by decide +kernel)
theorem dX6_pinAt_22 : decode cX6_pinAt 22 = .ok (.iconst 1, 1) := dz_4 (n := 0) (r := 22) hz_X6_pinAt_0 rfl
theorem dX6_pinAt_23 : decode cX6_pinAt 23 = .ok (.goto 4, 3) := dz_167 (n := 0) (r := 23) hz_X6_pinAt_0 rfl (by decide +kernel)
theorem dX6_pinAt_26 : decode cX6_pinAt 26 = .ok (.iconst 2, 1) := dz_5 (n := 0) (r := 26) hz_X6_pinAt_0 rfl
theorem dX6_pinAt_27 : decode cX6_pinAt 27 = .ok (.ireturn, 1) := dz_172 (n := 0) (r := 27) hz_X6_pinAt_0 rfl
theorem hz_X6_setPin_0 : (cX6_setPin.data.toList.drop 0).take 40 = [4, 27, 120, 62, 42, 28, 154, 0, 14, 42, 180, 0, 24, 29, 2, 130, 126, 167, 0, 9, 42, 180, 0, 24, 29, 128, 181, 0, 24, 42, 28, 4, 160, 0, 12, 42, 180, 0, 28, 29] := by decide +kernel
theorem dX6_setPin_0 : decode cX6_setPin 0 = .ok (.iconst 1, 1) := dz_4 (n := 0) (r := 0) hz_X6_setPin_0 rfl
theorem dX6_setPin_1 : decode cX6_setPin 1 = .ok (.iload_n 1, 1) := dz_27 (n := 0) (r := 1) hz_X6_setPin_0 rfl
theorem dX6_setPin_2 : decode cX6_setPin 2 = .ok (.ishl, 1) := dz_120 (n := 0) (r := 2) hz_X6_setPin_0 rfl
theorem dX6_setPin_3 : decode cX6_setPin 3 = .ok (.istore_n 3, 1) := dz_62 (n := 0) (r := 3) hz_X6_setPin_0 rfl
theorem dX6_setPin_4 : decode cX6_setPin 4 = .ok (.aload_n 0, 1) := dz_42 (n := 0) (r := 4) hz_X6_setPin_0 rfl
theorem dX6_setPin_5 : decode cX6_setPin 5 = .ok (.iload_n 2, 1) := dz_28 (n := 0) (r := 5) hz_X6_setPin_0 rfl
theorem dX6_setPin_6 : decode cX6_setPin 6 = .ok (.ifCond .ne 14, 3) := dz_154 (n := 0) (r := 6) hz_X6_setPin_0 rfl (by decide +kernel)
theorem dX6_setPin_9 : decode cX6_setPin 9 = .ok (.aload_n 0, 1) := dz_42 (n := 0) (r := 9) hz_X6_setPin_0 rfl
theorem dX6_setPin_10 : decode cX6_setPin 10 = .ok (.getfield 24, 3) := dz_180 (n := 0) (r := 10) hz_X6_setPin_0 rfl rfl
theorem dX6_setPin_13 : decode cX6_setPin 13 = .ok (.iload_n 3, 1) := dz_29 (n := 0) (r := 13) hz_X6_setPin_0 rfl
theorem dX6_setPin_14 : decode cX6_setPin 14 = .ok (.iconst (-1), 1) := dz_2 (n := 0) (r := 14) hz_X6_setPin_0 rfl
theorem dX6_setPin_15 : decode cX6_setPin 15 = .ok (.ixor, 1) := dz_130 (n := 0) (r := 15) hz_X6_setPin_0 rfl
theorem dX6_setPin_16 : decode cX6_setPin 16 = .ok (.iand, 1) := dz_126 (n := 0) (r := 16) hz_X6_setPin_0 rfl
theorem dX6_setPin_17 : decode cX6_setPin 17 = .ok (.goto 9, 3) := dz_167 (n := 0) (r := 17) hz_X6_setPin_0 rfl (by decide +kernel)
theorem dX6_setPin_20 : decode cX6_setPin 20 = .ok (.aload_n 0, 1) := dz_42 (n := 0) (r := 20) hz_X6_setPin_0 rfl
theorem dX6_setPin_21 : decode cX6_setPin 21 = .ok (.getfield 24, 3) := dz_180 (n := 0) (r := 21) hz_X6_setPin_0 rfl rfl
theorem dX6_setPin_24 : decode cX6_setPin 24 = .ok (.iload_n 3, 1) := dz_29 (n := 0) (r := 24) hz_X6_setPin_0 rfl
theorem dX6_setPin_25 : decode cX6_setPin 25 = .ok (.ior, 1) := dz_128 (n := 0) (r := 25) hz_X6_setPin_0 rfl
theorem dX6_setPin_26 : decode cX6_setPin 26 = .ok (.putfield 24, 3) := dz_181 (n := 0) (r := 26) hz_X6_setPin_0 rfl rfl
theorem dX6_setPin_29 : decode cX6_setPin 29 = .ok (.aload_n 0, 1) := dz_42 (n := 0) (r := 29) hz_X6_setPin_0 rfl
theorem dX6_setPin_30 : decode cX6_setPin 30 = .ok (.iload_n 2, 1) := dz_28 (n := 0) (r := 30) hz_X6_setPin_0 rfl
theorem dX6_setPin_31 : decode cX6_setPin 31 = .ok (.iconst 1, 1) := dz_4 (n := 0) (r := 31) hz_X6_setPin_0 rfl
theorem hz_X6_setPin_32 : (cX6_setPin.data.toList.drop 32).take 40 = [160, 0, 12, 42, 180, 0, 28, 29, 128, 167, 0, 11, 42, 180, 0, 28, 29, 2, 130, 126, 181, 0, 28, 177] := by decide +kernel
theorem dX6_setPin_32 : decode cX6_setPin 32 = .ok (.if_icmp .ne 12, 3) := dz_160 (n := 32) (r := 0) hz_X6_setPin_32 rfl (by decide +kernel)
theorem dX6_setPin_35 : decode cX6_setPin 35 = .ok (.aload_n 0, 1) := dz_42 (n := 32) (r := 3) hz_X6_setPin_32 rfl
theorem dX6_setPin_36 : decode cX6_setPin 36 = .ok (.getfield 28, 3) := dz_180 (n := 32) (r := 4) hz_X6_setPin_32 rfl rfl
theorem dX6_setPin_39 : decode cX6_setPin 39 = .ok (.iload_n 3, 1) := dz_29 (n := 32) (r := 7) hz_X6_setPin_32 rfl
theorem dX6_setPin_40 : decode cX6_setPin 40 = .ok (.ior, 1) := dz_128 (n := 32) (r := 8) hz_X6_setPin_32 rfl
theorem dX6_setPin_41 : decode cX6_setPin 41 = .ok (.goto 11, 3) := dz_167 (n := 32) (r := 9) hz_X6_setPin_32 rfl (by decide +kernel)
theorem dX6_setPin_44 : decode cX6_setPin 44 = .ok (.aload_n 0, 1) := dz_42 (n := 32) (r := 12) hz_X6_setPin_32 rfl
theorem dX6_setPin_45 : decode cX6_setPin 45 = .ok (.getfield 28, 3) := dz_180 (n := 32) (r := 13) hz_X6_setPin_32 rfl rfl
theorem dX6_setPin_48 : decode cX6_setPin 48 = .ok (.iload_n 3, 1) := dz_29 (n := 32) (r := 16) hz_X6_setPin_32 rfl
theorem dX6_setPin_49 : decode cX6_setPin 49 = .ok (.iconst (-1), 1) := dz_2 (n := 32) (r := 17) hz_X6_setPin_32 rfl
theorem dX6_setPin_50 : decode cX6_setPin 50 = .ok (.ixor, 1) := dz_130 (n := 32) (r := 18) hz_X6_setPin_32 rfl
theorem dX6_setPin_51 : decode cX6_setPin 51 = .ok (.iand, 1) := dz_126 (n := 32) (r := 19) hz_X6_setPin_32 rfl
theorem dX6_setPin_52 : decode cX6_setPin 52 = .ok (.putfield 28, 3) := dz_181 (n := 32) (r := 20) hz_X6_setPin_32 rfl rfl
theorem dX6_setPin_55 : decode cX6_setPin 55 = .ok (.return_, 1) := dz_177 (n := 32) (r := 23) hz_X6_setPin_32 rfl
theorem hz_X6_allows_0 : (cX6_allows.data.toList.drop 0).take 40 = [27, 42, 180, 0, 24, 126, 42, 180, 0, 28, 160, 0, 7, 4, 167, 0, 4, 3, 172] := by decide +kernel
theorem dX6_allows_0 : decode cX6_allows 0 = .ok (.iload_n 1, 1) := dz_27 (n := 0) (r := 0) hz_X6_allows_0 rfl
theorem dX6_allows_1 : decode cX6_allows 1 = .ok (.aload_n 0, 1) := dz_42 (n := 0) (r := 1) hz_X6_allows_0 rfl
theorem dX6_allows_2 : decode cX6_allows 2 = .ok (.getfield 24, 3) := dz_180 (n := 0) (r := 2) hz_X6_allows_0 rfl rfl
theorem dX6_allows_5 : decode cX6_allows 5 = .ok (.iand, 1) := dz_126 (n := 0) (r := 5) hz_X6_allows_0 rfl
theorem dX6_allows_6 : decode cX6_allows 6 = .ok (.aload_n 0, 1) := dz_42 (n := 0) (r := 6) hz_X6_allows_0 rfl
theorem dX6_allows_7 : decode cX6_allows 7 = .ok (.getfield 28, 3) := dz_180 (n := 0) (r := 7) hz_X6_allows_0 rfl rfl
theorem dX6_allows_10 : decode cX6_allows 10 = .ok (.if_icmp .ne 7, 3) := dz_160 (n := 0) (r := 10) hz_X6_allows_0 rfl (by decide +kernel)
theorem dX6_allows_13 : decode cX6_allows 13 = .ok (.iconst 1, 1) := dz_4 (n := 0) (r := 13) hz_X6_allows_0 rfl
theorem dX6_allows_14 : decode cX6_allows 14 = .ok (.goto 4, 3) := dz_167 (n := 0) (r := 14) hz_X6_allows_0 rfl (by decide +kernel)
theorem dX6_allows_17 : decode cX6_allows 17 = .ok (.iconst 0, 1) := dz_3 (n := 0) (r := 17) hz_X6_allows_0 rfl
theorem dX6_allows_18 : decode cX6_allows 18 = .ok (.ireturn, 1) := dz_172 (n := 0) (r := 18) hz_X6_allows_0 rfl
theorem hz_X7_init_0 : (cX7_init.data.toList.drop 0).take 40 = [42, 183, 0, 3, 42, 187, 0, 9, 89, 183, 0, 11, 181, 0, 12, 42, 17, 1, 33, 188, 10, 181, 0, 18, 177] := by decide +kernel
theorem dX7_init_0 : decode cX7_init 0 = .ok (.aload_n 0, 1) := dz_42 (n := 0) (r := 0) hz_X7_init_0 rfl
theorem dX7_init_1 : decode cX7_init 1 = .ok (.invokespecial 3, 3) := dz_183 (n := 0) (r := 1) hz_X7_init_0 rfl rfl
theorem dX7_init_4 : decode cX7_init 4 = .ok (.aload_n 0, 1) := dz_42 (n := 0) (r := 4) hz_X7_init_0 rfl
theorem dX7_init_5 : decode cX7_init 5 = .ok (.new 9, 3) := dz_187 (n := 0) (r := 5) hz_X7_init_0 rfl rfl
theorem dX7_init_8 : decode cX7_init 8 = .ok (.dup, 1) := dz_89 (n := 0) (r := 8) hz_X7_init_0 rfl
theorem dX7_init_9 : decode cX7_init 9 = .ok (.invokespecial 11, 3) := dz_183 (n := 0) (r := 9) hz_X7_init_0 rfl rfl
theorem dX7_init_12 : decode cX7_init 12 = .ok (.putfield 12, 3) := dz_181 (n := 0) (r := 12) hz_X7_init_0 rfl rfl
theorem dX7_init_15 : decode cX7_init 15 = .ok (.aload_n 0, 1) := dz_42 (n := 0) (r := 15) hz_X7_init_0 rfl
theorem dX7_init_16 : decode cX7_init 16 = .ok (.sipush 289, 3) := dz_17 (n := 0) (r := 16) hz_X7_init_0 rfl (by decide +kernel)
theorem dX7_init_19 : decode cX7_init 19 = .ok (.newarray .int, 2) := dz_188_10 (n := 0) (r := 19) hz_X7_init_0 rfl
theorem dX7_init_21 : decode cX7_init 21 = .ok (.putfield 18, 3) := dz_181 (n := 0) (r := 21) hz_X7_init_0 rfl rfl
theorem dX7_init_24 : decode cX7_init 24 = .ok (.return_, 1) := dz_177 (n := 0) (r := 24) hz_X7_init_0 rfl
theorem hz_X8_init_0 : (cX8_init.data.toList.drop 0).take 40 = [42, 183, 0, 3, 42, 17, 7, 208, 188, 8, 181, 0, 9, 42, 17, 1, 144, 188, 10, 181, 0, 15, 42, 17, 1, 144, 188, 10, 181, 0, 19, 42, 17, 1, 144, 188, 10, 181, 0, 22] := by decide +kernel
theorem dX8_init_0 : decode cX8_init 0 = .ok (.aload_n 0, 1) := dz_42 (n := 0) (r := 0) hz_X8_init_0 rfl
theorem dX8_init_1 : decode cX8_init 1 = .ok (.invokespecial 3, 3) := dz_183 (n := 0) (r := 1) hz_X8_init_0 rfl rfl
theorem dX8_init_4 : decode cX8_init 4 = .ok (.aload_n 0, 1) := dz_42 (n := 0) (r := 4) hz_X8_init_0 rfl
theorem dX8_init_5 : decode cX8_init 5 = .ok (.sipush 2000, 3) := dz_17 (n := 0) (r := 5) hz_X8_init_0 rfl (by decide +kernel)
theorem dX8_init_8 : decode cX8_init 8 = .ok (.newarray .byte, 2) := dz_188_8 (n := 0) (r := 8) hz_X8_init_0 rfl
theorem dX8_init_10 : decode cX8_init 10 = .ok (.putfield 9, 3) := dz_181 (n := 0) (r := 10) hz_X8_init_0 rfl rfl
theorem dX8_init_13 : decode cX8_init 13 = .ok (.aload_n 0, 1) := dz_42 (n := 0) (r := 13) hz_X8_init_0 rfl
theorem dX8_init_14 : decode cX8_init 14 = .ok (.sipush 400, 3) := dz_17 (n := 0) (r := 14) hz_X8_init_0 rfl (by decide +kernel)
theorem dX8_init_17 : decode cX8_init 17 = .ok (.newarray .int, 2) := dz_188_10 (n := 0) (r := 17) hz_X8_init_0 rfl
theorem dX8_init_19 : decode cX8_init 19 = .ok (.putfield 15, 3) := dz_181 (n := 0) (r := 19) hz_X8_init_0 rfl rfl
theorem dX8_init_22 : decode cX8_init 22 = .ok (.aload_n 0, 1) := dz_42 (n := 0) (r := 22) hz_X8_init_0 rfl
theorem dX8_init_23 : decode cX8_init 23 = .ok (.sipush 400, 3) := dz_17 (n := 0) (r := 23) hz_X8_init_0 rfl (by decide +kernel)
theorem dX8_init_26 : decode cX8_init 26 = .ok (.newarray .int, 2) := dz_188_10 (n := 0) (r := 26) hz_X8_init_0 rfl
theorem dX8_init_28 : decode cX8_init 28 = .ok (.putfield 19, 3) := dz_181 (n := 0) (r := 28) hz_X8_init_0 rfl rfl
theorem dX8_init_31 : decode cX8_init 31 = .ok (.aload_n 0, 1) := dz_42 (n := 0) (r := 31) hz_X8_init_0 rfl
theorem hz_X8_init_32 : (cX8_init.data.toList.drop 32).take 40 = [17, 1, 144, 188, 10, 181, 0, 22, 177] := by decide +kernel
theorem dX8_init_32 : decode cX8_init 32 = .ok (.sipush 400, 3) := dz_17 (n := 32) (r := 0) hz_X8_init_32 rfl (by decide +kernel)
theorem dX8_init_35 : decode cX8_init 35 = .ok (.newarray .int, 2) := dz_188_10 (n := 32) (r := 3) hz_X8_init_32 rfl
theorem dX8_init_37 : decode cX8_init 37 = .ok (.putfield 22, 3) := dz_181 (n := 32) (r := 5) hz_X8_init_32 rfl rfl
theorem dX8_init_40 : decode cX8_init 40 = .ok (.return_, 1) := dz_177 (n := 32) (r := 8) hz_X8_init_32 rfl
theorem hz_X8_addWord_0 : (cX8_addWord.data.toList.drop 0).take 40 = [16, 24, 61, 28, 155, 0, 51, 42, 180, 0, 25, 155, 0, 38, 42, 180, 0, 25, 42, 180, 0, 9, 190, 162, 0, 26, 42, 180, 0, 9, 42, 180, 0, 25, 27, 28, 122, 145, 84, 42] := by decide +kernel
theorem dX8_addWord_0 : decode cX8_addWord 0 = .ok (.bipush 24, 2) := dz_16 (n := 0) (r := 0) hz_X8_addWord_0 rfl rfl
theorem dX8_addWord_2 : decode cX8_addWord 2 = .ok (.istore_n 2, 1) := dz_61 (n := 0) (r := 2) hz_X8_addWord_0 rfl
theorem dX8_addWord_3 : decode cX8_addWord 3 = .ok (.iload_n 2, 1) := dz_28 (n := 0) (r := 3) hz_X8_addWord_0 rfl
theorem dX8_addWord_4 : decode cX8_addWord 4 = .ok (.ifCond .lt 51, 3) := dz_155 (n := 0) (r := 4) hz_X8_addWord_0 rfl (by decide +kernel)
theorem dX8_addWord_7 : decode cX8_addWord 7 = .ok (.aload_n 0, 1) := dz_42 (n := 0) (r := 7) hz_X8_addWord_0 rfl
theorem dX8_addWord_8 : decode cX8_addWord 8 = .ok (.getfield 25, 3) := dz_180 (n := 0) (r := 8) hz_X8_addWord_0 rfl rfl
theorem dX8_addWord_11 : decode cX8_addWord 11 = .ok (.ifCond .lt 38, 3) := dz_155 (n := 0) (r := 11) hz_X8_addWord_0 rfl (by decide +kernel)
theorem dX8_addWord_14 : decode cX8_addWord 14 = .ok (.aload_n 0, 1) := dz_42 (n := 0) (r := 14) hz_X8_addWord_0 rfl
theorem dX8_addWord_15 : decode cX8_addWord 15 = .ok (.getfield 25, 3) := dz_180 (n := 0) (r := 15) hz_X8_addWord_0 rfl rfl
theorem dX8_addWord_18 : decode cX8_addWord 18 = .ok (.aload_n 0, 1) := dz_42 (n := 0) (r := 18) hz_X8_addWord_0 rfl
theorem dX8_addWord_19 : decode cX8_addWord 19 = .ok (.getfield 9, 3) := dz_180 (n := 0) (r := 19) hz_X8_addWord_0 rfl rfl
theorem dX8_addWord_22 : decode cX8_addWord 22 = .ok (.arraylength, 1) := dz_190 (n := 0) (r := 22) hz_X8_addWord_0 rfl
theorem dX8_addWord_23 : decode cX8_addWord 23 = .ok (.if_icmp .ge 26, 3) := dz_162 (n := 0) (r := 23) hz_X8_addWord_0 rfl (by decide +kernel)
theorem dX8_addWord_26 : decode cX8_addWord 26 = .ok (.aload_n 0, 1) := dz_42 (n := 0) (r := 26) hz_X8_addWord_0 rfl
theorem dX8_addWord_27 : decode cX8_addWord 27 = .ok (.getfield 9, 3) := dz_180 (n := 0) (r := 27) hz_X8_addWord_0 rfl rfl
theorem dX8_addWord_30 : decode cX8_addWord 30 = .ok (.aload_n 0, 1) := dz_42 (n := 0) (r := 30) hz_X8_addWord_0 rfl
theorem dX8_addWord_31 : decode cX8_addWord 31 = .ok (.getfield 25, 3) := dz_180 (n := 0) (r := 31) hz_X8_addWord_0 rfl rfl
theorem hz_X8_addWord_32 : (cX8_addWord.data.toList.drop 32).take 40 = [0, 25, 27, 28, 122, 145, 84, 42, 89, 180, 0, 25, 4, 96, 181, 0, 25, 132, 2, 248, 167, 255, 207, 177] := by decide +kernel
theorem dX8_addWord_34 : decode cX8_addWord 34 = .ok (.iload_n 1, 1) := dz_27 (n := 32) (r := 2) hz_X8_addWord_32 rfl
theorem dX8_addWord_35 : decode cX8_addWord 35 = .ok (.iload_n 2, 1) := dz_28 (n := 32) (r := 3) hz_X8_addWord_32 rfl
theorem dX8_addWord_36 : decode cX8_addWord 36 = .ok (.ishr, 1) := dz_122 (n := 32) (r := 4) hz_X8_addWord_32 rfl
theorem dX8_addWord_37 : decode cX8_addWord 37 = .ok (.i2b, 1) := dz_145 (n := 32) (r := 5) hz_X8_addWord_32 rfl
theorem dX8_addWord_38 : decode cX8_addWord 38 = .ok (.bastore, 1) := dz_84 (n := 32) (r := 6) hz_X8_addWord_32 rfl
theorem dX8_addWord_39 : decode cX8_addWord 39 = .ok (.aload_n 0, 1) := dz_42 (n := 32) (r := 7) hz_X8_addWord_32 rfl
theorem dX8_addWord_40 : decode cX8_addWord 40 = .ok (.dup, 1) := dz_89 (n := 32) (r := 8) hz_X8_addWord_32 rfl
theorem dX8_addWord_41 : decode cX8_addWord 41 = .ok (.getfield 25, 3) := dz_180 (n := 32) (r := 9) hz_X8_addWord_32 rfl rfl
theorem dX8_addWord_44 : decode cX8_addWord 44 = .ok (.iconst 1, 1) := dz_4 (n := 32) (r := 12) hz_X8_addWord_32 rfl
theorem dX8_addWord_45 : decode cX8_addWord 45 = .ok (.iadd, 1) := dz_96 (n := 32) (r := 13) hz_X8_addWord_32 rfl
theorem dX8_addWord_46 : decode cX8_addWord 46 = .ok (.putfield 25, 3) := dz_181 (n := 32) (r := 14) hz_X8_addWord_32 rfl rfl
theorem dX8_addWord_49 : decode cX8_addWord 49 = .ok (.iinc 2 (-8), 3) := dz_132 (n := 32) (r := 17) hz_X8_addWord_32 rfl rfl rfl
theorem dX8_addWord_52 : decode cX8_addWord 52 = .ok (.goto (-49), 3) := dz_167 (n := 32) (r := 20) hz_X8_addWord_32 rfl (by decide +kernel)
theorem dX8_addWord_55 : decode cX8_addWord 55 = .ok (.return_, 1) := dz_177 (n := 32) (r := 23) hz_X8_addWord_32 rfl
theorem hz_X8_byteAt_0 : (cX8_byteAt.data.toList.drop 0).take 40 = [27, 155, 0, 29, 27, 42, 180, 0, 25, 162, 0, 21, 27, 42, 180, 0, 9, 190, 162, 0, 12, 42, 180, 0, 9, 27, 51, 167, 0, 4, 3, 172] := by decide +kernel
theorem dX8_byteAt_0 : decode cX8_byteAt 0 = .ok (.iload_n 1, 1) := dz_27 (n := 0) (r := 0) hz_X8_byteAt_0 rfl
theorem dX8_byteAt_1 : decode cX8_byteAt 1 = .ok (.ifCond .lt 29, 3) := dz_155 (n := 0) (r := 1) hz_X8_byteAt_0 rfl (by decide +kernel)
theorem dX8_byteAt_4 : decode cX8_byteAt 4 = .ok (.iload_n 1, 1) := dz_27 (n := 0) (r := 4) hz_X8_byteAt_0 rfl
theorem dX8_byteAt_5 : decode cX8_byteAt 5 = .ok (.aload_n 0, 1) := dz_42 (n := 0) (r := 5) hz_X8_byteAt_0 rfl
theorem dX8_byteAt_6 : decode cX8_byteAt 6 = .ok (.getfield 25, 3) := dz_180 (n := 0) (r := 6) hz_X8_byteAt_0 rfl rfl
theorem dX8_byteAt_9 : decode cX8_byteAt 9 = .ok (.if_icmp .ge 21, 3) := dz_162 (n := 0) (r := 9) hz_X8_byteAt_0 rfl (by decide +kernel)
theorem dX8_byteAt_12 : decode cX8_byteAt 12 = .ok (.iload_n 1, 1) := dz_27 (n := 0) (r := 12) hz_X8_byteAt_0 rfl
theorem dX8_byteAt_13 : decode cX8_byteAt 13 = .ok (.aload_n 0, 1) := dz_42 (n := 0) (r := 13) hz_X8_byteAt_0 rfl
theorem dX8_byteAt_14 : decode cX8_byteAt 14 = .ok (.getfield 9, 3) := dz_180 (n := 0) (r := 14) hz_X8_byteAt_0 rfl rfl
theorem dX8_byteAt_17 : decode cX8_byteAt 17 = .ok (.arraylength, 1) := dz_190 (n := 0) (r := 17) hz_X8_byteAt_0 rfl
theorem dX8_byteAt_18 : decode cX8_byteAt 18 = .ok (.if_icmp .ge 12, 3) := dz_162 (n := 0) (r := 18) hz_X8_byteAt_0 rfl (by decide +kernel)
theorem dX8_byteAt_21 : decode cX8_byteAt 21 = .ok (.aload_n 0, 1) := dz_42 (n := 0) (r := 21) hz_X8_byteAt_0 rfl
theorem dX8_byteAt_22 : decode cX8_byteAt 22 = .ok (.getfield 9, 3) := dz_180 (n := 0) (r := 22) hz_X8_byteAt_0 rfl rfl
theorem dX8_byteAt_25 : decode cX8_byteAt 25 = .ok (.iload_n 1, 1) := dz_27 (n := 0) (r := 25) hz_X8_byteAt_0 rfl
theorem dX8_byteAt_26 : decode cX8_byteAt 26 = .ok (.baload, 1) := dz_51 (n := 0) (r := 26) hz_X8_byteAt_0 rfl
theorem dX8_byteAt_27 : decode cX8_byteAt 27 = .ok (.goto 4, 3) := dz_167 (n := 0) (r := 27) hz_X8_byteAt_0 rfl (by decide +kernel)
theorem dX8_byteAt_30 : decode cX8_byteAt 30 = .ok (.iconst 0, 1) := dz_3 (n := 0) (r := 30) hz_X8_byteAt_0 rfl
theorem dX8_byteAt_31 : decode cX8_byteAt 31 = .ok (.ireturn, 1) := dz_172 (n := 0) (r := 31) hz_X8_byteAt_0 rfl
theorem hz_X8_cut_0 : (cX8_cut.data.toList.drop 0).take 40 = [3, 60, 42, 3, 181, 0, 29, 42, 3, 181, 0, 32, 3, 61, 28, 17, 1, 144, 163, 0, 55, 42, 42, 180, 0, 32, 182, 0, 35, 42, 180, 0, 39, 154, 0, 14, 27, 7, 160, 0] := by decide +kernel
theorem dX8_cut_0 : decode cX8_cut 0 = .ok (.iconst 0, 1) := dz_3 (n := 0) (r := 0) hz_X8_cut_0 rfl
theorem dX8_cut_1 : decode cX8_cut 1 = .ok (.istore_n 1, 1) := dz_60 (n := 0) (r := 1) hz_X8_cut_0 rfl
theorem dX8_cut_2 : decode cX8_cut 2 = .ok (.aload_n 0, 1) := dz_42 (n := 0) (r := 2) hz_X8_cut_0 rfl
theorem dX8_cut_3 : decode cX8_cut 3 = .ok (.iconst 0, 1) := dz_3 (n := 0) (r := 3) hz_X8_cut_0 rfl
theorem dX8_cut_4 : decode cX8_cut 4 = .ok (.putfield 29, 3) := dz_181 (n := 0) (r := 4) hz_X8_cut_0 rfl rfl
theorem dX8_cut_7 : decode cX8_cut 7 = .ok (.aload_n 0, 1) := dz_42 (n := 0) (r := 7) hz_X8_cut_0 rfl
theorem dX8_cut_8 : decode cX8_cut 8 = .ok (.iconst 0, 1) := dz_3 (n := 0) (r := 8) hz_X8_cut_0 rfl
theorem dX8_cut_9 : decode cX8_cut 9 = .ok (.putfield 32, 3) := dz_181 (n := 0) (r := 9) hz_X8_cut_0 rfl rfl
theorem dX8_cut_12 : decode cX8_cut 12 = .ok (.iconst 0, 1) := dz_3 (n := 0) (r := 12) hz_X8_cut_0 rfl
theorem dX8_cut_13 : decode cX8_cut 13 = .ok (.istore_n 2, 1) := dz_61 (n := 0) (r := 13) hz_X8_cut_0 rfl
theorem dX8_cut_14 : decode cX8_cut 14 = .ok (.iload_n 2, 1) := dz_28 (n := 0) (r := 14) hz_X8_cut_0 rfl
theorem dX8_cut_15 : decode cX8_cut 15 = .ok (.sipush 400, 3) := dz_17 (n := 0) (r := 15) hz_X8_cut_0 rfl (by decide +kernel)
theorem dX8_cut_18 : decode cX8_cut 18 = .ok (.if_icmp .gt 55, 3) := dz_163 (n := 0) (r := 18) hz_X8_cut_0 rfl (by decide +kernel)
theorem dX8_cut_21 : decode cX8_cut 21 = .ok (.aload_n 0, 1) := dz_42 (n := 0) (r := 21) hz_X8_cut_0 rfl
theorem dX8_cut_22 : decode cX8_cut 22 = .ok (.aload_n 0, 1) := dz_42 (n := 0) (r := 22) hz_X8_cut_0 rfl
theorem dX8_cut_23 : decode cX8_cut 23 = .ok (.getfield 32, 3) := dz_180 (n := 0) (r := 23) hz_X8_cut_0 rfl rfl
theorem dX8_cut_26 : decode cX8_cut 26 = .ok (.invokevirtual 35, 3) := dz_182 (n := 0) (r := 26) hz_X8_cut_0 rfl rfl
theorem dX8_cut_29 : decode cX8_cut 29 = .ok (.aload_n 0, 1) := dz_42 (n := 0) (r := 29) hz_X8_cut_0 rfl
theorem dX8_cut_30 : decode cX8_cut 30 = .ok (.getfield 39, 3) := dz_180 (n := 0) (r := 30) hz_X8_cut_0 rfl rfl
theorem hz_X8_cut_32 : (cX8_cut.data.toList.drop 32).take 40 = [39, 154, 0, 14, 27, 7, 160, 0, 7, 3, 167, 0, 4, 4, 172, 27, 42, 180, 0, 39, 184, 0, 42, 60, 27, 2, 160, 0, 5, 4, 172, 42, 182, 0, 46, 132, 2, 1, 167, 255] := by decide +kernel
theorem dX8_cut_33 : decode cX8_cut 33 = .ok (.ifCond .ne 14, 3) := dz_154 (n := 32) (r := 1) hz_X8_cut_32 rfl (by decide +kernel)
theorem dX8_cut_36 : decode cX8_cut 36 = .ok (.iload_n 1, 1) := dz_27 (n := 32) (r := 4) hz_X8_cut_32 rfl
theorem dX8_cut_37 : decode cX8_cut 37 = .ok (.iconst 4, 1) := dz_7 (n := 32) (r := 5) hz_X8_cut_32 rfl
theorem dX8_cut_38 : decode cX8_cut 38 = .ok (.if_icmp .ne 7, 3) := dz_160 (n := 32) (r := 6) hz_X8_cut_32 rfl (by decide +kernel)
theorem dX8_cut_41 : decode cX8_cut 41 = .ok (.iconst 0, 1) := dz_3 (n := 32) (r := 9) hz_X8_cut_32 rfl
theorem dX8_cut_42 : decode cX8_cut 42 = .ok (.goto 4, 3) := dz_167 (n := 32) (r := 10) hz_X8_cut_32 rfl (by decide +kernel)
theorem dX8_cut_45 : decode cX8_cut 45 = .ok (.iconst 1, 1) := dz_4 (n := 32) (r := 13) hz_X8_cut_32 rfl
theorem dX8_cut_46 : decode cX8_cut 46 = .ok (.ireturn, 1) := dz_172 (n := 32) (r := 14) hz_X8_cut_32 rfl
theorem dX8_cut_47 : decode cX8_cut 47 = .ok (.iload_n 1, 1) := dz_27 (n := 32) (r := 15) hz_X8_cut_32 rfl
theorem dX8_cut_48 : decode cX8_cut 48 = .ok (.aload_n 0, 1) := dz_42 (n := 32) (r := 16) hz_X8_cut_32 rfl
theorem dX8_cut_49 : decode cX8_cut 49 = .ok (.getfield 39, 3) := dz_180 (n := 32) (r := 17) hz_X8_cut_32 rfl rfl
theorem dX8_cut_52 : decode cX8_cut 52 = .ok (.invokestatic 42, 3) := dz_184 (n := 32) (r := 20) hz_X8_cut_32 rfl rfl
theorem dX8_cut_55 : decode cX8_cut 55 = .ok (.istore_n 1, 1) := dz_60 (n := 32) (r := 23) hz_X8_cut_32 rfl
theorem dX8_cut_56 : decode cX8_cut 56 = .ok (.iload_n 1, 1) := dz_27 (n := 32) (r := 24) hz_X8_cut_32 rfl
theorem dX8_cut_57 : decode cX8_cut 57 = .ok (.iconst (-1), 1) := dz_2 (n := 32) (r := 25) hz_X8_cut_32 rfl
theorem dX8_cut_58 : decode cX8_cut 58 = .ok (.if_icmp .ne 5, 3) := dz_160 (n := 32) (r := 26) hz_X8_cut_32 rfl (by decide +kernel)
theorem dX8_cut_61 : decode cX8_cut 61 = .ok (.iconst 1, 1) := dz_4 (n := 32) (r := 29) hz_X8_cut_32 rfl
theorem dX8_cut_62 : decode cX8_cut 62 = .ok (.ireturn, 1) := dz_172 (n := 32) (r := 30) hz_X8_cut_32 rfl
theorem dX8_cut_63 : decode cX8_cut 63 = .ok (.aload_n 0, 1) := dz_42 (n := 32) (r := 31) hz_X8_cut_32 rfl
theorem hz_X8_cut_64 : (cX8_cut.data.toList.drop 64).take 40 = [182, 0, 46, 132, 2, 1, 167, 255, 200, 5, 172] := by decide +kernel
theorem dX8_cut_64 : decode cX8_cut 64 = .ok (.invokevirtual 46, 3) := dz_182 (n := 64) (r := 0) hz_X8_cut_64 rfl rfl
theorem dX8_cut_67 : decode cX8_cut 67 = .ok (.iinc 2 1, 3) := dz_132 (n := 64) (r := 3) hz_X8_cut_64 rfl rfl rfl
theorem dX8_cut_70 : decode cX8_cut 70 = .ok (.goto (-56), 3) := dz_167 (n := 64) (r := 6) hz_X8_cut_64 rfl (by decide +kernel)
theorem dX8_cut_73 : decode cX8_cut 73 = .ok (.iconst 2, 1) := dz_5 (n := 64) (r := 9) hz_X8_cut_64 rfl
theorem dX8_cut_74 : decode cX8_cut 74 = .ok (.ireturn, 1) := dz_172 (n := 64) (r := 10) hz_X8_cut_64 rfl
theorem hz_X8_keepToken_0 : (cX8_keepToken.data.toList.drop 0).take 40 = [42, 180, 0, 29, 155, 0, 62, 42, 180, 0, 29, 17, 1, 144, 162, 0, 52, 42, 180, 0, 15, 42, 180, 0, 29, 42, 180, 0, 39, 79, 42, 180, 0, 19, 42, 180, 0, 29, 42, 180] := by decide +kernel
theorem dX8_keepToken_0 : decode cX8_keepToken 0 = .ok (.aload_n 0, 1) := dz_42 (n := 0) (r := 0) hz_X8_keepToken_0 rfl
theorem dX8_keepToken_1 : decode cX8_keepToken 1 = .ok (.getfield 29, 3) := dz_180 (n := 0) (r := 1) hz_X8_keepToken_0 rfl rfl
theorem dX8_keepToken_4 : decode cX8_keepToken 4 = .ok (.ifCond .lt 62, 3) := dz_155 (n := 0) (r := 4) hz_X8_keepToken_0 rfl (by decide +kernel)
theorem dX8_keepToken_7 : decode cX8_keepToken 7 = .ok (.aload_n 0, 1) := dz_42 (n := 0) (r := 7) hz_X8_keepToken_0 rfl
theorem dX8_keepToken_8 : decode cX8_keepToken 8 = .ok (.getfield 29, 3) := dz_180 (n := 0) (r := 8) hz_X8_keepToken_0 rfl rfl
theorem dX8_keepToken_11 : decode cX8_keepToken 11 = .ok (.sipush 400, 3) := dz_17 (n := 0) (r := 11) hz_X8_keepToken_0 rfl (by decide +kernel)
theorem dX8_keepToken_14 : decode cX8_keepToken 14 = .ok (.if_icmp .ge 52, 3) := dz_162 (n := 0) (r := 14) hz_X8_keepToken_0 rfl (by decide +kernel)
theorem dX8_keepToken_17 : decode cX8_keepToken 17 = .ok (.aload_n 0, 1) := dz_42 (n := 0) (r := 17) hz_X8_keepToken_0 rfl
theorem dX8_keepToken_18 : decode cX8_keepToken 18 = .ok (.getfield 15, 3) := dz_180 (n := 0) (r := 18) hz_X8_keepToken_0 rfl rfl
theorem dX8_keepToken_21 : decode cX8_keepToken 21 = .ok (.aload_n 0, 1) := dz_42 (n := 0) (r := 21) hz_X8_keepToken_0 rfl
theorem dX8_keepToken_22 : decode cX8_keepToken 22 = .ok (.getfield 29, 3) := dz_180 (n := 0) (r := 22) hz_X8_keepToken_0 rfl rfl
theorem dX8_keepToken_25 : decode cX8_keepToken 25 = .ok (.aload_n 0, 1) := dz_42 (n := 0) (r := 25) hz_X8_keepToken_0 rfl
theorem dX8_keepToken_26 : decode cX8_keepToken 26 = .ok (.getfield 39, 3) := dz_180 (n := 0) (r := 26) hz_X8_keepToken_0 rfl rfl
theorem dX8_keepToken_29 : decode cX8_keepToken 29 = .ok (.iastore, 1) := dz_79 (n := 0) (r := 29) hz_X8_keepToken_0 rfl
theorem dX8_keepToken_30 : decode cX8_keepToken 30 = .ok (.aload_n 0, 1) := dz_42 (n := 0) (r := 30) hz_X8_keepToken_0 rfl
theorem dX8_keepToken_31 : decode cX8_keepToken 31 = .ok (.getfield 19, 3) := dz_180 (n := 0) (r := 31) hz_X8_keepToken_0 rfl rfl
theorem hz_X8_keepToken_32 : (cX8_keepToken.data.toList.drop 32).take 40 = [0, 19, 42, 180, 0, 29, 42, 180, 0, 49, 79, 42, 180, 0, 22, 42, 180, 0, 29, 42, 180, 0, 52, 79, 42, 89, 180, 0, 29, 4, 96, 181, 0, 29, 177] := by decide +kernel
theorem dX8_keepToken_34 : decode cX8_keepToken 34 = .ok (.aload_n 0, 1) := dz_42 (n := 32) (r := 2) hz_X8_keepToken_32 rfl
theorem dX8_keepToken_35 : decode cX8_keepToken 35 = .ok (.getfield 29, 3) := dz_180 (n := 32) (r := 3) hz_X8_keepToken_32 rfl rfl
theorem dX8_keepToken_38 : decode cX8_keepToken 38 = .ok (.aload_n 0, 1) := dz_42 (n := 32) (r := 6) hz_X8_keepToken_32 rfl
theorem dX8_keepToken_39 : decode cX8_keepToken 39 = .ok (.getfield 49, 3) := dz_180 (n := 32) (r := 7) hz_X8_keepToken_32 rfl rfl
theorem dX8_keepToken_42 : decode cX8_keepToken 42 = .ok (.iastore, 1) := dz_79 (n := 32) (r := 10) hz_X8_keepToken_32 rfl
theorem dX8_keepToken_43 : decode cX8_keepToken 43 = .ok (.aload_n 0, 1) := dz_42 (n := 32) (r := 11) hz_X8_keepToken_32 rfl
theorem dX8_keepToken_44 : decode cX8_keepToken 44 = .ok (.getfield 22, 3) := dz_180 (n := 32) (r := 12) hz_X8_keepToken_32 rfl rfl
theorem dX8_keepToken_47 : decode cX8_keepToken 47 = .ok (.aload_n 0, 1) := dz_42 (n := 32) (r := 15) hz_X8_keepToken_32 rfl
theorem dX8_keepToken_48 : decode cX8_keepToken 48 = .ok (.getfield 29, 3) := dz_180 (n := 32) (r := 16) hz_X8_keepToken_32 rfl rfl
theorem dX8_keepToken_51 : decode cX8_keepToken 51 = .ok (.aload_n 0, 1) := dz_42 (n := 32) (r := 19) hz_X8_keepToken_32 rfl
theorem dX8_keepToken_52 : decode cX8_keepToken 52 = .ok (.getfield 52, 3) := dz_180 (n := 32) (r := 20) hz_X8_keepToken_32 rfl rfl
theorem dX8_keepToken_55 : decode cX8_keepToken 55 = .ok (.iastore, 1) := dz_79 (n := 32) (r := 23) hz_X8_keepToken_32 rfl
theorem dX8_keepToken_56 : decode cX8_keepToken 56 = .ok (.aload_n 0, 1) := dz_42 (n := 32) (r := 24) hz_X8_keepToken_32 rfl
theorem dX8_keepToken_57 : decode cX8_keepToken 57 = .ok (.dup, 1) := dz_89 (n := 32) (r := 25) hz_X8_keepToken_32 rfl
theorem dX8_keepToken_58 : decode cX8_keepToken 58 = .ok (.getfield 29, 3) := dz_180 (n := 32) (r := 26) hz_X8_keepToken_32 rfl rfl
theorem dX8_keepToken_61 : decode cX8_keepToken 61 = .ok (.iconst 1, 1) := dz_4 (n := 32) (r := 29) hz_X8_keepToken_32 rfl
theorem dX8_keepToken_62 : decode cX8_keepToken 62 = .ok (.iadd, 1) := dz_96 (n := 32) (r := 30) hz_X8_keepToken_32 rfl
theorem dX8_keepToken_63 : decode cX8_keepToken 63 = .ok (.putfield 29, 3) := dz_181 (n := 32) (r := 31) hz_X8_keepToken_32 rfl rfl
theorem hz_X8_keepToken_64 : (cX8_keepToken.data.toList.drop 64).take 40 = [0, 29, 177] := by decide +kernel
theorem dX8_keepToken_66 : decode cX8_keepToken 66 = .ok (.return_, 1) := dz_177 (n := 64) (r := 2) hz_X8_keepToken_64 rfl
theorem hz_X8_kindAt_0 : (cX8_kindAt.data.toList.drop 0).take 40 = [27, 155, 0, 29, 27, 42, 180, 0, 29, 162, 0, 21, 27, 42, 180, 0, 15, 190, 162, 0, 12, 42, 180, 0, 15, 27, 46, 167, 0, 4, 3, 172] := by decide +kernel
theorem dX8_kindAt_0 : decode cX8_kindAt 0 = .ok (.iload_n 1, 1) := dz_27 (n := 0) (r := 0) hz_X8_kindAt_0 rfl
theorem dX8_kindAt_1 : decode cX8_kindAt 1 = .ok (.ifCond .lt 29, 3) := dz_155 (n := 0) (r := 1) hz_X8_kindAt_0 rfl (by decide +kernel)
theorem dX8_kindAt_4 : decode cX8_kindAt 4 = .ok (.iload_n 1, 1) := dz_27 (n := 0) (r := 4) hz_X8_kindAt_0 rfl
theorem dX8_kindAt_5 : decode cX8_kindAt 5 = .ok (.aload_n 0, 1) := dz_42 (n := 0) (r := 5) hz_X8_kindAt_0 rfl
theorem dX8_kindAt_6 : decode cX8_kindAt 6 = .ok (.getfield 29, 3) := dz_180 (n := 0) (r := 6) hz_X8_kindAt_0 rfl rfl
theorem dX8_kindAt_9 : decode cX8_kindAt 9 = .ok (.if_icmp .ge 21, 3) := dz_162 (n := 0) (r := 9) hz_X8_kindAt_0 rfl (by decide +kernel)
theorem dX8_kindAt_12 : decode cX8_kindAt 12 = .ok (.iload_n 1, 1) := dz_27 (n := 0) (r := 12) hz_X8_kindAt_0 rfl
theorem dX8_kindAt_13 : decode cX8_kindAt 13 = .ok (.aload_n 0, 1) := dz_42 (n := 0) (r := 13) hz_X8_kindAt_0 rfl
theorem dX8_kindAt_14 : decode cX8_kindAt 14 = .ok (.getfield 15, 3) := dz_180 (n := 0) (r := 14) hz_X8_kindAt_0 rfl rfl
theorem dX8_kindAt_17 : decode cX8_kindAt 17 = .ok (.arraylength, 1) := dz_190 (n := 0) (r := 17) hz_X8_kindAt_0 rfl
theorem dX8_kindAt_18 : decode cX8_kindAt 18 = .ok (.if_icmp .ge 12, 3) := dz_162 (n := 0) (r := 18) hz_X8_kindAt_0 rfl (by decide +kernel)
theorem dX8_kindAt_21 : decode cX8_kindAt 21 = .ok (.aload_n 0, 1) := dz_42 (n := 0) (r := 21) hz_X8_kindAt_0 rfl
theorem dX8_kindAt_22 : decode cX8_kindAt 22 = .ok (.getfield 15, 3) := dz_180 (n := 0) (r := 22) hz_X8_kindAt_0 rfl rfl
theorem dX8_kindAt_25 : decode cX8_kindAt 25 = .ok (.iload_n 1, 1) := dz_27 (n := 0) (r := 25) hz_X8_kindAt_0 rfl
theorem dX8_kindAt_26 : decode cX8_kindAt 26 = .ok (.iaload, 1) := dz_46 (n := 0) (r := 26) hz_X8_kindAt_0 rfl
theorem dX8_kindAt_27 : decode cX8_kindAt 27 = .ok (.goto 4, 3) := dz_167 (n := 0) (r := 27) hz_X8_kindAt_0 rfl (by decide +kernel)
theorem dX8_kindAt_30 : decode cX8_kindAt 30 = .ok (.iconst 0, 1) := dz_3 (n := 0) (r := 30) hz_X8_kindAt_0 rfl
theorem dX8_kindAt_31 : decode cX8_kindAt 31 = .ok (.ireturn, 1) := dz_172 (n := 0) (r := 31) hz_X8_kindAt_0 rfl
theorem hz_X8_numberAt_0 : (cX8_numberAt.data.toList.drop 0).take 40 = [27, 155, 0, 29, 27, 42, 180, 0, 29, 162, 0, 21, 27, 42, 180, 0, 19, 190, 162, 0, 12, 42, 180, 0, 19, 27, 46, 167, 0, 4, 3, 172] := by decide +kernel
theorem dX8_numberAt_0 : decode cX8_numberAt 0 = .ok (.iload_n 1, 1) := dz_27 (n := 0) (r := 0) hz_X8_numberAt_0 rfl
theorem dX8_numberAt_1 : decode cX8_numberAt 1 = .ok (.ifCond .lt 29, 3) := dz_155 (n := 0) (r := 1) hz_X8_numberAt_0 rfl (by decide +kernel)
theorem dX8_numberAt_4 : decode cX8_numberAt 4 = .ok (.iload_n 1, 1) := dz_27 (n := 0) (r := 4) hz_X8_numberAt_0 rfl
theorem dX8_numberAt_5 : decode cX8_numberAt 5 = .ok (.aload_n 0, 1) := dz_42 (n := 0) (r := 5) hz_X8_numberAt_0 rfl
theorem dX8_numberAt_6 : decode cX8_numberAt 6 = .ok (.getfield 29, 3) := dz_180 (n := 0) (r := 6) hz_X8_numberAt_0 rfl rfl
theorem dX8_numberAt_9 : decode cX8_numberAt 9 = .ok (.if_icmp .ge 21, 3) := dz_162 (n := 0) (r := 9) hz_X8_numberAt_0 rfl (by decide +kernel)
theorem dX8_numberAt_12 : decode cX8_numberAt 12 = .ok (.iload_n 1, 1) := dz_27 (n := 0) (r := 12) hz_X8_numberAt_0 rfl
theorem dX8_numberAt_13 : decode cX8_numberAt 13 = .ok (.aload_n 0, 1) := dz_42 (n := 0) (r := 13) hz_X8_numberAt_0 rfl
theorem dX8_numberAt_14 : decode cX8_numberAt 14 = .ok (.getfield 19, 3) := dz_180 (n := 0) (r := 14) hz_X8_numberAt_0 rfl rfl
theorem dX8_numberAt_17 : decode cX8_numberAt 17 = .ok (.arraylength, 1) := dz_190 (n := 0) (r := 17) hz_X8_numberAt_0 rfl
theorem dX8_numberAt_18 : decode cX8_numberAt 18 = .ok (.if_icmp .ge 12, 3) := dz_162 (n := 0) (r := 18) hz_X8_numberAt_0 rfl (by decide +kernel)
theorem dX8_numberAt_21 : decode cX8_numberAt 21 = .ok (.aload_n 0, 1) := dz_42 (n := 0) (r := 21) hz_X8_numberAt_0 rfl
theorem dX8_numberAt_22 : decode cX8_numberAt 22 = .ok (.getfield 19, 3) := dz_180 (n := 0) (r := 22) hz_X8_numberAt_0 rfl rfl
theorem dX8_numberAt_25 : decode cX8_numberAt 25 = .ok (.iload_n 1, 1) := dz_27 (n := 0) (r := 25) hz_X8_numberAt_0 rfl
theorem dX8_numberAt_26 : decode cX8_numberAt 26 = .ok (.iaload, 1) := dz_46 (n := 0) (r := 26) hz_X8_numberAt_0 rfl
theorem dX8_numberAt_27 : decode cX8_numberAt 27 = .ok (.goto 4, 3) := dz_167 (n := 0) (r := 27) hz_X8_numberAt_0 rfl (by decide +kernel)
theorem dX8_numberAt_30 : decode cX8_numberAt 30 = .ok (.iconst 0, 1) := dz_3 (n := 0) (r := 30) hz_X8_numberAt_0 rfl
theorem dX8_numberAt_31 : decode cX8_numberAt 31 = .ok (.ireturn, 1) := dz_172 (n := 0) (r := 31) hz_X8_numberAt_0 rfl
theorem hz_X8_placeAt_0 : (cX8_placeAt.data.toList.drop 0).take 40 = [27, 155, 0, 29, 27, 42, 180, 0, 29, 162, 0, 21, 27, 42, 180, 0, 22, 190, 162, 0, 12, 42, 180, 0, 22, 27, 46, 167, 0, 4, 2, 172] := by decide +kernel
theorem dX8_placeAt_0 : decode cX8_placeAt 0 = .ok (.iload_n 1, 1) := dz_27 (n := 0) (r := 0) hz_X8_placeAt_0 rfl
theorem dX8_placeAt_1 : decode cX8_placeAt 1 = .ok (.ifCond .lt 29, 3) := dz_155 (n := 0) (r := 1) hz_X8_placeAt_0 rfl (by decide +kernel)
theorem dX8_placeAt_4 : decode cX8_placeAt 4 = .ok (.iload_n 1, 1) := dz_27 (n := 0) (r := 4) hz_X8_placeAt_0 rfl
theorem dX8_placeAt_5 : decode cX8_placeAt 5 = .ok (.aload_n 0, 1) := dz_42 (n := 0) (r := 5) hz_X8_placeAt_0 rfl
theorem dX8_placeAt_6 : decode cX8_placeAt 6 = .ok (.getfield 29, 3) := dz_180 (n := 0) (r := 6) hz_X8_placeAt_0 rfl rfl
theorem dX8_placeAt_9 : decode cX8_placeAt 9 = .ok (.if_icmp .ge 21, 3) := dz_162 (n := 0) (r := 9) hz_X8_placeAt_0 rfl (by decide +kernel)
theorem dX8_placeAt_12 : decode cX8_placeAt 12 = .ok (.iload_n 1, 1) := dz_27 (n := 0) (r := 12) hz_X8_placeAt_0 rfl
theorem dX8_placeAt_13 : decode cX8_placeAt 13 = .ok (.aload_n 0, 1) := dz_42 (n := 0) (r := 13) hz_X8_placeAt_0 rfl
theorem dX8_placeAt_14 : decode cX8_placeAt 14 = .ok (.getfield 22, 3) := dz_180 (n := 0) (r := 14) hz_X8_placeAt_0 rfl rfl
theorem dX8_placeAt_17 : decode cX8_placeAt 17 = .ok (.arraylength, 1) := dz_190 (n := 0) (r := 17) hz_X8_placeAt_0 rfl
theorem dX8_placeAt_18 : decode cX8_placeAt 18 = .ok (.if_icmp .ge 12, 3) := dz_162 (n := 0) (r := 18) hz_X8_placeAt_0 rfl (by decide +kernel)
theorem dX8_placeAt_21 : decode cX8_placeAt 21 = .ok (.aload_n 0, 1) := dz_42 (n := 0) (r := 21) hz_X8_placeAt_0 rfl
theorem dX8_placeAt_22 : decode cX8_placeAt 22 = .ok (.getfield 22, 3) := dz_180 (n := 0) (r := 22) hz_X8_placeAt_0 rfl rfl
theorem dX8_placeAt_25 : decode cX8_placeAt 25 = .ok (.iload_n 1, 1) := dz_27 (n := 0) (r := 25) hz_X8_placeAt_0 rfl
theorem dX8_placeAt_26 : decode cX8_placeAt 26 = .ok (.iaload, 1) := dz_46 (n := 0) (r := 26) hz_X8_placeAt_0 rfl
theorem dX8_placeAt_27 : decode cX8_placeAt 27 = .ok (.goto 4, 3) := dz_167 (n := 0) (r := 27) hz_X8_placeAt_0 rfl (by decide +kernel)
theorem dX8_placeAt_30 : decode cX8_placeAt 30 = .ok (.iconst (-1), 1) := dz_2 (n := 0) (r := 30) hz_X8_placeAt_0 rfl
theorem dX8_placeAt_31 : decode cX8_placeAt 31 = .ok (.ireturn, 1) := dz_172 (n := 0) (r := 31) hz_X8_placeAt_0 rfl
theorem hz_X8_findToken_0 : (cX8_findToken.data.toList.drop 0).take 40 = [42, 27, 181, 0, 52, 42, 180, 0, 52, 42, 180, 0, 25, 162, 0, 30, 42, 42, 180, 0, 52, 182, 0, 55, 184, 0, 59, 153, 0, 16, 42, 89, 180, 0, 52, 4, 96, 181, 0, 52] := by decide +kernel
theorem dX8_findToken_0 : decode cX8_findToken 0 = .ok (.aload_n 0, 1) := dz_42 (n := 0) (r := 0) hz_X8_findToken_0 rfl
theorem dX8_findToken_1 : decode cX8_findToken 1 = .ok (.iload_n 1, 1) := dz_27 (n := 0) (r := 1) hz_X8_findToken_0 rfl
theorem dX8_findToken_2 : decode cX8_findToken 2 = .ok (.putfield 52, 3) := dz_181 (n := 0) (r := 2) hz_X8_findToken_0 rfl rfl
theorem dX8_findToken_5 : decode cX8_findToken 5 = .ok (.aload_n 0, 1) := dz_42 (n := 0) (r := 5) hz_X8_findToken_0 rfl
theorem dX8_findToken_6 : decode cX8_findToken 6 = .ok (.getfield 52, 3) := dz_180 (n := 0) (r := 6) hz_X8_findToken_0 rfl rfl
theorem dX8_findToken_9 : decode cX8_findToken 9 = .ok (.aload_n 0, 1) := dz_42 (n := 0) (r := 9) hz_X8_findToken_0 rfl
theorem dX8_findToken_10 : decode cX8_findToken 10 = .ok (.getfield 25, 3) := dz_180 (n := 0) (r := 10) hz_X8_findToken_0 rfl rfl
theorem dX8_findToken_13 : decode cX8_findToken 13 = .ok (.if_icmp .ge 30, 3) := dz_162 (n := 0) (r := 13) hz_X8_findToken_0 rfl (by decide +kernel)
theorem dX8_findToken_16 : decode cX8_findToken 16 = .ok (.aload_n 0, 1) := dz_42 (n := 0) (r := 16) hz_X8_findToken_0 rfl
theorem dX8_findToken_17 : decode cX8_findToken 17 = .ok (.aload_n 0, 1) := dz_42 (n := 0) (r := 17) hz_X8_findToken_0 rfl
theorem dX8_findToken_18 : decode cX8_findToken 18 = .ok (.getfield 52, 3) := dz_180 (n := 0) (r := 18) hz_X8_findToken_0 rfl rfl
theorem dX8_findToken_21 : decode cX8_findToken 21 = .ok (.invokevirtual 55, 3) := dz_182 (n := 0) (r := 21) hz_X8_findToken_0 rfl rfl
theorem dX8_findToken_24 : decode cX8_findToken 24 = .ok (.invokestatic 59, 3) := dz_184 (n := 0) (r := 24) hz_X8_findToken_0 rfl rfl
theorem dX8_findToken_27 : decode cX8_findToken 27 = .ok (.ifCond .eq 16, 3) := dz_153 (n := 0) (r := 27) hz_X8_findToken_0 rfl (by decide +kernel)
theorem dX8_findToken_30 : decode cX8_findToken 30 = .ok (.aload_n 0, 1) := dz_42 (n := 0) (r := 30) hz_X8_findToken_0 rfl
theorem dX8_findToken_31 : decode cX8_findToken 31 = .ok (.dup, 1) := dz_89 (n := 0) (r := 31) hz_X8_findToken_0 rfl
theorem hz_X8_findToken_32 : (cX8_findToken.data.toList.drop 32).take 40 = [180, 0, 52, 4, 96, 181, 0, 52, 167, 255, 221, 42, 42, 180, 0, 52, 182, 0, 55, 61, 42, 42, 180, 0, 52, 4, 96, 181, 0, 32, 42, 180, 0, 52, 42, 180, 0, 25, 161, 0] := by decide +kernel
theorem dX8_findToken_32 : decode cX8_findToken 32 = .ok (.getfield 52, 3) := dz_180 (n := 32) (r := 0) hz_X8_findToken_32 rfl rfl
theorem dX8_findToken_35 : decode cX8_findToken 35 = .ok (.iconst 1, 1) := dz_4 (n := 32) (r := 3) hz_X8_findToken_32 rfl
theorem dX8_findToken_36 : decode cX8_findToken 36 = .ok (.iadd, 1) := dz_96 (n := 32) (r := 4) hz_X8_findToken_32 rfl
theorem dX8_findToken_37 : decode cX8_findToken 37 = .ok (.putfield 52, 3) := dz_181 (n := 32) (r := 5) hz_X8_findToken_32 rfl rfl
theorem dX8_findToken_40 : decode cX8_findToken 40 = .ok (.goto (-35), 3) := dz_167 (n := 32) (r := 8) hz_X8_findToken_32 rfl (by decide +kernel)
theorem dX8_findToken_43 : decode cX8_findToken 43 = .ok (.aload_n 0, 1) := dz_42 (n := 32) (r := 11) hz_X8_findToken_32 rfl
theorem dX8_findToken_44 : decode cX8_findToken 44 = .ok (.aload_n 0, 1) := dz_42 (n := 32) (r := 12) hz_X8_findToken_32 rfl
theorem dX8_findToken_45 : decode cX8_findToken 45 = .ok (.getfield 52, 3) := dz_180 (n := 32) (r := 13) hz_X8_findToken_32 rfl rfl
theorem dX8_findToken_48 : decode cX8_findToken 48 = .ok (.invokevirtual 55, 3) := dz_182 (n := 32) (r := 16) hz_X8_findToken_32 rfl rfl
theorem dX8_findToken_51 : decode cX8_findToken 51 = .ok (.istore_n 2, 1) := dz_61 (n := 32) (r := 19) hz_X8_findToken_32 rfl
theorem dX8_findToken_52 : decode cX8_findToken 52 = .ok (.aload_n 0, 1) := dz_42 (n := 32) (r := 20) hz_X8_findToken_32 rfl
theorem dX8_findToken_53 : decode cX8_findToken 53 = .ok (.aload_n 0, 1) := dz_42 (n := 32) (r := 21) hz_X8_findToken_32 rfl
theorem dX8_findToken_54 : decode cX8_findToken 54 = .ok (.getfield 52, 3) := dz_180 (n := 32) (r := 22) hz_X8_findToken_32 rfl rfl
theorem dX8_findToken_57 : decode cX8_findToken 57 = .ok (.iconst 1, 1) := dz_4 (n := 32) (r := 25) hz_X8_findToken_32 rfl
theorem dX8_findToken_58 : decode cX8_findToken 58 = .ok (.iadd, 1) := dz_96 (n := 32) (r := 26) hz_X8_findToken_32 rfl
theorem dX8_findToken_59 : decode cX8_findToken 59 = .ok (.putfield 32, 3) := dz_181 (n := 32) (r := 27) hz_X8_findToken_32 rfl rfl
theorem dX8_findToken_62 : decode cX8_findToken 62 = .ok (.aload_n 0, 1) := dz_42 (n := 32) (r := 30) hz_X8_findToken_32 rfl
theorem dX8_findToken_63 : decode cX8_findToken 63 = .ok (.getfield 52, 3) := dz_180 (n := 32) (r := 31) hz_X8_findToken_32 rfl rfl
theorem hz_X8_findToken_64 : (cX8_findToken.data.toList.drop 64).take 40 = [0, 52, 42, 180, 0, 25, 161, 0, 19, 42, 42, 180, 0, 25, 181, 0, 32, 42, 3, 181, 0, 39, 167, 0, 64, 28, 184, 0, 63, 153, 0, 18, 42, 182, 0, 66, 42, 42, 182, 0] := by decide +kernel
theorem dX8_findToken_66 : decode cX8_findToken 66 = .ok (.aload_n 0, 1) := dz_42 (n := 64) (r := 2) hz_X8_findToken_64 rfl
theorem dX8_findToken_67 : decode cX8_findToken 67 = .ok (.getfield 25, 3) := dz_180 (n := 64) (r := 3) hz_X8_findToken_64 rfl rfl
theorem dX8_findToken_70 : decode cX8_findToken 70 = .ok (.if_icmp .lt 19, 3) := dz_161 (n := 64) (r := 6) hz_X8_findToken_64 rfl (by decide +kernel)
theorem dX8_findToken_73 : decode cX8_findToken 73 = .ok (.aload_n 0, 1) := dz_42 (n := 64) (r := 9) hz_X8_findToken_64 rfl
theorem dX8_findToken_74 : decode cX8_findToken 74 = .ok (.aload_n 0, 1) := dz_42 (n := 64) (r := 10) hz_X8_findToken_64 rfl
theorem dX8_findToken_75 : decode cX8_findToken 75 = .ok (.getfield 25, 3) := dz_180 (n := 64) (r := 11) hz_X8_findToken_64 rfl rfl
theorem dX8_findToken_78 : decode cX8_findToken 78 = .ok (.putfield 32, 3) := dz_181 (n := 64) (r := 14) hz_X8_findToken_64 rfl rfl
theorem dX8_findToken_81 : decode cX8_findToken 81 = .ok (.aload_n 0, 1) := dz_42 (n := 64) (r := 17) hz_X8_findToken_64 rfl
theorem dX8_findToken_82 : decode cX8_findToken 82 = .ok (.iconst 0, 1) := dz_3 (n := 64) (r := 18) hz_X8_findToken_64 rfl
theorem dX8_findToken_83 : decode cX8_findToken 83 = .ok (.putfield 39, 3) := dz_181 (n := 64) (r := 19) hz_X8_findToken_64 rfl rfl
theorem dX8_findToken_86 : decode cX8_findToken 86 = .ok (.goto 64, 3) := dz_167 (n := 64) (r := 22) hz_X8_findToken_64 rfl (by decide +kernel)
theorem dX8_findToken_89 : decode cX8_findToken 89 = .ok (.iload_n 2, 1) := dz_28 (n := 64) (r := 25) hz_X8_findToken_64 rfl
theorem dX8_findToken_90 : decode cX8_findToken 90 = .ok (.invokestatic 63, 3) := dz_184 (n := 64) (r := 26) hz_X8_findToken_64 rfl rfl
theorem dX8_findToken_93 : decode cX8_findToken 93 = .ok (.ifCond .eq 18, 3) := dz_153 (n := 64) (r := 29) hz_X8_findToken_64 rfl (by decide +kernel)
theorem hz_X8_findToken_96 : (cX8_findToken.data.toList.drop 96).take 40 = [42, 182, 0, 66, 42, 42, 182, 0, 69, 181, 0, 39, 167, 0, 42, 28, 184, 0, 73, 153, 0, 10, 42, 182, 0, 76, 167, 0, 28, 42, 28, 16, 45, 160, 0, 7, 6, 167, 0, 14] := by decide +kernel
theorem dX8_findToken_96 : decode cX8_findToken 96 = .ok (.aload_n 0, 1) := dz_42 (n := 96) (r := 0) hz_X8_findToken_96 rfl
theorem dX8_findToken_97 : decode cX8_findToken 97 = .ok (.invokevirtual 66, 3) := dz_182 (n := 96) (r := 1) hz_X8_findToken_96 rfl rfl
theorem dX8_findToken_100 : decode cX8_findToken 100 = .ok (.aload_n 0, 1) := dz_42 (n := 96) (r := 4) hz_X8_findToken_96 rfl
theorem dX8_findToken_101 : decode cX8_findToken 101 = .ok (.aload_n 0, 1) := dz_42 (n := 96) (r := 5) hz_X8_findToken_96 rfl
theorem dX8_findToken_102 : decode cX8_findToken 102 = .ok (.invokevirtual 69, 3) := dz_182 (n := 96) (r := 6) hz_X8_findToken_96 rfl rfl
theorem dX8_findToken_105 : decode cX8_findToken 105 = .ok (.putfield 39, 3) := dz_181 (n := 96) (r := 9) hz_X8_findToken_96 rfl rfl
theorem dX8_findToken_108 : decode cX8_findToken 108 = .ok (.goto 42, 3) := dz_167 (n := 96) (r := 12) hz_X8_findToken_96 rfl (by decide +kernel)
theorem dX8_findToken_111 : decode cX8_findToken 111 = .ok (.iload_n 2, 1) := dz_28 (n := 96) (r := 15) hz_X8_findToken_96 rfl
theorem dX8_findToken_112 : decode cX8_findToken 112 = .ok (.invokestatic 73, 3) := dz_184 (n := 96) (r := 16) hz_X8_findToken_96 rfl rfl
theorem dX8_findToken_115 : decode cX8_findToken 115 = .ok (.ifCond .eq 10, 3) := dz_153 (n := 96) (r := 19) hz_X8_findToken_96 rfl (by decide +kernel)
theorem dX8_findToken_118 : decode cX8_findToken 118 = .ok (.aload_n 0, 1) := dz_42 (n := 96) (r := 22) hz_X8_findToken_96 rfl
theorem dX8_findToken_119 : decode cX8_findToken 119 = .ok (.invokevirtual 76, 3) := dz_182 (n := 96) (r := 23) hz_X8_findToken_96 rfl rfl
theorem dX8_findToken_122 : decode cX8_findToken 122 = .ok (.goto 28, 3) := dz_167 (n := 96) (r := 26) hz_X8_findToken_96 rfl (by decide +kernel)
theorem dX8_findToken_125 : decode cX8_findToken 125 = .ok (.aload_n 0, 1) := dz_42 (n := 96) (r := 29) hz_X8_findToken_96 rfl
theorem dX8_findToken_126 : decode cX8_findToken 126 = .ok (.iload_n 2, 1) := dz_28 (n := 96) (r := 30) hz_X8_findToken_96 rfl
theorem dX8_findToken_127 : decode cX8_findToken 127 = .ok (.bipush 45, 2) := dz_16 (n := 96) (r := 31) hz_X8_findToken_96 rfl rfl
theorem hz_X8_findToken_128 : (cX8_findToken.data.toList.drop 128).take 40 = [45, 160, 0, 7, 6, 167, 0, 14, 28, 16, 59, 160, 0, 7, 7, 167, 0, 4, 4, 181, 0, 39, 177] := by decide +kernel
theorem dX8_findToken_129 : decode cX8_findToken 129 = .ok (.if_icmp .ne 7, 3) := dz_160 (n := 128) (r := 1) hz_X8_findToken_128 rfl (by decide +kernel)
theorem dX8_findToken_132 : decode cX8_findToken 132 = .ok (.iconst 3, 1) := dz_6 (n := 128) (r := 4) hz_X8_findToken_128 rfl
theorem dX8_findToken_133 : decode cX8_findToken 133 = .ok (.goto 14, 3) := dz_167 (n := 128) (r := 5) hz_X8_findToken_128 rfl (by decide +kernel)
theorem dX8_findToken_136 : decode cX8_findToken 136 = .ok (.iload_n 2, 1) := dz_28 (n := 128) (r := 8) hz_X8_findToken_128 rfl
theorem dX8_findToken_137 : decode cX8_findToken 137 = .ok (.bipush 59, 2) := dz_16 (n := 128) (r := 9) hz_X8_findToken_128 rfl rfl
theorem dX8_findToken_139 : decode cX8_findToken 139 = .ok (.if_icmp .ne 7, 3) := dz_160 (n := 128) (r := 11) hz_X8_findToken_128 rfl (by decide +kernel)
theorem dX8_findToken_142 : decode cX8_findToken 142 = .ok (.iconst 4, 1) := dz_7 (n := 128) (r := 14) hz_X8_findToken_128 rfl
theorem dX8_findToken_143 : decode cX8_findToken 143 = .ok (.goto 4, 3) := dz_167 (n := 128) (r := 15) hz_X8_findToken_128 rfl (by decide +kernel)
theorem dX8_findToken_146 : decode cX8_findToken 146 = .ok (.iconst 1, 1) := dz_4 (n := 128) (r := 18) hz_X8_findToken_128 rfl
theorem dX8_findToken_147 : decode cX8_findToken 147 = .ok (.putfield 39, 3) := dz_181 (n := 128) (r := 19) hz_X8_findToken_128 rfl rfl
theorem dX8_findToken_150 : decode cX8_findToken 150 = .ok (.return_, 1) := dz_177 (n := 128) (r := 22) hz_X8_findToken_128 rfl
theorem hz_X8_skipLetters_0 : (cX8_skipLetters.data.toList.drop 0).take 40 = [42, 180, 0, 32, 42, 180, 0, 25, 162, 0, 30, 42, 42, 180, 0, 32, 182, 0, 55, 184, 0, 63, 153, 0, 16, 42, 89, 180, 0, 32, 4, 96, 181, 0, 32, 167, 255, 221, 177] := by decide +kernel
theorem dX8_skipLetters_0 : decode cX8_skipLetters 0 = .ok (.aload_n 0, 1) := dz_42 (n := 0) (r := 0) hz_X8_skipLetters_0 rfl
theorem dX8_skipLetters_1 : decode cX8_skipLetters 1 = .ok (.getfield 32, 3) := dz_180 (n := 0) (r := 1) hz_X8_skipLetters_0 rfl rfl
theorem dX8_skipLetters_4 : decode cX8_skipLetters 4 = .ok (.aload_n 0, 1) := dz_42 (n := 0) (r := 4) hz_X8_skipLetters_0 rfl
theorem dX8_skipLetters_5 : decode cX8_skipLetters 5 = .ok (.getfield 25, 3) := dz_180 (n := 0) (r := 5) hz_X8_skipLetters_0 rfl rfl
theorem dX8_skipLetters_8 : decode cX8_skipLetters 8 = .ok (.if_icmp .ge 30, 3) := dz_162 (n := 0) (r := 8) hz_X8_skipLetters_0 rfl (by decide +kernel)
theorem dX8_skipLetters_11 : decode cX8_skipLetters 11 = .ok (.aload_n 0, 1) := dz_42 (n := 0) (r := 11) hz_X8_skipLetters_0 rfl
theorem dX8_skipLetters_12 : decode cX8_skipLetters 12 = .ok (.aload_n 0, 1) := dz_42 (n := 0) (r := 12) hz_X8_skipLetters_0 rfl
theorem dX8_skipLetters_13 : decode cX8_skipLetters 13 = .ok (.getfield 32, 3) := dz_180 (n := 0) (r := 13) hz_X8_skipLetters_0 rfl rfl
theorem dX8_skipLetters_16 : decode cX8_skipLetters 16 = .ok (.invokevirtual 55, 3) := dz_182 (n := 0) (r := 16) hz_X8_skipLetters_0 rfl rfl
theorem dX8_skipLetters_19 : decode cX8_skipLetters 19 = .ok (.invokestatic 63, 3) := dz_184 (n := 0) (r := 19) hz_X8_skipLetters_0 rfl rfl
theorem dX8_skipLetters_22 : decode cX8_skipLetters 22 = .ok (.ifCond .eq 16, 3) := dz_153 (n := 0) (r := 22) hz_X8_skipLetters_0 rfl (by decide +kernel)
theorem dX8_skipLetters_25 : decode cX8_skipLetters 25 = .ok (.aload_n 0, 1) := dz_42 (n := 0) (r := 25) hz_X8_skipLetters_0 rfl
theorem dX8_skipLetters_26 : decode cX8_skipLetters 26 = .ok (.dup, 1) := dz_89 (n := 0) (r := 26) hz_X8_skipLetters_0 rfl
theorem dX8_skipLetters_27 : decode cX8_skipLetters 27 = .ok (.getfield 32, 3) := dz_180 (n := 0) (r := 27) hz_X8_skipLetters_0 rfl rfl
theorem dX8_skipLetters_30 : decode cX8_skipLetters 30 = .ok (.iconst 1, 1) := dz_4 (n := 0) (r := 30) hz_X8_skipLetters_0 rfl
theorem dX8_skipLetters_31 : decode cX8_skipLetters 31 = .ok (.iadd, 1) := dz_96 (n := 0) (r := 31) hz_X8_skipLetters_0 rfl
theorem hz_X8_skipLetters_32 : (cX8_skipLetters.data.toList.drop 32).take 40 = [181, 0, 32, 167, 255, 221, 177] := by decide +kernel
theorem dX8_skipLetters_32 : decode cX8_skipLetters 32 = .ok (.putfield 32, 3) := dz_181 (n := 32) (r := 0) hz_X8_skipLetters_32 rfl rfl
theorem dX8_skipLetters_35 : decode cX8_skipLetters 35 = .ok (.goto (-35), 3) := dz_167 (n := 32) (r := 3) hz_X8_skipLetters_32 rfl (by decide +kernel)
theorem dX8_skipLetters_38 : decode cX8_skipLetters 38 = .ok (.return_, 1) := dz_177 (n := 32) (r := 6) hz_X8_skipLetters_32 rfl
theorem hz_X8_findInt_0 : (cX8_findInt.data.toList.drop 0).take 40 = [42, 180, 0, 32, 42, 180, 0, 25, 162, 0, 30, 42, 42, 180, 0, 32, 182, 0, 55, 184, 0, 73, 153, 0, 16, 42, 89, 180, 0, 32, 4, 96, 181, 0, 32, 167, 255, 221, 42, 42] := by decide +kernel
theorem dX8_findInt_0 : decode cX8_findInt 0 = .ok (.aload_n 0, 1) := dz_42 (n := 0) (r := 0) hz_X8_findInt_0 rfl
theorem dX8_findInt_1 : decode cX8_findInt 1 = .ok (.getfield 32, 3) := dz_180 (n := 0) (r := 1) hz_X8_findInt_0 rfl rfl
theorem dX8_findInt_4 : decode cX8_findInt 4 = .ok (.aload_n 0, 1) := dz_42 (n := 0) (r := 4) hz_X8_findInt_0 rfl
theorem dX8_findInt_5 : decode cX8_findInt 5 = .ok (.getfield 25, 3) := dz_180 (n := 0) (r := 5) hz_X8_findInt_0 rfl rfl
theorem dX8_findInt_8 : decode cX8_findInt 8 = .ok (.if_icmp .ge 30, 3) := dz_162 (n := 0) (r := 8) hz_X8_findInt_0 rfl (by decide +kernel)
theorem dX8_findInt_11 : decode cX8_findInt 11 = .ok (.aload_n 0, 1) := dz_42 (n := 0) (r := 11) hz_X8_findInt_0 rfl
theorem dX8_findInt_12 : decode cX8_findInt 12 = .ok (.aload_n 0, 1) := dz_42 (n := 0) (r := 12) hz_X8_findInt_0 rfl
theorem dX8_findInt_13 : decode cX8_findInt 13 = .ok (.getfield 32, 3) := dz_180 (n := 0) (r := 13) hz_X8_findInt_0 rfl rfl
theorem dX8_findInt_16 : decode cX8_findInt 16 = .ok (.invokevirtual 55, 3) := dz_182 (n := 0) (r := 16) hz_X8_findInt_0 rfl rfl
theorem dX8_findInt_19 : decode cX8_findInt 19 = .ok (.invokestatic 73, 3) := dz_184 (n := 0) (r := 19) hz_X8_findInt_0 rfl rfl
theorem dX8_findInt_22 : decode cX8_findInt 22 = .ok (.ifCond .eq 16, 3) := dz_153 (n := 0) (r := 22) hz_X8_findInt_0 rfl (by decide +kernel)
theorem dX8_findInt_25 : decode cX8_findInt 25 = .ok (.aload_n 0, 1) := dz_42 (n := 0) (r := 25) hz_X8_findInt_0 rfl
theorem dX8_findInt_26 : decode cX8_findInt 26 = .ok (.dup, 1) := dz_89 (n := 0) (r := 26) hz_X8_findInt_0 rfl
theorem dX8_findInt_27 : decode cX8_findInt 27 = .ok (.getfield 32, 3) := dz_180 (n := 0) (r := 27) hz_X8_findInt_0 rfl rfl
theorem dX8_findInt_30 : decode cX8_findInt 30 = .ok (.iconst 1, 1) := dz_4 (n := 0) (r := 30) hz_X8_findInt_0 rfl
theorem dX8_findInt_31 : decode cX8_findInt 31 = .ok (.iadd, 1) := dz_96 (n := 0) (r := 31) hz_X8_findInt_0 rfl
theorem hz_X8_findInt_32 : (cX8_findInt.data.toList.drop 32).take 40 = [181, 0, 32, 167, 255, 221, 42, 42, 180, 0, 32, 42, 180, 0, 52, 100, 7, 163, 0, 7, 5, 167, 0, 4, 4, 181, 0, 39, 42, 3, 181, 0, 49, 42, 180, 0, 52, 60, 42, 180] := by decide +kernel
theorem dX8_findInt_32 : decode cX8_findInt 32 = .ok (.putfield 32, 3) := dz_181 (n := 32) (r := 0) hz_X8_findInt_32 rfl rfl
theorem dX8_findInt_35 : decode cX8_findInt 35 = .ok (.goto (-35), 3) := dz_167 (n := 32) (r := 3) hz_X8_findInt_32 rfl (by decide +kernel)
theorem dX8_findInt_38 : decode cX8_findInt 38 = .ok (.aload_n 0, 1) := dz_42 (n := 32) (r := 6) hz_X8_findInt_32 rfl
theorem dX8_findInt_39 : decode cX8_findInt 39 = .ok (.aload_n 0, 1) := dz_42 (n := 32) (r := 7) hz_X8_findInt_32 rfl
theorem dX8_findInt_40 : decode cX8_findInt 40 = .ok (.getfield 32, 3) := dz_180 (n := 32) (r := 8) hz_X8_findInt_32 rfl rfl
theorem dX8_findInt_43 : decode cX8_findInt 43 = .ok (.aload_n 0, 1) := dz_42 (n := 32) (r := 11) hz_X8_findInt_32 rfl
theorem dX8_findInt_44 : decode cX8_findInt 44 = .ok (.getfield 52, 3) := dz_180 (n := 32) (r := 12) hz_X8_findInt_32 rfl rfl
theorem dX8_findInt_47 : decode cX8_findInt 47 = .ok (.isub, 1) := dz_100 (n := 32) (r := 15) hz_X8_findInt_32 rfl
theorem dX8_findInt_48 : decode cX8_findInt 48 = .ok (.iconst 4, 1) := dz_7 (n := 32) (r := 16) hz_X8_findInt_32 rfl
theorem dX8_findInt_49 : decode cX8_findInt 49 = .ok (.if_icmp .gt 7, 3) := dz_163 (n := 32) (r := 17) hz_X8_findInt_32 rfl (by decide +kernel)
theorem dX8_findInt_52 : decode cX8_findInt 52 = .ok (.iconst 2, 1) := dz_5 (n := 32) (r := 20) hz_X8_findInt_32 rfl
theorem dX8_findInt_53 : decode cX8_findInt 53 = .ok (.goto 4, 3) := dz_167 (n := 32) (r := 21) hz_X8_findInt_32 rfl (by decide +kernel)
theorem dX8_findInt_56 : decode cX8_findInt 56 = .ok (.iconst 1, 1) := dz_4 (n := 32) (r := 24) hz_X8_findInt_32 rfl
theorem dX8_findInt_57 : decode cX8_findInt 57 = .ok (.putfield 39, 3) := dz_181 (n := 32) (r := 25) hz_X8_findInt_32 rfl rfl
theorem dX8_findInt_60 : decode cX8_findInt 60 = .ok (.aload_n 0, 1) := dz_42 (n := 32) (r := 28) hz_X8_findInt_32 rfl
theorem dX8_findInt_61 : decode cX8_findInt 61 = .ok (.iconst 0, 1) := dz_3 (n := 32) (r := 29) hz_X8_findInt_32 rfl
theorem dX8_findInt_62 : decode cX8_findInt 62 = .ok (.putfield 49, 3) := dz_181 (n := 32) (r := 30) hz_X8_findInt_32 rfl rfl
theorem hz_X8_findInt_64 : (cX8_findInt.data.toList.drop 64).take 40 = [49, 42, 180, 0, 52, 60, 42, 180, 0, 39, 5, 160, 0, 37, 27, 42, 180, 0, 32, 162, 0, 29, 42, 42, 180, 0, 49, 16, 10, 104, 42, 27, 182, 0, 55, 96, 16, 48, 100, 181] := by decide +kernel
theorem dX8_findInt_65 : decode cX8_findInt 65 = .ok (.aload_n 0, 1) := dz_42 (n := 64) (r := 1) hz_X8_findInt_64 rfl
theorem dX8_findInt_66 : decode cX8_findInt 66 = .ok (.getfield 52, 3) := dz_180 (n := 64) (r := 2) hz_X8_findInt_64 rfl rfl
theorem dX8_findInt_69 : decode cX8_findInt 69 = .ok (.istore_n 1, 1) := dz_60 (n := 64) (r := 5) hz_X8_findInt_64 rfl
theorem dX8_findInt_70 : decode cX8_findInt 70 = .ok (.aload_n 0, 1) := dz_42 (n := 64) (r := 6) hz_X8_findInt_64 rfl
theorem dX8_findInt_71 : decode cX8_findInt 71 = .ok (.getfield 39, 3) := dz_180 (n := 64) (r := 7) hz_X8_findInt_64 rfl rfl
theorem dX8_findInt_74 : decode cX8_findInt 74 = .ok (.iconst 2, 1) := dz_5 (n := 64) (r := 10) hz_X8_findInt_64 rfl
theorem dX8_findInt_75 : decode cX8_findInt 75 = .ok (.if_icmp .ne 37, 3) := dz_160 (n := 64) (r := 11) hz_X8_findInt_64 rfl (by decide +kernel)
theorem dX8_findInt_78 : decode cX8_findInt 78 = .ok (.iload_n 1, 1) := dz_27 (n := 64) (r := 14) hz_X8_findInt_64 rfl
theorem dX8_findInt_79 : decode cX8_findInt 79 = .ok (.aload_n 0, 1) := dz_42 (n := 64) (r := 15) hz_X8_findInt_64 rfl
theorem dX8_findInt_80 : decode cX8_findInt 80 = .ok (.getfield 32, 3) := dz_180 (n := 64) (r := 16) hz_X8_findInt_64 rfl rfl
theorem dX8_findInt_83 : decode cX8_findInt 83 = .ok (.if_icmp .ge 29, 3) := dz_162 (n := 64) (r := 19) hz_X8_findInt_64 rfl (by decide +kernel)
theorem dX8_findInt_86 : decode cX8_findInt 86 = .ok (.aload_n 0, 1) := dz_42 (n := 64) (r := 22) hz_X8_findInt_64 rfl
theorem dX8_findInt_87 : decode cX8_findInt 87 = .ok (.aload_n 0, 1) := dz_42 (n := 64) (r := 23) hz_X8_findInt_64 rfl
theorem dX8_findInt_88 : decode cX8_findInt 88 = .ok (.getfield 49, 3) := dz_180 (n := 64) (r := 24) hz_X8_findInt_64 rfl rfl
theorem dX8_findInt_91 : decode cX8_findInt 91 = .ok (.bipush 10, 2) := dz_16 (n := 64) (r := 27) hz_X8_findInt_64 rfl rfl
theorem dX8_findInt_93 : decode cX8_findInt 93 = .ok (.imul, 1) := dz_104 (n := 64) (r := 29) hz_X8_findInt_64 rfl
theorem dX8_findInt_94 : decode cX8_findInt 94 = .ok (.aload_n 0, 1) := dz_42 (n := 64) (r := 30) hz_X8_findInt_64 rfl
theorem dX8_findInt_95 : decode cX8_findInt 95 = .ok (.iload_n 1, 1) := dz_27 (n := 64) (r := 31) hz_X8_findInt_64 rfl
theorem hz_X8_findInt_96 : (cX8_findInt.data.toList.drop 96).take 40 = [182, 0, 55, 96, 16, 48, 100, 181, 0, 49, 132, 1, 1, 167, 255, 217, 177] := by decide +kernel
theorem dX8_findInt_96 : decode cX8_findInt 96 = .ok (.invokevirtual 55, 3) := dz_182 (n := 96) (r := 0) hz_X8_findInt_96 rfl rfl
theorem dX8_findInt_99 : decode cX8_findInt 99 = .ok (.iadd, 1) := dz_96 (n := 96) (r := 3) hz_X8_findInt_96 rfl
theorem dX8_findInt_100 : decode cX8_findInt 100 = .ok (.bipush 48, 2) := dz_16 (n := 96) (r := 4) hz_X8_findInt_96 rfl rfl
theorem dX8_findInt_102 : decode cX8_findInt 102 = .ok (.isub, 1) := dz_100 (n := 96) (r := 6) hz_X8_findInt_96 rfl
theorem dX8_findInt_103 : decode cX8_findInt 103 = .ok (.putfield 49, 3) := dz_181 (n := 96) (r := 7) hz_X8_findInt_96 rfl rfl
theorem dX8_findInt_106 : decode cX8_findInt 106 = .ok (.iinc 1 1, 3) := dz_132 (n := 96) (r := 10) hz_X8_findInt_96 rfl rfl rfl
theorem dX8_findInt_109 : decode cX8_findInt 109 = .ok (.goto (-39), 3) := dz_167 (n := 96) (r := 13) hz_X8_findInt_96 rfl (by decide +kernel)
theorem dX8_findInt_112 : decode cX8_findInt 112 = .ok (.return_, 1) := dz_177 (n := 96) (r := 16) hz_X8_findInt_96 rfl
theorem hz_X8_wordKind_0 : (cX8_wordKind.data.toList.drop 0).take 40 = [42, 18, 79, 182, 0, 81, 153, 0, 5, 8, 172, 42, 18, 85, 182, 0, 81, 153, 0, 6, 16, 6, 172, 42, 18, 87, 182, 0, 81, 153, 0, 6, 16, 7, 172, 42, 18, 89, 182, 0] := by decide +kernel
theorem dX8_wordKind_0 : decode cX8_wordKind 0 = .ok (.aload_n 0, 1) := dz_42 (n := 0) (r := 0) hz_X8_wordKind_0 rfl
theorem dX8_wordKind_1 : decode cX8_wordKind 1 = .ok (.ldc 79, 2) := dz_18 (n := 0) (r := 1) hz_X8_wordKind_0 rfl rfl
theorem dX8_wordKind_3 : decode cX8_wordKind 3 = .ok (.invokevirtual 81, 3) := dz_182 (n := 0) (r := 3) hz_X8_wordKind_0 rfl rfl
theorem dX8_wordKind_6 : decode cX8_wordKind 6 = .ok (.ifCond .eq 5, 3) := dz_153 (n := 0) (r := 6) hz_X8_wordKind_0 rfl (by decide +kernel)
theorem dX8_wordKind_9 : decode cX8_wordKind 9 = .ok (.iconst 5, 1) := dz_8 (n := 0) (r := 9) hz_X8_wordKind_0 rfl
theorem dX8_wordKind_10 : decode cX8_wordKind 10 = .ok (.ireturn, 1) := dz_172 (n := 0) (r := 10) hz_X8_wordKind_0 rfl
theorem dX8_wordKind_11 : decode cX8_wordKind 11 = .ok (.aload_n 0, 1) := dz_42 (n := 0) (r := 11) hz_X8_wordKind_0 rfl
theorem dX8_wordKind_12 : decode cX8_wordKind 12 = .ok (.ldc 85, 2) := dz_18 (n := 0) (r := 12) hz_X8_wordKind_0 rfl rfl
theorem dX8_wordKind_14 : decode cX8_wordKind 14 = .ok (.invokevirtual 81, 3) := dz_182 (n := 0) (r := 14) hz_X8_wordKind_0 rfl rfl
theorem dX8_wordKind_17 : decode cX8_wordKind 17 = .ok (.ifCond .eq 6, 3) := dz_153 (n := 0) (r := 17) hz_X8_wordKind_0 rfl (by decide +kernel)
theorem dX8_wordKind_20 : decode cX8_wordKind 20 = .ok (.bipush 6, 2) := dz_16 (n := 0) (r := 20) hz_X8_wordKind_0 rfl rfl
theorem dX8_wordKind_22 : decode cX8_wordKind 22 = .ok (.ireturn, 1) := dz_172 (n := 0) (r := 22) hz_X8_wordKind_0 rfl
theorem dX8_wordKind_23 : decode cX8_wordKind 23 = .ok (.aload_n 0, 1) := dz_42 (n := 0) (r := 23) hz_X8_wordKind_0 rfl
theorem dX8_wordKind_24 : decode cX8_wordKind 24 = .ok (.ldc 87, 2) := dz_18 (n := 0) (r := 24) hz_X8_wordKind_0 rfl rfl
theorem dX8_wordKind_26 : decode cX8_wordKind 26 = .ok (.invokevirtual 81, 3) := dz_182 (n := 0) (r := 26) hz_X8_wordKind_0 rfl rfl
theorem dX8_wordKind_29 : decode cX8_wordKind 29 = .ok (.ifCond .eq 6, 3) := dz_153 (n := 0) (r := 29) hz_X8_wordKind_0 rfl (by decide +kernel)
theorem hz_X8_wordKind_32 : (cX8_wordKind.data.toList.drop 32).take 40 = [16, 7, 172, 42, 18, 89, 182, 0, 81, 153, 0, 6, 16, 8, 172, 42, 18, 91, 182, 0, 81, 153, 0, 6, 16, 9, 172, 42, 18, 93, 182, 0, 81, 153, 0, 6, 16, 10, 172, 42] := by decide +kernel
theorem dX8_wordKind_32 : decode cX8_wordKind 32 = .ok (.bipush 7, 2) := dz_16 (n := 32) (r := 0) hz_X8_wordKind_32 rfl rfl
theorem dX8_wordKind_34 : decode cX8_wordKind 34 = .ok (.ireturn, 1) := dz_172 (n := 32) (r := 2) hz_X8_wordKind_32 rfl
theorem dX8_wordKind_35 : decode cX8_wordKind 35 = .ok (.aload_n 0, 1) := dz_42 (n := 32) (r := 3) hz_X8_wordKind_32 rfl
theorem dX8_wordKind_36 : decode cX8_wordKind 36 = .ok (.ldc 89, 2) := dz_18 (n := 32) (r := 4) hz_X8_wordKind_32 rfl rfl
theorem dX8_wordKind_38 : decode cX8_wordKind 38 = .ok (.invokevirtual 81, 3) := dz_182 (n := 32) (r := 6) hz_X8_wordKind_32 rfl rfl
theorem dX8_wordKind_41 : decode cX8_wordKind 41 = .ok (.ifCond .eq 6, 3) := dz_153 (n := 32) (r := 9) hz_X8_wordKind_32 rfl (by decide +kernel)
theorem dX8_wordKind_44 : decode cX8_wordKind 44 = .ok (.bipush 8, 2) := dz_16 (n := 32) (r := 12) hz_X8_wordKind_32 rfl rfl
theorem dX8_wordKind_46 : decode cX8_wordKind 46 = .ok (.ireturn, 1) := dz_172 (n := 32) (r := 14) hz_X8_wordKind_32 rfl
theorem dX8_wordKind_47 : decode cX8_wordKind 47 = .ok (.aload_n 0, 1) := dz_42 (n := 32) (r := 15) hz_X8_wordKind_32 rfl
theorem dX8_wordKind_48 : decode cX8_wordKind 48 = .ok (.ldc 91, 2) := dz_18 (n := 32) (r := 16) hz_X8_wordKind_32 rfl rfl
theorem dX8_wordKind_50 : decode cX8_wordKind 50 = .ok (.invokevirtual 81, 3) := dz_182 (n := 32) (r := 18) hz_X8_wordKind_32 rfl rfl
theorem dX8_wordKind_53 : decode cX8_wordKind 53 = .ok (.ifCond .eq 6, 3) := dz_153 (n := 32) (r := 21) hz_X8_wordKind_32 rfl (by decide +kernel)
theorem dX8_wordKind_56 : decode cX8_wordKind 56 = .ok (.bipush 9, 2) := dz_16 (n := 32) (r := 24) hz_X8_wordKind_32 rfl rfl
theorem dX8_wordKind_58 : decode cX8_wordKind 58 = .ok (.ireturn, 1) := dz_172 (n := 32) (r := 26) hz_X8_wordKind_32 rfl
theorem dX8_wordKind_59 : decode cX8_wordKind 59 = .ok (.aload_n 0, 1) := dz_42 (n := 32) (r := 27) hz_X8_wordKind_32 rfl
theorem dX8_wordKind_60 : decode cX8_wordKind 60 = .ok (.ldc 93, 2) := dz_18 (n := 32) (r := 28) hz_X8_wordKind_32 rfl rfl
theorem dX8_wordKind_62 : decode cX8_wordKind 62 = .ok (.invokevirtual 81, 3) := dz_182 (n := 32) (r := 30) hz_X8_wordKind_32 rfl rfl
theorem hz_X8_wordKind_64 : (cX8_wordKind.data.toList.drop 64).take 40 = [81, 153, 0, 6, 16, 10, 172, 42, 18, 95, 182, 0, 81, 153, 0, 6, 16, 11, 172, 42, 18, 97, 182, 0, 81, 153, 0, 6, 16, 12, 172, 42, 18, 99, 182, 0, 81, 153, 0, 6] := by decide +kernel
theorem dX8_wordKind_65 : decode cX8_wordKind 65 = .ok (.ifCond .eq 6, 3) := dz_153 (n := 64) (r := 1) hz_X8_wordKind_64 rfl (by decide +kernel)
theorem dX8_wordKind_68 : decode cX8_wordKind 68 = .ok (.bipush 10, 2) := dz_16 (n := 64) (r := 4) hz_X8_wordKind_64 rfl rfl
theorem dX8_wordKind_70 : decode cX8_wordKind 70 = .ok (.ireturn, 1) := dz_172 (n := 64) (r := 6) hz_X8_wordKind_64 rfl
theorem dX8_wordKind_71 : decode cX8_wordKind 71 = .ok (.aload_n 0, 1) := dz_42 (n := 64) (r := 7) hz_X8_wordKind_64 rfl
theorem dX8_wordKind_72 : decode cX8_wordKind 72 = .ok (.ldc 95, 2) := dz_18 (n := 64) (r := 8) hz_X8_wordKind_64 rfl rfl
theorem dX8_wordKind_74 : decode cX8_wordKind 74 = .ok (.invokevirtual 81, 3) := dz_182 (n := 64) (r := 10) hz_X8_wordKind_64 rfl rfl
theorem dX8_wordKind_77 : decode cX8_wordKind 77 = .ok (.ifCond .eq 6, 3) := dz_153 (n := 64) (r := 13) hz_X8_wordKind_64 rfl (by decide +kernel)
theorem dX8_wordKind_80 : decode cX8_wordKind 80 = .ok (.bipush 11, 2) := dz_16 (n := 64) (r := 16) hz_X8_wordKind_64 rfl rfl
theorem dX8_wordKind_82 : decode cX8_wordKind 82 = .ok (.ireturn, 1) := dz_172 (n := 64) (r := 18) hz_X8_wordKind_64 rfl
theorem dX8_wordKind_83 : decode cX8_wordKind 83 = .ok (.aload_n 0, 1) := dz_42 (n := 64) (r := 19) hz_X8_wordKind_64 rfl
theorem dX8_wordKind_84 : decode cX8_wordKind 84 = .ok (.ldc 97, 2) := dz_18 (n := 64) (r := 20) hz_X8_wordKind_64 rfl rfl
theorem dX8_wordKind_86 : decode cX8_wordKind 86 = .ok (.invokevirtual 81, 3) := dz_182 (n := 64) (r := 22) hz_X8_wordKind_64 rfl rfl
theorem dX8_wordKind_89 : decode cX8_wordKind 89 = .ok (.ifCond .eq 6, 3) := dz_153 (n := 64) (r := 25) hz_X8_wordKind_64 rfl (by decide +kernel)
theorem dX8_wordKind_92 : decode cX8_wordKind 92 = .ok (.bipush 12, 2) := dz_16 (n := 64) (r := 28) hz_X8_wordKind_64 rfl rfl
theorem dX8_wordKind_94 : decode cX8_wordKind 94 = .ok (.ireturn, 1) := dz_172 (n := 64) (r := 30) hz_X8_wordKind_64 rfl
theorem dX8_wordKind_95 : decode cX8_wordKind 95 = .ok (.aload_n 0, 1) := dz_42 (n := 64) (r := 31) hz_X8_wordKind_64 rfl
theorem hz_X8_wordKind_96 : (cX8_wordKind.data.toList.drop 96).take 40 = [18, 99, 182, 0, 81, 153, 0, 6, 16, 13, 172, 42, 18, 101, 182, 0, 81, 153, 0, 6, 16, 14, 172, 42, 18, 103, 182, 0, 81, 153, 0, 6, 16, 15, 172, 4, 172] := by decide +kernel
theorem dX8_wordKind_96 : decode cX8_wordKind 96 = .ok (.ldc 99, 2) := dz_18 (n := 96) (r := 0) hz_X8_wordKind_96 rfl rfl
theorem dX8_wordKind_98 : decode cX8_wordKind 98 = .ok (.invokevirtual 81, 3) := dz_182 (n := 96) (r := 2) hz_X8_wordKind_96 rfl rfl
theorem dX8_wordKind_101 : decode cX8_wordKind 101 = .ok (.ifCond .eq 6, 3) := dz_153 (n := 96) (r := 5) hz_X8_wordKind_96 rfl (by decide +kernel)
theorem dX8_wordKind_104 : decode cX8_wordKind 104 = .ok (.bipush 13, 2) := dz_16 (n := 96) (r := 8) hz_X8_wordKind_96 rfl rfl
theorem dX8_wordKind_106 : decode cX8_wordKind 106 = .ok (.ireturn, 1) := dz_172 (n := 96) (r := 10) hz_X8_wordKind_96 rfl
theorem dX8_wordKind_107 : decode cX8_wordKind 107 = .ok (.aload_n 0, 1) := dz_42 (n := 96) (r := 11) hz_X8_wordKind_96 rfl
theorem dX8_wordKind_108 : decode cX8_wordKind 108 = .ok (.ldc 101, 2) := dz_18 (n := 96) (r := 12) hz_X8_wordKind_96 rfl rfl
theorem dX8_wordKind_110 : decode cX8_wordKind 110 = .ok (.invokevirtual 81, 3) := dz_182 (n := 96) (r := 14) hz_X8_wordKind_96 rfl rfl
theorem dX8_wordKind_113 : decode cX8_wordKind 113 = .ok (.ifCond .eq 6, 3) := dz_153 (n := 96) (r := 17) hz_X8_wordKind_96 rfl (by decide +kernel)
theorem dX8_wordKind_116 : decode cX8_wordKind 116 = .ok (.bipush 14, 2) := dz_16 (n := 96) (r := 20) hz_X8_wordKind_96 rfl rfl
theorem dX8_wordKind_118 : decode cX8_wordKind 118 = .ok (.ireturn, 1) := dz_172 (n := 96) (r := 22) hz_X8_wordKind_96 rfl
theorem dX8_wordKind_119 : decode cX8_wordKind 119 = .ok (.aload_n 0, 1) := dz_42 (n := 96) (r := 23) hz_X8_wordKind_96 rfl
theorem dX8_wordKind_120 : decode cX8_wordKind 120 = .ok (.ldc 103, 2) := dz_18 (n := 96) (r := 24) hz_X8_wordKind_96 rfl rfl
theorem dX8_wordKind_122 : decode cX8_wordKind 122 = .ok (.invokevirtual 81, 3) := dz_182 (n := 96) (r := 26) hz_X8_wordKind_96 rfl rfl
theorem dX8_wordKind_125 : decode cX8_wordKind 125 = .ok (.ifCond .eq 6, 3) := dz_153 (n := 96) (r := 29) hz_X8_wordKind_96 rfl (by decide +kernel)
theorem hz_X8_wordKind_128 : (cX8_wordKind.data.toList.drop 128).take 40 = [16, 15, 172, 4, 172] := by decide +kernel
theorem dX8_wordKind_128 : decode cX8_wordKind 128 = .ok (.bipush 15, 2) := dz_16 (n := 128) (r := 0) hz_X8_wordKind_128 rfl rfl
theorem dX8_wordKind_130 : decode cX8_wordKind 130 = .ok (.ireturn, 1) := dz_172 (n := 128) (r := 2) hz_X8_wordKind_128 rfl
theorem dX8_wordKind_131 : decode cX8_wordKind 131 = .ok (.iconst 1, 1) := dz_4 (n := 128) (r := 3) hz_X8_wordKind_128 rfl
theorem dX8_wordKind_132 : decode cX8_wordKind 132 = .ok (.ireturn, 1) := dz_172 (n := 128) (r := 4) hz_X8_wordKind_128 rfl
theorem hz_X8_spells_0 : (cX8_spells.data.toList.drop 0).take 40 = [42, 180, 0, 32, 42, 180, 0, 52, 100, 43, 182, 0, 105, 159, 0, 5, 3, 172, 3, 61, 28, 43, 182, 0, 105, 162, 0, 29, 42, 42, 180, 0, 52, 28, 96, 182, 0, 55, 43, 28] := by decide +kernel
theorem dX8_spells_0 : decode cX8_spells 0 = .ok (.aload_n 0, 1) := dz_42 (n := 0) (r := 0) hz_X8_spells_0 rfl
theorem dX8_spells_1 : decode cX8_spells 1 = .ok (.getfield 32, 3) := dz_180 (n := 0) (r := 1) hz_X8_spells_0 rfl rfl
theorem dX8_spells_4 : decode cX8_spells 4 = .ok (.aload_n 0, 1) := dz_42 (n := 0) (r := 4) hz_X8_spells_0 rfl
theorem dX8_spells_5 : decode cX8_spells 5 = .ok (.getfield 52, 3) := dz_180 (n := 0) (r := 5) hz_X8_spells_0 rfl rfl
theorem dX8_spells_8 : decode cX8_spells 8 = .ok (.isub, 1) := dz_100 (n := 0) (r := 8) hz_X8_spells_0 rfl
theorem dX8_spells_9 : decode cX8_spells 9 = .ok (.aload_n 1, 1) := dz_43 (n := 0) (r := 9) hz_X8_spells_0 rfl
theorem dX8_spells_10 : decode cX8_spells 10 = .ok (.invokevirtual 105, 3) := dz_182 (n := 0) (r := 10) hz_X8_spells_0 rfl rfl
theorem dX8_spells_13 : decode cX8_spells 13 = .ok (.if_icmp .eq 5, 3) := dz_159 (n := 0) (r := 13) hz_X8_spells_0 rfl (by decide +kernel)
theorem dX8_spells_16 : decode cX8_spells 16 = .ok (.iconst 0, 1) := dz_3 (n := 0) (r := 16) hz_X8_spells_0 rfl
theorem dX8_spells_17 : decode cX8_spells 17 = .ok (.ireturn, 1) := dz_172 (n := 0) (r := 17) hz_X8_spells_0 rfl
theorem dX8_spells_18 : decode cX8_spells 18 = .ok (.iconst 0, 1) := dz_3 (n := 0) (r := 18) hz_X8_spells_0 rfl
theorem dX8_spells_19 : decode cX8_spells 19 = .ok (.istore_n 2, 1) := dz_61 (n := 0) (r := 19) hz_X8_spells_0 rfl
theorem dX8_spells_20 : decode cX8_spells 20 = .ok (.iload_n 2, 1) := dz_28 (n := 0) (r := 20) hz_X8_spells_0 rfl
theorem dX8_spells_21 : decode cX8_spells 21 = .ok (.aload_n 1, 1) := dz_43 (n := 0) (r := 21) hz_X8_spells_0 rfl
theorem dX8_spells_22 : decode cX8_spells 22 = .ok (.invokevirtual 105, 3) := dz_182 (n := 0) (r := 22) hz_X8_spells_0 rfl rfl
theorem dX8_spells_25 : decode cX8_spells 25 = .ok (.if_icmp .ge 29, 3) := dz_162 (n := 0) (r := 25) hz_X8_spells_0 rfl (by decide +kernel)
theorem dX8_spells_28 : decode cX8_spells 28 = .ok (.aload_n 0, 1) := dz_42 (n := 0) (r := 28) hz_X8_spells_0 rfl
theorem dX8_spells_29 : decode cX8_spells 29 = .ok (.aload_n 0, 1) := dz_42 (n := 0) (r := 29) hz_X8_spells_0 rfl
theorem dX8_spells_30 : decode cX8_spells 30 = .ok (.getfield 52, 3) := dz_180 (n := 0) (r := 30) hz_X8_spells_0 rfl rfl
theorem hz_X8_spells_32 : (cX8_spells.data.toList.drop 32).take 40 = [52, 28, 96, 182, 0, 55, 43, 28, 182, 0, 109, 159, 0, 5, 3, 172, 132, 2, 1, 167, 255, 225, 4, 172] := by decide +kernel
theorem dX8_spells_33 : decode cX8_spells 33 = .ok (.iload_n 2, 1) := dz_28 (n := 32) (r := 1) hz_X8_spells_32 rfl
theorem dX8_spells_34 : decode cX8_spells 34 = .ok (.iadd, 1) := dz_96 (n := 32) (r := 2) hz_X8_spells_32 rfl
theorem dX8_spells_35 : decode cX8_spells 35 = .ok (.invokevirtual 55, 3) := dz_182 (n := 32) (r := 3) hz_X8_spells_32 rfl rfl
theorem dX8_spells_38 : decode cX8_spells 38 = .ok (.aload_n 1, 1) := dz_43 (n := 32) (r := 6) hz_X8_spells_32 rfl
theorem dX8_spells_39 : decode cX8_spells 39 = .ok (.iload_n 2, 1) := dz_28 (n := 32) (r := 7) hz_X8_spells_32 rfl
theorem dX8_spells_40 : decode cX8_spells 40 = .ok (.invokevirtual 109, 3) := dz_182 (n := 32) (r := 8) hz_X8_spells_32 rfl rfl
theorem dX8_spells_43 : decode cX8_spells 43 = .ok (.if_icmp .eq 5, 3) := dz_159 (n := 32) (r := 11) hz_X8_spells_32 rfl (by decide +kernel)
theorem dX8_spells_46 : decode cX8_spells 46 = .ok (.iconst 0, 1) := dz_3 (n := 32) (r := 14) hz_X8_spells_32 rfl
theorem dX8_spells_47 : decode cX8_spells 47 = .ok (.ireturn, 1) := dz_172 (n := 32) (r := 15) hz_X8_spells_32 rfl
theorem dX8_spells_48 : decode cX8_spells 48 = .ok (.iinc 2 1, 3) := dz_132 (n := 32) (r := 16) hz_X8_spells_32 rfl rfl rfl
theorem dX8_spells_51 : decode cX8_spells 51 = .ok (.goto (-31), 3) := dz_167 (n := 32) (r := 19) hz_X8_spells_32 rfl (by decide +kernel)
theorem dX8_spells_54 : decode cX8_spells 54 = .ok (.iconst 1, 1) := dz_4 (n := 32) (r := 22) hz_X8_spells_32 rfl
theorem dX8_spells_55 : decode cX8_spells 55 = .ok (.ireturn, 1) := dz_172 (n := 32) (r := 23) hz_X8_spells_32 rfl
theorem hz_X8_isBlank_0 : (cX8_isBlank.data.toList.drop 0).take 40 = [26, 16, 9, 159, 0, 21, 26, 16, 10, 159, 0, 15, 26, 16, 13, 159, 0, 9, 26, 16, 32, 160, 0, 7, 4, 167, 0, 4, 3, 172] := by decide +kernel
theorem dX8_isBlank_0 : decode cX8_isBlank 0 = .ok (.iload_n 0, 1) := dz_26 (n := 0) (r := 0) hz_X8_isBlank_0 rfl
theorem dX8_isBlank_1 : decode cX8_isBlank 1 = .ok (.bipush 9, 2) := dz_16 (n := 0) (r := 1) hz_X8_isBlank_0 rfl rfl
theorem dX8_isBlank_3 : decode cX8_isBlank 3 = .ok (.if_icmp .eq 21, 3) := dz_159 (n := 0) (r := 3) hz_X8_isBlank_0 rfl (by decide +kernel)
theorem dX8_isBlank_6 : decode cX8_isBlank 6 = .ok (.iload_n 0, 1) := dz_26 (n := 0) (r := 6) hz_X8_isBlank_0 rfl
theorem dX8_isBlank_7 : decode cX8_isBlank 7 = .ok (.bipush 10, 2) := dz_16 (n := 0) (r := 7) hz_X8_isBlank_0 rfl rfl
theorem dX8_isBlank_9 : decode cX8_isBlank 9 = .ok (.if_icmp .eq 15, 3) := dz_159 (n := 0) (r := 9) hz_X8_isBlank_0 rfl (by decide +kernel)
theorem dX8_isBlank_12 : decode cX8_isBlank 12 = .ok (.iload_n 0, 1) := dz_26 (n := 0) (r := 12) hz_X8_isBlank_0 rfl
theorem dX8_isBlank_13 : decode cX8_isBlank 13 = .ok (.bipush 13, 2) := dz_16 (n := 0) (r := 13) hz_X8_isBlank_0 rfl rfl
theorem dX8_isBlank_15 : decode cX8_isBlank 15 = .ok (.if_icmp .eq 9, 3) := dz_159 (n := 0) (r := 15) hz_X8_isBlank_0 rfl (by decide +kernel)
theorem dX8_isBlank_18 : decode cX8_isBlank 18 = .ok (.iload_n 0, 1) := dz_26 (n := 0) (r := 18) hz_X8_isBlank_0 rfl
theorem dX8_isBlank_19 : decode cX8_isBlank 19 = .ok (.bipush 32, 2) := dz_16 (n := 0) (r := 19) hz_X8_isBlank_0 rfl rfl
theorem dX8_isBlank_21 : decode cX8_isBlank 21 = .ok (.if_icmp .ne 7, 3) := dz_160 (n := 0) (r := 21) hz_X8_isBlank_0 rfl (by decide +kernel)
theorem dX8_isBlank_24 : decode cX8_isBlank 24 = .ok (.iconst 1, 1) := dz_4 (n := 0) (r := 24) hz_X8_isBlank_0 rfl
theorem dX8_isBlank_25 : decode cX8_isBlank 25 = .ok (.goto 4, 3) := dz_167 (n := 0) (r := 25) hz_X8_isBlank_0 rfl (by decide +kernel)
theorem dX8_isBlank_28 : decode cX8_isBlank 28 = .ok (.iconst 0, 1) := dz_3 (n := 0) (r := 28) hz_X8_isBlank_0 rfl
theorem dX8_isBlank_29 : decode cX8_isBlank 29 = .ok (.ireturn, 1) := dz_172 (n := 0) (r := 29) hz_X8_isBlank_0 rfl
theorem hz_X8_isLetter_0 : (cX8_isLetter.data.toList.drop 0).take 40 = [26, 16, 97, 161, 0, 13, 26, 16, 122, 163, 0, 7, 4, 167, 0, 4, 3, 172] := by decide +kernel
theorem dX8_isLetter_0 : decode cX8_isLetter 0 = .ok (.iload_n 0, 1) := dz_26 (n := 0) (r := 0) hz_X8_isLetter_0 rfl
theorem dX8_isLetter_1 : decode cX8_isLetter 1 = .ok (.bipush 97, 2) := dz_16 (n := 0) (r := 1) hz_X8_isLetter_0 rfl rfl
theorem dX8_isLetter_3 : decode cX8_isLetter 3 = .ok (.if_icmp .lt 13, 3) := dz_161 (n := 0) (r := 3) hz_X8_isLetter_0 rfl (by decide +kernel)
theorem dX8_isLetter_6 : decode cX8_isLetter 6 = .ok (.iload_n 0, 1) := dz_26 (n := 0) (r := 6) hz_X8_isLetter_0 rfl
theorem dX8_isLetter_7 : decode cX8_isLetter 7 = .ok (.bipush 122, 2) := dz_16 (n := 0) (r := 7) hz_X8_isLetter_0 rfl rfl
theorem dX8_isLetter_9 : decode cX8_isLetter 9 = .ok (.if_icmp .gt 7, 3) := dz_163 (n := 0) (r := 9) hz_X8_isLetter_0 rfl (by decide +kernel)
theorem dX8_isLetter_12 : decode cX8_isLetter 12 = .ok (.iconst 1, 1) := dz_4 (n := 0) (r := 12) hz_X8_isLetter_0 rfl
theorem dX8_isLetter_13 : decode cX8_isLetter 13 = .ok (.goto 4, 3) := dz_167 (n := 0) (r := 13) hz_X8_isLetter_0 rfl (by decide +kernel)
theorem dX8_isLetter_16 : decode cX8_isLetter 16 = .ok (.iconst 0, 1) := dz_3 (n := 0) (r := 16) hz_X8_isLetter_0 rfl
theorem dX8_isLetter_17 : decode cX8_isLetter 17 = .ok (.ireturn, 1) := dz_172 (n := 0) (r := 17) hz_X8_isLetter_0 rfl
theorem hz_X8_isDigit_0 : (cX8_isDigit.data.toList.drop 0).take 40 = [26, 16, 48, 161, 0, 13, 26, 16, 57, 163, 0, 7, 4, 167, 0, 4, 3, 172] := by decide +kernel
theorem dX8_isDigit_0 : decode cX8_isDigit 0 = .ok (.iload_n 0, 1) := dz_26 (n := 0) (r := 0) hz_X8_isDigit_0 rfl
theorem dX8_isDigit_1 : decode cX8_isDigit 1 = .ok (.bipush 48, 2) := dz_16 (n := 0) (r := 1) hz_X8_isDigit_0 rfl rfl
theorem dX8_isDigit_3 : decode cX8_isDigit 3 = .ok (.if_icmp .lt 13, 3) := dz_161 (n := 0) (r := 3) hz_X8_isDigit_0 rfl (by decide +kernel)
theorem dX8_isDigit_6 : decode cX8_isDigit 6 = .ok (.iload_n 0, 1) := dz_26 (n := 0) (r := 6) hz_X8_isDigit_0 rfl
theorem dX8_isDigit_7 : decode cX8_isDigit 7 = .ok (.bipush 57, 2) := dz_16 (n := 0) (r := 7) hz_X8_isDigit_0 rfl rfl
theorem dX8_isDigit_9 : decode cX8_isDigit 9 = .ok (.if_icmp .gt 7, 3) := dz_163 (n := 0) (r := 9) hz_X8_isDigit_0 rfl (by decide +kernel)
theorem dX8_isDigit_12 : decode cX8_isDigit 12 = .ok (.iconst 1, 1) := dz_4 (n := 0) (r := 12) hz_X8_isDigit_0 rfl
theorem dX8_isDigit_13 : decode cX8_isDigit 13 = .ok (.goto 4, 3) := dz_167 (n := 0) (r := 13) hz_X8_isDigit_0 rfl (by decide +kernel)
theorem dX8_isDigit_16 : decode cX8_isDigit 16 = .ok (.iconst 0, 1) := dz_3 (n := 0) (r := 16) hz_X8_isDigit_0 rfl
theorem dX8_isDigit_17 : decode cX8_isDigit 17 = .ok (.ireturn, 1) := dz_172 (n := 0) (r := 17) hz_X8_isDigit_0 rfl
theorem hz_X8_wantBehind_0 : (cX8_wantBehind.data.toList.drop 0).take 40 = [27, 5, 160, 0, 7, 4, 167, 0, 4, 3, 61, 27, 16, 6, 159, 0, 9, 27, 16, 7, 160, 0, 7, 4, 167, 0, 4, 3, 62, 26, 170, 0, 0, 0, 0, 227, 0, 0, 0, 0] := by decide +kernel
theorem dX8_wantBehind_0 : decode cX8_wantBehind 0 = .ok (.iload_n 1, 1) := dz_27 (n := 0) (r := 0) hz_X8_wantBehind_0 rfl
theorem dX8_wantBehind_1 : decode cX8_wantBehind 1 = .ok (.iconst 2, 1) := dz_5 (n := 0) (r := 1) hz_X8_wantBehind_0 rfl
theorem dX8_wantBehind_2 : decode cX8_wantBehind 2 = .ok (.if_icmp .ne 7, 3) := dz_160 (n := 0) (r := 2) hz_X8_wantBehind_0 rfl (by decide +kernel)
theorem dX8_wantBehind_5 : decode cX8_wantBehind 5 = .ok (.iconst 1, 1) := dz_4 (n := 0) (r := 5) hz_X8_wantBehind_0 rfl
theorem dX8_wantBehind_6 : decode cX8_wantBehind 6 = .ok (.goto 4, 3) := dz_167 (n := 0) (r := 6) hz_X8_wantBehind_0 rfl (by decide +kernel)
theorem dX8_wantBehind_9 : decode cX8_wantBehind 9 = .ok (.iconst 0, 1) := dz_3 (n := 0) (r := 9) hz_X8_wantBehind_0 rfl
theorem dX8_wantBehind_10 : decode cX8_wantBehind 10 = .ok (.istore_n 2, 1) := dz_61 (n := 0) (r := 10) hz_X8_wantBehind_0 rfl
theorem dX8_wantBehind_11 : decode cX8_wantBehind 11 = .ok (.iload_n 1, 1) := dz_27 (n := 0) (r := 11) hz_X8_wantBehind_0 rfl
theorem dX8_wantBehind_12 : decode cX8_wantBehind 12 = .ok (.bipush 6, 2) := dz_16 (n := 0) (r := 12) hz_X8_wantBehind_0 rfl rfl
theorem dX8_wantBehind_14 : decode cX8_wantBehind 14 = .ok (.if_icmp .eq 9, 3) := dz_159 (n := 0) (r := 14) hz_X8_wantBehind_0 rfl (by decide +kernel)
theorem dX8_wantBehind_17 : decode cX8_wantBehind 17 = .ok (.iload_n 1, 1) := dz_27 (n := 0) (r := 17) hz_X8_wantBehind_0 rfl
theorem dX8_wantBehind_18 : decode cX8_wantBehind 18 = .ok (.bipush 7, 2) := dz_16 (n := 0) (r := 18) hz_X8_wantBehind_0 rfl rfl
theorem dX8_wantBehind_20 : decode cX8_wantBehind 20 = .ok (.if_icmp .ne 7, 3) := dz_160 (n := 0) (r := 20) hz_X8_wantBehind_0 rfl (by decide +kernel)
theorem dX8_wantBehind_23 : decode cX8_wantBehind 23 = .ok (.iconst 1, 1) := dz_4 (n := 0) (r := 23) hz_X8_wantBehind_0 rfl
theorem dX8_wantBehind_24 : decode cX8_wantBehind 24 = .ok (.goto 4, 3) := dz_167 (n := 0) (r := 24) hz_X8_wantBehind_0 rfl (by decide +kernel)
theorem dX8_wantBehind_27 : decode cX8_wantBehind 27 = .ok (.iconst 0, 1) := dz_3 (n := 0) (r := 27) hz_X8_wantBehind_0 rfl
theorem dX8_wantBehind_28 : decode cX8_wantBehind 28 = .ok (.istore_n 3, 1) := dz_62 (n := 0) (r := 28) hz_X8_wantBehind_0 rfl
theorem dX8_wantBehind_29 : decode cX8_wantBehind 29 = .ok (.iload_n 0, 1) := dz_26 (n := 0) (r := 29) hz_X8_wantBehind_0 rfl
theorem dX8_wantBehind_30 : decode cX8_wantBehind 30 = .ok (.tableswitch 227 0 13 #[70, 81, 91, 101, 112, 117, 137, 147, 157, 168, 178, 188, 199, 217], 70) := by decide +kernel
theorem hz_X8_wantBehind_96 : (cX8_wantBehind.data.toList.drop 96).take 40 = [0, 0, 0, 217, 27, 8, 160, 0, 7, 4, 167, 0, 4, 2, 172, 28, 153, 0, 7, 5, 167, 0, 4, 2, 172, 28, 153, 0, 7, 6, 167, 0, 4, 2, 172, 27, 7, 160, 0, 7] := by decide +kernel
theorem dX8_wantBehind_100 : decode cX8_wantBehind 100 = .ok (.iload_n 1, 1) := dz_27 (n := 96) (r := 4) hz_X8_wantBehind_96 rfl
theorem dX8_wantBehind_101 : decode cX8_wantBehind 101 = .ok (.iconst 5, 1) := dz_8 (n := 96) (r := 5) hz_X8_wantBehind_96 rfl
theorem dX8_wantBehind_102 : decode cX8_wantBehind 102 = .ok (.if_icmp .ne 7, 3) := dz_160 (n := 96) (r := 6) hz_X8_wantBehind_96 rfl (by decide +kernel)
theorem dX8_wantBehind_105 : decode cX8_wantBehind 105 = .ok (.iconst 1, 1) := dz_4 (n := 96) (r := 9) hz_X8_wantBehind_96 rfl
theorem dX8_wantBehind_106 : decode cX8_wantBehind 106 = .ok (.goto 4, 3) := dz_167 (n := 96) (r := 10) hz_X8_wantBehind_96 rfl (by decide +kernel)
theorem dX8_wantBehind_109 : decode cX8_wantBehind 109 = .ok (.iconst (-1), 1) := dz_2 (n := 96) (r := 13) hz_X8_wantBehind_96 rfl
theorem dX8_wantBehind_110 : decode cX8_wantBehind 110 = .ok (.ireturn, 1) := dz_172 (n := 96) (r := 14) hz_X8_wantBehind_96 rfl
theorem dX8_wantBehind_111 : decode cX8_wantBehind 111 = .ok (.iload_n 2, 1) := dz_28 (n := 96) (r := 15) hz_X8_wantBehind_96 rfl
theorem dX8_wantBehind_112 : decode cX8_wantBehind 112 = .ok (.ifCond .eq 7, 3) := dz_153 (n := 96) (r := 16) hz_X8_wantBehind_96 rfl (by decide +kernel)
theorem dX8_wantBehind_115 : decode cX8_wantBehind 115 = .ok (.iconst 2, 1) := dz_5 (n := 96) (r := 19) hz_X8_wantBehind_96 rfl
theorem dX8_wantBehind_116 : decode cX8_wantBehind 116 = .ok (.goto 4, 3) := dz_167 (n := 96) (r := 20) hz_X8_wantBehind_96 rfl (by decide +kernel)
theorem dX8_wantBehind_119 : decode cX8_wantBehind 119 = .ok (.iconst (-1), 1) := dz_2 (n := 96) (r := 23) hz_X8_wantBehind_96 rfl
theorem dX8_wantBehind_120 : decode cX8_wantBehind 120 = .ok (.ireturn, 1) := dz_172 (n := 96) (r := 24) hz_X8_wantBehind_96 rfl
theorem dX8_wantBehind_121 : decode cX8_wantBehind 121 = .ok (.iload_n 2, 1) := dz_28 (n := 96) (r := 25) hz_X8_wantBehind_96 rfl
theorem dX8_wantBehind_122 : decode cX8_wantBehind 122 = .ok (.ifCond .eq 7, 3) := dz_153 (n := 96) (r := 26) hz_X8_wantBehind_96 rfl (by decide +kernel)
theorem dX8_wantBehind_125 : decode cX8_wantBehind 125 = .ok (.iconst 3, 1) := dz_6 (n := 96) (r := 29) hz_X8_wantBehind_96 rfl
theorem dX8_wantBehind_126 : decode cX8_wantBehind 126 = .ok (.goto 4, 3) := dz_167 (n := 96) (r := 30) hz_X8_wantBehind_96 rfl (by decide +kernel)
theorem hz_X8_wantBehind_128 : (cX8_wantBehind.data.toList.drop 128).take 40 = [4, 2, 172, 27, 7, 160, 0, 7, 7, 167, 0, 4, 2, 172, 27, 184, 0, 113, 172, 27, 6, 160, 0, 8, 16, 6, 167, 0, 12, 28, 153, 0, 7, 6, 167, 0, 4, 2, 172, 28] := by decide +kernel
theorem dX8_wantBehind_129 : decode cX8_wantBehind 129 = .ok (.iconst (-1), 1) := dz_2 (n := 128) (r := 1) hz_X8_wantBehind_128 rfl
theorem dX8_wantBehind_130 : decode cX8_wantBehind 130 = .ok (.ireturn, 1) := dz_172 (n := 128) (r := 2) hz_X8_wantBehind_128 rfl
theorem dX8_wantBehind_131 : decode cX8_wantBehind 131 = .ok (.iload_n 1, 1) := dz_27 (n := 128) (r := 3) hz_X8_wantBehind_128 rfl
theorem dX8_wantBehind_132 : decode cX8_wantBehind 132 = .ok (.iconst 4, 1) := dz_7 (n := 128) (r := 4) hz_X8_wantBehind_128 rfl
theorem dX8_wantBehind_133 : decode cX8_wantBehind 133 = .ok (.if_icmp .ne 7, 3) := dz_160 (n := 128) (r := 5) hz_X8_wantBehind_128 rfl (by decide +kernel)
theorem dX8_wantBehind_136 : decode cX8_wantBehind 136 = .ok (.iconst 4, 1) := dz_7 (n := 128) (r := 8) hz_X8_wantBehind_128 rfl
theorem dX8_wantBehind_137 : decode cX8_wantBehind 137 = .ok (.goto 4, 3) := dz_167 (n := 128) (r := 9) hz_X8_wantBehind_128 rfl (by decide +kernel)
theorem dX8_wantBehind_140 : decode cX8_wantBehind 140 = .ok (.iconst (-1), 1) := dz_2 (n := 128) (r := 12) hz_X8_wantBehind_128 rfl
theorem dX8_wantBehind_141 : decode cX8_wantBehind 141 = .ok (.ireturn, 1) := dz_172 (n := 128) (r := 13) hz_X8_wantBehind_128 rfl
theorem dX8_wantBehind_142 : decode cX8_wantBehind 142 = .ok (.iload_n 1, 1) := dz_27 (n := 128) (r := 14) hz_X8_wantBehind_128 rfl
theorem dX8_wantBehind_143 : decode cX8_wantBehind 143 = .ok (.invokestatic 113, 3) := dz_184 (n := 128) (r := 15) hz_X8_wantBehind_128 rfl rfl
theorem dX8_wantBehind_146 : decode cX8_wantBehind 146 = .ok (.ireturn, 1) := dz_172 (n := 128) (r := 18) hz_X8_wantBehind_128 rfl
theorem dX8_wantBehind_147 : decode cX8_wantBehind 147 = .ok (.iload_n 1, 1) := dz_27 (n := 128) (r := 19) hz_X8_wantBehind_128 rfl
theorem dX8_wantBehind_148 : decode cX8_wantBehind 148 = .ok (.iconst 3, 1) := dz_6 (n := 128) (r := 20) hz_X8_wantBehind_128 rfl
theorem dX8_wantBehind_149 : decode cX8_wantBehind 149 = .ok (.if_icmp .ne 8, 3) := dz_160 (n := 128) (r := 21) hz_X8_wantBehind_128 rfl (by decide +kernel)
theorem dX8_wantBehind_152 : decode cX8_wantBehind 152 = .ok (.bipush 6, 2) := dz_16 (n := 128) (r := 24) hz_X8_wantBehind_128 rfl rfl
theorem dX8_wantBehind_154 : decode cX8_wantBehind 154 = .ok (.goto 12, 3) := dz_167 (n := 128) (r := 26) hz_X8_wantBehind_128 rfl (by decide +kernel)
theorem dX8_wantBehind_157 : decode cX8_wantBehind 157 = .ok (.iload_n 2, 1) := dz_28 (n := 128) (r := 29) hz_X8_wantBehind_128 rfl
theorem dX8_wantBehind_158 : decode cX8_wantBehind 158 = .ok (.ifCond .eq 7, 3) := dz_153 (n := 128) (r := 30) hz_X8_wantBehind_128 rfl (by decide +kernel)
theorem hz_X8_wantBehind_160 : (cX8_wantBehind.data.toList.drop 160).take 40 = [7, 6, 167, 0, 4, 2, 172, 28, 153, 0, 7, 6, 167, 0, 4, 2, 172, 29, 153, 0, 7, 6, 167, 0, 4, 2, 172, 28, 153, 0, 8, 16, 9, 167, 0, 4, 2, 172, 29, 153] := by decide +kernel
theorem dX8_wantBehind_161 : decode cX8_wantBehind 161 = .ok (.iconst 3, 1) := dz_6 (n := 160) (r := 1) hz_X8_wantBehind_160 rfl
theorem dX8_wantBehind_162 : decode cX8_wantBehind 162 = .ok (.goto 4, 3) := dz_167 (n := 160) (r := 2) hz_X8_wantBehind_160 rfl (by decide +kernel)
theorem dX8_wantBehind_165 : decode cX8_wantBehind 165 = .ok (.iconst (-1), 1) := dz_2 (n := 160) (r := 5) hz_X8_wantBehind_160 rfl
theorem dX8_wantBehind_166 : decode cX8_wantBehind 166 = .ok (.ireturn, 1) := dz_172 (n := 160) (r := 6) hz_X8_wantBehind_160 rfl
theorem dX8_wantBehind_167 : decode cX8_wantBehind 167 = .ok (.iload_n 2, 1) := dz_28 (n := 160) (r := 7) hz_X8_wantBehind_160 rfl
theorem dX8_wantBehind_168 : decode cX8_wantBehind 168 = .ok (.ifCond .eq 7, 3) := dz_153 (n := 160) (r := 8) hz_X8_wantBehind_160 rfl (by decide +kernel)
theorem dX8_wantBehind_171 : decode cX8_wantBehind 171 = .ok (.iconst 3, 1) := dz_6 (n := 160) (r := 11) hz_X8_wantBehind_160 rfl
theorem dX8_wantBehind_172 : decode cX8_wantBehind 172 = .ok (.goto 4, 3) := dz_167 (n := 160) (r := 12) hz_X8_wantBehind_160 rfl (by decide +kernel)
theorem dX8_wantBehind_175 : decode cX8_wantBehind 175 = .ok (.iconst (-1), 1) := dz_2 (n := 160) (r := 15) hz_X8_wantBehind_160 rfl
theorem dX8_wantBehind_176 : decode cX8_wantBehind 176 = .ok (.ireturn, 1) := dz_172 (n := 160) (r := 16) hz_X8_wantBehind_160 rfl
theorem dX8_wantBehind_177 : decode cX8_wantBehind 177 = .ok (.iload_n 3, 1) := dz_29 (n := 160) (r := 17) hz_X8_wantBehind_160 rfl
theorem dX8_wantBehind_178 : decode cX8_wantBehind 178 = .ok (.ifCond .eq 7, 3) := dz_153 (n := 160) (r := 18) hz_X8_wantBehind_160 rfl (by decide +kernel)
theorem dX8_wantBehind_181 : decode cX8_wantBehind 181 = .ok (.iconst 3, 1) := dz_6 (n := 160) (r := 21) hz_X8_wantBehind_160 rfl
theorem dX8_wantBehind_182 : decode cX8_wantBehind 182 = .ok (.goto 4, 3) := dz_167 (n := 160) (r := 22) hz_X8_wantBehind_160 rfl (by decide +kernel)
theorem dX8_wantBehind_185 : decode cX8_wantBehind 185 = .ok (.iconst (-1), 1) := dz_2 (n := 160) (r := 25) hz_X8_wantBehind_160 rfl
theorem dX8_wantBehind_186 : decode cX8_wantBehind 186 = .ok (.ireturn, 1) := dz_172 (n := 160) (r := 26) hz_X8_wantBehind_160 rfl
theorem dX8_wantBehind_187 : decode cX8_wantBehind 187 = .ok (.iload_n 2, 1) := dz_28 (n := 160) (r := 27) hz_X8_wantBehind_160 rfl
theorem dX8_wantBehind_188 : decode cX8_wantBehind 188 = .ok (.ifCond .eq 8, 3) := dz_153 (n := 160) (r := 28) hz_X8_wantBehind_160 rfl (by decide +kernel)
theorem dX8_wantBehind_191 : decode cX8_wantBehind 191 = .ok (.bipush 9, 2) := dz_16 (n := 160) (r := 31) hz_X8_wantBehind_160 rfl rfl
theorem hz_X8_wantBehind_192 : (cX8_wantBehind.data.toList.drop 192).take 40 = [9, 167, 0, 4, 2, 172, 29, 153, 0, 7, 8, 167, 0, 4, 2, 172, 28, 153, 0, 7, 8, 167, 0, 4, 2, 172, 28, 153, 0, 8, 16, 12, 167, 0, 4, 2, 172, 27, 16, 13] := by decide +kernel
theorem dX8_wantBehind_193 : decode cX8_wantBehind 193 = .ok (.goto 4, 3) := dz_167 (n := 192) (r := 1) hz_X8_wantBehind_192 rfl (by decide +kernel)
theorem dX8_wantBehind_196 : decode cX8_wantBehind 196 = .ok (.iconst (-1), 1) := dz_2 (n := 192) (r := 4) hz_X8_wantBehind_192 rfl
theorem dX8_wantBehind_197 : decode cX8_wantBehind 197 = .ok (.ireturn, 1) := dz_172 (n := 192) (r := 5) hz_X8_wantBehind_192 rfl
theorem dX8_wantBehind_198 : decode cX8_wantBehind 198 = .ok (.iload_n 3, 1) := dz_29 (n := 192) (r := 6) hz_X8_wantBehind_192 rfl
theorem dX8_wantBehind_199 : decode cX8_wantBehind 199 = .ok (.ifCond .eq 7, 3) := dz_153 (n := 192) (r := 7) hz_X8_wantBehind_192 rfl (by decide +kernel)
theorem dX8_wantBehind_202 : decode cX8_wantBehind 202 = .ok (.iconst 5, 1) := dz_8 (n := 192) (r := 10) hz_X8_wantBehind_192 rfl
theorem dX8_wantBehind_203 : decode cX8_wantBehind 203 = .ok (.goto 4, 3) := dz_167 (n := 192) (r := 11) hz_X8_wantBehind_192 rfl (by decide +kernel)
theorem dX8_wantBehind_206 : decode cX8_wantBehind 206 = .ok (.iconst (-1), 1) := dz_2 (n := 192) (r := 14) hz_X8_wantBehind_192 rfl
theorem dX8_wantBehind_207 : decode cX8_wantBehind 207 = .ok (.ireturn, 1) := dz_172 (n := 192) (r := 15) hz_X8_wantBehind_192 rfl
theorem dX8_wantBehind_208 : decode cX8_wantBehind 208 = .ok (.iload_n 2, 1) := dz_28 (n := 192) (r := 16) hz_X8_wantBehind_192 rfl
theorem dX8_wantBehind_209 : decode cX8_wantBehind 209 = .ok (.ifCond .eq 7, 3) := dz_153 (n := 192) (r := 17) hz_X8_wantBehind_192 rfl (by decide +kernel)
theorem dX8_wantBehind_212 : decode cX8_wantBehind 212 = .ok (.iconst 5, 1) := dz_8 (n := 192) (r := 20) hz_X8_wantBehind_192 rfl
theorem dX8_wantBehind_213 : decode cX8_wantBehind 213 = .ok (.goto 4, 3) := dz_167 (n := 192) (r := 21) hz_X8_wantBehind_192 rfl (by decide +kernel)
theorem dX8_wantBehind_216 : decode cX8_wantBehind 216 = .ok (.iconst (-1), 1) := dz_2 (n := 192) (r := 24) hz_X8_wantBehind_192 rfl
theorem dX8_wantBehind_217 : decode cX8_wantBehind 217 = .ok (.ireturn, 1) := dz_172 (n := 192) (r := 25) hz_X8_wantBehind_192 rfl
theorem dX8_wantBehind_218 : decode cX8_wantBehind 218 = .ok (.iload_n 2, 1) := dz_28 (n := 192) (r := 26) hz_X8_wantBehind_192 rfl
theorem dX8_wantBehind_219 : decode cX8_wantBehind 219 = .ok (.ifCond .eq 8, 3) := dz_153 (n := 192) (r := 27) hz_X8_wantBehind_192 rfl (by decide +kernel)
theorem dX8_wantBehind_222 : decode cX8_wantBehind 222 = .ok (.bipush 12, 2) := dz_16 (n := 192) (r := 30) hz_X8_wantBehind_192 rfl rfl
theorem hz_X8_wantBehind_224 : (cX8_wantBehind.data.toList.drop 224).take 40 = [167, 0, 4, 2, 172, 27, 16, 13, 159, 0, 9, 27, 16, 14, 160, 0, 7, 6, 167, 0, 4, 2, 172, 28, 153, 0, 7, 6, 167, 0, 4, 2, 172, 2, 172] := by decide +kernel
theorem dX8_wantBehind_224 : decode cX8_wantBehind 224 = .ok (.goto 4, 3) := dz_167 (n := 224) (r := 0) hz_X8_wantBehind_224 rfl (by decide +kernel)
theorem dX8_wantBehind_227 : decode cX8_wantBehind 227 = .ok (.iconst (-1), 1) := dz_2 (n := 224) (r := 3) hz_X8_wantBehind_224 rfl
theorem dX8_wantBehind_228 : decode cX8_wantBehind 228 = .ok (.ireturn, 1) := dz_172 (n := 224) (r := 4) hz_X8_wantBehind_224 rfl
theorem dX8_wantBehind_229 : decode cX8_wantBehind 229 = .ok (.iload_n 1, 1) := dz_27 (n := 224) (r := 5) hz_X8_wantBehind_224 rfl
theorem dX8_wantBehind_230 : decode cX8_wantBehind 230 = .ok (.bipush 13, 2) := dz_16 (n := 224) (r := 6) hz_X8_wantBehind_224 rfl rfl
theorem dX8_wantBehind_232 : decode cX8_wantBehind 232 = .ok (.if_icmp .eq 9, 3) := dz_159 (n := 224) (r := 8) hz_X8_wantBehind_224 rfl (by decide +kernel)
theorem dX8_wantBehind_235 : decode cX8_wantBehind 235 = .ok (.iload_n 1, 1) := dz_27 (n := 224) (r := 11) hz_X8_wantBehind_224 rfl
theorem dX8_wantBehind_236 : decode cX8_wantBehind 236 = .ok (.bipush 14, 2) := dz_16 (n := 224) (r := 12) hz_X8_wantBehind_224 rfl rfl
theorem dX8_wantBehind_238 : decode cX8_wantBehind 238 = .ok (.if_icmp .ne 7, 3) := dz_160 (n := 224) (r := 14) hz_X8_wantBehind_224 rfl (by decide +kernel)
theorem dX8_wantBehind_241 : decode cX8_wantBehind 241 = .ok (.iconst 3, 1) := dz_6 (n := 224) (r := 17) hz_X8_wantBehind_224 rfl
theorem dX8_wantBehind_242 : decode cX8_wantBehind 242 = .ok (.goto 4, 3) := dz_167 (n := 224) (r := 18) hz_X8_wantBehind_224 rfl (by decide +kernel)
theorem dX8_wantBehind_245 : decode cX8_wantBehind 245 = .ok (.iconst (-1), 1) := dz_2 (n := 224) (r := 21) hz_X8_wantBehind_224 rfl
theorem dX8_wantBehind_246 : decode cX8_wantBehind 246 = .ok (.ireturn, 1) := dz_172 (n := 224) (r := 22) hz_X8_wantBehind_224 rfl
theorem dX8_wantBehind_247 : decode cX8_wantBehind 247 = .ok (.iload_n 2, 1) := dz_28 (n := 224) (r := 23) hz_X8_wantBehind_224 rfl
theorem dX8_wantBehind_248 : decode cX8_wantBehind 248 = .ok (.ifCond .eq 7, 3) := dz_153 (n := 224) (r := 24) hz_X8_wantBehind_224 rfl (by decide +kernel)
theorem dX8_wantBehind_251 : decode cX8_wantBehind 251 = .ok (.iconst 3, 1) := dz_6 (n := 224) (r := 27) hz_X8_wantBehind_224 rfl
theorem dX8_wantBehind_252 : decode cX8_wantBehind 252 = .ok (.goto 4, 3) := dz_167 (n := 224) (r := 28) hz_X8_wantBehind_224 rfl (by decide +kernel)
theorem dX8_wantBehind_255 : decode cX8_wantBehind 255 = .ok (.iconst (-1), 1) := dz_2 (n := 224) (r := 31) hz_X8_wantBehind_224 rfl
theorem hz_X8_wantBehind_256 : (cX8_wantBehind.data.toList.drop 256).take 40 = [172, 2, 172] := by decide +kernel
theorem dX8_wantBehind_256 : decode cX8_wantBehind 256 = .ok (.ireturn, 1) := dz_172 (n := 256) (r := 0) hz_X8_wantBehind_256 rfl
theorem dX8_wantBehind_257 : decode cX8_wantBehind 257 = .ok (.iconst (-1), 1) := dz_2 (n := 256) (r := 1) hz_X8_wantBehind_256 rfl
theorem dX8_wantBehind_258 : decode cX8_wantBehind 258 = .ok (.ireturn, 1) := dz_172 (n := 256) (r := 2) hz_X8_wantBehind_256 rfl
theorem hz_X8_wantInTell_0 : (cX8_wantInTell.data.toList.drop 0).take 40 = [26, 170, 0, 0, 0, 0, 0, 76, 0, 0, 0, 6, 0, 0, 0, 15, 0, 0, 0, 55, 0, 0, 0, 57, 0, 0, 0, 59, 0, 0, 0, 61, 0, 0, 0, 64, 0, 0, 0, 67] := by decide +kernel
theorem dX8_wantInTell_0 : decode cX8_wantInTell 0 = .ok (.iload_n 0, 1) := dz_26 (n := 0) (r := 0) hz_X8_wantInTell_0 rfl
theorem dX8_wantInTell_1 : decode cX8_wantInTell 1 = .ok (.tableswitch 76 6 15 #[55, 57, 59, 61, 64, 67, 70, 76, 76, 73], 55) := by decide +kernel
theorem hz_X8_wantInTell_32 : (cX8_wantInTell.data.toList.drop 32).take 40 = [0, 0, 0, 64, 0, 0, 0, 67, 0, 0, 0, 70, 0, 0, 0, 76, 0, 0, 0, 76, 0, 0, 0, 73, 8, 172, 8, 172, 8, 172, 16, 7, 172, 16, 8, 172, 16, 10, 172, 16] := by decide +kernel
theorem dX8_wantInTell_56 : decode cX8_wantInTell 56 = .ok (.iconst 5, 1) := dz_8 (n := 32) (r := 24) hz_X8_wantInTell_32 rfl
theorem dX8_wantInTell_57 : decode cX8_wantInTell 57 = .ok (.ireturn, 1) := dz_172 (n := 32) (r := 25) hz_X8_wantInTell_32 rfl
theorem dX8_wantInTell_58 : decode cX8_wantInTell 58 = .ok (.iconst 5, 1) := dz_8 (n := 32) (r := 26) hz_X8_wantInTell_32 rfl
theorem dX8_wantInTell_59 : decode cX8_wantInTell 59 = .ok (.ireturn, 1) := dz_172 (n := 32) (r := 27) hz_X8_wantInTell_32 rfl
theorem dX8_wantInTell_60 : decode cX8_wantInTell 60 = .ok (.iconst 5, 1) := dz_8 (n := 32) (r := 28) hz_X8_wantInTell_32 rfl
theorem dX8_wantInTell_61 : decode cX8_wantInTell 61 = .ok (.ireturn, 1) := dz_172 (n := 32) (r := 29) hz_X8_wantInTell_32 rfl
theorem dX8_wantInTell_62 : decode cX8_wantInTell 62 = .ok (.bipush 7, 2) := dz_16 (n := 32) (r := 30) hz_X8_wantInTell_32 rfl rfl
theorem hz_X8_wantInTell_64 : (cX8_wantInTell.data.toList.drop 64).take 40 = [172, 16, 8, 172, 16, 10, 172, 16, 11, 172, 16, 13, 172, 2, 172] := by decide +kernel
theorem dX8_wantInTell_64 : decode cX8_wantInTell 64 = .ok (.ireturn, 1) := dz_172 (n := 64) (r := 0) hz_X8_wantInTell_64 rfl
theorem dX8_wantInTell_65 : decode cX8_wantInTell 65 = .ok (.bipush 8, 2) := dz_16 (n := 64) (r := 1) hz_X8_wantInTell_64 rfl rfl
theorem dX8_wantInTell_67 : decode cX8_wantInTell 67 = .ok (.ireturn, 1) := dz_172 (n := 64) (r := 3) hz_X8_wantInTell_64 rfl
theorem dX8_wantInTell_68 : decode cX8_wantInTell 68 = .ok (.bipush 10, 2) := dz_16 (n := 64) (r := 4) hz_X8_wantInTell_64 rfl rfl
theorem dX8_wantInTell_70 : decode cX8_wantInTell 70 = .ok (.ireturn, 1) := dz_172 (n := 64) (r := 6) hz_X8_wantInTell_64 rfl
theorem dX8_wantInTell_71 : decode cX8_wantInTell 71 = .ok (.bipush 11, 2) := dz_16 (n := 64) (r := 7) hz_X8_wantInTell_64 rfl rfl
theorem dX8_wantInTell_73 : decode cX8_wantInTell 73 = .ok (.ireturn, 1) := dz_172 (n := 64) (r := 9) hz_X8_wantInTell_64 rfl
theorem dX8_wantInTell_74 : decode cX8_wantInTell 74 = .ok (.bipush 13, 2) := dz_16 (n := 64) (r := 10) hz_X8_wantInTell_64 rfl rfl
theorem dX8_wantInTell_76 : decode cX8_wantInTell 76 = .ok (.ireturn, 1) := dz_172 (n := 64) (r := 12) hz_X8_wantInTell_64 rfl
theorem dX8_wantInTell_77 : decode cX8_wantInTell 77 = .ok (.iconst (-1), 1) := dz_2 (n := 64) (r := 13) hz_X8_wantInTell_64 rfl
theorem dX8_wantInTell_78 : decode cX8_wantInTell 78 = .ok (.ireturn, 1) := dz_172 (n := 64) (r := 14) hz_X8_wantInTell_64 rfl
theorem hz_X9_init_0 : (cX9_init.data.toList.drop 0).take 40 = [42, 183, 0, 3, 42, 17, 4, 0, 188, 10, 181, 0, 9, 42, 17, 1, 33, 188, 10, 181, 0, 15, 42, 17, 4, 0, 188, 10, 181, 0, 18, 42, 17, 4, 0, 188, 10, 181, 0, 21] := by decide +kernel
theorem dX9_init_0 : decode cX9_init 0 = .ok (.aload_n 0, 1) := dz_42 (n := 0) (r := 0) hz_X9_init_0 rfl
theorem dX9_init_1 : decode cX9_init 1 = .ok (.invokespecial 3, 3) := dz_183 (n := 0) (r := 1) hz_X9_init_0 rfl rfl
theorem dX9_init_4 : decode cX9_init 4 = .ok (.aload_n 0, 1) := dz_42 (n := 0) (r := 4) hz_X9_init_0 rfl
theorem dX9_init_5 : decode cX9_init 5 = .ok (.sipush 1024, 3) := dz_17 (n := 0) (r := 5) hz_X9_init_0 rfl (by decide +kernel)
theorem dX9_init_8 : decode cX9_init 8 = .ok (.newarray .int, 2) := dz_188_10 (n := 0) (r := 8) hz_X9_init_0 rfl
theorem dX9_init_10 : decode cX9_init 10 = .ok (.putfield 9, 3) := dz_181 (n := 0) (r := 10) hz_X9_init_0 rfl rfl
theorem dX9_init_13 : decode cX9_init 13 = .ok (.aload_n 0, 1) := dz_42 (n := 0) (r := 13) hz_X9_init_0 rfl
theorem dX9_init_14 : decode cX9_init 14 = .ok (.sipush 289, 3) := dz_17 (n := 0) (r := 14) hz_X9_init_0 rfl (by decide +kernel)
theorem dX9_init_17 : decode cX9_init 17 = .ok (.newarray .int, 2) := dz_188_10 (n := 0) (r := 17) hz_X9_init_0 rfl
theorem dX9_init_19 : decode cX9_init 19 = .ok (.putfield 15, 3) := dz_181 (n := 0) (r := 19) hz_X9_init_0 rfl rfl
theorem dX9_init_22 : decode cX9_init 22 = .ok (.aload_n 0, 1) := dz_42 (n := 0) (r := 22) hz_X9_init_0 rfl
theorem dX9_init_23 : decode cX9_init 23 = .ok (.sipush 1024, 3) := dz_17 (n := 0) (r := 23) hz_X9_init_0 rfl (by decide +kernel)
theorem dX9_init_26 : decode cX9_init 26 = .ok (.newarray .int, 2) := dz_188_10 (n := 0) (r := 26) hz_X9_init_0 rfl
theorem dX9_init_28 : decode cX9_init 28 = .ok (.putfield 18, 3) := dz_181 (n := 0) (r := 28) hz_X9_init_0 rfl rfl
theorem dX9_init_31 : decode cX9_init 31 = .ok (.aload_n 0, 1) := dz_42 (n := 0) (r := 31) hz_X9_init_0 rfl
theorem hz_X9_init_32 : (cX9_init.data.toList.drop 32).take 40 = [17, 4, 0, 188, 10, 181, 0, 21, 42, 17, 4, 0, 188, 11, 181, 0, 24, 42, 2, 181, 0, 28, 177] := by decide +kernel
theorem dX9_init_32 : decode cX9_init 32 = .ok (.sipush 1024, 3) := dz_17 (n := 32) (r := 0) hz_X9_init_32 rfl (by decide +kernel)
theorem dX9_init_35 : decode cX9_init 35 = .ok (.newarray .int, 2) := dz_188_10 (n := 32) (r := 3) hz_X9_init_32 rfl
theorem dX9_init_37 : decode cX9_init 37 = .ok (.putfield 21, 3) := dz_181 (n := 32) (r := 5) hz_X9_init_32 rfl rfl
theorem dX9_init_40 : decode cX9_init 40 = .ok (.aload_n 0, 1) := dz_42 (n := 32) (r := 8) hz_X9_init_32 rfl
theorem dX9_init_41 : decode cX9_init 41 = .ok (.sipush 1024, 3) := dz_17 (n := 32) (r := 9) hz_X9_init_32 rfl (by decide +kernel)
theorem dX9_init_44 : decode cX9_init 44 = .ok (.newarray .long, 2) := dz_188_11 (n := 32) (r := 12) hz_X9_init_32 rfl
theorem dX9_init_46 : decode cX9_init 46 = .ok (.putfield 24, 3) := dz_181 (n := 32) (r := 14) hz_X9_init_32 rfl rfl
theorem dX9_init_49 : decode cX9_init 49 = .ok (.aload_n 0, 1) := dz_42 (n := 32) (r := 17) hz_X9_init_32 rfl
theorem dX9_init_50 : decode cX9_init 50 = .ok (.iconst (-1), 1) := dz_2 (n := 32) (r := 18) hz_X9_init_32 rfl
theorem dX9_init_51 : decode cX9_init 51 = .ok (.putfield 28, 3) := dz_181 (n := 32) (r := 19) hz_X9_init_32 rfl rfl
theorem dX9_init_54 : decode cX9_init 54 = .ok (.return_, 1) := dz_177 (n := 32) (r := 22) hz_X9_init_32 rfl
theorem hz_X9_sort_0 : (cX9_sort.data.toList.drop 0).take 40 = [42, 43, 181, 0, 32, 42, 45, 181, 0, 36, 42, 21, 4, 181, 0, 40, 42, 3, 181, 0, 43, 3, 54, 5, 21, 5, 17, 1, 33, 162, 0, 36, 42, 180, 0, 15, 21, 5, 42, 180] := by decide +kernel
theorem dX9_sort_0 : decode cX9_sort 0 = .ok (.aload_n 0, 1) := dz_42 (n := 0) (r := 0) hz_X9_sort_0 rfl
theorem dX9_sort_1 : decode cX9_sort 1 = .ok (.aload_n 1, 1) := dz_43 (n := 0) (r := 1) hz_X9_sort_0 rfl
theorem dX9_sort_2 : decode cX9_sort 2 = .ok (.putfield 32, 3) := dz_181 (n := 0) (r := 2) hz_X9_sort_0 rfl rfl
theorem dX9_sort_5 : decode cX9_sort 5 = .ok (.aload_n 0, 1) := dz_42 (n := 0) (r := 5) hz_X9_sort_0 rfl
theorem dX9_sort_6 : decode cX9_sort 6 = .ok (.aload_n 3, 1) := dz_45 (n := 0) (r := 6) hz_X9_sort_0 rfl
theorem dX9_sort_7 : decode cX9_sort 7 = .ok (.putfield 36, 3) := dz_181 (n := 0) (r := 7) hz_X9_sort_0 rfl rfl
theorem dX9_sort_10 : decode cX9_sort 10 = .ok (.aload_n 0, 1) := dz_42 (n := 0) (r := 10) hz_X9_sort_0 rfl
theorem dX9_sort_11 : decode cX9_sort 11 = .ok (.iload 4, 2) := dz_21 (n := 0) (r := 11) hz_X9_sort_0 rfl rfl
theorem dX9_sort_13 : decode cX9_sort 13 = .ok (.putfield 40, 3) := dz_181 (n := 0) (r := 13) hz_X9_sort_0 rfl rfl
theorem dX9_sort_16 : decode cX9_sort 16 = .ok (.aload_n 0, 1) := dz_42 (n := 0) (r := 16) hz_X9_sort_0 rfl
theorem dX9_sort_17 : decode cX9_sort 17 = .ok (.iconst 0, 1) := dz_3 (n := 0) (r := 17) hz_X9_sort_0 rfl
theorem dX9_sort_18 : decode cX9_sort 18 = .ok (.putfield 43, 3) := dz_181 (n := 0) (r := 18) hz_X9_sort_0 rfl rfl
theorem dX9_sort_21 : decode cX9_sort 21 = .ok (.iconst 0, 1) := dz_3 (n := 0) (r := 21) hz_X9_sort_0 rfl
theorem dX9_sort_22 : decode cX9_sort 22 = .ok (.istore 5, 2) := dz_54 (n := 0) (r := 22) hz_X9_sort_0 rfl rfl
theorem dX9_sort_24 : decode cX9_sort 24 = .ok (.iload 5, 2) := dz_21 (n := 0) (r := 24) hz_X9_sort_0 rfl rfl
theorem dX9_sort_26 : decode cX9_sort 26 = .ok (.sipush 289, 3) := dz_17 (n := 0) (r := 26) hz_X9_sort_0 rfl (by decide +kernel)
theorem dX9_sort_29 : decode cX9_sort 29 = .ok (.if_icmp .ge 36, 3) := dz_162 (n := 0) (r := 29) hz_X9_sort_0 rfl (by decide +kernel)
theorem hz_X9_sort_32 : (cX9_sort.data.toList.drop 32).take 40 = [42, 180, 0, 15, 21, 5, 42, 180, 0, 43, 79, 42, 89, 180, 0, 43, 44, 180, 0, 46, 21, 5, 46, 96, 181, 0, 43, 132, 5, 1, 167, 255, 218, 42, 180, 0, 40, 158, 0, 21] := by decide +kernel
theorem dX9_sort_32 : decode cX9_sort 32 = .ok (.aload_n 0, 1) := dz_42 (n := 32) (r := 0) hz_X9_sort_32 rfl
theorem dX9_sort_33 : decode cX9_sort 33 = .ok (.getfield 15, 3) := dz_180 (n := 32) (r := 1) hz_X9_sort_32 rfl rfl
theorem dX9_sort_36 : decode cX9_sort 36 = .ok (.iload 5, 2) := dz_21 (n := 32) (r := 4) hz_X9_sort_32 rfl rfl
theorem dX9_sort_38 : decode cX9_sort 38 = .ok (.aload_n 0, 1) := dz_42 (n := 32) (r := 6) hz_X9_sort_32 rfl
theorem dX9_sort_39 : decode cX9_sort 39 = .ok (.getfield 43, 3) := dz_180 (n := 32) (r := 7) hz_X9_sort_32 rfl rfl
theorem dX9_sort_42 : decode cX9_sort 42 = .ok (.iastore, 1) := dz_79 (n := 32) (r := 10) hz_X9_sort_32 rfl
theorem dX9_sort_43 : decode cX9_sort 43 = .ok (.aload_n 0, 1) := dz_42 (n := 32) (r := 11) hz_X9_sort_32 rfl
theorem dX9_sort_44 : decode cX9_sort 44 = .ok (.dup, 1) := dz_89 (n := 32) (r := 12) hz_X9_sort_32 rfl
theorem dX9_sort_45 : decode cX9_sort 45 = .ok (.getfield 43, 3) := dz_180 (n := 32) (r := 13) hz_X9_sort_32 rfl rfl
theorem dX9_sort_48 : decode cX9_sort 48 = .ok (.aload_n 2, 1) := dz_44 (n := 32) (r := 16) hz_X9_sort_32 rfl
theorem dX9_sort_49 : decode cX9_sort 49 = .ok (.getfield 46, 3) := dz_180 (n := 32) (r := 17) hz_X9_sort_32 rfl rfl
theorem dX9_sort_52 : decode cX9_sort 52 = .ok (.iload 5, 2) := dz_21 (n := 32) (r := 20) hz_X9_sort_32 rfl rfl
theorem dX9_sort_54 : decode cX9_sort 54 = .ok (.iaload, 1) := dz_46 (n := 32) (r := 22) hz_X9_sort_32 rfl
theorem dX9_sort_55 : decode cX9_sort 55 = .ok (.iadd, 1) := dz_96 (n := 32) (r := 23) hz_X9_sort_32 rfl
theorem dX9_sort_56 : decode cX9_sort 56 = .ok (.putfield 43, 3) := dz_181 (n := 32) (r := 24) hz_X9_sort_32 rfl rfl
theorem dX9_sort_59 : decode cX9_sort 59 = .ok (.iinc 5 1, 3) := dz_132 (n := 32) (r := 27) hz_X9_sort_32 rfl rfl rfl
theorem dX9_sort_62 : decode cX9_sort 62 = .ok (.goto (-38), 3) := dz_167 (n := 32) (r := 30) hz_X9_sort_32 rfl (by decide +kernel)
theorem hz_X9_sort_64 : (cX9_sort.data.toList.drop 64).take 40 = [218, 42, 180, 0, 40, 158, 0, 21, 42, 180, 0, 40, 16, 10, 163, 0, 12, 4, 42, 180, 0, 40, 120, 167, 0, 4, 3, 54, 5, 3, 54, 6, 21, 6, 21, 5, 162, 0, 34, 45] := by decide +kernel
theorem dX9_sort_65 : decode cX9_sort 65 = .ok (.aload_n 0, 1) := dz_42 (n := 64) (r := 1) hz_X9_sort_64 rfl
theorem dX9_sort_66 : decode cX9_sort 66 = .ok (.getfield 40, 3) := dz_180 (n := 64) (r := 2) hz_X9_sort_64 rfl rfl
theorem dX9_sort_69 : decode cX9_sort 69 = .ok (.ifCond .le 21, 3) := dz_158 (n := 64) (r := 5) hz_X9_sort_64 rfl (by decide +kernel)
theorem dX9_sort_72 : decode cX9_sort 72 = .ok (.aload_n 0, 1) := dz_42 (n := 64) (r := 8) hz_X9_sort_64 rfl
theorem dX9_sort_73 : decode cX9_sort 73 = .ok (.getfield 40, 3) := dz_180 (n := 64) (r := 9) hz_X9_sort_64 rfl rfl
theorem dX9_sort_76 : decode cX9_sort 76 = .ok (.bipush 10, 2) := dz_16 (n := 64) (r := 12) hz_X9_sort_64 rfl rfl
theorem dX9_sort_78 : decode cX9_sort 78 = .ok (.if_icmp .gt 12, 3) := dz_163 (n := 64) (r := 14) hz_X9_sort_64 rfl (by decide +kernel)
theorem dX9_sort_81 : decode cX9_sort 81 = .ok (.iconst 1, 1) := dz_4 (n := 64) (r := 17) hz_X9_sort_64 rfl
theorem dX9_sort_82 : decode cX9_sort 82 = .ok (.aload_n 0, 1) := dz_42 (n := 64) (r := 18) hz_X9_sort_64 rfl
theorem dX9_sort_83 : decode cX9_sort 83 = .ok (.getfield 40, 3) := dz_180 (n := 64) (r := 19) hz_X9_sort_64 rfl rfl
theorem dX9_sort_86 : decode cX9_sort 86 = .ok (.ishl, 1) := dz_120 (n := 64) (r := 22) hz_X9_sort_64 rfl
theorem dX9_sort_87 : decode cX9_sort 87 = .ok (.goto 4, 3) := dz_167 (n := 64) (r := 23) hz_X9_sort_64 rfl (by decide +kernel)
theorem dX9_sort_90 : decode cX9_sort 90 = .ok (.iconst 0, 1) := dz_3 (n := 64) (r := 26) hz_X9_sort_64 rfl
theorem dX9_sort_91 : decode cX9_sort 91 = .ok (.istore 5, 2) := dz_54 (n := 64) (r := 27) hz_X9_sort_64 rfl rfl
theorem dX9_sort_93 : decode cX9_sort 93 = .ok (.iconst 0, 1) := dz_3 (n := 64) (r := 29) hz_X9_sort_64 rfl
theorem dX9_sort_94 : decode cX9_sort 94 = .ok (.istore 6, 2) := dz_54 (n := 64) (r := 30) hz_X9_sort_64 rfl rfl
theorem hz_X9_sort_96 : (cX9_sort.data.toList.drop 96).take 40 = [21, 6, 21, 5, 162, 0, 34, 45, 21, 6, 182, 0, 50, 153, 0, 19, 42, 21, 6, 43, 21, 6, 182, 0, 56, 17, 0, 144, 96, 182, 0, 62, 132, 6, 1, 167, 255, 221, 177] := by decide +kernel
theorem dX9_sort_96 : decode cX9_sort 96 = .ok (.iload 6, 2) := dz_21 (n := 96) (r := 0) hz_X9_sort_96 rfl rfl
theorem dX9_sort_98 : decode cX9_sort 98 = .ok (.iload 5, 2) := dz_21 (n := 96) (r := 2) hz_X9_sort_96 rfl rfl
theorem dX9_sort_100 : decode cX9_sort 100 = .ok (.if_icmp .ge 34, 3) := dz_162 (n := 96) (r := 4) hz_X9_sort_96 rfl (by decide +kernel)
theorem dX9_sort_103 : decode cX9_sort 103 = .ok (.aload_n 3, 1) := dz_45 (n := 96) (r := 7) hz_X9_sort_96 rfl
theorem dX9_sort_104 : decode cX9_sort 104 = .ok (.iload 6, 2) := dz_21 (n := 96) (r := 8) hz_X9_sort_96 rfl rfl
theorem dX9_sort_106 : decode cX9_sort 106 = .ok (.invokevirtual 50, 3) := dz_182 (n := 96) (r := 10) hz_X9_sort_96 rfl rfl
theorem dX9_sort_109 : decode cX9_sort 109 = .ok (.ifCond .eq 19, 3) := dz_153 (n := 96) (r := 13) hz_X9_sort_96 rfl (by decide +kernel)
theorem dX9_sort_112 : decode cX9_sort 112 = .ok (.aload_n 0, 1) := dz_42 (n := 96) (r := 16) hz_X9_sort_96 rfl
theorem dX9_sort_113 : decode cX9_sort 113 = .ok (.iload 6, 2) := dz_21 (n := 96) (r := 17) hz_X9_sort_96 rfl rfl
theorem dX9_sort_115 : decode cX9_sort 115 = .ok (.aload_n 1, 1) := dz_43 (n := 96) (r := 19) hz_X9_sort_96 rfl
theorem dX9_sort_116 : decode cX9_sort 116 = .ok (.iload 6, 2) := dz_21 (n := 96) (r := 20) hz_X9_sort_96 rfl rfl
theorem dX9_sort_118 : decode cX9_sort 118 = .ok (.invokevirtual 56, 3) := dz_182 (n := 96) (r := 22) hz_X9_sort_96 rfl rfl
theorem dX9_sort_121 : decode cX9_sort 121 = .ok (.sipush 144, 3) := dz_17 (n := 96) (r := 25) hz_X9_sort_96 rfl (by decide +kernel)
theorem dX9_sort_124 : decode cX9_sort 124 = .ok (.iadd, 1) := dz_96 (n := 96) (r := 28) hz_X9_sort_96 rfl
theorem dX9_sort_125 : decode cX9_sort 125 = .ok (.invokevirtual 62, 3) := dz_182 (n := 96) (r := 29) hz_X9_sort_96 rfl rfl
theorem hz_X9_sort_128 : (cX9_sort.data.toList.drop 128).take 40 = [132, 6, 1, 167, 255, 221, 177] := by decide +kernel
theorem dX9_sort_128 : decode cX9_sort 128 = .ok (.iinc 6 1, 3) := dz_132 (n := 128) (r := 0) hz_X9_sort_128 rfl rfl rfl
theorem dX9_sort_131 : decode cX9_sort 131 = .ok (.goto (-35), 3) := dz_167 (n := 128) (r := 3) hz_X9_sort_128 rfl (by decide +kernel)
theorem dX9_sort_134 : decode cX9_sort 134 = .ok (.return_, 1) := dz_177 (n := 128) (r := 6) hz_X9_sort_128 rfl
theorem hz_X9_putInOrder_0 : (cX9_putInOrder.data.toList.drop 0).take 40 = [28, 155, 0, 53, 28, 17, 1, 33, 162, 0, 46, 42, 180, 0, 15, 28, 46, 155, 0, 37, 42, 180, 0, 15, 28, 46, 17, 4, 0, 162, 0, 25, 42, 180, 0, 9, 42, 180, 0, 15] := by decide +kernel
theorem dX9_putInOrder_0 : decode cX9_putInOrder 0 = .ok (.iload_n 2, 1) := dz_28 (n := 0) (r := 0) hz_X9_putInOrder_0 rfl
theorem dX9_putInOrder_1 : decode cX9_putInOrder 1 = .ok (.ifCond .lt 53, 3) := dz_155 (n := 0) (r := 1) hz_X9_putInOrder_0 rfl (by decide +kernel)
theorem dX9_putInOrder_4 : decode cX9_putInOrder 4 = .ok (.iload_n 2, 1) := dz_28 (n := 0) (r := 4) hz_X9_putInOrder_0 rfl
theorem dX9_putInOrder_5 : decode cX9_putInOrder 5 = .ok (.sipush 289, 3) := dz_17 (n := 0) (r := 5) hz_X9_putInOrder_0 rfl (by decide +kernel)
theorem dX9_putInOrder_8 : decode cX9_putInOrder 8 = .ok (.if_icmp .ge 46, 3) := dz_162 (n := 0) (r := 8) hz_X9_putInOrder_0 rfl (by decide +kernel)
theorem dX9_putInOrder_11 : decode cX9_putInOrder 11 = .ok (.aload_n 0, 1) := dz_42 (n := 0) (r := 11) hz_X9_putInOrder_0 rfl
theorem dX9_putInOrder_12 : decode cX9_putInOrder 12 = .ok (.getfield 15, 3) := dz_180 (n := 0) (r := 12) hz_X9_putInOrder_0 rfl rfl
theorem dX9_putInOrder_15 : decode cX9_putInOrder 15 = .ok (.iload_n 2, 1) := dz_28 (n := 0) (r := 15) hz_X9_putInOrder_0 rfl
theorem dX9_putInOrder_16 : decode cX9_putInOrder 16 = .ok (.iaload, 1) := dz_46 (n := 0) (r := 16) hz_X9_putInOrder_0 rfl
theorem dX9_putInOrder_17 : decode cX9_putInOrder 17 = .ok (.ifCond .lt 37, 3) := dz_155 (n := 0) (r := 17) hz_X9_putInOrder_0 rfl (by decide +kernel)
theorem dX9_putInOrder_20 : decode cX9_putInOrder 20 = .ok (.aload_n 0, 1) := dz_42 (n := 0) (r := 20) hz_X9_putInOrder_0 rfl
theorem dX9_putInOrder_21 : decode cX9_putInOrder 21 = .ok (.getfield 15, 3) := dz_180 (n := 0) (r := 21) hz_X9_putInOrder_0 rfl rfl
theorem dX9_putInOrder_24 : decode cX9_putInOrder 24 = .ok (.iload_n 2, 1) := dz_28 (n := 0) (r := 24) hz_X9_putInOrder_0 rfl
theorem dX9_putInOrder_25 : decode cX9_putInOrder 25 = .ok (.iaload, 1) := dz_46 (n := 0) (r := 25) hz_X9_putInOrder_0 rfl
theorem dX9_putInOrder_26 : decode cX9_putInOrder 26 = .ok (.sipush 1024, 3) := dz_17 (n := 0) (r := 26) hz_X9_putInOrder_0 rfl (by decide +kernel)
theorem dX9_putInOrder_29 : decode cX9_putInOrder 29 = .ok (.if_icmp .ge 25, 3) := dz_162 (n := 0) (r := 29) hz_X9_putInOrder_0 rfl (by decide +kernel)
theorem hz_X9_putInOrder_32 : (cX9_putInOrder.data.toList.drop 32).take 40 = [42, 180, 0, 9, 42, 180, 0, 15, 28, 46, 27, 79, 42, 180, 0, 15, 28, 92, 46, 4, 96, 79, 177] := by decide +kernel
theorem dX9_putInOrder_32 : decode cX9_putInOrder 32 = .ok (.aload_n 0, 1) := dz_42 (n := 32) (r := 0) hz_X9_putInOrder_32 rfl
theorem dX9_putInOrder_33 : decode cX9_putInOrder 33 = .ok (.getfield 9, 3) := dz_180 (n := 32) (r := 1) hz_X9_putInOrder_32 rfl rfl
theorem dX9_putInOrder_36 : decode cX9_putInOrder 36 = .ok (.aload_n 0, 1) := dz_42 (n := 32) (r := 4) hz_X9_putInOrder_32 rfl
theorem dX9_putInOrder_37 : decode cX9_putInOrder 37 = .ok (.getfield 15, 3) := dz_180 (n := 32) (r := 5) hz_X9_putInOrder_32 rfl rfl
theorem dX9_putInOrder_40 : decode cX9_putInOrder 40 = .ok (.iload_n 2, 1) := dz_28 (n := 32) (r := 8) hz_X9_putInOrder_32 rfl
theorem dX9_putInOrder_41 : decode cX9_putInOrder 41 = .ok (.iaload, 1) := dz_46 (n := 32) (r := 9) hz_X9_putInOrder_32 rfl
theorem dX9_putInOrder_42 : decode cX9_putInOrder 42 = .ok (.iload_n 1, 1) := dz_27 (n := 32) (r := 10) hz_X9_putInOrder_32 rfl
theorem dX9_putInOrder_43 : decode cX9_putInOrder 43 = .ok (.iastore, 1) := dz_79 (n := 32) (r := 11) hz_X9_putInOrder_32 rfl
theorem dX9_putInOrder_44 : decode cX9_putInOrder 44 = .ok (.aload_n 0, 1) := dz_42 (n := 32) (r := 12) hz_X9_putInOrder_32 rfl
theorem dX9_putInOrder_45 : decode cX9_putInOrder 45 = .ok (.getfield 15, 3) := dz_180 (n := 32) (r := 13) hz_X9_putInOrder_32 rfl rfl
theorem dX9_putInOrder_48 : decode cX9_putInOrder 48 = .ok (.iload_n 2, 1) := dz_28 (n := 32) (r := 16) hz_X9_putInOrder_32 rfl
theorem dX9_putInOrder_49 : decode cX9_putInOrder 49 = .ok (.dup2, 1) := dz_92 (n := 32) (r := 17) hz_X9_putInOrder_32 rfl
theorem dX9_putInOrder_50 : decode cX9_putInOrder 50 = .ok (.iaload, 1) := dz_46 (n := 32) (r := 18) hz_X9_putInOrder_32 rfl
theorem dX9_putInOrder_51 : decode cX9_putInOrder 51 = .ok (.iconst 1, 1) := dz_4 (n := 32) (r := 19) hz_X9_putInOrder_32 rfl
theorem dX9_putInOrder_52 : decode cX9_putInOrder 52 = .ok (.iadd, 1) := dz_96 (n := 32) (r := 20) hz_X9_putInOrder_32 rfl
theorem dX9_putInOrder_53 : decode cX9_putInOrder 53 = .ok (.iastore, 1) := dz_79 (n := 32) (r := 21) hz_X9_putInOrder_32 rfl
theorem dX9_putInOrder_54 : decode cX9_putInOrder 54 = .ok (.return_, 1) := dz_177 (n := 32) (r := 22) hz_X9_putInOrder_32 rfl
theorem hz_X9_lowest_0 : (cX9_lowest.data.toList.drop 0).take 40 = [42, 180, 0, 9, 3, 46, 172] := by decide +kernel
theorem dX9_lowest_0 : decode cX9_lowest 0 = .ok (.aload_n 0, 1) := dz_42 (n := 0) (r := 0) hz_X9_lowest_0 rfl
theorem dX9_lowest_1 : decode cX9_lowest 1 = .ok (.getfield 9, 3) := dz_180 (n := 0) (r := 1) hz_X9_lowest_0 rfl rfl
theorem dX9_lowest_4 : decode cX9_lowest 4 = .ok (.iconst 0, 1) := dz_3 (n := 0) (r := 4) hz_X9_lowest_0 rfl
theorem dX9_lowest_5 : decode cX9_lowest 5 = .ok (.iaload, 1) := dz_46 (n := 0) (r := 5) hz_X9_lowest_0 rfl
theorem dX9_lowest_6 : decode cX9_lowest 6 = .ok (.ireturn, 1) := dz_172 (n := 0) (r := 6) hz_X9_lowest_0 rfl
theorem hz_X9_energyOf_0 : (cX9_energyOf.data.toList.drop 0).take 40 = [42, 180, 0, 32, 199, 0, 7, 3, 167, 0, 11, 42, 180, 0, 32, 27, 182, 0, 56, 172] := by decide +kernel
theorem dX9_energyOf_0 : decode cX9_energyOf 0 = .ok (.aload_n 0, 1) := dz_42 (n := 0) (r := 0) hz_X9_energyOf_0 rfl
theorem dX9_energyOf_1 : decode cX9_energyOf 1 = .ok (.getfield 32, 3) := dz_180 (n := 0) (r := 1) hz_X9_energyOf_0 rfl rfl
theorem dX9_energyOf_4 : decode cX9_energyOf 4 = .ok (.ifnonnull 7, 3) := dz_199 (n := 0) (r := 4) hz_X9_energyOf_0 rfl (by decide +kernel)
theorem dX9_energyOf_7 : decode cX9_energyOf 7 = .ok (.iconst 0, 1) := dz_3 (n := 0) (r := 7) hz_X9_energyOf_0 rfl
theorem dX9_energyOf_8 : decode cX9_energyOf 8 = .ok (.goto 11, 3) := dz_167 (n := 0) (r := 8) hz_X9_energyOf_0 rfl (by decide +kernel)
theorem dX9_energyOf_11 : decode cX9_energyOf 11 = .ok (.aload_n 0, 1) := dz_42 (n := 0) (r := 11) hz_X9_energyOf_0 rfl
theorem dX9_energyOf_12 : decode cX9_energyOf 12 = .ok (.getfield 32, 3) := dz_180 (n := 0) (r := 12) hz_X9_energyOf_0 rfl rfl
theorem dX9_energyOf_15 : decode cX9_energyOf 15 = .ok (.iload_n 1, 1) := dz_27 (n := 0) (r := 15) hz_X9_energyOf_0 rfl
theorem dX9_energyOf_16 : decode cX9_energyOf 16 = .ok (.invokevirtual 56, 3) := dz_182 (n := 0) (r := 16) hz_X9_energyOf_0 rfl rfl
theorem dX9_energyOf_19 : decode cX9_energyOf 19 = .ok (.ireturn, 1) := dz_172 (n := 0) (r := 19) hz_X9_energyOf_0 rfl
theorem hz_X9_canTurn_0 : (cX9_canTurn.data.toList.drop 0).take 40 = [42, 180, 0, 36, 198, 0, 18, 42, 180, 0, 36, 27, 182, 0, 66, 154, 0, 7, 4, 167, 0, 4, 3, 172] := by decide +kernel
theorem dX9_canTurn_0 : decode cX9_canTurn 0 = .ok (.aload_n 0, 1) := dz_42 (n := 0) (r := 0) hz_X9_canTurn_0 rfl
theorem dX9_canTurn_1 : decode cX9_canTurn 1 = .ok (.getfield 36, 3) := dz_180 (n := 0) (r := 1) hz_X9_canTurn_0 rfl rfl
theorem dX9_canTurn_4 : decode cX9_canTurn 4 = .ok (.ifnull 18, 3) := dz_198 (n := 0) (r := 4) hz_X9_canTurn_0 rfl (by decide +kernel)
theorem dX9_canTurn_7 : decode cX9_canTurn 7 = .ok (.aload_n 0, 1) := dz_42 (n := 0) (r := 7) hz_X9_canTurn_0 rfl
theorem dX9_canTurn_8 : decode cX9_canTurn 8 = .ok (.getfield 36, 3) := dz_180 (n := 0) (r := 8) hz_X9_canTurn_0 rfl rfl
theorem dX9_canTurn_11 : decode cX9_canTurn 11 = .ok (.iload_n 1, 1) := dz_27 (n := 0) (r := 11) hz_X9_canTurn_0 rfl
theorem dX9_canTurn_12 : decode cX9_canTurn 12 = .ok (.invokevirtual 66, 3) := dz_182 (n := 0) (r := 12) hz_X9_canTurn_0 rfl rfl
theorem dX9_canTurn_15 : decode cX9_canTurn 15 = .ok (.ifCond .ne 7, 3) := dz_154 (n := 0) (r := 15) hz_X9_canTurn_0 rfl (by decide +kernel)
theorem dX9_canTurn_18 : decode cX9_canTurn 18 = .ok (.iconst 1, 1) := dz_4 (n := 0) (r := 18) hz_X9_canTurn_0 rfl
theorem dX9_canTurn_19 : decode cX9_canTurn 19 = .ok (.goto 4, 3) := dz_167 (n := 0) (r := 19) hz_X9_canTurn_0 rfl (by decide +kernel)
theorem dX9_canTurn_22 : decode cX9_canTurn 22 = .ok (.iconst 0, 1) := dz_3 (n := 0) (r := 22) hz_X9_canTurn_0 rfl
theorem dX9_canTurn_23 : decode cX9_canTurn 23 = .ok (.ireturn, 1) := dz_172 (n := 0) (r := 23) hz_X9_canTurn_0 rfl
theorem hz_X9_isState_0 : (cX9_isState.data.toList.drop 0).take 40 = [26, 155, 0, 14, 26, 17, 4, 0, 162, 0, 7, 4, 167, 0, 4, 3, 172] := by decide +kernel
theorem dX9_isState_0 : decode cX9_isState 0 = .ok (.iload_n 0, 1) := dz_26 (n := 0) (r := 0) hz_X9_isState_0 rfl
theorem dX9_isState_1 : decode cX9_isState 1 = .ok (.ifCond .lt 14, 3) := dz_155 (n := 0) (r := 1) hz_X9_isState_0 rfl (by decide +kernel)
theorem dX9_isState_4 : decode cX9_isState 4 = .ok (.iload_n 0, 1) := dz_26 (n := 0) (r := 4) hz_X9_isState_0 rfl
theorem dX9_isState_5 : decode cX9_isState 5 = .ok (.sipush 1024, 3) := dz_17 (n := 0) (r := 5) hz_X9_isState_0 rfl (by decide +kernel)
theorem dX9_isState_8 : decode cX9_isState 8 = .ok (.if_icmp .ge 7, 3) := dz_162 (n := 0) (r := 8) hz_X9_isState_0 rfl (by decide +kernel)
theorem dX9_isState_11 : decode cX9_isState 11 = .ok (.iconst 1, 1) := dz_4 (n := 0) (r := 11) hz_X9_isState_0 rfl
theorem dX9_isState_12 : decode cX9_isState 12 = .ok (.goto 4, 3) := dz_167 (n := 0) (r := 12) hz_X9_isState_0 rfl (by decide +kernel)
theorem dX9_isState_15 : decode cX9_isState 15 = .ok (.iconst 0, 1) := dz_3 (n := 0) (r := 15) hz_X9_isState_0 rfl
theorem dX9_isState_16 : decode cX9_isState 16 = .ok (.ireturn, 1) := dz_172 (n := 0) (r := 16) hz_X9_isState_0 rfl
theorem hz_X9_isWet_0 : (cX9_isWet.data.toList.drop 0).take 40 = [27, 184, 0, 69, 153, 0, 17, 42, 180, 0, 18, 27, 46, 2, 159, 0, 7, 4, 167, 0, 4, 3, 172] := by decide +kernel
theorem dX9_isWet_0 : decode cX9_isWet 0 = .ok (.iload_n 1, 1) := dz_27 (n := 0) (r := 0) hz_X9_isWet_0 rfl
theorem dX9_isWet_1 : decode cX9_isWet 1 = .ok (.invokestatic 69, 3) := dz_184 (n := 0) (r := 1) hz_X9_isWet_0 rfl rfl
theorem dX9_isWet_4 : decode cX9_isWet 4 = .ok (.ifCond .eq 17, 3) := dz_153 (n := 0) (r := 4) hz_X9_isWet_0 rfl (by decide +kernel)
theorem dX9_isWet_7 : decode cX9_isWet 7 = .ok (.aload_n 0, 1) := dz_42 (n := 0) (r := 7) hz_X9_isWet_0 rfl
theorem dX9_isWet_8 : decode cX9_isWet 8 = .ok (.getfield 18, 3) := dz_180 (n := 0) (r := 8) hz_X9_isWet_0 rfl rfl
theorem dX9_isWet_11 : decode cX9_isWet 11 = .ok (.iload_n 1, 1) := dz_27 (n := 0) (r := 11) hz_X9_isWet_0 rfl
theorem dX9_isWet_12 : decode cX9_isWet 12 = .ok (.iaload, 1) := dz_46 (n := 0) (r := 12) hz_X9_isWet_0 rfl
theorem dX9_isWet_13 : decode cX9_isWet 13 = .ok (.iconst (-1), 1) := dz_2 (n := 0) (r := 13) hz_X9_isWet_0 rfl
theorem dX9_isWet_14 : decode cX9_isWet 14 = .ok (.if_icmp .eq 7, 3) := dz_159 (n := 0) (r := 14) hz_X9_isWet_0 rfl (by decide +kernel)
theorem dX9_isWet_17 : decode cX9_isWet 17 = .ok (.iconst 1, 1) := dz_4 (n := 0) (r := 17) hz_X9_isWet_0 rfl
theorem dX9_isWet_18 : decode cX9_isWet 18 = .ok (.goto 4, 3) := dz_167 (n := 0) (r := 18) hz_X9_isWet_0 rfl (by decide +kernel)
theorem dX9_isWet_21 : decode cX9_isWet 21 = .ok (.iconst 0, 1) := dz_3 (n := 0) (r := 21) hz_X9_isWet_0 rfl
theorem dX9_isWet_22 : decode cX9_isWet 22 = .ok (.ireturn, 1) := dz_172 (n := 0) (r := 22) hz_X9_isWet_0 rfl
theorem hz_X9_rootOf_0 : (cX9_rootOf.data.toList.drop 0).take 40 = [27, 61, 3, 62, 29, 17, 4, 0, 162, 0, 64, 42, 28, 182, 0, 72, 153, 0, 56, 42, 42, 180, 0, 18, 28, 46, 182, 0, 72, 153, 0, 43, 42, 180, 0, 18, 28, 46, 28, 159] := by decide +kernel
theorem dX9_rootOf_0 : decode cX9_rootOf 0 = .ok (.iload_n 1, 1) := dz_27 (n := 0) (r := 0) hz_X9_rootOf_0 rfl
theorem dX9_rootOf_1 : decode cX9_rootOf 1 = .ok (.istore_n 2, 1) := dz_61 (n := 0) (r := 1) hz_X9_rootOf_0 rfl
theorem dX9_rootOf_2 : decode cX9_rootOf 2 = .ok (.iconst 0, 1) := dz_3 (n := 0) (r := 2) hz_X9_rootOf_0 rfl
theorem dX9_rootOf_3 : decode cX9_rootOf 3 = .ok (.istore_n 3, 1) := dz_62 (n := 0) (r := 3) hz_X9_rootOf_0 rfl
theorem dX9_rootOf_4 : decode cX9_rootOf 4 = .ok (.iload_n 3, 1) := dz_29 (n := 0) (r := 4) hz_X9_rootOf_0 rfl
theorem dX9_rootOf_5 : decode cX9_rootOf 5 = .ok (.sipush 1024, 3) := dz_17 (n := 0) (r := 5) hz_X9_rootOf_0 rfl (by decide +kernel)
theorem dX9_rootOf_8 : decode cX9_rootOf 8 = .ok (.if_icmp .ge 64, 3) := dz_162 (n := 0) (r := 8) hz_X9_rootOf_0 rfl (by decide +kernel)
theorem dX9_rootOf_11 : decode cX9_rootOf 11 = .ok (.aload_n 0, 1) := dz_42 (n := 0) (r := 11) hz_X9_rootOf_0 rfl
theorem dX9_rootOf_12 : decode cX9_rootOf 12 = .ok (.iload_n 2, 1) := dz_28 (n := 0) (r := 12) hz_X9_rootOf_0 rfl
theorem dX9_rootOf_13 : decode cX9_rootOf 13 = .ok (.invokevirtual 72, 3) := dz_182 (n := 0) (r := 13) hz_X9_rootOf_0 rfl rfl
theorem dX9_rootOf_16 : decode cX9_rootOf 16 = .ok (.ifCond .eq 56, 3) := dz_153 (n := 0) (r := 16) hz_X9_rootOf_0 rfl (by decide +kernel)
theorem dX9_rootOf_19 : decode cX9_rootOf 19 = .ok (.aload_n 0, 1) := dz_42 (n := 0) (r := 19) hz_X9_rootOf_0 rfl
theorem dX9_rootOf_20 : decode cX9_rootOf 20 = .ok (.aload_n 0, 1) := dz_42 (n := 0) (r := 20) hz_X9_rootOf_0 rfl
theorem dX9_rootOf_21 : decode cX9_rootOf 21 = .ok (.getfield 18, 3) := dz_180 (n := 0) (r := 21) hz_X9_rootOf_0 rfl rfl
theorem dX9_rootOf_24 : decode cX9_rootOf 24 = .ok (.iload_n 2, 1) := dz_28 (n := 0) (r := 24) hz_X9_rootOf_0 rfl
theorem dX9_rootOf_25 : decode cX9_rootOf 25 = .ok (.iaload, 1) := dz_46 (n := 0) (r := 25) hz_X9_rootOf_0 rfl
theorem dX9_rootOf_26 : decode cX9_rootOf 26 = .ok (.invokevirtual 72, 3) := dz_182 (n := 0) (r := 26) hz_X9_rootOf_0 rfl rfl
theorem dX9_rootOf_29 : decode cX9_rootOf 29 = .ok (.ifCond .eq 43, 3) := dz_153 (n := 0) (r := 29) hz_X9_rootOf_0 rfl (by decide +kernel)
theorem hz_X9_rootOf_32 : (cX9_rootOf.data.toList.drop 32).take 40 = [42, 180, 0, 18, 28, 46, 28, 159, 0, 33, 42, 180, 0, 18, 28, 42, 180, 0, 18, 42, 180, 0, 18, 28, 46, 46, 79, 42, 180, 0, 18, 28, 46, 61, 132, 3, 1, 167, 255, 191] := by decide +kernel
theorem dX9_rootOf_32 : decode cX9_rootOf 32 = .ok (.aload_n 0, 1) := dz_42 (n := 32) (r := 0) hz_X9_rootOf_32 rfl
theorem dX9_rootOf_33 : decode cX9_rootOf 33 = .ok (.getfield 18, 3) := dz_180 (n := 32) (r := 1) hz_X9_rootOf_32 rfl rfl
theorem dX9_rootOf_36 : decode cX9_rootOf 36 = .ok (.iload_n 2, 1) := dz_28 (n := 32) (r := 4) hz_X9_rootOf_32 rfl
theorem dX9_rootOf_37 : decode cX9_rootOf 37 = .ok (.iaload, 1) := dz_46 (n := 32) (r := 5) hz_X9_rootOf_32 rfl
theorem dX9_rootOf_38 : decode cX9_rootOf 38 = .ok (.iload_n 2, 1) := dz_28 (n := 32) (r := 6) hz_X9_rootOf_32 rfl
theorem dX9_rootOf_39 : decode cX9_rootOf 39 = .ok (.if_icmp .eq 33, 3) := dz_159 (n := 32) (r := 7) hz_X9_rootOf_32 rfl (by decide +kernel)
theorem dX9_rootOf_42 : decode cX9_rootOf 42 = .ok (.aload_n 0, 1) := dz_42 (n := 32) (r := 10) hz_X9_rootOf_32 rfl
theorem dX9_rootOf_43 : decode cX9_rootOf 43 = .ok (.getfield 18, 3) := dz_180 (n := 32) (r := 11) hz_X9_rootOf_32 rfl rfl
theorem dX9_rootOf_46 : decode cX9_rootOf 46 = .ok (.iload_n 2, 1) := dz_28 (n := 32) (r := 14) hz_X9_rootOf_32 rfl
theorem dX9_rootOf_47 : decode cX9_rootOf 47 = .ok (.aload_n 0, 1) := dz_42 (n := 32) (r := 15) hz_X9_rootOf_32 rfl
theorem dX9_rootOf_48 : decode cX9_rootOf 48 = .ok (.getfield 18, 3) := dz_180 (n := 32) (r := 16) hz_X9_rootOf_32 rfl rfl
theorem dX9_rootOf_51 : decode cX9_rootOf 51 = .ok (.aload_n 0, 1) := dz_42 (n := 32) (r := 19) hz_X9_rootOf_32 rfl
theorem dX9_rootOf_52 : decode cX9_rootOf 52 = .ok (.getfield 18, 3) := dz_180 (n := 32) (r := 20) hz_X9_rootOf_32 rfl rfl
theorem dX9_rootOf_55 : decode cX9_rootOf 55 = .ok (.iload_n 2, 1) := dz_28 (n := 32) (r := 23) hz_X9_rootOf_32 rfl
theorem dX9_rootOf_56 : decode cX9_rootOf 56 = .ok (.iaload, 1) := dz_46 (n := 32) (r := 24) hz_X9_rootOf_32 rfl
theorem dX9_rootOf_57 : decode cX9_rootOf 57 = .ok (.iaload, 1) := dz_46 (n := 32) (r := 25) hz_X9_rootOf_32 rfl
theorem dX9_rootOf_58 : decode cX9_rootOf 58 = .ok (.iastore, 1) := dz_79 (n := 32) (r := 26) hz_X9_rootOf_32 rfl
theorem dX9_rootOf_59 : decode cX9_rootOf 59 = .ok (.aload_n 0, 1) := dz_42 (n := 32) (r := 27) hz_X9_rootOf_32 rfl
theorem dX9_rootOf_60 : decode cX9_rootOf 60 = .ok (.getfield 18, 3) := dz_180 (n := 32) (r := 28) hz_X9_rootOf_32 rfl rfl
theorem dX9_rootOf_63 : decode cX9_rootOf 63 = .ok (.iload_n 2, 1) := dz_28 (n := 32) (r := 31) hz_X9_rootOf_32 rfl
theorem hz_X9_rootOf_64 : (cX9_rootOf.data.toList.drop 64).take 40 = [46, 61, 132, 3, 1, 167, 255, 191, 28, 172] := by decide +kernel
theorem dX9_rootOf_64 : decode cX9_rootOf 64 = .ok (.iaload, 1) := dz_46 (n := 64) (r := 0) hz_X9_rootOf_64 rfl
theorem dX9_rootOf_65 : decode cX9_rootOf 65 = .ok (.istore_n 2, 1) := dz_61 (n := 64) (r := 1) hz_X9_rootOf_64 rfl
theorem dX9_rootOf_66 : decode cX9_rootOf 66 = .ok (.iinc 3 1, 3) := dz_132 (n := 64) (r := 2) hz_X9_rootOf_64 rfl rfl rfl
theorem dX9_rootOf_69 : decode cX9_rootOf 69 = .ok (.goto (-65), 3) := dz_167 (n := 64) (r := 5) hz_X9_rootOf_64 rfl (by decide +kernel)
theorem dX9_rootOf_72 : decode cX9_rootOf 72 = .ok (.iload_n 2, 1) := dz_28 (n := 64) (r := 8) hz_X9_rootOf_64 rfl
theorem dX9_rootOf_73 : decode cX9_rootOf 73 = .ok (.ireturn, 1) := dz_172 (n := 64) (r := 9) hz_X9_rootOf_64 rfl
theorem hz_X9_join_0 : (cX9_join.data.toList.drop 0).take 40 = [42, 27, 182, 0, 75, 62, 42, 28, 182, 0, 75, 54, 4, 29, 21, 4, 159, 0, 28, 29, 184, 0, 69, 153, 0, 21, 42, 180, 0, 18, 29, 21, 4, 79, 42, 89, 180, 0, 78, 4] := by decide +kernel
theorem dX9_join_0 : decode cX9_join 0 = .ok (.aload_n 0, 1) := dz_42 (n := 0) (r := 0) hz_X9_join_0 rfl
theorem dX9_join_1 : decode cX9_join 1 = .ok (.iload_n 1, 1) := dz_27 (n := 0) (r := 1) hz_X9_join_0 rfl
theorem dX9_join_2 : decode cX9_join 2 = .ok (.invokevirtual 75, 3) := dz_182 (n := 0) (r := 2) hz_X9_join_0 rfl rfl
theorem dX9_join_5 : decode cX9_join 5 = .ok (.istore_n 3, 1) := dz_62 (n := 0) (r := 5) hz_X9_join_0 rfl
theorem dX9_join_6 : decode cX9_join 6 = .ok (.aload_n 0, 1) := dz_42 (n := 0) (r := 6) hz_X9_join_0 rfl
theorem dX9_join_7 : decode cX9_join 7 = .ok (.iload_n 2, 1) := dz_28 (n := 0) (r := 7) hz_X9_join_0 rfl
theorem dX9_join_8 : decode cX9_join 8 = .ok (.invokevirtual 75, 3) := dz_182 (n := 0) (r := 8) hz_X9_join_0 rfl rfl
theorem dX9_join_11 : decode cX9_join 11 = .ok (.istore 4, 2) := dz_54 (n := 0) (r := 11) hz_X9_join_0 rfl rfl
theorem dX9_join_13 : decode cX9_join 13 = .ok (.iload_n 3, 1) := dz_29 (n := 0) (r := 13) hz_X9_join_0 rfl
theorem dX9_join_14 : decode cX9_join 14 = .ok (.iload 4, 2) := dz_21 (n := 0) (r := 14) hz_X9_join_0 rfl rfl
theorem dX9_join_16 : decode cX9_join 16 = .ok (.if_icmp .eq 28, 3) := dz_159 (n := 0) (r := 16) hz_X9_join_0 rfl (by decide +kernel)
theorem dX9_join_19 : decode cX9_join 19 = .ok (.iload_n 3, 1) := dz_29 (n := 0) (r := 19) hz_X9_join_0 rfl
theorem dX9_join_20 : decode cX9_join 20 = .ok (.invokestatic 69, 3) := dz_184 (n := 0) (r := 20) hz_X9_join_0 rfl rfl
theorem dX9_join_23 : decode cX9_join 23 = .ok (.ifCond .eq 21, 3) := dz_153 (n := 0) (r := 23) hz_X9_join_0 rfl (by decide +kernel)
theorem dX9_join_26 : decode cX9_join 26 = .ok (.aload_n 0, 1) := dz_42 (n := 0) (r := 26) hz_X9_join_0 rfl
theorem dX9_join_27 : decode cX9_join 27 = .ok (.getfield 18, 3) := dz_180 (n := 0) (r := 27) hz_X9_join_0 rfl rfl
theorem dX9_join_30 : decode cX9_join 30 = .ok (.iload_n 3, 1) := dz_29 (n := 0) (r := 30) hz_X9_join_0 rfl
theorem dX9_join_31 : decode cX9_join 31 = .ok (.iload 4, 2) := dz_21 (n := 0) (r := 31) hz_X9_join_0 rfl rfl
theorem hz_X9_join_32 : (cX9_join.data.toList.drop 32).take 40 = [4, 79, 42, 89, 180, 0, 78, 4, 100, 181, 0, 78, 177] := by decide +kernel
theorem dX9_join_33 : decode cX9_join 33 = .ok (.iastore, 1) := dz_79 (n := 32) (r := 1) hz_X9_join_32 rfl
theorem dX9_join_34 : decode cX9_join 34 = .ok (.aload_n 0, 1) := dz_42 (n := 32) (r := 2) hz_X9_join_32 rfl
theorem dX9_join_35 : decode cX9_join 35 = .ok (.dup, 1) := dz_89 (n := 32) (r := 3) hz_X9_join_32 rfl
theorem dX9_join_36 : decode cX9_join 36 = .ok (.getfield 78, 3) := dz_180 (n := 32) (r := 4) hz_X9_join_32 rfl rfl
theorem dX9_join_39 : decode cX9_join 39 = .ok (.iconst 1, 1) := dz_4 (n := 32) (r := 7) hz_X9_join_32 rfl
theorem dX9_join_40 : decode cX9_join 40 = .ok (.isub, 1) := dz_100 (n := 32) (r := 8) hz_X9_join_32 rfl
theorem dX9_join_41 : decode cX9_join 41 = .ok (.putfield 78, 3) := dz_181 (n := 32) (r := 9) hz_X9_join_32 rfl rfl
theorem dX9_join_44 : decode cX9_join 44 = .ok (.return_, 1) := dz_177 (n := 32) (r := 12) hz_X9_join_32 rfl
theorem hz_X9_dry_0 : (cX9_dry.data.toList.drop 0).take 40 = [42, 180, 0, 18, 2, 184, 0, 81, 42, 3, 181, 0, 78, 177] := by decide +kernel
theorem dX9_dry_0 : decode cX9_dry 0 = .ok (.aload_n 0, 1) := dz_42 (n := 0) (r := 0) hz_X9_dry_0 rfl
theorem dX9_dry_1 : decode cX9_dry 1 = .ok (.getfield 18, 3) := dz_180 (n := 0) (r := 1) hz_X9_dry_0 rfl rfl
theorem dX9_dry_4 : decode cX9_dry 4 = .ok (.iconst (-1), 1) := dz_2 (n := 0) (r := 4) hz_X9_dry_0 rfl
theorem dX9_dry_5 : decode cX9_dry 5 = .ok (.invokestatic 81, 3) := dz_184 (n := 0) (r := 5) hz_X9_dry_0 rfl rfl
theorem dX9_dry_8 : decode cX9_dry 8 = .ok (.aload_n 0, 1) := dz_42 (n := 0) (r := 8) hz_X9_dry_0 rfl
theorem dX9_dry_9 : decode cX9_dry 9 = .ok (.iconst 0, 1) := dz_3 (n := 0) (r := 9) hz_X9_dry_0 rfl
theorem dX9_dry_10 : decode cX9_dry 10 = .ok (.putfield 78, 3) := dz_181 (n := 0) (r := 10) hz_X9_dry_0 rfl rfl
theorem dX9_dry_13 : decode cX9_dry 13 = .ok (.return_, 1) := dz_177 (n := 0) (r := 13) hz_X9_dry_0 rfl
theorem hz_X9_flood_0 : (cX9_flood.data.toList.drop 0).take 40 = [27, 184, 0, 69, 154, 0, 4, 177, 42, 180, 0, 18, 27, 27, 79, 42, 89, 180, 0, 78, 4, 96, 181, 0, 78, 3, 61, 28, 42, 180, 0, 40, 162, 0, 37, 27, 4, 28, 120, 130] := by decide +kernel
theorem dX9_flood_0 : decode cX9_flood 0 = .ok (.iload_n 1, 1) := dz_27 (n := 0) (r := 0) hz_X9_flood_0 rfl
theorem dX9_flood_1 : decode cX9_flood 1 = .ok (.invokestatic 69, 3) := dz_184 (n := 0) (r := 1) hz_X9_flood_0 rfl rfl
theorem dX9_flood_4 : decode cX9_flood 4 = .ok (.ifCond .ne 4, 3) := dz_154 (n := 0) (r := 4) hz_X9_flood_0 rfl (by decide +kernel)
theorem dX9_flood_7 : decode cX9_flood 7 = .ok (.return_, 1) := dz_177 (n := 0) (r := 7) hz_X9_flood_0 rfl
theorem dX9_flood_8 : decode cX9_flood 8 = .ok (.aload_n 0, 1) := dz_42 (n := 0) (r := 8) hz_X9_flood_0 rfl
theorem dX9_flood_9 : decode cX9_flood 9 = .ok (.getfield 18, 3) := dz_180 (n := 0) (r := 9) hz_X9_flood_0 rfl rfl
theorem dX9_flood_12 : decode cX9_flood 12 = .ok (.iload_n 1, 1) := dz_27 (n := 0) (r := 12) hz_X9_flood_0 rfl
theorem dX9_flood_13 : decode cX9_flood 13 = .ok (.iload_n 1, 1) := dz_27 (n := 0) (r := 13) hz_X9_flood_0 rfl
theorem dX9_flood_14 : decode cX9_flood 14 = .ok (.iastore, 1) := dz_79 (n := 0) (r := 14) hz_X9_flood_0 rfl
theorem dX9_flood_15 : decode cX9_flood 15 = .ok (.aload_n 0, 1) := dz_42 (n := 0) (r := 15) hz_X9_flood_0 rfl
theorem dX9_flood_16 : decode cX9_flood 16 = .ok (.dup, 1) := dz_89 (n := 0) (r := 16) hz_X9_flood_0 rfl
theorem dX9_flood_17 : decode cX9_flood 17 = .ok (.getfield 78, 3) := dz_180 (n := 0) (r := 17) hz_X9_flood_0 rfl rfl
theorem dX9_flood_20 : decode cX9_flood 20 = .ok (.iconst 1, 1) := dz_4 (n := 0) (r := 20) hz_X9_flood_0 rfl
theorem dX9_flood_21 : decode cX9_flood 21 = .ok (.iadd, 1) := dz_96 (n := 0) (r := 21) hz_X9_flood_0 rfl
theorem dX9_flood_22 : decode cX9_flood 22 = .ok (.putfield 78, 3) := dz_181 (n := 0) (r := 22) hz_X9_flood_0 rfl rfl
theorem dX9_flood_25 : decode cX9_flood 25 = .ok (.iconst 0, 1) := dz_3 (n := 0) (r := 25) hz_X9_flood_0 rfl
theorem dX9_flood_26 : decode cX9_flood 26 = .ok (.istore_n 2, 1) := dz_61 (n := 0) (r := 26) hz_X9_flood_0 rfl
theorem dX9_flood_27 : decode cX9_flood 27 = .ok (.iload_n 2, 1) := dz_28 (n := 0) (r := 27) hz_X9_flood_0 rfl
theorem dX9_flood_28 : decode cX9_flood 28 = .ok (.aload_n 0, 1) := dz_42 (n := 0) (r := 28) hz_X9_flood_0 rfl
theorem dX9_flood_29 : decode cX9_flood 29 = .ok (.getfield 40, 3) := dz_180 (n := 0) (r := 29) hz_X9_flood_0 rfl rfl
theorem hz_X9_flood_32 : (cX9_flood.data.toList.drop 32).take 40 = [162, 0, 37, 27, 4, 28, 120, 130, 62, 42, 28, 182, 0, 87, 153, 0, 17, 42, 29, 182, 0, 72, 153, 0, 9, 42, 27, 29, 182, 0, 90, 132, 2, 1, 167, 255, 217, 177] := by decide +kernel
theorem dX9_flood_32 : decode cX9_flood 32 = .ok (.if_icmp .ge 37, 3) := dz_162 (n := 32) (r := 0) hz_X9_flood_32 rfl (by decide +kernel)
theorem dX9_flood_35 : decode cX9_flood 35 = .ok (.iload_n 1, 1) := dz_27 (n := 32) (r := 3) hz_X9_flood_32 rfl
theorem dX9_flood_36 : decode cX9_flood 36 = .ok (.iconst 1, 1) := dz_4 (n := 32) (r := 4) hz_X9_flood_32 rfl
theorem dX9_flood_37 : decode cX9_flood 37 = .ok (.iload_n 2, 1) := dz_28 (n := 32) (r := 5) hz_X9_flood_32 rfl
theorem dX9_flood_38 : decode cX9_flood 38 = .ok (.ishl, 1) := dz_120 (n := 32) (r := 6) hz_X9_flood_32 rfl
theorem dX9_flood_39 : decode cX9_flood 39 = .ok (.ixor, 1) := dz_130 (n := 32) (r := 7) hz_X9_flood_32 rfl
theorem dX9_flood_40 : decode cX9_flood 40 = .ok (.istore_n 3, 1) := dz_62 (n := 32) (r := 8) hz_X9_flood_32 rfl
theorem dX9_flood_41 : decode cX9_flood 41 = .ok (.aload_n 0, 1) := dz_42 (n := 32) (r := 9) hz_X9_flood_32 rfl
theorem dX9_flood_42 : decode cX9_flood 42 = .ok (.iload_n 2, 1) := dz_28 (n := 32) (r := 10) hz_X9_flood_32 rfl
theorem dX9_flood_43 : decode cX9_flood 43 = .ok (.invokevirtual 87, 3) := dz_182 (n := 32) (r := 11) hz_X9_flood_32 rfl rfl
theorem dX9_flood_46 : decode cX9_flood 46 = .ok (.ifCond .eq 17, 3) := dz_153 (n := 32) (r := 14) hz_X9_flood_32 rfl (by decide +kernel)
theorem dX9_flood_49 : decode cX9_flood 49 = .ok (.aload_n 0, 1) := dz_42 (n := 32) (r := 17) hz_X9_flood_32 rfl
theorem dX9_flood_50 : decode cX9_flood 50 = .ok (.iload_n 3, 1) := dz_29 (n := 32) (r := 18) hz_X9_flood_32 rfl
theorem dX9_flood_51 : decode cX9_flood 51 = .ok (.invokevirtual 72, 3) := dz_182 (n := 32) (r := 19) hz_X9_flood_32 rfl rfl
theorem dX9_flood_54 : decode cX9_flood 54 = .ok (.ifCond .eq 9, 3) := dz_153 (n := 32) (r := 22) hz_X9_flood_32 rfl (by decide +kernel)
theorem dX9_flood_57 : decode cX9_flood 57 = .ok (.aload_n 0, 1) := dz_42 (n := 32) (r := 25) hz_X9_flood_32 rfl
theorem dX9_flood_58 : decode cX9_flood 58 = .ok (.iload_n 1, 1) := dz_27 (n := 32) (r := 26) hz_X9_flood_32 rfl
theorem dX9_flood_59 : decode cX9_flood 59 = .ok (.iload_n 3, 1) := dz_29 (n := 32) (r := 27) hz_X9_flood_32 rfl
theorem dX9_flood_60 : decode cX9_flood 60 = .ok (.invokevirtual 90, 3) := dz_182 (n := 32) (r := 28) hz_X9_flood_32 rfl rfl
theorem dX9_flood_63 : decode cX9_flood 63 = .ok (.iinc 2 1, 3) := dz_132 (n := 32) (r := 31) hz_X9_flood_32 rfl rfl rfl
theorem hz_X9_flood_64 : (cX9_flood.data.toList.drop 64).take 40 = [2, 1, 167, 255, 217, 177] := by decide +kernel
theorem dX9_flood_66 : decode cX9_flood 66 = .ok (.goto (-39), 3) := dz_167 (n := 64) (r := 2) hz_X9_flood_64 rfl (by decide +kernel)
theorem dX9_flood_69 : decode cX9_flood 69 = .ok (.return_, 1) := dz_177 (n := 64) (r := 5) hz_X9_flood_64 rfl
theorem hz_X9_meetingEnergy_0 : (cX9_meetingEnergy.data.toList.drop 0).take 40 = [42, 182, 0, 93, 3, 54, 4, 21, 4, 42, 180, 0, 43, 162, 0, 99, 21, 4, 17, 4, 0, 162, 0, 91, 42, 180, 0, 9, 21, 4, 46, 54, 5, 42, 21, 5, 182, 0, 96, 29] := by decide +kernel
theorem dX9_meetingEnergy_0 : decode cX9_meetingEnergy 0 = .ok (.aload_n 0, 1) := dz_42 (n := 0) (r := 0) hz_X9_meetingEnergy_0 rfl
theorem dX9_meetingEnergy_1 : decode cX9_meetingEnergy 1 = .ok (.invokevirtual 93, 3) := dz_182 (n := 0) (r := 1) hz_X9_meetingEnergy_0 rfl rfl
theorem dX9_meetingEnergy_4 : decode cX9_meetingEnergy 4 = .ok (.iconst 0, 1) := dz_3 (n := 0) (r := 4) hz_X9_meetingEnergy_0 rfl
theorem dX9_meetingEnergy_5 : decode cX9_meetingEnergy 5 = .ok (.istore 4, 2) := dz_54 (n := 0) (r := 5) hz_X9_meetingEnergy_0 rfl rfl
theorem dX9_meetingEnergy_7 : decode cX9_meetingEnergy 7 = .ok (.iload 4, 2) := dz_21 (n := 0) (r := 7) hz_X9_meetingEnergy_0 rfl rfl
theorem dX9_meetingEnergy_9 : decode cX9_meetingEnergy 9 = .ok (.aload_n 0, 1) := dz_42 (n := 0) (r := 9) hz_X9_meetingEnergy_0 rfl
theorem dX9_meetingEnergy_10 : decode cX9_meetingEnergy 10 = .ok (.getfield 43, 3) := dz_180 (n := 0) (r := 10) hz_X9_meetingEnergy_0 rfl rfl
theorem dX9_meetingEnergy_13 : decode cX9_meetingEnergy 13 = .ok (.if_icmp .ge 99, 3) := dz_162 (n := 0) (r := 13) hz_X9_meetingEnergy_0 rfl (by decide +kernel)
theorem dX9_meetingEnergy_16 : decode cX9_meetingEnergy 16 = .ok (.iload 4, 2) := dz_21 (n := 0) (r := 16) hz_X9_meetingEnergy_0 rfl rfl
theorem dX9_meetingEnergy_18 : decode cX9_meetingEnergy 18 = .ok (.sipush 1024, 3) := dz_17 (n := 0) (r := 18) hz_X9_meetingEnergy_0 rfl (by decide +kernel)
theorem dX9_meetingEnergy_21 : decode cX9_meetingEnergy 21 = .ok (.if_icmp .ge 91, 3) := dz_162 (n := 0) (r := 21) hz_X9_meetingEnergy_0 rfl (by decide +kernel)
theorem dX9_meetingEnergy_24 : decode cX9_meetingEnergy 24 = .ok (.aload_n 0, 1) := dz_42 (n := 0) (r := 24) hz_X9_meetingEnergy_0 rfl
theorem dX9_meetingEnergy_25 : decode cX9_meetingEnergy 25 = .ok (.getfield 9, 3) := dz_180 (n := 0) (r := 25) hz_X9_meetingEnergy_0 rfl rfl
theorem dX9_meetingEnergy_28 : decode cX9_meetingEnergy 28 = .ok (.iload 4, 2) := dz_21 (n := 0) (r := 28) hz_X9_meetingEnergy_0 rfl rfl
theorem dX9_meetingEnergy_30 : decode cX9_meetingEnergy 30 = .ok (.iaload, 1) := dz_46 (n := 0) (r := 30) hz_X9_meetingEnergy_0 rfl
theorem dX9_meetingEnergy_31 : decode cX9_meetingEnergy 31 = .ok (.istore 5, 2) := dz_54 (n := 0) (r := 31) hz_X9_meetingEnergy_0 rfl rfl
theorem hz_X9_meetingEnergy_32 : (cX9_meetingEnergy.data.toList.drop 32).take 40 = [5, 42, 21, 5, 182, 0, 96, 29, 153, 0, 30, 42, 21, 5, 182, 0, 100, 42, 42, 182, 0, 103, 182, 0, 100, 160, 0, 13, 42, 21, 5, 42, 182, 0, 103, 182, 0, 90, 42, 27] := by decide +kernel
theorem dX9_meetingEnergy_33 : decode cX9_meetingEnergy 33 = .ok (.aload_n 0, 1) := dz_42 (n := 32) (r := 1) hz_X9_meetingEnergy_32 rfl
theorem dX9_meetingEnergy_34 : decode cX9_meetingEnergy 34 = .ok (.iload 5, 2) := dz_21 (n := 32) (r := 2) hz_X9_meetingEnergy_32 rfl rfl
theorem dX9_meetingEnergy_36 : decode cX9_meetingEnergy 36 = .ok (.invokevirtual 96, 3) := dz_182 (n := 32) (r := 4) hz_X9_meetingEnergy_32 rfl rfl
theorem dX9_meetingEnergy_39 : decode cX9_meetingEnergy 39 = .ok (.iload_n 3, 1) := dz_29 (n := 32) (r := 7) hz_X9_meetingEnergy_32 rfl
theorem dX9_meetingEnergy_40 : decode cX9_meetingEnergy 40 = .ok (.ifCond .eq 30, 3) := dz_153 (n := 32) (r := 8) hz_X9_meetingEnergy_32 rfl (by decide +kernel)
theorem dX9_meetingEnergy_43 : decode cX9_meetingEnergy 43 = .ok (.aload_n 0, 1) := dz_42 (n := 32) (r := 11) hz_X9_meetingEnergy_32 rfl
theorem dX9_meetingEnergy_44 : decode cX9_meetingEnergy 44 = .ok (.iload 5, 2) := dz_21 (n := 32) (r := 12) hz_X9_meetingEnergy_32 rfl rfl
theorem dX9_meetingEnergy_46 : decode cX9_meetingEnergy 46 = .ok (.invokevirtual 100, 3) := dz_182 (n := 32) (r := 14) hz_X9_meetingEnergy_32 rfl rfl
theorem dX9_meetingEnergy_49 : decode cX9_meetingEnergy 49 = .ok (.aload_n 0, 1) := dz_42 (n := 32) (r := 17) hz_X9_meetingEnergy_32 rfl
theorem dX9_meetingEnergy_50 : decode cX9_meetingEnergy 50 = .ok (.aload_n 0, 1) := dz_42 (n := 32) (r := 18) hz_X9_meetingEnergy_32 rfl
theorem dX9_meetingEnergy_51 : decode cX9_meetingEnergy 51 = .ok (.invokevirtual 103, 3) := dz_182 (n := 32) (r := 19) hz_X9_meetingEnergy_32 rfl rfl
theorem dX9_meetingEnergy_54 : decode cX9_meetingEnergy 54 = .ok (.invokevirtual 100, 3) := dz_182 (n := 32) (r := 22) hz_X9_meetingEnergy_32 rfl rfl
theorem dX9_meetingEnergy_57 : decode cX9_meetingEnergy 57 = .ok (.if_icmp .ne 13, 3) := dz_160 (n := 32) (r := 25) hz_X9_meetingEnergy_32 rfl (by decide +kernel)
theorem dX9_meetingEnergy_60 : decode cX9_meetingEnergy 60 = .ok (.aload_n 0, 1) := dz_42 (n := 32) (r := 28) hz_X9_meetingEnergy_32 rfl
theorem dX9_meetingEnergy_61 : decode cX9_meetingEnergy 61 = .ok (.iload 5, 2) := dz_21 (n := 32) (r := 29) hz_X9_meetingEnergy_32 rfl rfl
theorem dX9_meetingEnergy_63 : decode cX9_meetingEnergy 63 = .ok (.aload_n 0, 1) := dz_42 (n := 32) (r := 31) hz_X9_meetingEnergy_32 rfl
theorem hz_X9_meetingEnergy_64 : (cX9_meetingEnergy.data.toList.drop 64).take 40 = [182, 0, 103, 182, 0, 90, 42, 27, 182, 0, 72, 153, 0, 31, 42, 28, 182, 0, 72, 153, 0, 23, 42, 27, 182, 0, 75, 42, 28, 182, 0, 75, 160, 0, 10, 42, 21, 5, 182, 0] := by decide +kernel
theorem dX9_meetingEnergy_64 : decode cX9_meetingEnergy 64 = .ok (.invokevirtual 103, 3) := dz_182 (n := 64) (r := 0) hz_X9_meetingEnergy_64 rfl rfl
theorem dX9_meetingEnergy_67 : decode cX9_meetingEnergy 67 = .ok (.invokevirtual 90, 3) := dz_182 (n := 64) (r := 3) hz_X9_meetingEnergy_64 rfl rfl
theorem dX9_meetingEnergy_70 : decode cX9_meetingEnergy 70 = .ok (.aload_n 0, 1) := dz_42 (n := 64) (r := 6) hz_X9_meetingEnergy_64 rfl
theorem dX9_meetingEnergy_71 : decode cX9_meetingEnergy 71 = .ok (.iload_n 1, 1) := dz_27 (n := 64) (r := 7) hz_X9_meetingEnergy_64 rfl
theorem dX9_meetingEnergy_72 : decode cX9_meetingEnergy 72 = .ok (.invokevirtual 72, 3) := dz_182 (n := 64) (r := 8) hz_X9_meetingEnergy_64 rfl rfl
theorem dX9_meetingEnergy_75 : decode cX9_meetingEnergy 75 = .ok (.ifCond .eq 31, 3) := dz_153 (n := 64) (r := 11) hz_X9_meetingEnergy_64 rfl (by decide +kernel)
theorem dX9_meetingEnergy_78 : decode cX9_meetingEnergy 78 = .ok (.aload_n 0, 1) := dz_42 (n := 64) (r := 14) hz_X9_meetingEnergy_64 rfl
theorem dX9_meetingEnergy_79 : decode cX9_meetingEnergy 79 = .ok (.iload_n 2, 1) := dz_28 (n := 64) (r := 15) hz_X9_meetingEnergy_64 rfl
theorem dX9_meetingEnergy_80 : decode cX9_meetingEnergy 80 = .ok (.invokevirtual 72, 3) := dz_182 (n := 64) (r := 16) hz_X9_meetingEnergy_64 rfl rfl
theorem dX9_meetingEnergy_83 : decode cX9_meetingEnergy 83 = .ok (.ifCond .eq 23, 3) := dz_153 (n := 64) (r := 19) hz_X9_meetingEnergy_64 rfl (by decide +kernel)
theorem dX9_meetingEnergy_86 : decode cX9_meetingEnergy 86 = .ok (.aload_n 0, 1) := dz_42 (n := 64) (r := 22) hz_X9_meetingEnergy_64 rfl
theorem dX9_meetingEnergy_87 : decode cX9_meetingEnergy 87 = .ok (.iload_n 1, 1) := dz_27 (n := 64) (r := 23) hz_X9_meetingEnergy_64 rfl
theorem dX9_meetingEnergy_88 : decode cX9_meetingEnergy 88 = .ok (.invokevirtual 75, 3) := dz_182 (n := 64) (r := 24) hz_X9_meetingEnergy_64 rfl rfl
theorem dX9_meetingEnergy_91 : decode cX9_meetingEnergy 91 = .ok (.aload_n 0, 1) := dz_42 (n := 64) (r := 27) hz_X9_meetingEnergy_64 rfl
theorem dX9_meetingEnergy_92 : decode cX9_meetingEnergy 92 = .ok (.iload_n 2, 1) := dz_28 (n := 64) (r := 28) hz_X9_meetingEnergy_64 rfl
theorem dX9_meetingEnergy_93 : decode cX9_meetingEnergy 93 = .ok (.invokevirtual 75, 3) := dz_182 (n := 64) (r := 29) hz_X9_meetingEnergy_64 rfl rfl
theorem hz_X9_meetingEnergy_96 : (cX9_meetingEnergy.data.toList.drop 96).take 40 = [160, 0, 10, 42, 21, 5, 182, 0, 100, 172, 132, 4, 1, 167, 255, 154, 18, 107, 172] := by decide +kernel
theorem dX9_meetingEnergy_96 : decode cX9_meetingEnergy 96 = .ok (.if_icmp .ne 10, 3) := dz_160 (n := 96) (r := 0) hz_X9_meetingEnergy_96 rfl (by decide +kernel)
theorem dX9_meetingEnergy_99 : decode cX9_meetingEnergy 99 = .ok (.aload_n 0, 1) := dz_42 (n := 96) (r := 3) hz_X9_meetingEnergy_96 rfl
theorem dX9_meetingEnergy_100 : decode cX9_meetingEnergy 100 = .ok (.iload 5, 2) := dz_21 (n := 96) (r := 4) hz_X9_meetingEnergy_96 rfl rfl
theorem dX9_meetingEnergy_102 : decode cX9_meetingEnergy 102 = .ok (.invokevirtual 100, 3) := dz_182 (n := 96) (r := 6) hz_X9_meetingEnergy_96 rfl rfl
theorem dX9_meetingEnergy_105 : decode cX9_meetingEnergy 105 = .ok (.ireturn, 1) := dz_172 (n := 96) (r := 9) hz_X9_meetingEnergy_96 rfl
theorem dX9_meetingEnergy_106 : decode cX9_meetingEnergy 106 = .ok (.iinc 4 1, 3) := dz_132 (n := 96) (r := 10) hz_X9_meetingEnergy_96 rfl rfl rfl
theorem dX9_meetingEnergy_109 : decode cX9_meetingEnergy 109 = .ok (.goto (-102), 3) := dz_167 (n := 96) (r := 13) hz_X9_meetingEnergy_96 rfl (by decide +kernel)
theorem dX9_meetingEnergy_112 : decode cX9_meetingEnergy 112 = .ok (.ldc 107, 2) := dz_18 (n := 96) (r := 16) hz_X9_meetingEnergy_96 rfl rfl
theorem dX9_meetingEnergy_114 : decode cX9_meetingEnergy 114 = .ok (.ireturn, 1) := dz_172 (n := 96) (r := 18) hz_X9_meetingEnergy_96 rfl
theorem hz_X9_lakesBelow_0 : (cX9_lakesBelow.data.toList.drop 0).take 40 = [42, 182, 0, 93, 3, 61, 28, 42, 180, 0, 43, 162, 0, 40, 28, 17, 4, 0, 162, 0, 33, 42, 42, 180, 0, 9, 28, 46, 182, 0, 100, 27, 163, 0, 19, 42, 42, 180, 0, 9] := by decide +kernel
theorem dX9_lakesBelow_0 : decode cX9_lakesBelow 0 = .ok (.aload_n 0, 1) := dz_42 (n := 0) (r := 0) hz_X9_lakesBelow_0 rfl
theorem dX9_lakesBelow_1 : decode cX9_lakesBelow 1 = .ok (.invokevirtual 93, 3) := dz_182 (n := 0) (r := 1) hz_X9_lakesBelow_0 rfl rfl
theorem dX9_lakesBelow_4 : decode cX9_lakesBelow 4 = .ok (.iconst 0, 1) := dz_3 (n := 0) (r := 4) hz_X9_lakesBelow_0 rfl
theorem dX9_lakesBelow_5 : decode cX9_lakesBelow 5 = .ok (.istore_n 2, 1) := dz_61 (n := 0) (r := 5) hz_X9_lakesBelow_0 rfl
theorem dX9_lakesBelow_6 : decode cX9_lakesBelow 6 = .ok (.iload_n 2, 1) := dz_28 (n := 0) (r := 6) hz_X9_lakesBelow_0 rfl
theorem dX9_lakesBelow_7 : decode cX9_lakesBelow 7 = .ok (.aload_n 0, 1) := dz_42 (n := 0) (r := 7) hz_X9_lakesBelow_0 rfl
theorem dX9_lakesBelow_8 : decode cX9_lakesBelow 8 = .ok (.getfield 43, 3) := dz_180 (n := 0) (r := 8) hz_X9_lakesBelow_0 rfl rfl
theorem dX9_lakesBelow_11 : decode cX9_lakesBelow 11 = .ok (.if_icmp .ge 40, 3) := dz_162 (n := 0) (r := 11) hz_X9_lakesBelow_0 rfl (by decide +kernel)
theorem dX9_lakesBelow_14 : decode cX9_lakesBelow 14 = .ok (.iload_n 2, 1) := dz_28 (n := 0) (r := 14) hz_X9_lakesBelow_0 rfl
theorem dX9_lakesBelow_15 : decode cX9_lakesBelow 15 = .ok (.sipush 1024, 3) := dz_17 (n := 0) (r := 15) hz_X9_lakesBelow_0 rfl (by decide +kernel)
theorem dX9_lakesBelow_18 : decode cX9_lakesBelow 18 = .ok (.if_icmp .ge 33, 3) := dz_162 (n := 0) (r := 18) hz_X9_lakesBelow_0 rfl (by decide +kernel)
theorem dX9_lakesBelow_21 : decode cX9_lakesBelow 21 = .ok (.aload_n 0, 1) := dz_42 (n := 0) (r := 21) hz_X9_lakesBelow_0 rfl
theorem dX9_lakesBelow_22 : decode cX9_lakesBelow 22 = .ok (.aload_n 0, 1) := dz_42 (n := 0) (r := 22) hz_X9_lakesBelow_0 rfl
theorem dX9_lakesBelow_23 : decode cX9_lakesBelow 23 = .ok (.getfield 9, 3) := dz_180 (n := 0) (r := 23) hz_X9_lakesBelow_0 rfl rfl
theorem dX9_lakesBelow_26 : decode cX9_lakesBelow 26 = .ok (.iload_n 2, 1) := dz_28 (n := 0) (r := 26) hz_X9_lakesBelow_0 rfl
theorem dX9_lakesBelow_27 : decode cX9_lakesBelow 27 = .ok (.iaload, 1) := dz_46 (n := 0) (r := 27) hz_X9_lakesBelow_0 rfl
theorem dX9_lakesBelow_28 : decode cX9_lakesBelow 28 = .ok (.invokevirtual 100, 3) := dz_182 (n := 0) (r := 28) hz_X9_lakesBelow_0 rfl rfl
theorem dX9_lakesBelow_31 : decode cX9_lakesBelow 31 = .ok (.iload_n 1, 1) := dz_27 (n := 0) (r := 31) hz_X9_lakesBelow_0 rfl
theorem hz_X9_lakesBelow_32 : (cX9_lakesBelow.data.toList.drop 32).take 40 = [163, 0, 19, 42, 42, 180, 0, 9, 28, 46, 182, 0, 96, 132, 2, 1, 167, 255, 214, 42, 180, 0, 78, 172] := by decide +kernel
theorem dX9_lakesBelow_32 : decode cX9_lakesBelow 32 = .ok (.if_icmp .gt 19, 3) := dz_163 (n := 32) (r := 0) hz_X9_lakesBelow_32 rfl (by decide +kernel)
theorem dX9_lakesBelow_35 : decode cX9_lakesBelow 35 = .ok (.aload_n 0, 1) := dz_42 (n := 32) (r := 3) hz_X9_lakesBelow_32 rfl
theorem dX9_lakesBelow_36 : decode cX9_lakesBelow 36 = .ok (.aload_n 0, 1) := dz_42 (n := 32) (r := 4) hz_X9_lakesBelow_32 rfl
theorem dX9_lakesBelow_37 : decode cX9_lakesBelow 37 = .ok (.getfield 9, 3) := dz_180 (n := 32) (r := 5) hz_X9_lakesBelow_32 rfl rfl
theorem dX9_lakesBelow_40 : decode cX9_lakesBelow 40 = .ok (.iload_n 2, 1) := dz_28 (n := 32) (r := 8) hz_X9_lakesBelow_32 rfl
theorem dX9_lakesBelow_41 : decode cX9_lakesBelow 41 = .ok (.iaload, 1) := dz_46 (n := 32) (r := 9) hz_X9_lakesBelow_32 rfl
theorem dX9_lakesBelow_42 : decode cX9_lakesBelow 42 = .ok (.invokevirtual 96, 3) := dz_182 (n := 32) (r := 10) hz_X9_lakesBelow_32 rfl rfl
theorem dX9_lakesBelow_45 : decode cX9_lakesBelow 45 = .ok (.iinc 2 1, 3) := dz_132 (n := 32) (r := 13) hz_X9_lakesBelow_32 rfl rfl rfl
theorem dX9_lakesBelow_48 : decode cX9_lakesBelow 48 = .ok (.goto (-42), 3) := dz_167 (n := 32) (r := 16) hz_X9_lakesBelow_32 rfl (by decide +kernel)
theorem dX9_lakesBelow_51 : decode cX9_lakesBelow 51 = .ok (.aload_n 0, 1) := dz_42 (n := 32) (r := 19) hz_X9_lakesBelow_32 rfl
theorem dX9_lakesBelow_52 : decode cX9_lakesBelow 52 = .ok (.getfield 78, 3) := dz_180 (n := 32) (r := 20) hz_X9_lakesBelow_32 rfl rfl
theorem dX9_lakesBelow_55 : decode cX9_lakesBelow 55 = .ok (.ireturn, 1) := dz_172 (n := 32) (r := 23) hz_X9_lakesBelow_32 rfl
theorem hz_X9_basinOf_0 : (cX9_basinOf.data.toList.drop 0).take 40 = [3, 61, 3, 62, 29, 42, 180, 0, 43, 162, 0, 104, 29, 17, 4, 0, 162, 0, 97, 42, 42, 180, 0, 9, 29, 46, 182, 0, 108, 54, 4, 21, 4, 42, 180, 0, 9, 29, 46, 159] := by decide +kernel
theorem dX9_basinOf_0 : decode cX9_basinOf 0 = .ok (.iconst 0, 1) := dz_3 (n := 0) (r := 0) hz_X9_basinOf_0 rfl
theorem dX9_basinOf_1 : decode cX9_basinOf 1 = .ok (.istore_n 2, 1) := dz_61 (n := 0) (r := 1) hz_X9_basinOf_0 rfl
theorem dX9_basinOf_2 : decode cX9_basinOf 2 = .ok (.iconst 0, 1) := dz_3 (n := 0) (r := 2) hz_X9_basinOf_0 rfl
theorem dX9_basinOf_3 : decode cX9_basinOf 3 = .ok (.istore_n 3, 1) := dz_62 (n := 0) (r := 3) hz_X9_basinOf_0 rfl
theorem dX9_basinOf_4 : decode cX9_basinOf 4 = .ok (.iload_n 3, 1) := dz_29 (n := 0) (r := 4) hz_X9_basinOf_0 rfl
theorem dX9_basinOf_5 : decode cX9_basinOf 5 = .ok (.aload_n 0, 1) := dz_42 (n := 0) (r := 5) hz_X9_basinOf_0 rfl
theorem dX9_basinOf_6 : decode cX9_basinOf 6 = .ok (.getfield 43, 3) := dz_180 (n := 0) (r := 6) hz_X9_basinOf_0 rfl rfl
theorem dX9_basinOf_9 : decode cX9_basinOf 9 = .ok (.if_icmp .ge 104, 3) := dz_162 (n := 0) (r := 9) hz_X9_basinOf_0 rfl (by decide +kernel)
theorem dX9_basinOf_12 : decode cX9_basinOf 12 = .ok (.iload_n 3, 1) := dz_29 (n := 0) (r := 12) hz_X9_basinOf_0 rfl
theorem dX9_basinOf_13 : decode cX9_basinOf 13 = .ok (.sipush 1024, 3) := dz_17 (n := 0) (r := 13) hz_X9_basinOf_0 rfl (by decide +kernel)
theorem dX9_basinOf_16 : decode cX9_basinOf 16 = .ok (.if_icmp .ge 97, 3) := dz_162 (n := 0) (r := 16) hz_X9_basinOf_0 rfl (by decide +kernel)
theorem dX9_basinOf_19 : decode cX9_basinOf 19 = .ok (.aload_n 0, 1) := dz_42 (n := 0) (r := 19) hz_X9_basinOf_0 rfl
theorem dX9_basinOf_20 : decode cX9_basinOf 20 = .ok (.aload_n 0, 1) := dz_42 (n := 0) (r := 20) hz_X9_basinOf_0 rfl
theorem dX9_basinOf_21 : decode cX9_basinOf 21 = .ok (.getfield 9, 3) := dz_180 (n := 0) (r := 21) hz_X9_basinOf_0 rfl rfl
theorem dX9_basinOf_24 : decode cX9_basinOf 24 = .ok (.iload_n 3, 1) := dz_29 (n := 0) (r := 24) hz_X9_basinOf_0 rfl
theorem dX9_basinOf_25 : decode cX9_basinOf 25 = .ok (.iaload, 1) := dz_46 (n := 0) (r := 25) hz_X9_basinOf_0 rfl
theorem dX9_basinOf_26 : decode cX9_basinOf 26 = .ok (.invokevirtual 108, 3) := dz_182 (n := 0) (r := 26) hz_X9_basinOf_0 rfl rfl
theorem dX9_basinOf_29 : decode cX9_basinOf 29 = .ok (.istore 4, 2) := dz_54 (n := 0) (r := 29) hz_X9_basinOf_0 rfl rfl
theorem dX9_basinOf_31 : decode cX9_basinOf 31 = .ok (.iload 4, 2) := dz_21 (n := 0) (r := 31) hz_X9_basinOf_0 rfl rfl
theorem hz_X9_basinOf_32 : (cX9_basinOf.data.toList.drop 32).take 40 = [4, 42, 180, 0, 9, 29, 46, 159, 0, 11, 21, 4, 184, 0, 69, 154, 0, 12, 42, 180, 0, 9, 29, 46, 167, 0, 10, 42, 180, 0, 21, 21, 4, 46, 54, 5, 42, 180, 0, 9] := by decide +kernel
theorem dX9_basinOf_33 : decode cX9_basinOf 33 = .ok (.aload_n 0, 1) := dz_42 (n := 32) (r := 1) hz_X9_basinOf_32 rfl
theorem dX9_basinOf_34 : decode cX9_basinOf 34 = .ok (.getfield 9, 3) := dz_180 (n := 32) (r := 2) hz_X9_basinOf_32 rfl rfl
theorem dX9_basinOf_37 : decode cX9_basinOf 37 = .ok (.iload_n 3, 1) := dz_29 (n := 32) (r := 5) hz_X9_basinOf_32 rfl
theorem dX9_basinOf_38 : decode cX9_basinOf 38 = .ok (.iaload, 1) := dz_46 (n := 32) (r := 6) hz_X9_basinOf_32 rfl
theorem dX9_basinOf_39 : decode cX9_basinOf 39 = .ok (.if_icmp .eq 11, 3) := dz_159 (n := 32) (r := 7) hz_X9_basinOf_32 rfl (by decide +kernel)
theorem dX9_basinOf_42 : decode cX9_basinOf 42 = .ok (.iload 4, 2) := dz_21 (n := 32) (r := 10) hz_X9_basinOf_32 rfl rfl
theorem dX9_basinOf_44 : decode cX9_basinOf 44 = .ok (.invokestatic 69, 3) := dz_184 (n := 32) (r := 12) hz_X9_basinOf_32 rfl rfl
theorem dX9_basinOf_47 : decode cX9_basinOf 47 = .ok (.ifCond .ne 12, 3) := dz_154 (n := 32) (r := 15) hz_X9_basinOf_32 rfl (by decide +kernel)
theorem dX9_basinOf_50 : decode cX9_basinOf 50 = .ok (.aload_n 0, 1) := dz_42 (n := 32) (r := 18) hz_X9_basinOf_32 rfl
theorem dX9_basinOf_51 : decode cX9_basinOf 51 = .ok (.getfield 9, 3) := dz_180 (n := 32) (r := 19) hz_X9_basinOf_32 rfl rfl
theorem dX9_basinOf_54 : decode cX9_basinOf 54 = .ok (.iload_n 3, 1) := dz_29 (n := 32) (r := 22) hz_X9_basinOf_32 rfl
theorem dX9_basinOf_55 : decode cX9_basinOf 55 = .ok (.iaload, 1) := dz_46 (n := 32) (r := 23) hz_X9_basinOf_32 rfl
theorem dX9_basinOf_56 : decode cX9_basinOf 56 = .ok (.goto 10, 3) := dz_167 (n := 32) (r := 24) hz_X9_basinOf_32 rfl (by decide +kernel)
theorem dX9_basinOf_59 : decode cX9_basinOf 59 = .ok (.aload_n 0, 1) := dz_42 (n := 32) (r := 27) hz_X9_basinOf_32 rfl
theorem dX9_basinOf_60 : decode cX9_basinOf 60 = .ok (.getfield 21, 3) := dz_180 (n := 32) (r := 28) hz_X9_basinOf_32 rfl rfl
theorem dX9_basinOf_63 : decode cX9_basinOf 63 = .ok (.iload 4, 2) := dz_21 (n := 32) (r := 31) hz_X9_basinOf_32 rfl rfl
theorem hz_X9_basinOf_64 : (cX9_basinOf.data.toList.drop 64).take 40 = [4, 46, 54, 5, 42, 180, 0, 9, 29, 46, 184, 0, 69, 153, 0, 16, 42, 180, 0, 21, 42, 180, 0, 9, 29, 46, 21, 5, 79, 28, 21, 5, 27, 160, 0, 7, 4, 167, 0, 4] := by decide +kernel
theorem dX9_basinOf_65 : decode cX9_basinOf 65 = .ok (.iaload, 1) := dz_46 (n := 64) (r := 1) hz_X9_basinOf_64 rfl
theorem dX9_basinOf_66 : decode cX9_basinOf 66 = .ok (.istore 5, 2) := dz_54 (n := 64) (r := 2) hz_X9_basinOf_64 rfl rfl
theorem dX9_basinOf_68 : decode cX9_basinOf 68 = .ok (.aload_n 0, 1) := dz_42 (n := 64) (r := 4) hz_X9_basinOf_64 rfl
theorem dX9_basinOf_69 : decode cX9_basinOf 69 = .ok (.getfield 9, 3) := dz_180 (n := 64) (r := 5) hz_X9_basinOf_64 rfl rfl
theorem dX9_basinOf_72 : decode cX9_basinOf 72 = .ok (.iload_n 3, 1) := dz_29 (n := 64) (r := 8) hz_X9_basinOf_64 rfl
theorem dX9_basinOf_73 : decode cX9_basinOf 73 = .ok (.iaload, 1) := dz_46 (n := 64) (r := 9) hz_X9_basinOf_64 rfl
theorem dX9_basinOf_74 : decode cX9_basinOf 74 = .ok (.invokestatic 69, 3) := dz_184 (n := 64) (r := 10) hz_X9_basinOf_64 rfl rfl
theorem dX9_basinOf_77 : decode cX9_basinOf 77 = .ok (.ifCond .eq 16, 3) := dz_153 (n := 64) (r := 13) hz_X9_basinOf_64 rfl (by decide +kernel)
theorem dX9_basinOf_80 : decode cX9_basinOf 80 = .ok (.aload_n 0, 1) := dz_42 (n := 64) (r := 16) hz_X9_basinOf_64 rfl
theorem dX9_basinOf_81 : decode cX9_basinOf 81 = .ok (.getfield 21, 3) := dz_180 (n := 64) (r := 17) hz_X9_basinOf_64 rfl rfl
theorem dX9_basinOf_84 : decode cX9_basinOf 84 = .ok (.aload_n 0, 1) := dz_42 (n := 64) (r := 20) hz_X9_basinOf_64 rfl
theorem dX9_basinOf_85 : decode cX9_basinOf 85 = .ok (.getfield 9, 3) := dz_180 (n := 64) (r := 21) hz_X9_basinOf_64 rfl rfl
theorem dX9_basinOf_88 : decode cX9_basinOf 88 = .ok (.iload_n 3, 1) := dz_29 (n := 64) (r := 24) hz_X9_basinOf_64 rfl
theorem dX9_basinOf_89 : decode cX9_basinOf 89 = .ok (.iaload, 1) := dz_46 (n := 64) (r := 25) hz_X9_basinOf_64 rfl
theorem dX9_basinOf_90 : decode cX9_basinOf 90 = .ok (.iload 5, 2) := dz_21 (n := 64) (r := 26) hz_X9_basinOf_64 rfl rfl
theorem dX9_basinOf_92 : decode cX9_basinOf 92 = .ok (.iastore, 1) := dz_79 (n := 64) (r := 28) hz_X9_basinOf_64 rfl
theorem dX9_basinOf_93 : decode cX9_basinOf 93 = .ok (.iload_n 2, 1) := dz_28 (n := 64) (r := 29) hz_X9_basinOf_64 rfl
theorem dX9_basinOf_94 : decode cX9_basinOf 94 = .ok (.iload 5, 2) := dz_21 (n := 64) (r := 30) hz_X9_basinOf_64 rfl rfl
theorem hz_X9_basinOf_96 : (cX9_basinOf.data.toList.drop 96).take 40 = [27, 160, 0, 7, 4, 167, 0, 4, 3, 96, 61, 132, 3, 1, 167, 255, 150, 28, 172] := by decide +kernel
theorem dX9_basinOf_96 : decode cX9_basinOf 96 = .ok (.iload_n 1, 1) := dz_27 (n := 96) (r := 0) hz_X9_basinOf_96 rfl
theorem dX9_basinOf_97 : decode cX9_basinOf 97 = .ok (.if_icmp .ne 7, 3) := dz_160 (n := 96) (r := 1) hz_X9_basinOf_96 rfl (by decide +kernel)
theorem dX9_basinOf_100 : decode cX9_basinOf 100 = .ok (.iconst 1, 1) := dz_4 (n := 96) (r := 4) hz_X9_basinOf_96 rfl
theorem dX9_basinOf_101 : decode cX9_basinOf 101 = .ok (.goto 4, 3) := dz_167 (n := 96) (r := 5) hz_X9_basinOf_96 rfl (by decide +kernel)
theorem dX9_basinOf_104 : decode cX9_basinOf 104 = .ok (.iconst 0, 1) := dz_3 (n := 96) (r := 8) hz_X9_basinOf_96 rfl
theorem dX9_basinOf_105 : decode cX9_basinOf 105 = .ok (.iadd, 1) := dz_96 (n := 96) (r := 9) hz_X9_basinOf_96 rfl
theorem dX9_basinOf_106 : decode cX9_basinOf 106 = .ok (.istore_n 2, 1) := dz_61 (n := 96) (r := 10) hz_X9_basinOf_96 rfl
theorem dX9_basinOf_107 : decode cX9_basinOf 107 = .ok (.iinc 3 1, 3) := dz_132 (n := 96) (r := 11) hz_X9_basinOf_96 rfl rfl rfl
theorem dX9_basinOf_110 : decode cX9_basinOf 110 = .ok (.goto (-106), 3) := dz_167 (n := 96) (r := 14) hz_X9_basinOf_96 rfl (by decide +kernel)
theorem dX9_basinOf_113 : decode cX9_basinOf 113 = .ok (.iload_n 2, 1) := dz_28 (n := 96) (r := 17) hz_X9_basinOf_96 rfl
theorem dX9_basinOf_114 : decode cX9_basinOf 114 = .ok (.ireturn, 1) := dz_172 (n := 96) (r := 18) hz_X9_basinOf_96 rfl
theorem hz_X9_steepestFrom_0 : (cX9_steepestFrom.data.toList.drop 0).take 40 = [27, 61, 3, 62, 29, 42, 180, 0, 40, 162, 0, 41, 27, 4, 29, 120, 130, 54, 4, 42, 29, 182, 0, 87, 153, 0, 20, 42, 21, 4, 182, 0, 100, 42, 28, 182, 0, 100, 162, 0] := by decide +kernel
theorem dX9_steepestFrom_0 : decode cX9_steepestFrom 0 = .ok (.iload_n 1, 1) := dz_27 (n := 0) (r := 0) hz_X9_steepestFrom_0 rfl
theorem dX9_steepestFrom_1 : decode cX9_steepestFrom 1 = .ok (.istore_n 2, 1) := dz_61 (n := 0) (r := 1) hz_X9_steepestFrom_0 rfl
theorem dX9_steepestFrom_2 : decode cX9_steepestFrom 2 = .ok (.iconst 0, 1) := dz_3 (n := 0) (r := 2) hz_X9_steepestFrom_0 rfl
theorem dX9_steepestFrom_3 : decode cX9_steepestFrom 3 = .ok (.istore_n 3, 1) := dz_62 (n := 0) (r := 3) hz_X9_steepestFrom_0 rfl
theorem dX9_steepestFrom_4 : decode cX9_steepestFrom 4 = .ok (.iload_n 3, 1) := dz_29 (n := 0) (r := 4) hz_X9_steepestFrom_0 rfl
theorem dX9_steepestFrom_5 : decode cX9_steepestFrom 5 = .ok (.aload_n 0, 1) := dz_42 (n := 0) (r := 5) hz_X9_steepestFrom_0 rfl
theorem dX9_steepestFrom_6 : decode cX9_steepestFrom 6 = .ok (.getfield 40, 3) := dz_180 (n := 0) (r := 6) hz_X9_steepestFrom_0 rfl rfl
theorem dX9_steepestFrom_9 : decode cX9_steepestFrom 9 = .ok (.if_icmp .ge 41, 3) := dz_162 (n := 0) (r := 9) hz_X9_steepestFrom_0 rfl (by decide +kernel)
theorem dX9_steepestFrom_12 : decode cX9_steepestFrom 12 = .ok (.iload_n 1, 1) := dz_27 (n := 0) (r := 12) hz_X9_steepestFrom_0 rfl
theorem dX9_steepestFrom_13 : decode cX9_steepestFrom 13 = .ok (.iconst 1, 1) := dz_4 (n := 0) (r := 13) hz_X9_steepestFrom_0 rfl
theorem dX9_steepestFrom_14 : decode cX9_steepestFrom 14 = .ok (.iload_n 3, 1) := dz_29 (n := 0) (r := 14) hz_X9_steepestFrom_0 rfl
theorem dX9_steepestFrom_15 : decode cX9_steepestFrom 15 = .ok (.ishl, 1) := dz_120 (n := 0) (r := 15) hz_X9_steepestFrom_0 rfl
theorem dX9_steepestFrom_16 : decode cX9_steepestFrom 16 = .ok (.ixor, 1) := dz_130 (n := 0) (r := 16) hz_X9_steepestFrom_0 rfl
theorem dX9_steepestFrom_17 : decode cX9_steepestFrom 17 = .ok (.istore 4, 2) := dz_54 (n := 0) (r := 17) hz_X9_steepestFrom_0 rfl rfl
theorem dX9_steepestFrom_19 : decode cX9_steepestFrom 19 = .ok (.aload_n 0, 1) := dz_42 (n := 0) (r := 19) hz_X9_steepestFrom_0 rfl
theorem dX9_steepestFrom_20 : decode cX9_steepestFrom 20 = .ok (.iload_n 3, 1) := dz_29 (n := 0) (r := 20) hz_X9_steepestFrom_0 rfl
theorem dX9_steepestFrom_21 : decode cX9_steepestFrom 21 = .ok (.invokevirtual 87, 3) := dz_182 (n := 0) (r := 21) hz_X9_steepestFrom_0 rfl rfl
theorem dX9_steepestFrom_24 : decode cX9_steepestFrom 24 = .ok (.ifCond .eq 20, 3) := dz_153 (n := 0) (r := 24) hz_X9_steepestFrom_0 rfl (by decide +kernel)
theorem dX9_steepestFrom_27 : decode cX9_steepestFrom 27 = .ok (.aload_n 0, 1) := dz_42 (n := 0) (r := 27) hz_X9_steepestFrom_0 rfl
theorem dX9_steepestFrom_28 : decode cX9_steepestFrom 28 = .ok (.iload 4, 2) := dz_21 (n := 0) (r := 28) hz_X9_steepestFrom_0 rfl rfl
theorem dX9_steepestFrom_30 : decode cX9_steepestFrom 30 = .ok (.invokevirtual 100, 3) := dz_182 (n := 0) (r := 30) hz_X9_steepestFrom_0 rfl rfl
theorem hz_X9_steepestFrom_32 : (cX9_steepestFrom.data.toList.drop 32).take 40 = [100, 42, 28, 182, 0, 100, 162, 0, 6, 21, 4, 61, 132, 3, 1, 167, 255, 213, 28, 172] := by decide +kernel
theorem dX9_steepestFrom_33 : decode cX9_steepestFrom 33 = .ok (.aload_n 0, 1) := dz_42 (n := 32) (r := 1) hz_X9_steepestFrom_32 rfl
theorem dX9_steepestFrom_34 : decode cX9_steepestFrom 34 = .ok (.iload_n 2, 1) := dz_28 (n := 32) (r := 2) hz_X9_steepestFrom_32 rfl
theorem dX9_steepestFrom_35 : decode cX9_steepestFrom 35 = .ok (.invokevirtual 100, 3) := dz_182 (n := 32) (r := 3) hz_X9_steepestFrom_32 rfl rfl
theorem dX9_steepestFrom_38 : decode cX9_steepestFrom 38 = .ok (.if_icmp .ge 6, 3) := dz_162 (n := 32) (r := 6) hz_X9_steepestFrom_32 rfl (by decide +kernel)
theorem dX9_steepestFrom_41 : decode cX9_steepestFrom 41 = .ok (.iload 4, 2) := dz_21 (n := 32) (r := 9) hz_X9_steepestFrom_32 rfl rfl
theorem dX9_steepestFrom_43 : decode cX9_steepestFrom 43 = .ok (.istore_n 2, 1) := dz_61 (n := 32) (r := 11) hz_X9_steepestFrom_32 rfl
theorem dX9_steepestFrom_44 : decode cX9_steepestFrom 44 = .ok (.iinc 3 1, 3) := dz_132 (n := 32) (r := 12) hz_X9_steepestFrom_32 rfl rfl rfl
theorem dX9_steepestFrom_47 : decode cX9_steepestFrom 47 = .ok (.goto (-43), 3) := dz_167 (n := 32) (r := 15) hz_X9_steepestFrom_32 rfl (by decide +kernel)
theorem dX9_steepestFrom_50 : decode cX9_steepestFrom 50 = .ok (.iload_n 2, 1) := dz_28 (n := 32) (r := 18) hz_X9_steepestFrom_32 rfl
theorem dX9_steepestFrom_51 : decode cX9_steepestFrom 51 = .ok (.ireturn, 1) := dz_172 (n := 32) (r := 19) hz_X9_steepestFrom_32 rfl
theorem hz_X9_waysDown_0 : (cX9_waysDown.data.toList.drop 0).take 40 = [3, 61, 28, 42, 180, 0, 43, 162, 0, 53, 28, 17, 4, 0, 162, 0, 46, 42, 180, 0, 9, 28, 46, 62, 42, 29, 182, 0, 111, 55, 4, 29, 27, 160, 0, 6, 22, 4, 173, 29] := by decide +kernel
theorem dX9_waysDown_0 : decode cX9_waysDown 0 = .ok (.iconst 0, 1) := dz_3 (n := 0) (r := 0) hz_X9_waysDown_0 rfl
theorem dX9_waysDown_1 : decode cX9_waysDown 1 = .ok (.istore_n 2, 1) := dz_61 (n := 0) (r := 1) hz_X9_waysDown_0 rfl
theorem dX9_waysDown_2 : decode cX9_waysDown 2 = .ok (.iload_n 2, 1) := dz_28 (n := 0) (r := 2) hz_X9_waysDown_0 rfl
theorem dX9_waysDown_3 : decode cX9_waysDown 3 = .ok (.aload_n 0, 1) := dz_42 (n := 0) (r := 3) hz_X9_waysDown_0 rfl
theorem dX9_waysDown_4 : decode cX9_waysDown 4 = .ok (.getfield 43, 3) := dz_180 (n := 0) (r := 4) hz_X9_waysDown_0 rfl rfl
theorem dX9_waysDown_7 : decode cX9_waysDown 7 = .ok (.if_icmp .ge 53, 3) := dz_162 (n := 0) (r := 7) hz_X9_waysDown_0 rfl (by decide +kernel)
theorem dX9_waysDown_10 : decode cX9_waysDown 10 = .ok (.iload_n 2, 1) := dz_28 (n := 0) (r := 10) hz_X9_waysDown_0 rfl
theorem dX9_waysDown_11 : decode cX9_waysDown 11 = .ok (.sipush 1024, 3) := dz_17 (n := 0) (r := 11) hz_X9_waysDown_0 rfl (by decide +kernel)
theorem dX9_waysDown_14 : decode cX9_waysDown 14 = .ok (.if_icmp .ge 46, 3) := dz_162 (n := 0) (r := 14) hz_X9_waysDown_0 rfl (by decide +kernel)
theorem dX9_waysDown_17 : decode cX9_waysDown 17 = .ok (.aload_n 0, 1) := dz_42 (n := 0) (r := 17) hz_X9_waysDown_0 rfl
theorem dX9_waysDown_18 : decode cX9_waysDown 18 = .ok (.getfield 9, 3) := dz_180 (n := 0) (r := 18) hz_X9_waysDown_0 rfl rfl
theorem dX9_waysDown_21 : decode cX9_waysDown 21 = .ok (.iload_n 2, 1) := dz_28 (n := 0) (r := 21) hz_X9_waysDown_0 rfl
theorem dX9_waysDown_22 : decode cX9_waysDown 22 = .ok (.iaload, 1) := dz_46 (n := 0) (r := 22) hz_X9_waysDown_0 rfl
theorem dX9_waysDown_23 : decode cX9_waysDown 23 = .ok (.istore_n 3, 1) := dz_62 (n := 0) (r := 23) hz_X9_waysDown_0 rfl
theorem dX9_waysDown_24 : decode cX9_waysDown 24 = .ok (.aload_n 0, 1) := dz_42 (n := 0) (r := 24) hz_X9_waysDown_0 rfl
theorem dX9_waysDown_25 : decode cX9_waysDown 25 = .ok (.iload_n 3, 1) := dz_29 (n := 0) (r := 25) hz_X9_waysDown_0 rfl
theorem dX9_waysDown_26 : decode cX9_waysDown 26 = .ok (.invokevirtual 111, 3) := dz_182 (n := 0) (r := 26) hz_X9_waysDown_0 rfl rfl
theorem dX9_waysDown_29 : decode cX9_waysDown 29 = .ok (.lstore 4, 2) := dz_55 (n := 0) (r := 29) hz_X9_waysDown_0 rfl rfl
theorem dX9_waysDown_31 : decode cX9_waysDown 31 = .ok (.iload_n 3, 1) := dz_29 (n := 0) (r := 31) hz_X9_waysDown_0 rfl
theorem hz_X9_waysDown_32 : (cX9_waysDown.data.toList.drop 32).take 40 = [27, 160, 0, 6, 22, 4, 173, 29, 184, 0, 69, 153, 0, 11, 42, 180, 0, 24, 29, 22, 4, 80, 132, 2, 1, 167, 255, 201, 20, 0, 115, 173] := by decide +kernel
theorem dX9_waysDown_32 : decode cX9_waysDown 32 = .ok (.iload_n 1, 1) := dz_27 (n := 32) (r := 0) hz_X9_waysDown_32 rfl
theorem dX9_waysDown_33 : decode cX9_waysDown 33 = .ok (.if_icmp .ne 6, 3) := dz_160 (n := 32) (r := 1) hz_X9_waysDown_32 rfl (by decide +kernel)
theorem dX9_waysDown_36 : decode cX9_waysDown 36 = .ok (.lload 4, 2) := dz_22 (n := 32) (r := 4) hz_X9_waysDown_32 rfl rfl
theorem dX9_waysDown_38 : decode cX9_waysDown 38 = .ok (.lreturn, 1) := dz_173 (n := 32) (r := 6) hz_X9_waysDown_32 rfl
theorem dX9_waysDown_39 : decode cX9_waysDown 39 = .ok (.iload_n 3, 1) := dz_29 (n := 32) (r := 7) hz_X9_waysDown_32 rfl
theorem dX9_waysDown_40 : decode cX9_waysDown 40 = .ok (.invokestatic 69, 3) := dz_184 (n := 32) (r := 8) hz_X9_waysDown_32 rfl rfl
theorem dX9_waysDown_43 : decode cX9_waysDown 43 = .ok (.ifCond .eq 11, 3) := dz_153 (n := 32) (r := 11) hz_X9_waysDown_32 rfl (by decide +kernel)
theorem dX9_waysDown_46 : decode cX9_waysDown 46 = .ok (.aload_n 0, 1) := dz_42 (n := 32) (r := 14) hz_X9_waysDown_32 rfl
theorem dX9_waysDown_47 : decode cX9_waysDown 47 = .ok (.getfield 24, 3) := dz_180 (n := 32) (r := 15) hz_X9_waysDown_32 rfl rfl
theorem dX9_waysDown_50 : decode cX9_waysDown 50 = .ok (.iload_n 3, 1) := dz_29 (n := 32) (r := 18) hz_X9_waysDown_32 rfl
theorem dX9_waysDown_51 : decode cX9_waysDown 51 = .ok (.lload 4, 2) := dz_22 (n := 32) (r := 19) hz_X9_waysDown_32 rfl rfl
theorem dX9_waysDown_53 : decode cX9_waysDown 53 = .ok (.lastore, 1) := dz_80 (n := 32) (r := 21) hz_X9_waysDown_32 rfl
theorem dX9_waysDown_54 : decode cX9_waysDown 54 = .ok (.iinc 2 1, 3) := dz_132 (n := 32) (r := 22) hz_X9_waysDown_32 rfl rfl rfl
theorem dX9_waysDown_57 : decode cX9_waysDown 57 = .ok (.goto (-55), 3) := dz_167 (n := 32) (r := 25) hz_X9_waysDown_32 rfl (by decide +kernel)
theorem dX9_waysDown_60 : decode cX9_waysDown 60 = .ok (.ldc2_w 115, 3) := dz_20 (n := 32) (r := 28) hz_X9_waysDown_32 rfl rfl
theorem dX9_waysDown_63 : decode cX9_waysDown 63 = .ok (.lreturn, 1) := dz_173 (n := 32) (r := 31) hz_X9_waysDown_32 rfl
theorem hz_X9_waysFrom_0 : (cX9_waysFrom.data.toList.drop 0).take 40 = [9, 65, 4, 54, 4, 3, 54, 5, 21, 5, 42, 180, 0, 40, 162, 0, 61, 27, 4, 21, 5, 120, 130, 54, 6, 42, 21, 5, 182, 0, 87, 153, 0, 38, 21, 6, 184, 0, 69, 153] := by decide +kernel
theorem dX9_waysFrom_0 : decode cX9_waysFrom 0 = .ok (.lconst 0, 1) := dz_9 (n := 0) (r := 0) hz_X9_waysFrom_0 rfl
theorem dX9_waysFrom_1 : decode cX9_waysFrom 1 = .ok (.lstore_n 2, 1) := dz_65 (n := 0) (r := 1) hz_X9_waysFrom_0 rfl
theorem dX9_waysFrom_2 : decode cX9_waysFrom 2 = .ok (.iconst 1, 1) := dz_4 (n := 0) (r := 2) hz_X9_waysFrom_0 rfl
theorem dX9_waysFrom_3 : decode cX9_waysFrom 3 = .ok (.istore 4, 2) := dz_54 (n := 0) (r := 3) hz_X9_waysFrom_0 rfl rfl
theorem dX9_waysFrom_5 : decode cX9_waysFrom 5 = .ok (.iconst 0, 1) := dz_3 (n := 0) (r := 5) hz_X9_waysFrom_0 rfl
theorem dX9_waysFrom_6 : decode cX9_waysFrom 6 = .ok (.istore 5, 2) := dz_54 (n := 0) (r := 6) hz_X9_waysFrom_0 rfl rfl
theorem dX9_waysFrom_8 : decode cX9_waysFrom 8 = .ok (.iload 5, 2) := dz_21 (n := 0) (r := 8) hz_X9_waysFrom_0 rfl rfl
theorem dX9_waysFrom_10 : decode cX9_waysFrom 10 = .ok (.aload_n 0, 1) := dz_42 (n := 0) (r := 10) hz_X9_waysFrom_0 rfl
theorem dX9_waysFrom_11 : decode cX9_waysFrom 11 = .ok (.getfield 40, 3) := dz_180 (n := 0) (r := 11) hz_X9_waysFrom_0 rfl rfl
theorem dX9_waysFrom_14 : decode cX9_waysFrom 14 = .ok (.if_icmp .ge 61, 3) := dz_162 (n := 0) (r := 14) hz_X9_waysFrom_0 rfl (by decide +kernel)
theorem dX9_waysFrom_17 : decode cX9_waysFrom 17 = .ok (.iload_n 1, 1) := dz_27 (n := 0) (r := 17) hz_X9_waysFrom_0 rfl
theorem dX9_waysFrom_18 : decode cX9_waysFrom 18 = .ok (.iconst 1, 1) := dz_4 (n := 0) (r := 18) hz_X9_waysFrom_0 rfl
theorem dX9_waysFrom_19 : decode cX9_waysFrom 19 = .ok (.iload 5, 2) := dz_21 (n := 0) (r := 19) hz_X9_waysFrom_0 rfl rfl
theorem dX9_waysFrom_21 : decode cX9_waysFrom 21 = .ok (.ishl, 1) := dz_120 (n := 0) (r := 21) hz_X9_waysFrom_0 rfl
theorem dX9_waysFrom_22 : decode cX9_waysFrom 22 = .ok (.ixor, 1) := dz_130 (n := 0) (r := 22) hz_X9_waysFrom_0 rfl
theorem dX9_waysFrom_23 : decode cX9_waysFrom 23 = .ok (.istore 6, 2) := dz_54 (n := 0) (r := 23) hz_X9_waysFrom_0 rfl rfl
theorem dX9_waysFrom_25 : decode cX9_waysFrom 25 = .ok (.aload_n 0, 1) := dz_42 (n := 0) (r := 25) hz_X9_waysFrom_0 rfl
theorem dX9_waysFrom_26 : decode cX9_waysFrom 26 = .ok (.iload 5, 2) := dz_21 (n := 0) (r := 26) hz_X9_waysFrom_0 rfl rfl
theorem dX9_waysFrom_28 : decode cX9_waysFrom 28 = .ok (.invokevirtual 87, 3) := dz_182 (n := 0) (r := 28) hz_X9_waysFrom_0 rfl rfl
theorem dX9_waysFrom_31 : decode cX9_waysFrom 31 = .ok (.ifCond .eq 38, 3) := dz_153 (n := 0) (r := 31) hz_X9_waysFrom_0 rfl (by decide +kernel)
theorem hz_X9_waysFrom_32 : (cX9_waysFrom.data.toList.drop 32).take 40 = [0, 38, 21, 6, 184, 0, 69, 153, 0, 30, 42, 21, 6, 182, 0, 100, 42, 27, 182, 0, 100, 162, 0, 16, 32, 42, 180, 0, 24, 21, 6, 47, 97, 65, 3, 54, 4, 132, 5, 1] := by decide +kernel
theorem dX9_waysFrom_34 : decode cX9_waysFrom 34 = .ok (.iload 6, 2) := dz_21 (n := 32) (r := 2) hz_X9_waysFrom_32 rfl rfl
theorem dX9_waysFrom_36 : decode cX9_waysFrom 36 = .ok (.invokestatic 69, 3) := dz_184 (n := 32) (r := 4) hz_X9_waysFrom_32 rfl rfl
theorem dX9_waysFrom_39 : decode cX9_waysFrom 39 = .ok (.ifCond .eq 30, 3) := dz_153 (n := 32) (r := 7) hz_X9_waysFrom_32 rfl (by decide +kernel)
theorem dX9_waysFrom_42 : decode cX9_waysFrom 42 = .ok (.aload_n 0, 1) := dz_42 (n := 32) (r := 10) hz_X9_waysFrom_32 rfl
theorem dX9_waysFrom_43 : decode cX9_waysFrom 43 = .ok (.iload 6, 2) := dz_21 (n := 32) (r := 11) hz_X9_waysFrom_32 rfl rfl
theorem dX9_waysFrom_45 : decode cX9_waysFrom 45 = .ok (.invokevirtual 100, 3) := dz_182 (n := 32) (r := 13) hz_X9_waysFrom_32 rfl rfl
theorem dX9_waysFrom_48 : decode cX9_waysFrom 48 = .ok (.aload_n 0, 1) := dz_42 (n := 32) (r := 16) hz_X9_waysFrom_32 rfl
theorem dX9_waysFrom_49 : decode cX9_waysFrom 49 = .ok (.iload_n 1, 1) := dz_27 (n := 32) (r := 17) hz_X9_waysFrom_32 rfl
theorem dX9_waysFrom_50 : decode cX9_waysFrom 50 = .ok (.invokevirtual 100, 3) := dz_182 (n := 32) (r := 18) hz_X9_waysFrom_32 rfl rfl
theorem dX9_waysFrom_53 : decode cX9_waysFrom 53 = .ok (.if_icmp .ge 16, 3) := dz_162 (n := 32) (r := 21) hz_X9_waysFrom_32 rfl (by decide +kernel)
theorem dX9_waysFrom_56 : decode cX9_waysFrom 56 = .ok (.lload_n 2, 1) := dz_32 (n := 32) (r := 24) hz_X9_waysFrom_32 rfl
theorem dX9_waysFrom_57 : decode cX9_waysFrom 57 = .ok (.aload_n 0, 1) := dz_42 (n := 32) (r := 25) hz_X9_waysFrom_32 rfl
theorem dX9_waysFrom_58 : decode cX9_waysFrom 58 = .ok (.getfield 24, 3) := dz_180 (n := 32) (r := 26) hz_X9_waysFrom_32 rfl rfl
theorem dX9_waysFrom_61 : decode cX9_waysFrom 61 = .ok (.iload 6, 2) := dz_21 (n := 32) (r := 29) hz_X9_waysFrom_32 rfl rfl
theorem dX9_waysFrom_63 : decode cX9_waysFrom 63 = .ok (.laload, 1) := dz_47 (n := 32) (r := 31) hz_X9_waysFrom_32 rfl
theorem hz_X9_waysFrom_64 : (cX9_waysFrom.data.toList.drop 64).take 40 = [97, 65, 3, 54, 4, 132, 5, 1, 167, 255, 192, 21, 4, 153, 0, 7, 10, 167, 0, 4, 32, 173] := by decide +kernel
theorem dX9_waysFrom_64 : decode cX9_waysFrom 64 = .ok (.ladd, 1) := dz_97 (n := 64) (r := 0) hz_X9_waysFrom_64 rfl
theorem dX9_waysFrom_65 : decode cX9_waysFrom 65 = .ok (.lstore_n 2, 1) := dz_65 (n := 64) (r := 1) hz_X9_waysFrom_64 rfl
theorem dX9_waysFrom_66 : decode cX9_waysFrom 66 = .ok (.iconst 0, 1) := dz_3 (n := 64) (r := 2) hz_X9_waysFrom_64 rfl
theorem dX9_waysFrom_67 : decode cX9_waysFrom 67 = .ok (.istore 4, 2) := dz_54 (n := 64) (r := 3) hz_X9_waysFrom_64 rfl rfl
theorem dX9_waysFrom_69 : decode cX9_waysFrom 69 = .ok (.iinc 5 1, 3) := dz_132 (n := 64) (r := 5) hz_X9_waysFrom_64 rfl rfl rfl
theorem dX9_waysFrom_72 : decode cX9_waysFrom 72 = .ok (.goto (-64), 3) := dz_167 (n := 64) (r := 8) hz_X9_waysFrom_64 rfl (by decide +kernel)
theorem dX9_waysFrom_75 : decode cX9_waysFrom 75 = .ok (.iload 4, 2) := dz_21 (n := 64) (r := 11) hz_X9_waysFrom_64 rfl rfl
theorem dX9_waysFrom_77 : decode cX9_waysFrom 77 = .ok (.ifCond .eq 7, 3) := dz_153 (n := 64) (r := 13) hz_X9_waysFrom_64 rfl (by decide +kernel)
theorem dX9_waysFrom_80 : decode cX9_waysFrom 80 = .ok (.lconst 1, 1) := dz_10 (n := 64) (r := 16) hz_X9_waysFrom_64 rfl
theorem dX9_waysFrom_81 : decode cX9_waysFrom 81 = .ok (.goto 4, 3) := dz_167 (n := 64) (r := 17) hz_X9_waysFrom_64 rfl (by decide +kernel)
theorem dX9_waysFrom_84 : decode cX9_waysFrom 84 = .ok (.lload_n 2, 1) := dz_32 (n := 64) (r := 20) hz_X9_waysFrom_64 rfl
theorem dX9_waysFrom_85 : decode cX9_waysFrom 85 = .ok (.lreturn, 1) := dz_173 (n := 64) (r := 21) hz_X9_waysFrom_64 rfl
theorem hz_X10_init_0 : (cX10_init.data.toList.drop 0).take 40 = [42, 183, 0, 3, 177] := by decide +kernel
theorem dX10_init_0 : decode cX10_init 0 = .ok (.aload_n 0, 1) := dz_42 (n := 0) (r := 0) hz_X10_init_0 rfl
theorem dX10_init_1 : decode cX10_init 1 = .ok (.invokespecial 3, 3) := dz_183 (n := 0) (r := 1) hz_X10_init_0 rfl rfl
theorem dX10_init_4 : decode cX10_init 4 = .ok (.return_, 1) := dz_177 (n := 0) (r := 4) hz_X10_init_0 rfl
theorem hz_X10_fallFrom_0 : (cX10_fallFrom.data.toList.drop 0).take 40 = [42, 29, 181, 0, 9, 42, 3, 181, 0, 15, 43, 44, 42, 180, 0, 9, 182, 0, 18, 54, 4, 3, 54, 5, 21, 5, 17, 1, 33, 162, 0, 49, 21, 4, 2, 159, 0, 43, 42, 89] := by decide +kernel
theorem dX10_fallFrom_0 : decode cX10_fallFrom 0 = .ok (.aload_n 0, 1) := dz_42 (n := 0) (r := 0) hz_X10_fallFrom_0 rfl
theorem dX10_fallFrom_1 : decode cX10_fallFrom 1 = .ok (.iload_n 3, 1) := dz_29 (n := 0) (r := 1) hz_X10_fallFrom_0 rfl
theorem dX10_fallFrom_2 : decode cX10_fallFrom 2 = .ok (.putfield 9, 3) := dz_181 (n := 0) (r := 2) hz_X10_fallFrom_0 rfl rfl
theorem dX10_fallFrom_5 : decode cX10_fallFrom 5 = .ok (.aload_n 0, 1) := dz_42 (n := 0) (r := 5) hz_X10_fallFrom_0 rfl
theorem dX10_fallFrom_6 : decode cX10_fallFrom 6 = .ok (.iconst 0, 1) := dz_3 (n := 0) (r := 6) hz_X10_fallFrom_0 rfl
theorem dX10_fallFrom_7 : decode cX10_fallFrom 7 = .ok (.putfield 15, 3) := dz_181 (n := 0) (r := 7) hz_X10_fallFrom_0 rfl rfl
theorem dX10_fallFrom_10 : decode cX10_fallFrom 10 = .ok (.aload_n 1, 1) := dz_43 (n := 0) (r := 10) hz_X10_fallFrom_0 rfl
theorem dX10_fallFrom_11 : decode cX10_fallFrom 11 = .ok (.aload_n 2, 1) := dz_44 (n := 0) (r := 11) hz_X10_fallFrom_0 rfl
theorem dX10_fallFrom_12 : decode cX10_fallFrom 12 = .ok (.aload_n 0, 1) := dz_42 (n := 0) (r := 12) hz_X10_fallFrom_0 rfl
theorem dX10_fallFrom_13 : decode cX10_fallFrom 13 = .ok (.getfield 9, 3) := dz_180 (n := 0) (r := 13) hz_X10_fallFrom_0 rfl rfl
theorem dX10_fallFrom_16 : decode cX10_fallFrom 16 = .ok (.invokevirtual 18, 3) := dz_182 (n := 0) (r := 16) hz_X10_fallFrom_0 rfl rfl
theorem dX10_fallFrom_19 : decode cX10_fallFrom 19 = .ok (.istore 4, 2) := dz_54 (n := 0) (r := 19) hz_X10_fallFrom_0 rfl rfl
theorem dX10_fallFrom_21 : decode cX10_fallFrom 21 = .ok (.iconst 0, 1) := dz_3 (n := 0) (r := 21) hz_X10_fallFrom_0 rfl
theorem dX10_fallFrom_22 : decode cX10_fallFrom 22 = .ok (.istore 5, 2) := dz_54 (n := 0) (r := 22) hz_X10_fallFrom_0 rfl rfl
theorem dX10_fallFrom_24 : decode cX10_fallFrom 24 = .ok (.iload 5, 2) := dz_21 (n := 0) (r := 24) hz_X10_fallFrom_0 rfl rfl
theorem dX10_fallFrom_26 : decode cX10_fallFrom 26 = .ok (.sipush 289, 3) := dz_17 (n := 0) (r := 26) hz_X10_fallFrom_0 rfl (by decide +kernel)
theorem dX10_fallFrom_29 : decode cX10_fallFrom 29 = .ok (.if_icmp .ge 49, 3) := dz_162 (n := 0) (r := 29) hz_X10_fallFrom_0 rfl (by decide +kernel)
theorem hz_X10_fallFrom_32 : (cX10_fallFrom.data.toList.drop 32).take 40 = [21, 4, 2, 159, 0, 43, 42, 89, 180, 0, 9, 4, 21, 4, 120, 130, 181, 0, 9, 42, 89, 180, 0, 15, 4, 96, 181, 0, 15, 43, 44, 42, 180, 0, 9, 182, 0, 18, 54, 4] := by decide +kernel
theorem dX10_fallFrom_32 : decode cX10_fallFrom 32 = .ok (.iload 4, 2) := dz_21 (n := 32) (r := 0) hz_X10_fallFrom_32 rfl rfl
theorem dX10_fallFrom_34 : decode cX10_fallFrom 34 = .ok (.iconst (-1), 1) := dz_2 (n := 32) (r := 2) hz_X10_fallFrom_32 rfl
theorem dX10_fallFrom_35 : decode cX10_fallFrom 35 = .ok (.if_icmp .eq 43, 3) := dz_159 (n := 32) (r := 3) hz_X10_fallFrom_32 rfl (by decide +kernel)
theorem dX10_fallFrom_38 : decode cX10_fallFrom 38 = .ok (.aload_n 0, 1) := dz_42 (n := 32) (r := 6) hz_X10_fallFrom_32 rfl
theorem dX10_fallFrom_39 : decode cX10_fallFrom 39 = .ok (.dup, 1) := dz_89 (n := 32) (r := 7) hz_X10_fallFrom_32 rfl
theorem dX10_fallFrom_40 : decode cX10_fallFrom 40 = .ok (.getfield 9, 3) := dz_180 (n := 32) (r := 8) hz_X10_fallFrom_32 rfl rfl
theorem dX10_fallFrom_43 : decode cX10_fallFrom 43 = .ok (.iconst 1, 1) := dz_4 (n := 32) (r := 11) hz_X10_fallFrom_32 rfl
theorem dX10_fallFrom_44 : decode cX10_fallFrom 44 = .ok (.iload 4, 2) := dz_21 (n := 32) (r := 12) hz_X10_fallFrom_32 rfl rfl
end
