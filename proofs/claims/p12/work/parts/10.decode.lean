theorem hz_X0_init_0 : (cX0_init.data.toList.drop 0).take 40 = [42, 183, 0, 3, 42, 16, 33, 188, 10, 181, 0, 9, 42, 16, 32, 188, 10, 181, 0, 15, 42, 16, 16, 188, 10, 181, 0, 18, 42, 2, 181, 0, 21, 177] := by decide +kernel
theorem dX0_init_0 : decode cX0_init 0 = .ok (.aload_n 0, 1) := dz_42 (n := 0) (r := 0) hz_X0_init_0 rfl
theorem dX0_init_1 : decode cX0_init 1 = .ok (.invokespecial 3, 3) := dz_183 (n := 0) (r := 1) hz_X0_init_0 rfl rfl
theorem dX0_init_4 : decode cX0_init 4 = .ok (.aload_n 0, 1) := dz_42 (n := 0) (r := 4) hz_X0_init_0 rfl
theorem dX0_init_5 : decode cX0_init 5 = .ok (.bipush 33, 2) := dz_16 (n := 0) (r := 5) hz_X0_init_0 rfl rfl
theorem dX0_init_7 : decode cX0_init 7 = .ok (.newarray .int, 2) := dz_188_10 (n := 0) (r := 7) hz_X0_init_0 rfl
theorem dX0_init_9 : decode cX0_init 9 = .ok (.putfield 9, 3) := dz_181 (n := 0) (r := 9) hz_X0_init_0 rfl rfl
theorem dX0_init_12 : decode cX0_init 12 = .ok (.aload_n 0, 1) := dz_42 (n := 0) (r := 12) hz_X0_init_0 rfl
theorem dX0_init_13 : decode cX0_init 13 = .ok (.bipush 32, 2) := dz_16 (n := 0) (r := 13) hz_X0_init_0 rfl rfl
theorem dX0_init_15 : decode cX0_init 15 = .ok (.newarray .int, 2) := dz_188_10 (n := 0) (r := 15) hz_X0_init_0 rfl
theorem dX0_init_17 : decode cX0_init 17 = .ok (.putfield 15, 3) := dz_181 (n := 0) (r := 17) hz_X0_init_0 rfl rfl
theorem dX0_init_20 : decode cX0_init 20 = .ok (.aload_n 0, 1) := dz_42 (n := 0) (r := 20) hz_X0_init_0 rfl
theorem dX0_init_21 : decode cX0_init 21 = .ok (.bipush 16, 2) := dz_16 (n := 0) (r := 21) hz_X0_init_0 rfl rfl
theorem dX0_init_23 : decode cX0_init 23 = .ok (.newarray .int, 2) := dz_188_10 (n := 0) (r := 23) hz_X0_init_0 rfl
theorem dX0_init_25 : decode cX0_init 25 = .ok (.putfield 18, 3) := dz_181 (n := 0) (r := 25) hz_X0_init_0 rfl rfl
theorem dX0_init_28 : decode cX0_init 28 = .ok (.aload_n 0, 1) := dz_42 (n := 0) (r := 28) hz_X0_init_0 rfl
theorem dX0_init_29 : decode cX0_init 29 = .ok (.iconst (-1), 1) := dz_2 (n := 0) (r := 29) hz_X0_init_0 rfl
theorem dX0_init_30 : decode cX0_init 30 = .ok (.putfield 21, 3) := dz_181 (n := 0) (r := 30) hz_X0_init_0 rfl rfl
theorem hz_X0_init_32 : (cX0_init.data.toList.drop 32).take 40 = [21, 177] := by decide +kernel
theorem dX0_init_33 : decode cX0_init 33 = .ok (.return_, 1) := dz_177 (n := 32) (r := 1) hz_X0_init_32 rfl
theorem hz_X0_gather_0 : (cX0_gather.data.toList.drop 0).take 40 = [3, 54, 4, 3, 54, 5, 21, 5, 16, 32, 162, 0, 54, 42, 180, 0, 15, 21, 5, 43, 21, 5, 182, 0, 25, 2, 160, 0, 7, 3, 167, 0, 12, 44, 21, 5, 182, 0, 31, 184] := by decide +kernel
theorem dX0_gather_0 : decode cX0_gather 0 = .ok (.iconst 0, 1) := dz_3 (n := 0) (r := 0) hz_X0_gather_0 rfl
theorem dX0_gather_1 : decode cX0_gather 1 = .ok (.istore 4, 2) := dz_54 (n := 0) (r := 1) hz_X0_gather_0 rfl rfl
theorem dX0_gather_3 : decode cX0_gather 3 = .ok (.iconst 0, 1) := dz_3 (n := 0) (r := 3) hz_X0_gather_0 rfl
theorem dX0_gather_4 : decode cX0_gather 4 = .ok (.istore 5, 2) := dz_54 (n := 0) (r := 4) hz_X0_gather_0 rfl rfl
theorem dX0_gather_6 : decode cX0_gather 6 = .ok (.iload 5, 2) := dz_21 (n := 0) (r := 6) hz_X0_gather_0 rfl rfl
theorem dX0_gather_8 : decode cX0_gather 8 = .ok (.bipush 32, 2) := dz_16 (n := 0) (r := 8) hz_X0_gather_0 rfl rfl
theorem dX0_gather_10 : decode cX0_gather 10 = .ok (.if_icmp .ge 54, 3) := dz_162 (n := 0) (r := 10) hz_X0_gather_0 rfl (by decide +kernel)
theorem dX0_gather_13 : decode cX0_gather 13 = .ok (.aload_n 0, 1) := dz_42 (n := 0) (r := 13) hz_X0_gather_0 rfl
theorem dX0_gather_14 : decode cX0_gather 14 = .ok (.getfield 15, 3) := dz_180 (n := 0) (r := 14) hz_X0_gather_0 rfl rfl
theorem dX0_gather_17 : decode cX0_gather 17 = .ok (.iload 5, 2) := dz_21 (n := 0) (r := 17) hz_X0_gather_0 rfl rfl
theorem dX0_gather_19 : decode cX0_gather 19 = .ok (.aload_n 1, 1) := dz_43 (n := 0) (r := 19) hz_X0_gather_0 rfl
theorem dX0_gather_20 : decode cX0_gather 20 = .ok (.iload 5, 2) := dz_21 (n := 0) (r := 20) hz_X0_gather_0 rfl rfl
theorem dX0_gather_22 : decode cX0_gather 22 = .ok (.invokevirtual 25, 3) := dz_182 (n := 0) (r := 22) hz_X0_gather_0 rfl rfl
theorem dX0_gather_25 : decode cX0_gather 25 = .ok (.iconst (-1), 1) := dz_2 (n := 0) (r := 25) hz_X0_gather_0 rfl
theorem dX0_gather_26 : decode cX0_gather 26 = .ok (.if_icmp .ne 7, 3) := dz_160 (n := 0) (r := 26) hz_X0_gather_0 rfl (by decide +kernel)
theorem dX0_gather_29 : decode cX0_gather 29 = .ok (.iconst 0, 1) := dz_3 (n := 0) (r := 29) hz_X0_gather_0 rfl
theorem dX0_gather_30 : decode cX0_gather 30 = .ok (.goto 12, 3) := dz_167 (n := 0) (r := 30) hz_X0_gather_0 rfl (by decide +kernel)
theorem hz_X0_gather_32 : (cX0_gather.data.toList.drop 32).take 40 = [12, 44, 21, 5, 182, 0, 31, 184, 0, 36, 79, 21, 4, 42, 180, 0, 15, 21, 5, 46, 184, 0, 41, 96, 54, 4, 132, 5, 1, 167, 255, 201, 45, 43, 42, 180, 0, 15, 42, 180] := by decide +kernel
theorem dX0_gather_33 : decode cX0_gather 33 = .ok (.aload_n 2, 1) := dz_44 (n := 32) (r := 1) hz_X0_gather_32 rfl
theorem dX0_gather_34 : decode cX0_gather 34 = .ok (.iload 5, 2) := dz_21 (n := 32) (r := 2) hz_X0_gather_32 rfl rfl
theorem dX0_gather_36 : decode cX0_gather 36 = .ok (.invokevirtual 31, 3) := dz_182 (n := 32) (r := 4) hz_X0_gather_32 rfl rfl
theorem dX0_gather_39 : decode cX0_gather 39 = .ok (.invokestatic 36, 3) := dz_184 (n := 32) (r := 7) hz_X0_gather_32 rfl rfl
theorem dX0_gather_42 : decode cX0_gather 42 = .ok (.iastore, 1) := dz_79 (n := 32) (r := 10) hz_X0_gather_32 rfl
theorem dX0_gather_43 : decode cX0_gather 43 = .ok (.iload 4, 2) := dz_21 (n := 32) (r := 11) hz_X0_gather_32 rfl rfl
theorem dX0_gather_45 : decode cX0_gather 45 = .ok (.aload_n 0, 1) := dz_42 (n := 32) (r := 13) hz_X0_gather_32 rfl
theorem dX0_gather_46 : decode cX0_gather 46 = .ok (.getfield 15, 3) := dz_180 (n := 32) (r := 14) hz_X0_gather_32 rfl rfl
theorem dX0_gather_49 : decode cX0_gather 49 = .ok (.iload 5, 2) := dz_21 (n := 32) (r := 17) hz_X0_gather_32 rfl rfl
theorem dX0_gather_51 : decode cX0_gather 51 = .ok (.iaload, 1) := dz_46 (n := 32) (r := 19) hz_X0_gather_32 rfl
theorem dX0_gather_52 : decode cX0_gather 52 = .ok (.invokestatic 41, 3) := dz_184 (n := 32) (r := 20) hz_X0_gather_32 rfl rfl
theorem dX0_gather_55 : decode cX0_gather 55 = .ok (.iadd, 1) := dz_96 (n := 32) (r := 23) hz_X0_gather_32 rfl
theorem dX0_gather_56 : decode cX0_gather 56 = .ok (.istore 4, 2) := dz_54 (n := 32) (r := 24) hz_X0_gather_32 rfl rfl
theorem dX0_gather_58 : decode cX0_gather 58 = .ok (.iinc 5 1, 3) := dz_132 (n := 32) (r := 26) hz_X0_gather_32 rfl rfl rfl
theorem dX0_gather_61 : decode cX0_gather 61 = .ok (.goto (-55), 3) := dz_167 (n := 32) (r := 29) hz_X0_gather_32 rfl (by decide +kernel)
theorem hz_X0_gather_64 : (cX0_gather.data.toList.drop 64).take 40 = [45, 43, 42, 180, 0, 15, 42, 180, 0, 18, 43, 180, 0, 46, 182, 0, 49, 42, 180, 0, 9, 3, 184, 0, 55, 43, 182, 0, 60, 54, 5, 3, 54, 6, 21, 6, 21, 5, 162, 0] := by decide +kernel
theorem dX0_gather_64 : decode cX0_gather 64 = .ok (.aload_n 3, 1) := dz_45 (n := 64) (r := 0) hz_X0_gather_64 rfl
theorem dX0_gather_65 : decode cX0_gather 65 = .ok (.aload_n 1, 1) := dz_43 (n := 64) (r := 1) hz_X0_gather_64 rfl
theorem dX0_gather_66 : decode cX0_gather 66 = .ok (.aload_n 0, 1) := dz_42 (n := 64) (r := 2) hz_X0_gather_64 rfl
theorem dX0_gather_67 : decode cX0_gather 67 = .ok (.getfield 15, 3) := dz_180 (n := 64) (r := 3) hz_X0_gather_64 rfl rfl
theorem dX0_gather_70 : decode cX0_gather 70 = .ok (.aload_n 0, 1) := dz_42 (n := 64) (r := 6) hz_X0_gather_64 rfl
theorem dX0_gather_71 : decode cX0_gather 71 = .ok (.getfield 18, 3) := dz_180 (n := 64) (r := 7) hz_X0_gather_64 rfl rfl
theorem dX0_gather_74 : decode cX0_gather 74 = .ok (.aload_n 1, 1) := dz_43 (n := 64) (r := 10) hz_X0_gather_64 rfl
theorem dX0_gather_75 : decode cX0_gather 75 = .ok (.getfield 46, 3) := dz_180 (n := 64) (r := 11) hz_X0_gather_64 rfl rfl
theorem dX0_gather_78 : decode cX0_gather 78 = .ok (.invokevirtual 49, 3) := dz_182 (n := 64) (r := 14) hz_X0_gather_64 rfl rfl
theorem dX0_gather_81 : decode cX0_gather 81 = .ok (.aload_n 0, 1) := dz_42 (n := 64) (r := 17) hz_X0_gather_64 rfl
theorem dX0_gather_82 : decode cX0_gather 82 = .ok (.getfield 9, 3) := dz_180 (n := 64) (r := 18) hz_X0_gather_64 rfl rfl
theorem dX0_gather_85 : decode cX0_gather 85 = .ok (.iconst 0, 1) := dz_3 (n := 64) (r := 21) hz_X0_gather_64 rfl
theorem dX0_gather_86 : decode cX0_gather 86 = .ok (.invokestatic 55, 3) := dz_184 (n := 64) (r := 22) hz_X0_gather_64 rfl rfl
theorem dX0_gather_89 : decode cX0_gather 89 = .ok (.aload_n 1, 1) := dz_43 (n := 64) (r := 25) hz_X0_gather_64 rfl
theorem dX0_gather_90 : decode cX0_gather 90 = .ok (.invokevirtual 60, 3) := dz_182 (n := 64) (r := 26) hz_X0_gather_64 rfl rfl
theorem dX0_gather_93 : decode cX0_gather 93 = .ok (.istore 5, 2) := dz_54 (n := 64) (r := 29) hz_X0_gather_64 rfl rfl
theorem dX0_gather_95 : decode cX0_gather 95 = .ok (.iconst 0, 1) := dz_3 (n := 64) (r := 31) hz_X0_gather_64 rfl
theorem hz_X0_gather_96 : (cX0_gather.data.toList.drop 96).take 40 = [54, 6, 21, 6, 21, 5, 162, 0, 57, 21, 4, 45, 21, 6, 182, 0, 64, 96, 5, 108, 54, 7, 44, 21, 6, 182, 0, 67, 153, 0, 29, 21, 7, 155, 0, 24, 21, 7, 42, 180] := by decide +kernel
theorem dX0_gather_96 : decode cX0_gather 96 = .ok (.istore 6, 2) := dz_54 (n := 96) (r := 0) hz_X0_gather_96 rfl rfl
theorem dX0_gather_98 : decode cX0_gather 98 = .ok (.iload 6, 2) := dz_21 (n := 96) (r := 2) hz_X0_gather_96 rfl rfl
theorem dX0_gather_100 : decode cX0_gather 100 = .ok (.iload 5, 2) := dz_21 (n := 96) (r := 4) hz_X0_gather_96 rfl rfl
theorem dX0_gather_102 : decode cX0_gather 102 = .ok (.if_icmp .ge 57, 3) := dz_162 (n := 96) (r := 6) hz_X0_gather_96 rfl (by decide +kernel)
theorem dX0_gather_105 : decode cX0_gather 105 = .ok (.iload 4, 2) := dz_21 (n := 96) (r := 9) hz_X0_gather_96 rfl rfl
theorem dX0_gather_107 : decode cX0_gather 107 = .ok (.aload_n 3, 1) := dz_45 (n := 96) (r := 11) hz_X0_gather_96 rfl
theorem dX0_gather_108 : decode cX0_gather 108 = .ok (.iload 6, 2) := dz_21 (n := 96) (r := 12) hz_X0_gather_96 rfl rfl
theorem dX0_gather_110 : decode cX0_gather 110 = .ok (.invokevirtual 64, 3) := dz_182 (n := 96) (r := 14) hz_X0_gather_96 rfl rfl
theorem dX0_gather_113 : decode cX0_gather 113 = .ok (.iadd, 1) := dz_96 (n := 96) (r := 17) hz_X0_gather_96 rfl
theorem dX0_gather_114 : decode cX0_gather 114 = .ok (.iconst 2, 1) := dz_5 (n := 96) (r := 18) hz_X0_gather_96 rfl
theorem dX0_gather_115 : decode cX0_gather 115 = .ok (.idiv, 1) := dz_108 (n := 96) (r := 19) hz_X0_gather_96 rfl
theorem dX0_gather_116 : decode cX0_gather 116 = .ok (.istore 7, 2) := dz_54 (n := 96) (r := 20) hz_X0_gather_96 rfl rfl
theorem dX0_gather_118 : decode cX0_gather 118 = .ok (.aload_n 2, 1) := dz_44 (n := 96) (r := 22) hz_X0_gather_96 rfl
theorem dX0_gather_119 : decode cX0_gather 119 = .ok (.iload 6, 2) := dz_21 (n := 96) (r := 23) hz_X0_gather_96 rfl rfl
theorem dX0_gather_121 : decode cX0_gather 121 = .ok (.invokevirtual 67, 3) := dz_182 (n := 96) (r := 25) hz_X0_gather_96 rfl rfl
theorem dX0_gather_124 : decode cX0_gather 124 = .ok (.ifCond .eq 29, 3) := dz_153 (n := 96) (r := 28) hz_X0_gather_96 rfl (by decide +kernel)
theorem dX0_gather_127 : decode cX0_gather 127 = .ok (.iload 7, 2) := dz_21 (n := 96) (r := 31) hz_X0_gather_96 rfl rfl
theorem hz_X0_gather_128 : (cX0_gather.data.toList.drop 128).take 40 = [7, 155, 0, 24, 21, 7, 42, 180, 0, 9, 190, 162, 0, 14, 42, 180, 0, 9, 21, 7, 92, 46, 4, 96, 79, 132, 6, 1, 167, 255, 198, 177] := by decide +kernel
theorem dX0_gather_129 : decode cX0_gather 129 = .ok (.ifCond .lt 24, 3) := dz_155 (n := 128) (r := 1) hz_X0_gather_128 rfl (by decide +kernel)
theorem dX0_gather_132 : decode cX0_gather 132 = .ok (.iload 7, 2) := dz_21 (n := 128) (r := 4) hz_X0_gather_128 rfl rfl
theorem dX0_gather_134 : decode cX0_gather 134 = .ok (.aload_n 0, 1) := dz_42 (n := 128) (r := 6) hz_X0_gather_128 rfl
theorem dX0_gather_135 : decode cX0_gather 135 = .ok (.getfield 9, 3) := dz_180 (n := 128) (r := 7) hz_X0_gather_128 rfl rfl
theorem dX0_gather_138 : decode cX0_gather 138 = .ok (.arraylength, 1) := dz_190 (n := 128) (r := 10) hz_X0_gather_128 rfl
theorem dX0_gather_139 : decode cX0_gather 139 = .ok (.if_icmp .ge 14, 3) := dz_162 (n := 128) (r := 11) hz_X0_gather_128 rfl (by decide +kernel)
theorem dX0_gather_142 : decode cX0_gather 142 = .ok (.aload_n 0, 1) := dz_42 (n := 128) (r := 14) hz_X0_gather_128 rfl
theorem dX0_gather_143 : decode cX0_gather 143 = .ok (.getfield 9, 3) := dz_180 (n := 128) (r := 15) hz_X0_gather_128 rfl rfl
theorem dX0_gather_146 : decode cX0_gather 146 = .ok (.iload 7, 2) := dz_21 (n := 128) (r := 18) hz_X0_gather_128 rfl rfl
theorem dX0_gather_148 : decode cX0_gather 148 = .ok (.dup2, 1) := dz_92 (n := 128) (r := 20) hz_X0_gather_128 rfl
theorem dX0_gather_149 : decode cX0_gather 149 = .ok (.iaload, 1) := dz_46 (n := 128) (r := 21) hz_X0_gather_128 rfl
theorem dX0_gather_150 : decode cX0_gather 150 = .ok (.iconst 1, 1) := dz_4 (n := 128) (r := 22) hz_X0_gather_128 rfl
theorem dX0_gather_151 : decode cX0_gather 151 = .ok (.iadd, 1) := dz_96 (n := 128) (r := 23) hz_X0_gather_128 rfl
theorem dX0_gather_152 : decode cX0_gather 152 = .ok (.iastore, 1) := dz_79 (n := 128) (r := 24) hz_X0_gather_128 rfl
theorem dX0_gather_153 : decode cX0_gather 153 = .ok (.iinc 6 1, 3) := dz_132 (n := 128) (r := 25) hz_X0_gather_128 rfl rfl rfl
theorem dX0_gather_156 : decode cX0_gather 156 = .ok (.goto (-58), 3) := dz_167 (n := 128) (r := 28) hz_X0_gather_128 rfl (by decide +kernel)
theorem dX0_gather_159 : decode cX0_gather 159 = .ok (.return_, 1) := dz_177 (n := 128) (r := 31) hz_X0_gather_128 rfl
theorem hz_X0_waysOf_0 : (cX0_waysOf.data.toList.drop 0).take 40 = [27, 155, 0, 21, 27, 42, 180, 0, 9, 190, 162, 0, 12, 42, 180, 0, 9, 27, 46, 167, 0, 4, 3, 172] := by decide +kernel
theorem dX0_waysOf_0 : decode cX0_waysOf 0 = .ok (.iload_n 1, 1) := dz_27 (n := 0) (r := 0) hz_X0_waysOf_0 rfl
theorem dX0_waysOf_1 : decode cX0_waysOf 1 = .ok (.ifCond .lt 21, 3) := dz_155 (n := 0) (r := 1) hz_X0_waysOf_0 rfl (by decide +kernel)
theorem dX0_waysOf_4 : decode cX0_waysOf 4 = .ok (.iload_n 1, 1) := dz_27 (n := 0) (r := 4) hz_X0_waysOf_0 rfl
theorem dX0_waysOf_5 : decode cX0_waysOf 5 = .ok (.aload_n 0, 1) := dz_42 (n := 0) (r := 5) hz_X0_waysOf_0 rfl
theorem dX0_waysOf_6 : decode cX0_waysOf 6 = .ok (.getfield 9, 3) := dz_180 (n := 0) (r := 6) hz_X0_waysOf_0 rfl rfl
theorem dX0_waysOf_9 : decode cX0_waysOf 9 = .ok (.arraylength, 1) := dz_190 (n := 0) (r := 9) hz_X0_waysOf_0 rfl
theorem dX0_waysOf_10 : decode cX0_waysOf 10 = .ok (.if_icmp .ge 12, 3) := dz_162 (n := 0) (r := 10) hz_X0_waysOf_0 rfl (by decide +kernel)
theorem dX0_waysOf_13 : decode cX0_waysOf 13 = .ok (.aload_n 0, 1) := dz_42 (n := 0) (r := 13) hz_X0_waysOf_0 rfl
theorem dX0_waysOf_14 : decode cX0_waysOf 14 = .ok (.getfield 9, 3) := dz_180 (n := 0) (r := 14) hz_X0_waysOf_0 rfl rfl
theorem dX0_waysOf_17 : decode cX0_waysOf 17 = .ok (.iload_n 1, 1) := dz_27 (n := 0) (r := 17) hz_X0_waysOf_0 rfl
theorem dX0_waysOf_18 : decode cX0_waysOf 18 = .ok (.iaload, 1) := dz_46 (n := 0) (r := 18) hz_X0_waysOf_0 rfl
theorem dX0_waysOf_19 : decode cX0_waysOf 19 = .ok (.goto 4, 3) := dz_167 (n := 0) (r := 19) hz_X0_waysOf_0 rfl (by decide +kernel)
theorem dX0_waysOf_22 : decode cX0_waysOf 22 = .ok (.iconst 0, 1) := dz_3 (n := 0) (r := 22) hz_X0_waysOf_0 rfl
theorem dX0_waysOf_23 : decode cX0_waysOf 23 = .ok (.ireturn, 1) := dz_172 (n := 0) (r := 23) hz_X0_waysOf_0 rfl
theorem hz_X0_fewest_0 : (cX0_fewest.data.toList.drop 0).take 40 = [3, 60, 27, 42, 180, 0, 9, 190, 162, 0, 20, 42, 180, 0, 9, 27, 46, 158, 0, 5, 27, 172, 132, 1, 1, 167, 255, 233, 3, 172] := by decide +kernel
theorem dX0_fewest_0 : decode cX0_fewest 0 = .ok (.iconst 0, 1) := dz_3 (n := 0) (r := 0) hz_X0_fewest_0 rfl
theorem dX0_fewest_1 : decode cX0_fewest 1 = .ok (.istore_n 1, 1) := dz_60 (n := 0) (r := 1) hz_X0_fewest_0 rfl
theorem dX0_fewest_2 : decode cX0_fewest 2 = .ok (.iload_n 1, 1) := dz_27 (n := 0) (r := 2) hz_X0_fewest_0 rfl
theorem dX0_fewest_3 : decode cX0_fewest 3 = .ok (.aload_n 0, 1) := dz_42 (n := 0) (r := 3) hz_X0_fewest_0 rfl
theorem dX0_fewest_4 : decode cX0_fewest 4 = .ok (.getfield 9, 3) := dz_180 (n := 0) (r := 4) hz_X0_fewest_0 rfl rfl
theorem dX0_fewest_7 : decode cX0_fewest 7 = .ok (.arraylength, 1) := dz_190 (n := 0) (r := 7) hz_X0_fewest_0 rfl
theorem dX0_fewest_8 : decode cX0_fewest 8 = .ok (.if_icmp .ge 20, 3) := dz_162 (n := 0) (r := 8) hz_X0_fewest_0 rfl (by decide +kernel)
theorem dX0_fewest_11 : decode cX0_fewest 11 = .ok (.aload_n 0, 1) := dz_42 (n := 0) (r := 11) hz_X0_fewest_0 rfl
theorem dX0_fewest_12 : decode cX0_fewest 12 = .ok (.getfield 9, 3) := dz_180 (n := 0) (r := 12) hz_X0_fewest_0 rfl rfl
theorem dX0_fewest_15 : decode cX0_fewest 15 = .ok (.iload_n 1, 1) := dz_27 (n := 0) (r := 15) hz_X0_fewest_0 rfl
theorem dX0_fewest_16 : decode cX0_fewest 16 = .ok (.iaload, 1) := dz_46 (n := 0) (r := 16) hz_X0_fewest_0 rfl
theorem dX0_fewest_17 : decode cX0_fewest 17 = .ok (.ifCond .le 5, 3) := dz_158 (n := 0) (r := 17) hz_X0_fewest_0 rfl (by decide +kernel)
theorem dX0_fewest_20 : decode cX0_fewest 20 = .ok (.iload_n 1, 1) := dz_27 (n := 0) (r := 20) hz_X0_fewest_0 rfl
theorem dX0_fewest_21 : decode cX0_fewest 21 = .ok (.ireturn, 1) := dz_172 (n := 0) (r := 21) hz_X0_fewest_0 rfl
theorem dX0_fewest_22 : decode cX0_fewest 22 = .ok (.iinc 1 1, 3) := dz_132 (n := 0) (r := 22) hz_X0_fewest_0 rfl rfl rfl
theorem dX0_fewest_25 : decode cX0_fewest 25 = .ok (.goto (-23), 3) := dz_167 (n := 0) (r := 25) hz_X0_fewest_0 rfl (by decide +kernel)
theorem dX0_fewest_28 : decode cX0_fewest 28 = .ok (.iconst 0, 1) := dz_3 (n := 0) (r := 28) hz_X0_fewest_0 rfl
theorem dX0_fewest_29 : decode cX0_fewest 29 = .ok (.ireturn, 1) := dz_172 (n := 0) (r := 29) hz_X0_fewest_0 rfl
theorem hz_X1_init_0 : (cX1_init.data.toList.drop 0).take 40 = [42, 183, 0, 3, 42, 187, 0, 9, 89, 183, 0, 11, 181, 0, 12, 42, 187, 0, 18, 89, 183, 0, 20, 181, 0, 21, 177] := by decide +kernel
theorem dX1_init_0 : decode cX1_init 0 = .ok (.aload_n 0, 1) := dz_42 (n := 0) (r := 0) hz_X1_init_0 rfl
theorem dX1_init_1 : decode cX1_init 1 = .ok (.invokespecial 3, 3) := dz_183 (n := 0) (r := 1) hz_X1_init_0 rfl rfl
theorem dX1_init_4 : decode cX1_init 4 = .ok (.aload_n 0, 1) := dz_42 (n := 0) (r := 4) hz_X1_init_0 rfl
theorem dX1_init_5 : decode cX1_init 5 = .ok (.new 9, 3) := dz_187 (n := 0) (r := 5) hz_X1_init_0 rfl rfl
theorem dX1_init_8 : decode cX1_init 8 = .ok (.dup, 1) := dz_89 (n := 0) (r := 8) hz_X1_init_0 rfl
theorem dX1_init_9 : decode cX1_init 9 = .ok (.invokespecial 11, 3) := dz_183 (n := 0) (r := 9) hz_X1_init_0 rfl rfl
theorem dX1_init_12 : decode cX1_init 12 = .ok (.putfield 12, 3) := dz_181 (n := 0) (r := 12) hz_X1_init_0 rfl rfl
theorem dX1_init_15 : decode cX1_init 15 = .ok (.aload_n 0, 1) := dz_42 (n := 0) (r := 15) hz_X1_init_0 rfl
theorem dX1_init_16 : decode cX1_init 16 = .ok (.new 18, 3) := dz_187 (n := 0) (r := 16) hz_X1_init_0 rfl rfl
theorem dX1_init_19 : decode cX1_init 19 = .ok (.dup, 1) := dz_89 (n := 0) (r := 19) hz_X1_init_0 rfl
theorem dX1_init_20 : decode cX1_init 20 = .ok (.invokespecial 20, 3) := dz_183 (n := 0) (r := 20) hz_X1_init_0 rfl rfl
theorem dX1_init_23 : decode cX1_init 23 = .ok (.putfield 21, 3) := dz_181 (n := 0) (r := 23) hz_X1_init_0 rfl rfl
theorem dX1_init_26 : decode cX1_init 26 = .ok (.return_, 1) := dz_177 (n := 0) (r := 26) hz_X1_init_0 rfl
theorem hz_X1_build_0 : (cX1_build.data.toList.drop 0).take 40 = [42, 182, 0, 25, 42, 180, 0, 12, 182, 0, 28, 60, 27, 153, 0, 16, 42, 27, 42, 180, 0, 12, 180, 0, 32, 182, 0, 36, 177, 42, 182, 0, 40, 42, 182, 0, 43, 3, 61, 28] := by decide +kernel
theorem dX1_build_0 : decode cX1_build 0 = .ok (.aload_n 0, 1) := dz_42 (n := 0) (r := 0) hz_X1_build_0 rfl
theorem dX1_build_1 : decode cX1_build 1 = .ok (.invokevirtual 25, 3) := dz_182 (n := 0) (r := 1) hz_X1_build_0 rfl rfl
theorem dX1_build_4 : decode cX1_build 4 = .ok (.aload_n 0, 1) := dz_42 (n := 0) (r := 4) hz_X1_build_0 rfl
theorem dX1_build_5 : decode cX1_build 5 = .ok (.getfield 12, 3) := dz_180 (n := 0) (r := 5) hz_X1_build_0 rfl rfl
theorem dX1_build_8 : decode cX1_build 8 = .ok (.invokevirtual 28, 3) := dz_182 (n := 0) (r := 8) hz_X1_build_0 rfl rfl
theorem dX1_build_11 : decode cX1_build 11 = .ok (.istore_n 1, 1) := dz_60 (n := 0) (r := 11) hz_X1_build_0 rfl
theorem dX1_build_12 : decode cX1_build 12 = .ok (.iload_n 1, 1) := dz_27 (n := 0) (r := 12) hz_X1_build_0 rfl
theorem dX1_build_13 : decode cX1_build 13 = .ok (.ifCond .eq 16, 3) := dz_153 (n := 0) (r := 13) hz_X1_build_0 rfl (by decide +kernel)
theorem dX1_build_16 : decode cX1_build 16 = .ok (.aload_n 0, 1) := dz_42 (n := 0) (r := 16) hz_X1_build_0 rfl
theorem dX1_build_17 : decode cX1_build 17 = .ok (.iload_n 1, 1) := dz_27 (n := 0) (r := 17) hz_X1_build_0 rfl
theorem dX1_build_18 : decode cX1_build 18 = .ok (.aload_n 0, 1) := dz_42 (n := 0) (r := 18) hz_X1_build_0 rfl
theorem dX1_build_19 : decode cX1_build 19 = .ok (.getfield 12, 3) := dz_180 (n := 0) (r := 19) hz_X1_build_0 rfl rfl
theorem dX1_build_22 : decode cX1_build 22 = .ok (.getfield 32, 3) := dz_180 (n := 0) (r := 22) hz_X1_build_0 rfl rfl
theorem dX1_build_25 : decode cX1_build 25 = .ok (.invokevirtual 36, 3) := dz_182 (n := 0) (r := 25) hz_X1_build_0 rfl rfl
theorem dX1_build_28 : decode cX1_build 28 = .ok (.return_, 1) := dz_177 (n := 0) (r := 28) hz_X1_build_0 rfl
theorem dX1_build_29 : decode cX1_build 29 = .ok (.aload_n 0, 1) := dz_42 (n := 0) (r := 29) hz_X1_build_0 rfl
theorem dX1_build_30 : decode cX1_build 30 = .ok (.invokevirtual 40, 3) := dz_182 (n := 0) (r := 30) hz_X1_build_0 rfl rfl
theorem hz_X1_build_32 : (cX1_build.data.toList.drop 32).take 40 = [40, 42, 182, 0, 43, 3, 61, 28, 17, 1, 144, 162, 0, 34, 42, 180, 0, 46, 154, 0, 27, 42, 180, 0, 49, 42, 180, 0, 12, 180, 0, 52, 162, 0, 13, 42, 182, 0, 55, 132] := by decide +kernel
theorem dX1_build_33 : decode cX1_build 33 = .ok (.aload_n 0, 1) := dz_42 (n := 32) (r := 1) hz_X1_build_32 rfl
theorem dX1_build_34 : decode cX1_build 34 = .ok (.invokevirtual 43, 3) := dz_182 (n := 32) (r := 2) hz_X1_build_32 rfl rfl
theorem dX1_build_37 : decode cX1_build 37 = .ok (.iconst 0, 1) := dz_3 (n := 32) (r := 5) hz_X1_build_32 rfl
theorem dX1_build_38 : decode cX1_build 38 = .ok (.istore_n 2, 1) := dz_61 (n := 32) (r := 6) hz_X1_build_32 rfl
theorem dX1_build_39 : decode cX1_build 39 = .ok (.iload_n 2, 1) := dz_28 (n := 32) (r := 7) hz_X1_build_32 rfl
theorem dX1_build_40 : decode cX1_build 40 = .ok (.sipush 400, 3) := dz_17 (n := 32) (r := 8) hz_X1_build_32 rfl (by decide +kernel)
theorem dX1_build_43 : decode cX1_build 43 = .ok (.if_icmp .ge 34, 3) := dz_162 (n := 32) (r := 11) hz_X1_build_32 rfl (by decide +kernel)
theorem dX1_build_46 : decode cX1_build 46 = .ok (.aload_n 0, 1) := dz_42 (n := 32) (r := 14) hz_X1_build_32 rfl
theorem dX1_build_47 : decode cX1_build 47 = .ok (.getfield 46, 3) := dz_180 (n := 32) (r := 15) hz_X1_build_32 rfl rfl
theorem dX1_build_50 : decode cX1_build 50 = .ok (.ifCond .ne 27, 3) := dz_154 (n := 32) (r := 18) hz_X1_build_32 rfl (by decide +kernel)
theorem dX1_build_53 : decode cX1_build 53 = .ok (.aload_n 0, 1) := dz_42 (n := 32) (r := 21) hz_X1_build_32 rfl
theorem dX1_build_54 : decode cX1_build 54 = .ok (.getfield 49, 3) := dz_180 (n := 32) (r := 22) hz_X1_build_32 rfl rfl
theorem dX1_build_57 : decode cX1_build 57 = .ok (.aload_n 0, 1) := dz_42 (n := 32) (r := 25) hz_X1_build_32 rfl
theorem dX1_build_58 : decode cX1_build 58 = .ok (.getfield 12, 3) := dz_180 (n := 32) (r := 26) hz_X1_build_32 rfl rfl
theorem dX1_build_61 : decode cX1_build 61 = .ok (.getfield 52, 3) := dz_180 (n := 32) (r := 29) hz_X1_build_32 rfl rfl
theorem hz_X1_build_64 : (cX1_build.data.toList.drop 64).take 40 = [162, 0, 13, 42, 182, 0, 55, 132, 2, 1, 167, 255, 221, 42, 182, 0, 58, 177] := by decide +kernel
theorem dX1_build_64 : decode cX1_build 64 = .ok (.if_icmp .ge 13, 3) := dz_162 (n := 64) (r := 0) hz_X1_build_64 rfl (by decide +kernel)
theorem dX1_build_67 : decode cX1_build 67 = .ok (.aload_n 0, 1) := dz_42 (n := 64) (r := 3) hz_X1_build_64 rfl
theorem dX1_build_68 : decode cX1_build 68 = .ok (.invokevirtual 55, 3) := dz_182 (n := 64) (r := 4) hz_X1_build_64 rfl rfl
theorem dX1_build_71 : decode cX1_build 71 = .ok (.iinc 2 1, 3) := dz_132 (n := 64) (r := 7) hz_X1_build_64 rfl rfl rfl
theorem dX1_build_74 : decode cX1_build 74 = .ok (.goto (-35), 3) := dz_167 (n := 64) (r := 10) hz_X1_build_64 rfl (by decide +kernel)
theorem dX1_build_77 : decode cX1_build 77 = .ok (.aload_n 0, 1) := dz_42 (n := 64) (r := 13) hz_X1_build_64 rfl
theorem dX1_build_78 : decode cX1_build 78 = .ok (.invokevirtual 58, 3) := dz_182 (n := 64) (r := 14) hz_X1_build_64 rfl rfl
theorem dX1_build_81 : decode cX1_build 81 = .ok (.return_, 1) := dz_177 (n := 64) (r := 17) hz_X1_build_64 rfl
theorem hz_X1_begin_0 : (cX1_begin.data.toList.drop 0).take 40 = [42, 180, 0, 21, 182, 0, 61, 42, 3, 181, 0, 46, 42, 2, 181, 0, 64, 42, 3, 181, 0, 49, 42, 3, 181, 0, 67, 42, 3, 181, 0, 70, 42, 3, 181, 0, 73, 42, 3, 181] := by decide +kernel
theorem dX1_begin_0 : decode cX1_begin 0 = .ok (.aload_n 0, 1) := dz_42 (n := 0) (r := 0) hz_X1_begin_0 rfl
theorem dX1_begin_1 : decode cX1_begin 1 = .ok (.getfield 21, 3) := dz_180 (n := 0) (r := 1) hz_X1_begin_0 rfl rfl
theorem dX1_begin_4 : decode cX1_begin 4 = .ok (.invokevirtual 61, 3) := dz_182 (n := 0) (r := 4) hz_X1_begin_0 rfl rfl
theorem dX1_begin_7 : decode cX1_begin 7 = .ok (.aload_n 0, 1) := dz_42 (n := 0) (r := 7) hz_X1_begin_0 rfl
theorem dX1_begin_8 : decode cX1_begin 8 = .ok (.iconst 0, 1) := dz_3 (n := 0) (r := 8) hz_X1_begin_0 rfl
theorem dX1_begin_9 : decode cX1_begin 9 = .ok (.putfield 46, 3) := dz_181 (n := 0) (r := 9) hz_X1_begin_0 rfl rfl
theorem dX1_begin_12 : decode cX1_begin 12 = .ok (.aload_n 0, 1) := dz_42 (n := 0) (r := 12) hz_X1_begin_0 rfl
theorem dX1_begin_13 : decode cX1_begin 13 = .ok (.iconst (-1), 1) := dz_2 (n := 0) (r := 13) hz_X1_begin_0 rfl
theorem dX1_begin_14 : decode cX1_begin 14 = .ok (.putfield 64, 3) := dz_181 (n := 0) (r := 14) hz_X1_begin_0 rfl rfl
theorem dX1_begin_17 : decode cX1_begin 17 = .ok (.aload_n 0, 1) := dz_42 (n := 0) (r := 17) hz_X1_begin_0 rfl
theorem dX1_begin_18 : decode cX1_begin 18 = .ok (.iconst 0, 1) := dz_3 (n := 0) (r := 18) hz_X1_begin_0 rfl
theorem dX1_begin_19 : decode cX1_begin 19 = .ok (.putfield 49, 3) := dz_181 (n := 0) (r := 19) hz_X1_begin_0 rfl rfl
theorem dX1_begin_22 : decode cX1_begin 22 = .ok (.aload_n 0, 1) := dz_42 (n := 0) (r := 22) hz_X1_begin_0 rfl
theorem dX1_begin_23 : decode cX1_begin 23 = .ok (.iconst 0, 1) := dz_3 (n := 0) (r := 23) hz_X1_begin_0 rfl
theorem dX1_begin_24 : decode cX1_begin 24 = .ok (.putfield 67, 3) := dz_181 (n := 0) (r := 24) hz_X1_begin_0 rfl rfl
theorem dX1_begin_27 : decode cX1_begin 27 = .ok (.aload_n 0, 1) := dz_42 (n := 0) (r := 27) hz_X1_begin_0 rfl
theorem dX1_begin_28 : decode cX1_begin 28 = .ok (.iconst 0, 1) := dz_3 (n := 0) (r := 28) hz_X1_begin_0 rfl
theorem dX1_begin_29 : decode cX1_begin 29 = .ok (.putfield 70, 3) := dz_181 (n := 0) (r := 29) hz_X1_begin_0 rfl rfl
theorem hz_X1_begin_32 : (cX1_begin.data.toList.drop 32).take 40 = [42, 3, 181, 0, 73, 42, 3, 181, 0, 76, 42, 3, 181, 0, 79, 42, 3, 181, 0, 82, 177] := by decide +kernel
theorem dX1_begin_32 : decode cX1_begin 32 = .ok (.aload_n 0, 1) := dz_42 (n := 32) (r := 0) hz_X1_begin_32 rfl
theorem dX1_begin_33 : decode cX1_begin 33 = .ok (.iconst 0, 1) := dz_3 (n := 32) (r := 1) hz_X1_begin_32 rfl
theorem dX1_begin_34 : decode cX1_begin 34 = .ok (.putfield 73, 3) := dz_181 (n := 32) (r := 2) hz_X1_begin_32 rfl rfl
theorem dX1_begin_37 : decode cX1_begin 37 = .ok (.aload_n 0, 1) := dz_42 (n := 32) (r := 5) hz_X1_begin_32 rfl
theorem dX1_begin_38 : decode cX1_begin 38 = .ok (.iconst 0, 1) := dz_3 (n := 32) (r := 6) hz_X1_begin_32 rfl
theorem dX1_begin_39 : decode cX1_begin 39 = .ok (.putfield 76, 3) := dz_181 (n := 32) (r := 7) hz_X1_begin_32 rfl rfl
theorem dX1_begin_42 : decode cX1_begin 42 = .ok (.aload_n 0, 1) := dz_42 (n := 32) (r := 10) hz_X1_begin_32 rfl
theorem dX1_begin_43 : decode cX1_begin 43 = .ok (.iconst 0, 1) := dz_3 (n := 32) (r := 11) hz_X1_begin_32 rfl
theorem dX1_begin_44 : decode cX1_begin 44 = .ok (.putfield 79, 3) := dz_181 (n := 32) (r := 12) hz_X1_begin_32 rfl rfl
theorem dX1_begin_47 : decode cX1_begin 47 = .ok (.aload_n 0, 1) := dz_42 (n := 32) (r := 15) hz_X1_begin_32 rfl
theorem dX1_begin_48 : decode cX1_begin 48 = .ok (.iconst 0, 1) := dz_3 (n := 32) (r := 16) hz_X1_begin_32 rfl
theorem dX1_begin_49 : decode cX1_begin 49 = .ok (.putfield 82, 3) := dz_181 (n := 32) (r := 17) hz_X1_begin_32 rfl rfl
theorem dX1_begin_52 : decode cX1_begin 52 = .ok (.return_, 1) := dz_177 (n := 32) (r := 20) hz_X1_begin_32 rfl
theorem hz_X1_blame_0 : (cX1_blame.data.toList.drop 0).take 40 = [42, 180, 0, 46, 154, 0, 13, 42, 27, 181, 0, 46, 42, 28, 181, 0, 64, 177] := by decide +kernel
theorem dX1_blame_0 : decode cX1_blame 0 = .ok (.aload_n 0, 1) := dz_42 (n := 0) (r := 0) hz_X1_blame_0 rfl
theorem dX1_blame_1 : decode cX1_blame 1 = .ok (.getfield 46, 3) := dz_180 (n := 0) (r := 1) hz_X1_blame_0 rfl rfl
theorem dX1_blame_4 : decode cX1_blame 4 = .ok (.ifCond .ne 13, 3) := dz_154 (n := 0) (r := 4) hz_X1_blame_0 rfl (by decide +kernel)
theorem dX1_blame_7 : decode cX1_blame 7 = .ok (.aload_n 0, 1) := dz_42 (n := 0) (r := 7) hz_X1_blame_0 rfl
theorem dX1_blame_8 : decode cX1_blame 8 = .ok (.iload_n 1, 1) := dz_27 (n := 0) (r := 8) hz_X1_blame_0 rfl
theorem dX1_blame_9 : decode cX1_blame 9 = .ok (.putfield 46, 3) := dz_181 (n := 0) (r := 9) hz_X1_blame_0 rfl rfl
theorem dX1_blame_12 : decode cX1_blame 12 = .ok (.aload_n 0, 1) := dz_42 (n := 0) (r := 12) hz_X1_blame_0 rfl
theorem dX1_blame_13 : decode cX1_blame 13 = .ok (.iload_n 2, 1) := dz_28 (n := 0) (r := 13) hz_X1_blame_0 rfl
theorem dX1_blame_14 : decode cX1_blame 14 = .ok (.putfield 64, 3) := dz_181 (n := 0) (r := 14) hz_X1_blame_0 rfl rfl
theorem dX1_blame_17 : decode cX1_blame 17 = .ok (.return_, 1) := dz_177 (n := 0) (r := 17) hz_X1_blame_0 rfl
theorem hz_X1_takeKind_0 : (cX1_takeKind.data.toList.drop 0).take 40 = [42, 180, 0, 12, 42, 180, 0, 49, 182, 0, 85, 60, 42, 89, 180, 0, 49, 4, 96, 181, 0, 49, 27, 172] := by decide +kernel
theorem dX1_takeKind_0 : decode cX1_takeKind 0 = .ok (.aload_n 0, 1) := dz_42 (n := 0) (r := 0) hz_X1_takeKind_0 rfl
theorem dX1_takeKind_1 : decode cX1_takeKind 1 = .ok (.getfield 12, 3) := dz_180 (n := 0) (r := 1) hz_X1_takeKind_0 rfl rfl
theorem dX1_takeKind_4 : decode cX1_takeKind 4 = .ok (.aload_n 0, 1) := dz_42 (n := 0) (r := 4) hz_X1_takeKind_0 rfl
theorem dX1_takeKind_5 : decode cX1_takeKind 5 = .ok (.getfield 49, 3) := dz_180 (n := 0) (r := 5) hz_X1_takeKind_0 rfl rfl
theorem dX1_takeKind_8 : decode cX1_takeKind 8 = .ok (.invokevirtual 85, 3) := dz_182 (n := 0) (r := 8) hz_X1_takeKind_0 rfl rfl
theorem dX1_takeKind_11 : decode cX1_takeKind 11 = .ok (.istore_n 1, 1) := dz_60 (n := 0) (r := 11) hz_X1_takeKind_0 rfl
theorem dX1_takeKind_12 : decode cX1_takeKind 12 = .ok (.aload_n 0, 1) := dz_42 (n := 0) (r := 12) hz_X1_takeKind_0 rfl
theorem dX1_takeKind_13 : decode cX1_takeKind 13 = .ok (.dup, 1) := dz_89 (n := 0) (r := 13) hz_X1_takeKind_0 rfl
theorem dX1_takeKind_14 : decode cX1_takeKind 14 = .ok (.getfield 49, 3) := dz_180 (n := 0) (r := 14) hz_X1_takeKind_0 rfl rfl
theorem dX1_takeKind_17 : decode cX1_takeKind 17 = .ok (.iconst 1, 1) := dz_4 (n := 0) (r := 17) hz_X1_takeKind_0 rfl
theorem dX1_takeKind_18 : decode cX1_takeKind 18 = .ok (.iadd, 1) := dz_96 (n := 0) (r := 18) hz_X1_takeKind_0 rfl
theorem dX1_takeKind_19 : decode cX1_takeKind 19 = .ok (.putfield 49, 3) := dz_181 (n := 0) (r := 19) hz_X1_takeKind_0 rfl rfl
theorem dX1_takeKind_22 : decode cX1_takeKind 22 = .ok (.iload_n 1, 1) := dz_27 (n := 0) (r := 22) hz_X1_takeKind_0 rfl
theorem dX1_takeKind_23 : decode cX1_takeKind 23 = .ok (.ireturn, 1) := dz_172 (n := 0) (r := 23) hz_X1_takeKind_0 rfl
theorem hz_X1_takeInt_0 : (cX1_takeInt.data.toList.drop 0).take 40 = [42, 180, 0, 12, 42, 180, 0, 49, 182, 0, 89, 60, 42, 89, 180, 0, 49, 4, 96, 181, 0, 49, 27, 172] := by decide +kernel
theorem dX1_takeInt_0 : decode cX1_takeInt 0 = .ok (.aload_n 0, 1) := dz_42 (n := 0) (r := 0) hz_X1_takeInt_0 rfl
theorem dX1_takeInt_1 : decode cX1_takeInt 1 = .ok (.getfield 12, 3) := dz_180 (n := 0) (r := 1) hz_X1_takeInt_0 rfl rfl
theorem dX1_takeInt_4 : decode cX1_takeInt 4 = .ok (.aload_n 0, 1) := dz_42 (n := 0) (r := 4) hz_X1_takeInt_0 rfl
theorem dX1_takeInt_5 : decode cX1_takeInt 5 = .ok (.getfield 49, 3) := dz_180 (n := 0) (r := 5) hz_X1_takeInt_0 rfl rfl
theorem dX1_takeInt_8 : decode cX1_takeInt 8 = .ok (.invokevirtual 89, 3) := dz_182 (n := 0) (r := 8) hz_X1_takeInt_0 rfl rfl
theorem dX1_takeInt_11 : decode cX1_takeInt 11 = .ok (.istore_n 1, 1) := dz_60 (n := 0) (r := 11) hz_X1_takeInt_0 rfl
theorem dX1_takeInt_12 : decode cX1_takeInt 12 = .ok (.aload_n 0, 1) := dz_42 (n := 0) (r := 12) hz_X1_takeInt_0 rfl
theorem dX1_takeInt_13 : decode cX1_takeInt 13 = .ok (.dup, 1) := dz_89 (n := 0) (r := 13) hz_X1_takeInt_0 rfl
theorem dX1_takeInt_14 : decode cX1_takeInt 14 = .ok (.getfield 49, 3) := dz_180 (n := 0) (r := 14) hz_X1_takeInt_0 rfl rfl
theorem dX1_takeInt_17 : decode cX1_takeInt 17 = .ok (.iconst 1, 1) := dz_4 (n := 0) (r := 17) hz_X1_takeInt_0 rfl
theorem dX1_takeInt_18 : decode cX1_takeInt 18 = .ok (.iadd, 1) := dz_96 (n := 0) (r := 18) hz_X1_takeInt_0 rfl
theorem dX1_takeInt_19 : decode cX1_takeInt 19 = .ok (.putfield 49, 3) := dz_181 (n := 0) (r := 19) hz_X1_takeInt_0 rfl rfl
theorem dX1_takeInt_22 : decode cX1_takeInt 22 = .ok (.iload_n 1, 1) := dz_27 (n := 0) (r := 22) hz_X1_takeInt_0 rfl
theorem dX1_takeInt_23 : decode cX1_takeInt 23 = .ok (.ireturn, 1) := dz_172 (n := 0) (r := 23) hz_X1_takeInt_0 rfl
theorem hz_X1_takeSize_0 : (cX1_takeSize.data.toList.drop 0).take 40 = [42, 182, 0, 92, 87, 42, 42, 182, 0, 95, 181, 0, 98, 42, 180, 0, 98, 4, 161, 0, 11, 42, 180, 0, 98, 7, 164, 0, 21, 42, 6, 42, 180, 0, 12, 42, 180, 0, 49, 4] := by decide +kernel
theorem dX1_takeSize_0 : decode cX1_takeSize 0 = .ok (.aload_n 0, 1) := dz_42 (n := 0) (r := 0) hz_X1_takeSize_0 rfl
theorem dX1_takeSize_1 : decode cX1_takeSize 1 = .ok (.invokevirtual 92, 3) := dz_182 (n := 0) (r := 1) hz_X1_takeSize_0 rfl rfl
theorem dX1_takeSize_4 : decode cX1_takeSize 4 = .ok (.pop, 1) := dz_87 (n := 0) (r := 4) hz_X1_takeSize_0 rfl
theorem dX1_takeSize_5 : decode cX1_takeSize 5 = .ok (.aload_n 0, 1) := dz_42 (n := 0) (r := 5) hz_X1_takeSize_0 rfl
theorem dX1_takeSize_6 : decode cX1_takeSize 6 = .ok (.aload_n 0, 1) := dz_42 (n := 0) (r := 6) hz_X1_takeSize_0 rfl
theorem dX1_takeSize_7 : decode cX1_takeSize 7 = .ok (.invokevirtual 95, 3) := dz_182 (n := 0) (r := 7) hz_X1_takeSize_0 rfl rfl
theorem dX1_takeSize_10 : decode cX1_takeSize 10 = .ok (.putfield 98, 3) := dz_181 (n := 0) (r := 10) hz_X1_takeSize_0 rfl rfl
theorem dX1_takeSize_13 : decode cX1_takeSize 13 = .ok (.aload_n 0, 1) := dz_42 (n := 0) (r := 13) hz_X1_takeSize_0 rfl
theorem dX1_takeSize_14 : decode cX1_takeSize 14 = .ok (.getfield 98, 3) := dz_180 (n := 0) (r := 14) hz_X1_takeSize_0 rfl rfl
theorem dX1_takeSize_17 : decode cX1_takeSize 17 = .ok (.iconst 1, 1) := dz_4 (n := 0) (r := 17) hz_X1_takeSize_0 rfl
theorem dX1_takeSize_18 : decode cX1_takeSize 18 = .ok (.if_icmp .lt 11, 3) := dz_161 (n := 0) (r := 18) hz_X1_takeSize_0 rfl (by decide +kernel)
theorem dX1_takeSize_21 : decode cX1_takeSize 21 = .ok (.aload_n 0, 1) := dz_42 (n := 0) (r := 21) hz_X1_takeSize_0 rfl
theorem dX1_takeSize_22 : decode cX1_takeSize 22 = .ok (.getfield 98, 3) := dz_180 (n := 0) (r := 22) hz_X1_takeSize_0 rfl rfl
theorem dX1_takeSize_25 : decode cX1_takeSize 25 = .ok (.iconst 4, 1) := dz_7 (n := 0) (r := 25) hz_X1_takeSize_0 rfl
theorem dX1_takeSize_26 : decode cX1_takeSize 26 = .ok (.if_icmp .le 21, 3) := dz_164 (n := 0) (r := 26) hz_X1_takeSize_0 rfl (by decide +kernel)
theorem dX1_takeSize_29 : decode cX1_takeSize 29 = .ok (.aload_n 0, 1) := dz_42 (n := 0) (r := 29) hz_X1_takeSize_0 rfl
theorem dX1_takeSize_30 : decode cX1_takeSize 30 = .ok (.iconst 3, 1) := dz_6 (n := 0) (r := 30) hz_X1_takeSize_0 rfl
theorem dX1_takeSize_31 : decode cX1_takeSize 31 = .ok (.aload_n 0, 1) := dz_42 (n := 0) (r := 31) hz_X1_takeSize_0 rfl
theorem hz_X1_takeSize_32 : (cX1_takeSize.data.toList.drop 32).take 40 = [180, 0, 12, 42, 180, 0, 49, 4, 100, 182, 0, 101, 182, 0, 36, 42, 42, 182, 0, 95, 181, 0, 104, 42, 180, 0, 104, 4, 161, 0, 26, 42, 180, 0, 104, 16, 16, 163, 0, 17] := by decide +kernel
theorem dX1_takeSize_32 : decode cX1_takeSize 32 = .ok (.getfield 12, 3) := dz_180 (n := 32) (r := 0) hz_X1_takeSize_32 rfl rfl
theorem dX1_takeSize_35 : decode cX1_takeSize 35 = .ok (.aload_n 0, 1) := dz_42 (n := 32) (r := 3) hz_X1_takeSize_32 rfl
theorem dX1_takeSize_36 : decode cX1_takeSize 36 = .ok (.getfield 49, 3) := dz_180 (n := 32) (r := 4) hz_X1_takeSize_32 rfl rfl
theorem dX1_takeSize_39 : decode cX1_takeSize 39 = .ok (.iconst 1, 1) := dz_4 (n := 32) (r := 7) hz_X1_takeSize_32 rfl
theorem dX1_takeSize_40 : decode cX1_takeSize 40 = .ok (.isub, 1) := dz_100 (n := 32) (r := 8) hz_X1_takeSize_32 rfl
theorem dX1_takeSize_41 : decode cX1_takeSize 41 = .ok (.invokevirtual 101, 3) := dz_182 (n := 32) (r := 9) hz_X1_takeSize_32 rfl rfl
theorem dX1_takeSize_44 : decode cX1_takeSize 44 = .ok (.invokevirtual 36, 3) := dz_182 (n := 32) (r := 12) hz_X1_takeSize_32 rfl rfl
theorem dX1_takeSize_47 : decode cX1_takeSize 47 = .ok (.aload_n 0, 1) := dz_42 (n := 32) (r := 15) hz_X1_takeSize_32 rfl
theorem dX1_takeSize_48 : decode cX1_takeSize 48 = .ok (.aload_n 0, 1) := dz_42 (n := 32) (r := 16) hz_X1_takeSize_32 rfl
theorem dX1_takeSize_49 : decode cX1_takeSize 49 = .ok (.invokevirtual 95, 3) := dz_182 (n := 32) (r := 17) hz_X1_takeSize_32 rfl rfl
theorem dX1_takeSize_52 : decode cX1_takeSize 52 = .ok (.putfield 104, 3) := dz_181 (n := 32) (r := 20) hz_X1_takeSize_32 rfl rfl
theorem dX1_takeSize_55 : decode cX1_takeSize 55 = .ok (.aload_n 0, 1) := dz_42 (n := 32) (r := 23) hz_X1_takeSize_32 rfl
theorem dX1_takeSize_56 : decode cX1_takeSize 56 = .ok (.getfield 104, 3) := dz_180 (n := 32) (r := 24) hz_X1_takeSize_32 rfl rfl
theorem dX1_takeSize_59 : decode cX1_takeSize 59 = .ok (.iconst 1, 1) := dz_4 (n := 32) (r := 27) hz_X1_takeSize_32 rfl
theorem dX1_takeSize_60 : decode cX1_takeSize 60 = .ok (.if_icmp .lt 26, 3) := dz_161 (n := 32) (r := 28) hz_X1_takeSize_32 rfl (by decide +kernel)
theorem dX1_takeSize_63 : decode cX1_takeSize 63 = .ok (.aload_n 0, 1) := dz_42 (n := 32) (r := 31) hz_X1_takeSize_32 rfl
theorem hz_X1_takeSize_64 : (cX1_takeSize.data.toList.drop 64).take 40 = [180, 0, 104, 16, 16, 163, 0, 17, 42, 180, 0, 98, 42, 180, 0, 104, 104, 16, 16, 164, 0, 21, 42, 6, 42, 180, 0, 12, 42, 180, 0, 49, 4, 100, 182, 0, 101, 182, 0, 36] := by decide +kernel
theorem dX1_takeSize_64 : decode cX1_takeSize 64 = .ok (.getfield 104, 3) := dz_180 (n := 64) (r := 0) hz_X1_takeSize_64 rfl rfl
theorem dX1_takeSize_67 : decode cX1_takeSize 67 = .ok (.bipush 16, 2) := dz_16 (n := 64) (r := 3) hz_X1_takeSize_64 rfl rfl
theorem dX1_takeSize_69 : decode cX1_takeSize 69 = .ok (.if_icmp .gt 17, 3) := dz_163 (n := 64) (r := 5) hz_X1_takeSize_64 rfl (by decide +kernel)
theorem dX1_takeSize_72 : decode cX1_takeSize 72 = .ok (.aload_n 0, 1) := dz_42 (n := 64) (r := 8) hz_X1_takeSize_64 rfl
theorem dX1_takeSize_73 : decode cX1_takeSize 73 = .ok (.getfield 98, 3) := dz_180 (n := 64) (r := 9) hz_X1_takeSize_64 rfl rfl
theorem dX1_takeSize_76 : decode cX1_takeSize 76 = .ok (.aload_n 0, 1) := dz_42 (n := 64) (r := 12) hz_X1_takeSize_64 rfl
theorem dX1_takeSize_77 : decode cX1_takeSize 77 = .ok (.getfield 104, 3) := dz_180 (n := 64) (r := 13) hz_X1_takeSize_64 rfl rfl
theorem dX1_takeSize_80 : decode cX1_takeSize 80 = .ok (.imul, 1) := dz_104 (n := 64) (r := 16) hz_X1_takeSize_64 rfl
theorem dX1_takeSize_81 : decode cX1_takeSize 81 = .ok (.bipush 16, 2) := dz_16 (n := 64) (r := 17) hz_X1_takeSize_64 rfl rfl
theorem dX1_takeSize_83 : decode cX1_takeSize 83 = .ok (.if_icmp .le 21, 3) := dz_164 (n := 64) (r := 19) hz_X1_takeSize_64 rfl (by decide +kernel)
theorem dX1_takeSize_86 : decode cX1_takeSize 86 = .ok (.aload_n 0, 1) := dz_42 (n := 64) (r := 22) hz_X1_takeSize_64 rfl
theorem dX1_takeSize_87 : decode cX1_takeSize 87 = .ok (.iconst 3, 1) := dz_6 (n := 64) (r := 23) hz_X1_takeSize_64 rfl
theorem dX1_takeSize_88 : decode cX1_takeSize 88 = .ok (.aload_n 0, 1) := dz_42 (n := 64) (r := 24) hz_X1_takeSize_64 rfl
theorem dX1_takeSize_89 : decode cX1_takeSize 89 = .ok (.getfield 12, 3) := dz_180 (n := 64) (r := 25) hz_X1_takeSize_64 rfl rfl
theorem dX1_takeSize_92 : decode cX1_takeSize 92 = .ok (.aload_n 0, 1) := dz_42 (n := 64) (r := 28) hz_X1_takeSize_64 rfl
theorem dX1_takeSize_93 : decode cX1_takeSize 93 = .ok (.getfield 49, 3) := dz_180 (n := 64) (r := 29) hz_X1_takeSize_64 rfl rfl
theorem hz_X1_takeSize_96 : (cX1_takeSize.data.toList.drop 96).take 40 = [4, 100, 182, 0, 101, 182, 0, 36, 42, 182, 0, 92, 87, 177] := by decide +kernel
theorem dX1_takeSize_96 : decode cX1_takeSize 96 = .ok (.iconst 1, 1) := dz_4 (n := 96) (r := 0) hz_X1_takeSize_96 rfl
theorem dX1_takeSize_97 : decode cX1_takeSize 97 = .ok (.isub, 1) := dz_100 (n := 96) (r := 1) hz_X1_takeSize_96 rfl
theorem dX1_takeSize_98 : decode cX1_takeSize 98 = .ok (.invokevirtual 101, 3) := dz_182 (n := 96) (r := 2) hz_X1_takeSize_96 rfl rfl
theorem dX1_takeSize_101 : decode cX1_takeSize 101 = .ok (.invokevirtual 36, 3) := dz_182 (n := 96) (r := 5) hz_X1_takeSize_96 rfl rfl
theorem dX1_takeSize_104 : decode cX1_takeSize 104 = .ok (.aload_n 0, 1) := dz_42 (n := 96) (r := 8) hz_X1_takeSize_96 rfl
theorem dX1_takeSize_105 : decode cX1_takeSize 105 = .ok (.invokevirtual 92, 3) := dz_182 (n := 96) (r := 9) hz_X1_takeSize_96 rfl rfl
theorem dX1_takeSize_108 : decode cX1_takeSize 108 = .ok (.pop, 1) := dz_87 (n := 96) (r := 12) hz_X1_takeSize_96 rfl
theorem dX1_takeSize_109 : decode cX1_takeSize 109 = .ok (.return_, 1) := dz_177 (n := 96) (r := 13) hz_X1_takeSize_96 rfl
theorem hz_X1_seeRings_0 : (cX1_seeRings.data.toList.drop 0).take 40 = [42, 180, 0, 49, 60, 27, 42, 180, 0, 12, 180, 0, 52, 162, 0, 51, 42, 180, 0, 12, 27, 182, 0, 85, 16, 9, 160, 0, 32, 42, 89, 180, 0, 67, 42, 180, 0, 12, 27, 4] := by decide +kernel
theorem dX1_seeRings_0 : decode cX1_seeRings 0 = .ok (.aload_n 0, 1) := dz_42 (n := 0) (r := 0) hz_X1_seeRings_0 rfl
theorem dX1_seeRings_1 : decode cX1_seeRings 1 = .ok (.getfield 49, 3) := dz_180 (n := 0) (r := 1) hz_X1_seeRings_0 rfl rfl
theorem dX1_seeRings_4 : decode cX1_seeRings 4 = .ok (.istore_n 1, 1) := dz_60 (n := 0) (r := 4) hz_X1_seeRings_0 rfl
theorem dX1_seeRings_5 : decode cX1_seeRings 5 = .ok (.iload_n 1, 1) := dz_27 (n := 0) (r := 5) hz_X1_seeRings_0 rfl
theorem dX1_seeRings_6 : decode cX1_seeRings 6 = .ok (.aload_n 0, 1) := dz_42 (n := 0) (r := 6) hz_X1_seeRings_0 rfl
theorem dX1_seeRings_7 : decode cX1_seeRings 7 = .ok (.getfield 12, 3) := dz_180 (n := 0) (r := 7) hz_X1_seeRings_0 rfl rfl
theorem dX1_seeRings_10 : decode cX1_seeRings 10 = .ok (.getfield 52, 3) := dz_180 (n := 0) (r := 10) hz_X1_seeRings_0 rfl rfl
theorem dX1_seeRings_13 : decode cX1_seeRings 13 = .ok (.if_icmp .ge 51, 3) := dz_162 (n := 0) (r := 13) hz_X1_seeRings_0 rfl (by decide +kernel)
theorem dX1_seeRings_16 : decode cX1_seeRings 16 = .ok (.aload_n 0, 1) := dz_42 (n := 0) (r := 16) hz_X1_seeRings_0 rfl
theorem dX1_seeRings_17 : decode cX1_seeRings 17 = .ok (.getfield 12, 3) := dz_180 (n := 0) (r := 17) hz_X1_seeRings_0 rfl rfl
theorem dX1_seeRings_20 : decode cX1_seeRings 20 = .ok (.iload_n 1, 1) := dz_27 (n := 0) (r := 20) hz_X1_seeRings_0 rfl
theorem dX1_seeRings_21 : decode cX1_seeRings 21 = .ok (.invokevirtual 85, 3) := dz_182 (n := 0) (r := 21) hz_X1_seeRings_0 rfl rfl
theorem dX1_seeRings_24 : decode cX1_seeRings 24 = .ok (.bipush 9, 2) := dz_16 (n := 0) (r := 24) hz_X1_seeRings_0 rfl rfl
theorem dX1_seeRings_26 : decode cX1_seeRings 26 = .ok (.if_icmp .ne 32, 3) := dz_160 (n := 0) (r := 26) hz_X1_seeRings_0 rfl (by decide +kernel)
theorem dX1_seeRings_29 : decode cX1_seeRings 29 = .ok (.aload_n 0, 1) := dz_42 (n := 0) (r := 29) hz_X1_seeRings_0 rfl
theorem dX1_seeRings_30 : decode cX1_seeRings 30 = .ok (.dup, 1) := dz_89 (n := 0) (r := 30) hz_X1_seeRings_0 rfl
theorem dX1_seeRings_31 : decode cX1_seeRings 31 = .ok (.getfield 67, 3) := dz_180 (n := 0) (r := 31) hz_X1_seeRings_0 rfl rfl
theorem hz_X1_seeRings_32 : (cX1_seeRings.data.toList.drop 32).take 40 = [0, 67, 42, 180, 0, 12, 27, 4, 96, 182, 0, 85, 16, 6, 160, 0, 7, 4, 167, 0, 4, 5, 128, 181, 0, 67, 132, 1, 1, 167, 255, 200, 177] := by decide +kernel
theorem dX1_seeRings_34 : decode cX1_seeRings 34 = .ok (.aload_n 0, 1) := dz_42 (n := 32) (r := 2) hz_X1_seeRings_32 rfl
theorem dX1_seeRings_35 : decode cX1_seeRings 35 = .ok (.getfield 12, 3) := dz_180 (n := 32) (r := 3) hz_X1_seeRings_32 rfl rfl
theorem dX1_seeRings_38 : decode cX1_seeRings 38 = .ok (.iload_n 1, 1) := dz_27 (n := 32) (r := 6) hz_X1_seeRings_32 rfl
theorem dX1_seeRings_39 : decode cX1_seeRings 39 = .ok (.iconst 1, 1) := dz_4 (n := 32) (r := 7) hz_X1_seeRings_32 rfl
theorem dX1_seeRings_40 : decode cX1_seeRings 40 = .ok (.iadd, 1) := dz_96 (n := 32) (r := 8) hz_X1_seeRings_32 rfl
theorem dX1_seeRings_41 : decode cX1_seeRings 41 = .ok (.invokevirtual 85, 3) := dz_182 (n := 32) (r := 9) hz_X1_seeRings_32 rfl rfl
theorem dX1_seeRings_44 : decode cX1_seeRings 44 = .ok (.bipush 6, 2) := dz_16 (n := 32) (r := 12) hz_X1_seeRings_32 rfl rfl
theorem dX1_seeRings_46 : decode cX1_seeRings 46 = .ok (.if_icmp .ne 7, 3) := dz_160 (n := 32) (r := 14) hz_X1_seeRings_32 rfl (by decide +kernel)
theorem dX1_seeRings_49 : decode cX1_seeRings 49 = .ok (.iconst 1, 1) := dz_4 (n := 32) (r := 17) hz_X1_seeRings_32 rfl
theorem dX1_seeRings_50 : decode cX1_seeRings 50 = .ok (.goto 4, 3) := dz_167 (n := 32) (r := 18) hz_X1_seeRings_32 rfl (by decide +kernel)
theorem dX1_seeRings_53 : decode cX1_seeRings 53 = .ok (.iconst 2, 1) := dz_5 (n := 32) (r := 21) hz_X1_seeRings_32 rfl
theorem dX1_seeRings_54 : decode cX1_seeRings 54 = .ok (.ior, 1) := dz_128 (n := 32) (r := 22) hz_X1_seeRings_32 rfl
theorem dX1_seeRings_55 : decode cX1_seeRings 55 = .ok (.putfield 67, 3) := dz_181 (n := 32) (r := 23) hz_X1_seeRings_32 rfl rfl
theorem dX1_seeRings_58 : decode cX1_seeRings 58 = .ok (.iinc 1 1, 3) := dz_132 (n := 32) (r := 26) hz_X1_seeRings_32 rfl rfl rfl
theorem dX1_seeRings_61 : decode cX1_seeRings 61 = .ok (.goto (-56), 3) := dz_167 (n := 32) (r := 29) hz_X1_seeRings_32 rfl (by decide +kernel)
theorem hz_X1_seeRings_64 : (cX1_seeRings.data.toList.drop 64).take 40 = [177] := by decide +kernel
theorem dX1_seeRings_64 : decode cX1_seeRings 64 = .ok (.return_, 1) := dz_177 (n := 64) (r := 0) hz_X1_seeRings_64 rfl
theorem hz_X1_takeTell_0 : (cX1_takeTell.data.toList.drop 0).take 40 = [42, 182, 0, 92, 170, 0, 0, 0, 0, 0, 0, 124, 0, 0, 0, 6, 0, 0, 0, 15, 0, 0, 0, 56, 0, 0, 0, 67, 0, 0, 0, 78, 0, 0, 0, 124, 0, 0, 0, 89] := by decide +kernel
theorem dX1_takeTell_0 : decode cX1_takeTell 0 = .ok (.aload_n 0, 1) := dz_42 (n := 0) (r := 0) hz_X1_takeTell_0 rfl
theorem dX1_takeTell_1 : decode cX1_takeTell 1 = .ok (.invokevirtual 92, 3) := dz_182 (n := 0) (r := 1) hz_X1_takeTell_0 rfl rfl
theorem dX1_takeTell_4 : decode cX1_takeTell 4 = .ok (.tableswitch 124 6 15 #[56, 67, 78, 124, 89, 96, 103, 124, 124, 110], 56) := by decide +kernel
theorem hz_X1_takeTell_32 : (cX1_takeTell.data.toList.drop 32).take 40 = [0, 0, 0, 124, 0, 0, 0, 89, 0, 0, 0, 96, 0, 0, 0, 103, 0, 0, 0, 124, 0, 0, 0, 124, 0, 0, 0, 110, 42, 42, 182, 0, 107, 181, 0, 70, 167, 0, 65, 42] := by decide +kernel
theorem dX1_takeTell_60 : decode cX1_takeTell 60 = .ok (.aload_n 0, 1) := dz_42 (n := 32) (r := 28) hz_X1_takeTell_32 rfl
theorem dX1_takeTell_61 : decode cX1_takeTell 61 = .ok (.aload_n 0, 1) := dz_42 (n := 32) (r := 29) hz_X1_takeTell_32 rfl
theorem dX1_takeTell_62 : decode cX1_takeTell 62 = .ok (.invokevirtual 107, 3) := dz_182 (n := 32) (r := 30) hz_X1_takeTell_32 rfl rfl
theorem hz_X1_takeTell_64 : (cX1_takeTell.data.toList.drop 64).take 40 = [107, 181, 0, 70, 167, 0, 65, 42, 42, 182, 0, 107, 181, 0, 73, 167, 0, 54, 42, 42, 182, 0, 107, 181, 0, 76, 167, 0, 43, 42, 182, 0, 110, 167, 0, 36, 42, 182, 0, 113] := by decide +kernel
theorem dX1_takeTell_65 : decode cX1_takeTell 65 = .ok (.putfield 70, 3) := dz_181 (n := 64) (r := 1) hz_X1_takeTell_64 rfl rfl
theorem dX1_takeTell_68 : decode cX1_takeTell 68 = .ok (.goto 65, 3) := dz_167 (n := 64) (r := 4) hz_X1_takeTell_64 rfl (by decide +kernel)
theorem dX1_takeTell_71 : decode cX1_takeTell 71 = .ok (.aload_n 0, 1) := dz_42 (n := 64) (r := 7) hz_X1_takeTell_64 rfl
theorem dX1_takeTell_72 : decode cX1_takeTell 72 = .ok (.aload_n 0, 1) := dz_42 (n := 64) (r := 8) hz_X1_takeTell_64 rfl
theorem dX1_takeTell_73 : decode cX1_takeTell 73 = .ok (.invokevirtual 107, 3) := dz_182 (n := 64) (r := 9) hz_X1_takeTell_64 rfl rfl
theorem dX1_takeTell_76 : decode cX1_takeTell 76 = .ok (.putfield 73, 3) := dz_181 (n := 64) (r := 12) hz_X1_takeTell_64 rfl rfl
theorem dX1_takeTell_79 : decode cX1_takeTell 79 = .ok (.goto 54, 3) := dz_167 (n := 64) (r := 15) hz_X1_takeTell_64 rfl (by decide +kernel)
theorem dX1_takeTell_82 : decode cX1_takeTell 82 = .ok (.aload_n 0, 1) := dz_42 (n := 64) (r := 18) hz_X1_takeTell_64 rfl
theorem dX1_takeTell_83 : decode cX1_takeTell 83 = .ok (.aload_n 0, 1) := dz_42 (n := 64) (r := 19) hz_X1_takeTell_64 rfl
theorem dX1_takeTell_84 : decode cX1_takeTell 84 = .ok (.invokevirtual 107, 3) := dz_182 (n := 64) (r := 20) hz_X1_takeTell_64 rfl rfl
theorem dX1_takeTell_87 : decode cX1_takeTell 87 = .ok (.putfield 76, 3) := dz_181 (n := 64) (r := 23) hz_X1_takeTell_64 rfl rfl
theorem dX1_takeTell_90 : decode cX1_takeTell 90 = .ok (.goto 43, 3) := dz_167 (n := 64) (r := 26) hz_X1_takeTell_64 rfl (by decide +kernel)
theorem dX1_takeTell_93 : decode cX1_takeTell 93 = .ok (.aload_n 0, 1) := dz_42 (n := 64) (r := 29) hz_X1_takeTell_64 rfl
theorem dX1_takeTell_94 : decode cX1_takeTell 94 = .ok (.invokevirtual 110, 3) := dz_182 (n := 64) (r := 30) hz_X1_takeTell_64 rfl rfl
theorem hz_X1_takeTell_96 : (cX1_takeTell.data.toList.drop 96).take 40 = [110, 167, 0, 36, 42, 182, 0, 113, 167, 0, 29, 42, 182, 0, 116, 167, 0, 22, 42, 180, 0, 21, 42, 182, 0, 95, 181, 0, 119, 167, 0, 8, 42, 182, 0, 92, 87, 42, 182, 0] := by decide +kernel
theorem dX1_takeTell_97 : decode cX1_takeTell 97 = .ok (.goto 36, 3) := dz_167 (n := 96) (r := 1) hz_X1_takeTell_96 rfl (by decide +kernel)
theorem dX1_takeTell_100 : decode cX1_takeTell 100 = .ok (.aload_n 0, 1) := dz_42 (n := 96) (r := 4) hz_X1_takeTell_96 rfl
theorem dX1_takeTell_101 : decode cX1_takeTell 101 = .ok (.invokevirtual 113, 3) := dz_182 (n := 96) (r := 5) hz_X1_takeTell_96 rfl rfl
theorem dX1_takeTell_104 : decode cX1_takeTell 104 = .ok (.goto 29, 3) := dz_167 (n := 96) (r := 8) hz_X1_takeTell_96 rfl (by decide +kernel)
theorem dX1_takeTell_107 : decode cX1_takeTell 107 = .ok (.aload_n 0, 1) := dz_42 (n := 96) (r := 11) hz_X1_takeTell_96 rfl
theorem dX1_takeTell_108 : decode cX1_takeTell 108 = .ok (.invokevirtual 116, 3) := dz_182 (n := 96) (r := 12) hz_X1_takeTell_96 rfl rfl
theorem dX1_takeTell_111 : decode cX1_takeTell 111 = .ok (.goto 22, 3) := dz_167 (n := 96) (r := 15) hz_X1_takeTell_96 rfl (by decide +kernel)
theorem dX1_takeTell_114 : decode cX1_takeTell 114 = .ok (.aload_n 0, 1) := dz_42 (n := 96) (r := 18) hz_X1_takeTell_96 rfl
theorem dX1_takeTell_115 : decode cX1_takeTell 115 = .ok (.getfield 21, 3) := dz_180 (n := 96) (r := 19) hz_X1_takeTell_96 rfl rfl
theorem dX1_takeTell_118 : decode cX1_takeTell 118 = .ok (.aload_n 0, 1) := dz_42 (n := 96) (r := 22) hz_X1_takeTell_96 rfl
theorem dX1_takeTell_119 : decode cX1_takeTell 119 = .ok (.invokevirtual 95, 3) := dz_182 (n := 96) (r := 23) hz_X1_takeTell_96 rfl rfl
theorem dX1_takeTell_122 : decode cX1_takeTell 122 = .ok (.putfield 119, 3) := dz_181 (n := 96) (r := 26) hz_X1_takeTell_96 rfl rfl
theorem dX1_takeTell_125 : decode cX1_takeTell 125 = .ok (.goto 8, 3) := dz_167 (n := 96) (r := 29) hz_X1_takeTell_96 rfl (by decide +kernel)
theorem hz_X1_takeTell_128 : (cX1_takeTell.data.toList.drop 128).take 40 = [42, 182, 0, 92, 87, 42, 182, 0, 92, 87, 177] := by decide +kernel
theorem dX1_takeTell_128 : decode cX1_takeTell 128 = .ok (.aload_n 0, 1) := dz_42 (n := 128) (r := 0) hz_X1_takeTell_128 rfl
theorem dX1_takeTell_129 : decode cX1_takeTell 129 = .ok (.invokevirtual 92, 3) := dz_182 (n := 128) (r := 1) hz_X1_takeTell_128 rfl rfl
theorem dX1_takeTell_132 : decode cX1_takeTell 132 = .ok (.pop, 1) := dz_87 (n := 128) (r := 4) hz_X1_takeTell_128 rfl
theorem dX1_takeTell_133 : decode cX1_takeTell 133 = .ok (.aload_n 0, 1) := dz_42 (n := 128) (r := 5) hz_X1_takeTell_128 rfl
theorem dX1_takeTell_134 : decode cX1_takeTell 134 = .ok (.invokevirtual 92, 3) := dz_182 (n := 128) (r := 6) hz_X1_takeTell_128 rfl rfl
theorem dX1_takeTell_137 : decode cX1_takeTell 137 = .ok (.pop, 1) := dz_87 (n := 128) (r := 9) hz_X1_takeTell_128 rfl
theorem dX1_takeTell_138 : decode cX1_takeTell 138 = .ok (.return_, 1) := dz_177 (n := 128) (r := 10) hz_X1_takeTell_128 rfl
theorem hz_X1_takeJ_0 : (cX1_takeJ.data.toList.drop 0).take 40 = [42, 180, 0, 12, 42, 180, 0, 49, 182, 0, 85, 6, 160, 0, 7, 4, 167, 0, 4, 3, 60, 27, 153, 0, 8, 42, 182, 0, 92, 87, 42, 182, 0, 95, 61, 28, 6, 164, 0, 21] := by decide +kernel
theorem dX1_takeJ_0 : decode cX1_takeJ 0 = .ok (.aload_n 0, 1) := dz_42 (n := 0) (r := 0) hz_X1_takeJ_0 rfl
theorem dX1_takeJ_1 : decode cX1_takeJ 1 = .ok (.getfield 12, 3) := dz_180 (n := 0) (r := 1) hz_X1_takeJ_0 rfl rfl
theorem dX1_takeJ_4 : decode cX1_takeJ 4 = .ok (.aload_n 0, 1) := dz_42 (n := 0) (r := 4) hz_X1_takeJ_0 rfl
theorem dX1_takeJ_5 : decode cX1_takeJ 5 = .ok (.getfield 49, 3) := dz_180 (n := 0) (r := 5) hz_X1_takeJ_0 rfl rfl
theorem dX1_takeJ_8 : decode cX1_takeJ 8 = .ok (.invokevirtual 85, 3) := dz_182 (n := 0) (r := 8) hz_X1_takeJ_0 rfl rfl
theorem dX1_takeJ_11 : decode cX1_takeJ 11 = .ok (.iconst 3, 1) := dz_6 (n := 0) (r := 11) hz_X1_takeJ_0 rfl
theorem dX1_takeJ_12 : decode cX1_takeJ 12 = .ok (.if_icmp .ne 7, 3) := dz_160 (n := 0) (r := 12) hz_X1_takeJ_0 rfl (by decide +kernel)
theorem dX1_takeJ_15 : decode cX1_takeJ 15 = .ok (.iconst 1, 1) := dz_4 (n := 0) (r := 15) hz_X1_takeJ_0 rfl
theorem dX1_takeJ_16 : decode cX1_takeJ 16 = .ok (.goto 4, 3) := dz_167 (n := 0) (r := 16) hz_X1_takeJ_0 rfl (by decide +kernel)
theorem dX1_takeJ_19 : decode cX1_takeJ 19 = .ok (.iconst 0, 1) := dz_3 (n := 0) (r := 19) hz_X1_takeJ_0 rfl
theorem dX1_takeJ_20 : decode cX1_takeJ 20 = .ok (.istore_n 1, 1) := dz_60 (n := 0) (r := 20) hz_X1_takeJ_0 rfl
theorem dX1_takeJ_21 : decode cX1_takeJ 21 = .ok (.iload_n 1, 1) := dz_27 (n := 0) (r := 21) hz_X1_takeJ_0 rfl
theorem dX1_takeJ_22 : decode cX1_takeJ 22 = .ok (.ifCond .eq 8, 3) := dz_153 (n := 0) (r := 22) hz_X1_takeJ_0 rfl (by decide +kernel)
theorem dX1_takeJ_25 : decode cX1_takeJ 25 = .ok (.aload_n 0, 1) := dz_42 (n := 0) (r := 25) hz_X1_takeJ_0 rfl
theorem dX1_takeJ_26 : decode cX1_takeJ 26 = .ok (.invokevirtual 92, 3) := dz_182 (n := 0) (r := 26) hz_X1_takeJ_0 rfl rfl
theorem dX1_takeJ_29 : decode cX1_takeJ 29 = .ok (.pop, 1) := dz_87 (n := 0) (r := 29) hz_X1_takeJ_0 rfl
theorem dX1_takeJ_30 : decode cX1_takeJ 30 = .ok (.aload_n 0, 1) := dz_42 (n := 0) (r := 30) hz_X1_takeJ_0 rfl
theorem dX1_takeJ_31 : decode cX1_takeJ 31 = .ok (.invokevirtual 95, 3) := dz_182 (n := 0) (r := 31) hz_X1_takeJ_0 rfl rfl
theorem hz_X1_takeJ_32 : (cX1_takeJ.data.toList.drop 32).take 40 = [0, 95, 61, 28, 6, 164, 0, 21, 42, 6, 42, 180, 0, 12, 42, 180, 0, 49, 4, 100, 182, 0, 101, 182, 0, 36, 27, 153, 0, 8, 28, 116, 167, 0, 4, 28, 172] := by decide +kernel
theorem dX1_takeJ_34 : decode cX1_takeJ 34 = .ok (.istore_n 2, 1) := dz_61 (n := 32) (r := 2) hz_X1_takeJ_32 rfl
theorem dX1_takeJ_35 : decode cX1_takeJ 35 = .ok (.iload_n 2, 1) := dz_28 (n := 32) (r := 3) hz_X1_takeJ_32 rfl
theorem dX1_takeJ_36 : decode cX1_takeJ 36 = .ok (.iconst 3, 1) := dz_6 (n := 32) (r := 4) hz_X1_takeJ_32 rfl
theorem dX1_takeJ_37 : decode cX1_takeJ 37 = .ok (.if_icmp .le 21, 3) := dz_164 (n := 32) (r := 5) hz_X1_takeJ_32 rfl (by decide +kernel)
theorem dX1_takeJ_40 : decode cX1_takeJ 40 = .ok (.aload_n 0, 1) := dz_42 (n := 32) (r := 8) hz_X1_takeJ_32 rfl
theorem dX1_takeJ_41 : decode cX1_takeJ 41 = .ok (.iconst 3, 1) := dz_6 (n := 32) (r := 9) hz_X1_takeJ_32 rfl
theorem dX1_takeJ_42 : decode cX1_takeJ 42 = .ok (.aload_n 0, 1) := dz_42 (n := 32) (r := 10) hz_X1_takeJ_32 rfl
theorem dX1_takeJ_43 : decode cX1_takeJ 43 = .ok (.getfield 12, 3) := dz_180 (n := 32) (r := 11) hz_X1_takeJ_32 rfl rfl
theorem dX1_takeJ_46 : decode cX1_takeJ 46 = .ok (.aload_n 0, 1) := dz_42 (n := 32) (r := 14) hz_X1_takeJ_32 rfl
theorem dX1_takeJ_47 : decode cX1_takeJ 47 = .ok (.getfield 49, 3) := dz_180 (n := 32) (r := 15) hz_X1_takeJ_32 rfl rfl
theorem dX1_takeJ_50 : decode cX1_takeJ 50 = .ok (.iconst 1, 1) := dz_4 (n := 32) (r := 18) hz_X1_takeJ_32 rfl
theorem dX1_takeJ_51 : decode cX1_takeJ 51 = .ok (.isub, 1) := dz_100 (n := 32) (r := 19) hz_X1_takeJ_32 rfl
theorem dX1_takeJ_52 : decode cX1_takeJ 52 = .ok (.invokevirtual 101, 3) := dz_182 (n := 32) (r := 20) hz_X1_takeJ_32 rfl rfl
theorem dX1_takeJ_55 : decode cX1_takeJ 55 = .ok (.invokevirtual 36, 3) := dz_182 (n := 32) (r := 23) hz_X1_takeJ_32 rfl rfl
theorem dX1_takeJ_58 : decode cX1_takeJ 58 = .ok (.iload_n 1, 1) := dz_27 (n := 32) (r := 26) hz_X1_takeJ_32 rfl
theorem dX1_takeJ_59 : decode cX1_takeJ 59 = .ok (.ifCond .eq 8, 3) := dz_153 (n := 32) (r := 27) hz_X1_takeJ_32 rfl (by decide +kernel)
theorem dX1_takeJ_62 : decode cX1_takeJ 62 = .ok (.iload_n 2, 1) := dz_28 (n := 32) (r := 30) hz_X1_takeJ_32 rfl
theorem dX1_takeJ_63 : decode cX1_takeJ 63 = .ok (.ineg, 1) := dz_116 (n := 32) (r := 31) hz_X1_takeJ_32 rfl
theorem hz_X1_takeJ_64 : (cX1_takeJ.data.toList.drop 64).take 40 = [167, 0, 4, 28, 172] := by decide +kernel
theorem dX1_takeJ_64 : decode cX1_takeJ 64 = .ok (.goto 4, 3) := dz_167 (n := 64) (r := 0) hz_X1_takeJ_64 rfl (by decide +kernel)
theorem dX1_takeJ_67 : decode cX1_takeJ 67 = .ok (.iload_n 2, 1) := dz_28 (n := 64) (r := 3) hz_X1_takeJ_64 rfl
theorem dX1_takeJ_68 : decode cX1_takeJ 68 = .ok (.ireturn, 1) := dz_172 (n := 64) (r := 4) hz_X1_takeJ_64 rfl
theorem hz_X1_takeSite_0 : (cX1_takeSite.data.toList.drop 0).take 40 = [42, 182, 0, 95, 60, 27, 42, 180, 0, 98, 42, 180, 0, 104, 104, 161, 0, 21, 42, 7, 42, 180, 0, 12, 42, 180, 0, 49, 4, 100, 182, 0, 101, 182, 0, 36, 27, 172] := by decide +kernel
theorem dX1_takeSite_0 : decode cX1_takeSite 0 = .ok (.aload_n 0, 1) := dz_42 (n := 0) (r := 0) hz_X1_takeSite_0 rfl
theorem dX1_takeSite_1 : decode cX1_takeSite 1 = .ok (.invokevirtual 95, 3) := dz_182 (n := 0) (r := 1) hz_X1_takeSite_0 rfl rfl
theorem dX1_takeSite_4 : decode cX1_takeSite 4 = .ok (.istore_n 1, 1) := dz_60 (n := 0) (r := 4) hz_X1_takeSite_0 rfl
theorem dX1_takeSite_5 : decode cX1_takeSite 5 = .ok (.iload_n 1, 1) := dz_27 (n := 0) (r := 5) hz_X1_takeSite_0 rfl
theorem dX1_takeSite_6 : decode cX1_takeSite 6 = .ok (.aload_n 0, 1) := dz_42 (n := 0) (r := 6) hz_X1_takeSite_0 rfl
theorem dX1_takeSite_7 : decode cX1_takeSite 7 = .ok (.getfield 98, 3) := dz_180 (n := 0) (r := 7) hz_X1_takeSite_0 rfl rfl
theorem dX1_takeSite_10 : decode cX1_takeSite 10 = .ok (.aload_n 0, 1) := dz_42 (n := 0) (r := 10) hz_X1_takeSite_0 rfl
theorem dX1_takeSite_11 : decode cX1_takeSite 11 = .ok (.getfield 104, 3) := dz_180 (n := 0) (r := 11) hz_X1_takeSite_0 rfl rfl
theorem dX1_takeSite_14 : decode cX1_takeSite 14 = .ok (.imul, 1) := dz_104 (n := 0) (r := 14) hz_X1_takeSite_0 rfl
theorem dX1_takeSite_15 : decode cX1_takeSite 15 = .ok (.if_icmp .lt 21, 3) := dz_161 (n := 0) (r := 15) hz_X1_takeSite_0 rfl (by decide +kernel)
theorem dX1_takeSite_18 : decode cX1_takeSite 18 = .ok (.aload_n 0, 1) := dz_42 (n := 0) (r := 18) hz_X1_takeSite_0 rfl
theorem dX1_takeSite_19 : decode cX1_takeSite 19 = .ok (.iconst 4, 1) := dz_7 (n := 0) (r := 19) hz_X1_takeSite_0 rfl
theorem dX1_takeSite_20 : decode cX1_takeSite 20 = .ok (.aload_n 0, 1) := dz_42 (n := 0) (r := 20) hz_X1_takeSite_0 rfl
theorem dX1_takeSite_21 : decode cX1_takeSite 21 = .ok (.getfield 12, 3) := dz_180 (n := 0) (r := 21) hz_X1_takeSite_0 rfl rfl
theorem dX1_takeSite_24 : decode cX1_takeSite 24 = .ok (.aload_n 0, 1) := dz_42 (n := 0) (r := 24) hz_X1_takeSite_0 rfl
theorem dX1_takeSite_25 : decode cX1_takeSite 25 = .ok (.getfield 49, 3) := dz_180 (n := 0) (r := 25) hz_X1_takeSite_0 rfl rfl
theorem dX1_takeSite_28 : decode cX1_takeSite 28 = .ok (.iconst 1, 1) := dz_4 (n := 0) (r := 28) hz_X1_takeSite_0 rfl
theorem dX1_takeSite_29 : decode cX1_takeSite 29 = .ok (.isub, 1) := dz_100 (n := 0) (r := 29) hz_X1_takeSite_0 rfl
theorem dX1_takeSite_30 : decode cX1_takeSite 30 = .ok (.invokevirtual 101, 3) := dz_182 (n := 0) (r := 30) hz_X1_takeSite_0 rfl rfl
theorem hz_X1_takeSite_32 : (cX1_takeSite.data.toList.drop 32).take 40 = [101, 182, 0, 36, 27, 172] := by decide +kernel
theorem dX1_takeSite_33 : decode cX1_takeSite 33 = .ok (.invokevirtual 36, 3) := dz_182 (n := 32) (r := 1) hz_X1_takeSite_32 rfl rfl
theorem dX1_takeSite_36 : decode cX1_takeSite 36 = .ok (.iload_n 1, 1) := dz_27 (n := 32) (r := 4) hz_X1_takeSite_32 rfl
theorem dX1_takeSite_37 : decode cX1_takeSite 37 = .ok (.ireturn, 1) := dz_172 (n := 32) (r := 5) hz_X1_takeSite_32 rfl
theorem hz_X1_takeTie_0 : (cX1_takeTie.data.toList.drop 0).take 40 = [42, 182, 0, 122, 60, 42, 182, 0, 92, 16, 7, 160, 0, 10, 16, 16, 27, 96, 167, 0, 4, 27, 61, 42, 180, 0, 46, 154, 0, 41, 42, 180, 0, 98, 42, 180, 0, 104, 42, 180] := by decide +kernel
theorem dX1_takeTie_0 : decode cX1_takeTie 0 = .ok (.aload_n 0, 1) := dz_42 (n := 0) (r := 0) hz_X1_takeTie_0 rfl
theorem dX1_takeTie_1 : decode cX1_takeTie 1 = .ok (.invokevirtual 122, 3) := dz_182 (n := 0) (r := 1) hz_X1_takeTie_0 rfl rfl
theorem dX1_takeTie_4 : decode cX1_takeTie 4 = .ok (.istore_n 1, 1) := dz_60 (n := 0) (r := 4) hz_X1_takeTie_0 rfl
theorem dX1_takeTie_5 : decode cX1_takeTie 5 = .ok (.aload_n 0, 1) := dz_42 (n := 0) (r := 5) hz_X1_takeTie_0 rfl
theorem dX1_takeTie_6 : decode cX1_takeTie 6 = .ok (.invokevirtual 92, 3) := dz_182 (n := 0) (r := 6) hz_X1_takeTie_0 rfl rfl
theorem dX1_takeTie_9 : decode cX1_takeTie 9 = .ok (.bipush 7, 2) := dz_16 (n := 0) (r := 9) hz_X1_takeTie_0 rfl rfl
theorem dX1_takeTie_11 : decode cX1_takeTie 11 = .ok (.if_icmp .ne 10, 3) := dz_160 (n := 0) (r := 11) hz_X1_takeTie_0 rfl (by decide +kernel)
theorem dX1_takeTie_14 : decode cX1_takeTie 14 = .ok (.bipush 16, 2) := dz_16 (n := 0) (r := 14) hz_X1_takeTie_0 rfl rfl
theorem dX1_takeTie_16 : decode cX1_takeTie 16 = .ok (.iload_n 1, 1) := dz_27 (n := 0) (r := 16) hz_X1_takeTie_0 rfl
theorem dX1_takeTie_17 : decode cX1_takeTie 17 = .ok (.iadd, 1) := dz_96 (n := 0) (r := 17) hz_X1_takeTie_0 rfl
theorem dX1_takeTie_18 : decode cX1_takeTie 18 = .ok (.goto 4, 3) := dz_167 (n := 0) (r := 18) hz_X1_takeTie_0 rfl (by decide +kernel)
theorem dX1_takeTie_21 : decode cX1_takeTie 21 = .ok (.iload_n 1, 1) := dz_27 (n := 0) (r := 21) hz_X1_takeTie_0 rfl
theorem dX1_takeTie_22 : decode cX1_takeTie 22 = .ok (.istore_n 2, 1) := dz_61 (n := 0) (r := 22) hz_X1_takeTie_0 rfl
theorem dX1_takeTie_23 : decode cX1_takeTie 23 = .ok (.aload_n 0, 1) := dz_42 (n := 0) (r := 23) hz_X1_takeTie_0 rfl
theorem dX1_takeTie_24 : decode cX1_takeTie 24 = .ok (.getfield 46, 3) := dz_180 (n := 0) (r := 24) hz_X1_takeTie_0 rfl rfl
theorem dX1_takeTie_27 : decode cX1_takeTie 27 = .ok (.ifCond .ne 41, 3) := dz_154 (n := 0) (r := 27) hz_X1_takeTie_0 rfl (by decide +kernel)
theorem dX1_takeTie_30 : decode cX1_takeTie 30 = .ok (.aload_n 0, 1) := dz_42 (n := 0) (r := 30) hz_X1_takeTie_0 rfl
theorem dX1_takeTie_31 : decode cX1_takeTie 31 = .ok (.getfield 98, 3) := dz_180 (n := 0) (r := 31) hz_X1_takeTie_0 rfl rfl
theorem hz_X1_takeTie_32 : (cX1_takeTie.data.toList.drop 32).take 40 = [0, 98, 42, 180, 0, 104, 42, 180, 0, 67, 28, 184, 0, 125, 2, 160, 0, 21, 42, 7, 42, 180, 0, 12, 42, 180, 0, 49, 5, 100, 182, 0, 101, 182, 0, 36, 42, 182, 0, 107] := by decide +kernel
theorem dX1_takeTie_34 : decode cX1_takeTie 34 = .ok (.aload_n 0, 1) := dz_42 (n := 32) (r := 2) hz_X1_takeTie_32 rfl
theorem dX1_takeTie_35 : decode cX1_takeTie 35 = .ok (.getfield 104, 3) := dz_180 (n := 32) (r := 3) hz_X1_takeTie_32 rfl rfl
theorem dX1_takeTie_38 : decode cX1_takeTie 38 = .ok (.aload_n 0, 1) := dz_42 (n := 32) (r := 6) hz_X1_takeTie_32 rfl
theorem dX1_takeTie_39 : decode cX1_takeTie 39 = .ok (.getfield 67, 3) := dz_180 (n := 32) (r := 7) hz_X1_takeTie_32 rfl rfl
theorem dX1_takeTie_42 : decode cX1_takeTie 42 = .ok (.iload_n 2, 1) := dz_28 (n := 32) (r := 10) hz_X1_takeTie_32 rfl
theorem dX1_takeTie_43 : decode cX1_takeTie 43 = .ok (.invokestatic 125, 3) := dz_184 (n := 32) (r := 11) hz_X1_takeTie_32 rfl rfl
theorem dX1_takeTie_46 : decode cX1_takeTie 46 = .ok (.iconst (-1), 1) := dz_2 (n := 32) (r := 14) hz_X1_takeTie_32 rfl
theorem dX1_takeTie_47 : decode cX1_takeTie 47 = .ok (.if_icmp .ne 21, 3) := dz_160 (n := 32) (r := 15) hz_X1_takeTie_32 rfl (by decide +kernel)
theorem dX1_takeTie_50 : decode cX1_takeTie 50 = .ok (.aload_n 0, 1) := dz_42 (n := 32) (r := 18) hz_X1_takeTie_32 rfl
theorem dX1_takeTie_51 : decode cX1_takeTie 51 = .ok (.iconst 4, 1) := dz_7 (n := 32) (r := 19) hz_X1_takeTie_32 rfl
theorem dX1_takeTie_52 : decode cX1_takeTie 52 = .ok (.aload_n 0, 1) := dz_42 (n := 32) (r := 20) hz_X1_takeTie_32 rfl
theorem dX1_takeTie_53 : decode cX1_takeTie 53 = .ok (.getfield 12, 3) := dz_180 (n := 32) (r := 21) hz_X1_takeTie_32 rfl rfl
theorem dX1_takeTie_56 : decode cX1_takeTie 56 = .ok (.aload_n 0, 1) := dz_42 (n := 32) (r := 24) hz_X1_takeTie_32 rfl
theorem dX1_takeTie_57 : decode cX1_takeTie 57 = .ok (.getfield 49, 3) := dz_180 (n := 32) (r := 25) hz_X1_takeTie_32 rfl rfl
theorem dX1_takeTie_60 : decode cX1_takeTie 60 = .ok (.iconst 2, 1) := dz_5 (n := 32) (r := 28) hz_X1_takeTie_32 rfl
theorem dX1_takeTie_61 : decode cX1_takeTie 61 = .ok (.isub, 1) := dz_100 (n := 32) (r := 29) hz_X1_takeTie_32 rfl
theorem dX1_takeTie_62 : decode cX1_takeTie 62 = .ok (.invokevirtual 101, 3) := dz_182 (n := 32) (r := 30) hz_X1_takeTie_32 rfl rfl
theorem hz_X1_takeTie_64 : (cX1_takeTie.data.toList.drop 64).take 40 = [101, 182, 0, 36, 42, 182, 0, 107, 62, 42, 180, 0, 46, 154, 0, 24, 42, 180, 0, 21, 28, 29, 182, 0, 131, 42, 89, 180, 0, 79, 4, 28, 120, 128, 181, 0, 79, 177] := by decide +kernel
theorem dX1_takeTie_65 : decode cX1_takeTie 65 = .ok (.invokevirtual 36, 3) := dz_182 (n := 64) (r := 1) hz_X1_takeTie_64 rfl rfl
theorem dX1_takeTie_68 : decode cX1_takeTie 68 = .ok (.aload_n 0, 1) := dz_42 (n := 64) (r := 4) hz_X1_takeTie_64 rfl
theorem dX1_takeTie_69 : decode cX1_takeTie 69 = .ok (.invokevirtual 107, 3) := dz_182 (n := 64) (r := 5) hz_X1_takeTie_64 rfl rfl
theorem dX1_takeTie_72 : decode cX1_takeTie 72 = .ok (.istore_n 3, 1) := dz_62 (n := 64) (r := 8) hz_X1_takeTie_64 rfl
theorem dX1_takeTie_73 : decode cX1_takeTie 73 = .ok (.aload_n 0, 1) := dz_42 (n := 64) (r := 9) hz_X1_takeTie_64 rfl
theorem dX1_takeTie_74 : decode cX1_takeTie 74 = .ok (.getfield 46, 3) := dz_180 (n := 64) (r := 10) hz_X1_takeTie_64 rfl rfl
theorem dX1_takeTie_77 : decode cX1_takeTie 77 = .ok (.ifCond .ne 24, 3) := dz_154 (n := 64) (r := 13) hz_X1_takeTie_64 rfl (by decide +kernel)
theorem dX1_takeTie_80 : decode cX1_takeTie 80 = .ok (.aload_n 0, 1) := dz_42 (n := 64) (r := 16) hz_X1_takeTie_64 rfl
theorem dX1_takeTie_81 : decode cX1_takeTie 81 = .ok (.getfield 21, 3) := dz_180 (n := 64) (r := 17) hz_X1_takeTie_64 rfl rfl
theorem dX1_takeTie_84 : decode cX1_takeTie 84 = .ok (.iload_n 2, 1) := dz_28 (n := 64) (r := 20) hz_X1_takeTie_64 rfl
theorem dX1_takeTie_85 : decode cX1_takeTie 85 = .ok (.iload_n 3, 1) := dz_29 (n := 64) (r := 21) hz_X1_takeTie_64 rfl
theorem dX1_takeTie_86 : decode cX1_takeTie 86 = .ok (.invokevirtual 131, 3) := dz_182 (n := 64) (r := 22) hz_X1_takeTie_64 rfl rfl
theorem dX1_takeTie_89 : decode cX1_takeTie 89 = .ok (.aload_n 0, 1) := dz_42 (n := 64) (r := 25) hz_X1_takeTie_64 rfl
theorem dX1_takeTie_90 : decode cX1_takeTie 90 = .ok (.dup, 1) := dz_89 (n := 64) (r := 26) hz_X1_takeTie_64 rfl
theorem dX1_takeTie_91 : decode cX1_takeTie 91 = .ok (.getfield 79, 3) := dz_180 (n := 64) (r := 27) hz_X1_takeTie_64 rfl rfl
theorem dX1_takeTie_94 : decode cX1_takeTie 94 = .ok (.iconst 1, 1) := dz_4 (n := 64) (r := 30) hz_X1_takeTie_64 rfl
theorem dX1_takeTie_95 : decode cX1_takeTie 95 = .ok (.iload_n 2, 1) := dz_28 (n := 64) (r := 31) hz_X1_takeTie_64 rfl
theorem hz_X1_takeTie_96 : (cX1_takeTie.data.toList.drop 96).take 40 = [120, 128, 181, 0, 79, 177] := by decide +kernel
theorem dX1_takeTie_96 : decode cX1_takeTie 96 = .ok (.ishl, 1) := dz_120 (n := 96) (r := 0) hz_X1_takeTie_96 rfl
theorem dX1_takeTie_97 : decode cX1_takeTie 97 = .ok (.ior, 1) := dz_128 (n := 96) (r := 1) hz_X1_takeTie_96 rfl
theorem dX1_takeTie_98 : decode cX1_takeTie 98 = .ok (.putfield 79, 3) := dz_181 (n := 96) (r := 2) hz_X1_takeTie_96 rfl rfl
theorem dX1_takeTie_101 : decode cX1_takeTie 101 = .ok (.return_, 1) := dz_177 (n := 96) (r := 5) hz_X1_takeTie_96 rfl
theorem hz_X1_takePull_0 : (cX1_takePull.data.toList.drop 0).take 40 = [42, 182, 0, 122, 60, 42, 182, 0, 107, 61, 42, 180, 0, 46, 154, 0, 24, 42, 180, 0, 21, 27, 28, 182, 0, 134, 42, 89, 180, 0, 82, 4, 27, 120, 128, 181, 0, 82, 177] := by decide +kernel
theorem dX1_takePull_0 : decode cX1_takePull 0 = .ok (.aload_n 0, 1) := dz_42 (n := 0) (r := 0) hz_X1_takePull_0 rfl
theorem dX1_takePull_1 : decode cX1_takePull 1 = .ok (.invokevirtual 122, 3) := dz_182 (n := 0) (r := 1) hz_X1_takePull_0 rfl rfl
theorem dX1_takePull_4 : decode cX1_takePull 4 = .ok (.istore_n 1, 1) := dz_60 (n := 0) (r := 4) hz_X1_takePull_0 rfl
theorem dX1_takePull_5 : decode cX1_takePull 5 = .ok (.aload_n 0, 1) := dz_42 (n := 0) (r := 5) hz_X1_takePull_0 rfl
theorem dX1_takePull_6 : decode cX1_takePull 6 = .ok (.invokevirtual 107, 3) := dz_182 (n := 0) (r := 6) hz_X1_takePull_0 rfl rfl
theorem dX1_takePull_9 : decode cX1_takePull 9 = .ok (.istore_n 2, 1) := dz_61 (n := 0) (r := 9) hz_X1_takePull_0 rfl
theorem dX1_takePull_10 : decode cX1_takePull 10 = .ok (.aload_n 0, 1) := dz_42 (n := 0) (r := 10) hz_X1_takePull_0 rfl
theorem dX1_takePull_11 : decode cX1_takePull 11 = .ok (.getfield 46, 3) := dz_180 (n := 0) (r := 11) hz_X1_takePull_0 rfl rfl
theorem dX1_takePull_14 : decode cX1_takePull 14 = .ok (.ifCond .ne 24, 3) := dz_154 (n := 0) (r := 14) hz_X1_takePull_0 rfl (by decide +kernel)
theorem dX1_takePull_17 : decode cX1_takePull 17 = .ok (.aload_n 0, 1) := dz_42 (n := 0) (r := 17) hz_X1_takePull_0 rfl
theorem dX1_takePull_18 : decode cX1_takePull 18 = .ok (.getfield 21, 3) := dz_180 (n := 0) (r := 18) hz_X1_takePull_0 rfl rfl
theorem dX1_takePull_21 : decode cX1_takePull 21 = .ok (.iload_n 1, 1) := dz_27 (n := 0) (r := 21) hz_X1_takePull_0 rfl
theorem dX1_takePull_22 : decode cX1_takePull 22 = .ok (.iload_n 2, 1) := dz_28 (n := 0) (r := 22) hz_X1_takePull_0 rfl
theorem dX1_takePull_23 : decode cX1_takePull 23 = .ok (.invokevirtual 134, 3) := dz_182 (n := 0) (r := 23) hz_X1_takePull_0 rfl rfl
theorem dX1_takePull_26 : decode cX1_takePull 26 = .ok (.aload_n 0, 1) := dz_42 (n := 0) (r := 26) hz_X1_takePull_0 rfl
theorem dX1_takePull_27 : decode cX1_takePull 27 = .ok (.dup, 1) := dz_89 (n := 0) (r := 27) hz_X1_takePull_0 rfl
theorem dX1_takePull_28 : decode cX1_takePull 28 = .ok (.getfield 82, 3) := dz_180 (n := 0) (r := 28) hz_X1_takePull_0 rfl rfl
theorem dX1_takePull_31 : decode cX1_takePull 31 = .ok (.iconst 1, 1) := dz_4 (n := 0) (r := 31) hz_X1_takePull_0 rfl
theorem hz_X1_takePull_32 : (cX1_takePull.data.toList.drop 32).take 40 = [27, 120, 128, 181, 0, 82, 177] := by decide +kernel
theorem dX1_takePull_32 : decode cX1_takePull 32 = .ok (.iload_n 1, 1) := dz_27 (n := 32) (r := 0) hz_X1_takePull_32 rfl
theorem dX1_takePull_33 : decode cX1_takePull 33 = .ok (.ishl, 1) := dz_120 (n := 32) (r := 1) hz_X1_takePull_32 rfl
theorem dX1_takePull_34 : decode cX1_takePull 34 = .ok (.ior, 1) := dz_128 (n := 32) (r := 2) hz_X1_takePull_32 rfl
theorem dX1_takePull_35 : decode cX1_takePull 35 = .ok (.putfield 82, 3) := dz_181 (n := 32) (r := 3) hz_X1_takePull_32 rfl rfl
theorem dX1_takePull_38 : decode cX1_takePull 38 = .ok (.return_, 1) := dz_177 (n := 32) (r := 6) hz_X1_takePull_32 rfl
theorem hz_X1_takePin_0 : (cX1_takePin.data.toList.drop 0).take 40 = [42, 182, 0, 122, 60, 42, 182, 0, 92, 16, 13, 160, 0, 7, 4, 167, 0, 4, 5, 61, 42, 180, 0, 46, 154, 0, 12, 42, 180, 0, 21, 27, 28, 182, 0, 137, 177] := by decide +kernel
theorem dX1_takePin_0 : decode cX1_takePin 0 = .ok (.aload_n 0, 1) := dz_42 (n := 0) (r := 0) hz_X1_takePin_0 rfl
theorem dX1_takePin_1 : decode cX1_takePin 1 = .ok (.invokevirtual 122, 3) := dz_182 (n := 0) (r := 1) hz_X1_takePin_0 rfl rfl
theorem dX1_takePin_4 : decode cX1_takePin 4 = .ok (.istore_n 1, 1) := dz_60 (n := 0) (r := 4) hz_X1_takePin_0 rfl
theorem dX1_takePin_5 : decode cX1_takePin 5 = .ok (.aload_n 0, 1) := dz_42 (n := 0) (r := 5) hz_X1_takePin_0 rfl
theorem dX1_takePin_6 : decode cX1_takePin 6 = .ok (.invokevirtual 92, 3) := dz_182 (n := 0) (r := 6) hz_X1_takePin_0 rfl rfl
theorem dX1_takePin_9 : decode cX1_takePin 9 = .ok (.bipush 13, 2) := dz_16 (n := 0) (r := 9) hz_X1_takePin_0 rfl rfl
theorem dX1_takePin_11 : decode cX1_takePin 11 = .ok (.if_icmp .ne 7, 3) := dz_160 (n := 0) (r := 11) hz_X1_takePin_0 rfl (by decide +kernel)
theorem dX1_takePin_14 : decode cX1_takePin 14 = .ok (.iconst 1, 1) := dz_4 (n := 0) (r := 14) hz_X1_takePin_0 rfl
theorem dX1_takePin_15 : decode cX1_takePin 15 = .ok (.goto 4, 3) := dz_167 (n := 0) (r := 15) hz_X1_takePin_0 rfl (by decide +kernel)
theorem dX1_takePin_18 : decode cX1_takePin 18 = .ok (.iconst 2, 1) := dz_5 (n := 0) (r := 18) hz_X1_takePin_0 rfl
theorem dX1_takePin_19 : decode cX1_takePin 19 = .ok (.istore_n 2, 1) := dz_61 (n := 0) (r := 19) hz_X1_takePin_0 rfl
theorem dX1_takePin_20 : decode cX1_takePin 20 = .ok (.aload_n 0, 1) := dz_42 (n := 0) (r := 20) hz_X1_takePin_0 rfl
theorem dX1_takePin_21 : decode cX1_takePin 21 = .ok (.getfield 46, 3) := dz_180 (n := 0) (r := 21) hz_X1_takePin_0 rfl rfl
theorem dX1_takePin_24 : decode cX1_takePin 24 = .ok (.ifCond .ne 12, 3) := dz_154 (n := 0) (r := 24) hz_X1_takePin_0 rfl (by decide +kernel)
theorem dX1_takePin_27 : decode cX1_takePin 27 = .ok (.aload_n 0, 1) := dz_42 (n := 0) (r := 27) hz_X1_takePin_0 rfl
theorem dX1_takePin_28 : decode cX1_takePin 28 = .ok (.getfield 21, 3) := dz_180 (n := 0) (r := 28) hz_X1_takePin_0 rfl rfl
theorem dX1_takePin_31 : decode cX1_takePin 31 = .ok (.iload_n 1, 1) := dz_27 (n := 0) (r := 31) hz_X1_takePin_0 rfl
theorem hz_X1_takePin_32 : (cX1_takePin.data.toList.drop 32).take 40 = [28, 182, 0, 137, 177] := by decide +kernel
theorem dX1_takePin_32 : decode cX1_takePin 32 = .ok (.iload_n 2, 1) := dz_28 (n := 32) (r := 0) hz_X1_takePin_32 rfl
theorem dX1_takePin_33 : decode cX1_takePin 33 = .ok (.invokevirtual 137, 3) := dz_182 (n := 32) (r := 1) hz_X1_takePin_32 rfl rfl
theorem dX1_takePin_36 : decode cX1_takePin 36 = .ok (.return_, 1) := dz_177 (n := 32) (r := 4) hz_X1_takePin_32 rfl
theorem hz_X1_giveUntold_0 : (cX1_giveUntold.data.toList.drop 0).take 40 = [3, 60, 42, 180, 0, 46, 154, 0, 71, 27, 16, 32, 162, 0, 65, 42, 180, 0, 79, 27, 184, 0, 140, 154, 0, 48, 42, 180, 0, 98, 42, 180, 0, 104, 42, 180, 0, 67, 27, 184] := by decide +kernel
theorem dX1_giveUntold_0 : decode cX1_giveUntold 0 = .ok (.iconst 0, 1) := dz_3 (n := 0) (r := 0) hz_X1_giveUntold_0 rfl
theorem dX1_giveUntold_1 : decode cX1_giveUntold 1 = .ok (.istore_n 1, 1) := dz_60 (n := 0) (r := 1) hz_X1_giveUntold_0 rfl
theorem dX1_giveUntold_2 : decode cX1_giveUntold 2 = .ok (.aload_n 0, 1) := dz_42 (n := 0) (r := 2) hz_X1_giveUntold_0 rfl
theorem dX1_giveUntold_3 : decode cX1_giveUntold 3 = .ok (.getfield 46, 3) := dz_180 (n := 0) (r := 3) hz_X1_giveUntold_0 rfl rfl
theorem dX1_giveUntold_6 : decode cX1_giveUntold 6 = .ok (.ifCond .ne 71, 3) := dz_154 (n := 0) (r := 6) hz_X1_giveUntold_0 rfl (by decide +kernel)
theorem dX1_giveUntold_9 : decode cX1_giveUntold 9 = .ok (.iload_n 1, 1) := dz_27 (n := 0) (r := 9) hz_X1_giveUntold_0 rfl
theorem dX1_giveUntold_10 : decode cX1_giveUntold 10 = .ok (.bipush 32, 2) := dz_16 (n := 0) (r := 10) hz_X1_giveUntold_0 rfl rfl
theorem dX1_giveUntold_12 : decode cX1_giveUntold 12 = .ok (.if_icmp .ge 65, 3) := dz_162 (n := 0) (r := 12) hz_X1_giveUntold_0 rfl (by decide +kernel)
theorem dX1_giveUntold_15 : decode cX1_giveUntold 15 = .ok (.aload_n 0, 1) := dz_42 (n := 0) (r := 15) hz_X1_giveUntold_0 rfl
theorem dX1_giveUntold_16 : decode cX1_giveUntold 16 = .ok (.getfield 79, 3) := dz_180 (n := 0) (r := 16) hz_X1_giveUntold_0 rfl rfl
theorem dX1_giveUntold_19 : decode cX1_giveUntold 19 = .ok (.iload_n 1, 1) := dz_27 (n := 0) (r := 19) hz_X1_giveUntold_0 rfl
theorem dX1_giveUntold_20 : decode cX1_giveUntold 20 = .ok (.invokestatic 140, 3) := dz_184 (n := 0) (r := 20) hz_X1_giveUntold_0 rfl rfl
theorem dX1_giveUntold_23 : decode cX1_giveUntold 23 = .ok (.ifCond .ne 48, 3) := dz_154 (n := 0) (r := 23) hz_X1_giveUntold_0 rfl (by decide +kernel)
theorem dX1_giveUntold_26 : decode cX1_giveUntold 26 = .ok (.aload_n 0, 1) := dz_42 (n := 0) (r := 26) hz_X1_giveUntold_0 rfl
theorem dX1_giveUntold_27 : decode cX1_giveUntold 27 = .ok (.getfield 98, 3) := dz_180 (n := 0) (r := 27) hz_X1_giveUntold_0 rfl rfl
theorem dX1_giveUntold_30 : decode cX1_giveUntold 30 = .ok (.aload_n 0, 1) := dz_42 (n := 0) (r := 30) hz_X1_giveUntold_0 rfl
theorem dX1_giveUntold_31 : decode cX1_giveUntold 31 = .ok (.getfield 104, 3) := dz_180 (n := 0) (r := 31) hz_X1_giveUntold_0 rfl rfl
theorem hz_X1_giveUntold_32 : (cX1_giveUntold.data.toList.drop 32).take 40 = [0, 104, 42, 180, 0, 67, 27, 184, 0, 125, 2, 159, 0, 28, 42, 180, 0, 21, 27, 27, 16, 16, 162, 0, 10, 42, 180, 0, 70, 167, 0, 7, 42, 180, 0, 73, 182, 0, 131, 132] := by decide +kernel
theorem dX1_giveUntold_34 : decode cX1_giveUntold 34 = .ok (.aload_n 0, 1) := dz_42 (n := 32) (r := 2) hz_X1_giveUntold_32 rfl
theorem dX1_giveUntold_35 : decode cX1_giveUntold 35 = .ok (.getfield 67, 3) := dz_180 (n := 32) (r := 3) hz_X1_giveUntold_32 rfl rfl
theorem dX1_giveUntold_38 : decode cX1_giveUntold 38 = .ok (.iload_n 1, 1) := dz_27 (n := 32) (r := 6) hz_X1_giveUntold_32 rfl
theorem dX1_giveUntold_39 : decode cX1_giveUntold 39 = .ok (.invokestatic 125, 3) := dz_184 (n := 32) (r := 7) hz_X1_giveUntold_32 rfl rfl
theorem dX1_giveUntold_42 : decode cX1_giveUntold 42 = .ok (.iconst (-1), 1) := dz_2 (n := 32) (r := 10) hz_X1_giveUntold_32 rfl
theorem dX1_giveUntold_43 : decode cX1_giveUntold 43 = .ok (.if_icmp .eq 28, 3) := dz_159 (n := 32) (r := 11) hz_X1_giveUntold_32 rfl (by decide +kernel)
theorem dX1_giveUntold_46 : decode cX1_giveUntold 46 = .ok (.aload_n 0, 1) := dz_42 (n := 32) (r := 14) hz_X1_giveUntold_32 rfl
theorem dX1_giveUntold_47 : decode cX1_giveUntold 47 = .ok (.getfield 21, 3) := dz_180 (n := 32) (r := 15) hz_X1_giveUntold_32 rfl rfl
theorem dX1_giveUntold_50 : decode cX1_giveUntold 50 = .ok (.iload_n 1, 1) := dz_27 (n := 32) (r := 18) hz_X1_giveUntold_32 rfl
theorem dX1_giveUntold_51 : decode cX1_giveUntold 51 = .ok (.iload_n 1, 1) := dz_27 (n := 32) (r := 19) hz_X1_giveUntold_32 rfl
theorem dX1_giveUntold_52 : decode cX1_giveUntold 52 = .ok (.bipush 16, 2) := dz_16 (n := 32) (r := 20) hz_X1_giveUntold_32 rfl rfl
theorem dX1_giveUntold_54 : decode cX1_giveUntold 54 = .ok (.if_icmp .ge 10, 3) := dz_162 (n := 32) (r := 22) hz_X1_giveUntold_32 rfl (by decide +kernel)
theorem dX1_giveUntold_57 : decode cX1_giveUntold 57 = .ok (.aload_n 0, 1) := dz_42 (n := 32) (r := 25) hz_X1_giveUntold_32 rfl
theorem dX1_giveUntold_58 : decode cX1_giveUntold 58 = .ok (.getfield 70, 3) := dz_180 (n := 32) (r := 26) hz_X1_giveUntold_32 rfl rfl
theorem dX1_giveUntold_61 : decode cX1_giveUntold 61 = .ok (.goto 7, 3) := dz_167 (n := 32) (r := 29) hz_X1_giveUntold_32 rfl (by decide +kernel)
theorem hz_X1_giveUntold_64 : (cX1_giveUntold.data.toList.drop 64).take 40 = [42, 180, 0, 73, 182, 0, 131, 132, 1, 1, 167, 255, 184, 3, 60, 42, 180, 0, 46, 154, 0, 45, 27, 42, 180, 0, 98, 42, 180, 0, 104, 104, 162, 0, 32, 42, 180, 0, 82, 27] := by decide +kernel
theorem dX1_giveUntold_64 : decode cX1_giveUntold 64 = .ok (.aload_n 0, 1) := dz_42 (n := 64) (r := 0) hz_X1_giveUntold_64 rfl
theorem dX1_giveUntold_65 : decode cX1_giveUntold 65 = .ok (.getfield 73, 3) := dz_180 (n := 64) (r := 1) hz_X1_giveUntold_64 rfl rfl
theorem dX1_giveUntold_68 : decode cX1_giveUntold 68 = .ok (.invokevirtual 131, 3) := dz_182 (n := 64) (r := 4) hz_X1_giveUntold_64 rfl rfl
theorem dX1_giveUntold_71 : decode cX1_giveUntold 71 = .ok (.iinc 1 1, 3) := dz_132 (n := 64) (r := 7) hz_X1_giveUntold_64 rfl rfl rfl
theorem dX1_giveUntold_74 : decode cX1_giveUntold 74 = .ok (.goto (-72), 3) := dz_167 (n := 64) (r := 10) hz_X1_giveUntold_64 rfl (by decide +kernel)
theorem dX1_giveUntold_77 : decode cX1_giveUntold 77 = .ok (.iconst 0, 1) := dz_3 (n := 64) (r := 13) hz_X1_giveUntold_64 rfl
theorem dX1_giveUntold_78 : decode cX1_giveUntold 78 = .ok (.istore_n 1, 1) := dz_60 (n := 64) (r := 14) hz_X1_giveUntold_64 rfl
theorem dX1_giveUntold_79 : decode cX1_giveUntold 79 = .ok (.aload_n 0, 1) := dz_42 (n := 64) (r := 15) hz_X1_giveUntold_64 rfl
theorem dX1_giveUntold_80 : decode cX1_giveUntold 80 = .ok (.getfield 46, 3) := dz_180 (n := 64) (r := 16) hz_X1_giveUntold_64 rfl rfl
theorem dX1_giveUntold_83 : decode cX1_giveUntold 83 = .ok (.ifCond .ne 45, 3) := dz_154 (n := 64) (r := 19) hz_X1_giveUntold_64 rfl (by decide +kernel)
theorem dX1_giveUntold_86 : decode cX1_giveUntold 86 = .ok (.iload_n 1, 1) := dz_27 (n := 64) (r := 22) hz_X1_giveUntold_64 rfl
theorem dX1_giveUntold_87 : decode cX1_giveUntold 87 = .ok (.aload_n 0, 1) := dz_42 (n := 64) (r := 23) hz_X1_giveUntold_64 rfl
theorem dX1_giveUntold_88 : decode cX1_giveUntold 88 = .ok (.getfield 98, 3) := dz_180 (n := 64) (r := 24) hz_X1_giveUntold_64 rfl rfl
theorem dX1_giveUntold_91 : decode cX1_giveUntold 91 = .ok (.aload_n 0, 1) := dz_42 (n := 64) (r := 27) hz_X1_giveUntold_64 rfl
theorem dX1_giveUntold_92 : decode cX1_giveUntold 92 = .ok (.getfield 104, 3) := dz_180 (n := 64) (r := 28) hz_X1_giveUntold_64 rfl rfl
theorem dX1_giveUntold_95 : decode cX1_giveUntold 95 = .ok (.imul, 1) := dz_104 (n := 64) (r := 31) hz_X1_giveUntold_64 rfl
theorem hz_X1_giveUntold_96 : (cX1_giveUntold.data.toList.drop 96).take 40 = [162, 0, 32, 42, 180, 0, 82, 27, 184, 0, 140, 154, 0, 15, 42, 180, 0, 21, 27, 42, 180, 0, 76, 182, 0, 134, 132, 1, 1, 167, 255, 210, 177] := by decide +kernel
theorem dX1_giveUntold_96 : decode cX1_giveUntold 96 = .ok (.if_icmp .ge 32, 3) := dz_162 (n := 96) (r := 0) hz_X1_giveUntold_96 rfl (by decide +kernel)
theorem dX1_giveUntold_99 : decode cX1_giveUntold 99 = .ok (.aload_n 0, 1) := dz_42 (n := 96) (r := 3) hz_X1_giveUntold_96 rfl
theorem dX1_giveUntold_100 : decode cX1_giveUntold 100 = .ok (.getfield 82, 3) := dz_180 (n := 96) (r := 4) hz_X1_giveUntold_96 rfl rfl
theorem dX1_giveUntold_103 : decode cX1_giveUntold 103 = .ok (.iload_n 1, 1) := dz_27 (n := 96) (r := 7) hz_X1_giveUntold_96 rfl
theorem dX1_giveUntold_104 : decode cX1_giveUntold 104 = .ok (.invokestatic 140, 3) := dz_184 (n := 96) (r := 8) hz_X1_giveUntold_96 rfl rfl
theorem dX1_giveUntold_107 : decode cX1_giveUntold 107 = .ok (.ifCond .ne 15, 3) := dz_154 (n := 96) (r := 11) hz_X1_giveUntold_96 rfl (by decide +kernel)
theorem dX1_giveUntold_110 : decode cX1_giveUntold 110 = .ok (.aload_n 0, 1) := dz_42 (n := 96) (r := 14) hz_X1_giveUntold_96 rfl
theorem dX1_giveUntold_111 : decode cX1_giveUntold 111 = .ok (.getfield 21, 3) := dz_180 (n := 96) (r := 15) hz_X1_giveUntold_96 rfl rfl
theorem dX1_giveUntold_114 : decode cX1_giveUntold 114 = .ok (.iload_n 1, 1) := dz_27 (n := 96) (r := 18) hz_X1_giveUntold_96 rfl
theorem dX1_giveUntold_115 : decode cX1_giveUntold 115 = .ok (.aload_n 0, 1) := dz_42 (n := 96) (r := 19) hz_X1_giveUntold_96 rfl
theorem dX1_giveUntold_116 : decode cX1_giveUntold 116 = .ok (.getfield 76, 3) := dz_180 (n := 96) (r := 20) hz_X1_giveUntold_96 rfl rfl
theorem dX1_giveUntold_119 : decode cX1_giveUntold 119 = .ok (.invokevirtual 134, 3) := dz_182 (n := 96) (r := 23) hz_X1_giveUntold_96 rfl rfl
theorem dX1_giveUntold_122 : decode cX1_giveUntold 122 = .ok (.iinc 1 1, 3) := dz_132 (n := 96) (r := 26) hz_X1_giveUntold_96 rfl rfl rfl
theorem dX1_giveUntold_125 : decode cX1_giveUntold 125 = .ok (.goto (-46), 3) := dz_167 (n := 96) (r := 29) hz_X1_giveUntold_96 rfl (by decide +kernel)
theorem hz_X1_giveUntold_128 : (cX1_giveUntold.data.toList.drop 128).take 40 = [177] := by decide +kernel
theorem dX1_giveUntold_128 : decode cX1_giveUntold 128 = .ok (.return_, 1) := dz_177 (n := 128) (r := 0) hz_X1_giveUntold_128 rfl
theorem hz_X2_init_0 : (cX2_init.data.toList.drop 0).take 40 = [42, 183, 0, 3, 42, 7, 188, 10, 181, 0, 9, 42, 7, 188, 10, 181, 0, 15, 42, 4, 188, 10, 181, 0, 18, 42, 2, 181, 0, 21, 177] := by decide +kernel
theorem dX2_init_0 : decode cX2_init 0 = .ok (.aload_n 0, 1) := dz_42 (n := 0) (r := 0) hz_X2_init_0 rfl
theorem dX2_init_1 : decode cX2_init 1 = .ok (.invokespecial 3, 3) := dz_183 (n := 0) (r := 1) hz_X2_init_0 rfl rfl
theorem dX2_init_4 : decode cX2_init 4 = .ok (.aload_n 0, 1) := dz_42 (n := 0) (r := 4) hz_X2_init_0 rfl
theorem dX2_init_5 : decode cX2_init 5 = .ok (.iconst 4, 1) := dz_7 (n := 0) (r := 5) hz_X2_init_0 rfl
theorem dX2_init_6 : decode cX2_init 6 = .ok (.newarray .int, 2) := dz_188_10 (n := 0) (r := 6) hz_X2_init_0 rfl
theorem dX2_init_8 : decode cX2_init 8 = .ok (.putfield 9, 3) := dz_181 (n := 0) (r := 8) hz_X2_init_0 rfl rfl
theorem dX2_init_11 : decode cX2_init 11 = .ok (.aload_n 0, 1) := dz_42 (n := 0) (r := 11) hz_X2_init_0 rfl
theorem dX2_init_12 : decode cX2_init 12 = .ok (.iconst 4, 1) := dz_7 (n := 0) (r := 12) hz_X2_init_0 rfl
theorem dX2_init_13 : decode cX2_init 13 = .ok (.newarray .int, 2) := dz_188_10 (n := 0) (r := 13) hz_X2_init_0 rfl
theorem dX2_init_15 : decode cX2_init 15 = .ok (.putfield 15, 3) := dz_181 (n := 0) (r := 15) hz_X2_init_0 rfl rfl
theorem dX2_init_18 : decode cX2_init 18 = .ok (.aload_n 0, 1) := dz_42 (n := 0) (r := 18) hz_X2_init_0 rfl
theorem dX2_init_19 : decode cX2_init 19 = .ok (.iconst 1, 1) := dz_4 (n := 0) (r := 19) hz_X2_init_0 rfl
theorem dX2_init_20 : decode cX2_init 20 = .ok (.newarray .int, 2) := dz_188_10 (n := 0) (r := 20) hz_X2_init_0 rfl
theorem dX2_init_22 : decode cX2_init 22 = .ok (.putfield 18, 3) := dz_181 (n := 0) (r := 22) hz_X2_init_0 rfl rfl
theorem dX2_init_25 : decode cX2_init 25 = .ok (.aload_n 0, 1) := dz_42 (n := 0) (r := 25) hz_X2_init_0 rfl
theorem dX2_init_26 : decode cX2_init 26 = .ok (.iconst (-1), 1) := dz_2 (n := 0) (r := 26) hz_X2_init_0 rfl
theorem dX2_init_27 : decode cX2_init 27 = .ok (.putfield 21, 3) := dz_181 (n := 0) (r := 27) hz_X2_init_0 rfl rfl
theorem dX2_init_30 : decode cX2_init 30 = .ok (.return_, 1) := dz_177 (n := 0) (r := 30) hz_X2_init_0 rfl
theorem hz_X2_of_0 : (cX2_of.data.toList.drop 0).take 40 = [27, 155, 0, 21, 27, 42, 180, 0, 18, 190, 162, 0, 12, 42, 180, 0, 18, 27, 46, 167, 0, 4, 3, 172] := by decide +kernel
theorem dX2_of_0 : decode cX2_of 0 = .ok (.iload_n 1, 1) := dz_27 (n := 0) (r := 0) hz_X2_of_0 rfl
theorem dX2_of_1 : decode cX2_of 1 = .ok (.ifCond .lt 21, 3) := dz_155 (n := 0) (r := 1) hz_X2_of_0 rfl (by decide +kernel)
theorem dX2_of_4 : decode cX2_of 4 = .ok (.iload_n 1, 1) := dz_27 (n := 0) (r := 4) hz_X2_of_0 rfl
theorem dX2_of_5 : decode cX2_of 5 = .ok (.aload_n 0, 1) := dz_42 (n := 0) (r := 5) hz_X2_of_0 rfl
theorem dX2_of_6 : decode cX2_of 6 = .ok (.getfield 18, 3) := dz_180 (n := 0) (r := 6) hz_X2_of_0 rfl rfl
theorem dX2_of_9 : decode cX2_of 9 = .ok (.arraylength, 1) := dz_190 (n := 0) (r := 9) hz_X2_of_0 rfl
theorem dX2_of_10 : decode cX2_of 10 = .ok (.if_icmp .ge 12, 3) := dz_162 (n := 0) (r := 10) hz_X2_of_0 rfl (by decide +kernel)
theorem dX2_of_13 : decode cX2_of 13 = .ok (.aload_n 0, 1) := dz_42 (n := 0) (r := 13) hz_X2_of_0 rfl
theorem dX2_of_14 : decode cX2_of 14 = .ok (.getfield 18, 3) := dz_180 (n := 0) (r := 14) hz_X2_of_0 rfl rfl
theorem dX2_of_17 : decode cX2_of 17 = .ok (.iload_n 1, 1) := dz_27 (n := 0) (r := 17) hz_X2_of_0 rfl
theorem dX2_of_18 : decode cX2_of 18 = .ok (.iaload, 1) := dz_46 (n := 0) (r := 18) hz_X2_of_0 rfl
theorem dX2_of_19 : decode cX2_of 19 = .ok (.goto 4, 3) := dz_167 (n := 0) (r := 19) hz_X2_of_0 rfl (by decide +kernel)
theorem dX2_of_22 : decode cX2_of 22 = .ok (.iconst 0, 1) := dz_3 (n := 0) (r := 22) hz_X2_of_0 rfl
theorem dX2_of_23 : decode cX2_of 23 = .ok (.ireturn, 1) := dz_172 (n := 0) (r := 23) hz_X2_of_0 rfl
theorem hz_X2_hasNoneLower_0 : (cX2_hasNoneLower.data.toList.drop 0).take 40 = [42, 27, 182, 0, 25, 54, 4, 4, 54, 5, 21, 5, 29, 162, 0, 55, 27, 21, 5, 130, 54, 6, 28, 21, 5, 126, 154, 0, 32, 21, 6, 155, 0, 27, 21, 6, 42, 180, 0, 18] := by decide +kernel
theorem dX2_hasNoneLower_0 : decode cX2_hasNoneLower 0 = .ok (.aload_n 0, 1) := dz_42 (n := 0) (r := 0) hz_X2_hasNoneLower_0 rfl
theorem dX2_hasNoneLower_1 : decode cX2_hasNoneLower 1 = .ok (.iload_n 1, 1) := dz_27 (n := 0) (r := 1) hz_X2_hasNoneLower_0 rfl
theorem dX2_hasNoneLower_2 : decode cX2_hasNoneLower 2 = .ok (.invokevirtual 25, 3) := dz_182 (n := 0) (r := 2) hz_X2_hasNoneLower_0 rfl rfl
theorem dX2_hasNoneLower_5 : decode cX2_hasNoneLower 5 = .ok (.istore 4, 2) := dz_54 (n := 0) (r := 5) hz_X2_hasNoneLower_0 rfl rfl
theorem dX2_hasNoneLower_7 : decode cX2_hasNoneLower 7 = .ok (.iconst 1, 1) := dz_4 (n := 0) (r := 7) hz_X2_hasNoneLower_0 rfl
theorem dX2_hasNoneLower_8 : decode cX2_hasNoneLower 8 = .ok (.istore 5, 2) := dz_54 (n := 0) (r := 8) hz_X2_hasNoneLower_0 rfl rfl
theorem dX2_hasNoneLower_10 : decode cX2_hasNoneLower 10 = .ok (.iload 5, 2) := dz_21 (n := 0) (r := 10) hz_X2_hasNoneLower_0 rfl rfl
theorem dX2_hasNoneLower_12 : decode cX2_hasNoneLower 12 = .ok (.iload_n 3, 1) := dz_29 (n := 0) (r := 12) hz_X2_hasNoneLower_0 rfl
theorem dX2_hasNoneLower_13 : decode cX2_hasNoneLower 13 = .ok (.if_icmp .ge 55, 3) := dz_162 (n := 0) (r := 13) hz_X2_hasNoneLower_0 rfl (by decide +kernel)
theorem dX2_hasNoneLower_16 : decode cX2_hasNoneLower 16 = .ok (.iload_n 1, 1) := dz_27 (n := 0) (r := 16) hz_X2_hasNoneLower_0 rfl
theorem dX2_hasNoneLower_17 : decode cX2_hasNoneLower 17 = .ok (.iload 5, 2) := dz_21 (n := 0) (r := 17) hz_X2_hasNoneLower_0 rfl rfl
theorem dX2_hasNoneLower_19 : decode cX2_hasNoneLower 19 = .ok (.ixor, 1) := dz_130 (n := 0) (r := 19) hz_X2_hasNoneLower_0 rfl
theorem dX2_hasNoneLower_20 : decode cX2_hasNoneLower 20 = .ok (.istore 6, 2) := dz_54 (n := 0) (r := 20) hz_X2_hasNoneLower_0 rfl rfl
theorem dX2_hasNoneLower_22 : decode cX2_hasNoneLower 22 = .ok (.iload_n 2, 1) := dz_28 (n := 0) (r := 22) hz_X2_hasNoneLower_0 rfl
theorem dX2_hasNoneLower_23 : decode cX2_hasNoneLower 23 = .ok (.iload 5, 2) := dz_21 (n := 0) (r := 23) hz_X2_hasNoneLower_0 rfl rfl
theorem dX2_hasNoneLower_25 : decode cX2_hasNoneLower 25 = .ok (.iand, 1) := dz_126 (n := 0) (r := 25) hz_X2_hasNoneLower_0 rfl
theorem dX2_hasNoneLower_26 : decode cX2_hasNoneLower 26 = .ok (.ifCond .ne 32, 3) := dz_154 (n := 0) (r := 26) hz_X2_hasNoneLower_0 rfl (by decide +kernel)
theorem dX2_hasNoneLower_29 : decode cX2_hasNoneLower 29 = .ok (.iload 6, 2) := dz_21 (n := 0) (r := 29) hz_X2_hasNoneLower_0 rfl rfl
theorem dX2_hasNoneLower_31 : decode cX2_hasNoneLower 31 = .ok (.ifCond .lt 27, 3) := dz_155 (n := 0) (r := 31) hz_X2_hasNoneLower_0 rfl (by decide +kernel)
theorem hz_X2_hasNoneLower_32 : (cX2_hasNoneLower.data.toList.drop 32).take 40 = [0, 27, 21, 6, 42, 180, 0, 18, 190, 162, 0, 17, 42, 180, 0, 18, 21, 6, 46, 21, 4, 162, 0, 5, 3, 172, 21, 5, 21, 5, 96, 54, 5, 167, 255, 201, 4, 172] := by decide +kernel
theorem dX2_hasNoneLower_34 : decode cX2_hasNoneLower 34 = .ok (.iload 6, 2) := dz_21 (n := 32) (r := 2) hz_X2_hasNoneLower_32 rfl rfl
theorem dX2_hasNoneLower_36 : decode cX2_hasNoneLower 36 = .ok (.aload_n 0, 1) := dz_42 (n := 32) (r := 4) hz_X2_hasNoneLower_32 rfl
theorem dX2_hasNoneLower_37 : decode cX2_hasNoneLower 37 = .ok (.getfield 18, 3) := dz_180 (n := 32) (r := 5) hz_X2_hasNoneLower_32 rfl rfl
theorem dX2_hasNoneLower_40 : decode cX2_hasNoneLower 40 = .ok (.arraylength, 1) := dz_190 (n := 32) (r := 8) hz_X2_hasNoneLower_32 rfl
theorem dX2_hasNoneLower_41 : decode cX2_hasNoneLower 41 = .ok (.if_icmp .ge 17, 3) := dz_162 (n := 32) (r := 9) hz_X2_hasNoneLower_32 rfl (by decide +kernel)
theorem dX2_hasNoneLower_44 : decode cX2_hasNoneLower 44 = .ok (.aload_n 0, 1) := dz_42 (n := 32) (r := 12) hz_X2_hasNoneLower_32 rfl
theorem dX2_hasNoneLower_45 : decode cX2_hasNoneLower 45 = .ok (.getfield 18, 3) := dz_180 (n := 32) (r := 13) hz_X2_hasNoneLower_32 rfl rfl
theorem dX2_hasNoneLower_48 : decode cX2_hasNoneLower 48 = .ok (.iload 6, 2) := dz_21 (n := 32) (r := 16) hz_X2_hasNoneLower_32 rfl rfl
theorem dX2_hasNoneLower_50 : decode cX2_hasNoneLower 50 = .ok (.iaload, 1) := dz_46 (n := 32) (r := 18) hz_X2_hasNoneLower_32 rfl
theorem dX2_hasNoneLower_51 : decode cX2_hasNoneLower 51 = .ok (.iload 4, 2) := dz_21 (n := 32) (r := 19) hz_X2_hasNoneLower_32 rfl rfl
theorem dX2_hasNoneLower_53 : decode cX2_hasNoneLower 53 = .ok (.if_icmp .ge 5, 3) := dz_162 (n := 32) (r := 21) hz_X2_hasNoneLower_32 rfl (by decide +kernel)
theorem dX2_hasNoneLower_56 : decode cX2_hasNoneLower 56 = .ok (.iconst 0, 1) := dz_3 (n := 32) (r := 24) hz_X2_hasNoneLower_32 rfl
theorem dX2_hasNoneLower_57 : decode cX2_hasNoneLower 57 = .ok (.ireturn, 1) := dz_172 (n := 32) (r := 25) hz_X2_hasNoneLower_32 rfl
theorem dX2_hasNoneLower_58 : decode cX2_hasNoneLower 58 = .ok (.iload 5, 2) := dz_21 (n := 32) (r := 26) hz_X2_hasNoneLower_32 rfl rfl
theorem dX2_hasNoneLower_60 : decode cX2_hasNoneLower 60 = .ok (.iload 5, 2) := dz_21 (n := 32) (r := 28) hz_X2_hasNoneLower_32 rfl rfl
theorem dX2_hasNoneLower_62 : decode cX2_hasNoneLower 62 = .ok (.iadd, 1) := dz_96 (n := 32) (r := 30) hz_X2_hasNoneLower_32 rfl
theorem dX2_hasNoneLower_63 : decode cX2_hasNoneLower 63 = .ok (.istore 5, 2) := dz_54 (n := 32) (r := 31) hz_X2_hasNoneLower_32 rfl rfl
theorem hz_X2_hasNoneLower_64 : (cX2_hasNoneLower.data.toList.drop 64).take 40 = [5, 167, 255, 201, 4, 172] := by decide +kernel
theorem dX2_hasNoneLower_65 : decode cX2_hasNoneLower 65 = .ok (.goto (-55), 3) := dz_167 (n := 64) (r := 1) hz_X2_hasNoneLower_64 rfl (by decide +kernel)
theorem dX2_hasNoneLower_68 : decode cX2_hasNoneLower 68 = .ok (.iconst 1, 1) := dz_4 (n := 64) (r := 4) hz_X2_hasNoneLower_64 rfl
theorem dX2_hasNoneLower_69 : decode cX2_hasNoneLower 69 = .ok (.ireturn, 1) := dz_172 (n := 64) (r := 5) hz_X2_hasNoneLower_64 rfl
theorem hz_X2_fill_0 : (cX2_fill.data.toList.drop 0).take 40 = [21, 4, 155, 0, 10, 21, 4, 16, 16, 164, 0, 4, 177, 42, 180, 0, 18, 190, 4, 21, 4, 120, 162, 0, 13, 42, 4, 21, 4, 120, 188, 10, 181, 0, 18, 42, 180, 0, 18, 3] := by decide +kernel
theorem dX2_fill_0 : decode cX2_fill 0 = .ok (.iload 4, 2) := dz_21 (n := 0) (r := 0) hz_X2_fill_0 rfl rfl
theorem dX2_fill_2 : decode cX2_fill 2 = .ok (.ifCond .lt 10, 3) := dz_155 (n := 0) (r := 2) hz_X2_fill_0 rfl (by decide +kernel)
theorem dX2_fill_5 : decode cX2_fill 5 = .ok (.iload 4, 2) := dz_21 (n := 0) (r := 5) hz_X2_fill_0 rfl rfl
theorem dX2_fill_7 : decode cX2_fill 7 = .ok (.bipush 16, 2) := dz_16 (n := 0) (r := 7) hz_X2_fill_0 rfl rfl
theorem dX2_fill_9 : decode cX2_fill 9 = .ok (.if_icmp .le 4, 3) := dz_164 (n := 0) (r := 9) hz_X2_fill_0 rfl (by decide +kernel)
theorem dX2_fill_12 : decode cX2_fill 12 = .ok (.return_, 1) := dz_177 (n := 0) (r := 12) hz_X2_fill_0 rfl
theorem dX2_fill_13 : decode cX2_fill 13 = .ok (.aload_n 0, 1) := dz_42 (n := 0) (r := 13) hz_X2_fill_0 rfl
theorem dX2_fill_14 : decode cX2_fill 14 = .ok (.getfield 18, 3) := dz_180 (n := 0) (r := 14) hz_X2_fill_0 rfl rfl
theorem dX2_fill_17 : decode cX2_fill 17 = .ok (.arraylength, 1) := dz_190 (n := 0) (r := 17) hz_X2_fill_0 rfl
theorem dX2_fill_18 : decode cX2_fill 18 = .ok (.iconst 1, 1) := dz_4 (n := 0) (r := 18) hz_X2_fill_0 rfl
theorem dX2_fill_19 : decode cX2_fill 19 = .ok (.iload 4, 2) := dz_21 (n := 0) (r := 19) hz_X2_fill_0 rfl rfl
theorem dX2_fill_21 : decode cX2_fill 21 = .ok (.ishl, 1) := dz_120 (n := 0) (r := 21) hz_X2_fill_0 rfl
theorem dX2_fill_22 : decode cX2_fill 22 = .ok (.if_icmp .ge 13, 3) := dz_162 (n := 0) (r := 22) hz_X2_fill_0 rfl (by decide +kernel)
theorem dX2_fill_25 : decode cX2_fill 25 = .ok (.aload_n 0, 1) := dz_42 (n := 0) (r := 25) hz_X2_fill_0 rfl
theorem dX2_fill_26 : decode cX2_fill 26 = .ok (.iconst 1, 1) := dz_4 (n := 0) (r := 26) hz_X2_fill_0 rfl
theorem dX2_fill_27 : decode cX2_fill 27 = .ok (.iload 4, 2) := dz_21 (n := 0) (r := 27) hz_X2_fill_0 rfl rfl
theorem dX2_fill_29 : decode cX2_fill 29 = .ok (.ishl, 1) := dz_120 (n := 0) (r := 29) hz_X2_fill_0 rfl
theorem dX2_fill_30 : decode cX2_fill 30 = .ok (.newarray .int, 2) := dz_188_10 (n := 0) (r := 30) hz_X2_fill_0 rfl
theorem hz_X2_fill_32 : (cX2_fill.data.toList.drop 32).take 40 = [181, 0, 18, 42, 180, 0, 18, 3, 3, 79, 3, 54, 5, 21, 5, 21, 4, 162, 0, 34, 21, 5, 45, 190, 162, 0, 27, 42, 43, 44, 21, 5, 182, 0, 29, 42, 21, 5, 45, 21] := by decide +kernel
theorem dX2_fill_32 : decode cX2_fill 32 = .ok (.putfield 18, 3) := dz_181 (n := 32) (r := 0) hz_X2_fill_32 rfl rfl
theorem dX2_fill_35 : decode cX2_fill 35 = .ok (.aload_n 0, 1) := dz_42 (n := 32) (r := 3) hz_X2_fill_32 rfl
theorem dX2_fill_36 : decode cX2_fill 36 = .ok (.getfield 18, 3) := dz_180 (n := 32) (r := 4) hz_X2_fill_32 rfl rfl
theorem dX2_fill_39 : decode cX2_fill 39 = .ok (.iconst 0, 1) := dz_3 (n := 32) (r := 7) hz_X2_fill_32 rfl
theorem dX2_fill_40 : decode cX2_fill 40 = .ok (.iconst 0, 1) := dz_3 (n := 32) (r := 8) hz_X2_fill_32 rfl
theorem dX2_fill_41 : decode cX2_fill 41 = .ok (.iastore, 1) := dz_79 (n := 32) (r := 9) hz_X2_fill_32 rfl
theorem dX2_fill_42 : decode cX2_fill 42 = .ok (.iconst 0, 1) := dz_3 (n := 32) (r := 10) hz_X2_fill_32 rfl
theorem dX2_fill_43 : decode cX2_fill 43 = .ok (.istore 5, 2) := dz_54 (n := 32) (r := 11) hz_X2_fill_32 rfl rfl
theorem dX2_fill_45 : decode cX2_fill 45 = .ok (.iload 5, 2) := dz_21 (n := 32) (r := 13) hz_X2_fill_32 rfl rfl
theorem dX2_fill_47 : decode cX2_fill 47 = .ok (.iload 4, 2) := dz_21 (n := 32) (r := 15) hz_X2_fill_32 rfl rfl
theorem dX2_fill_49 : decode cX2_fill 49 = .ok (.if_icmp .ge 34, 3) := dz_162 (n := 32) (r := 17) hz_X2_fill_32 rfl (by decide +kernel)
theorem dX2_fill_52 : decode cX2_fill 52 = .ok (.iload 5, 2) := dz_21 (n := 32) (r := 20) hz_X2_fill_32 rfl rfl
theorem dX2_fill_54 : decode cX2_fill 54 = .ok (.aload_n 3, 1) := dz_45 (n := 32) (r := 22) hz_X2_fill_32 rfl
theorem dX2_fill_55 : decode cX2_fill 55 = .ok (.arraylength, 1) := dz_190 (n := 32) (r := 23) hz_X2_fill_32 rfl
theorem dX2_fill_56 : decode cX2_fill 56 = .ok (.if_icmp .ge 27, 3) := dz_162 (n := 32) (r := 24) hz_X2_fill_32 rfl (by decide +kernel)
theorem dX2_fill_59 : decode cX2_fill 59 = .ok (.aload_n 0, 1) := dz_42 (n := 32) (r := 27) hz_X2_fill_32 rfl
theorem dX2_fill_60 : decode cX2_fill 60 = .ok (.aload_n 1, 1) := dz_43 (n := 32) (r := 28) hz_X2_fill_32 rfl
theorem dX2_fill_61 : decode cX2_fill 61 = .ok (.aload_n 2, 1) := dz_44 (n := 32) (r := 29) hz_X2_fill_32 rfl
theorem dX2_fill_62 : decode cX2_fill 62 = .ok (.iload 5, 2) := dz_21 (n := 32) (r := 30) hz_X2_fill_32 rfl rfl
theorem hz_X2_fill_64 : (cX2_fill.data.toList.drop 64).take 40 = [182, 0, 29, 42, 21, 5, 45, 21, 5, 46, 182, 0, 33, 132, 5, 1, 167, 255, 221, 177] := by decide +kernel
theorem dX2_fill_64 : decode cX2_fill 64 = .ok (.invokevirtual 29, 3) := dz_182 (n := 64) (r := 0) hz_X2_fill_64 rfl rfl
theorem dX2_fill_67 : decode cX2_fill 67 = .ok (.aload_n 0, 1) := dz_42 (n := 64) (r := 3) hz_X2_fill_64 rfl
theorem dX2_fill_68 : decode cX2_fill 68 = .ok (.iload 5, 2) := dz_21 (n := 64) (r := 4) hz_X2_fill_64 rfl rfl
theorem dX2_fill_70 : decode cX2_fill 70 = .ok (.aload_n 3, 1) := dz_45 (n := 64) (r := 6) hz_X2_fill_64 rfl
theorem dX2_fill_71 : decode cX2_fill 71 = .ok (.iload 5, 2) := dz_21 (n := 64) (r := 7) hz_X2_fill_64 rfl rfl
theorem dX2_fill_73 : decode cX2_fill 73 = .ok (.iaload, 1) := dz_46 (n := 64) (r := 9) hz_X2_fill_64 rfl
theorem dX2_fill_74 : decode cX2_fill 74 = .ok (.invokevirtual 33, 3) := dz_182 (n := 64) (r := 10) hz_X2_fill_64 rfl rfl
theorem dX2_fill_77 : decode cX2_fill 77 = .ok (.iinc 5 1, 3) := dz_132 (n := 64) (r := 13) hz_X2_fill_64 rfl rfl rfl
theorem dX2_fill_80 : decode cX2_fill 80 = .ok (.goto (-35), 3) := dz_167 (n := 64) (r := 16) hz_X2_fill_64 rfl (by decide +kernel)
theorem dX2_fill_83 : decode cX2_fill 83 = .ok (.return_, 1) := dz_177 (n := 64) (r := 19) hz_X2_fill_64 rfl
theorem hz_X2_seeLowerMates_0 : (cX2_seeLowerMates.data.toList.drop 0).take 40 = [42, 3, 181, 0, 37, 42, 29, 181, 0, 40, 3, 54, 4, 21, 4, 7, 162, 0, 118, 21, 4, 43, 180, 0, 43, 29, 46, 162, 0, 107, 43, 180, 0, 48, 7, 29, 104, 21, 4, 96] := by decide +kernel
theorem dX2_seeLowerMates_0 : decode cX2_seeLowerMates 0 = .ok (.aload_n 0, 1) := dz_42 (n := 0) (r := 0) hz_X2_seeLowerMates_0 rfl
theorem dX2_seeLowerMates_1 : decode cX2_seeLowerMates 1 = .ok (.iconst 0, 1) := dz_3 (n := 0) (r := 1) hz_X2_seeLowerMates_0 rfl
theorem dX2_seeLowerMates_2 : decode cX2_seeLowerMates 2 = .ok (.putfield 37, 3) := dz_181 (n := 0) (r := 2) hz_X2_seeLowerMates_0 rfl rfl
theorem dX2_seeLowerMates_5 : decode cX2_seeLowerMates 5 = .ok (.aload_n 0, 1) := dz_42 (n := 0) (r := 5) hz_X2_seeLowerMates_0 rfl
theorem dX2_seeLowerMates_6 : decode cX2_seeLowerMates 6 = .ok (.iload_n 3, 1) := dz_29 (n := 0) (r := 6) hz_X2_seeLowerMates_0 rfl
theorem dX2_seeLowerMates_7 : decode cX2_seeLowerMates 7 = .ok (.putfield 40, 3) := dz_181 (n := 0) (r := 7) hz_X2_seeLowerMates_0 rfl rfl
theorem dX2_seeLowerMates_10 : decode cX2_seeLowerMates 10 = .ok (.iconst 0, 1) := dz_3 (n := 0) (r := 10) hz_X2_seeLowerMates_0 rfl
theorem dX2_seeLowerMates_11 : decode cX2_seeLowerMates 11 = .ok (.istore 4, 2) := dz_54 (n := 0) (r := 11) hz_X2_seeLowerMates_0 rfl rfl
theorem dX2_seeLowerMates_13 : decode cX2_seeLowerMates 13 = .ok (.iload 4, 2) := dz_21 (n := 0) (r := 13) hz_X2_seeLowerMates_0 rfl rfl
theorem dX2_seeLowerMates_15 : decode cX2_seeLowerMates 15 = .ok (.iconst 4, 1) := dz_7 (n := 0) (r := 15) hz_X2_seeLowerMates_0 rfl
theorem dX2_seeLowerMates_16 : decode cX2_seeLowerMates 16 = .ok (.if_icmp .ge 118, 3) := dz_162 (n := 0) (r := 16) hz_X2_seeLowerMates_0 rfl (by decide +kernel)
theorem dX2_seeLowerMates_19 : decode cX2_seeLowerMates 19 = .ok (.iload 4, 2) := dz_21 (n := 0) (r := 19) hz_X2_seeLowerMates_0 rfl rfl
theorem dX2_seeLowerMates_21 : decode cX2_seeLowerMates 21 = .ok (.aload_n 1, 1) := dz_43 (n := 0) (r := 21) hz_X2_seeLowerMates_0 rfl
theorem dX2_seeLowerMates_22 : decode cX2_seeLowerMates 22 = .ok (.getfield 43, 3) := dz_180 (n := 0) (r := 22) hz_X2_seeLowerMates_0 rfl rfl
theorem dX2_seeLowerMates_25 : decode cX2_seeLowerMates 25 = .ok (.iload_n 3, 1) := dz_29 (n := 0) (r := 25) hz_X2_seeLowerMates_0 rfl
theorem dX2_seeLowerMates_26 : decode cX2_seeLowerMates 26 = .ok (.iaload, 1) := dz_46 (n := 0) (r := 26) hz_X2_seeLowerMates_0 rfl
theorem dX2_seeLowerMates_27 : decode cX2_seeLowerMates 27 = .ok (.if_icmp .ge 107, 3) := dz_162 (n := 0) (r := 27) hz_X2_seeLowerMates_0 rfl (by decide +kernel)
theorem dX2_seeLowerMates_30 : decode cX2_seeLowerMates 30 = .ok (.aload_n 1, 1) := dz_43 (n := 0) (r := 30) hz_X2_seeLowerMates_0 rfl
theorem dX2_seeLowerMates_31 : decode cX2_seeLowerMates 31 = .ok (.getfield 48, 3) := dz_180 (n := 0) (r := 31) hz_X2_seeLowerMates_0 rfl rfl
theorem hz_X2_seeLowerMates_32 : (cX2_seeLowerMates.data.toList.drop 32).take 40 = [0, 48, 7, 29, 104, 21, 4, 96, 46, 54, 5, 43, 180, 0, 51, 7, 29, 104, 21, 4, 96, 46, 54, 6, 21, 5, 29, 162, 0, 69, 21, 6, 155, 0, 64, 21, 6, 44, 190, 162] := by decide +kernel
theorem dX2_seeLowerMates_34 : decode cX2_seeLowerMates 34 = .ok (.iconst 4, 1) := dz_7 (n := 32) (r := 2) hz_X2_seeLowerMates_32 rfl
theorem dX2_seeLowerMates_35 : decode cX2_seeLowerMates 35 = .ok (.iload_n 3, 1) := dz_29 (n := 32) (r := 3) hz_X2_seeLowerMates_32 rfl
theorem dX2_seeLowerMates_36 : decode cX2_seeLowerMates 36 = .ok (.imul, 1) := dz_104 (n := 32) (r := 4) hz_X2_seeLowerMates_32 rfl
theorem dX2_seeLowerMates_37 : decode cX2_seeLowerMates 37 = .ok (.iload 4, 2) := dz_21 (n := 32) (r := 5) hz_X2_seeLowerMates_32 rfl rfl
theorem dX2_seeLowerMates_39 : decode cX2_seeLowerMates 39 = .ok (.iadd, 1) := dz_96 (n := 32) (r := 7) hz_X2_seeLowerMates_32 rfl
theorem dX2_seeLowerMates_40 : decode cX2_seeLowerMates 40 = .ok (.iaload, 1) := dz_46 (n := 32) (r := 8) hz_X2_seeLowerMates_32 rfl
theorem dX2_seeLowerMates_41 : decode cX2_seeLowerMates 41 = .ok (.istore 5, 2) := dz_54 (n := 32) (r := 9) hz_X2_seeLowerMates_32 rfl rfl
theorem dX2_seeLowerMates_43 : decode cX2_seeLowerMates 43 = .ok (.aload_n 1, 1) := dz_43 (n := 32) (r := 11) hz_X2_seeLowerMates_32 rfl
theorem dX2_seeLowerMates_44 : decode cX2_seeLowerMates 44 = .ok (.getfield 51, 3) := dz_180 (n := 32) (r := 12) hz_X2_seeLowerMates_32 rfl rfl
theorem dX2_seeLowerMates_47 : decode cX2_seeLowerMates 47 = .ok (.iconst 4, 1) := dz_7 (n := 32) (r := 15) hz_X2_seeLowerMates_32 rfl
theorem dX2_seeLowerMates_48 : decode cX2_seeLowerMates 48 = .ok (.iload_n 3, 1) := dz_29 (n := 32) (r := 16) hz_X2_seeLowerMates_32 rfl
theorem dX2_seeLowerMates_49 : decode cX2_seeLowerMates 49 = .ok (.imul, 1) := dz_104 (n := 32) (r := 17) hz_X2_seeLowerMates_32 rfl
theorem dX2_seeLowerMates_50 : decode cX2_seeLowerMates 50 = .ok (.iload 4, 2) := dz_21 (n := 32) (r := 18) hz_X2_seeLowerMates_32 rfl rfl
theorem dX2_seeLowerMates_52 : decode cX2_seeLowerMates 52 = .ok (.iadd, 1) := dz_96 (n := 32) (r := 20) hz_X2_seeLowerMates_32 rfl
theorem dX2_seeLowerMates_53 : decode cX2_seeLowerMates 53 = .ok (.iaload, 1) := dz_46 (n := 32) (r := 21) hz_X2_seeLowerMates_32 rfl
theorem dX2_seeLowerMates_54 : decode cX2_seeLowerMates 54 = .ok (.istore 6, 2) := dz_54 (n := 32) (r := 22) hz_X2_seeLowerMates_32 rfl rfl
theorem dX2_seeLowerMates_56 : decode cX2_seeLowerMates 56 = .ok (.iload 5, 2) := dz_21 (n := 32) (r := 24) hz_X2_seeLowerMates_32 rfl rfl
theorem dX2_seeLowerMates_58 : decode cX2_seeLowerMates 58 = .ok (.iload_n 3, 1) := dz_29 (n := 32) (r := 26) hz_X2_seeLowerMates_32 rfl
theorem dX2_seeLowerMates_59 : decode cX2_seeLowerMates 59 = .ok (.if_icmp .ge 69, 3) := dz_162 (n := 32) (r := 27) hz_X2_seeLowerMates_32 rfl (by decide +kernel)
theorem dX2_seeLowerMates_62 : decode cX2_seeLowerMates 62 = .ok (.iload 6, 2) := dz_21 (n := 32) (r := 30) hz_X2_seeLowerMates_32 rfl rfl
theorem hz_X2_seeLowerMates_64 : (cX2_seeLowerMates.data.toList.drop 64).take 40 = [155, 0, 64, 21, 6, 44, 190, 162, 0, 57, 44, 21, 6, 46, 153, 0, 50, 42, 180, 0, 9, 42, 180, 0, 37, 21, 5, 79, 42, 180, 0, 15, 42, 180, 0, 37, 44, 21, 6, 46] := by decide +kernel
theorem dX2_seeLowerMates_64 : decode cX2_seeLowerMates 64 = .ok (.ifCond .lt 64, 3) := dz_155 (n := 64) (r := 0) hz_X2_seeLowerMates_64 rfl (by decide +kernel)
theorem dX2_seeLowerMates_67 : decode cX2_seeLowerMates 67 = .ok (.iload 6, 2) := dz_21 (n := 64) (r := 3) hz_X2_seeLowerMates_64 rfl rfl
theorem dX2_seeLowerMates_69 : decode cX2_seeLowerMates 69 = .ok (.aload_n 2, 1) := dz_44 (n := 64) (r := 5) hz_X2_seeLowerMates_64 rfl
theorem dX2_seeLowerMates_70 : decode cX2_seeLowerMates 70 = .ok (.arraylength, 1) := dz_190 (n := 64) (r := 6) hz_X2_seeLowerMates_64 rfl
theorem dX2_seeLowerMates_71 : decode cX2_seeLowerMates 71 = .ok (.if_icmp .ge 57, 3) := dz_162 (n := 64) (r := 7) hz_X2_seeLowerMates_64 rfl (by decide +kernel)
theorem dX2_seeLowerMates_74 : decode cX2_seeLowerMates 74 = .ok (.aload_n 2, 1) := dz_44 (n := 64) (r := 10) hz_X2_seeLowerMates_64 rfl
theorem dX2_seeLowerMates_75 : decode cX2_seeLowerMates 75 = .ok (.iload 6, 2) := dz_21 (n := 64) (r := 11) hz_X2_seeLowerMates_64 rfl rfl
theorem dX2_seeLowerMates_77 : decode cX2_seeLowerMates 77 = .ok (.iaload, 1) := dz_46 (n := 64) (r := 13) hz_X2_seeLowerMates_64 rfl
theorem dX2_seeLowerMates_78 : decode cX2_seeLowerMates 78 = .ok (.ifCond .eq 50, 3) := dz_153 (n := 64) (r := 14) hz_X2_seeLowerMates_64 rfl (by decide +kernel)
theorem dX2_seeLowerMates_81 : decode cX2_seeLowerMates 81 = .ok (.aload_n 0, 1) := dz_42 (n := 64) (r := 17) hz_X2_seeLowerMates_64 rfl
theorem dX2_seeLowerMates_82 : decode cX2_seeLowerMates 82 = .ok (.getfield 9, 3) := dz_180 (n := 64) (r := 18) hz_X2_seeLowerMates_64 rfl rfl
theorem dX2_seeLowerMates_85 : decode cX2_seeLowerMates 85 = .ok (.aload_n 0, 1) := dz_42 (n := 64) (r := 21) hz_X2_seeLowerMates_64 rfl
theorem dX2_seeLowerMates_86 : decode cX2_seeLowerMates 86 = .ok (.getfield 37, 3) := dz_180 (n := 64) (r := 22) hz_X2_seeLowerMates_64 rfl rfl
theorem dX2_seeLowerMates_89 : decode cX2_seeLowerMates 89 = .ok (.iload 5, 2) := dz_21 (n := 64) (r := 25) hz_X2_seeLowerMates_64 rfl rfl
theorem dX2_seeLowerMates_91 : decode cX2_seeLowerMates 91 = .ok (.iastore, 1) := dz_79 (n := 64) (r := 27) hz_X2_seeLowerMates_64 rfl
theorem dX2_seeLowerMates_92 : decode cX2_seeLowerMates 92 = .ok (.aload_n 0, 1) := dz_42 (n := 64) (r := 28) hz_X2_seeLowerMates_64 rfl
theorem dX2_seeLowerMates_93 : decode cX2_seeLowerMates 93 = .ok (.getfield 15, 3) := dz_180 (n := 64) (r := 29) hz_X2_seeLowerMates_64 rfl rfl
theorem hz_X2_seeLowerMates_96 : (cX2_seeLowerMates.data.toList.drop 96).take 40 = [42, 180, 0, 37, 44, 21, 6, 46, 79, 42, 89, 180, 0, 37, 4, 96, 181, 0, 37, 42, 42, 180, 0, 40, 21, 5, 184, 0, 54, 181, 0, 40, 132, 4, 1, 167, 255, 138, 177] := by decide +kernel
theorem dX2_seeLowerMates_96 : decode cX2_seeLowerMates 96 = .ok (.aload_n 0, 1) := dz_42 (n := 96) (r := 0) hz_X2_seeLowerMates_96 rfl
theorem dX2_seeLowerMates_97 : decode cX2_seeLowerMates 97 = .ok (.getfield 37, 3) := dz_180 (n := 96) (r := 1) hz_X2_seeLowerMates_96 rfl rfl
theorem dX2_seeLowerMates_100 : decode cX2_seeLowerMates 100 = .ok (.aload_n 2, 1) := dz_44 (n := 96) (r := 4) hz_X2_seeLowerMates_96 rfl
theorem dX2_seeLowerMates_101 : decode cX2_seeLowerMates 101 = .ok (.iload 6, 2) := dz_21 (n := 96) (r := 5) hz_X2_seeLowerMates_96 rfl rfl
theorem dX2_seeLowerMates_103 : decode cX2_seeLowerMates 103 = .ok (.iaload, 1) := dz_46 (n := 96) (r := 7) hz_X2_seeLowerMates_96 rfl
theorem dX2_seeLowerMates_104 : decode cX2_seeLowerMates 104 = .ok (.iastore, 1) := dz_79 (n := 96) (r := 8) hz_X2_seeLowerMates_96 rfl
theorem dX2_seeLowerMates_105 : decode cX2_seeLowerMates 105 = .ok (.aload_n 0, 1) := dz_42 (n := 96) (r := 9) hz_X2_seeLowerMates_96 rfl
theorem dX2_seeLowerMates_106 : decode cX2_seeLowerMates 106 = .ok (.dup, 1) := dz_89 (n := 96) (r := 10) hz_X2_seeLowerMates_96 rfl
theorem dX2_seeLowerMates_107 : decode cX2_seeLowerMates 107 = .ok (.getfield 37, 3) := dz_180 (n := 96) (r := 11) hz_X2_seeLowerMates_96 rfl rfl
theorem dX2_seeLowerMates_110 : decode cX2_seeLowerMates 110 = .ok (.iconst 1, 1) := dz_4 (n := 96) (r := 14) hz_X2_seeLowerMates_96 rfl
theorem dX2_seeLowerMates_111 : decode cX2_seeLowerMates 111 = .ok (.iadd, 1) := dz_96 (n := 96) (r := 15) hz_X2_seeLowerMates_96 rfl
theorem dX2_seeLowerMates_112 : decode cX2_seeLowerMates 112 = .ok (.putfield 37, 3) := dz_181 (n := 96) (r := 16) hz_X2_seeLowerMates_96 rfl rfl
theorem dX2_seeLowerMates_115 : decode cX2_seeLowerMates 115 = .ok (.aload_n 0, 1) := dz_42 (n := 96) (r := 19) hz_X2_seeLowerMates_96 rfl
theorem dX2_seeLowerMates_116 : decode cX2_seeLowerMates 116 = .ok (.aload_n 0, 1) := dz_42 (n := 96) (r := 20) hz_X2_seeLowerMates_96 rfl
theorem dX2_seeLowerMates_117 : decode cX2_seeLowerMates 117 = .ok (.getfield 40, 3) := dz_180 (n := 96) (r := 21) hz_X2_seeLowerMates_96 rfl rfl
theorem dX2_seeLowerMates_120 : decode cX2_seeLowerMates 120 = .ok (.iload 5, 2) := dz_21 (n := 96) (r := 24) hz_X2_seeLowerMates_96 rfl rfl
theorem dX2_seeLowerMates_122 : decode cX2_seeLowerMates 122 = .ok (.invokestatic 54, 3) := dz_184 (n := 96) (r := 26) hz_X2_seeLowerMates_96 rfl rfl
theorem dX2_seeLowerMates_125 : decode cX2_seeLowerMates 125 = .ok (.putfield 40, 3) := dz_181 (n := 96) (r := 29) hz_X2_seeLowerMates_96 rfl rfl
theorem hz_X2_seeLowerMates_128 : (cX2_seeLowerMates.data.toList.drop 128).take 40 = [132, 4, 1, 167, 255, 138, 177] := by decide +kernel
theorem dX2_seeLowerMates_128 : decode cX2_seeLowerMates 128 = .ok (.iinc 4 1, 3) := dz_132 (n := 128) (r := 0) hz_X2_seeLowerMates_128 rfl rfl rfl
theorem dX2_seeLowerMates_131 : decode cX2_seeLowerMates 131 = .ok (.goto (-118), 3) := dz_167 (n := 128) (r := 3) hz_X2_seeLowerMates_128 rfl (by decide +kernel)
theorem dX2_seeLowerMates_134 : decode cX2_seeLowerMates 134 = .ok (.return_, 1) := dz_177 (n := 128) (r := 6) hz_X2_seeLowerMates_128 rfl
theorem hz_X2_addSite_0 : (cX2_addSite.data.toList.drop 0).take 40 = [4, 27, 120, 62, 4, 42, 180, 0, 40, 120, 54, 4, 3, 54, 5, 21, 5, 29, 162, 0, 86, 28, 42, 21, 5, 182, 0, 60, 96, 54, 6, 21, 5, 54, 7, 21, 7, 21, 5, 21] := by decide +kernel
theorem dX2_addSite_0 : decode cX2_addSite 0 = .ok (.iconst 1, 1) := dz_4 (n := 0) (r := 0) hz_X2_addSite_0 rfl
theorem dX2_addSite_1 : decode cX2_addSite 1 = .ok (.iload_n 1, 1) := dz_27 (n := 0) (r := 1) hz_X2_addSite_0 rfl
theorem dX2_addSite_2 : decode cX2_addSite 2 = .ok (.ishl, 1) := dz_120 (n := 0) (r := 2) hz_X2_addSite_0 rfl
theorem dX2_addSite_3 : decode cX2_addSite 3 = .ok (.istore_n 3, 1) := dz_62 (n := 0) (r := 3) hz_X2_addSite_0 rfl
theorem dX2_addSite_4 : decode cX2_addSite 4 = .ok (.iconst 1, 1) := dz_4 (n := 0) (r := 4) hz_X2_addSite_0 rfl
theorem dX2_addSite_5 : decode cX2_addSite 5 = .ok (.aload_n 0, 1) := dz_42 (n := 0) (r := 5) hz_X2_addSite_0 rfl
theorem dX2_addSite_6 : decode cX2_addSite 6 = .ok (.getfield 40, 3) := dz_180 (n := 0) (r := 6) hz_X2_addSite_0 rfl rfl
theorem dX2_addSite_9 : decode cX2_addSite 9 = .ok (.ishl, 1) := dz_120 (n := 0) (r := 9) hz_X2_addSite_0 rfl
theorem dX2_addSite_10 : decode cX2_addSite 10 = .ok (.istore 4, 2) := dz_54 (n := 0) (r := 10) hz_X2_addSite_0 rfl rfl
theorem dX2_addSite_12 : decode cX2_addSite 12 = .ok (.iconst 0, 1) := dz_3 (n := 0) (r := 12) hz_X2_addSite_0 rfl
theorem dX2_addSite_13 : decode cX2_addSite 13 = .ok (.istore 5, 2) := dz_54 (n := 0) (r := 13) hz_X2_addSite_0 rfl rfl
theorem dX2_addSite_15 : decode cX2_addSite 15 = .ok (.iload 5, 2) := dz_21 (n := 0) (r := 15) hz_X2_addSite_0 rfl rfl
theorem dX2_addSite_17 : decode cX2_addSite 17 = .ok (.iload_n 3, 1) := dz_29 (n := 0) (r := 17) hz_X2_addSite_0 rfl
theorem dX2_addSite_18 : decode cX2_addSite 18 = .ok (.if_icmp .ge 86, 3) := dz_162 (n := 0) (r := 18) hz_X2_addSite_0 rfl (by decide +kernel)
theorem dX2_addSite_21 : decode cX2_addSite 21 = .ok (.iload_n 2, 1) := dz_28 (n := 0) (r := 21) hz_X2_addSite_0 rfl
theorem dX2_addSite_22 : decode cX2_addSite 22 = .ok (.aload_n 0, 1) := dz_42 (n := 0) (r := 22) hz_X2_addSite_0 rfl
theorem dX2_addSite_23 : decode cX2_addSite 23 = .ok (.iload 5, 2) := dz_21 (n := 0) (r := 23) hz_X2_addSite_0 rfl rfl
theorem dX2_addSite_25 : decode cX2_addSite 25 = .ok (.invokevirtual 60, 3) := dz_182 (n := 0) (r := 25) hz_X2_addSite_0 rfl rfl
theorem dX2_addSite_28 : decode cX2_addSite 28 = .ok (.iadd, 1) := dz_96 (n := 0) (r := 28) hz_X2_addSite_0 rfl
theorem dX2_addSite_29 : decode cX2_addSite 29 = .ok (.istore 6, 2) := dz_54 (n := 0) (r := 29) hz_X2_addSite_0 rfl rfl
theorem dX2_addSite_31 : decode cX2_addSite 31 = .ok (.iload 5, 2) := dz_21 (n := 0) (r := 31) hz_X2_addSite_0 rfl rfl
theorem hz_X2_addSite_32 : (cX2_addSite.data.toList.drop 32).take 40 = [5, 54, 7, 21, 7, 21, 5, 21, 4, 96, 162, 0, 52, 29, 21, 7, 96, 42, 180, 0, 18, 190, 162, 0, 40, 42, 180, 0, 18, 29, 21, 7, 96, 42, 180, 0, 18, 21, 7, 46] := by decide +kernel
theorem dX2_addSite_33 : decode cX2_addSite 33 = .ok (.istore 7, 2) := dz_54 (n := 32) (r := 1) hz_X2_addSite_32 rfl rfl
theorem dX2_addSite_35 : decode cX2_addSite 35 = .ok (.iload 7, 2) := dz_21 (n := 32) (r := 3) hz_X2_addSite_32 rfl rfl
theorem dX2_addSite_37 : decode cX2_addSite 37 = .ok (.iload 5, 2) := dz_21 (n := 32) (r := 5) hz_X2_addSite_32 rfl rfl
theorem dX2_addSite_39 : decode cX2_addSite 39 = .ok (.iload 4, 2) := dz_21 (n := 32) (r := 7) hz_X2_addSite_32 rfl rfl
theorem dX2_addSite_41 : decode cX2_addSite 41 = .ok (.iadd, 1) := dz_96 (n := 32) (r := 9) hz_X2_addSite_32 rfl
theorem dX2_addSite_42 : decode cX2_addSite 42 = .ok (.if_icmp .ge 52, 3) := dz_162 (n := 32) (r := 10) hz_X2_addSite_32 rfl (by decide +kernel)
theorem dX2_addSite_45 : decode cX2_addSite 45 = .ok (.iload_n 3, 1) := dz_29 (n := 32) (r := 13) hz_X2_addSite_32 rfl
theorem dX2_addSite_46 : decode cX2_addSite 46 = .ok (.iload 7, 2) := dz_21 (n := 32) (r := 14) hz_X2_addSite_32 rfl rfl
theorem dX2_addSite_48 : decode cX2_addSite 48 = .ok (.iadd, 1) := dz_96 (n := 32) (r := 16) hz_X2_addSite_32 rfl
theorem dX2_addSite_49 : decode cX2_addSite 49 = .ok (.aload_n 0, 1) := dz_42 (n := 32) (r := 17) hz_X2_addSite_32 rfl
theorem dX2_addSite_50 : decode cX2_addSite 50 = .ok (.getfield 18, 3) := dz_180 (n := 32) (r := 18) hz_X2_addSite_32 rfl rfl
theorem dX2_addSite_53 : decode cX2_addSite 53 = .ok (.arraylength, 1) := dz_190 (n := 32) (r := 21) hz_X2_addSite_32 rfl
theorem dX2_addSite_54 : decode cX2_addSite 54 = .ok (.if_icmp .ge 40, 3) := dz_162 (n := 32) (r := 22) hz_X2_addSite_32 rfl (by decide +kernel)
theorem dX2_addSite_57 : decode cX2_addSite 57 = .ok (.aload_n 0, 1) := dz_42 (n := 32) (r := 25) hz_X2_addSite_32 rfl
theorem dX2_addSite_58 : decode cX2_addSite 58 = .ok (.getfield 18, 3) := dz_180 (n := 32) (r := 26) hz_X2_addSite_32 rfl rfl
theorem dX2_addSite_61 : decode cX2_addSite 61 = .ok (.iload_n 3, 1) := dz_29 (n := 32) (r := 29) hz_X2_addSite_32 rfl
theorem dX2_addSite_62 : decode cX2_addSite 62 = .ok (.iload 7, 2) := dz_21 (n := 32) (r := 30) hz_X2_addSite_32 rfl rfl
theorem hz_X2_addSite_64 : (cX2_addSite.data.toList.drop 64).take 40 = [96, 42, 180, 0, 18, 21, 7, 46, 21, 6, 100, 79, 42, 180, 0, 18, 21, 7, 92, 46, 21, 6, 96, 79, 132, 7, 1, 167, 255, 200, 21, 5, 21, 4, 96, 54, 5, 167, 255, 170] := by decide +kernel
theorem dX2_addSite_64 : decode cX2_addSite 64 = .ok (.iadd, 1) := dz_96 (n := 64) (r := 0) hz_X2_addSite_64 rfl
theorem dX2_addSite_65 : decode cX2_addSite 65 = .ok (.aload_n 0, 1) := dz_42 (n := 64) (r := 1) hz_X2_addSite_64 rfl
theorem dX2_addSite_66 : decode cX2_addSite 66 = .ok (.getfield 18, 3) := dz_180 (n := 64) (r := 2) hz_X2_addSite_64 rfl rfl
theorem dX2_addSite_69 : decode cX2_addSite 69 = .ok (.iload 7, 2) := dz_21 (n := 64) (r := 5) hz_X2_addSite_64 rfl rfl
theorem dX2_addSite_71 : decode cX2_addSite 71 = .ok (.iaload, 1) := dz_46 (n := 64) (r := 7) hz_X2_addSite_64 rfl
theorem dX2_addSite_72 : decode cX2_addSite 72 = .ok (.iload 6, 2) := dz_21 (n := 64) (r := 8) hz_X2_addSite_64 rfl rfl
theorem dX2_addSite_74 : decode cX2_addSite 74 = .ok (.isub, 1) := dz_100 (n := 64) (r := 10) hz_X2_addSite_64 rfl
theorem dX2_addSite_75 : decode cX2_addSite 75 = .ok (.iastore, 1) := dz_79 (n := 64) (r := 11) hz_X2_addSite_64 rfl
theorem dX2_addSite_76 : decode cX2_addSite 76 = .ok (.aload_n 0, 1) := dz_42 (n := 64) (r := 12) hz_X2_addSite_64 rfl
theorem dX2_addSite_77 : decode cX2_addSite 77 = .ok (.getfield 18, 3) := dz_180 (n := 64) (r := 13) hz_X2_addSite_64 rfl rfl
theorem dX2_addSite_80 : decode cX2_addSite 80 = .ok (.iload 7, 2) := dz_21 (n := 64) (r := 16) hz_X2_addSite_64 rfl rfl
theorem dX2_addSite_82 : decode cX2_addSite 82 = .ok (.dup2, 1) := dz_92 (n := 64) (r := 18) hz_X2_addSite_64 rfl
theorem dX2_addSite_83 : decode cX2_addSite 83 = .ok (.iaload, 1) := dz_46 (n := 64) (r := 19) hz_X2_addSite_64 rfl
theorem dX2_addSite_84 : decode cX2_addSite 84 = .ok (.iload 6, 2) := dz_21 (n := 64) (r := 20) hz_X2_addSite_64 rfl rfl
theorem dX2_addSite_86 : decode cX2_addSite 86 = .ok (.iadd, 1) := dz_96 (n := 64) (r := 22) hz_X2_addSite_64 rfl
theorem dX2_addSite_87 : decode cX2_addSite 87 = .ok (.iastore, 1) := dz_79 (n := 64) (r := 23) hz_X2_addSite_64 rfl
theorem dX2_addSite_88 : decode cX2_addSite 88 = .ok (.iinc 7 1, 3) := dz_132 (n := 64) (r := 24) hz_X2_addSite_64 rfl rfl rfl
theorem dX2_addSite_91 : decode cX2_addSite 91 = .ok (.goto (-56), 3) := dz_167 (n := 64) (r := 27) hz_X2_addSite_64 rfl (by decide +kernel)
theorem dX2_addSite_94 : decode cX2_addSite 94 = .ok (.iload 5, 2) := dz_21 (n := 64) (r := 30) hz_X2_addSite_64 rfl rfl
theorem hz_X2_addSite_96 : (cX2_addSite.data.toList.drop 96).take 40 = [21, 4, 96, 54, 5, 167, 255, 170, 177] := by decide +kernel
theorem dX2_addSite_96 : decode cX2_addSite 96 = .ok (.iload 4, 2) := dz_21 (n := 96) (r := 0) hz_X2_addSite_96 rfl rfl
theorem dX2_addSite_98 : decode cX2_addSite 98 = .ok (.iadd, 1) := dz_96 (n := 96) (r := 2) hz_X2_addSite_96 rfl
theorem dX2_addSite_99 : decode cX2_addSite 99 = .ok (.istore 5, 2) := dz_54 (n := 96) (r := 3) hz_X2_addSite_96 rfl rfl
theorem dX2_addSite_101 : decode cX2_addSite 101 = .ok (.goto (-86), 3) := dz_167 (n := 96) (r := 5) hz_X2_addSite_96 rfl (by decide +kernel)
theorem dX2_addSite_104 : decode cX2_addSite 104 = .ok (.return_, 1) := dz_177 (n := 96) (r := 8) hz_X2_addSite_96 rfl
theorem hz_X2_pulledByMates_0 : (cX2_pulledByMates.data.toList.drop 0).take 40 = [3, 61, 3, 62, 29, 42, 180, 0, 37, 162, 0, 47, 29, 7, 162, 0, 42, 28, 27, 42, 180, 0, 9, 29, 46, 122, 4, 126, 4, 160, 0, 12, 42, 180, 0, 15, 29, 46, 167, 0] := by decide +kernel
theorem dX2_pulledByMates_0 : decode cX2_pulledByMates 0 = .ok (.iconst 0, 1) := dz_3 (n := 0) (r := 0) hz_X2_pulledByMates_0 rfl
theorem dX2_pulledByMates_1 : decode cX2_pulledByMates 1 = .ok (.istore_n 2, 1) := dz_61 (n := 0) (r := 1) hz_X2_pulledByMates_0 rfl
theorem dX2_pulledByMates_2 : decode cX2_pulledByMates 2 = .ok (.iconst 0, 1) := dz_3 (n := 0) (r := 2) hz_X2_pulledByMates_0 rfl
theorem dX2_pulledByMates_3 : decode cX2_pulledByMates 3 = .ok (.istore_n 3, 1) := dz_62 (n := 0) (r := 3) hz_X2_pulledByMates_0 rfl
theorem dX2_pulledByMates_4 : decode cX2_pulledByMates 4 = .ok (.iload_n 3, 1) := dz_29 (n := 0) (r := 4) hz_X2_pulledByMates_0 rfl
theorem dX2_pulledByMates_5 : decode cX2_pulledByMates 5 = .ok (.aload_n 0, 1) := dz_42 (n := 0) (r := 5) hz_X2_pulledByMates_0 rfl
theorem dX2_pulledByMates_6 : decode cX2_pulledByMates 6 = .ok (.getfield 37, 3) := dz_180 (n := 0) (r := 6) hz_X2_pulledByMates_0 rfl rfl
theorem dX2_pulledByMates_9 : decode cX2_pulledByMates 9 = .ok (.if_icmp .ge 47, 3) := dz_162 (n := 0) (r := 9) hz_X2_pulledByMates_0 rfl (by decide +kernel)
theorem dX2_pulledByMates_12 : decode cX2_pulledByMates 12 = .ok (.iload_n 3, 1) := dz_29 (n := 0) (r := 12) hz_X2_pulledByMates_0 rfl
theorem dX2_pulledByMates_13 : decode cX2_pulledByMates 13 = .ok (.iconst 4, 1) := dz_7 (n := 0) (r := 13) hz_X2_pulledByMates_0 rfl
theorem dX2_pulledByMates_14 : decode cX2_pulledByMates 14 = .ok (.if_icmp .ge 42, 3) := dz_162 (n := 0) (r := 14) hz_X2_pulledByMates_0 rfl (by decide +kernel)
theorem dX2_pulledByMates_17 : decode cX2_pulledByMates 17 = .ok (.iload_n 2, 1) := dz_28 (n := 0) (r := 17) hz_X2_pulledByMates_0 rfl
theorem dX2_pulledByMates_18 : decode cX2_pulledByMates 18 = .ok (.iload_n 1, 1) := dz_27 (n := 0) (r := 18) hz_X2_pulledByMates_0 rfl
theorem dX2_pulledByMates_19 : decode cX2_pulledByMates 19 = .ok (.aload_n 0, 1) := dz_42 (n := 0) (r := 19) hz_X2_pulledByMates_0 rfl
theorem dX2_pulledByMates_20 : decode cX2_pulledByMates 20 = .ok (.getfield 9, 3) := dz_180 (n := 0) (r := 20) hz_X2_pulledByMates_0 rfl rfl
theorem dX2_pulledByMates_23 : decode cX2_pulledByMates 23 = .ok (.iload_n 3, 1) := dz_29 (n := 0) (r := 23) hz_X2_pulledByMates_0 rfl
theorem dX2_pulledByMates_24 : decode cX2_pulledByMates 24 = .ok (.iaload, 1) := dz_46 (n := 0) (r := 24) hz_X2_pulledByMates_0 rfl
theorem dX2_pulledByMates_25 : decode cX2_pulledByMates 25 = .ok (.ishr, 1) := dz_122 (n := 0) (r := 25) hz_X2_pulledByMates_0 rfl
theorem dX2_pulledByMates_26 : decode cX2_pulledByMates 26 = .ok (.iconst 1, 1) := dz_4 (n := 0) (r := 26) hz_X2_pulledByMates_0 rfl
theorem dX2_pulledByMates_27 : decode cX2_pulledByMates 27 = .ok (.iand, 1) := dz_126 (n := 0) (r := 27) hz_X2_pulledByMates_0 rfl
theorem dX2_pulledByMates_28 : decode cX2_pulledByMates 28 = .ok (.iconst 1, 1) := dz_4 (n := 0) (r := 28) hz_X2_pulledByMates_0 rfl
theorem dX2_pulledByMates_29 : decode cX2_pulledByMates 29 = .ok (.if_icmp .ne 12, 3) := dz_160 (n := 0) (r := 29) hz_X2_pulledByMates_0 rfl (by decide +kernel)
theorem hz_X2_pulledByMates_32 : (cX2_pulledByMates.data.toList.drop 32).take 40 = [42, 180, 0, 15, 29, 46, 167, 0, 10, 42, 180, 0, 15, 29, 46, 116, 96, 61, 132, 3, 1, 167, 255, 207, 28, 172] := by decide +kernel
theorem dX2_pulledByMates_32 : decode cX2_pulledByMates 32 = .ok (.aload_n 0, 1) := dz_42 (n := 32) (r := 0) hz_X2_pulledByMates_32 rfl
theorem dX2_pulledByMates_33 : decode cX2_pulledByMates 33 = .ok (.getfield 15, 3) := dz_180 (n := 32) (r := 1) hz_X2_pulledByMates_32 rfl rfl
theorem dX2_pulledByMates_36 : decode cX2_pulledByMates 36 = .ok (.iload_n 3, 1) := dz_29 (n := 32) (r := 4) hz_X2_pulledByMates_32 rfl
theorem dX2_pulledByMates_37 : decode cX2_pulledByMates 37 = .ok (.iaload, 1) := dz_46 (n := 32) (r := 5) hz_X2_pulledByMates_32 rfl
theorem dX2_pulledByMates_38 : decode cX2_pulledByMates 38 = .ok (.goto 10, 3) := dz_167 (n := 32) (r := 6) hz_X2_pulledByMates_32 rfl (by decide +kernel)
theorem dX2_pulledByMates_41 : decode cX2_pulledByMates 41 = .ok (.aload_n 0, 1) := dz_42 (n := 32) (r := 9) hz_X2_pulledByMates_32 rfl
theorem dX2_pulledByMates_42 : decode cX2_pulledByMates 42 = .ok (.getfield 15, 3) := dz_180 (n := 32) (r := 10) hz_X2_pulledByMates_32 rfl rfl
theorem dX2_pulledByMates_45 : decode cX2_pulledByMates 45 = .ok (.iload_n 3, 1) := dz_29 (n := 32) (r := 13) hz_X2_pulledByMates_32 rfl
theorem dX2_pulledByMates_46 : decode cX2_pulledByMates 46 = .ok (.iaload, 1) := dz_46 (n := 32) (r := 14) hz_X2_pulledByMates_32 rfl
theorem dX2_pulledByMates_47 : decode cX2_pulledByMates 47 = .ok (.ineg, 1) := dz_116 (n := 32) (r := 15) hz_X2_pulledByMates_32 rfl
theorem dX2_pulledByMates_48 : decode cX2_pulledByMates 48 = .ok (.iadd, 1) := dz_96 (n := 32) (r := 16) hz_X2_pulledByMates_32 rfl
theorem dX2_pulledByMates_49 : decode cX2_pulledByMates 49 = .ok (.istore_n 2, 1) := dz_61 (n := 32) (r := 17) hz_X2_pulledByMates_32 rfl
theorem dX2_pulledByMates_50 : decode cX2_pulledByMates 50 = .ok (.iinc 3 1, 3) := dz_132 (n := 32) (r := 18) hz_X2_pulledByMates_32 rfl rfl rfl
theorem dX2_pulledByMates_53 : decode cX2_pulledByMates 53 = .ok (.goto (-49), 3) := dz_167 (n := 32) (r := 21) hz_X2_pulledByMates_32 rfl (by decide +kernel)
theorem dX2_pulledByMates_56 : decode cX2_pulledByMates 56 = .ok (.iload_n 2, 1) := dz_28 (n := 32) (r := 24) hz_X2_pulledByMates_32 rfl
theorem dX2_pulledByMates_57 : decode cX2_pulledByMates 57 = .ok (.ireturn, 1) := dz_172 (n := 32) (r := 25) hz_X2_pulledByMates_32 rfl
theorem hz_X3_init_0 : (cX3_init.data.toList.drop 0).take 40 = [42, 183, 0, 3, 42, 16, 32, 188, 10, 181, 0, 9, 42, 16, 64, 188, 10, 181, 0, 15, 42, 16, 64, 188, 10, 181, 0, 18, 42, 16, 16, 188, 10, 181, 0, 21, 42, 180, 0, 9] := by decide +kernel
theorem dX3_init_0 : decode cX3_init 0 = .ok (.aload_n 0, 1) := dz_42 (n := 0) (r := 0) hz_X3_init_0 rfl
theorem dX3_init_1 : decode cX3_init 1 = .ok (.invokespecial 3, 3) := dz_183 (n := 0) (r := 1) hz_X3_init_0 rfl rfl
theorem dX3_init_4 : decode cX3_init 4 = .ok (.aload_n 0, 1) := dz_42 (n := 0) (r := 4) hz_X3_init_0 rfl
theorem dX3_init_5 : decode cX3_init 5 = .ok (.bipush 32, 2) := dz_16 (n := 0) (r := 5) hz_X3_init_0 rfl rfl
theorem dX3_init_7 : decode cX3_init 7 = .ok (.newarray .int, 2) := dz_188_10 (n := 0) (r := 7) hz_X3_init_0 rfl
theorem dX3_init_9 : decode cX3_init 9 = .ok (.putfield 9, 3) := dz_181 (n := 0) (r := 9) hz_X3_init_0 rfl rfl
theorem dX3_init_12 : decode cX3_init 12 = .ok (.aload_n 0, 1) := dz_42 (n := 0) (r := 12) hz_X3_init_0 rfl
theorem dX3_init_13 : decode cX3_init 13 = .ok (.bipush 64, 2) := dz_16 (n := 0) (r := 13) hz_X3_init_0 rfl rfl
theorem dX3_init_15 : decode cX3_init 15 = .ok (.newarray .int, 2) := dz_188_10 (n := 0) (r := 15) hz_X3_init_0 rfl
theorem dX3_init_17 : decode cX3_init 17 = .ok (.putfield 15, 3) := dz_181 (n := 0) (r := 17) hz_X3_init_0 rfl rfl
theorem dX3_init_20 : decode cX3_init 20 = .ok (.aload_n 0, 1) := dz_42 (n := 0) (r := 20) hz_X3_init_0 rfl
theorem dX3_init_21 : decode cX3_init 21 = .ok (.bipush 64, 2) := dz_16 (n := 0) (r := 21) hz_X3_init_0 rfl rfl
theorem dX3_init_23 : decode cX3_init 23 = .ok (.newarray .int, 2) := dz_188_10 (n := 0) (r := 23) hz_X3_init_0 rfl
theorem dX3_init_25 : decode cX3_init 25 = .ok (.putfield 18, 3) := dz_181 (n := 0) (r := 25) hz_X3_init_0 rfl rfl
theorem dX3_init_28 : decode cX3_init 28 = .ok (.aload_n 0, 1) := dz_42 (n := 0) (r := 28) hz_X3_init_0 rfl
theorem dX3_init_29 : decode cX3_init 29 = .ok (.bipush 16, 2) := dz_16 (n := 0) (r := 29) hz_X3_init_0 rfl rfl
theorem dX3_init_31 : decode cX3_init 31 = .ok (.newarray .int, 2) := dz_188_10 (n := 0) (r := 31) hz_X3_init_0 rfl
theorem hz_X3_init_32 : (cX3_init.data.toList.drop 32).take 40 = [10, 181, 0, 21, 42, 180, 0, 9, 2, 184, 0, 24, 177] := by decide +kernel
theorem dX3_init_33 : decode cX3_init 33 = .ok (.putfield 21, 3) := dz_181 (n := 32) (r := 1) hz_X3_init_32 rfl rfl
theorem dX3_init_36 : decode cX3_init 36 = .ok (.aload_n 0, 1) := dz_42 (n := 32) (r := 4) hz_X3_init_32 rfl
theorem dX3_init_37 : decode cX3_init 37 = .ok (.getfield 9, 3) := dz_180 (n := 32) (r := 5) hz_X3_init_32 rfl rfl
theorem dX3_init_40 : decode cX3_init 40 = .ok (.iconst (-1), 1) := dz_2 (n := 32) (r := 8) hz_X3_init_32 rfl
theorem dX3_init_41 : decode cX3_init 41 = .ok (.invokestatic 24, 3) := dz_184 (n := 32) (r := 9) hz_X3_init_32 rfl rfl
theorem dX3_init_44 : decode cX3_init 44 = .ok (.return_, 1) := dz_177 (n := 32) (r := 12) hz_X3_init_32 rfl
theorem hz_X3_lay_0 : (cX3_lay.data.toList.drop 0).take 40 = [42, 27, 181, 0, 30, 42, 28, 181, 0, 34, 42, 29, 181, 0, 37, 42, 42, 180, 0, 30, 42, 180, 0, 34, 104, 181, 0, 40, 42, 180, 0, 21, 3, 184, 0, 24, 3, 54, 4, 21] := by decide +kernel
theorem dX3_lay_0 : decode cX3_lay 0 = .ok (.aload_n 0, 1) := dz_42 (n := 0) (r := 0) hz_X3_lay_0 rfl
theorem dX3_lay_1 : decode cX3_lay 1 = .ok (.iload_n 1, 1) := dz_27 (n := 0) (r := 1) hz_X3_lay_0 rfl
theorem dX3_lay_2 : decode cX3_lay 2 = .ok (.putfield 30, 3) := dz_181 (n := 0) (r := 2) hz_X3_lay_0 rfl rfl
theorem dX3_lay_5 : decode cX3_lay 5 = .ok (.aload_n 0, 1) := dz_42 (n := 0) (r := 5) hz_X3_lay_0 rfl
theorem dX3_lay_6 : decode cX3_lay 6 = .ok (.iload_n 2, 1) := dz_28 (n := 0) (r := 6) hz_X3_lay_0 rfl
theorem dX3_lay_7 : decode cX3_lay 7 = .ok (.putfield 34, 3) := dz_181 (n := 0) (r := 7) hz_X3_lay_0 rfl rfl
theorem dX3_lay_10 : decode cX3_lay 10 = .ok (.aload_n 0, 1) := dz_42 (n := 0) (r := 10) hz_X3_lay_0 rfl
theorem dX3_lay_11 : decode cX3_lay 11 = .ok (.iload_n 3, 1) := dz_29 (n := 0) (r := 11) hz_X3_lay_0 rfl
theorem dX3_lay_12 : decode cX3_lay 12 = .ok (.putfield 37, 3) := dz_181 (n := 0) (r := 12) hz_X3_lay_0 rfl rfl
theorem dX3_lay_15 : decode cX3_lay 15 = .ok (.aload_n 0, 1) := dz_42 (n := 0) (r := 15) hz_X3_lay_0 rfl
theorem dX3_lay_16 : decode cX3_lay 16 = .ok (.aload_n 0, 1) := dz_42 (n := 0) (r := 16) hz_X3_lay_0 rfl
theorem dX3_lay_17 : decode cX3_lay 17 = .ok (.getfield 30, 3) := dz_180 (n := 0) (r := 17) hz_X3_lay_0 rfl rfl
theorem dX3_lay_20 : decode cX3_lay 20 = .ok (.aload_n 0, 1) := dz_42 (n := 0) (r := 20) hz_X3_lay_0 rfl
theorem dX3_lay_21 : decode cX3_lay 21 = .ok (.getfield 34, 3) := dz_180 (n := 0) (r := 21) hz_X3_lay_0 rfl rfl
theorem dX3_lay_24 : decode cX3_lay 24 = .ok (.imul, 1) := dz_104 (n := 0) (r := 24) hz_X3_lay_0 rfl
theorem dX3_lay_25 : decode cX3_lay 25 = .ok (.putfield 40, 3) := dz_181 (n := 0) (r := 25) hz_X3_lay_0 rfl rfl
theorem dX3_lay_28 : decode cX3_lay 28 = .ok (.aload_n 0, 1) := dz_42 (n := 0) (r := 28) hz_X3_lay_0 rfl
theorem dX3_lay_29 : decode cX3_lay 29 = .ok (.getfield 21, 3) := dz_180 (n := 0) (r := 29) hz_X3_lay_0 rfl rfl
theorem hz_X3_lay_32 : (cX3_lay.data.toList.drop 32).take 40 = [3, 184, 0, 24, 3, 54, 4, 21, 4, 16, 32, 162, 0, 80, 42, 180, 0, 9, 21, 4, 42, 180, 0, 30, 42, 180, 0, 34, 42, 180, 0, 37, 21, 4, 184, 0, 43, 79, 42, 180] := by decide +kernel
theorem dX3_lay_32 : decode cX3_lay 32 = .ok (.iconst 0, 1) := dz_3 (n := 32) (r := 0) hz_X3_lay_32 rfl
theorem dX3_lay_33 : decode cX3_lay 33 = .ok (.invokestatic 24, 3) := dz_184 (n := 32) (r := 1) hz_X3_lay_32 rfl rfl
theorem dX3_lay_36 : decode cX3_lay 36 = .ok (.iconst 0, 1) := dz_3 (n := 32) (r := 4) hz_X3_lay_32 rfl
theorem dX3_lay_37 : decode cX3_lay 37 = .ok (.istore 4, 2) := dz_54 (n := 32) (r := 5) hz_X3_lay_32 rfl rfl
theorem dX3_lay_39 : decode cX3_lay 39 = .ok (.iload 4, 2) := dz_21 (n := 32) (r := 7) hz_X3_lay_32 rfl rfl
theorem dX3_lay_41 : decode cX3_lay 41 = .ok (.bipush 32, 2) := dz_16 (n := 32) (r := 9) hz_X3_lay_32 rfl rfl
theorem dX3_lay_43 : decode cX3_lay 43 = .ok (.if_icmp .ge 80, 3) := dz_162 (n := 32) (r := 11) hz_X3_lay_32 rfl (by decide +kernel)
theorem dX3_lay_46 : decode cX3_lay 46 = .ok (.aload_n 0, 1) := dz_42 (n := 32) (r := 14) hz_X3_lay_32 rfl
theorem dX3_lay_47 : decode cX3_lay 47 = .ok (.getfield 9, 3) := dz_180 (n := 32) (r := 15) hz_X3_lay_32 rfl rfl
theorem dX3_lay_50 : decode cX3_lay 50 = .ok (.iload 4, 2) := dz_21 (n := 32) (r := 18) hz_X3_lay_32 rfl rfl
theorem dX3_lay_52 : decode cX3_lay 52 = .ok (.aload_n 0, 1) := dz_42 (n := 32) (r := 20) hz_X3_lay_32 rfl
theorem dX3_lay_53 : decode cX3_lay 53 = .ok (.getfield 30, 3) := dz_180 (n := 32) (r := 21) hz_X3_lay_32 rfl rfl
theorem dX3_lay_56 : decode cX3_lay 56 = .ok (.aload_n 0, 1) := dz_42 (n := 32) (r := 24) hz_X3_lay_32 rfl
theorem dX3_lay_57 : decode cX3_lay 57 = .ok (.getfield 34, 3) := dz_180 (n := 32) (r := 25) hz_X3_lay_32 rfl rfl
theorem dX3_lay_60 : decode cX3_lay 60 = .ok (.aload_n 0, 1) := dz_42 (n := 32) (r := 28) hz_X3_lay_32 rfl
theorem dX3_lay_61 : decode cX3_lay 61 = .ok (.getfield 37, 3) := dz_180 (n := 32) (r := 29) hz_X3_lay_32 rfl rfl
theorem hz_X3_lay_64 : (cX3_lay.data.toList.drop 64).take 40 = [21, 4, 184, 0, 43, 79, 42, 180, 0, 9, 21, 4, 46, 2, 159, 0, 39, 42, 21, 4, 184, 0, 47, 42, 180, 0, 9, 21, 4, 46, 21, 4, 182, 0, 51, 42, 42, 180, 0, 9] := by decide +kernel
theorem dX3_lay_64 : decode cX3_lay 64 = .ok (.iload 4, 2) := dz_21 (n := 64) (r := 0) hz_X3_lay_64 rfl rfl
theorem dX3_lay_66 : decode cX3_lay 66 = .ok (.invokestatic 43, 3) := dz_184 (n := 64) (r := 2) hz_X3_lay_64 rfl rfl
theorem dX3_lay_69 : decode cX3_lay 69 = .ok (.iastore, 1) := dz_79 (n := 64) (r := 5) hz_X3_lay_64 rfl
theorem dX3_lay_70 : decode cX3_lay 70 = .ok (.aload_n 0, 1) := dz_42 (n := 64) (r := 6) hz_X3_lay_64 rfl
theorem dX3_lay_71 : decode cX3_lay 71 = .ok (.getfield 9, 3) := dz_180 (n := 64) (r := 7) hz_X3_lay_64 rfl rfl
theorem dX3_lay_74 : decode cX3_lay 74 = .ok (.iload 4, 2) := dz_21 (n := 64) (r := 10) hz_X3_lay_64 rfl rfl
theorem dX3_lay_76 : decode cX3_lay 76 = .ok (.iaload, 1) := dz_46 (n := 64) (r := 12) hz_X3_lay_64 rfl
theorem dX3_lay_77 : decode cX3_lay 77 = .ok (.iconst (-1), 1) := dz_2 (n := 64) (r := 13) hz_X3_lay_64 rfl
theorem dX3_lay_78 : decode cX3_lay 78 = .ok (.if_icmp .eq 39, 3) := dz_159 (n := 64) (r := 14) hz_X3_lay_64 rfl (by decide +kernel)
theorem dX3_lay_81 : decode cX3_lay 81 = .ok (.aload_n 0, 1) := dz_42 (n := 64) (r := 17) hz_X3_lay_64 rfl
theorem dX3_lay_82 : decode cX3_lay 82 = .ok (.iload 4, 2) := dz_21 (n := 64) (r := 18) hz_X3_lay_64 rfl rfl
theorem dX3_lay_84 : decode cX3_lay 84 = .ok (.invokestatic 47, 3) := dz_184 (n := 64) (r := 20) hz_X3_lay_64 rfl rfl
theorem dX3_lay_87 : decode cX3_lay 87 = .ok (.aload_n 0, 1) := dz_42 (n := 64) (r := 23) hz_X3_lay_64 rfl
theorem dX3_lay_88 : decode cX3_lay 88 = .ok (.getfield 9, 3) := dz_180 (n := 64) (r := 24) hz_X3_lay_64 rfl rfl
theorem dX3_lay_91 : decode cX3_lay 91 = .ok (.iload 4, 2) := dz_21 (n := 64) (r := 27) hz_X3_lay_64 rfl rfl
theorem dX3_lay_93 : decode cX3_lay 93 = .ok (.iaload, 1) := dz_46 (n := 64) (r := 29) hz_X3_lay_64 rfl
theorem dX3_lay_94 : decode cX3_lay 94 = .ok (.iload 4, 2) := dz_21 (n := 64) (r := 30) hz_X3_lay_64 rfl rfl
theorem hz_X3_lay_96 : (cX3_lay.data.toList.drop 96).take 40 = [182, 0, 51, 42, 42, 180, 0, 9, 21, 4, 46, 21, 4, 184, 0, 47, 21, 4, 182, 0, 51, 132, 4, 1, 167, 255, 175, 177] := by decide +kernel
theorem dX3_lay_96 : decode cX3_lay 96 = .ok (.invokevirtual 51, 3) := dz_182 (n := 96) (r := 0) hz_X3_lay_96 rfl rfl
theorem dX3_lay_99 : decode cX3_lay 99 = .ok (.aload_n 0, 1) := dz_42 (n := 96) (r := 3) hz_X3_lay_96 rfl
theorem dX3_lay_100 : decode cX3_lay 100 = .ok (.aload_n 0, 1) := dz_42 (n := 96) (r := 4) hz_X3_lay_96 rfl
theorem dX3_lay_101 : decode cX3_lay 101 = .ok (.getfield 9, 3) := dz_180 (n := 96) (r := 5) hz_X3_lay_96 rfl rfl
theorem dX3_lay_104 : decode cX3_lay 104 = .ok (.iload 4, 2) := dz_21 (n := 96) (r := 8) hz_X3_lay_96 rfl rfl
theorem dX3_lay_106 : decode cX3_lay 106 = .ok (.iaload, 1) := dz_46 (n := 96) (r := 10) hz_X3_lay_96 rfl
theorem dX3_lay_107 : decode cX3_lay 107 = .ok (.iload 4, 2) := dz_21 (n := 96) (r := 11) hz_X3_lay_96 rfl rfl
theorem dX3_lay_109 : decode cX3_lay 109 = .ok (.invokestatic 47, 3) := dz_184 (n := 96) (r := 13) hz_X3_lay_96 rfl rfl
theorem dX3_lay_112 : decode cX3_lay 112 = .ok (.iload 4, 2) := dz_21 (n := 96) (r := 16) hz_X3_lay_96 rfl rfl
theorem dX3_lay_114 : decode cX3_lay 114 = .ok (.invokevirtual 51, 3) := dz_182 (n := 96) (r := 18) hz_X3_lay_96 rfl rfl
theorem dX3_lay_117 : decode cX3_lay 117 = .ok (.iinc 4 1, 3) := dz_132 (n := 96) (r := 21) hz_X3_lay_96 rfl rfl rfl
theorem dX3_lay_120 : decode cX3_lay 120 = .ok (.goto (-81), 3) := dz_167 (n := 96) (r := 24) hz_X3_lay_96 rfl (by decide +kernel)
theorem dX3_lay_123 : decode cX3_lay 123 = .ok (.return_, 1) := dz_177 (n := 96) (r := 27) hz_X3_lay_96 rfl
theorem hz_X3_addMate_0 : (cX3_addMate.data.toList.drop 0).take 40 = [27, 155, 0, 19, 27, 16, 16, 162, 0, 13, 42, 180, 0, 21, 27, 46, 7, 161, 0, 4, 177, 7, 27, 104, 42, 180, 0, 21, 27, 46, 96, 54, 4, 42, 180, 0, 15, 21, 4, 28] := by decide +kernel
theorem dX3_addMate_0 : decode cX3_addMate 0 = .ok (.iload_n 1, 1) := dz_27 (n := 0) (r := 0) hz_X3_addMate_0 rfl
theorem dX3_addMate_1 : decode cX3_addMate 1 = .ok (.ifCond .lt 19, 3) := dz_155 (n := 0) (r := 1) hz_X3_addMate_0 rfl (by decide +kernel)
theorem dX3_addMate_4 : decode cX3_addMate 4 = .ok (.iload_n 1, 1) := dz_27 (n := 0) (r := 4) hz_X3_addMate_0 rfl
theorem dX3_addMate_5 : decode cX3_addMate 5 = .ok (.bipush 16, 2) := dz_16 (n := 0) (r := 5) hz_X3_addMate_0 rfl rfl
theorem dX3_addMate_7 : decode cX3_addMate 7 = .ok (.if_icmp .ge 13, 3) := dz_162 (n := 0) (r := 7) hz_X3_addMate_0 rfl (by decide +kernel)
theorem dX3_addMate_10 : decode cX3_addMate 10 = .ok (.aload_n 0, 1) := dz_42 (n := 0) (r := 10) hz_X3_addMate_0 rfl
theorem dX3_addMate_11 : decode cX3_addMate 11 = .ok (.getfield 21, 3) := dz_180 (n := 0) (r := 11) hz_X3_addMate_0 rfl rfl
theorem dX3_addMate_14 : decode cX3_addMate 14 = .ok (.iload_n 1, 1) := dz_27 (n := 0) (r := 14) hz_X3_addMate_0 rfl
theorem dX3_addMate_15 : decode cX3_addMate 15 = .ok (.iaload, 1) := dz_46 (n := 0) (r := 15) hz_X3_addMate_0 rfl
theorem dX3_addMate_16 : decode cX3_addMate 16 = .ok (.iconst 4, 1) := dz_7 (n := 0) (r := 16) hz_X3_addMate_0 rfl
theorem dX3_addMate_17 : decode cX3_addMate 17 = .ok (.if_icmp .lt 4, 3) := dz_161 (n := 0) (r := 17) hz_X3_addMate_0 rfl (by decide +kernel)
theorem dX3_addMate_20 : decode cX3_addMate 20 = .ok (.return_, 1) := dz_177 (n := 0) (r := 20) hz_X3_addMate_0 rfl
theorem dX3_addMate_21 : decode cX3_addMate 21 = .ok (.iconst 4, 1) := dz_7 (n := 0) (r := 21) hz_X3_addMate_0 rfl
theorem dX3_addMate_22 : decode cX3_addMate 22 = .ok (.iload_n 1, 1) := dz_27 (n := 0) (r := 22) hz_X3_addMate_0 rfl
theorem dX3_addMate_23 : decode cX3_addMate 23 = .ok (.imul, 1) := dz_104 (n := 0) (r := 23) hz_X3_addMate_0 rfl
theorem dX3_addMate_24 : decode cX3_addMate 24 = .ok (.aload_n 0, 1) := dz_42 (n := 0) (r := 24) hz_X3_addMate_0 rfl
theorem dX3_addMate_25 : decode cX3_addMate 25 = .ok (.getfield 21, 3) := dz_180 (n := 0) (r := 25) hz_X3_addMate_0 rfl rfl
theorem dX3_addMate_28 : decode cX3_addMate 28 = .ok (.iload_n 1, 1) := dz_27 (n := 0) (r := 28) hz_X3_addMate_0 rfl
theorem dX3_addMate_29 : decode cX3_addMate 29 = .ok (.iaload, 1) := dz_46 (n := 0) (r := 29) hz_X3_addMate_0 rfl
theorem dX3_addMate_30 : decode cX3_addMate 30 = .ok (.iadd, 1) := dz_96 (n := 0) (r := 30) hz_X3_addMate_0 rfl
theorem dX3_addMate_31 : decode cX3_addMate 31 = .ok (.istore 4, 2) := dz_54 (n := 0) (r := 31) hz_X3_addMate_0 rfl rfl
theorem hz_X3_addMate_32 : (cX3_addMate.data.toList.drop 32).take 40 = [4, 42, 180, 0, 15, 21, 4, 28, 79, 42, 180, 0, 18, 21, 4, 29, 79, 42, 180, 0, 21, 27, 92, 46, 4, 96, 79, 177] := by decide +kernel
theorem dX3_addMate_33 : decode cX3_addMate 33 = .ok (.aload_n 0, 1) := dz_42 (n := 32) (r := 1) hz_X3_addMate_32 rfl
theorem dX3_addMate_34 : decode cX3_addMate 34 = .ok (.getfield 15, 3) := dz_180 (n := 32) (r := 2) hz_X3_addMate_32 rfl rfl
theorem dX3_addMate_37 : decode cX3_addMate 37 = .ok (.iload 4, 2) := dz_21 (n := 32) (r := 5) hz_X3_addMate_32 rfl rfl
theorem dX3_addMate_39 : decode cX3_addMate 39 = .ok (.iload_n 2, 1) := dz_28 (n := 32) (r := 7) hz_X3_addMate_32 rfl
theorem dX3_addMate_40 : decode cX3_addMate 40 = .ok (.iastore, 1) := dz_79 (n := 32) (r := 8) hz_X3_addMate_32 rfl
theorem dX3_addMate_41 : decode cX3_addMate 41 = .ok (.aload_n 0, 1) := dz_42 (n := 32) (r := 9) hz_X3_addMate_32 rfl
theorem dX3_addMate_42 : decode cX3_addMate 42 = .ok (.getfield 18, 3) := dz_180 (n := 32) (r := 10) hz_X3_addMate_32 rfl rfl
theorem dX3_addMate_45 : decode cX3_addMate 45 = .ok (.iload 4, 2) := dz_21 (n := 32) (r := 13) hz_X3_addMate_32 rfl rfl
theorem dX3_addMate_47 : decode cX3_addMate 47 = .ok (.iload_n 3, 1) := dz_29 (n := 32) (r := 15) hz_X3_addMate_32 rfl
theorem dX3_addMate_48 : decode cX3_addMate 48 = .ok (.iastore, 1) := dz_79 (n := 32) (r := 16) hz_X3_addMate_32 rfl
theorem dX3_addMate_49 : decode cX3_addMate 49 = .ok (.aload_n 0, 1) := dz_42 (n := 32) (r := 17) hz_X3_addMate_32 rfl
theorem dX3_addMate_50 : decode cX3_addMate 50 = .ok (.getfield 21, 3) := dz_180 (n := 32) (r := 18) hz_X3_addMate_32 rfl rfl
theorem dX3_addMate_53 : decode cX3_addMate 53 = .ok (.iload_n 1, 1) := dz_27 (n := 32) (r := 21) hz_X3_addMate_32 rfl
theorem dX3_addMate_54 : decode cX3_addMate 54 = .ok (.dup2, 1) := dz_92 (n := 32) (r := 22) hz_X3_addMate_32 rfl
theorem dX3_addMate_55 : decode cX3_addMate 55 = .ok (.iaload, 1) := dz_46 (n := 32) (r := 23) hz_X3_addMate_32 rfl
theorem dX3_addMate_56 : decode cX3_addMate 56 = .ok (.iconst 1, 1) := dz_4 (n := 32) (r := 24) hz_X3_addMate_32 rfl
theorem dX3_addMate_57 : decode cX3_addMate 57 = .ok (.iadd, 1) := dz_96 (n := 32) (r := 25) hz_X3_addMate_32 rfl
theorem dX3_addMate_58 : decode cX3_addMate 58 = .ok (.iastore, 1) := dz_79 (n := 32) (r := 26) hz_X3_addMate_32 rfl
theorem dX3_addMate_59 : decode cX3_addMate 59 = .ok (.return_, 1) := dz_177 (n := 32) (r := 27) hz_X3_addMate_32 rfl
theorem hz_X3_startOf_0 : (cX3_startOf.data.toList.drop 0).take 40 = [26, 16, 16, 162, 0, 7, 26, 167, 0, 7, 26, 16, 16, 100, 172] := by decide +kernel
theorem dX3_startOf_0 : decode cX3_startOf 0 = .ok (.iload_n 0, 1) := dz_26 (n := 0) (r := 0) hz_X3_startOf_0 rfl
theorem dX3_startOf_1 : decode cX3_startOf 1 = .ok (.bipush 16, 2) := dz_16 (n := 0) (r := 1) hz_X3_startOf_0 rfl rfl
theorem dX3_startOf_3 : decode cX3_startOf 3 = .ok (.if_icmp .ge 7, 3) := dz_162 (n := 0) (r := 3) hz_X3_startOf_0 rfl (by decide +kernel)
theorem dX3_startOf_6 : decode cX3_startOf 6 = .ok (.iload_n 0, 1) := dz_26 (n := 0) (r := 6) hz_X3_startOf_0 rfl
theorem dX3_startOf_7 : decode cX3_startOf 7 = .ok (.goto 7, 3) := dz_167 (n := 0) (r := 7) hz_X3_startOf_0 rfl (by decide +kernel)
theorem dX3_startOf_10 : decode cX3_startOf 10 = .ok (.iload_n 0, 1) := dz_26 (n := 0) (r := 10) hz_X3_startOf_0 rfl
theorem dX3_startOf_11 : decode cX3_startOf 11 = .ok (.bipush 16, 2) := dz_16 (n := 0) (r := 11) hz_X3_startOf_0 rfl rfl
theorem dX3_startOf_13 : decode cX3_startOf 13 = .ok (.isub, 1) := dz_100 (n := 0) (r := 13) hz_X3_startOf_0 rfl
theorem dX3_startOf_14 : decode cX3_startOf 14 = .ok (.ireturn, 1) := dz_172 (n := 0) (r := 14) hz_X3_startOf_0 rfl
theorem hz_X3_endOf_0 : (cX3_endOf.data.toList.drop 0).take 40 = [29, 184, 0, 47, 54, 4, 26, 4, 161, 0, 16, 21, 4, 155, 0, 11, 21, 4, 26, 27, 104, 161, 0, 5, 2, 172, 21, 4, 26, 108, 54, 5, 21, 4, 26, 112, 54, 6, 29, 16] := by decide +kernel
theorem dX3_endOf_0 : decode cX3_endOf 0 = .ok (.iload_n 3, 1) := dz_29 (n := 0) (r := 0) hz_X3_endOf_0 rfl
theorem dX3_endOf_1 : decode cX3_endOf 1 = .ok (.invokestatic 47, 3) := dz_184 (n := 0) (r := 1) hz_X3_endOf_0 rfl rfl
theorem dX3_endOf_4 : decode cX3_endOf 4 = .ok (.istore 4, 2) := dz_54 (n := 0) (r := 4) hz_X3_endOf_0 rfl rfl
theorem dX3_endOf_6 : decode cX3_endOf 6 = .ok (.iload_n 0, 1) := dz_26 (n := 0) (r := 6) hz_X3_endOf_0 rfl
theorem dX3_endOf_7 : decode cX3_endOf 7 = .ok (.iconst 1, 1) := dz_4 (n := 0) (r := 7) hz_X3_endOf_0 rfl
theorem dX3_endOf_8 : decode cX3_endOf 8 = .ok (.if_icmp .lt 16, 3) := dz_161 (n := 0) (r := 8) hz_X3_endOf_0 rfl (by decide +kernel)
theorem dX3_endOf_11 : decode cX3_endOf 11 = .ok (.iload 4, 2) := dz_21 (n := 0) (r := 11) hz_X3_endOf_0 rfl rfl
theorem dX3_endOf_13 : decode cX3_endOf 13 = .ok (.ifCond .lt 11, 3) := dz_155 (n := 0) (r := 13) hz_X3_endOf_0 rfl (by decide +kernel)
theorem dX3_endOf_16 : decode cX3_endOf 16 = .ok (.iload 4, 2) := dz_21 (n := 0) (r := 16) hz_X3_endOf_0 rfl rfl
theorem dX3_endOf_18 : decode cX3_endOf 18 = .ok (.iload_n 0, 1) := dz_26 (n := 0) (r := 18) hz_X3_endOf_0 rfl
theorem dX3_endOf_19 : decode cX3_endOf 19 = .ok (.iload_n 1, 1) := dz_27 (n := 0) (r := 19) hz_X3_endOf_0 rfl
theorem dX3_endOf_20 : decode cX3_endOf 20 = .ok (.imul, 1) := dz_104 (n := 0) (r := 20) hz_X3_endOf_0 rfl
theorem dX3_endOf_21 : decode cX3_endOf 21 = .ok (.if_icmp .lt 5, 3) := dz_161 (n := 0) (r := 21) hz_X3_endOf_0 rfl (by decide +kernel)
theorem dX3_endOf_24 : decode cX3_endOf 24 = .ok (.iconst (-1), 1) := dz_2 (n := 0) (r := 24) hz_X3_endOf_0 rfl
theorem dX3_endOf_25 : decode cX3_endOf 25 = .ok (.ireturn, 1) := dz_172 (n := 0) (r := 25) hz_X3_endOf_0 rfl
theorem dX3_endOf_26 : decode cX3_endOf 26 = .ok (.iload 4, 2) := dz_21 (n := 0) (r := 26) hz_X3_endOf_0 rfl rfl
theorem dX3_endOf_28 : decode cX3_endOf 28 = .ok (.iload_n 0, 1) := dz_26 (n := 0) (r := 28) hz_X3_endOf_0 rfl
theorem dX3_endOf_29 : decode cX3_endOf 29 = .ok (.idiv, 1) := dz_108 (n := 0) (r := 29) hz_X3_endOf_0 rfl
theorem dX3_endOf_30 : decode cX3_endOf 30 = .ok (.istore 5, 2) := dz_54 (n := 0) (r := 30) hz_X3_endOf_0 rfl rfl
theorem hz_X3_endOf_32 : (cX3_endOf.data.toList.drop 32).take 40 = [21, 4, 26, 112, 54, 6, 29, 16, 16, 162, 0, 50, 28, 4, 126, 153, 0, 12, 26, 5, 164, 0, 7, 4, 167, 0, 4, 3, 54, 7, 21, 6, 4, 96, 26, 162, 0, 10, 21, 4] := by decide +kernel
theorem dX3_endOf_32 : decode cX3_endOf 32 = .ok (.iload 4, 2) := dz_21 (n := 32) (r := 0) hz_X3_endOf_32 rfl rfl
theorem dX3_endOf_34 : decode cX3_endOf 34 = .ok (.iload_n 0, 1) := dz_26 (n := 32) (r := 2) hz_X3_endOf_32 rfl
theorem dX3_endOf_35 : decode cX3_endOf 35 = .ok (.irem, 1) := dz_112 (n := 32) (r := 3) hz_X3_endOf_32 rfl
theorem dX3_endOf_36 : decode cX3_endOf 36 = .ok (.istore 6, 2) := dz_54 (n := 32) (r := 4) hz_X3_endOf_32 rfl rfl
theorem dX3_endOf_38 : decode cX3_endOf 38 = .ok (.iload_n 3, 1) := dz_29 (n := 32) (r := 6) hz_X3_endOf_32 rfl
theorem dX3_endOf_39 : decode cX3_endOf 39 = .ok (.bipush 16, 2) := dz_16 (n := 32) (r := 7) hz_X3_endOf_32 rfl rfl
theorem dX3_endOf_41 : decode cX3_endOf 41 = .ok (.if_icmp .ge 50, 3) := dz_162 (n := 32) (r := 9) hz_X3_endOf_32 rfl (by decide +kernel)
theorem dX3_endOf_44 : decode cX3_endOf 44 = .ok (.iload_n 2, 1) := dz_28 (n := 32) (r := 12) hz_X3_endOf_32 rfl
theorem dX3_endOf_45 : decode cX3_endOf 45 = .ok (.iconst 1, 1) := dz_4 (n := 32) (r := 13) hz_X3_endOf_32 rfl
theorem dX3_endOf_46 : decode cX3_endOf 46 = .ok (.iand, 1) := dz_126 (n := 32) (r := 14) hz_X3_endOf_32 rfl
theorem dX3_endOf_47 : decode cX3_endOf 47 = .ok (.ifCond .eq 12, 3) := dz_153 (n := 32) (r := 15) hz_X3_endOf_32 rfl (by decide +kernel)
theorem dX3_endOf_50 : decode cX3_endOf 50 = .ok (.iload_n 0, 1) := dz_26 (n := 32) (r := 18) hz_X3_endOf_32 rfl
theorem dX3_endOf_51 : decode cX3_endOf 51 = .ok (.iconst 2, 1) := dz_5 (n := 32) (r := 19) hz_X3_endOf_32 rfl
theorem dX3_endOf_52 : decode cX3_endOf 52 = .ok (.if_icmp .le 7, 3) := dz_164 (n := 32) (r := 20) hz_X3_endOf_32 rfl (by decide +kernel)
theorem dX3_endOf_55 : decode cX3_endOf 55 = .ok (.iconst 1, 1) := dz_4 (n := 32) (r := 23) hz_X3_endOf_32 rfl
theorem dX3_endOf_56 : decode cX3_endOf 56 = .ok (.goto 4, 3) := dz_167 (n := 32) (r := 24) hz_X3_endOf_32 rfl (by decide +kernel)
theorem dX3_endOf_59 : decode cX3_endOf 59 = .ok (.iconst 0, 1) := dz_3 (n := 32) (r := 27) hz_X3_endOf_32 rfl
theorem dX3_endOf_60 : decode cX3_endOf 60 = .ok (.istore 7, 2) := dz_54 (n := 32) (r := 28) hz_X3_endOf_32 rfl rfl
theorem dX3_endOf_62 : decode cX3_endOf 62 = .ok (.iload 6, 2) := dz_21 (n := 32) (r := 30) hz_X3_endOf_32 rfl rfl
theorem hz_X3_endOf_64 : (cX3_endOf.data.toList.drop 64).take 40 = [4, 96, 26, 162, 0, 10, 21, 4, 4, 96, 167, 0, 16, 21, 7, 153, 0, 10, 21, 5, 26, 104, 167, 0, 4, 2, 172, 28, 5, 126, 153, 0, 12, 27, 5, 164, 0, 7, 4, 167] := by decide +kernel
theorem dX3_endOf_64 : decode cX3_endOf 64 = .ok (.iconst 1, 1) := dz_4 (n := 64) (r := 0) hz_X3_endOf_64 rfl
theorem dX3_endOf_65 : decode cX3_endOf 65 = .ok (.iadd, 1) := dz_96 (n := 64) (r := 1) hz_X3_endOf_64 rfl
theorem dX3_endOf_66 : decode cX3_endOf 66 = .ok (.iload_n 0, 1) := dz_26 (n := 64) (r := 2) hz_X3_endOf_64 rfl
theorem dX3_endOf_67 : decode cX3_endOf 67 = .ok (.if_icmp .ge 10, 3) := dz_162 (n := 64) (r := 3) hz_X3_endOf_64 rfl (by decide +kernel)
theorem dX3_endOf_70 : decode cX3_endOf 70 = .ok (.iload 4, 2) := dz_21 (n := 64) (r := 6) hz_X3_endOf_64 rfl rfl
theorem dX3_endOf_72 : decode cX3_endOf 72 = .ok (.iconst 1, 1) := dz_4 (n := 64) (r := 8) hz_X3_endOf_64 rfl
theorem dX3_endOf_73 : decode cX3_endOf 73 = .ok (.iadd, 1) := dz_96 (n := 64) (r := 9) hz_X3_endOf_64 rfl
theorem dX3_endOf_74 : decode cX3_endOf 74 = .ok (.goto 16, 3) := dz_167 (n := 64) (r := 10) hz_X3_endOf_64 rfl (by decide +kernel)
theorem dX3_endOf_77 : decode cX3_endOf 77 = .ok (.iload 7, 2) := dz_21 (n := 64) (r := 13) hz_X3_endOf_64 rfl rfl
theorem dX3_endOf_79 : decode cX3_endOf 79 = .ok (.ifCond .eq 10, 3) := dz_153 (n := 64) (r := 15) hz_X3_endOf_64 rfl (by decide +kernel)
theorem dX3_endOf_82 : decode cX3_endOf 82 = .ok (.iload 5, 2) := dz_21 (n := 64) (r := 18) hz_X3_endOf_64 rfl rfl
theorem dX3_endOf_84 : decode cX3_endOf 84 = .ok (.iload_n 0, 1) := dz_26 (n := 64) (r := 20) hz_X3_endOf_64 rfl
theorem dX3_endOf_85 : decode cX3_endOf 85 = .ok (.imul, 1) := dz_104 (n := 64) (r := 21) hz_X3_endOf_64 rfl
theorem dX3_endOf_86 : decode cX3_endOf 86 = .ok (.goto 4, 3) := dz_167 (n := 64) (r := 22) hz_X3_endOf_64 rfl (by decide +kernel)
theorem dX3_endOf_89 : decode cX3_endOf 89 = .ok (.iconst (-1), 1) := dz_2 (n := 64) (r := 25) hz_X3_endOf_64 rfl
theorem dX3_endOf_90 : decode cX3_endOf 90 = .ok (.ireturn, 1) := dz_172 (n := 64) (r := 26) hz_X3_endOf_64 rfl
theorem dX3_endOf_91 : decode cX3_endOf 91 = .ok (.iload_n 2, 1) := dz_28 (n := 64) (r := 27) hz_X3_endOf_64 rfl
theorem dX3_endOf_92 : decode cX3_endOf 92 = .ok (.iconst 2, 1) := dz_5 (n := 64) (r := 28) hz_X3_endOf_64 rfl
theorem dX3_endOf_93 : decode cX3_endOf 93 = .ok (.iand, 1) := dz_126 (n := 64) (r := 29) hz_X3_endOf_64 rfl
theorem dX3_endOf_94 : decode cX3_endOf 94 = .ok (.ifCond .eq 12, 3) := dz_153 (n := 64) (r := 30) hz_X3_endOf_64 rfl (by decide +kernel)
theorem hz_X3_endOf_96 : (cX3_endOf.data.toList.drop 96).take 40 = [12, 27, 5, 164, 0, 7, 4, 167, 0, 4, 3, 54, 7, 21, 5, 4, 96, 27, 162, 0, 10, 21, 4, 26, 96, 167, 0, 14, 21, 7, 153, 0, 8, 21, 6, 167, 0, 4, 2, 172] := by decide +kernel
theorem dX3_endOf_97 : decode cX3_endOf 97 = .ok (.iload_n 1, 1) := dz_27 (n := 96) (r := 1) hz_X3_endOf_96 rfl
theorem dX3_endOf_98 : decode cX3_endOf 98 = .ok (.iconst 2, 1) := dz_5 (n := 96) (r := 2) hz_X3_endOf_96 rfl
theorem dX3_endOf_99 : decode cX3_endOf 99 = .ok (.if_icmp .le 7, 3) := dz_164 (n := 96) (r := 3) hz_X3_endOf_96 rfl (by decide +kernel)
theorem dX3_endOf_102 : decode cX3_endOf 102 = .ok (.iconst 1, 1) := dz_4 (n := 96) (r := 6) hz_X3_endOf_96 rfl
theorem dX3_endOf_103 : decode cX3_endOf 103 = .ok (.goto 4, 3) := dz_167 (n := 96) (r := 7) hz_X3_endOf_96 rfl (by decide +kernel)
theorem dX3_endOf_106 : decode cX3_endOf 106 = .ok (.iconst 0, 1) := dz_3 (n := 96) (r := 10) hz_X3_endOf_96 rfl
theorem dX3_endOf_107 : decode cX3_endOf 107 = .ok (.istore 7, 2) := dz_54 (n := 96) (r := 11) hz_X3_endOf_96 rfl rfl
theorem dX3_endOf_109 : decode cX3_endOf 109 = .ok (.iload 5, 2) := dz_21 (n := 96) (r := 13) hz_X3_endOf_96 rfl rfl
theorem dX3_endOf_111 : decode cX3_endOf 111 = .ok (.iconst 1, 1) := dz_4 (n := 96) (r := 15) hz_X3_endOf_96 rfl
theorem dX3_endOf_112 : decode cX3_endOf 112 = .ok (.iadd, 1) := dz_96 (n := 96) (r := 16) hz_X3_endOf_96 rfl
theorem dX3_endOf_113 : decode cX3_endOf 113 = .ok (.iload_n 1, 1) := dz_27 (n := 96) (r := 17) hz_X3_endOf_96 rfl
theorem dX3_endOf_114 : decode cX3_endOf 114 = .ok (.if_icmp .ge 10, 3) := dz_162 (n := 96) (r := 18) hz_X3_endOf_96 rfl (by decide +kernel)
theorem dX3_endOf_117 : decode cX3_endOf 117 = .ok (.iload 4, 2) := dz_21 (n := 96) (r := 21) hz_X3_endOf_96 rfl rfl
theorem dX3_endOf_119 : decode cX3_endOf 119 = .ok (.iload_n 0, 1) := dz_26 (n := 96) (r := 23) hz_X3_endOf_96 rfl
theorem dX3_endOf_120 : decode cX3_endOf 120 = .ok (.iadd, 1) := dz_96 (n := 96) (r := 24) hz_X3_endOf_96 rfl
theorem dX3_endOf_121 : decode cX3_endOf 121 = .ok (.goto 14, 3) := dz_167 (n := 96) (r := 25) hz_X3_endOf_96 rfl (by decide +kernel)
theorem dX3_endOf_124 : decode cX3_endOf 124 = .ok (.iload 7, 2) := dz_21 (n := 96) (r := 28) hz_X3_endOf_96 rfl rfl
theorem dX3_endOf_126 : decode cX3_endOf 126 = .ok (.ifCond .eq 8, 3) := dz_153 (n := 96) (r := 30) hz_X3_endOf_96 rfl (by decide +kernel)
theorem hz_X3_endOf_128 : (cX3_endOf.data.toList.drop 128).take 40 = [8, 21, 6, 167, 0, 4, 2, 172] := by decide +kernel
theorem dX3_endOf_129 : decode cX3_endOf 129 = .ok (.iload 6, 2) := dz_21 (n := 128) (r := 1) hz_X3_endOf_128 rfl rfl
theorem dX3_endOf_131 : decode cX3_endOf 131 = .ok (.goto 4, 3) := dz_167 (n := 128) (r := 3) hz_X3_endOf_128 rfl (by decide +kernel)
theorem dX3_endOf_134 : decode cX3_endOf 134 = .ok (.iconst (-1), 1) := dz_2 (n := 128) (r := 6) hz_X3_endOf_128 rfl
theorem dX3_endOf_135 : decode cX3_endOf 135 = .ok (.ireturn, 1) := dz_172 (n := 128) (r := 7) hz_X3_endOf_128 rfl
theorem hz_X3_endAt_0 : (cX3_endAt.data.toList.drop 0).take 40 = [27, 155, 0, 21, 27, 42, 180, 0, 9, 190, 162, 0, 12, 42, 180, 0, 9, 27, 46, 167, 0, 4, 2, 172] := by decide +kernel
theorem dX3_endAt_0 : decode cX3_endAt 0 = .ok (.iload_n 1, 1) := dz_27 (n := 0) (r := 0) hz_X3_endAt_0 rfl
theorem dX3_endAt_1 : decode cX3_endAt 1 = .ok (.ifCond .lt 21, 3) := dz_155 (n := 0) (r := 1) hz_X3_endAt_0 rfl (by decide +kernel)
theorem dX3_endAt_4 : decode cX3_endAt 4 = .ok (.iload_n 1, 1) := dz_27 (n := 0) (r := 4) hz_X3_endAt_0 rfl
theorem dX3_endAt_5 : decode cX3_endAt 5 = .ok (.aload_n 0, 1) := dz_42 (n := 0) (r := 5) hz_X3_endAt_0 rfl
theorem dX3_endAt_6 : decode cX3_endAt 6 = .ok (.getfield 9, 3) := dz_180 (n := 0) (r := 6) hz_X3_endAt_0 rfl rfl
theorem dX3_endAt_9 : decode cX3_endAt 9 = .ok (.arraylength, 1) := dz_190 (n := 0) (r := 9) hz_X3_endAt_0 rfl
theorem dX3_endAt_10 : decode cX3_endAt 10 = .ok (.if_icmp .ge 12, 3) := dz_162 (n := 0) (r := 10) hz_X3_endAt_0 rfl (by decide +kernel)
theorem dX3_endAt_13 : decode cX3_endAt 13 = .ok (.aload_n 0, 1) := dz_42 (n := 0) (r := 13) hz_X3_endAt_0 rfl
theorem dX3_endAt_14 : decode cX3_endAt 14 = .ok (.getfield 9, 3) := dz_180 (n := 0) (r := 14) hz_X3_endAt_0 rfl rfl
theorem dX3_endAt_17 : decode cX3_endAt 17 = .ok (.iload_n 1, 1) := dz_27 (n := 0) (r := 17) hz_X3_endAt_0 rfl
theorem dX3_endAt_18 : decode cX3_endAt 18 = .ok (.iaload, 1) := dz_46 (n := 0) (r := 18) hz_X3_endAt_0 rfl
theorem dX3_endAt_19 : decode cX3_endAt 19 = .ok (.goto 4, 3) := dz_167 (n := 0) (r := 19) hz_X3_endAt_0 rfl (by decide +kernel)
theorem dX3_endAt_22 : decode cX3_endAt 22 = .ok (.iconst (-1), 1) := dz_2 (n := 0) (r := 22) hz_X3_endAt_0 rfl
theorem dX3_endAt_23 : decode cX3_endAt 23 = .ok (.ireturn, 1) := dz_172 (n := 0) (r := 23) hz_X3_endAt_0 rfl
theorem hz_X3_hasSite_0 : (cX3_hasSite.data.toList.drop 0).take 40 = [27, 155, 0, 15, 27, 42, 180, 0, 40, 162, 0, 7, 4, 167, 0, 4, 3, 172] := by decide +kernel
theorem dX3_hasSite_0 : decode cX3_hasSite 0 = .ok (.iload_n 1, 1) := dz_27 (n := 0) (r := 0) hz_X3_hasSite_0 rfl
theorem dX3_hasSite_1 : decode cX3_hasSite 1 = .ok (.ifCond .lt 15, 3) := dz_155 (n := 0) (r := 1) hz_X3_hasSite_0 rfl (by decide +kernel)
theorem dX3_hasSite_4 : decode cX3_hasSite 4 = .ok (.iload_n 1, 1) := dz_27 (n := 0) (r := 4) hz_X3_hasSite_0 rfl
theorem dX3_hasSite_5 : decode cX3_hasSite 5 = .ok (.aload_n 0, 1) := dz_42 (n := 0) (r := 5) hz_X3_hasSite_0 rfl
theorem dX3_hasSite_6 : decode cX3_hasSite 6 = .ok (.getfield 40, 3) := dz_180 (n := 0) (r := 6) hz_X3_hasSite_0 rfl rfl
theorem dX3_hasSite_9 : decode cX3_hasSite 9 = .ok (.if_icmp .ge 7, 3) := dz_162 (n := 0) (r := 9) hz_X3_hasSite_0 rfl (by decide +kernel)
theorem dX3_hasSite_12 : decode cX3_hasSite 12 = .ok (.iconst 1, 1) := dz_4 (n := 0) (r := 12) hz_X3_hasSite_0 rfl
theorem dX3_hasSite_13 : decode cX3_hasSite 13 = .ok (.goto 4, 3) := dz_167 (n := 0) (r := 13) hz_X3_hasSite_0 rfl (by decide +kernel)
theorem dX3_hasSite_16 : decode cX3_hasSite 16 = .ok (.iconst 0, 1) := dz_3 (n := 0) (r := 16) hz_X3_hasSite_0 rfl
theorem dX3_hasSite_17 : decode cX3_hasSite 17 = .ok (.ireturn, 1) := dz_172 (n := 0) (r := 17) hz_X3_hasSite_0 rfl
theorem hz_X3_states_0 : (cX3_states.data.toList.drop 0).take 40 = [42, 180, 0, 40, 158, 0, 12, 4, 42, 180, 0, 40, 120, 167, 0, 4, 3, 172] := by decide +kernel
theorem dX3_states_0 : decode cX3_states 0 = .ok (.aload_n 0, 1) := dz_42 (n := 0) (r := 0) hz_X3_states_0 rfl
theorem dX3_states_1 : decode cX3_states 1 = .ok (.getfield 40, 3) := dz_180 (n := 0) (r := 1) hz_X3_states_0 rfl rfl
theorem dX3_states_4 : decode cX3_states 4 = .ok (.ifCond .le 12, 3) := dz_158 (n := 0) (r := 4) hz_X3_states_0 rfl (by decide +kernel)
theorem dX3_states_7 : decode cX3_states 7 = .ok (.iconst 1, 1) := dz_4 (n := 0) (r := 7) hz_X3_states_0 rfl
theorem dX3_states_8 : decode cX3_states 8 = .ok (.aload_n 0, 1) := dz_42 (n := 0) (r := 8) hz_X3_states_0 rfl
theorem dX3_states_9 : decode cX3_states 9 = .ok (.getfield 40, 3) := dz_180 (n := 0) (r := 9) hz_X3_states_0 rfl rfl
theorem dX3_states_12 : decode cX3_states 12 = .ok (.ishl, 1) := dz_120 (n := 0) (r := 12) hz_X3_states_0 rfl
theorem dX3_states_13 : decode cX3_states 13 = .ok (.goto 4, 3) := dz_167 (n := 0) (r := 13) hz_X3_states_0 rfl (by decide +kernel)
theorem dX3_states_16 : decode cX3_states 16 = .ok (.iconst 0, 1) := dz_3 (n := 0) (r := 16) hz_X3_states_0 rfl
theorem dX3_states_17 : decode cX3_states 17 = .ok (.ireturn, 1) := dz_172 (n := 0) (r := 17) hz_X3_states_0 rfl
theorem hz_X3_rowOf_0 : (cX3_rowOf.data.toList.drop 0).take 40 = [42, 180, 0, 30, 158, 0, 12, 27, 42, 180, 0, 30, 108, 167, 0, 4, 3, 172] := by decide +kernel
theorem dX3_rowOf_0 : decode cX3_rowOf 0 = .ok (.aload_n 0, 1) := dz_42 (n := 0) (r := 0) hz_X3_rowOf_0 rfl
theorem dX3_rowOf_1 : decode cX3_rowOf 1 = .ok (.getfield 30, 3) := dz_180 (n := 0) (r := 1) hz_X3_rowOf_0 rfl rfl
theorem dX3_rowOf_4 : decode cX3_rowOf 4 = .ok (.ifCond .le 12, 3) := dz_158 (n := 0) (r := 4) hz_X3_rowOf_0 rfl (by decide +kernel)
theorem dX3_rowOf_7 : decode cX3_rowOf 7 = .ok (.iload_n 1, 1) := dz_27 (n := 0) (r := 7) hz_X3_rowOf_0 rfl
theorem dX3_rowOf_8 : decode cX3_rowOf 8 = .ok (.aload_n 0, 1) := dz_42 (n := 0) (r := 8) hz_X3_rowOf_0 rfl
theorem dX3_rowOf_9 : decode cX3_rowOf 9 = .ok (.getfield 30, 3) := dz_180 (n := 0) (r := 9) hz_X3_rowOf_0 rfl rfl
theorem dX3_rowOf_12 : decode cX3_rowOf 12 = .ok (.idiv, 1) := dz_108 (n := 0) (r := 12) hz_X3_rowOf_0 rfl
theorem dX3_rowOf_13 : decode cX3_rowOf 13 = .ok (.goto 4, 3) := dz_167 (n := 0) (r := 13) hz_X3_rowOf_0 rfl (by decide +kernel)
theorem dX3_rowOf_16 : decode cX3_rowOf 16 = .ok (.iconst 0, 1) := dz_3 (n := 0) (r := 16) hz_X3_rowOf_0 rfl
theorem dX3_rowOf_17 : decode cX3_rowOf 17 = .ok (.ireturn, 1) := dz_172 (n := 0) (r := 17) hz_X3_rowOf_0 rfl
theorem hz_X3_columnOf_0 : (cX3_columnOf.data.toList.drop 0).take 40 = [42, 180, 0, 30, 158, 0, 12, 27, 42, 180, 0, 30, 112, 167, 0, 4, 3, 172] := by decide +kernel
theorem dX3_columnOf_0 : decode cX3_columnOf 0 = .ok (.aload_n 0, 1) := dz_42 (n := 0) (r := 0) hz_X3_columnOf_0 rfl
theorem dX3_columnOf_1 : decode cX3_columnOf 1 = .ok (.getfield 30, 3) := dz_180 (n := 0) (r := 1) hz_X3_columnOf_0 rfl rfl
theorem dX3_columnOf_4 : decode cX3_columnOf 4 = .ok (.ifCond .le 12, 3) := dz_158 (n := 0) (r := 4) hz_X3_columnOf_0 rfl (by decide +kernel)
theorem dX3_columnOf_7 : decode cX3_columnOf 7 = .ok (.iload_n 1, 1) := dz_27 (n := 0) (r := 7) hz_X3_columnOf_0 rfl
theorem dX3_columnOf_8 : decode cX3_columnOf 8 = .ok (.aload_n 0, 1) := dz_42 (n := 0) (r := 8) hz_X3_columnOf_0 rfl
theorem dX3_columnOf_9 : decode cX3_columnOf 9 = .ok (.getfield 30, 3) := dz_180 (n := 0) (r := 9) hz_X3_columnOf_0 rfl rfl
theorem dX3_columnOf_12 : decode cX3_columnOf 12 = .ok (.irem, 1) := dz_112 (n := 0) (r := 12) hz_X3_columnOf_0 rfl
theorem dX3_columnOf_13 : decode cX3_columnOf 13 = .ok (.goto 4, 3) := dz_167 (n := 0) (r := 13) hz_X3_columnOf_0 rfl (by decide +kernel)
theorem dX3_columnOf_16 : decode cX3_columnOf 16 = .ok (.iconst 0, 1) := dz_3 (n := 0) (r := 16) hz_X3_columnOf_0 rfl
theorem dX3_columnOf_17 : decode cX3_columnOf 17 = .ok (.ireturn, 1) := dz_172 (n := 0) (r := 17) hz_X3_columnOf_0 rfl
theorem hz_X3_tiePlace_0 : (cX3_tiePlace.data.toList.drop 0).take 40 = [42, 27, 182, 0, 55, 154, 0, 5, 2, 172, 28, 153, 0, 10, 16, 16, 27, 96, 167, 0, 4, 27, 62, 42, 29, 182, 0, 59, 2, 160, 0, 7, 2, 167, 0, 4, 29, 172] := by decide +kernel
theorem dX3_tiePlace_0 : decode cX3_tiePlace 0 = .ok (.aload_n 0, 1) := dz_42 (n := 0) (r := 0) hz_X3_tiePlace_0 rfl
theorem dX3_tiePlace_1 : decode cX3_tiePlace 1 = .ok (.iload_n 1, 1) := dz_27 (n := 0) (r := 1) hz_X3_tiePlace_0 rfl
theorem dX3_tiePlace_2 : decode cX3_tiePlace 2 = .ok (.invokevirtual 55, 3) := dz_182 (n := 0) (r := 2) hz_X3_tiePlace_0 rfl rfl
theorem dX3_tiePlace_5 : decode cX3_tiePlace 5 = .ok (.ifCond .ne 5, 3) := dz_154 (n := 0) (r := 5) hz_X3_tiePlace_0 rfl (by decide +kernel)
theorem dX3_tiePlace_8 : decode cX3_tiePlace 8 = .ok (.iconst (-1), 1) := dz_2 (n := 0) (r := 8) hz_X3_tiePlace_0 rfl
theorem dX3_tiePlace_9 : decode cX3_tiePlace 9 = .ok (.ireturn, 1) := dz_172 (n := 0) (r := 9) hz_X3_tiePlace_0 rfl
theorem dX3_tiePlace_10 : decode cX3_tiePlace 10 = .ok (.iload_n 2, 1) := dz_28 (n := 0) (r := 10) hz_X3_tiePlace_0 rfl
theorem dX3_tiePlace_11 : decode cX3_tiePlace 11 = .ok (.ifCond .eq 10, 3) := dz_153 (n := 0) (r := 11) hz_X3_tiePlace_0 rfl (by decide +kernel)
theorem dX3_tiePlace_14 : decode cX3_tiePlace 14 = .ok (.bipush 16, 2) := dz_16 (n := 0) (r := 14) hz_X3_tiePlace_0 rfl rfl
theorem dX3_tiePlace_16 : decode cX3_tiePlace 16 = .ok (.iload_n 1, 1) := dz_27 (n := 0) (r := 16) hz_X3_tiePlace_0 rfl
theorem dX3_tiePlace_17 : decode cX3_tiePlace 17 = .ok (.iadd, 1) := dz_96 (n := 0) (r := 17) hz_X3_tiePlace_0 rfl
theorem dX3_tiePlace_18 : decode cX3_tiePlace 18 = .ok (.goto 4, 3) := dz_167 (n := 0) (r := 18) hz_X3_tiePlace_0 rfl (by decide +kernel)
theorem dX3_tiePlace_21 : decode cX3_tiePlace 21 = .ok (.iload_n 1, 1) := dz_27 (n := 0) (r := 21) hz_X3_tiePlace_0 rfl
theorem dX3_tiePlace_22 : decode cX3_tiePlace 22 = .ok (.istore_n 3, 1) := dz_62 (n := 0) (r := 22) hz_X3_tiePlace_0 rfl
theorem dX3_tiePlace_23 : decode cX3_tiePlace 23 = .ok (.aload_n 0, 1) := dz_42 (n := 0) (r := 23) hz_X3_tiePlace_0 rfl
theorem dX3_tiePlace_24 : decode cX3_tiePlace 24 = .ok (.iload_n 3, 1) := dz_29 (n := 0) (r := 24) hz_X3_tiePlace_0 rfl
theorem dX3_tiePlace_25 : decode cX3_tiePlace 25 = .ok (.invokevirtual 59, 3) := dz_182 (n := 0) (r := 25) hz_X3_tiePlace_0 rfl rfl
theorem dX3_tiePlace_28 : decode cX3_tiePlace 28 = .ok (.iconst (-1), 1) := dz_2 (n := 0) (r := 28) hz_X3_tiePlace_0 rfl
theorem dX3_tiePlace_29 : decode cX3_tiePlace 29 = .ok (.if_icmp .ne 7, 3) := dz_160 (n := 0) (r := 29) hz_X3_tiePlace_0 rfl (by decide +kernel)
theorem hz_X3_tiePlace_32 : (cX3_tiePlace.data.toList.drop 32).take 40 = [2, 167, 0, 4, 29, 172] := by decide +kernel
theorem dX3_tiePlace_32 : decode cX3_tiePlace 32 = .ok (.iconst (-1), 1) := dz_2 (n := 32) (r := 0) hz_X3_tiePlace_32 rfl
theorem dX3_tiePlace_33 : decode cX3_tiePlace 33 = .ok (.goto 4, 3) := dz_167 (n := 32) (r := 1) hz_X3_tiePlace_32 rfl (by decide +kernel)
theorem dX3_tiePlace_36 : decode cX3_tiePlace 36 = .ok (.iload_n 3, 1) := dz_29 (n := 32) (r := 4) hz_X3_tiePlace_32 rfl
theorem dX3_tiePlace_37 : decode cX3_tiePlace 37 = .ok (.ireturn, 1) := dz_172 (n := 32) (r := 5) hz_X3_tiePlace_32 rfl
theorem hz_X3_countTies_0 : (cX3_countTies.data.toList.drop 0).take 40 = [3, 60, 3, 61, 28, 16, 32, 162, 0, 21, 42, 28, 182, 0, 59, 2, 159, 0, 6, 132, 1, 1, 132, 2, 1, 167, 255, 235, 27, 172] := by decide +kernel
theorem dX3_countTies_0 : decode cX3_countTies 0 = .ok (.iconst 0, 1) := dz_3 (n := 0) (r := 0) hz_X3_countTies_0 rfl
theorem dX3_countTies_1 : decode cX3_countTies 1 = .ok (.istore_n 1, 1) := dz_60 (n := 0) (r := 1) hz_X3_countTies_0 rfl
theorem dX3_countTies_2 : decode cX3_countTies 2 = .ok (.iconst 0, 1) := dz_3 (n := 0) (r := 2) hz_X3_countTies_0 rfl
theorem dX3_countTies_3 : decode cX3_countTies 3 = .ok (.istore_n 2, 1) := dz_61 (n := 0) (r := 3) hz_X3_countTies_0 rfl
theorem dX3_countTies_4 : decode cX3_countTies 4 = .ok (.iload_n 2, 1) := dz_28 (n := 0) (r := 4) hz_X3_countTies_0 rfl
theorem dX3_countTies_5 : decode cX3_countTies 5 = .ok (.bipush 32, 2) := dz_16 (n := 0) (r := 5) hz_X3_countTies_0 rfl rfl
theorem dX3_countTies_7 : decode cX3_countTies 7 = .ok (.if_icmp .ge 21, 3) := dz_162 (n := 0) (r := 7) hz_X3_countTies_0 rfl (by decide +kernel)
theorem dX3_countTies_10 : decode cX3_countTies 10 = .ok (.aload_n 0, 1) := dz_42 (n := 0) (r := 10) hz_X3_countTies_0 rfl
theorem dX3_countTies_11 : decode cX3_countTies 11 = .ok (.iload_n 2, 1) := dz_28 (n := 0) (r := 11) hz_X3_countTies_0 rfl
theorem dX3_countTies_12 : decode cX3_countTies 12 = .ok (.invokevirtual 59, 3) := dz_182 (n := 0) (r := 12) hz_X3_countTies_0 rfl rfl
theorem dX3_countTies_15 : decode cX3_countTies 15 = .ok (.iconst (-1), 1) := dz_2 (n := 0) (r := 15) hz_X3_countTies_0 rfl
theorem dX3_countTies_16 : decode cX3_countTies 16 = .ok (.if_icmp .eq 6, 3) := dz_159 (n := 0) (r := 16) hz_X3_countTies_0 rfl (by decide +kernel)
theorem dX3_countTies_19 : decode cX3_countTies 19 = .ok (.iinc 1 1, 3) := dz_132 (n := 0) (r := 19) hz_X3_countTies_0 rfl rfl rfl
theorem dX3_countTies_22 : decode cX3_countTies 22 = .ok (.iinc 2 1, 3) := dz_132 (n := 0) (r := 22) hz_X3_countTies_0 rfl rfl rfl
theorem dX3_countTies_25 : decode cX3_countTies 25 = .ok (.goto (-21), 3) := dz_167 (n := 0) (r := 25) hz_X3_countTies_0 rfl (by decide +kernel)
theorem dX3_countTies_28 : decode cX3_countTies 28 = .ok (.iload_n 1, 1) := dz_27 (n := 0) (r := 28) hz_X3_countTies_0 rfl
theorem dX3_countTies_29 : decode cX3_countTies 29 = .ok (.ireturn, 1) := dz_172 (n := 0) (r := 29) hz_X3_countTies_0 rfl
theorem hz_X3_isAlike_0 : (cX3_isAlike.data.toList.drop 0).take 40 = [27, 28, 184, 0, 47, 184, 0, 62, 27, 42, 28, 182, 0, 59, 184, 0, 62, 160, 0, 7, 4, 167, 0, 4, 3, 172] := by decide +kernel
theorem dX3_isAlike_0 : decode cX3_isAlike 0 = .ok (.iload_n 1, 1) := dz_27 (n := 0) (r := 0) hz_X3_isAlike_0 rfl
theorem dX3_isAlike_1 : decode cX3_isAlike 1 = .ok (.iload_n 2, 1) := dz_28 (n := 0) (r := 1) hz_X3_isAlike_0 rfl
theorem dX3_isAlike_2 : decode cX3_isAlike 2 = .ok (.invokestatic 47, 3) := dz_184 (n := 0) (r := 2) hz_X3_isAlike_0 rfl rfl
theorem dX3_isAlike_5 : decode cX3_isAlike 5 = .ok (.invokestatic 62, 3) := dz_184 (n := 0) (r := 5) hz_X3_isAlike_0 rfl rfl
theorem dX3_isAlike_8 : decode cX3_isAlike 8 = .ok (.iload_n 1, 1) := dz_27 (n := 0) (r := 8) hz_X3_isAlike_0 rfl
theorem dX3_isAlike_9 : decode cX3_isAlike 9 = .ok (.aload_n 0, 1) := dz_42 (n := 0) (r := 9) hz_X3_isAlike_0 rfl
theorem dX3_isAlike_10 : decode cX3_isAlike 10 = .ok (.iload_n 2, 1) := dz_28 (n := 0) (r := 10) hz_X3_isAlike_0 rfl
theorem dX3_isAlike_11 : decode cX3_isAlike 11 = .ok (.invokevirtual 59, 3) := dz_182 (n := 0) (r := 11) hz_X3_isAlike_0 rfl rfl
theorem dX3_isAlike_14 : decode cX3_isAlike 14 = .ok (.invokestatic 62, 3) := dz_184 (n := 0) (r := 14) hz_X3_isAlike_0 rfl rfl
theorem dX3_isAlike_17 : decode cX3_isAlike 17 = .ok (.if_icmp .ne 7, 3) := dz_160 (n := 0) (r := 17) hz_X3_isAlike_0 rfl (by decide +kernel)
theorem dX3_isAlike_20 : decode cX3_isAlike 20 = .ok (.iconst 1, 1) := dz_4 (n := 0) (r := 20) hz_X3_isAlike_0 rfl
theorem dX3_isAlike_21 : decode cX3_isAlike 21 = .ok (.goto 4, 3) := dz_167 (n := 0) (r := 21) hz_X3_isAlike_0 rfl (by decide +kernel)
theorem dX3_isAlike_24 : decode cX3_isAlike 24 = .ok (.iconst 0, 1) := dz_3 (n := 0) (r := 24) hz_X3_isAlike_0 rfl
theorem dX3_isAlike_25 : decode cX3_isAlike 25 = .ok (.ireturn, 1) := dz_172 (n := 0) (r := 25) hz_X3_isAlike_0 rfl
theorem hz_X3_energyOf_0 : (cX3_energyOf.data.toList.drop 0).take 40 = [3, 62, 3, 54, 4, 21, 4, 16, 32, 162, 0, 48, 42, 21, 4, 182, 0, 59, 2, 159, 0, 32, 29, 42, 28, 21, 4, 182, 0, 66, 153, 0, 13, 43, 21, 4, 182, 0, 70, 116] := by decide +kernel
theorem dX3_energyOf_0 : decode cX3_energyOf 0 = .ok (.iconst 0, 1) := dz_3 (n := 0) (r := 0) hz_X3_energyOf_0 rfl
theorem dX3_energyOf_1 : decode cX3_energyOf 1 = .ok (.istore_n 3, 1) := dz_62 (n := 0) (r := 1) hz_X3_energyOf_0 rfl
theorem dX3_energyOf_2 : decode cX3_energyOf 2 = .ok (.iconst 0, 1) := dz_3 (n := 0) (r := 2) hz_X3_energyOf_0 rfl
theorem dX3_energyOf_3 : decode cX3_energyOf 3 = .ok (.istore 4, 2) := dz_54 (n := 0) (r := 3) hz_X3_energyOf_0 rfl rfl
theorem dX3_energyOf_5 : decode cX3_energyOf 5 = .ok (.iload 4, 2) := dz_21 (n := 0) (r := 5) hz_X3_energyOf_0 rfl rfl
theorem dX3_energyOf_7 : decode cX3_energyOf 7 = .ok (.bipush 32, 2) := dz_16 (n := 0) (r := 7) hz_X3_energyOf_0 rfl rfl
theorem dX3_energyOf_9 : decode cX3_energyOf 9 = .ok (.if_icmp .ge 48, 3) := dz_162 (n := 0) (r := 9) hz_X3_energyOf_0 rfl (by decide +kernel)
theorem dX3_energyOf_12 : decode cX3_energyOf 12 = .ok (.aload_n 0, 1) := dz_42 (n := 0) (r := 12) hz_X3_energyOf_0 rfl
theorem dX3_energyOf_13 : decode cX3_energyOf 13 = .ok (.iload 4, 2) := dz_21 (n := 0) (r := 13) hz_X3_energyOf_0 rfl rfl
theorem dX3_energyOf_15 : decode cX3_energyOf 15 = .ok (.invokevirtual 59, 3) := dz_182 (n := 0) (r := 15) hz_X3_energyOf_0 rfl rfl
theorem dX3_energyOf_18 : decode cX3_energyOf 18 = .ok (.iconst (-1), 1) := dz_2 (n := 0) (r := 18) hz_X3_energyOf_0 rfl
theorem dX3_energyOf_19 : decode cX3_energyOf 19 = .ok (.if_icmp .eq 32, 3) := dz_159 (n := 0) (r := 19) hz_X3_energyOf_0 rfl (by decide +kernel)
theorem dX3_energyOf_22 : decode cX3_energyOf 22 = .ok (.iload_n 3, 1) := dz_29 (n := 0) (r := 22) hz_X3_energyOf_0 rfl
theorem dX3_energyOf_23 : decode cX3_energyOf 23 = .ok (.aload_n 0, 1) := dz_42 (n := 0) (r := 23) hz_X3_energyOf_0 rfl
theorem dX3_energyOf_24 : decode cX3_energyOf 24 = .ok (.iload_n 2, 1) := dz_28 (n := 0) (r := 24) hz_X3_energyOf_0 rfl
theorem dX3_energyOf_25 : decode cX3_energyOf 25 = .ok (.iload 4, 2) := dz_21 (n := 0) (r := 25) hz_X3_energyOf_0 rfl rfl
theorem dX3_energyOf_27 : decode cX3_energyOf 27 = .ok (.invokevirtual 66, 3) := dz_182 (n := 0) (r := 27) hz_X3_energyOf_0 rfl rfl
theorem dX3_energyOf_30 : decode cX3_energyOf 30 = .ok (.ifCond .eq 13, 3) := dz_153 (n := 0) (r := 30) hz_X3_energyOf_0 rfl (by decide +kernel)
theorem hz_X3_energyOf_32 : (cX3_energyOf.data.toList.drop 32).take 40 = [13, 43, 21, 4, 182, 0, 70, 116, 167, 0, 9, 43, 21, 4, 182, 0, 70, 96, 62, 132, 4, 1, 167, 255, 207, 3, 54, 4, 21, 4, 42, 180, 0, 40, 162, 0, 38, 29, 28, 21] := by decide +kernel
theorem dX3_energyOf_33 : decode cX3_energyOf 33 = .ok (.aload_n 1, 1) := dz_43 (n := 32) (r := 1) hz_X3_energyOf_32 rfl
theorem dX3_energyOf_34 : decode cX3_energyOf 34 = .ok (.iload 4, 2) := dz_21 (n := 32) (r := 2) hz_X3_energyOf_32 rfl rfl
theorem dX3_energyOf_36 : decode cX3_energyOf 36 = .ok (.invokevirtual 70, 3) := dz_182 (n := 32) (r := 4) hz_X3_energyOf_32 rfl rfl
theorem dX3_energyOf_39 : decode cX3_energyOf 39 = .ok (.ineg, 1) := dz_116 (n := 32) (r := 7) hz_X3_energyOf_32 rfl
theorem dX3_energyOf_40 : decode cX3_energyOf 40 = .ok (.goto 9, 3) := dz_167 (n := 32) (r := 8) hz_X3_energyOf_32 rfl (by decide +kernel)
theorem dX3_energyOf_43 : decode cX3_energyOf 43 = .ok (.aload_n 1, 1) := dz_43 (n := 32) (r := 11) hz_X3_energyOf_32 rfl
theorem dX3_energyOf_44 : decode cX3_energyOf 44 = .ok (.iload 4, 2) := dz_21 (n := 32) (r := 12) hz_X3_energyOf_32 rfl rfl
theorem dX3_energyOf_46 : decode cX3_energyOf 46 = .ok (.invokevirtual 70, 3) := dz_182 (n := 32) (r := 14) hz_X3_energyOf_32 rfl rfl
theorem dX3_energyOf_49 : decode cX3_energyOf 49 = .ok (.iadd, 1) := dz_96 (n := 32) (r := 17) hz_X3_energyOf_32 rfl
theorem dX3_energyOf_50 : decode cX3_energyOf 50 = .ok (.istore_n 3, 1) := dz_62 (n := 32) (r := 18) hz_X3_energyOf_32 rfl
theorem dX3_energyOf_51 : decode cX3_energyOf 51 = .ok (.iinc 4 1, 3) := dz_132 (n := 32) (r := 19) hz_X3_energyOf_32 rfl rfl rfl
theorem dX3_energyOf_54 : decode cX3_energyOf 54 = .ok (.goto (-49), 3) := dz_167 (n := 32) (r := 22) hz_X3_energyOf_32 rfl (by decide +kernel)
theorem dX3_energyOf_57 : decode cX3_energyOf 57 = .ok (.iconst 0, 1) := dz_3 (n := 32) (r := 25) hz_X3_energyOf_32 rfl
theorem dX3_energyOf_58 : decode cX3_energyOf 58 = .ok (.istore 4, 2) := dz_54 (n := 32) (r := 26) hz_X3_energyOf_32 rfl rfl
theorem dX3_energyOf_60 : decode cX3_energyOf 60 = .ok (.iload 4, 2) := dz_21 (n := 32) (r := 28) hz_X3_energyOf_32 rfl rfl
theorem dX3_energyOf_62 : decode cX3_energyOf 62 = .ok (.aload_n 0, 1) := dz_42 (n := 32) (r := 30) hz_X3_energyOf_32 rfl
theorem dX3_energyOf_63 : decode cX3_energyOf 63 = .ok (.getfield 40, 3) := dz_180 (n := 32) (r := 31) hz_X3_energyOf_32 rfl rfl
theorem hz_X3_energyOf_64 : (cX3_energyOf.data.toList.drop 64).take 40 = [0, 40, 162, 0, 38, 29, 28, 21, 4, 184, 0, 62, 4, 160, 0, 13, 43, 21, 4, 182, 0, 75, 116, 167, 0, 9, 43, 21, 4, 182, 0, 75, 96, 62, 132, 4, 1, 167, 255, 215] := by decide +kernel
theorem dX3_energyOf_66 : decode cX3_energyOf 66 = .ok (.if_icmp .ge 38, 3) := dz_162 (n := 64) (r := 2) hz_X3_energyOf_64 rfl (by decide +kernel)
theorem dX3_energyOf_69 : decode cX3_energyOf 69 = .ok (.iload_n 3, 1) := dz_29 (n := 64) (r := 5) hz_X3_energyOf_64 rfl
theorem dX3_energyOf_70 : decode cX3_energyOf 70 = .ok (.iload_n 2, 1) := dz_28 (n := 64) (r := 6) hz_X3_energyOf_64 rfl
theorem dX3_energyOf_71 : decode cX3_energyOf 71 = .ok (.iload 4, 2) := dz_21 (n := 64) (r := 7) hz_X3_energyOf_64 rfl rfl
theorem dX3_energyOf_73 : decode cX3_energyOf 73 = .ok (.invokestatic 62, 3) := dz_184 (n := 64) (r := 9) hz_X3_energyOf_64 rfl rfl
theorem dX3_energyOf_76 : decode cX3_energyOf 76 = .ok (.iconst 1, 1) := dz_4 (n := 64) (r := 12) hz_X3_energyOf_64 rfl
theorem dX3_energyOf_77 : decode cX3_energyOf 77 = .ok (.if_icmp .ne 13, 3) := dz_160 (n := 64) (r := 13) hz_X3_energyOf_64 rfl (by decide +kernel)
theorem dX3_energyOf_80 : decode cX3_energyOf 80 = .ok (.aload_n 1, 1) := dz_43 (n := 64) (r := 16) hz_X3_energyOf_64 rfl
theorem dX3_energyOf_81 : decode cX3_energyOf 81 = .ok (.iload 4, 2) := dz_21 (n := 64) (r := 17) hz_X3_energyOf_64 rfl rfl
theorem dX3_energyOf_83 : decode cX3_energyOf 83 = .ok (.invokevirtual 75, 3) := dz_182 (n := 64) (r := 19) hz_X3_energyOf_64 rfl rfl
theorem dX3_energyOf_86 : decode cX3_energyOf 86 = .ok (.ineg, 1) := dz_116 (n := 64) (r := 22) hz_X3_energyOf_64 rfl
theorem dX3_energyOf_87 : decode cX3_energyOf 87 = .ok (.goto 9, 3) := dz_167 (n := 64) (r := 23) hz_X3_energyOf_64 rfl (by decide +kernel)
theorem dX3_energyOf_90 : decode cX3_energyOf 90 = .ok (.aload_n 1, 1) := dz_43 (n := 64) (r := 26) hz_X3_energyOf_64 rfl
theorem dX3_energyOf_91 : decode cX3_energyOf 91 = .ok (.iload 4, 2) := dz_21 (n := 64) (r := 27) hz_X3_energyOf_64 rfl rfl
theorem dX3_energyOf_93 : decode cX3_energyOf 93 = .ok (.invokevirtual 75, 3) := dz_182 (n := 64) (r := 29) hz_X3_energyOf_64 rfl rfl
theorem hz_X3_energyOf_96 : (cX3_energyOf.data.toList.drop 96).take 40 = [96, 62, 132, 4, 1, 167, 255, 215, 29, 172] := by decide +kernel
theorem dX3_energyOf_96 : decode cX3_energyOf 96 = .ok (.iadd, 1) := dz_96 (n := 96) (r := 0) hz_X3_energyOf_96 rfl
theorem dX3_energyOf_97 : decode cX3_energyOf 97 = .ok (.istore_n 3, 1) := dz_62 (n := 96) (r := 1) hz_X3_energyOf_96 rfl
theorem dX3_energyOf_98 : decode cX3_energyOf 98 = .ok (.iinc 4 1, 3) := dz_132 (n := 96) (r := 2) hz_X3_energyOf_96 rfl rfl rfl
theorem dX3_energyOf_101 : decode cX3_energyOf 101 = .ok (.goto (-41), 3) := dz_167 (n := 96) (r := 5) hz_X3_energyOf_96 rfl (by decide +kernel)
theorem dX3_energyOf_104 : decode cX3_energyOf 104 = .ok (.iload_n 3, 1) := dz_29 (n := 96) (r := 8) hz_X3_energyOf_96 rfl
theorem dX3_energyOf_105 : decode cX3_energyOf 105 = .ok (.ireturn, 1) := dz_172 (n := 96) (r := 9) hz_X3_energyOf_96 rfl
theorem hz_X3_brokenOf_0 : (cX3_brokenOf.data.toList.drop 0).take 40 = [3, 62, 3, 54, 4, 21, 4, 16, 32, 162, 0, 55, 43, 21, 4, 182, 0, 70, 54, 5, 42, 21, 4, 182, 0, 59, 2, 159, 0, 31, 21, 5, 153, 0, 26, 42, 28, 21, 4, 182] := by decide +kernel
theorem dX3_brokenOf_0 : decode cX3_brokenOf 0 = .ok (.iconst 0, 1) := dz_3 (n := 0) (r := 0) hz_X3_brokenOf_0 rfl
theorem dX3_brokenOf_1 : decode cX3_brokenOf 1 = .ok (.istore_n 3, 1) := dz_62 (n := 0) (r := 1) hz_X3_brokenOf_0 rfl
theorem dX3_brokenOf_2 : decode cX3_brokenOf 2 = .ok (.iconst 0, 1) := dz_3 (n := 0) (r := 2) hz_X3_brokenOf_0 rfl
theorem dX3_brokenOf_3 : decode cX3_brokenOf 3 = .ok (.istore 4, 2) := dz_54 (n := 0) (r := 3) hz_X3_brokenOf_0 rfl rfl
theorem dX3_brokenOf_5 : decode cX3_brokenOf 5 = .ok (.iload 4, 2) := dz_21 (n := 0) (r := 5) hz_X3_brokenOf_0 rfl rfl
theorem dX3_brokenOf_7 : decode cX3_brokenOf 7 = .ok (.bipush 32, 2) := dz_16 (n := 0) (r := 7) hz_X3_brokenOf_0 rfl rfl
theorem dX3_brokenOf_9 : decode cX3_brokenOf 9 = .ok (.if_icmp .ge 55, 3) := dz_162 (n := 0) (r := 9) hz_X3_brokenOf_0 rfl (by decide +kernel)
theorem dX3_brokenOf_12 : decode cX3_brokenOf 12 = .ok (.aload_n 1, 1) := dz_43 (n := 0) (r := 12) hz_X3_brokenOf_0 rfl
theorem dX3_brokenOf_13 : decode cX3_brokenOf 13 = .ok (.iload 4, 2) := dz_21 (n := 0) (r := 13) hz_X3_brokenOf_0 rfl rfl
theorem dX3_brokenOf_15 : decode cX3_brokenOf 15 = .ok (.invokevirtual 70, 3) := dz_182 (n := 0) (r := 15) hz_X3_brokenOf_0 rfl rfl
theorem dX3_brokenOf_18 : decode cX3_brokenOf 18 = .ok (.istore 5, 2) := dz_54 (n := 0) (r := 18) hz_X3_brokenOf_0 rfl rfl
theorem dX3_brokenOf_20 : decode cX3_brokenOf 20 = .ok (.aload_n 0, 1) := dz_42 (n := 0) (r := 20) hz_X3_brokenOf_0 rfl
theorem dX3_brokenOf_21 : decode cX3_brokenOf 21 = .ok (.iload 4, 2) := dz_21 (n := 0) (r := 21) hz_X3_brokenOf_0 rfl rfl
theorem dX3_brokenOf_23 : decode cX3_brokenOf 23 = .ok (.invokevirtual 59, 3) := dz_182 (n := 0) (r := 23) hz_X3_brokenOf_0 rfl rfl
theorem dX3_brokenOf_26 : decode cX3_brokenOf 26 = .ok (.iconst (-1), 1) := dz_2 (n := 0) (r := 26) hz_X3_brokenOf_0 rfl
theorem dX3_brokenOf_27 : decode cX3_brokenOf 27 = .ok (.if_icmp .eq 31, 3) := dz_159 (n := 0) (r := 27) hz_X3_brokenOf_0 rfl (by decide +kernel)
theorem dX3_brokenOf_30 : decode cX3_brokenOf 30 = .ok (.iload 5, 2) := dz_21 (n := 0) (r := 30) hz_X3_brokenOf_0 rfl rfl
theorem hz_X3_brokenOf_32 : (cX3_brokenOf.data.toList.drop 32).take 40 = [153, 0, 26, 42, 28, 21, 4, 182, 0, 66, 21, 5, 156, 0, 7, 4, 167, 0, 4, 3, 160, 0, 6, 132, 3, 1, 132, 4, 1, 167, 255, 200, 29, 172] := by decide +kernel
theorem dX3_brokenOf_32 : decode cX3_brokenOf 32 = .ok (.ifCond .eq 26, 3) := dz_153 (n := 32) (r := 0) hz_X3_brokenOf_32 rfl (by decide +kernel)
theorem dX3_brokenOf_35 : decode cX3_brokenOf 35 = .ok (.aload_n 0, 1) := dz_42 (n := 32) (r := 3) hz_X3_brokenOf_32 rfl
theorem dX3_brokenOf_36 : decode cX3_brokenOf 36 = .ok (.iload_n 2, 1) := dz_28 (n := 32) (r := 4) hz_X3_brokenOf_32 rfl
theorem dX3_brokenOf_37 : decode cX3_brokenOf 37 = .ok (.iload 4, 2) := dz_21 (n := 32) (r := 5) hz_X3_brokenOf_32 rfl rfl
theorem dX3_brokenOf_39 : decode cX3_brokenOf 39 = .ok (.invokevirtual 66, 3) := dz_182 (n := 32) (r := 7) hz_X3_brokenOf_32 rfl rfl
theorem dX3_brokenOf_42 : decode cX3_brokenOf 42 = .ok (.iload 5, 2) := dz_21 (n := 32) (r := 10) hz_X3_brokenOf_32 rfl rfl
theorem dX3_brokenOf_44 : decode cX3_brokenOf 44 = .ok (.ifCond .ge 7, 3) := dz_156 (n := 32) (r := 12) hz_X3_brokenOf_32 rfl (by decide +kernel)
theorem dX3_brokenOf_47 : decode cX3_brokenOf 47 = .ok (.iconst 1, 1) := dz_4 (n := 32) (r := 15) hz_X3_brokenOf_32 rfl
theorem dX3_brokenOf_48 : decode cX3_brokenOf 48 = .ok (.goto 4, 3) := dz_167 (n := 32) (r := 16) hz_X3_brokenOf_32 rfl (by decide +kernel)
theorem dX3_brokenOf_51 : decode cX3_brokenOf 51 = .ok (.iconst 0, 1) := dz_3 (n := 32) (r := 19) hz_X3_brokenOf_32 rfl
theorem dX3_brokenOf_52 : decode cX3_brokenOf 52 = .ok (.if_icmp .ne 6, 3) := dz_160 (n := 32) (r := 20) hz_X3_brokenOf_32 rfl (by decide +kernel)
theorem dX3_brokenOf_55 : decode cX3_brokenOf 55 = .ok (.iinc 3 1, 3) := dz_132 (n := 32) (r := 23) hz_X3_brokenOf_32 rfl rfl rfl
theorem dX3_brokenOf_58 : decode cX3_brokenOf 58 = .ok (.iinc 4 1, 3) := dz_132 (n := 32) (r := 26) hz_X3_brokenOf_32 rfl rfl rfl
theorem dX3_brokenOf_61 : decode cX3_brokenOf 61 = .ok (.goto (-56), 3) := dz_167 (n := 32) (r := 29) hz_X3_brokenOf_32 rfl (by decide +kernel)
theorem hz_X3_brokenOf_64 : (cX3_brokenOf.data.toList.drop 64).take 40 = [29, 172] := by decide +kernel
theorem dX3_brokenOf_64 : decode cX3_brokenOf 64 = .ok (.iload_n 3, 1) := dz_29 (n := 64) (r := 0) hz_X3_brokenOf_64 rfl
theorem dX3_brokenOf_65 : decode cX3_brokenOf 65 = .ok (.ireturn, 1) := dz_172 (n := 64) (r := 1) hz_X3_brokenOf_64 rfl
theorem hz_X3_costOfTurn_0 : (cX3_costOfTurn.data.toList.drop 0).take 40 = [29, 155, 0, 9, 29, 16, 16, 161, 0, 5, 3, 172, 43, 29, 182, 0, 75, 54, 4, 7, 29, 104, 54, 5, 21, 5, 54, 6, 21, 6, 21, 5, 42, 180, 0, 21, 29, 46, 96, 162] := by decide +kernel
theorem dX3_costOfTurn_0 : decode cX3_costOfTurn 0 = .ok (.iload_n 3, 1) := dz_29 (n := 0) (r := 0) hz_X3_costOfTurn_0 rfl
theorem dX3_costOfTurn_1 : decode cX3_costOfTurn 1 = .ok (.ifCond .lt 9, 3) := dz_155 (n := 0) (r := 1) hz_X3_costOfTurn_0 rfl (by decide +kernel)
theorem dX3_costOfTurn_4 : decode cX3_costOfTurn 4 = .ok (.iload_n 3, 1) := dz_29 (n := 0) (r := 4) hz_X3_costOfTurn_0 rfl
theorem dX3_costOfTurn_5 : decode cX3_costOfTurn 5 = .ok (.bipush 16, 2) := dz_16 (n := 0) (r := 5) hz_X3_costOfTurn_0 rfl rfl
theorem dX3_costOfTurn_7 : decode cX3_costOfTurn 7 = .ok (.if_icmp .lt 5, 3) := dz_161 (n := 0) (r := 7) hz_X3_costOfTurn_0 rfl (by decide +kernel)
theorem dX3_costOfTurn_10 : decode cX3_costOfTurn 10 = .ok (.iconst 0, 1) := dz_3 (n := 0) (r := 10) hz_X3_costOfTurn_0 rfl
theorem dX3_costOfTurn_11 : decode cX3_costOfTurn 11 = .ok (.ireturn, 1) := dz_172 (n := 0) (r := 11) hz_X3_costOfTurn_0 rfl
theorem dX3_costOfTurn_12 : decode cX3_costOfTurn 12 = .ok (.aload_n 1, 1) := dz_43 (n := 0) (r := 12) hz_X3_costOfTurn_0 rfl
theorem dX3_costOfTurn_13 : decode cX3_costOfTurn 13 = .ok (.iload_n 3, 1) := dz_29 (n := 0) (r := 13) hz_X3_costOfTurn_0 rfl
theorem dX3_costOfTurn_14 : decode cX3_costOfTurn 14 = .ok (.invokevirtual 75, 3) := dz_182 (n := 0) (r := 14) hz_X3_costOfTurn_0 rfl rfl
theorem dX3_costOfTurn_17 : decode cX3_costOfTurn 17 = .ok (.istore 4, 2) := dz_54 (n := 0) (r := 17) hz_X3_costOfTurn_0 rfl rfl
theorem dX3_costOfTurn_19 : decode cX3_costOfTurn 19 = .ok (.iconst 4, 1) := dz_7 (n := 0) (r := 19) hz_X3_costOfTurn_0 rfl
theorem dX3_costOfTurn_20 : decode cX3_costOfTurn 20 = .ok (.iload_n 3, 1) := dz_29 (n := 0) (r := 20) hz_X3_costOfTurn_0 rfl
theorem dX3_costOfTurn_21 : decode cX3_costOfTurn 21 = .ok (.imul, 1) := dz_104 (n := 0) (r := 21) hz_X3_costOfTurn_0 rfl
theorem dX3_costOfTurn_22 : decode cX3_costOfTurn 22 = .ok (.istore 5, 2) := dz_54 (n := 0) (r := 22) hz_X3_costOfTurn_0 rfl rfl
theorem dX3_costOfTurn_24 : decode cX3_costOfTurn 24 = .ok (.iload 5, 2) := dz_21 (n := 0) (r := 24) hz_X3_costOfTurn_0 rfl rfl
theorem dX3_costOfTurn_26 : decode cX3_costOfTurn 26 = .ok (.istore 6, 2) := dz_54 (n := 0) (r := 26) hz_X3_costOfTurn_0 rfl rfl
theorem dX3_costOfTurn_28 : decode cX3_costOfTurn 28 = .ok (.iload 6, 2) := dz_21 (n := 0) (r := 28) hz_X3_costOfTurn_0 rfl rfl
theorem dX3_costOfTurn_30 : decode cX3_costOfTurn 30 = .ok (.iload 5, 2) := dz_21 (n := 0) (r := 30) hz_X3_costOfTurn_0 rfl rfl
theorem hz_X3_costOfTurn_32 : (cX3_costOfTurn.data.toList.drop 32).take 40 = [42, 180, 0, 21, 29, 46, 96, 162, 0, 60, 21, 6, 42, 180, 0, 15, 190, 162, 0, 50, 43, 42, 180, 0, 18, 21, 6, 46, 182, 0, 70, 54, 7, 21, 4, 28, 42, 180, 0, 15] := by decide +kernel
theorem dX3_costOfTurn_32 : decode cX3_costOfTurn 32 = .ok (.aload_n 0, 1) := dz_42 (n := 32) (r := 0) hz_X3_costOfTurn_32 rfl
theorem dX3_costOfTurn_33 : decode cX3_costOfTurn 33 = .ok (.getfield 21, 3) := dz_180 (n := 32) (r := 1) hz_X3_costOfTurn_32 rfl rfl
theorem dX3_costOfTurn_36 : decode cX3_costOfTurn 36 = .ok (.iload_n 3, 1) := dz_29 (n := 32) (r := 4) hz_X3_costOfTurn_32 rfl
theorem dX3_costOfTurn_37 : decode cX3_costOfTurn 37 = .ok (.iaload, 1) := dz_46 (n := 32) (r := 5) hz_X3_costOfTurn_32 rfl
theorem dX3_costOfTurn_38 : decode cX3_costOfTurn 38 = .ok (.iadd, 1) := dz_96 (n := 32) (r := 6) hz_X3_costOfTurn_32 rfl
theorem dX3_costOfTurn_39 : decode cX3_costOfTurn 39 = .ok (.if_icmp .ge 60, 3) := dz_162 (n := 32) (r := 7) hz_X3_costOfTurn_32 rfl (by decide +kernel)
theorem dX3_costOfTurn_42 : decode cX3_costOfTurn 42 = .ok (.iload 6, 2) := dz_21 (n := 32) (r := 10) hz_X3_costOfTurn_32 rfl rfl
theorem dX3_costOfTurn_44 : decode cX3_costOfTurn 44 = .ok (.aload_n 0, 1) := dz_42 (n := 32) (r := 12) hz_X3_costOfTurn_32 rfl
theorem dX3_costOfTurn_45 : decode cX3_costOfTurn 45 = .ok (.getfield 15, 3) := dz_180 (n := 32) (r := 13) hz_X3_costOfTurn_32 rfl rfl
theorem dX3_costOfTurn_48 : decode cX3_costOfTurn 48 = .ok (.arraylength, 1) := dz_190 (n := 32) (r := 16) hz_X3_costOfTurn_32 rfl
theorem dX3_costOfTurn_49 : decode cX3_costOfTurn 49 = .ok (.if_icmp .ge 50, 3) := dz_162 (n := 32) (r := 17) hz_X3_costOfTurn_32 rfl (by decide +kernel)
theorem dX3_costOfTurn_52 : decode cX3_costOfTurn 52 = .ok (.aload_n 1, 1) := dz_43 (n := 32) (r := 20) hz_X3_costOfTurn_32 rfl
theorem dX3_costOfTurn_53 : decode cX3_costOfTurn 53 = .ok (.aload_n 0, 1) := dz_42 (n := 32) (r := 21) hz_X3_costOfTurn_32 rfl
theorem dX3_costOfTurn_54 : decode cX3_costOfTurn 54 = .ok (.getfield 18, 3) := dz_180 (n := 32) (r := 22) hz_X3_costOfTurn_32 rfl rfl
theorem dX3_costOfTurn_57 : decode cX3_costOfTurn 57 = .ok (.iload 6, 2) := dz_21 (n := 32) (r := 25) hz_X3_costOfTurn_32 rfl rfl
theorem dX3_costOfTurn_59 : decode cX3_costOfTurn 59 = .ok (.iaload, 1) := dz_46 (n := 32) (r := 27) hz_X3_costOfTurn_32 rfl
theorem dX3_costOfTurn_60 : decode cX3_costOfTurn 60 = .ok (.invokevirtual 70, 3) := dz_182 (n := 32) (r := 28) hz_X3_costOfTurn_32 rfl rfl
theorem dX3_costOfTurn_63 : decode cX3_costOfTurn 63 = .ok (.istore 7, 2) := dz_54 (n := 32) (r := 31) hz_X3_costOfTurn_32 rfl rfl
theorem hz_X3_costOfTurn_64 : (cX3_costOfTurn.data.toList.drop 64).take 40 = [7, 21, 4, 28, 42, 180, 0, 15, 21, 6, 46, 184, 0, 62, 4, 160, 0, 8, 21, 7, 167, 0, 6, 21, 7, 116, 96, 54, 4, 132, 6, 1, 167, 255, 188, 28, 29, 184, 0, 62] := by decide +kernel
theorem dX3_costOfTurn_65 : decode cX3_costOfTurn 65 = .ok (.iload 4, 2) := dz_21 (n := 64) (r := 1) hz_X3_costOfTurn_64 rfl rfl
theorem dX3_costOfTurn_67 : decode cX3_costOfTurn 67 = .ok (.iload_n 2, 1) := dz_28 (n := 64) (r := 3) hz_X3_costOfTurn_64 rfl
theorem dX3_costOfTurn_68 : decode cX3_costOfTurn 68 = .ok (.aload_n 0, 1) := dz_42 (n := 64) (r := 4) hz_X3_costOfTurn_64 rfl
theorem dX3_costOfTurn_69 : decode cX3_costOfTurn 69 = .ok (.getfield 15, 3) := dz_180 (n := 64) (r := 5) hz_X3_costOfTurn_64 rfl rfl
theorem dX3_costOfTurn_72 : decode cX3_costOfTurn 72 = .ok (.iload 6, 2) := dz_21 (n := 64) (r := 8) hz_X3_costOfTurn_64 rfl rfl
theorem dX3_costOfTurn_74 : decode cX3_costOfTurn 74 = .ok (.iaload, 1) := dz_46 (n := 64) (r := 10) hz_X3_costOfTurn_64 rfl
theorem dX3_costOfTurn_75 : decode cX3_costOfTurn 75 = .ok (.invokestatic 62, 3) := dz_184 (n := 64) (r := 11) hz_X3_costOfTurn_64 rfl rfl
theorem dX3_costOfTurn_78 : decode cX3_costOfTurn 78 = .ok (.iconst 1, 1) := dz_4 (n := 64) (r := 14) hz_X3_costOfTurn_64 rfl
theorem dX3_costOfTurn_79 : decode cX3_costOfTurn 79 = .ok (.if_icmp .ne 8, 3) := dz_160 (n := 64) (r := 15) hz_X3_costOfTurn_64 rfl (by decide +kernel)
theorem dX3_costOfTurn_82 : decode cX3_costOfTurn 82 = .ok (.iload 7, 2) := dz_21 (n := 64) (r := 18) hz_X3_costOfTurn_64 rfl rfl
theorem dX3_costOfTurn_84 : decode cX3_costOfTurn 84 = .ok (.goto 6, 3) := dz_167 (n := 64) (r := 20) hz_X3_costOfTurn_64 rfl (by decide +kernel)
theorem dX3_costOfTurn_87 : decode cX3_costOfTurn 87 = .ok (.iload 7, 2) := dz_21 (n := 64) (r := 23) hz_X3_costOfTurn_64 rfl rfl
theorem dX3_costOfTurn_89 : decode cX3_costOfTurn 89 = .ok (.ineg, 1) := dz_116 (n := 64) (r := 25) hz_X3_costOfTurn_64 rfl
theorem dX3_costOfTurn_90 : decode cX3_costOfTurn 90 = .ok (.iadd, 1) := dz_96 (n := 64) (r := 26) hz_X3_costOfTurn_64 rfl
theorem dX3_costOfTurn_91 : decode cX3_costOfTurn 91 = .ok (.istore 4, 2) := dz_54 (n := 64) (r := 27) hz_X3_costOfTurn_64 rfl rfl
theorem dX3_costOfTurn_93 : decode cX3_costOfTurn 93 = .ok (.iinc 6 1, 3) := dz_132 (n := 64) (r := 29) hz_X3_costOfTurn_64 rfl rfl rfl
theorem hz_X3_costOfTurn_96 : (cX3_costOfTurn.data.toList.drop 96).take 40 = [167, 255, 188, 28, 29, 184, 0, 62, 4, 160, 0, 10, 5, 21, 4, 104, 167, 0, 8, 16, 254, 21, 4, 104, 172] := by decide +kernel
theorem dX3_costOfTurn_96 : decode cX3_costOfTurn 96 = .ok (.goto (-68), 3) := dz_167 (n := 96) (r := 0) hz_X3_costOfTurn_96 rfl (by decide +kernel)
theorem dX3_costOfTurn_99 : decode cX3_costOfTurn 99 = .ok (.iload_n 2, 1) := dz_28 (n := 96) (r := 3) hz_X3_costOfTurn_96 rfl
theorem dX3_costOfTurn_100 : decode cX3_costOfTurn 100 = .ok (.iload_n 3, 1) := dz_29 (n := 96) (r := 4) hz_X3_costOfTurn_96 rfl
theorem dX3_costOfTurn_101 : decode cX3_costOfTurn 101 = .ok (.invokestatic 62, 3) := dz_184 (n := 96) (r := 5) hz_X3_costOfTurn_96 rfl rfl
theorem dX3_costOfTurn_104 : decode cX3_costOfTurn 104 = .ok (.iconst 1, 1) := dz_4 (n := 96) (r := 8) hz_X3_costOfTurn_96 rfl
theorem dX3_costOfTurn_105 : decode cX3_costOfTurn 105 = .ok (.if_icmp .ne 10, 3) := dz_160 (n := 96) (r := 9) hz_X3_costOfTurn_96 rfl (by decide +kernel)
theorem dX3_costOfTurn_108 : decode cX3_costOfTurn 108 = .ok (.iconst 2, 1) := dz_5 (n := 96) (r := 12) hz_X3_costOfTurn_96 rfl
theorem dX3_costOfTurn_109 : decode cX3_costOfTurn 109 = .ok (.iload 4, 2) := dz_21 (n := 96) (r := 13) hz_X3_costOfTurn_96 rfl rfl
theorem dX3_costOfTurn_111 : decode cX3_costOfTurn 111 = .ok (.imul, 1) := dz_104 (n := 96) (r := 15) hz_X3_costOfTurn_96 rfl
theorem dX3_costOfTurn_112 : decode cX3_costOfTurn 112 = .ok (.goto 8, 3) := dz_167 (n := 96) (r := 16) hz_X3_costOfTurn_96 rfl (by decide +kernel)
theorem dX3_costOfTurn_115 : decode cX3_costOfTurn 115 = .ok (.bipush (-2), 2) := dz_16 (n := 96) (r := 19) hz_X3_costOfTurn_96 rfl rfl
theorem dX3_costOfTurn_117 : decode cX3_costOfTurn 117 = .ok (.iload 4, 2) := dz_21 (n := 96) (r := 21) hz_X3_costOfTurn_96 rfl rfl
theorem dX3_costOfTurn_119 : decode cX3_costOfTurn 119 = .ok (.imul, 1) := dz_104 (n := 96) (r := 23) hz_X3_costOfTurn_96 rfl
theorem dX3_costOfTurn_120 : decode cX3_costOfTurn 120 = .ok (.ireturn, 1) := dz_172 (n := 96) (r := 24) hz_X3_costOfTurn_96 rfl
theorem hz_X3_steepest_0 : (cX3_steepest.data.toList.drop 0).take 40 = [2, 62, 3, 54, 4, 3, 54, 5, 21, 5, 42, 180, 0, 40, 162, 0, 42, 42, 43, 28, 21, 5, 182, 0, 78, 54, 6, 21, 6, 21, 4, 162, 0, 19, 43, 21, 5, 182, 0, 82] := by decide +kernel
theorem dX3_steepest_0 : decode cX3_steepest 0 = .ok (.iconst (-1), 1) := dz_2 (n := 0) (r := 0) hz_X3_steepest_0 rfl
theorem dX3_steepest_1 : decode cX3_steepest 1 = .ok (.istore_n 3, 1) := dz_62 (n := 0) (r := 1) hz_X3_steepest_0 rfl
theorem dX3_steepest_2 : decode cX3_steepest 2 = .ok (.iconst 0, 1) := dz_3 (n := 0) (r := 2) hz_X3_steepest_0 rfl
theorem dX3_steepest_3 : decode cX3_steepest 3 = .ok (.istore 4, 2) := dz_54 (n := 0) (r := 3) hz_X3_steepest_0 rfl rfl
theorem dX3_steepest_5 : decode cX3_steepest 5 = .ok (.iconst 0, 1) := dz_3 (n := 0) (r := 5) hz_X3_steepest_0 rfl
theorem dX3_steepest_6 : decode cX3_steepest 6 = .ok (.istore 5, 2) := dz_54 (n := 0) (r := 6) hz_X3_steepest_0 rfl rfl
theorem dX3_steepest_8 : decode cX3_steepest 8 = .ok (.iload 5, 2) := dz_21 (n := 0) (r := 8) hz_X3_steepest_0 rfl rfl
theorem dX3_steepest_10 : decode cX3_steepest 10 = .ok (.aload_n 0, 1) := dz_42 (n := 0) (r := 10) hz_X3_steepest_0 rfl
theorem dX3_steepest_11 : decode cX3_steepest 11 = .ok (.getfield 40, 3) := dz_180 (n := 0) (r := 11) hz_X3_steepest_0 rfl rfl
theorem dX3_steepest_14 : decode cX3_steepest 14 = .ok (.if_icmp .ge 42, 3) := dz_162 (n := 0) (r := 14) hz_X3_steepest_0 rfl (by decide +kernel)
theorem dX3_steepest_17 : decode cX3_steepest 17 = .ok (.aload_n 0, 1) := dz_42 (n := 0) (r := 17) hz_X3_steepest_0 rfl
theorem dX3_steepest_18 : decode cX3_steepest 18 = .ok (.aload_n 1, 1) := dz_43 (n := 0) (r := 18) hz_X3_steepest_0 rfl
theorem dX3_steepest_19 : decode cX3_steepest 19 = .ok (.iload_n 2, 1) := dz_28 (n := 0) (r := 19) hz_X3_steepest_0 rfl
theorem dX3_steepest_20 : decode cX3_steepest 20 = .ok (.iload 5, 2) := dz_21 (n := 0) (r := 20) hz_X3_steepest_0 rfl rfl
theorem dX3_steepest_22 : decode cX3_steepest 22 = .ok (.invokevirtual 78, 3) := dz_182 (n := 0) (r := 22) hz_X3_steepest_0 rfl rfl
theorem dX3_steepest_25 : decode cX3_steepest 25 = .ok (.istore 6, 2) := dz_54 (n := 0) (r := 25) hz_X3_steepest_0 rfl rfl
theorem dX3_steepest_27 : decode cX3_steepest 27 = .ok (.iload 6, 2) := dz_21 (n := 0) (r := 27) hz_X3_steepest_0 rfl rfl
theorem dX3_steepest_29 : decode cX3_steepest 29 = .ok (.iload 4, 2) := dz_21 (n := 0) (r := 29) hz_X3_steepest_0 rfl rfl
theorem dX3_steepest_31 : decode cX3_steepest 31 = .ok (.if_icmp .ge 19, 3) := dz_162 (n := 0) (r := 31) hz_X3_steepest_0 rfl (by decide +kernel)
theorem hz_X3_steepest_32 : (cX3_steepest.data.toList.drop 32).take 40 = [0, 19, 43, 21, 5, 182, 0, 82, 154, 0, 10, 21, 6, 54, 4, 21, 5, 62, 132, 5, 1, 167, 255, 211, 29, 172] := by decide +kernel
theorem dX3_steepest_34 : decode cX3_steepest 34 = .ok (.aload_n 1, 1) := dz_43 (n := 32) (r := 2) hz_X3_steepest_32 rfl
theorem dX3_steepest_35 : decode cX3_steepest 35 = .ok (.iload 5, 2) := dz_21 (n := 32) (r := 3) hz_X3_steepest_32 rfl rfl
theorem dX3_steepest_37 : decode cX3_steepest 37 = .ok (.invokevirtual 82, 3) := dz_182 (n := 32) (r := 5) hz_X3_steepest_32 rfl rfl
theorem dX3_steepest_40 : decode cX3_steepest 40 = .ok (.ifCond .ne 10, 3) := dz_154 (n := 32) (r := 8) hz_X3_steepest_32 rfl (by decide +kernel)
theorem dX3_steepest_43 : decode cX3_steepest 43 = .ok (.iload 6, 2) := dz_21 (n := 32) (r := 11) hz_X3_steepest_32 rfl rfl
theorem dX3_steepest_45 : decode cX3_steepest 45 = .ok (.istore 4, 2) := dz_54 (n := 32) (r := 13) hz_X3_steepest_32 rfl rfl
theorem dX3_steepest_47 : decode cX3_steepest 47 = .ok (.iload 5, 2) := dz_21 (n := 32) (r := 15) hz_X3_steepest_32 rfl rfl
theorem dX3_steepest_49 : decode cX3_steepest 49 = .ok (.istore_n 3, 1) := dz_62 (n := 32) (r := 17) hz_X3_steepest_32 rfl
theorem dX3_steepest_50 : decode cX3_steepest 50 = .ok (.iinc 5 1, 3) := dz_132 (n := 32) (r := 18) hz_X3_steepest_32 rfl rfl rfl
theorem dX3_steepest_53 : decode cX3_steepest 53 = .ok (.goto (-45), 3) := dz_167 (n := 32) (r := 21) hz_X3_steepest_32 rfl (by decide +kernel)
theorem dX3_steepest_56 : decode cX3_steepest 56 = .ok (.iload_n 3, 1) := dz_29 (n := 32) (r := 24) hz_X3_steepest_32 rfl
theorem dX3_steepest_57 : decode cX3_steepest 57 = .ok (.ireturn, 1) := dz_172 (n := 32) (r := 25) hz_X3_steepest_32 rfl
theorem hz_X3_squareOf_0 : (cX3_squareOf.data.toList.drop 0).take 40 = [42, 28, 182, 0, 59, 62, 42, 16, 16, 28, 96, 182, 0, 59, 54, 4, 29, 2, 159, 0, 9, 21, 4, 2, 160, 0, 6, 16, 254, 172, 43, 28, 182, 0, 70, 43, 16, 16, 28, 96] := by decide +kernel
theorem dX3_squareOf_0 : decode cX3_squareOf 0 = .ok (.aload_n 0, 1) := dz_42 (n := 0) (r := 0) hz_X3_squareOf_0 rfl
theorem dX3_squareOf_1 : decode cX3_squareOf 1 = .ok (.iload_n 2, 1) := dz_28 (n := 0) (r := 1) hz_X3_squareOf_0 rfl
theorem dX3_squareOf_2 : decode cX3_squareOf 2 = .ok (.invokevirtual 59, 3) := dz_182 (n := 0) (r := 2) hz_X3_squareOf_0 rfl rfl
theorem dX3_squareOf_5 : decode cX3_squareOf 5 = .ok (.istore_n 3, 1) := dz_62 (n := 0) (r := 5) hz_X3_squareOf_0 rfl
theorem dX3_squareOf_6 : decode cX3_squareOf 6 = .ok (.aload_n 0, 1) := dz_42 (n := 0) (r := 6) hz_X3_squareOf_0 rfl
theorem dX3_squareOf_7 : decode cX3_squareOf 7 = .ok (.bipush 16, 2) := dz_16 (n := 0) (r := 7) hz_X3_squareOf_0 rfl rfl
theorem dX3_squareOf_9 : decode cX3_squareOf 9 = .ok (.iload_n 2, 1) := dz_28 (n := 0) (r := 9) hz_X3_squareOf_0 rfl
theorem dX3_squareOf_10 : decode cX3_squareOf 10 = .ok (.iadd, 1) := dz_96 (n := 0) (r := 10) hz_X3_squareOf_0 rfl
theorem dX3_squareOf_11 : decode cX3_squareOf 11 = .ok (.invokevirtual 59, 3) := dz_182 (n := 0) (r := 11) hz_X3_squareOf_0 rfl rfl
theorem dX3_squareOf_14 : decode cX3_squareOf 14 = .ok (.istore 4, 2) := dz_54 (n := 0) (r := 14) hz_X3_squareOf_0 rfl rfl
theorem dX3_squareOf_16 : decode cX3_squareOf 16 = .ok (.iload_n 3, 1) := dz_29 (n := 0) (r := 16) hz_X3_squareOf_0 rfl
theorem dX3_squareOf_17 : decode cX3_squareOf 17 = .ok (.iconst (-1), 1) := dz_2 (n := 0) (r := 17) hz_X3_squareOf_0 rfl
theorem dX3_squareOf_18 : decode cX3_squareOf 18 = .ok (.if_icmp .eq 9, 3) := dz_159 (n := 0) (r := 18) hz_X3_squareOf_0 rfl (by decide +kernel)
theorem dX3_squareOf_21 : decode cX3_squareOf 21 = .ok (.iload 4, 2) := dz_21 (n := 0) (r := 21) hz_X3_squareOf_0 rfl rfl
theorem dX3_squareOf_23 : decode cX3_squareOf 23 = .ok (.iconst (-1), 1) := dz_2 (n := 0) (r := 23) hz_X3_squareOf_0 rfl
theorem dX3_squareOf_24 : decode cX3_squareOf 24 = .ok (.if_icmp .ne 6, 3) := dz_160 (n := 0) (r := 24) hz_X3_squareOf_0 rfl (by decide +kernel)
theorem dX3_squareOf_27 : decode cX3_squareOf 27 = .ok (.bipush (-2), 2) := dz_16 (n := 0) (r := 27) hz_X3_squareOf_0 rfl rfl
theorem dX3_squareOf_29 : decode cX3_squareOf 29 = .ok (.ireturn, 1) := dz_172 (n := 0) (r := 29) hz_X3_squareOf_0 rfl
theorem dX3_squareOf_30 : decode cX3_squareOf 30 = .ok (.aload_n 1, 1) := dz_43 (n := 0) (r := 30) hz_X3_squareOf_0 rfl
theorem dX3_squareOf_31 : decode cX3_squareOf 31 = .ok (.iload_n 2, 1) := dz_28 (n := 0) (r := 31) hz_X3_squareOf_0 rfl
theorem hz_X3_squareOf_32 : (cX3_squareOf.data.toList.drop 32).take 40 = [182, 0, 70, 43, 16, 16, 28, 96, 182, 0, 70, 104, 43, 16, 16, 29, 96, 182, 0, 70, 104, 43, 21, 4, 182, 0, 70, 104, 54, 5, 21, 5, 156, 0, 7, 4, 167, 0, 4, 3] := by decide +kernel
theorem dX3_squareOf_32 : decode cX3_squareOf 32 = .ok (.invokevirtual 70, 3) := dz_182 (n := 32) (r := 0) hz_X3_squareOf_32 rfl rfl
theorem dX3_squareOf_35 : decode cX3_squareOf 35 = .ok (.aload_n 1, 1) := dz_43 (n := 32) (r := 3) hz_X3_squareOf_32 rfl
theorem dX3_squareOf_36 : decode cX3_squareOf 36 = .ok (.bipush 16, 2) := dz_16 (n := 32) (r := 4) hz_X3_squareOf_32 rfl rfl
theorem dX3_squareOf_38 : decode cX3_squareOf 38 = .ok (.iload_n 2, 1) := dz_28 (n := 32) (r := 6) hz_X3_squareOf_32 rfl
theorem dX3_squareOf_39 : decode cX3_squareOf 39 = .ok (.iadd, 1) := dz_96 (n := 32) (r := 7) hz_X3_squareOf_32 rfl
theorem dX3_squareOf_40 : decode cX3_squareOf 40 = .ok (.invokevirtual 70, 3) := dz_182 (n := 32) (r := 8) hz_X3_squareOf_32 rfl rfl
theorem dX3_squareOf_43 : decode cX3_squareOf 43 = .ok (.imul, 1) := dz_104 (n := 32) (r := 11) hz_X3_squareOf_32 rfl
theorem dX3_squareOf_44 : decode cX3_squareOf 44 = .ok (.aload_n 1, 1) := dz_43 (n := 32) (r := 12) hz_X3_squareOf_32 rfl
theorem dX3_squareOf_45 : decode cX3_squareOf 45 = .ok (.bipush 16, 2) := dz_16 (n := 32) (r := 13) hz_X3_squareOf_32 rfl rfl
theorem dX3_squareOf_47 : decode cX3_squareOf 47 = .ok (.iload_n 3, 1) := dz_29 (n := 32) (r := 15) hz_X3_squareOf_32 rfl
theorem dX3_squareOf_48 : decode cX3_squareOf 48 = .ok (.iadd, 1) := dz_96 (n := 32) (r := 16) hz_X3_squareOf_32 rfl
theorem dX3_squareOf_49 : decode cX3_squareOf 49 = .ok (.invokevirtual 70, 3) := dz_182 (n := 32) (r := 17) hz_X3_squareOf_32 rfl rfl
theorem dX3_squareOf_52 : decode cX3_squareOf 52 = .ok (.imul, 1) := dz_104 (n := 32) (r := 20) hz_X3_squareOf_32 rfl
theorem dX3_squareOf_53 : decode cX3_squareOf 53 = .ok (.aload_n 1, 1) := dz_43 (n := 32) (r := 21) hz_X3_squareOf_32 rfl
theorem dX3_squareOf_54 : decode cX3_squareOf 54 = .ok (.iload 4, 2) := dz_21 (n := 32) (r := 22) hz_X3_squareOf_32 rfl rfl
theorem dX3_squareOf_56 : decode cX3_squareOf 56 = .ok (.invokevirtual 70, 3) := dz_182 (n := 32) (r := 24) hz_X3_squareOf_32 rfl rfl
theorem dX3_squareOf_59 : decode cX3_squareOf 59 = .ok (.imul, 1) := dz_104 (n := 32) (r := 27) hz_X3_squareOf_32 rfl
theorem dX3_squareOf_60 : decode cX3_squareOf 60 = .ok (.istore 5, 2) := dz_54 (n := 32) (r := 28) hz_X3_squareOf_32 rfl rfl
theorem dX3_squareOf_62 : decode cX3_squareOf 62 = .ok (.iload 5, 2) := dz_21 (n := 32) (r := 30) hz_X3_squareOf_32 rfl rfl
theorem hz_X3_squareOf_64 : (cX3_squareOf.data.toList.drop 64).take 40 = [156, 0, 7, 4, 167, 0, 4, 3, 172] := by decide +kernel
theorem dX3_squareOf_64 : decode cX3_squareOf 64 = .ok (.ifCond .ge 7, 3) := dz_156 (n := 64) (r := 0) hz_X3_squareOf_64 rfl (by decide +kernel)
theorem dX3_squareOf_67 : decode cX3_squareOf 67 = .ok (.iconst 1, 1) := dz_4 (n := 64) (r := 3) hz_X3_squareOf_64 rfl
theorem dX3_squareOf_68 : decode cX3_squareOf 68 = .ok (.goto 4, 3) := dz_167 (n := 64) (r := 4) hz_X3_squareOf_64 rfl (by decide +kernel)
theorem dX3_squareOf_71 : decode cX3_squareOf 71 = .ok (.iconst 0, 1) := dz_3 (n := 64) (r := 7) hz_X3_squareOf_64 rfl
theorem dX3_squareOf_72 : decode cX3_squareOf 72 = .ok (.ireturn, 1) := dz_172 (n := 64) (r := 8) hz_X3_squareOf_64 rfl
theorem hz_X3_countOddSquares_0 : (cX3_countOddSquares.data.toList.drop 0).take 40 = [3, 61, 3, 62, 29, 42, 180, 0, 40, 162, 0, 22, 42, 43, 29, 182, 0, 85, 4, 160, 0, 6, 132, 2, 1, 132, 3, 1, 167, 255, 232, 28, 172] := by decide +kernel
theorem dX3_countOddSquares_0 : decode cX3_countOddSquares 0 = .ok (.iconst 0, 1) := dz_3 (n := 0) (r := 0) hz_X3_countOddSquares_0 rfl
theorem dX3_countOddSquares_1 : decode cX3_countOddSquares 1 = .ok (.istore_n 2, 1) := dz_61 (n := 0) (r := 1) hz_X3_countOddSquares_0 rfl
theorem dX3_countOddSquares_2 : decode cX3_countOddSquares 2 = .ok (.iconst 0, 1) := dz_3 (n := 0) (r := 2) hz_X3_countOddSquares_0 rfl
theorem dX3_countOddSquares_3 : decode cX3_countOddSquares 3 = .ok (.istore_n 3, 1) := dz_62 (n := 0) (r := 3) hz_X3_countOddSquares_0 rfl
theorem dX3_countOddSquares_4 : decode cX3_countOddSquares 4 = .ok (.iload_n 3, 1) := dz_29 (n := 0) (r := 4) hz_X3_countOddSquares_0 rfl
theorem dX3_countOddSquares_5 : decode cX3_countOddSquares 5 = .ok (.aload_n 0, 1) := dz_42 (n := 0) (r := 5) hz_X3_countOddSquares_0 rfl
theorem dX3_countOddSquares_6 : decode cX3_countOddSquares 6 = .ok (.getfield 40, 3) := dz_180 (n := 0) (r := 6) hz_X3_countOddSquares_0 rfl rfl
theorem dX3_countOddSquares_9 : decode cX3_countOddSquares 9 = .ok (.if_icmp .ge 22, 3) := dz_162 (n := 0) (r := 9) hz_X3_countOddSquares_0 rfl (by decide +kernel)
theorem dX3_countOddSquares_12 : decode cX3_countOddSquares 12 = .ok (.aload_n 0, 1) := dz_42 (n := 0) (r := 12) hz_X3_countOddSquares_0 rfl
theorem dX3_countOddSquares_13 : decode cX3_countOddSquares 13 = .ok (.aload_n 1, 1) := dz_43 (n := 0) (r := 13) hz_X3_countOddSquares_0 rfl
theorem dX3_countOddSquares_14 : decode cX3_countOddSquares 14 = .ok (.iload_n 3, 1) := dz_29 (n := 0) (r := 14) hz_X3_countOddSquares_0 rfl
theorem dX3_countOddSquares_15 : decode cX3_countOddSquares 15 = .ok (.invokevirtual 85, 3) := dz_182 (n := 0) (r := 15) hz_X3_countOddSquares_0 rfl rfl
theorem dX3_countOddSquares_18 : decode cX3_countOddSquares 18 = .ok (.iconst 1, 1) := dz_4 (n := 0) (r := 18) hz_X3_countOddSquares_0 rfl
theorem dX3_countOddSquares_19 : decode cX3_countOddSquares 19 = .ok (.if_icmp .ne 6, 3) := dz_160 (n := 0) (r := 19) hz_X3_countOddSquares_0 rfl (by decide +kernel)
theorem dX3_countOddSquares_22 : decode cX3_countOddSquares 22 = .ok (.iinc 2 1, 3) := dz_132 (n := 0) (r := 22) hz_X3_countOddSquares_0 rfl rfl rfl
theorem dX3_countOddSquares_25 : decode cX3_countOddSquares 25 = .ok (.iinc 3 1, 3) := dz_132 (n := 0) (r := 25) hz_X3_countOddSquares_0 rfl rfl rfl
theorem dX3_countOddSquares_28 : decode cX3_countOddSquares 28 = .ok (.goto (-24), 3) := dz_167 (n := 0) (r := 28) hz_X3_countOddSquares_0 rfl (by decide +kernel)
theorem dX3_countOddSquares_31 : decode cX3_countOddSquares 31 = .ok (.iload_n 2, 1) := dz_28 (n := 0) (r := 31) hz_X3_countOddSquares_0 rfl
theorem hz_X3_countOddSquares_32 : (cX3_countOddSquares.data.toList.drop 32).take 40 = [172] := by decide +kernel
theorem dX3_countOddSquares_32 : decode cX3_countOddSquares 32 = .ok (.ireturn, 1) := dz_172 (n := 32) (r := 0) hz_X3_countOddSquares_32 rfl
theorem hz_X3_clusterOf_0 : (cX3_clusterOf.data.toList.drop 0).take 40 = [4, 28, 120, 62, 3, 54, 4, 3, 54, 5, 21, 5, 16, 16, 162, 0, 25, 29, 21, 4, 159, 0, 19, 29, 54, 4, 42, 27, 29, 182, 0, 89, 62, 132, 5, 1, 167, 255, 230, 29] := by decide +kernel
theorem dX3_clusterOf_0 : decode cX3_clusterOf 0 = .ok (.iconst 1, 1) := dz_4 (n := 0) (r := 0) hz_X3_clusterOf_0 rfl
theorem dX3_clusterOf_1 : decode cX3_clusterOf 1 = .ok (.iload_n 2, 1) := dz_28 (n := 0) (r := 1) hz_X3_clusterOf_0 rfl
theorem dX3_clusterOf_2 : decode cX3_clusterOf 2 = .ok (.ishl, 1) := dz_120 (n := 0) (r := 2) hz_X3_clusterOf_0 rfl
theorem dX3_clusterOf_3 : decode cX3_clusterOf 3 = .ok (.istore_n 3, 1) := dz_62 (n := 0) (r := 3) hz_X3_clusterOf_0 rfl
theorem dX3_clusterOf_4 : decode cX3_clusterOf 4 = .ok (.iconst 0, 1) := dz_3 (n := 0) (r := 4) hz_X3_clusterOf_0 rfl
theorem dX3_clusterOf_5 : decode cX3_clusterOf 5 = .ok (.istore 4, 2) := dz_54 (n := 0) (r := 5) hz_X3_clusterOf_0 rfl rfl
theorem dX3_clusterOf_7 : decode cX3_clusterOf 7 = .ok (.iconst 0, 1) := dz_3 (n := 0) (r := 7) hz_X3_clusterOf_0 rfl
theorem dX3_clusterOf_8 : decode cX3_clusterOf 8 = .ok (.istore 5, 2) := dz_54 (n := 0) (r := 8) hz_X3_clusterOf_0 rfl rfl
theorem dX3_clusterOf_10 : decode cX3_clusterOf 10 = .ok (.iload 5, 2) := dz_21 (n := 0) (r := 10) hz_X3_clusterOf_0 rfl rfl
theorem dX3_clusterOf_12 : decode cX3_clusterOf 12 = .ok (.bipush 16, 2) := dz_16 (n := 0) (r := 12) hz_X3_clusterOf_0 rfl rfl
theorem dX3_clusterOf_14 : decode cX3_clusterOf 14 = .ok (.if_icmp .ge 25, 3) := dz_162 (n := 0) (r := 14) hz_X3_clusterOf_0 rfl (by decide +kernel)
theorem dX3_clusterOf_17 : decode cX3_clusterOf 17 = .ok (.iload_n 3, 1) := dz_29 (n := 0) (r := 17) hz_X3_clusterOf_0 rfl
theorem dX3_clusterOf_18 : decode cX3_clusterOf 18 = .ok (.iload 4, 2) := dz_21 (n := 0) (r := 18) hz_X3_clusterOf_0 rfl rfl
theorem dX3_clusterOf_20 : decode cX3_clusterOf 20 = .ok (.if_icmp .eq 19, 3) := dz_159 (n := 0) (r := 20) hz_X3_clusterOf_0 rfl (by decide +kernel)
theorem dX3_clusterOf_23 : decode cX3_clusterOf 23 = .ok (.iload_n 3, 1) := dz_29 (n := 0) (r := 23) hz_X3_clusterOf_0 rfl
theorem dX3_clusterOf_24 : decode cX3_clusterOf 24 = .ok (.istore 4, 2) := dz_54 (n := 0) (r := 24) hz_X3_clusterOf_0 rfl rfl
theorem dX3_clusterOf_26 : decode cX3_clusterOf 26 = .ok (.aload_n 0, 1) := dz_42 (n := 0) (r := 26) hz_X3_clusterOf_0 rfl
theorem dX3_clusterOf_27 : decode cX3_clusterOf 27 = .ok (.iload_n 1, 1) := dz_27 (n := 0) (r := 27) hz_X3_clusterOf_0 rfl
theorem dX3_clusterOf_28 : decode cX3_clusterOf 28 = .ok (.iload_n 3, 1) := dz_29 (n := 0) (r := 28) hz_X3_clusterOf_0 rfl
theorem dX3_clusterOf_29 : decode cX3_clusterOf 29 = .ok (.invokevirtual 89, 3) := dz_182 (n := 0) (r := 29) hz_X3_clusterOf_0 rfl rfl
theorem hz_X3_clusterOf_32 : (cX3_clusterOf.data.toList.drop 32).take 40 = [62, 132, 5, 1, 167, 255, 230, 29, 172] := by decide +kernel
theorem dX3_clusterOf_32 : decode cX3_clusterOf 32 = .ok (.istore_n 3, 1) := dz_62 (n := 32) (r := 0) hz_X3_clusterOf_32 rfl
theorem dX3_clusterOf_33 : decode cX3_clusterOf 33 = .ok (.iinc 5 1, 3) := dz_132 (n := 32) (r := 1) hz_X3_clusterOf_32 rfl rfl rfl
theorem dX3_clusterOf_36 : decode cX3_clusterOf 36 = .ok (.goto (-26), 3) := dz_167 (n := 32) (r := 4) hz_X3_clusterOf_32 rfl (by decide +kernel)
theorem dX3_clusterOf_39 : decode cX3_clusterOf 39 = .ok (.iload_n 3, 1) := dz_29 (n := 32) (r := 7) hz_X3_clusterOf_32 rfl
theorem dX3_clusterOf_40 : decode cX3_clusterOf 40 = .ok (.ireturn, 1) := dz_172 (n := 32) (r := 8) hz_X3_clusterOf_32 rfl
theorem hz_X3_grownCluster_0 : (cX3_grownCluster.data.toList.drop 0).take 40 = [28, 62, 3, 54, 4, 21, 4, 16, 32, 162, 0, 63, 42, 21, 4, 182, 0, 59, 2, 159, 0, 47, 42, 27, 21, 4, 182, 0, 66, 153, 0, 37, 4, 21, 4, 184, 0, 47, 120, 4] := by decide +kernel
theorem dX3_grownCluster_0 : decode cX3_grownCluster 0 = .ok (.iload_n 2, 1) := dz_28 (n := 0) (r := 0) hz_X3_grownCluster_0 rfl
theorem dX3_grownCluster_1 : decode cX3_grownCluster 1 = .ok (.istore_n 3, 1) := dz_62 (n := 0) (r := 1) hz_X3_grownCluster_0 rfl
theorem dX3_grownCluster_2 : decode cX3_grownCluster 2 = .ok (.iconst 0, 1) := dz_3 (n := 0) (r := 2) hz_X3_grownCluster_0 rfl
theorem dX3_grownCluster_3 : decode cX3_grownCluster 3 = .ok (.istore 4, 2) := dz_54 (n := 0) (r := 3) hz_X3_grownCluster_0 rfl rfl
theorem dX3_grownCluster_5 : decode cX3_grownCluster 5 = .ok (.iload 4, 2) := dz_21 (n := 0) (r := 5) hz_X3_grownCluster_0 rfl rfl
theorem dX3_grownCluster_7 : decode cX3_grownCluster 7 = .ok (.bipush 32, 2) := dz_16 (n := 0) (r := 7) hz_X3_grownCluster_0 rfl rfl
theorem dX3_grownCluster_9 : decode cX3_grownCluster 9 = .ok (.if_icmp .ge 63, 3) := dz_162 (n := 0) (r := 9) hz_X3_grownCluster_0 rfl (by decide +kernel)
theorem dX3_grownCluster_12 : decode cX3_grownCluster 12 = .ok (.aload_n 0, 1) := dz_42 (n := 0) (r := 12) hz_X3_grownCluster_0 rfl
theorem dX3_grownCluster_13 : decode cX3_grownCluster 13 = .ok (.iload 4, 2) := dz_21 (n := 0) (r := 13) hz_X3_grownCluster_0 rfl rfl
theorem dX3_grownCluster_15 : decode cX3_grownCluster 15 = .ok (.invokevirtual 59, 3) := dz_182 (n := 0) (r := 15) hz_X3_grownCluster_0 rfl rfl
theorem dX3_grownCluster_18 : decode cX3_grownCluster 18 = .ok (.iconst (-1), 1) := dz_2 (n := 0) (r := 18) hz_X3_grownCluster_0 rfl
theorem dX3_grownCluster_19 : decode cX3_grownCluster 19 = .ok (.if_icmp .eq 47, 3) := dz_159 (n := 0) (r := 19) hz_X3_grownCluster_0 rfl (by decide +kernel)
theorem dX3_grownCluster_22 : decode cX3_grownCluster 22 = .ok (.aload_n 0, 1) := dz_42 (n := 0) (r := 22) hz_X3_grownCluster_0 rfl
theorem dX3_grownCluster_23 : decode cX3_grownCluster 23 = .ok (.iload_n 1, 1) := dz_27 (n := 0) (r := 23) hz_X3_grownCluster_0 rfl
theorem dX3_grownCluster_24 : decode cX3_grownCluster 24 = .ok (.iload 4, 2) := dz_21 (n := 0) (r := 24) hz_X3_grownCluster_0 rfl rfl
theorem dX3_grownCluster_26 : decode cX3_grownCluster 26 = .ok (.invokevirtual 66, 3) := dz_182 (n := 0) (r := 26) hz_X3_grownCluster_0 rfl rfl
theorem dX3_grownCluster_29 : decode cX3_grownCluster 29 = .ok (.ifCond .eq 37, 3) := dz_153 (n := 0) (r := 29) hz_X3_grownCluster_0 rfl (by decide +kernel)
theorem hz_X3_grownCluster_32 : (cX3_grownCluster.data.toList.drop 32).take 40 = [4, 21, 4, 184, 0, 47, 120, 4, 42, 21, 4, 182, 0, 59, 120, 128, 54, 5, 29, 21, 5, 126, 153, 0, 10, 29, 21, 5, 128, 167, 0, 4, 29, 62, 132, 4, 1, 167, 255, 192] := by decide +kernel
theorem dX3_grownCluster_32 : decode cX3_grownCluster 32 = .ok (.iconst 1, 1) := dz_4 (n := 32) (r := 0) hz_X3_grownCluster_32 rfl
theorem dX3_grownCluster_33 : decode cX3_grownCluster 33 = .ok (.iload 4, 2) := dz_21 (n := 32) (r := 1) hz_X3_grownCluster_32 rfl rfl
theorem dX3_grownCluster_35 : decode cX3_grownCluster 35 = .ok (.invokestatic 47, 3) := dz_184 (n := 32) (r := 3) hz_X3_grownCluster_32 rfl rfl
theorem dX3_grownCluster_38 : decode cX3_grownCluster 38 = .ok (.ishl, 1) := dz_120 (n := 32) (r := 6) hz_X3_grownCluster_32 rfl
theorem dX3_grownCluster_39 : decode cX3_grownCluster 39 = .ok (.iconst 1, 1) := dz_4 (n := 32) (r := 7) hz_X3_grownCluster_32 rfl
theorem dX3_grownCluster_40 : decode cX3_grownCluster 40 = .ok (.aload_n 0, 1) := dz_42 (n := 32) (r := 8) hz_X3_grownCluster_32 rfl
theorem dX3_grownCluster_41 : decode cX3_grownCluster 41 = .ok (.iload 4, 2) := dz_21 (n := 32) (r := 9) hz_X3_grownCluster_32 rfl rfl
theorem dX3_grownCluster_43 : decode cX3_grownCluster 43 = .ok (.invokevirtual 59, 3) := dz_182 (n := 32) (r := 11) hz_X3_grownCluster_32 rfl rfl
theorem dX3_grownCluster_46 : decode cX3_grownCluster 46 = .ok (.ishl, 1) := dz_120 (n := 32) (r := 14) hz_X3_grownCluster_32 rfl
theorem dX3_grownCluster_47 : decode cX3_grownCluster 47 = .ok (.ior, 1) := dz_128 (n := 32) (r := 15) hz_X3_grownCluster_32 rfl
theorem dX3_grownCluster_48 : decode cX3_grownCluster 48 = .ok (.istore 5, 2) := dz_54 (n := 32) (r := 16) hz_X3_grownCluster_32 rfl rfl
theorem dX3_grownCluster_50 : decode cX3_grownCluster 50 = .ok (.iload_n 3, 1) := dz_29 (n := 32) (r := 18) hz_X3_grownCluster_32 rfl
theorem dX3_grownCluster_51 : decode cX3_grownCluster 51 = .ok (.iload 5, 2) := dz_21 (n := 32) (r := 19) hz_X3_grownCluster_32 rfl rfl
theorem dX3_grownCluster_53 : decode cX3_grownCluster 53 = .ok (.iand, 1) := dz_126 (n := 32) (r := 21) hz_X3_grownCluster_32 rfl
theorem dX3_grownCluster_54 : decode cX3_grownCluster 54 = .ok (.ifCond .eq 10, 3) := dz_153 (n := 32) (r := 22) hz_X3_grownCluster_32 rfl (by decide +kernel)
theorem dX3_grownCluster_57 : decode cX3_grownCluster 57 = .ok (.iload_n 3, 1) := dz_29 (n := 32) (r := 25) hz_X3_grownCluster_32 rfl
theorem dX3_grownCluster_58 : decode cX3_grownCluster 58 = .ok (.iload 5, 2) := dz_21 (n := 32) (r := 26) hz_X3_grownCluster_32 rfl rfl
theorem dX3_grownCluster_60 : decode cX3_grownCluster 60 = .ok (.ior, 1) := dz_128 (n := 32) (r := 28) hz_X3_grownCluster_32 rfl
theorem dX3_grownCluster_61 : decode cX3_grownCluster 61 = .ok (.goto 4, 3) := dz_167 (n := 32) (r := 29) hz_X3_grownCluster_32 rfl (by decide +kernel)
theorem hz_X3_grownCluster_64 : (cX3_grownCluster.data.toList.drop 64).take 40 = [29, 62, 132, 4, 1, 167, 255, 192, 29, 172] := by decide +kernel
theorem dX3_grownCluster_64 : decode cX3_grownCluster 64 = .ok (.iload_n 3, 1) := dz_29 (n := 64) (r := 0) hz_X3_grownCluster_64 rfl
theorem dX3_grownCluster_65 : decode cX3_grownCluster 65 = .ok (.istore_n 3, 1) := dz_62 (n := 64) (r := 1) hz_X3_grownCluster_64 rfl
theorem dX3_grownCluster_66 : decode cX3_grownCluster 66 = .ok (.iinc 4 1, 3) := dz_132 (n := 64) (r := 2) hz_X3_grownCluster_64 rfl rfl rfl
theorem dX3_grownCluster_69 : decode cX3_grownCluster 69 = .ok (.goto (-64), 3) := dz_167 (n := 64) (r := 5) hz_X3_grownCluster_64 rfl (by decide +kernel)
theorem dX3_grownCluster_72 : decode cX3_grownCluster 72 = .ok (.iload_n 3, 1) := dz_29 (n := 64) (r := 8) hz_X3_grownCluster_64 rfl
theorem dX3_grownCluster_73 : decode cX3_grownCluster 73 = .ok (.ireturn, 1) := dz_172 (n := 64) (r := 9) hz_X3_grownCluster_64 rfl
theorem hz_X3_countClusters_0 : (cX3_countClusters.data.toList.drop 0).take 40 = [3, 61, 3, 62, 3, 54, 4, 21, 4, 42, 180, 0, 40, 162, 0, 31, 28, 21, 4, 184, 0, 62, 154, 0, 16, 28, 42, 27, 21, 4, 182, 0, 92, 128, 61, 132, 3, 1, 132, 4] := by decide +kernel
theorem dX3_countClusters_0 : decode cX3_countClusters 0 = .ok (.iconst 0, 1) := dz_3 (n := 0) (r := 0) hz_X3_countClusters_0 rfl
theorem dX3_countClusters_1 : decode cX3_countClusters 1 = .ok (.istore_n 2, 1) := dz_61 (n := 0) (r := 1) hz_X3_countClusters_0 rfl
theorem dX3_countClusters_2 : decode cX3_countClusters 2 = .ok (.iconst 0, 1) := dz_3 (n := 0) (r := 2) hz_X3_countClusters_0 rfl
theorem dX3_countClusters_3 : decode cX3_countClusters 3 = .ok (.istore_n 3, 1) := dz_62 (n := 0) (r := 3) hz_X3_countClusters_0 rfl
theorem dX3_countClusters_4 : decode cX3_countClusters 4 = .ok (.iconst 0, 1) := dz_3 (n := 0) (r := 4) hz_X3_countClusters_0 rfl
theorem dX3_countClusters_5 : decode cX3_countClusters 5 = .ok (.istore 4, 2) := dz_54 (n := 0) (r := 5) hz_X3_countClusters_0 rfl rfl
theorem dX3_countClusters_7 : decode cX3_countClusters 7 = .ok (.iload 4, 2) := dz_21 (n := 0) (r := 7) hz_X3_countClusters_0 rfl rfl
theorem dX3_countClusters_9 : decode cX3_countClusters 9 = .ok (.aload_n 0, 1) := dz_42 (n := 0) (r := 9) hz_X3_countClusters_0 rfl
theorem dX3_countClusters_10 : decode cX3_countClusters 10 = .ok (.getfield 40, 3) := dz_180 (n := 0) (r := 10) hz_X3_countClusters_0 rfl rfl
theorem dX3_countClusters_13 : decode cX3_countClusters 13 = .ok (.if_icmp .ge 31, 3) := dz_162 (n := 0) (r := 13) hz_X3_countClusters_0 rfl (by decide +kernel)
theorem dX3_countClusters_16 : decode cX3_countClusters 16 = .ok (.iload_n 2, 1) := dz_28 (n := 0) (r := 16) hz_X3_countClusters_0 rfl
theorem dX3_countClusters_17 : decode cX3_countClusters 17 = .ok (.iload 4, 2) := dz_21 (n := 0) (r := 17) hz_X3_countClusters_0 rfl rfl
theorem dX3_countClusters_19 : decode cX3_countClusters 19 = .ok (.invokestatic 62, 3) := dz_184 (n := 0) (r := 19) hz_X3_countClusters_0 rfl rfl
theorem dX3_countClusters_22 : decode cX3_countClusters 22 = .ok (.ifCond .ne 16, 3) := dz_154 (n := 0) (r := 22) hz_X3_countClusters_0 rfl (by decide +kernel)
theorem dX3_countClusters_25 : decode cX3_countClusters 25 = .ok (.iload_n 2, 1) := dz_28 (n := 0) (r := 25) hz_X3_countClusters_0 rfl
theorem dX3_countClusters_26 : decode cX3_countClusters 26 = .ok (.aload_n 0, 1) := dz_42 (n := 0) (r := 26) hz_X3_countClusters_0 rfl
theorem dX3_countClusters_27 : decode cX3_countClusters 27 = .ok (.iload_n 1, 1) := dz_27 (n := 0) (r := 27) hz_X3_countClusters_0 rfl
theorem dX3_countClusters_28 : decode cX3_countClusters 28 = .ok (.iload 4, 2) := dz_21 (n := 0) (r := 28) hz_X3_countClusters_0 rfl rfl
theorem dX3_countClusters_30 : decode cX3_countClusters 30 = .ok (.invokevirtual 92, 3) := dz_182 (n := 0) (r := 30) hz_X3_countClusters_0 rfl rfl
theorem hz_X3_countClusters_32 : (cX3_countClusters.data.toList.drop 32).take 40 = [92, 128, 61, 132, 3, 1, 132, 4, 1, 167, 255, 222, 29, 172] := by decide +kernel
theorem dX3_countClusters_33 : decode cX3_countClusters 33 = .ok (.ior, 1) := dz_128 (n := 32) (r := 1) hz_X3_countClusters_32 rfl
theorem dX3_countClusters_34 : decode cX3_countClusters 34 = .ok (.istore_n 2, 1) := dz_61 (n := 32) (r := 2) hz_X3_countClusters_32 rfl
theorem dX3_countClusters_35 : decode cX3_countClusters 35 = .ok (.iinc 3 1, 3) := dz_132 (n := 32) (r := 3) hz_X3_countClusters_32 rfl rfl rfl
theorem dX3_countClusters_38 : decode cX3_countClusters 38 = .ok (.iinc 4 1, 3) := dz_132 (n := 32) (r := 6) hz_X3_countClusters_32 rfl rfl rfl
theorem dX3_countClusters_41 : decode cX3_countClusters 41 = .ok (.goto (-34), 3) := dz_167 (n := 32) (r := 9) hz_X3_countClusters_32 rfl (by decide +kernel)
theorem dX3_countClusters_44 : decode cX3_countClusters 44 = .ok (.iload_n 3, 1) := dz_29 (n := 32) (r := 12) hz_X3_countClusters_32 rfl
theorem dX3_countClusters_45 : decode cX3_countClusters 45 = .ok (.ireturn, 1) := dz_172 (n := 32) (r := 13) hz_X3_countClusters_32 rfl
theorem hz_X3_greatestCluster_0 : (cX3_greatestCluster.data.toList.drop 0).take 40 = [3, 61, 3, 62, 29, 42, 180, 0, 40, 162, 0, 23, 28, 42, 27, 29, 182, 0, 92, 184, 0, 95, 184, 0, 100, 61, 132, 3, 1, 167, 255, 231, 28, 172] := by decide +kernel
theorem dX3_greatestCluster_0 : decode cX3_greatestCluster 0 = .ok (.iconst 0, 1) := dz_3 (n := 0) (r := 0) hz_X3_greatestCluster_0 rfl
theorem dX3_greatestCluster_1 : decode cX3_greatestCluster 1 = .ok (.istore_n 2, 1) := dz_61 (n := 0) (r := 1) hz_X3_greatestCluster_0 rfl
theorem dX3_greatestCluster_2 : decode cX3_greatestCluster 2 = .ok (.iconst 0, 1) := dz_3 (n := 0) (r := 2) hz_X3_greatestCluster_0 rfl
theorem dX3_greatestCluster_3 : decode cX3_greatestCluster 3 = .ok (.istore_n 3, 1) := dz_62 (n := 0) (r := 3) hz_X3_greatestCluster_0 rfl
theorem dX3_greatestCluster_4 : decode cX3_greatestCluster 4 = .ok (.iload_n 3, 1) := dz_29 (n := 0) (r := 4) hz_X3_greatestCluster_0 rfl
theorem dX3_greatestCluster_5 : decode cX3_greatestCluster 5 = .ok (.aload_n 0, 1) := dz_42 (n := 0) (r := 5) hz_X3_greatestCluster_0 rfl
theorem dX3_greatestCluster_6 : decode cX3_greatestCluster 6 = .ok (.getfield 40, 3) := dz_180 (n := 0) (r := 6) hz_X3_greatestCluster_0 rfl rfl
theorem dX3_greatestCluster_9 : decode cX3_greatestCluster 9 = .ok (.if_icmp .ge 23, 3) := dz_162 (n := 0) (r := 9) hz_X3_greatestCluster_0 rfl (by decide +kernel)
theorem dX3_greatestCluster_12 : decode cX3_greatestCluster 12 = .ok (.iload_n 2, 1) := dz_28 (n := 0) (r := 12) hz_X3_greatestCluster_0 rfl
theorem dX3_greatestCluster_13 : decode cX3_greatestCluster 13 = .ok (.aload_n 0, 1) := dz_42 (n := 0) (r := 13) hz_X3_greatestCluster_0 rfl
theorem dX3_greatestCluster_14 : decode cX3_greatestCluster 14 = .ok (.iload_n 1, 1) := dz_27 (n := 0) (r := 14) hz_X3_greatestCluster_0 rfl
theorem dX3_greatestCluster_15 : decode cX3_greatestCluster 15 = .ok (.iload_n 3, 1) := dz_29 (n := 0) (r := 15) hz_X3_greatestCluster_0 rfl
theorem dX3_greatestCluster_16 : decode cX3_greatestCluster 16 = .ok (.invokevirtual 92, 3) := dz_182 (n := 0) (r := 16) hz_X3_greatestCluster_0 rfl rfl
theorem dX3_greatestCluster_19 : decode cX3_greatestCluster 19 = .ok (.invokestatic 95, 3) := dz_184 (n := 0) (r := 19) hz_X3_greatestCluster_0 rfl rfl
theorem dX3_greatestCluster_22 : decode cX3_greatestCluster 22 = .ok (.invokestatic 100, 3) := dz_184 (n := 0) (r := 22) hz_X3_greatestCluster_0 rfl rfl
theorem dX3_greatestCluster_25 : decode cX3_greatestCluster 25 = .ok (.istore_n 2, 1) := dz_61 (n := 0) (r := 25) hz_X3_greatestCluster_0 rfl
theorem dX3_greatestCluster_26 : decode cX3_greatestCluster 26 = .ok (.iinc 3 1, 3) := dz_132 (n := 0) (r := 26) hz_X3_greatestCluster_0 rfl rfl rfl
theorem dX3_greatestCluster_29 : decode cX3_greatestCluster 29 = .ok (.goto (-25), 3) := dz_167 (n := 0) (r := 29) hz_X3_greatestCluster_0 rfl (by decide +kernel)
theorem hz_X3_greatestCluster_32 : (cX3_greatestCluster.data.toList.drop 32).take 40 = [28, 172] := by decide +kernel
theorem dX3_greatestCluster_32 : decode cX3_greatestCluster 32 = .ok (.iload_n 2, 1) := dz_28 (n := 32) (r := 0) hz_X3_greatestCluster_32 rfl
theorem dX3_greatestCluster_33 : decode cX3_greatestCluster 33 = .ok (.ireturn, 1) := dz_172 (n := 32) (r := 1) hz_X3_greatestCluster_32 rfl
theorem hz_X4_init_0 : (cX4_init.data.toList.drop 0).take 40 = [42, 183, 0, 3, 42, 17, 1, 33, 188, 10, 181, 0, 9, 42, 17, 1, 33, 188, 10, 181, 0, 15, 42, 17, 19, 49, 188, 10, 181, 0, 18, 42, 17, 1, 33, 188, 10, 181, 0, 21] := by decide +kernel
theorem dX4_init_0 : decode cX4_init 0 = .ok (.aload_n 0, 1) := dz_42 (n := 0) (r := 0) hz_X4_init_0 rfl
theorem dX4_init_1 : decode cX4_init 1 = .ok (.invokespecial 3, 3) := dz_183 (n := 0) (r := 1) hz_X4_init_0 rfl rfl
theorem dX4_init_4 : decode cX4_init 4 = .ok (.aload_n 0, 1) := dz_42 (n := 0) (r := 4) hz_X4_init_0 rfl
theorem dX4_init_5 : decode cX4_init 5 = .ok (.sipush 289, 3) := dz_17 (n := 0) (r := 5) hz_X4_init_0 rfl (by decide +kernel)
theorem dX4_init_8 : decode cX4_init 8 = .ok (.newarray .int, 2) := dz_188_10 (n := 0) (r := 8) hz_X4_init_0 rfl
theorem dX4_init_10 : decode cX4_init 10 = .ok (.putfield 9, 3) := dz_181 (n := 0) (r := 10) hz_X4_init_0 rfl rfl
theorem dX4_init_13 : decode cX4_init 13 = .ok (.aload_n 0, 1) := dz_42 (n := 0) (r := 13) hz_X4_init_0 rfl
theorem dX4_init_14 : decode cX4_init 14 = .ok (.sipush 289, 3) := dz_17 (n := 0) (r := 14) hz_X4_init_0 rfl (by decide +kernel)
theorem dX4_init_17 : decode cX4_init 17 = .ok (.newarray .int, 2) := dz_188_10 (n := 0) (r := 17) hz_X4_init_0 rfl
theorem dX4_init_19 : decode cX4_init 19 = .ok (.putfield 15, 3) := dz_181 (n := 0) (r := 19) hz_X4_init_0 rfl rfl
theorem dX4_init_22 : decode cX4_init 22 = .ok (.aload_n 0, 1) := dz_42 (n := 0) (r := 22) hz_X4_init_0 rfl
theorem dX4_init_23 : decode cX4_init 23 = .ok (.sipush 4913, 3) := dz_17 (n := 0) (r := 23) hz_X4_init_0 rfl (by decide +kernel)
theorem dX4_init_26 : decode cX4_init 26 = .ok (.newarray .int, 2) := dz_188_10 (n := 0) (r := 26) hz_X4_init_0 rfl
theorem dX4_init_28 : decode cX4_init 28 = .ok (.putfield 18, 3) := dz_181 (n := 0) (r := 28) hz_X4_init_0 rfl rfl
theorem dX4_init_31 : decode cX4_init 31 = .ok (.aload_n 0, 1) := dz_42 (n := 0) (r := 31) hz_X4_init_0 rfl
theorem hz_X4_init_32 : (cX4_init.data.toList.drop 32).take 40 = [17, 1, 33, 188, 10, 181, 0, 21, 42, 2, 181, 0, 24, 177] := by decide +kernel
theorem dX4_init_32 : decode cX4_init 32 = .ok (.sipush 289, 3) := dz_17 (n := 32) (r := 0) hz_X4_init_32 rfl (by decide +kernel)
theorem dX4_init_35 : decode cX4_init 35 = .ok (.newarray .int, 2) := dz_188_10 (n := 32) (r := 3) hz_X4_init_32 rfl
theorem dX4_init_37 : decode cX4_init 37 = .ok (.putfield 21, 3) := dz_181 (n := 32) (r := 5) hz_X4_init_32 rfl rfl
theorem dX4_init_40 : decode cX4_init 40 = .ok (.aload_n 0, 1) := dz_42 (n := 32) (r := 8) hz_X4_init_32 rfl
theorem dX4_init_41 : decode cX4_init 41 = .ok (.iconst (-1), 1) := dz_2 (n := 32) (r := 9) hz_X4_init_32 rfl
theorem dX4_init_42 : decode cX4_init 42 = .ok (.putfield 24, 3) := dz_181 (n := 32) (r := 10) hz_X4_init_32 rfl rfl
theorem dX4_init_45 : decode cX4_init 45 = .ok (.return_, 1) := dz_177 (n := 32) (r := 13) hz_X4_init_32 rfl
theorem hz_X4_gather_0 : (cX4_gather.data.toList.drop 0).take 40 = [42, 180, 0, 9, 3, 184, 0, 28, 42, 180, 0, 18, 3, 184, 0, 28, 29, 4, 100, 54, 4, 21, 4, 155, 0, 94, 43, 21, 4, 182, 0, 34, 17, 0, 144, 96, 54, 5, 21, 4] := by decide +kernel
theorem dX4_gather_0 : decode cX4_gather 0 = .ok (.aload_n 0, 1) := dz_42 (n := 0) (r := 0) hz_X4_gather_0 rfl
theorem dX4_gather_1 : decode cX4_gather 1 = .ok (.getfield 9, 3) := dz_180 (n := 0) (r := 1) hz_X4_gather_0 rfl rfl
theorem dX4_gather_4 : decode cX4_gather 4 = .ok (.iconst 0, 1) := dz_3 (n := 0) (r := 4) hz_X4_gather_0 rfl
theorem dX4_gather_5 : decode cX4_gather 5 = .ok (.invokestatic 28, 3) := dz_184 (n := 0) (r := 5) hz_X4_gather_0 rfl rfl
theorem dX4_gather_8 : decode cX4_gather 8 = .ok (.aload_n 0, 1) := dz_42 (n := 0) (r := 8) hz_X4_gather_0 rfl
theorem dX4_gather_9 : decode cX4_gather 9 = .ok (.getfield 18, 3) := dz_180 (n := 0) (r := 9) hz_X4_gather_0 rfl rfl
theorem dX4_gather_12 : decode cX4_gather 12 = .ok (.iconst 0, 1) := dz_3 (n := 0) (r := 12) hz_X4_gather_0 rfl
theorem dX4_gather_13 : decode cX4_gather 13 = .ok (.invokestatic 28, 3) := dz_184 (n := 0) (r := 13) hz_X4_gather_0 rfl rfl
theorem dX4_gather_16 : decode cX4_gather 16 = .ok (.iload_n 3, 1) := dz_29 (n := 0) (r := 16) hz_X4_gather_0 rfl
theorem dX4_gather_17 : decode cX4_gather 17 = .ok (.iconst 1, 1) := dz_4 (n := 0) (r := 17) hz_X4_gather_0 rfl
theorem dX4_gather_18 : decode cX4_gather 18 = .ok (.isub, 1) := dz_100 (n := 0) (r := 18) hz_X4_gather_0 rfl
theorem dX4_gather_19 : decode cX4_gather 19 = .ok (.istore 4, 2) := dz_54 (n := 0) (r := 19) hz_X4_gather_0 rfl rfl
theorem dX4_gather_21 : decode cX4_gather 21 = .ok (.iload 4, 2) := dz_21 (n := 0) (r := 21) hz_X4_gather_0 rfl rfl
theorem dX4_gather_23 : decode cX4_gather 23 = .ok (.ifCond .lt 94, 3) := dz_155 (n := 0) (r := 23) hz_X4_gather_0 rfl (by decide +kernel)
theorem dX4_gather_26 : decode cX4_gather 26 = .ok (.aload_n 1, 1) := dz_43 (n := 0) (r := 26) hz_X4_gather_0 rfl
theorem dX4_gather_27 : decode cX4_gather 27 = .ok (.iload 4, 2) := dz_21 (n := 0) (r := 27) hz_X4_gather_0 rfl rfl
theorem dX4_gather_29 : decode cX4_gather 29 = .ok (.invokevirtual 34, 3) := dz_182 (n := 0) (r := 29) hz_X4_gather_0 rfl rfl
theorem hz_X4_gather_32 : (cX4_gather.data.toList.drop 32).take 40 = [17, 0, 144, 96, 54, 5, 21, 4, 184, 0, 40, 54, 6, 44, 21, 4, 182, 0, 45, 153, 0, 60, 21, 5, 155, 0, 55, 21, 5, 17, 1, 33, 162, 0, 47, 21, 6, 16, 17, 162] := by decide +kernel
theorem dX4_gather_32 : decode cX4_gather 32 = .ok (.sipush 144, 3) := dz_17 (n := 32) (r := 0) hz_X4_gather_32 rfl (by decide +kernel)
theorem dX4_gather_35 : decode cX4_gather 35 = .ok (.iadd, 1) := dz_96 (n := 32) (r := 3) hz_X4_gather_32 rfl
theorem dX4_gather_36 : decode cX4_gather 36 = .ok (.istore 5, 2) := dz_54 (n := 32) (r := 4) hz_X4_gather_32 rfl rfl
theorem dX4_gather_38 : decode cX4_gather 38 = .ok (.iload 4, 2) := dz_21 (n := 32) (r := 6) hz_X4_gather_32 rfl rfl
theorem dX4_gather_40 : decode cX4_gather 40 = .ok (.invokestatic 40, 3) := dz_184 (n := 32) (r := 8) hz_X4_gather_32 rfl rfl
theorem dX4_gather_43 : decode cX4_gather 43 = .ok (.istore 6, 2) := dz_54 (n := 32) (r := 11) hz_X4_gather_32 rfl rfl
theorem dX4_gather_45 : decode cX4_gather 45 = .ok (.aload_n 2, 1) := dz_44 (n := 32) (r := 13) hz_X4_gather_32 rfl
theorem dX4_gather_46 : decode cX4_gather 46 = .ok (.iload 4, 2) := dz_21 (n := 32) (r := 14) hz_X4_gather_32 rfl rfl
theorem dX4_gather_48 : decode cX4_gather 48 = .ok (.invokevirtual 45, 3) := dz_182 (n := 32) (r := 16) hz_X4_gather_32 rfl rfl
theorem dX4_gather_51 : decode cX4_gather 51 = .ok (.ifCond .eq 60, 3) := dz_153 (n := 32) (r := 19) hz_X4_gather_32 rfl (by decide +kernel)
theorem dX4_gather_54 : decode cX4_gather 54 = .ok (.iload 5, 2) := dz_21 (n := 32) (r := 22) hz_X4_gather_32 rfl rfl
theorem dX4_gather_56 : decode cX4_gather 56 = .ok (.ifCond .lt 55, 3) := dz_155 (n := 32) (r := 24) hz_X4_gather_32 rfl (by decide +kernel)
theorem dX4_gather_59 : decode cX4_gather 59 = .ok (.iload 5, 2) := dz_21 (n := 32) (r := 27) hz_X4_gather_32 rfl rfl
theorem dX4_gather_61 : decode cX4_gather 61 = .ok (.sipush 289, 3) := dz_17 (n := 32) (r := 29) hz_X4_gather_32 rfl (by decide +kernel)
theorem hz_X4_gather_64 : (cX4_gather.data.toList.drop 64).take 40 = [162, 0, 47, 21, 6, 16, 17, 162, 0, 40, 42, 180, 0, 15, 21, 5, 21, 4, 79, 42, 180, 0, 9, 21, 5, 92, 46, 4, 96, 79, 42, 180, 0, 18, 21, 5, 16, 17, 104, 21] := by decide +kernel
theorem dX4_gather_64 : decode cX4_gather 64 = .ok (.if_icmp .ge 47, 3) := dz_162 (n := 64) (r := 0) hz_X4_gather_64 rfl (by decide +kernel)
theorem dX4_gather_67 : decode cX4_gather 67 = .ok (.iload 6, 2) := dz_21 (n := 64) (r := 3) hz_X4_gather_64 rfl rfl
theorem dX4_gather_69 : decode cX4_gather 69 = .ok (.bipush 17, 2) := dz_16 (n := 64) (r := 5) hz_X4_gather_64 rfl rfl
theorem dX4_gather_71 : decode cX4_gather 71 = .ok (.if_icmp .ge 40, 3) := dz_162 (n := 64) (r := 7) hz_X4_gather_64 rfl (by decide +kernel)
theorem dX4_gather_74 : decode cX4_gather 74 = .ok (.aload_n 0, 1) := dz_42 (n := 64) (r := 10) hz_X4_gather_64 rfl
theorem dX4_gather_75 : decode cX4_gather 75 = .ok (.getfield 15, 3) := dz_180 (n := 64) (r := 11) hz_X4_gather_64 rfl rfl
theorem dX4_gather_78 : decode cX4_gather 78 = .ok (.iload 5, 2) := dz_21 (n := 64) (r := 14) hz_X4_gather_64 rfl rfl
theorem dX4_gather_80 : decode cX4_gather 80 = .ok (.iload 4, 2) := dz_21 (n := 64) (r := 16) hz_X4_gather_64 rfl rfl
theorem dX4_gather_82 : decode cX4_gather 82 = .ok (.iastore, 1) := dz_79 (n := 64) (r := 18) hz_X4_gather_64 rfl
theorem dX4_gather_83 : decode cX4_gather 83 = .ok (.aload_n 0, 1) := dz_42 (n := 64) (r := 19) hz_X4_gather_64 rfl
theorem dX4_gather_84 : decode cX4_gather 84 = .ok (.getfield 9, 3) := dz_180 (n := 64) (r := 20) hz_X4_gather_64 rfl rfl
theorem dX4_gather_87 : decode cX4_gather 87 = .ok (.iload 5, 2) := dz_21 (n := 64) (r := 23) hz_X4_gather_64 rfl rfl
theorem dX4_gather_89 : decode cX4_gather 89 = .ok (.dup2, 1) := dz_92 (n := 64) (r := 25) hz_X4_gather_64 rfl
theorem dX4_gather_90 : decode cX4_gather 90 = .ok (.iaload, 1) := dz_46 (n := 64) (r := 26) hz_X4_gather_64 rfl
theorem dX4_gather_91 : decode cX4_gather 91 = .ok (.iconst 1, 1) := dz_4 (n := 64) (r := 27) hz_X4_gather_64 rfl
theorem dX4_gather_92 : decode cX4_gather 92 = .ok (.iadd, 1) := dz_96 (n := 64) (r := 28) hz_X4_gather_64 rfl
theorem dX4_gather_93 : decode cX4_gather 93 = .ok (.iastore, 1) := dz_79 (n := 64) (r := 29) hz_X4_gather_64 rfl
theorem dX4_gather_94 : decode cX4_gather 94 = .ok (.aload_n 0, 1) := dz_42 (n := 64) (r := 30) hz_X4_gather_64 rfl
theorem dX4_gather_95 : decode cX4_gather 95 = .ok (.getfield 18, 3) := dz_180 (n := 64) (r := 31) hz_X4_gather_64 rfl rfl
theorem hz_X4_gather_96 : (cX4_gather.data.toList.drop 96).take 40 = [0, 18, 21, 5, 16, 17, 104, 21, 6, 96, 92, 46, 4, 96, 79, 132, 4, 255, 167, 255, 163, 42, 182, 0, 51, 177] := by decide +kernel
theorem dX4_gather_98 : decode cX4_gather 98 = .ok (.iload 5, 2) := dz_21 (n := 96) (r := 2) hz_X4_gather_96 rfl rfl
theorem dX4_gather_100 : decode cX4_gather 100 = .ok (.bipush 17, 2) := dz_16 (n := 96) (r := 4) hz_X4_gather_96 rfl rfl
theorem dX4_gather_102 : decode cX4_gather 102 = .ok (.imul, 1) := dz_104 (n := 96) (r := 6) hz_X4_gather_96 rfl
theorem dX4_gather_103 : decode cX4_gather 103 = .ok (.iload 6, 2) := dz_21 (n := 96) (r := 7) hz_X4_gather_96 rfl rfl
theorem dX4_gather_105 : decode cX4_gather 105 = .ok (.iadd, 1) := dz_96 (n := 96) (r := 9) hz_X4_gather_96 rfl
theorem dX4_gather_106 : decode cX4_gather 106 = .ok (.dup2, 1) := dz_92 (n := 96) (r := 10) hz_X4_gather_96 rfl
theorem dX4_gather_107 : decode cX4_gather 107 = .ok (.iaload, 1) := dz_46 (n := 96) (r := 11) hz_X4_gather_96 rfl
theorem dX4_gather_108 : decode cX4_gather 108 = .ok (.iconst 1, 1) := dz_4 (n := 96) (r := 12) hz_X4_gather_96 rfl
theorem dX4_gather_109 : decode cX4_gather 109 = .ok (.iadd, 1) := dz_96 (n := 96) (r := 13) hz_X4_gather_96 rfl
theorem dX4_gather_110 : decode cX4_gather 110 = .ok (.iastore, 1) := dz_79 (n := 96) (r := 14) hz_X4_gather_96 rfl
theorem dX4_gather_111 : decode cX4_gather 111 = .ok (.iinc 4 (-1), 3) := dz_132 (n := 96) (r := 15) hz_X4_gather_96 rfl rfl rfl
theorem dX4_gather_114 : decode cX4_gather 114 = .ok (.goto (-93), 3) := dz_167 (n := 96) (r := 18) hz_X4_gather_96 rfl (by decide +kernel)
theorem dX4_gather_117 : decode cX4_gather 117 = .ok (.aload_n 0, 1) := dz_42 (n := 96) (r := 21) hz_X4_gather_96 rfl
theorem dX4_gather_118 : decode cX4_gather 118 = .ok (.invokevirtual 51, 3) := dz_182 (n := 96) (r := 22) hz_X4_gather_96 rfl rfl
theorem dX4_gather_121 : decode cX4_gather 121 = .ok (.return_, 1) := dz_177 (n := 96) (r := 25) hz_X4_gather_96 rfl
theorem hz_X4_listLevels_0 : (cX4_listLevels.data.toList.drop 0).take 40 = [42, 3, 181, 0, 54, 3, 60, 27, 17, 1, 33, 162, 0, 42, 42, 180, 0, 9, 27, 46, 158, 0, 27, 42, 180, 0, 21, 42, 180, 0, 54, 27, 17, 0, 144, 100, 79, 42, 89, 180] := by decide +kernel
theorem dX4_listLevels_0 : decode cX4_listLevels 0 = .ok (.aload_n 0, 1) := dz_42 (n := 0) (r := 0) hz_X4_listLevels_0 rfl
theorem dX4_listLevels_1 : decode cX4_listLevels 1 = .ok (.iconst 0, 1) := dz_3 (n := 0) (r := 1) hz_X4_listLevels_0 rfl
theorem dX4_listLevels_2 : decode cX4_listLevels 2 = .ok (.putfield 54, 3) := dz_181 (n := 0) (r := 2) hz_X4_listLevels_0 rfl rfl
theorem dX4_listLevels_5 : decode cX4_listLevels 5 = .ok (.iconst 0, 1) := dz_3 (n := 0) (r := 5) hz_X4_listLevels_0 rfl
theorem dX4_listLevels_6 : decode cX4_listLevels 6 = .ok (.istore_n 1, 1) := dz_60 (n := 0) (r := 6) hz_X4_listLevels_0 rfl
theorem dX4_listLevels_7 : decode cX4_listLevels 7 = .ok (.iload_n 1, 1) := dz_27 (n := 0) (r := 7) hz_X4_listLevels_0 rfl
theorem dX4_listLevels_8 : decode cX4_listLevels 8 = .ok (.sipush 289, 3) := dz_17 (n := 0) (r := 8) hz_X4_listLevels_0 rfl (by decide +kernel)
theorem dX4_listLevels_11 : decode cX4_listLevels 11 = .ok (.if_icmp .ge 42, 3) := dz_162 (n := 0) (r := 11) hz_X4_listLevels_0 rfl (by decide +kernel)
theorem dX4_listLevels_14 : decode cX4_listLevels 14 = .ok (.aload_n 0, 1) := dz_42 (n := 0) (r := 14) hz_X4_listLevels_0 rfl
theorem dX4_listLevels_15 : decode cX4_listLevels 15 = .ok (.getfield 9, 3) := dz_180 (n := 0) (r := 15) hz_X4_listLevels_0 rfl rfl
theorem dX4_listLevels_18 : decode cX4_listLevels 18 = .ok (.iload_n 1, 1) := dz_27 (n := 0) (r := 18) hz_X4_listLevels_0 rfl
theorem dX4_listLevels_19 : decode cX4_listLevels 19 = .ok (.iaload, 1) := dz_46 (n := 0) (r := 19) hz_X4_listLevels_0 rfl
theorem dX4_listLevels_20 : decode cX4_listLevels 20 = .ok (.ifCond .le 27, 3) := dz_158 (n := 0) (r := 20) hz_X4_listLevels_0 rfl (by decide +kernel)
theorem dX4_listLevels_23 : decode cX4_listLevels 23 = .ok (.aload_n 0, 1) := dz_42 (n := 0) (r := 23) hz_X4_listLevels_0 rfl
theorem dX4_listLevels_24 : decode cX4_listLevels 24 = .ok (.getfield 21, 3) := dz_180 (n := 0) (r := 24) hz_X4_listLevels_0 rfl rfl
theorem dX4_listLevels_27 : decode cX4_listLevels 27 = .ok (.aload_n 0, 1) := dz_42 (n := 0) (r := 27) hz_X4_listLevels_0 rfl
theorem dX4_listLevels_28 : decode cX4_listLevels 28 = .ok (.getfield 54, 3) := dz_180 (n := 0) (r := 28) hz_X4_listLevels_0 rfl rfl
theorem dX4_listLevels_31 : decode cX4_listLevels 31 = .ok (.iload_n 1, 1) := dz_27 (n := 0) (r := 31) hz_X4_listLevels_0 rfl
theorem hz_X4_listLevels_32 : (cX4_listLevels.data.toList.drop 32).take 40 = [17, 0, 144, 100, 79, 42, 89, 180, 0, 54, 4, 96, 181, 0, 54, 132, 1, 1, 167, 255, 213, 177] := by decide +kernel
theorem dX4_listLevels_32 : decode cX4_listLevels 32 = .ok (.sipush 144, 3) := dz_17 (n := 32) (r := 0) hz_X4_listLevels_32 rfl (by decide +kernel)
theorem dX4_listLevels_35 : decode cX4_listLevels 35 = .ok (.isub, 1) := dz_100 (n := 32) (r := 3) hz_X4_listLevels_32 rfl
theorem dX4_listLevels_36 : decode cX4_listLevels 36 = .ok (.iastore, 1) := dz_79 (n := 32) (r := 4) hz_X4_listLevels_32 rfl
theorem dX4_listLevels_37 : decode cX4_listLevels 37 = .ok (.aload_n 0, 1) := dz_42 (n := 32) (r := 5) hz_X4_listLevels_32 rfl
