section
theorem dX10_fallFrom_46 : decode cX10_fallFrom 46 = .ok (.ishl, 1) := dz_120 (n := 32) (r := 14) hz_X10_fallFrom_32 rfl
theorem dX10_fallFrom_47 : decode cX10_fallFrom 47 = .ok (.ixor, 1) := dz_130 (n := 32) (r := 15) hz_X10_fallFrom_32 rfl
theorem dX10_fallFrom_48 : decode cX10_fallFrom 48 = .ok (.putfield 9, 3) := dz_181 (n := 32) (r := 16) hz_X10_fallFrom_32 rfl rfl
theorem dX10_fallFrom_51 : decode cX10_fallFrom 51 = .ok (.aload_n 0, 1) := dz_42 (n := 32) (r := 19) hz_X10_fallFrom_32 rfl
theorem dX10_fallFrom_52 : decode cX10_fallFrom 52 = .ok (.dup, 1) := dz_89 (n := 32) (r := 20) hz_X10_fallFrom_32 rfl
theorem dX10_fallFrom_53 : decode cX10_fallFrom 53 = .ok (.getfield 15, 3) := dz_180 (n := 32) (r := 21) hz_X10_fallFrom_32 rfl rfl
theorem dX10_fallFrom_56 : decode cX10_fallFrom 56 = .ok (.iconst 1, 1) := dz_4 (n := 32) (r := 24) hz_X10_fallFrom_32 rfl
theorem dX10_fallFrom_57 : decode cX10_fallFrom 57 = .ok (.iadd, 1) := dz_96 (n := 32) (r := 25) hz_X10_fallFrom_32 rfl
theorem dX10_fallFrom_58 : decode cX10_fallFrom 58 = .ok (.putfield 15, 3) := dz_181 (n := 32) (r := 26) hz_X10_fallFrom_32 rfl rfl
theorem dX10_fallFrom_61 : decode cX10_fallFrom 61 = .ok (.aload_n 1, 1) := dz_43 (n := 32) (r := 29) hz_X10_fallFrom_32 rfl
theorem dX10_fallFrom_62 : decode cX10_fallFrom 62 = .ok (.aload_n 2, 1) := dz_44 (n := 32) (r := 30) hz_X10_fallFrom_32 rfl
theorem dX10_fallFrom_63 : decode cX10_fallFrom 63 = .ok (.aload_n 0, 1) := dz_42 (n := 32) (r := 31) hz_X10_fallFrom_32 rfl
theorem hz_X10_fallFrom_64 : (cX10_fallFrom.data.toList.drop 64).take 40 = [180, 0, 9, 182, 0, 18, 54, 4, 132, 5, 1, 167, 255, 205, 177] := by decide +kernel
theorem dX10_fallFrom_64 : decode cX10_fallFrom 64 = .ok (.getfield 9, 3) := dz_180 (n := 64) (r := 0) hz_X10_fallFrom_64 rfl rfl
theorem dX10_fallFrom_67 : decode cX10_fallFrom 67 = .ok (.invokevirtual 18, 3) := dz_182 (n := 64) (r := 3) hz_X10_fallFrom_64 rfl rfl
theorem dX10_fallFrom_70 : decode cX10_fallFrom 70 = .ok (.istore 4, 2) := dz_54 (n := 64) (r := 6) hz_X10_fallFrom_64 rfl rfl
theorem dX10_fallFrom_72 : decode cX10_fallFrom 72 = .ok (.iinc 5 1, 3) := dz_132 (n := 64) (r := 8) hz_X10_fallFrom_64 rfl rfl rfl
theorem dX10_fallFrom_75 : decode cX10_fallFrom 75 = .ok (.goto (-51), 3) := dz_167 (n := 64) (r := 11) hz_X10_fallFrom_64 rfl (by decide +kernel)
theorem dX10_fallFrom_78 : decode cX10_fallFrom 78 = .ok (.return_, 1) := dz_177 (n := 64) (r := 14) hz_X10_fallFrom_64 rfl
theorem hz_X10_strollFrom_0 : (cX10_strollFrom.data.toList.drop 0).take 40 = [42, 44, 180, 0, 24, 181, 0, 9, 42, 3, 181, 0, 15, 43, 44, 42, 180, 0, 9, 182, 0, 27, 54, 5, 42, 21, 5, 181, 0, 30, 44, 180, 0, 33, 133, 55, 6, 3, 54, 8] := by decide +kernel
theorem dX10_strollFrom_0 : decode cX10_strollFrom 0 = .ok (.aload_n 0, 1) := dz_42 (n := 0) (r := 0) hz_X10_strollFrom_0 rfl
theorem dX10_strollFrom_1 : decode cX10_strollFrom 1 = .ok (.aload_n 2, 1) := dz_44 (n := 0) (r := 1) hz_X10_strollFrom_0 rfl
theorem dX10_strollFrom_2 : decode cX10_strollFrom 2 = .ok (.getfield 24, 3) := dz_180 (n := 0) (r := 2) hz_X10_strollFrom_0 rfl rfl
theorem dX10_strollFrom_5 : decode cX10_strollFrom 5 = .ok (.putfield 9, 3) := dz_181 (n := 0) (r := 5) hz_X10_strollFrom_0 rfl rfl
theorem dX10_strollFrom_8 : decode cX10_strollFrom 8 = .ok (.aload_n 0, 1) := dz_42 (n := 0) (r := 8) hz_X10_strollFrom_0 rfl
theorem dX10_strollFrom_9 : decode cX10_strollFrom 9 = .ok (.iconst 0, 1) := dz_3 (n := 0) (r := 9) hz_X10_strollFrom_0 rfl
theorem dX10_strollFrom_10 : decode cX10_strollFrom 10 = .ok (.putfield 15, 3) := dz_181 (n := 0) (r := 10) hz_X10_strollFrom_0 rfl rfl
theorem dX10_strollFrom_13 : decode cX10_strollFrom 13 = .ok (.aload_n 1, 1) := dz_43 (n := 0) (r := 13) hz_X10_strollFrom_0 rfl
theorem dX10_strollFrom_14 : decode cX10_strollFrom 14 = .ok (.aload_n 2, 1) := dz_44 (n := 0) (r := 14) hz_X10_strollFrom_0 rfl
theorem dX10_strollFrom_15 : decode cX10_strollFrom 15 = .ok (.aload_n 0, 1) := dz_42 (n := 0) (r := 15) hz_X10_strollFrom_0 rfl
theorem dX10_strollFrom_16 : decode cX10_strollFrom 16 = .ok (.getfield 9, 3) := dz_180 (n := 0) (r := 16) hz_X10_strollFrom_0 rfl rfl
theorem dX10_strollFrom_19 : decode cX10_strollFrom 19 = .ok (.invokevirtual 27, 3) := dz_182 (n := 0) (r := 19) hz_X10_strollFrom_0 rfl rfl
theorem dX10_strollFrom_22 : decode cX10_strollFrom 22 = .ok (.istore 5, 2) := dz_54 (n := 0) (r := 22) hz_X10_strollFrom_0 rfl rfl
theorem dX10_strollFrom_24 : decode cX10_strollFrom 24 = .ok (.aload_n 0, 1) := dz_42 (n := 0) (r := 24) hz_X10_strollFrom_0 rfl
theorem dX10_strollFrom_25 : decode cX10_strollFrom 25 = .ok (.iload 5, 2) := dz_21 (n := 0) (r := 25) hz_X10_strollFrom_0 rfl rfl
theorem dX10_strollFrom_27 : decode cX10_strollFrom 27 = .ok (.putfield 30, 3) := dz_181 (n := 0) (r := 27) hz_X10_strollFrom_0 rfl rfl
theorem dX10_strollFrom_30 : decode cX10_strollFrom 30 = .ok (.aload_n 2, 1) := dz_44 (n := 0) (r := 30) hz_X10_strollFrom_0 rfl
theorem dX10_strollFrom_31 : decode cX10_strollFrom 31 = .ok (.getfield 33, 3) := dz_180 (n := 0) (r := 31) hz_X10_strollFrom_0 rfl rfl
theorem hz_X10_strollFrom_32 : (cX10_strollFrom.data.toList.drop 32).take 40 = [0, 33, 133, 55, 6, 3, 54, 8, 21, 8, 29, 162, 0, 117, 22, 6, 184, 0, 36, 55, 6, 22, 6, 43, 180, 0, 40, 184, 0, 43, 54, 9, 22, 6, 184, 0, 36, 55, 6, 43] := by decide +kernel
theorem dX10_strollFrom_34 : decode cX10_strollFrom 34 = .ok (.i2l, 1) := dz_133 (n := 32) (r := 2) hz_X10_strollFrom_32 rfl
theorem dX10_strollFrom_35 : decode cX10_strollFrom 35 = .ok (.lstore 6, 2) := dz_55 (n := 32) (r := 3) hz_X10_strollFrom_32 rfl rfl
theorem dX10_strollFrom_37 : decode cX10_strollFrom 37 = .ok (.iconst 0, 1) := dz_3 (n := 32) (r := 5) hz_X10_strollFrom_32 rfl
theorem dX10_strollFrom_38 : decode cX10_strollFrom 38 = .ok (.istore 8, 2) := dz_54 (n := 32) (r := 6) hz_X10_strollFrom_32 rfl rfl
theorem dX10_strollFrom_40 : decode cX10_strollFrom 40 = .ok (.iload 8, 2) := dz_21 (n := 32) (r := 8) hz_X10_strollFrom_32 rfl rfl
theorem dX10_strollFrom_42 : decode cX10_strollFrom 42 = .ok (.iload_n 3, 1) := dz_29 (n := 32) (r := 10) hz_X10_strollFrom_32 rfl
theorem dX10_strollFrom_43 : decode cX10_strollFrom 43 = .ok (.if_icmp .ge 117, 3) := dz_162 (n := 32) (r := 11) hz_X10_strollFrom_32 rfl (by decide +kernel)
theorem dX10_strollFrom_46 : decode cX10_strollFrom 46 = .ok (.lload 6, 2) := dz_22 (n := 32) (r := 14) hz_X10_strollFrom_32 rfl rfl
theorem dX10_strollFrom_48 : decode cX10_strollFrom 48 = .ok (.invokestatic 36, 3) := dz_184 (n := 32) (r := 16) hz_X10_strollFrom_32 rfl rfl
theorem dX10_strollFrom_51 : decode cX10_strollFrom 51 = .ok (.lstore 6, 2) := dz_55 (n := 32) (r := 19) hz_X10_strollFrom_32 rfl rfl
theorem dX10_strollFrom_53 : decode cX10_strollFrom 53 = .ok (.lload 6, 2) := dz_22 (n := 32) (r := 21) hz_X10_strollFrom_32 rfl rfl
theorem dX10_strollFrom_55 : decode cX10_strollFrom 55 = .ok (.aload_n 1, 1) := dz_43 (n := 32) (r := 23) hz_X10_strollFrom_32 rfl
theorem dX10_strollFrom_56 : decode cX10_strollFrom 56 = .ok (.getfield 40, 3) := dz_180 (n := 32) (r := 24) hz_X10_strollFrom_32 rfl rfl
theorem dX10_strollFrom_59 : decode cX10_strollFrom 59 = .ok (.invokestatic 43, 3) := dz_184 (n := 32) (r := 27) hz_X10_strollFrom_32 rfl rfl
theorem dX10_strollFrom_62 : decode cX10_strollFrom 62 = .ok (.istore 9, 2) := dz_54 (n := 32) (r := 30) hz_X10_strollFrom_32 rfl rfl
theorem hz_X10_strollFrom_64 : (cX10_strollFrom.data.toList.drop 64).take 40 = [22, 6, 184, 0, 36, 55, 6, 43, 44, 42, 180, 0, 9, 21, 9, 182, 0, 47, 54, 10, 44, 21, 9, 182, 0, 51, 154, 0, 64, 22, 6, 16, 100, 184, 0, 43, 16, 100, 21, 4] := by decide +kernel
theorem dX10_strollFrom_64 : decode cX10_strollFrom 64 = .ok (.lload 6, 2) := dz_22 (n := 64) (r := 0) hz_X10_strollFrom_64 rfl rfl
theorem dX10_strollFrom_66 : decode cX10_strollFrom 66 = .ok (.invokestatic 36, 3) := dz_184 (n := 64) (r := 2) hz_X10_strollFrom_64 rfl rfl
theorem dX10_strollFrom_69 : decode cX10_strollFrom 69 = .ok (.lstore 6, 2) := dz_55 (n := 64) (r := 5) hz_X10_strollFrom_64 rfl rfl
theorem dX10_strollFrom_71 : decode cX10_strollFrom 71 = .ok (.aload_n 1, 1) := dz_43 (n := 64) (r := 7) hz_X10_strollFrom_64 rfl
theorem dX10_strollFrom_72 : decode cX10_strollFrom 72 = .ok (.aload_n 2, 1) := dz_44 (n := 64) (r := 8) hz_X10_strollFrom_64 rfl
theorem dX10_strollFrom_73 : decode cX10_strollFrom 73 = .ok (.aload_n 0, 1) := dz_42 (n := 64) (r := 9) hz_X10_strollFrom_64 rfl
theorem dX10_strollFrom_74 : decode cX10_strollFrom 74 = .ok (.getfield 9, 3) := dz_180 (n := 64) (r := 10) hz_X10_strollFrom_64 rfl rfl
theorem dX10_strollFrom_77 : decode cX10_strollFrom 77 = .ok (.iload 9, 2) := dz_21 (n := 64) (r := 13) hz_X10_strollFrom_64 rfl rfl
theorem dX10_strollFrom_79 : decode cX10_strollFrom 79 = .ok (.invokevirtual 47, 3) := dz_182 (n := 64) (r := 15) hz_X10_strollFrom_64 rfl rfl
theorem dX10_strollFrom_82 : decode cX10_strollFrom 82 = .ok (.istore 10, 2) := dz_54 (n := 64) (r := 18) hz_X10_strollFrom_64 rfl rfl
theorem dX10_strollFrom_84 : decode cX10_strollFrom 84 = .ok (.aload_n 2, 1) := dz_44 (n := 64) (r := 20) hz_X10_strollFrom_64 rfl
theorem dX10_strollFrom_85 : decode cX10_strollFrom 85 = .ok (.iload 9, 2) := dz_21 (n := 64) (r := 21) hz_X10_strollFrom_64 rfl rfl
theorem dX10_strollFrom_87 : decode cX10_strollFrom 87 = .ok (.invokevirtual 51, 3) := dz_182 (n := 64) (r := 23) hz_X10_strollFrom_64 rfl rfl
theorem dX10_strollFrom_90 : decode cX10_strollFrom 90 = .ok (.ifCond .ne 64, 3) := dz_154 (n := 64) (r := 26) hz_X10_strollFrom_64 rfl (by decide +kernel)
theorem dX10_strollFrom_93 : decode cX10_strollFrom 93 = .ok (.lload 6, 2) := dz_22 (n := 64) (r := 29) hz_X10_strollFrom_64 rfl rfl
theorem dX10_strollFrom_95 : decode cX10_strollFrom 95 = .ok (.bipush 100, 2) := dz_16 (n := 64) (r := 31) hz_X10_strollFrom_64 rfl rfl
theorem hz_X10_strollFrom_96 : (cX10_strollFrom.data.toList.drop 96).take 40 = [100, 184, 0, 43, 16, 100, 21, 4, 21, 10, 104, 100, 162, 0, 46, 42, 89, 180, 0, 9, 4, 21, 9, 120, 130, 181, 0, 9, 42, 89, 180, 0, 15, 4, 96, 181, 0, 15, 21, 5] := by decide +kernel
theorem dX10_strollFrom_97 : decode cX10_strollFrom 97 = .ok (.invokestatic 43, 3) := dz_184 (n := 96) (r := 1) hz_X10_strollFrom_96 rfl rfl
theorem dX10_strollFrom_100 : decode cX10_strollFrom 100 = .ok (.bipush 100, 2) := dz_16 (n := 96) (r := 4) hz_X10_strollFrom_96 rfl rfl
theorem dX10_strollFrom_102 : decode cX10_strollFrom 102 = .ok (.iload 4, 2) := dz_21 (n := 96) (r := 6) hz_X10_strollFrom_96 rfl rfl
theorem dX10_strollFrom_104 : decode cX10_strollFrom 104 = .ok (.iload 10, 2) := dz_21 (n := 96) (r := 8) hz_X10_strollFrom_96 rfl rfl
theorem dX10_strollFrom_106 : decode cX10_strollFrom 106 = .ok (.imul, 1) := dz_104 (n := 96) (r := 10) hz_X10_strollFrom_96 rfl
theorem dX10_strollFrom_107 : decode cX10_strollFrom 107 = .ok (.isub, 1) := dz_100 (n := 96) (r := 11) hz_X10_strollFrom_96 rfl
theorem dX10_strollFrom_108 : decode cX10_strollFrom 108 = .ok (.if_icmp .ge 46, 3) := dz_162 (n := 96) (r := 12) hz_X10_strollFrom_96 rfl (by decide +kernel)
theorem dX10_strollFrom_111 : decode cX10_strollFrom 111 = .ok (.aload_n 0, 1) := dz_42 (n := 96) (r := 15) hz_X10_strollFrom_96 rfl
theorem dX10_strollFrom_112 : decode cX10_strollFrom 112 = .ok (.dup, 1) := dz_89 (n := 96) (r := 16) hz_X10_strollFrom_96 rfl
theorem dX10_strollFrom_113 : decode cX10_strollFrom 113 = .ok (.getfield 9, 3) := dz_180 (n := 96) (r := 17) hz_X10_strollFrom_96 rfl rfl
theorem dX10_strollFrom_116 : decode cX10_strollFrom 116 = .ok (.iconst 1, 1) := dz_4 (n := 96) (r := 20) hz_X10_strollFrom_96 rfl
theorem dX10_strollFrom_117 : decode cX10_strollFrom 117 = .ok (.iload 9, 2) := dz_21 (n := 96) (r := 21) hz_X10_strollFrom_96 rfl rfl
theorem dX10_strollFrom_119 : decode cX10_strollFrom 119 = .ok (.ishl, 1) := dz_120 (n := 96) (r := 23) hz_X10_strollFrom_96 rfl
theorem dX10_strollFrom_120 : decode cX10_strollFrom 120 = .ok (.ixor, 1) := dz_130 (n := 96) (r := 24) hz_X10_strollFrom_96 rfl
theorem dX10_strollFrom_121 : decode cX10_strollFrom 121 = .ok (.putfield 9, 3) := dz_181 (n := 96) (r := 25) hz_X10_strollFrom_96 rfl rfl
theorem dX10_strollFrom_124 : decode cX10_strollFrom 124 = .ok (.aload_n 0, 1) := dz_42 (n := 96) (r := 28) hz_X10_strollFrom_96 rfl
theorem dX10_strollFrom_125 : decode cX10_strollFrom 125 = .ok (.dup, 1) := dz_89 (n := 96) (r := 29) hz_X10_strollFrom_96 rfl
theorem dX10_strollFrom_126 : decode cX10_strollFrom 126 = .ok (.getfield 15, 3) := dz_180 (n := 96) (r := 30) hz_X10_strollFrom_96 rfl rfl
theorem hz_X10_strollFrom_128 : (cX10_strollFrom.data.toList.drop 128).take 40 = [15, 4, 96, 181, 0, 15, 21, 5, 21, 10, 96, 54, 5, 42, 42, 180, 0, 30, 21, 5, 184, 0, 55, 181, 0, 30, 132, 8, 1, 167, 255, 139, 177] := by decide +kernel
theorem dX10_strollFrom_129 : decode cX10_strollFrom 129 = .ok (.iconst 1, 1) := dz_4 (n := 128) (r := 1) hz_X10_strollFrom_128 rfl
theorem dX10_strollFrom_130 : decode cX10_strollFrom 130 = .ok (.iadd, 1) := dz_96 (n := 128) (r := 2) hz_X10_strollFrom_128 rfl
theorem dX10_strollFrom_131 : decode cX10_strollFrom 131 = .ok (.putfield 15, 3) := dz_181 (n := 128) (r := 3) hz_X10_strollFrom_128 rfl rfl
theorem dX10_strollFrom_134 : decode cX10_strollFrom 134 = .ok (.iload 5, 2) := dz_21 (n := 128) (r := 6) hz_X10_strollFrom_128 rfl rfl
theorem dX10_strollFrom_136 : decode cX10_strollFrom 136 = .ok (.iload 10, 2) := dz_21 (n := 128) (r := 8) hz_X10_strollFrom_128 rfl rfl
theorem dX10_strollFrom_138 : decode cX10_strollFrom 138 = .ok (.iadd, 1) := dz_96 (n := 128) (r := 10) hz_X10_strollFrom_128 rfl
theorem dX10_strollFrom_139 : decode cX10_strollFrom 139 = .ok (.istore 5, 2) := dz_54 (n := 128) (r := 11) hz_X10_strollFrom_128 rfl rfl
theorem dX10_strollFrom_141 : decode cX10_strollFrom 141 = .ok (.aload_n 0, 1) := dz_42 (n := 128) (r := 13) hz_X10_strollFrom_128 rfl
theorem dX10_strollFrom_142 : decode cX10_strollFrom 142 = .ok (.aload_n 0, 1) := dz_42 (n := 128) (r := 14) hz_X10_strollFrom_128 rfl
theorem dX10_strollFrom_143 : decode cX10_strollFrom 143 = .ok (.getfield 30, 3) := dz_180 (n := 128) (r := 15) hz_X10_strollFrom_128 rfl rfl
theorem dX10_strollFrom_146 : decode cX10_strollFrom 146 = .ok (.iload 5, 2) := dz_21 (n := 128) (r := 18) hz_X10_strollFrom_128 rfl rfl
theorem dX10_strollFrom_148 : decode cX10_strollFrom 148 = .ok (.invokestatic 55, 3) := dz_184 (n := 128) (r := 20) hz_X10_strollFrom_128 rfl rfl
theorem dX10_strollFrom_151 : decode cX10_strollFrom 151 = .ok (.putfield 30, 3) := dz_181 (n := 128) (r := 23) hz_X10_strollFrom_128 rfl rfl
theorem dX10_strollFrom_154 : decode cX10_strollFrom 154 = .ok (.iinc 8 1, 3) := dz_132 (n := 128) (r := 26) hz_X10_strollFrom_128 rfl rfl rfl
theorem dX10_strollFrom_157 : decode cX10_strollFrom 157 = .ok (.goto (-117), 3) := dz_167 (n := 128) (r := 29) hz_X10_strollFrom_128 rfl (by decide +kernel)
theorem hz_X10_strollFrom_160 : (cX10_strollFrom.data.toList.drop 160).take 40 = [177] := by decide +kernel
theorem dX10_strollFrom_160 : decode cX10_strollFrom 160 = .ok (.return_, 1) := dz_177 (n := 160) (r := 0) hz_X10_strollFrom_160 rfl
theorem hz_X11_init_0 : (cX11_init.data.toList.drop 0).take 40 = [42, 183, 0, 3, 42, 187, 0, 9, 89, 183, 0, 11, 181, 0, 12, 42, 42, 180, 0, 12, 180, 0, 16, 181, 0, 20, 42, 187, 0, 21, 89, 183, 0, 23, 181, 0, 24, 42, 187, 0] := by decide +kernel
theorem dX11_init_0 : decode cX11_init 0 = .ok (.aload_n 0, 1) := dz_42 (n := 0) (r := 0) hz_X11_init_0 rfl
theorem dX11_init_1 : decode cX11_init 1 = .ok (.invokespecial 3, 3) := dz_183 (n := 0) (r := 1) hz_X11_init_0 rfl rfl
theorem dX11_init_4 : decode cX11_init 4 = .ok (.aload_n 0, 1) := dz_42 (n := 0) (r := 4) hz_X11_init_0 rfl
theorem dX11_init_5 : decode cX11_init 5 = .ok (.new 9, 3) := dz_187 (n := 0) (r := 5) hz_X11_init_0 rfl rfl
theorem dX11_init_8 : decode cX11_init 8 = .ok (.dup, 1) := dz_89 (n := 0) (r := 8) hz_X11_init_0 rfl
theorem dX11_init_9 : decode cX11_init 9 = .ok (.invokespecial 11, 3) := dz_183 (n := 0) (r := 9) hz_X11_init_0 rfl rfl
theorem dX11_init_12 : decode cX11_init 12 = .ok (.putfield 12, 3) := dz_181 (n := 0) (r := 12) hz_X11_init_0 rfl rfl
theorem dX11_init_15 : decode cX11_init 15 = .ok (.aload_n 0, 1) := dz_42 (n := 0) (r := 15) hz_X11_init_0 rfl
theorem dX11_init_16 : decode cX11_init 16 = .ok (.aload_n 0, 1) := dz_42 (n := 0) (r := 16) hz_X11_init_0 rfl
theorem dX11_init_17 : decode cX11_init 17 = .ok (.getfield 12, 3) := dz_180 (n := 0) (r := 17) hz_X11_init_0 rfl rfl
theorem dX11_init_20 : decode cX11_init 20 = .ok (.getfield 16, 3) := dz_180 (n := 0) (r := 20) hz_X11_init_0 rfl rfl
theorem dX11_init_23 : decode cX11_init 23 = .ok (.putfield 20, 3) := dz_181 (n := 0) (r := 23) hz_X11_init_0 rfl rfl
theorem dX11_init_26 : decode cX11_init 26 = .ok (.aload_n 0, 1) := dz_42 (n := 0) (r := 26) hz_X11_init_0 rfl
theorem dX11_init_27 : decode cX11_init 27 = .ok (.new 21, 3) := dz_187 (n := 0) (r := 27) hz_X11_init_0 rfl rfl
theorem dX11_init_30 : decode cX11_init 30 = .ok (.dup, 1) := dz_89 (n := 0) (r := 30) hz_X11_init_0 rfl
theorem dX11_init_31 : decode cX11_init 31 = .ok (.invokespecial 23, 3) := dz_183 (n := 0) (r := 31) hz_X11_init_0 rfl rfl
theorem hz_X11_init_32 : (cX11_init.data.toList.drop 32).take 40 = [0, 23, 181, 0, 24, 42, 187, 0, 28, 89, 183, 0, 30, 181, 0, 31, 42, 187, 0, 35, 89, 183, 0, 37, 181, 0, 38, 42, 6, 189, 0, 42, 181, 0, 44, 3, 60, 27, 42, 180] := by decide +kernel
theorem dX11_init_34 : decode cX11_init 34 = .ok (.putfield 24, 3) := dz_181 (n := 32) (r := 2) hz_X11_init_32 rfl rfl
theorem dX11_init_37 : decode cX11_init 37 = .ok (.aload_n 0, 1) := dz_42 (n := 32) (r := 5) hz_X11_init_32 rfl
theorem dX11_init_38 : decode cX11_init 38 = .ok (.new 28, 3) := dz_187 (n := 32) (r := 6) hz_X11_init_32 rfl rfl
theorem dX11_init_41 : decode cX11_init 41 = .ok (.dup, 1) := dz_89 (n := 32) (r := 9) hz_X11_init_32 rfl
theorem dX11_init_42 : decode cX11_init 42 = .ok (.invokespecial 30, 3) := dz_183 (n := 32) (r := 10) hz_X11_init_32 rfl rfl
theorem dX11_init_45 : decode cX11_init 45 = .ok (.putfield 31, 3) := dz_181 (n := 32) (r := 13) hz_X11_init_32 rfl rfl
theorem dX11_init_48 : decode cX11_init 48 = .ok (.aload_n 0, 1) := dz_42 (n := 32) (r := 16) hz_X11_init_32 rfl
theorem dX11_init_49 : decode cX11_init 49 = .ok (.new 35, 3) := dz_187 (n := 32) (r := 17) hz_X11_init_32 rfl rfl
theorem dX11_init_52 : decode cX11_init 52 = .ok (.dup, 1) := dz_89 (n := 32) (r := 20) hz_X11_init_32 rfl
theorem dX11_init_53 : decode cX11_init 53 = .ok (.invokespecial 37, 3) := dz_183 (n := 32) (r := 21) hz_X11_init_32 rfl rfl
theorem dX11_init_56 : decode cX11_init 56 = .ok (.putfield 38, 3) := dz_181 (n := 32) (r := 24) hz_X11_init_32 rfl rfl
theorem dX11_init_59 : decode cX11_init 59 = .ok (.aload_n 0, 1) := dz_42 (n := 32) (r := 27) hz_X11_init_32 rfl
theorem dX11_init_60 : decode cX11_init 60 = .ok (.iconst 3, 1) := dz_6 (n := 32) (r := 28) hz_X11_init_32 rfl
theorem dX11_init_61 : decode cX11_init 61 = .ok (.anewarray 42, 3) := dz_189 (n := 32) (r := 29) hz_X11_init_32 rfl rfl
theorem hz_X11_init_64 : (cX11_init.data.toList.drop 64).take 40 = [181, 0, 44, 3, 60, 27, 42, 180, 0, 44, 190, 162, 0, 22, 42, 180, 0, 44, 27, 187, 0, 42, 89, 183, 0, 48, 83, 132, 1, 1, 167, 255, 231, 42, 187, 0, 49, 89, 183, 0] := by decide +kernel
theorem dX11_init_64 : decode cX11_init 64 = .ok (.putfield 44, 3) := dz_181 (n := 64) (r := 0) hz_X11_init_64 rfl rfl
theorem dX11_init_67 : decode cX11_init 67 = .ok (.iconst 0, 1) := dz_3 (n := 64) (r := 3) hz_X11_init_64 rfl
theorem dX11_init_68 : decode cX11_init 68 = .ok (.istore_n 1, 1) := dz_60 (n := 64) (r := 4) hz_X11_init_64 rfl
theorem dX11_init_69 : decode cX11_init 69 = .ok (.iload_n 1, 1) := dz_27 (n := 64) (r := 5) hz_X11_init_64 rfl
theorem dX11_init_70 : decode cX11_init 70 = .ok (.aload_n 0, 1) := dz_42 (n := 64) (r := 6) hz_X11_init_64 rfl
theorem dX11_init_71 : decode cX11_init 71 = .ok (.getfield 44, 3) := dz_180 (n := 64) (r := 7) hz_X11_init_64 rfl rfl
theorem dX11_init_74 : decode cX11_init 74 = .ok (.arraylength, 1) := dz_190 (n := 64) (r := 10) hz_X11_init_64 rfl
theorem dX11_init_75 : decode cX11_init 75 = .ok (.if_icmp .ge 22, 3) := dz_162 (n := 64) (r := 11) hz_X11_init_64 rfl (by decide +kernel)
theorem dX11_init_78 : decode cX11_init 78 = .ok (.aload_n 0, 1) := dz_42 (n := 64) (r := 14) hz_X11_init_64 rfl
theorem dX11_init_79 : decode cX11_init 79 = .ok (.getfield 44, 3) := dz_180 (n := 64) (r := 15) hz_X11_init_64 rfl rfl
theorem dX11_init_82 : decode cX11_init 82 = .ok (.iload_n 1, 1) := dz_27 (n := 64) (r := 18) hz_X11_init_64 rfl
theorem dX11_init_83 : decode cX11_init 83 = .ok (.new 42, 3) := dz_187 (n := 64) (r := 19) hz_X11_init_64 rfl rfl
theorem dX11_init_86 : decode cX11_init 86 = .ok (.dup, 1) := dz_89 (n := 64) (r := 22) hz_X11_init_64 rfl
theorem dX11_init_87 : decode cX11_init 87 = .ok (.invokespecial 48, 3) := dz_183 (n := 64) (r := 23) hz_X11_init_64 rfl rfl
theorem dX11_init_90 : decode cX11_init 90 = .ok (.aastore, 1) := dz_83 (n := 64) (r := 26) hz_X11_init_64 rfl
theorem dX11_init_91 : decode cX11_init 91 = .ok (.iinc 1 1, 3) := dz_132 (n := 64) (r := 27) hz_X11_init_64 rfl rfl rfl
theorem dX11_init_94 : decode cX11_init 94 = .ok (.goto (-25), 3) := dz_167 (n := 64) (r := 30) hz_X11_init_64 rfl (by decide +kernel)
theorem hz_X11_init_96 : (cX11_init.data.toList.drop 96).take 40 = [231, 42, 187, 0, 49, 89, 183, 0, 51, 181, 0, 52, 42, 187, 0, 49, 89, 183, 0, 51, 181, 0, 56, 42, 187, 0, 59, 89, 183, 0, 61, 181, 0, 62, 42, 187, 0, 66, 89, 183] := by decide +kernel
theorem dX11_init_97 : decode cX11_init 97 = .ok (.aload_n 0, 1) := dz_42 (n := 96) (r := 1) hz_X11_init_96 rfl
theorem dX11_init_98 : decode cX11_init 98 = .ok (.new 49, 3) := dz_187 (n := 96) (r := 2) hz_X11_init_96 rfl rfl
theorem dX11_init_101 : decode cX11_init 101 = .ok (.dup, 1) := dz_89 (n := 96) (r := 5) hz_X11_init_96 rfl
theorem dX11_init_102 : decode cX11_init 102 = .ok (.invokespecial 51, 3) := dz_183 (n := 96) (r := 6) hz_X11_init_96 rfl rfl
theorem dX11_init_105 : decode cX11_init 105 = .ok (.putfield 52, 3) := dz_181 (n := 96) (r := 9) hz_X11_init_96 rfl rfl
theorem dX11_init_108 : decode cX11_init 108 = .ok (.aload_n 0, 1) := dz_42 (n := 96) (r := 12) hz_X11_init_96 rfl
theorem dX11_init_109 : decode cX11_init 109 = .ok (.new 49, 3) := dz_187 (n := 96) (r := 13) hz_X11_init_96 rfl rfl
theorem dX11_init_112 : decode cX11_init 112 = .ok (.dup, 1) := dz_89 (n := 96) (r := 16) hz_X11_init_96 rfl
theorem dX11_init_113 : decode cX11_init 113 = .ok (.invokespecial 51, 3) := dz_183 (n := 96) (r := 17) hz_X11_init_96 rfl rfl
theorem dX11_init_116 : decode cX11_init 116 = .ok (.putfield 56, 3) := dz_181 (n := 96) (r := 20) hz_X11_init_96 rfl rfl
theorem dX11_init_119 : decode cX11_init 119 = .ok (.aload_n 0, 1) := dz_42 (n := 96) (r := 23) hz_X11_init_96 rfl
theorem dX11_init_120 : decode cX11_init 120 = .ok (.new 59, 3) := dz_187 (n := 96) (r := 24) hz_X11_init_96 rfl rfl
theorem dX11_init_123 : decode cX11_init 123 = .ok (.dup, 1) := dz_89 (n := 96) (r := 27) hz_X11_init_96 rfl
theorem dX11_init_124 : decode cX11_init 124 = .ok (.invokespecial 61, 3) := dz_183 (n := 96) (r := 28) hz_X11_init_96 rfl rfl
theorem dX11_init_127 : decode cX11_init 127 = .ok (.putfield 62, 3) := dz_181 (n := 96) (r := 31) hz_X11_init_96 rfl rfl
theorem hz_X11_init_128 : (cX11_init.data.toList.drop 128).take 40 = [0, 62, 42, 187, 0, 66, 89, 183, 0, 68, 181, 0, 69, 42, 187, 0, 73, 89, 183, 0, 75, 181, 0, 76, 42, 187, 0, 80, 89, 183, 0, 82, 181, 0, 83, 42, 17, 2, 65, 188] := by decide +kernel
theorem dX11_init_130 : decode cX11_init 130 = .ok (.aload_n 0, 1) := dz_42 (n := 128) (r := 2) hz_X11_init_128 rfl
theorem dX11_init_131 : decode cX11_init 131 = .ok (.new 66, 3) := dz_187 (n := 128) (r := 3) hz_X11_init_128 rfl rfl
theorem dX11_init_134 : decode cX11_init 134 = .ok (.dup, 1) := dz_89 (n := 128) (r := 6) hz_X11_init_128 rfl
theorem dX11_init_135 : decode cX11_init 135 = .ok (.invokespecial 68, 3) := dz_183 (n := 128) (r := 7) hz_X11_init_128 rfl rfl
theorem dX11_init_138 : decode cX11_init 138 = .ok (.putfield 69, 3) := dz_181 (n := 128) (r := 10) hz_X11_init_128 rfl rfl
theorem dX11_init_141 : decode cX11_init 141 = .ok (.aload_n 0, 1) := dz_42 (n := 128) (r := 13) hz_X11_init_128 rfl
theorem dX11_init_142 : decode cX11_init 142 = .ok (.new 73, 3) := dz_187 (n := 128) (r := 14) hz_X11_init_128 rfl rfl
theorem dX11_init_145 : decode cX11_init 145 = .ok (.dup, 1) := dz_89 (n := 128) (r := 17) hz_X11_init_128 rfl
theorem dX11_init_146 : decode cX11_init 146 = .ok (.invokespecial 75, 3) := dz_183 (n := 128) (r := 18) hz_X11_init_128 rfl rfl
theorem dX11_init_149 : decode cX11_init 149 = .ok (.putfield 76, 3) := dz_181 (n := 128) (r := 21) hz_X11_init_128 rfl rfl
theorem dX11_init_152 : decode cX11_init 152 = .ok (.aload_n 0, 1) := dz_42 (n := 128) (r := 24) hz_X11_init_128 rfl
theorem dX11_init_153 : decode cX11_init 153 = .ok (.new 80, 3) := dz_187 (n := 128) (r := 25) hz_X11_init_128 rfl rfl
theorem dX11_init_156 : decode cX11_init 156 = .ok (.dup, 1) := dz_89 (n := 128) (r := 28) hz_X11_init_128 rfl
theorem dX11_init_157 : decode cX11_init 157 = .ok (.invokespecial 82, 3) := dz_183 (n := 128) (r := 29) hz_X11_init_128 rfl rfl
theorem hz_X11_init_160 : (cX11_init.data.toList.drop 160).take 40 = [181, 0, 83, 42, 17, 2, 65, 188, 11, 181, 0, 87, 42, 17, 1, 0, 188, 10, 181, 0, 91, 42, 2, 181, 0, 95, 42, 3, 181, 0, 99, 177] := by decide +kernel
theorem dX11_init_160 : decode cX11_init 160 = .ok (.putfield 83, 3) := dz_181 (n := 160) (r := 0) hz_X11_init_160 rfl rfl
theorem dX11_init_163 : decode cX11_init 163 = .ok (.aload_n 0, 1) := dz_42 (n := 160) (r := 3) hz_X11_init_160 rfl
theorem dX11_init_164 : decode cX11_init 164 = .ok (.sipush 577, 3) := dz_17 (n := 160) (r := 4) hz_X11_init_160 rfl (by decide +kernel)
theorem dX11_init_167 : decode cX11_init 167 = .ok (.newarray .long, 2) := dz_188_11 (n := 160) (r := 7) hz_X11_init_160 rfl
theorem dX11_init_169 : decode cX11_init 169 = .ok (.putfield 87, 3) := dz_181 (n := 160) (r := 9) hz_X11_init_160 rfl rfl
theorem dX11_init_172 : decode cX11_init 172 = .ok (.aload_n 0, 1) := dz_42 (n := 160) (r := 12) hz_X11_init_160 rfl
theorem dX11_init_173 : decode cX11_init 173 = .ok (.sipush 256, 3) := dz_17 (n := 160) (r := 13) hz_X11_init_160 rfl (by decide +kernel)
theorem dX11_init_176 : decode cX11_init 176 = .ok (.newarray .int, 2) := dz_188_10 (n := 160) (r := 16) hz_X11_init_160 rfl
theorem dX11_init_178 : decode cX11_init 178 = .ok (.putfield 91, 3) := dz_181 (n := 160) (r := 18) hz_X11_init_160 rfl rfl
theorem dX11_init_181 : decode cX11_init 181 = .ok (.aload_n 0, 1) := dz_42 (n := 160) (r := 21) hz_X11_init_160 rfl
theorem dX11_init_182 : decode cX11_init 182 = .ok (.iconst (-1), 1) := dz_2 (n := 160) (r := 22) hz_X11_init_160 rfl
theorem dX11_init_183 : decode cX11_init 183 = .ok (.putfield 95, 3) := dz_181 (n := 160) (r := 23) hz_X11_init_160 rfl rfl
theorem dX11_init_186 : decode cX11_init 186 = .ok (.aload_n 0, 1) := dz_42 (n := 160) (r := 26) hz_X11_init_160 rfl
theorem dX11_init_187 : decode cX11_init 187 = .ok (.iconst 0, 1) := dz_3 (n := 160) (r := 27) hz_X11_init_160 rfl
theorem dX11_init_188 : decode cX11_init 188 = .ok (.putfield 99, 3) := dz_181 (n := 160) (r := 28) hz_X11_init_160 rfl rfl
theorem dX11_init_191 : decode cX11_init 191 = .ok (.return_, 1) := dz_177 (n := 160) (r := 31) hz_X11_init_160 rfl
theorem hz_X11_feed_0 : (cX11_feed.data.toList.drop 0).take 40 = [42, 180, 0, 20, 180, 0, 102, 16, 20, 96, 17, 7, 208, 164, 0, 5, 2, 172, 42, 180, 0, 20, 27, 182, 0, 107, 42, 180, 0, 20, 28, 182, 0, 107, 42, 180, 0, 20, 29, 182] := by decide +kernel
theorem dX11_feed_0 : decode cX11_feed 0 = .ok (.aload_n 0, 1) := dz_42 (n := 0) (r := 0) hz_X11_feed_0 rfl
theorem dX11_feed_1 : decode cX11_feed 1 = .ok (.getfield 20, 3) := dz_180 (n := 0) (r := 1) hz_X11_feed_0 rfl rfl
theorem dX11_feed_4 : decode cX11_feed 4 = .ok (.getfield 102, 3) := dz_180 (n := 0) (r := 4) hz_X11_feed_0 rfl rfl
theorem dX11_feed_7 : decode cX11_feed 7 = .ok (.bipush 20, 2) := dz_16 (n := 0) (r := 7) hz_X11_feed_0 rfl rfl
theorem dX11_feed_9 : decode cX11_feed 9 = .ok (.iadd, 1) := dz_96 (n := 0) (r := 9) hz_X11_feed_0 rfl
theorem dX11_feed_10 : decode cX11_feed 10 = .ok (.sipush 2000, 3) := dz_17 (n := 0) (r := 10) hz_X11_feed_0 rfl (by decide +kernel)
theorem dX11_feed_13 : decode cX11_feed 13 = .ok (.if_icmp .le 5, 3) := dz_164 (n := 0) (r := 13) hz_X11_feed_0 rfl (by decide +kernel)
theorem dX11_feed_16 : decode cX11_feed 16 = .ok (.iconst (-1), 1) := dz_2 (n := 0) (r := 16) hz_X11_feed_0 rfl
theorem dX11_feed_17 : decode cX11_feed 17 = .ok (.ireturn, 1) := dz_172 (n := 0) (r := 17) hz_X11_feed_0 rfl
theorem dX11_feed_18 : decode cX11_feed 18 = .ok (.aload_n 0, 1) := dz_42 (n := 0) (r := 18) hz_X11_feed_0 rfl
theorem dX11_feed_19 : decode cX11_feed 19 = .ok (.getfield 20, 3) := dz_180 (n := 0) (r := 19) hz_X11_feed_0 rfl rfl
theorem dX11_feed_22 : decode cX11_feed 22 = .ok (.iload_n 1, 1) := dz_27 (n := 0) (r := 22) hz_X11_feed_0 rfl
theorem dX11_feed_23 : decode cX11_feed 23 = .ok (.invokevirtual 107, 3) := dz_182 (n := 0) (r := 23) hz_X11_feed_0 rfl rfl
theorem dX11_feed_26 : decode cX11_feed 26 = .ok (.aload_n 0, 1) := dz_42 (n := 0) (r := 26) hz_X11_feed_0 rfl
theorem dX11_feed_27 : decode cX11_feed 27 = .ok (.getfield 20, 3) := dz_180 (n := 0) (r := 27) hz_X11_feed_0 rfl rfl
theorem dX11_feed_30 : decode cX11_feed 30 = .ok (.iload_n 2, 1) := dz_28 (n := 0) (r := 30) hz_X11_feed_0 rfl
theorem dX11_feed_31 : decode cX11_feed 31 = .ok (.invokevirtual 107, 3) := dz_182 (n := 0) (r := 31) hz_X11_feed_0 rfl rfl
theorem hz_X11_feed_32 : (cX11_feed.data.toList.drop 32).take 40 = [0, 107, 42, 180, 0, 20, 29, 182, 0, 107, 42, 180, 0, 20, 21, 4, 182, 0, 107, 42, 180, 0, 20, 21, 5, 182, 0, 107, 42, 180, 0, 20, 180, 0, 102, 172] := by decide +kernel
theorem dX11_feed_34 : decode cX11_feed 34 = .ok (.aload_n 0, 1) := dz_42 (n := 32) (r := 2) hz_X11_feed_32 rfl
theorem dX11_feed_35 : decode cX11_feed 35 = .ok (.getfield 20, 3) := dz_180 (n := 32) (r := 3) hz_X11_feed_32 rfl rfl
theorem dX11_feed_38 : decode cX11_feed 38 = .ok (.iload_n 3, 1) := dz_29 (n := 32) (r := 6) hz_X11_feed_32 rfl
theorem dX11_feed_39 : decode cX11_feed 39 = .ok (.invokevirtual 107, 3) := dz_182 (n := 32) (r := 7) hz_X11_feed_32 rfl rfl
theorem dX11_feed_42 : decode cX11_feed 42 = .ok (.aload_n 0, 1) := dz_42 (n := 32) (r := 10) hz_X11_feed_32 rfl
theorem dX11_feed_43 : decode cX11_feed 43 = .ok (.getfield 20, 3) := dz_180 (n := 32) (r := 11) hz_X11_feed_32 rfl rfl
theorem dX11_feed_46 : decode cX11_feed 46 = .ok (.iload 4, 2) := dz_21 (n := 32) (r := 14) hz_X11_feed_32 rfl rfl
theorem dX11_feed_48 : decode cX11_feed 48 = .ok (.invokevirtual 107, 3) := dz_182 (n := 32) (r := 16) hz_X11_feed_32 rfl rfl
theorem dX11_feed_51 : decode cX11_feed 51 = .ok (.aload_n 0, 1) := dz_42 (n := 32) (r := 19) hz_X11_feed_32 rfl
theorem dX11_feed_52 : decode cX11_feed 52 = .ok (.getfield 20, 3) := dz_180 (n := 32) (r := 20) hz_X11_feed_32 rfl rfl
theorem dX11_feed_55 : decode cX11_feed 55 = .ok (.iload 5, 2) := dz_21 (n := 32) (r := 23) hz_X11_feed_32 rfl rfl
theorem dX11_feed_57 : decode cX11_feed 57 = .ok (.invokevirtual 107, 3) := dz_182 (n := 32) (r := 25) hz_X11_feed_32 rfl rfl
theorem dX11_feed_60 : decode cX11_feed 60 = .ok (.aload_n 0, 1) := dz_42 (n := 32) (r := 28) hz_X11_feed_32 rfl
theorem dX11_feed_61 : decode cX11_feed 61 = .ok (.getfield 20, 3) := dz_180 (n := 32) (r := 29) hz_X11_feed_32 rfl rfl
theorem hz_X11_feed_64 : (cX11_feed.data.toList.drop 64).take 40 = [180, 0, 102, 172] := by decide +kernel
theorem dX11_feed_64 : decode cX11_feed 64 = .ok (.getfield 102, 3) := dz_180 (n := 64) (r := 0) hz_X11_feed_64 rfl rfl
theorem dX11_feed_67 : decode cX11_feed 67 = .ok (.ireturn, 1) := dz_172 (n := 64) (r := 3) hz_X11_feed_64 rfl
theorem hz_X11_back_0 : (cX11_back.data.toList.drop 0).take 40 = [27, 155, 0, 14, 27, 42, 180, 0, 20, 180, 0, 102, 164, 0, 5, 2, 172, 42, 180, 0, 20, 89, 180, 0, 102, 27, 100, 181, 0, 102, 42, 180, 0, 20, 180, 0, 102, 172] := by decide +kernel
theorem dX11_back_0 : decode cX11_back 0 = .ok (.iload_n 1, 1) := dz_27 (n := 0) (r := 0) hz_X11_back_0 rfl
theorem dX11_back_1 : decode cX11_back 1 = .ok (.ifCond .lt 14, 3) := dz_155 (n := 0) (r := 1) hz_X11_back_0 rfl (by decide +kernel)
theorem dX11_back_4 : decode cX11_back 4 = .ok (.iload_n 1, 1) := dz_27 (n := 0) (r := 4) hz_X11_back_0 rfl
theorem dX11_back_5 : decode cX11_back 5 = .ok (.aload_n 0, 1) := dz_42 (n := 0) (r := 5) hz_X11_back_0 rfl
theorem dX11_back_6 : decode cX11_back 6 = .ok (.getfield 20, 3) := dz_180 (n := 0) (r := 6) hz_X11_back_0 rfl rfl
theorem dX11_back_9 : decode cX11_back 9 = .ok (.getfield 102, 3) := dz_180 (n := 0) (r := 9) hz_X11_back_0 rfl rfl
theorem dX11_back_12 : decode cX11_back 12 = .ok (.if_icmp .le 5, 3) := dz_164 (n := 0) (r := 12) hz_X11_back_0 rfl (by decide +kernel)
theorem dX11_back_15 : decode cX11_back 15 = .ok (.iconst (-1), 1) := dz_2 (n := 0) (r := 15) hz_X11_back_0 rfl
theorem dX11_back_16 : decode cX11_back 16 = .ok (.ireturn, 1) := dz_172 (n := 0) (r := 16) hz_X11_back_0 rfl
theorem dX11_back_17 : decode cX11_back 17 = .ok (.aload_n 0, 1) := dz_42 (n := 0) (r := 17) hz_X11_back_0 rfl
theorem dX11_back_18 : decode cX11_back 18 = .ok (.getfield 20, 3) := dz_180 (n := 0) (r := 18) hz_X11_back_0 rfl rfl
theorem dX11_back_21 : decode cX11_back 21 = .ok (.dup, 1) := dz_89 (n := 0) (r := 21) hz_X11_back_0 rfl
theorem dX11_back_22 : decode cX11_back 22 = .ok (.getfield 102, 3) := dz_180 (n := 0) (r := 22) hz_X11_back_0 rfl rfl
theorem dX11_back_25 : decode cX11_back 25 = .ok (.iload_n 1, 1) := dz_27 (n := 0) (r := 25) hz_X11_back_0 rfl
theorem dX11_back_26 : decode cX11_back 26 = .ok (.isub, 1) := dz_100 (n := 0) (r := 26) hz_X11_back_0 rfl
theorem dX11_back_27 : decode cX11_back 27 = .ok (.putfield 102, 3) := dz_181 (n := 0) (r := 27) hz_X11_back_0 rfl rfl
theorem dX11_back_30 : decode cX11_back 30 = .ok (.aload_n 0, 1) := dz_42 (n := 0) (r := 30) hz_X11_back_0 rfl
theorem dX11_back_31 : decode cX11_back 31 = .ok (.getfield 20, 3) := dz_180 (n := 0) (r := 31) hz_X11_back_0 rfl rfl
theorem hz_X11_back_32 : (cX11_back.data.toList.drop 32).take 40 = [0, 20, 180, 0, 102, 172] := by decide +kernel
theorem dX11_back_34 : decode cX11_back 34 = .ok (.getfield 102, 3) := dz_180 (n := 32) (r := 2) hz_X11_back_32 rfl rfl
theorem dX11_back_37 : decode cX11_back 37 = .ok (.ireturn, 1) := dz_172 (n := 32) (r := 5) hz_X11_back_32 rfl
theorem hz_X11_read_0 : (cX11_read.data.toList.drop 0).take 40 = [42, 180, 0, 12, 182, 0, 111, 42, 180, 0, 20, 3, 181, 0, 102, 42, 42, 180, 0, 12, 180, 0, 114, 181, 0, 95, 42, 180, 0, 12, 180, 0, 115, 154, 0, 7, 42, 182, 0, 118] := by decide +kernel
theorem dX11_read_0 : decode cX11_read 0 = .ok (.aload_n 0, 1) := dz_42 (n := 0) (r := 0) hz_X11_read_0 rfl
theorem dX11_read_1 : decode cX11_read 1 = .ok (.getfield 12, 3) := dz_180 (n := 0) (r := 1) hz_X11_read_0 rfl rfl
theorem dX11_read_4 : decode cX11_read 4 = .ok (.invokevirtual 111, 3) := dz_182 (n := 0) (r := 4) hz_X11_read_0 rfl rfl
theorem dX11_read_7 : decode cX11_read 7 = .ok (.aload_n 0, 1) := dz_42 (n := 0) (r := 7) hz_X11_read_0 rfl
theorem dX11_read_8 : decode cX11_read 8 = .ok (.getfield 20, 3) := dz_180 (n := 0) (r := 8) hz_X11_read_0 rfl rfl
theorem dX11_read_11 : decode cX11_read 11 = .ok (.iconst 0, 1) := dz_3 (n := 0) (r := 11) hz_X11_read_0 rfl
theorem dX11_read_12 : decode cX11_read 12 = .ok (.putfield 102, 3) := dz_181 (n := 0) (r := 12) hz_X11_read_0 rfl rfl
theorem dX11_read_15 : decode cX11_read 15 = .ok (.aload_n 0, 1) := dz_42 (n := 0) (r := 15) hz_X11_read_0 rfl
theorem dX11_read_16 : decode cX11_read 16 = .ok (.aload_n 0, 1) := dz_42 (n := 0) (r := 16) hz_X11_read_0 rfl
theorem dX11_read_17 : decode cX11_read 17 = .ok (.getfield 12, 3) := dz_180 (n := 0) (r := 17) hz_X11_read_0 rfl rfl
theorem dX11_read_20 : decode cX11_read 20 = .ok (.getfield 114, 3) := dz_180 (n := 0) (r := 20) hz_X11_read_0 rfl rfl
theorem dX11_read_23 : decode cX11_read 23 = .ok (.putfield 95, 3) := dz_181 (n := 0) (r := 23) hz_X11_read_0 rfl rfl
theorem dX11_read_26 : decode cX11_read 26 = .ok (.aload_n 0, 1) := dz_42 (n := 0) (r := 26) hz_X11_read_0 rfl
theorem dX11_read_27 : decode cX11_read 27 = .ok (.getfield 12, 3) := dz_180 (n := 0) (r := 27) hz_X11_read_0 rfl rfl
theorem dX11_read_30 : decode cX11_read 30 = .ok (.getfield 115, 3) := dz_180 (n := 0) (r := 30) hz_X11_read_0 rfl rfl
theorem hz_X11_read_32 : (cX11_read.data.toList.drop 32).take 40 = [115, 154, 0, 7, 42, 182, 0, 118, 42, 180, 0, 12, 180, 0, 115, 172] := by decide +kernel
theorem dX11_read_33 : decode cX11_read 33 = .ok (.ifCond .ne 7, 3) := dz_154 (n := 32) (r := 1) hz_X11_read_32 rfl (by decide +kernel)
theorem dX11_read_36 : decode cX11_read 36 = .ok (.aload_n 0, 1) := dz_42 (n := 32) (r := 4) hz_X11_read_32 rfl
theorem dX11_read_37 : decode cX11_read 37 = .ok (.invokevirtual 118, 3) := dz_182 (n := 32) (r := 5) hz_X11_read_32 rfl rfl
theorem dX11_read_40 : decode cX11_read 40 = .ok (.aload_n 0, 1) := dz_42 (n := 32) (r := 8) hz_X11_read_32 rfl
theorem dX11_read_41 : decode cX11_read 41 = .ok (.getfield 12, 3) := dz_180 (n := 32) (r := 9) hz_X11_read_32 rfl rfl
theorem dX11_read_44 : decode cX11_read 44 = .ok (.getfield 115, 3) := dz_180 (n := 32) (r := 12) hz_X11_read_32 rfl rfl
theorem dX11_read_47 : decode cX11_read 47 = .ok (.ireturn, 1) := dz_172 (n := 32) (r := 15) hz_X11_read_32 rfl
theorem hz_X11_place_0 : (cX11_place.data.toList.drop 0).take 40 = [42, 180, 0, 95, 172] := by decide +kernel
theorem dX11_place_0 : decode cX11_place 0 = .ok (.aload_n 0, 1) := dz_42 (n := 0) (r := 0) hz_X11_place_0 rfl
theorem dX11_place_1 : decode cX11_place 1 = .ok (.getfield 95, 3) := dz_180 (n := 0) (r := 1) hz_X11_place_0 rfl rfl
theorem dX11_place_4 : decode cX11_place 4 = .ok (.ireturn, 1) := dz_172 (n := 0) (r := 4) hz_X11_place_0 rfl
theorem hz_X11_beginAnew_0 : (cX11_beginAnew.data.toList.drop 0).take 40 = [42, 180, 0, 24, 42, 180, 0, 12, 180, 0, 121, 42, 180, 0, 12, 180, 0, 124, 42, 180, 0, 12, 180, 0, 127, 182, 0, 130, 42, 180, 0, 31, 42, 180, 0, 12, 180, 0, 134, 182] := by decide +kernel
theorem dX11_beginAnew_0 : decode cX11_beginAnew 0 = .ok (.aload_n 0, 1) := dz_42 (n := 0) (r := 0) hz_X11_beginAnew_0 rfl
theorem dX11_beginAnew_1 : decode cX11_beginAnew 1 = .ok (.getfield 24, 3) := dz_180 (n := 0) (r := 1) hz_X11_beginAnew_0 rfl rfl
theorem dX11_beginAnew_4 : decode cX11_beginAnew 4 = .ok (.aload_n 0, 1) := dz_42 (n := 0) (r := 4) hz_X11_beginAnew_0 rfl
theorem dX11_beginAnew_5 : decode cX11_beginAnew 5 = .ok (.getfield 12, 3) := dz_180 (n := 0) (r := 5) hz_X11_beginAnew_0 rfl rfl
theorem dX11_beginAnew_8 : decode cX11_beginAnew 8 = .ok (.getfield 121, 3) := dz_180 (n := 0) (r := 8) hz_X11_beginAnew_0 rfl rfl
theorem dX11_beginAnew_11 : decode cX11_beginAnew 11 = .ok (.aload_n 0, 1) := dz_42 (n := 0) (r := 11) hz_X11_beginAnew_0 rfl
theorem dX11_beginAnew_12 : decode cX11_beginAnew 12 = .ok (.getfield 12, 3) := dz_180 (n := 0) (r := 12) hz_X11_beginAnew_0 rfl rfl
theorem dX11_beginAnew_15 : decode cX11_beginAnew 15 = .ok (.getfield 124, 3) := dz_180 (n := 0) (r := 15) hz_X11_beginAnew_0 rfl rfl
theorem dX11_beginAnew_18 : decode cX11_beginAnew 18 = .ok (.aload_n 0, 1) := dz_42 (n := 0) (r := 18) hz_X11_beginAnew_0 rfl
theorem dX11_beginAnew_19 : decode cX11_beginAnew 19 = .ok (.getfield 12, 3) := dz_180 (n := 0) (r := 19) hz_X11_beginAnew_0 rfl rfl
theorem dX11_beginAnew_22 : decode cX11_beginAnew 22 = .ok (.getfield 127, 3) := dz_180 (n := 0) (r := 22) hz_X11_beginAnew_0 rfl rfl
theorem dX11_beginAnew_25 : decode cX11_beginAnew 25 = .ok (.invokevirtual 130, 3) := dz_182 (n := 0) (r := 25) hz_X11_beginAnew_0 rfl rfl
theorem dX11_beginAnew_28 : decode cX11_beginAnew 28 = .ok (.aload_n 0, 1) := dz_42 (n := 0) (r := 28) hz_X11_beginAnew_0 rfl
theorem dX11_beginAnew_29 : decode cX11_beginAnew 29 = .ok (.getfield 31, 3) := dz_180 (n := 0) (r := 29) hz_X11_beginAnew_0 rfl rfl
theorem hz_X11_beginAnew_32 : (cX11_beginAnew.data.toList.drop 32).take 40 = [42, 180, 0, 12, 180, 0, 134, 182, 0, 137, 42, 180, 0, 31, 42, 180, 0, 31, 180, 0, 141, 181, 0, 144, 42, 180, 0, 38, 182, 0, 147, 3, 60, 27, 42, 180, 0, 44, 190, 162] := by decide +kernel
theorem dX11_beginAnew_32 : decode cX11_beginAnew 32 = .ok (.aload_n 0, 1) := dz_42 (n := 32) (r := 0) hz_X11_beginAnew_32 rfl
theorem dX11_beginAnew_33 : decode cX11_beginAnew 33 = .ok (.getfield 12, 3) := dz_180 (n := 32) (r := 1) hz_X11_beginAnew_32 rfl rfl
theorem dX11_beginAnew_36 : decode cX11_beginAnew 36 = .ok (.getfield 134, 3) := dz_180 (n := 32) (r := 4) hz_X11_beginAnew_32 rfl rfl
theorem dX11_beginAnew_39 : decode cX11_beginAnew 39 = .ok (.invokevirtual 137, 3) := dz_182 (n := 32) (r := 7) hz_X11_beginAnew_32 rfl rfl
theorem dX11_beginAnew_42 : decode cX11_beginAnew 42 = .ok (.aload_n 0, 1) := dz_42 (n := 32) (r := 10) hz_X11_beginAnew_32 rfl
theorem dX11_beginAnew_43 : decode cX11_beginAnew 43 = .ok (.getfield 31, 3) := dz_180 (n := 32) (r := 11) hz_X11_beginAnew_32 rfl rfl
theorem dX11_beginAnew_46 : decode cX11_beginAnew 46 = .ok (.aload_n 0, 1) := dz_42 (n := 32) (r := 14) hz_X11_beginAnew_32 rfl
theorem dX11_beginAnew_47 : decode cX11_beginAnew 47 = .ok (.getfield 31, 3) := dz_180 (n := 32) (r := 15) hz_X11_beginAnew_32 rfl rfl
theorem dX11_beginAnew_50 : decode cX11_beginAnew 50 = .ok (.getfield 141, 3) := dz_180 (n := 32) (r := 18) hz_X11_beginAnew_32 rfl rfl
theorem dX11_beginAnew_53 : decode cX11_beginAnew 53 = .ok (.putfield 144, 3) := dz_181 (n := 32) (r := 21) hz_X11_beginAnew_32 rfl rfl
theorem dX11_beginAnew_56 : decode cX11_beginAnew 56 = .ok (.aload_n 0, 1) := dz_42 (n := 32) (r := 24) hz_X11_beginAnew_32 rfl
theorem dX11_beginAnew_57 : decode cX11_beginAnew 57 = .ok (.getfield 38, 3) := dz_180 (n := 32) (r := 25) hz_X11_beginAnew_32 rfl rfl
theorem dX11_beginAnew_60 : decode cX11_beginAnew 60 = .ok (.invokevirtual 147, 3) := dz_182 (n := 32) (r := 28) hz_X11_beginAnew_32 rfl rfl
theorem dX11_beginAnew_63 : decode cX11_beginAnew 63 = .ok (.iconst 0, 1) := dz_3 (n := 32) (r := 31) hz_X11_beginAnew_32 rfl
theorem hz_X11_beginAnew_64 : (cX11_beginAnew.data.toList.drop 64).take 40 = [60, 27, 42, 180, 0, 44, 190, 162, 0, 19, 42, 180, 0, 44, 27, 50, 3, 181, 0, 150, 132, 1, 1, 167, 255, 234, 42, 182, 0, 154, 177] := by decide +kernel
theorem dX11_beginAnew_64 : decode cX11_beginAnew 64 = .ok (.istore_n 1, 1) := dz_60 (n := 64) (r := 0) hz_X11_beginAnew_64 rfl
theorem dX11_beginAnew_65 : decode cX11_beginAnew 65 = .ok (.iload_n 1, 1) := dz_27 (n := 64) (r := 1) hz_X11_beginAnew_64 rfl
theorem dX11_beginAnew_66 : decode cX11_beginAnew 66 = .ok (.aload_n 0, 1) := dz_42 (n := 64) (r := 2) hz_X11_beginAnew_64 rfl
theorem dX11_beginAnew_67 : decode cX11_beginAnew 67 = .ok (.getfield 44, 3) := dz_180 (n := 64) (r := 3) hz_X11_beginAnew_64 rfl rfl
theorem dX11_beginAnew_70 : decode cX11_beginAnew 70 = .ok (.arraylength, 1) := dz_190 (n := 64) (r := 6) hz_X11_beginAnew_64 rfl
theorem dX11_beginAnew_71 : decode cX11_beginAnew 71 = .ok (.if_icmp .ge 19, 3) := dz_162 (n := 64) (r := 7) hz_X11_beginAnew_64 rfl (by decide +kernel)
theorem dX11_beginAnew_74 : decode cX11_beginAnew 74 = .ok (.aload_n 0, 1) := dz_42 (n := 64) (r := 10) hz_X11_beginAnew_64 rfl
theorem dX11_beginAnew_75 : decode cX11_beginAnew 75 = .ok (.getfield 44, 3) := dz_180 (n := 64) (r := 11) hz_X11_beginAnew_64 rfl rfl
theorem dX11_beginAnew_78 : decode cX11_beginAnew 78 = .ok (.iload_n 1, 1) := dz_27 (n := 64) (r := 14) hz_X11_beginAnew_64 rfl
theorem dX11_beginAnew_79 : decode cX11_beginAnew 79 = .ok (.aaload, 1) := dz_50 (n := 64) (r := 15) hz_X11_beginAnew_64 rfl
theorem dX11_beginAnew_80 : decode cX11_beginAnew 80 = .ok (.iconst 0, 1) := dz_3 (n := 64) (r := 16) hz_X11_beginAnew_64 rfl
theorem dX11_beginAnew_81 : decode cX11_beginAnew 81 = .ok (.putfield 150, 3) := dz_181 (n := 64) (r := 17) hz_X11_beginAnew_64 rfl rfl
theorem dX11_beginAnew_84 : decode cX11_beginAnew 84 = .ok (.iinc 1 1, 3) := dz_132 (n := 64) (r := 20) hz_X11_beginAnew_64 rfl rfl rfl
theorem dX11_beginAnew_87 : decode cX11_beginAnew 87 = .ok (.goto (-22), 3) := dz_167 (n := 64) (r := 23) hz_X11_beginAnew_64 rfl (by decide +kernel)
theorem dX11_beginAnew_90 : decode cX11_beginAnew 90 = .ok (.aload_n 0, 1) := dz_42 (n := 64) (r := 26) hz_X11_beginAnew_64 rfl
theorem dX11_beginAnew_91 : decode cX11_beginAnew 91 = .ok (.invokevirtual 154, 3) := dz_182 (n := 64) (r := 27) hz_X11_beginAnew_64 rfl rfl
theorem dX11_beginAnew_94 : decode cX11_beginAnew 94 = .ok (.return_, 1) := dz_177 (n := 64) (r := 30) hz_X11_beginAnew_64 rfl
theorem hz_X11_tie_0 : (cX11_tie.data.toList.drop 0).take 40 = [42, 180, 0, 24, 27, 28, 182, 0, 157, 54, 4, 21, 4, 2, 159, 0, 23, 29, 184, 0, 161, 153, 0, 16, 42, 180, 0, 31, 21, 4, 182, 0, 165, 29, 160, 0, 5, 3, 172, 42] := by decide +kernel
theorem dX11_tie_0 : decode cX11_tie 0 = .ok (.aload_n 0, 1) := dz_42 (n := 0) (r := 0) hz_X11_tie_0 rfl
theorem dX11_tie_1 : decode cX11_tie 1 = .ok (.getfield 24, 3) := dz_180 (n := 0) (r := 1) hz_X11_tie_0 rfl rfl
theorem dX11_tie_4 : decode cX11_tie 4 = .ok (.iload_n 1, 1) := dz_27 (n := 0) (r := 4) hz_X11_tie_0 rfl
theorem dX11_tie_5 : decode cX11_tie 5 = .ok (.iload_n 2, 1) := dz_28 (n := 0) (r := 5) hz_X11_tie_0 rfl
theorem dX11_tie_6 : decode cX11_tie 6 = .ok (.invokevirtual 157, 3) := dz_182 (n := 0) (r := 6) hz_X11_tie_0 rfl rfl
theorem dX11_tie_9 : decode cX11_tie 9 = .ok (.istore 4, 2) := dz_54 (n := 0) (r := 9) hz_X11_tie_0 rfl rfl
theorem dX11_tie_11 : decode cX11_tie 11 = .ok (.iload 4, 2) := dz_21 (n := 0) (r := 11) hz_X11_tie_0 rfl rfl
theorem dX11_tie_13 : decode cX11_tie 13 = .ok (.iconst (-1), 1) := dz_2 (n := 0) (r := 13) hz_X11_tie_0 rfl
theorem dX11_tie_14 : decode cX11_tie 14 = .ok (.if_icmp .eq 23, 3) := dz_159 (n := 0) (r := 14) hz_X11_tie_0 rfl (by decide +kernel)
theorem dX11_tie_17 : decode cX11_tie 17 = .ok (.iload_n 3, 1) := dz_29 (n := 0) (r := 17) hz_X11_tie_0 rfl
theorem dX11_tie_18 : decode cX11_tie 18 = .ok (.invokestatic 161, 3) := dz_184 (n := 0) (r := 18) hz_X11_tie_0 rfl rfl
theorem dX11_tie_21 : decode cX11_tie 21 = .ok (.ifCond .eq 16, 3) := dz_153 (n := 0) (r := 21) hz_X11_tie_0 rfl (by decide +kernel)
theorem dX11_tie_24 : decode cX11_tie 24 = .ok (.aload_n 0, 1) := dz_42 (n := 0) (r := 24) hz_X11_tie_0 rfl
theorem dX11_tie_25 : decode cX11_tie 25 = .ok (.getfield 31, 3) := dz_180 (n := 0) (r := 25) hz_X11_tie_0 rfl rfl
theorem dX11_tie_28 : decode cX11_tie 28 = .ok (.iload 4, 2) := dz_21 (n := 0) (r := 28) hz_X11_tie_0 rfl rfl
theorem dX11_tie_30 : decode cX11_tie 30 = .ok (.invokevirtual 165, 3) := dz_182 (n := 0) (r := 30) hz_X11_tie_0 rfl rfl
theorem hz_X11_tie_32 : (cX11_tie.data.toList.drop 32).take 40 = [165, 29, 160, 0, 5, 3, 172, 42, 180, 0, 38, 42, 180, 0, 31, 182, 0, 169, 42, 180, 0, 31, 21, 4, 29, 182, 0, 172, 42, 182, 0, 154, 4, 172] := by decide +kernel
theorem dX11_tie_33 : decode cX11_tie 33 = .ok (.iload_n 3, 1) := dz_29 (n := 32) (r := 1) hz_X11_tie_32 rfl
theorem dX11_tie_34 : decode cX11_tie 34 = .ok (.if_icmp .ne 5, 3) := dz_160 (n := 32) (r := 2) hz_X11_tie_32 rfl (by decide +kernel)
theorem dX11_tie_37 : decode cX11_tie 37 = .ok (.iconst 0, 1) := dz_3 (n := 32) (r := 5) hz_X11_tie_32 rfl
theorem dX11_tie_38 : decode cX11_tie 38 = .ok (.ireturn, 1) := dz_172 (n := 32) (r := 6) hz_X11_tie_32 rfl
theorem dX11_tie_39 : decode cX11_tie 39 = .ok (.aload_n 0, 1) := dz_42 (n := 32) (r := 7) hz_X11_tie_32 rfl
theorem dX11_tie_40 : decode cX11_tie 40 = .ok (.getfield 38, 3) := dz_180 (n := 32) (r := 8) hz_X11_tie_32 rfl rfl
theorem dX11_tie_43 : decode cX11_tie 43 = .ok (.aload_n 0, 1) := dz_42 (n := 32) (r := 11) hz_X11_tie_32 rfl
theorem dX11_tie_44 : decode cX11_tie 44 = .ok (.getfield 31, 3) := dz_180 (n := 32) (r := 12) hz_X11_tie_32 rfl rfl
theorem dX11_tie_47 : decode cX11_tie 47 = .ok (.invokevirtual 169, 3) := dz_182 (n := 32) (r := 15) hz_X11_tie_32 rfl rfl
theorem dX11_tie_50 : decode cX11_tie 50 = .ok (.aload_n 0, 1) := dz_42 (n := 32) (r := 18) hz_X11_tie_32 rfl
theorem dX11_tie_51 : decode cX11_tie 51 = .ok (.getfield 31, 3) := dz_180 (n := 32) (r := 19) hz_X11_tie_32 rfl rfl
theorem dX11_tie_54 : decode cX11_tie 54 = .ok (.iload 4, 2) := dz_21 (n := 32) (r := 22) hz_X11_tie_32 rfl rfl
theorem dX11_tie_56 : decode cX11_tie 56 = .ok (.iload_n 3, 1) := dz_29 (n := 32) (r := 24) hz_X11_tie_32 rfl
theorem dX11_tie_57 : decode cX11_tie 57 = .ok (.invokevirtual 172, 3) := dz_182 (n := 32) (r := 25) hz_X11_tie_32 rfl rfl
theorem dX11_tie_60 : decode cX11_tie 60 = .ok (.aload_n 0, 1) := dz_42 (n := 32) (r := 28) hz_X11_tie_32 rfl
theorem dX11_tie_61 : decode cX11_tie 61 = .ok (.invokevirtual 154, 3) := dz_182 (n := 32) (r := 29) hz_X11_tie_32 rfl rfl
theorem hz_X11_tie_64 : (cX11_tie.data.toList.drop 64).take 40 = [4, 172] := by decide +kernel
theorem dX11_tie_64 : decode cX11_tie 64 = .ok (.iconst 1, 1) := dz_4 (n := 64) (r := 0) hz_X11_tie_64 rfl
theorem dX11_tie_65 : decode cX11_tie 65 = .ok (.ireturn, 1) := dz_172 (n := 64) (r := 1) hz_X11_tie_64 rfl
theorem hz_X11_pull_0 : (cX11_pull.data.toList.drop 0).take 40 = [42, 180, 0, 24, 27, 182, 0, 176, 153, 0, 22, 28, 184, 0, 161, 153, 0, 15, 42, 180, 0, 31, 27, 182, 0, 179, 28, 160, 0, 5, 3, 172, 42, 180, 0, 38, 42, 180, 0, 31] := by decide +kernel
theorem dX11_pull_0 : decode cX11_pull 0 = .ok (.aload_n 0, 1) := dz_42 (n := 0) (r := 0) hz_X11_pull_0 rfl
theorem dX11_pull_1 : decode cX11_pull 1 = .ok (.getfield 24, 3) := dz_180 (n := 0) (r := 1) hz_X11_pull_0 rfl rfl
theorem dX11_pull_4 : decode cX11_pull 4 = .ok (.iload_n 1, 1) := dz_27 (n := 0) (r := 4) hz_X11_pull_0 rfl
theorem dX11_pull_5 : decode cX11_pull 5 = .ok (.invokevirtual 176, 3) := dz_182 (n := 0) (r := 5) hz_X11_pull_0 rfl rfl
theorem dX11_pull_8 : decode cX11_pull 8 = .ok (.ifCond .eq 22, 3) := dz_153 (n := 0) (r := 8) hz_X11_pull_0 rfl (by decide +kernel)
theorem dX11_pull_11 : decode cX11_pull 11 = .ok (.iload_n 2, 1) := dz_28 (n := 0) (r := 11) hz_X11_pull_0 rfl
theorem dX11_pull_12 : decode cX11_pull 12 = .ok (.invokestatic 161, 3) := dz_184 (n := 0) (r := 12) hz_X11_pull_0 rfl rfl
theorem dX11_pull_15 : decode cX11_pull 15 = .ok (.ifCond .eq 15, 3) := dz_153 (n := 0) (r := 15) hz_X11_pull_0 rfl (by decide +kernel)
theorem dX11_pull_18 : decode cX11_pull 18 = .ok (.aload_n 0, 1) := dz_42 (n := 0) (r := 18) hz_X11_pull_0 rfl
theorem dX11_pull_19 : decode cX11_pull 19 = .ok (.getfield 31, 3) := dz_180 (n := 0) (r := 19) hz_X11_pull_0 rfl rfl
theorem dX11_pull_22 : decode cX11_pull 22 = .ok (.iload_n 1, 1) := dz_27 (n := 0) (r := 22) hz_X11_pull_0 rfl
theorem dX11_pull_23 : decode cX11_pull 23 = .ok (.invokevirtual 179, 3) := dz_182 (n := 0) (r := 23) hz_X11_pull_0 rfl rfl
theorem dX11_pull_26 : decode cX11_pull 26 = .ok (.iload_n 2, 1) := dz_28 (n := 0) (r := 26) hz_X11_pull_0 rfl
theorem dX11_pull_27 : decode cX11_pull 27 = .ok (.if_icmp .ne 5, 3) := dz_160 (n := 0) (r := 27) hz_X11_pull_0 rfl (by decide +kernel)
theorem dX11_pull_30 : decode cX11_pull 30 = .ok (.iconst 0, 1) := dz_3 (n := 0) (r := 30) hz_X11_pull_0 rfl
theorem dX11_pull_31 : decode cX11_pull 31 = .ok (.ireturn, 1) := dz_172 (n := 0) (r := 31) hz_X11_pull_0 rfl
theorem hz_X11_pull_32 : (cX11_pull.data.toList.drop 32).take 40 = [42, 180, 0, 38, 42, 180, 0, 31, 182, 0, 169, 42, 180, 0, 31, 27, 28, 182, 0, 182, 42, 182, 0, 154, 4, 172] := by decide +kernel
theorem dX11_pull_32 : decode cX11_pull 32 = .ok (.aload_n 0, 1) := dz_42 (n := 32) (r := 0) hz_X11_pull_32 rfl
theorem dX11_pull_33 : decode cX11_pull 33 = .ok (.getfield 38, 3) := dz_180 (n := 32) (r := 1) hz_X11_pull_32 rfl rfl
theorem dX11_pull_36 : decode cX11_pull 36 = .ok (.aload_n 0, 1) := dz_42 (n := 32) (r := 4) hz_X11_pull_32 rfl
theorem dX11_pull_37 : decode cX11_pull 37 = .ok (.getfield 31, 3) := dz_180 (n := 32) (r := 5) hz_X11_pull_32 rfl rfl
theorem dX11_pull_40 : decode cX11_pull 40 = .ok (.invokevirtual 169, 3) := dz_182 (n := 32) (r := 8) hz_X11_pull_32 rfl rfl
theorem dX11_pull_43 : decode cX11_pull 43 = .ok (.aload_n 0, 1) := dz_42 (n := 32) (r := 11) hz_X11_pull_32 rfl
theorem dX11_pull_44 : decode cX11_pull 44 = .ok (.getfield 31, 3) := dz_180 (n := 32) (r := 12) hz_X11_pull_32 rfl rfl
theorem dX11_pull_47 : decode cX11_pull 47 = .ok (.iload_n 1, 1) := dz_27 (n := 32) (r := 15) hz_X11_pull_32 rfl
theorem dX11_pull_48 : decode cX11_pull 48 = .ok (.iload_n 2, 1) := dz_28 (n := 32) (r := 16) hz_X11_pull_32 rfl
theorem dX11_pull_49 : decode cX11_pull 49 = .ok (.invokevirtual 182, 3) := dz_182 (n := 32) (r := 17) hz_X11_pull_32 rfl rfl
theorem dX11_pull_52 : decode cX11_pull 52 = .ok (.aload_n 0, 1) := dz_42 (n := 32) (r := 20) hz_X11_pull_32 rfl
theorem dX11_pull_53 : decode cX11_pull 53 = .ok (.invokevirtual 154, 3) := dz_182 (n := 32) (r := 21) hz_X11_pull_32 rfl rfl
theorem dX11_pull_56 : decode cX11_pull 56 = .ok (.iconst 1, 1) := dz_4 (n := 32) (r := 24) hz_X11_pull_32 rfl
theorem dX11_pull_57 : decode cX11_pull 57 = .ok (.ireturn, 1) := dz_172 (n := 32) (r := 25) hz_X11_pull_32 rfl
theorem hz_X11_pin_0 : (cX11_pin.data.toList.drop 0).take 40 = [42, 180, 0, 24, 27, 182, 0, 176, 153, 0, 24, 28, 155, 0, 20, 28, 5, 163, 0, 15, 42, 180, 0, 31, 27, 182, 0, 185, 28, 160, 0, 5, 3, 172, 42, 180, 0, 38, 42, 180] := by decide +kernel
theorem dX11_pin_0 : decode cX11_pin 0 = .ok (.aload_n 0, 1) := dz_42 (n := 0) (r := 0) hz_X11_pin_0 rfl
theorem dX11_pin_1 : decode cX11_pin 1 = .ok (.getfield 24, 3) := dz_180 (n := 0) (r := 1) hz_X11_pin_0 rfl rfl
theorem dX11_pin_4 : decode cX11_pin 4 = .ok (.iload_n 1, 1) := dz_27 (n := 0) (r := 4) hz_X11_pin_0 rfl
theorem dX11_pin_5 : decode cX11_pin 5 = .ok (.invokevirtual 176, 3) := dz_182 (n := 0) (r := 5) hz_X11_pin_0 rfl rfl
theorem dX11_pin_8 : decode cX11_pin 8 = .ok (.ifCond .eq 24, 3) := dz_153 (n := 0) (r := 8) hz_X11_pin_0 rfl (by decide +kernel)
theorem dX11_pin_11 : decode cX11_pin 11 = .ok (.iload_n 2, 1) := dz_28 (n := 0) (r := 11) hz_X11_pin_0 rfl
theorem dX11_pin_12 : decode cX11_pin 12 = .ok (.ifCond .lt 20, 3) := dz_155 (n := 0) (r := 12) hz_X11_pin_0 rfl (by decide +kernel)
theorem dX11_pin_15 : decode cX11_pin 15 = .ok (.iload_n 2, 1) := dz_28 (n := 0) (r := 15) hz_X11_pin_0 rfl
theorem dX11_pin_16 : decode cX11_pin 16 = .ok (.iconst 2, 1) := dz_5 (n := 0) (r := 16) hz_X11_pin_0 rfl
theorem dX11_pin_17 : decode cX11_pin 17 = .ok (.if_icmp .gt 15, 3) := dz_163 (n := 0) (r := 17) hz_X11_pin_0 rfl (by decide +kernel)
theorem dX11_pin_20 : decode cX11_pin 20 = .ok (.aload_n 0, 1) := dz_42 (n := 0) (r := 20) hz_X11_pin_0 rfl
theorem dX11_pin_21 : decode cX11_pin 21 = .ok (.getfield 31, 3) := dz_180 (n := 0) (r := 21) hz_X11_pin_0 rfl rfl
theorem dX11_pin_24 : decode cX11_pin 24 = .ok (.iload_n 1, 1) := dz_27 (n := 0) (r := 24) hz_X11_pin_0 rfl
theorem dX11_pin_25 : decode cX11_pin 25 = .ok (.invokevirtual 185, 3) := dz_182 (n := 0) (r := 25) hz_X11_pin_0 rfl rfl
theorem dX11_pin_28 : decode cX11_pin 28 = .ok (.iload_n 2, 1) := dz_28 (n := 0) (r := 28) hz_X11_pin_0 rfl
theorem dX11_pin_29 : decode cX11_pin 29 = .ok (.if_icmp .ne 5, 3) := dz_160 (n := 0) (r := 29) hz_X11_pin_0 rfl (by decide +kernel)
theorem hz_X11_pin_32 : (cX11_pin.data.toList.drop 32).take 40 = [3, 172, 42, 180, 0, 38, 42, 180, 0, 31, 182, 0, 169, 42, 180, 0, 31, 27, 28, 182, 0, 188, 42, 180, 0, 31, 42, 180, 0, 31, 180, 0, 144, 42, 180, 0, 31, 180, 0, 191] := by decide +kernel
theorem dX11_pin_32 : decode cX11_pin 32 = .ok (.iconst 0, 1) := dz_3 (n := 32) (r := 0) hz_X11_pin_32 rfl
theorem dX11_pin_33 : decode cX11_pin 33 = .ok (.ireturn, 1) := dz_172 (n := 32) (r := 1) hz_X11_pin_32 rfl
theorem dX11_pin_34 : decode cX11_pin 34 = .ok (.aload_n 0, 1) := dz_42 (n := 32) (r := 2) hz_X11_pin_32 rfl
theorem dX11_pin_35 : decode cX11_pin 35 = .ok (.getfield 38, 3) := dz_180 (n := 32) (r := 3) hz_X11_pin_32 rfl rfl
theorem dX11_pin_38 : decode cX11_pin 38 = .ok (.aload_n 0, 1) := dz_42 (n := 32) (r := 6) hz_X11_pin_32 rfl
theorem dX11_pin_39 : decode cX11_pin 39 = .ok (.getfield 31, 3) := dz_180 (n := 32) (r := 7) hz_X11_pin_32 rfl rfl
theorem dX11_pin_42 : decode cX11_pin 42 = .ok (.invokevirtual 169, 3) := dz_182 (n := 32) (r := 10) hz_X11_pin_32 rfl rfl
theorem dX11_pin_45 : decode cX11_pin 45 = .ok (.aload_n 0, 1) := dz_42 (n := 32) (r := 13) hz_X11_pin_32 rfl
theorem dX11_pin_46 : decode cX11_pin 46 = .ok (.getfield 31, 3) := dz_180 (n := 32) (r := 14) hz_X11_pin_32 rfl rfl
theorem dX11_pin_49 : decode cX11_pin 49 = .ok (.iload_n 1, 1) := dz_27 (n := 32) (r := 17) hz_X11_pin_32 rfl
theorem dX11_pin_50 : decode cX11_pin 50 = .ok (.iload_n 2, 1) := dz_28 (n := 32) (r := 18) hz_X11_pin_32 rfl
theorem dX11_pin_51 : decode cX11_pin 51 = .ok (.invokevirtual 188, 3) := dz_182 (n := 32) (r := 19) hz_X11_pin_32 rfl rfl
theorem dX11_pin_54 : decode cX11_pin 54 = .ok (.aload_n 0, 1) := dz_42 (n := 32) (r := 22) hz_X11_pin_32 rfl
theorem dX11_pin_55 : decode cX11_pin 55 = .ok (.getfield 31, 3) := dz_180 (n := 32) (r := 23) hz_X11_pin_32 rfl rfl
theorem dX11_pin_58 : decode cX11_pin 58 = .ok (.aload_n 0, 1) := dz_42 (n := 32) (r := 26) hz_X11_pin_32 rfl
theorem dX11_pin_59 : decode cX11_pin 59 = .ok (.getfield 31, 3) := dz_180 (n := 32) (r := 27) hz_X11_pin_32 rfl rfl
theorem dX11_pin_62 : decode cX11_pin 62 = .ok (.getfield 144, 3) := dz_180 (n := 32) (r := 30) hz_X11_pin_32 rfl rfl
theorem hz_X11_pin_64 : (cX11_pin.data.toList.drop 64).take 40 = [144, 42, 180, 0, 31, 180, 0, 191, 2, 130, 126, 42, 180, 0, 31, 180, 0, 141, 128, 181, 0, 144, 42, 182, 0, 194, 4, 172] := by decide +kernel
theorem dX11_pin_65 : decode cX11_pin 65 = .ok (.aload_n 0, 1) := dz_42 (n := 64) (r := 1) hz_X11_pin_64 rfl
theorem dX11_pin_66 : decode cX11_pin 66 = .ok (.getfield 31, 3) := dz_180 (n := 64) (r := 2) hz_X11_pin_64 rfl rfl
theorem dX11_pin_69 : decode cX11_pin 69 = .ok (.getfield 191, 3) := dz_180 (n := 64) (r := 5) hz_X11_pin_64 rfl rfl
theorem dX11_pin_72 : decode cX11_pin 72 = .ok (.iconst (-1), 1) := dz_2 (n := 64) (r := 8) hz_X11_pin_64 rfl
theorem dX11_pin_73 : decode cX11_pin 73 = .ok (.ixor, 1) := dz_130 (n := 64) (r := 9) hz_X11_pin_64 rfl
theorem dX11_pin_74 : decode cX11_pin 74 = .ok (.iand, 1) := dz_126 (n := 64) (r := 10) hz_X11_pin_64 rfl
theorem dX11_pin_75 : decode cX11_pin 75 = .ok (.aload_n 0, 1) := dz_42 (n := 64) (r := 11) hz_X11_pin_64 rfl
theorem dX11_pin_76 : decode cX11_pin 76 = .ok (.getfield 31, 3) := dz_180 (n := 64) (r := 12) hz_X11_pin_64 rfl rfl
theorem dX11_pin_79 : decode cX11_pin 79 = .ok (.getfield 141, 3) := dz_180 (n := 64) (r := 15) hz_X11_pin_64 rfl rfl
theorem dX11_pin_82 : decode cX11_pin 82 = .ok (.ior, 1) := dz_128 (n := 64) (r := 18) hz_X11_pin_64 rfl
theorem dX11_pin_83 : decode cX11_pin 83 = .ok (.putfield 144, 3) := dz_181 (n := 64) (r := 19) hz_X11_pin_64 rfl rfl
theorem dX11_pin_86 : decode cX11_pin 86 = .ok (.aload_n 0, 1) := dz_42 (n := 64) (r := 22) hz_X11_pin_64 rfl
theorem dX11_pin_87 : decode cX11_pin 87 = .ok (.invokevirtual 194, 3) := dz_182 (n := 64) (r := 23) hz_X11_pin_64 rfl rfl
theorem dX11_pin_90 : decode cX11_pin 90 = .ok (.iconst 1, 1) := dz_4 (n := 64) (r := 26) hz_X11_pin_64 rfl
theorem dX11_pin_91 : decode cX11_pin 91 = .ok (.ireturn, 1) := dz_172 (n := 64) (r := 27) hz_X11_pin_64 rfl
theorem hz_X11_glass_0 : (cX11_glass.data.toList.drop 0).take 40 = [27, 155, 0, 20, 27, 17, 39, 15, 163, 0, 13, 42, 180, 0, 24, 180, 0, 197, 154, 0, 5, 3, 172, 42, 180, 0, 38, 42, 180, 0, 31, 182, 0, 169, 27, 133, 65, 3, 54, 4] := by decide +kernel
theorem dX11_glass_0 : decode cX11_glass 0 = .ok (.iload_n 1, 1) := dz_27 (n := 0) (r := 0) hz_X11_glass_0 rfl
theorem dX11_glass_1 : decode cX11_glass 1 = .ok (.ifCond .lt 20, 3) := dz_155 (n := 0) (r := 1) hz_X11_glass_0 rfl (by decide +kernel)
theorem dX11_glass_4 : decode cX11_glass 4 = .ok (.iload_n 1, 1) := dz_27 (n := 0) (r := 4) hz_X11_glass_0 rfl
theorem dX11_glass_5 : decode cX11_glass 5 = .ok (.sipush 9999, 3) := dz_17 (n := 0) (r := 5) hz_X11_glass_0 rfl (by decide +kernel)
theorem dX11_glass_8 : decode cX11_glass 8 = .ok (.if_icmp .gt 13, 3) := dz_163 (n := 0) (r := 8) hz_X11_glass_0 rfl (by decide +kernel)
theorem dX11_glass_11 : decode cX11_glass 11 = .ok (.aload_n 0, 1) := dz_42 (n := 0) (r := 11) hz_X11_glass_0 rfl
theorem dX11_glass_12 : decode cX11_glass 12 = .ok (.getfield 24, 3) := dz_180 (n := 0) (r := 12) hz_X11_glass_0 rfl rfl
theorem dX11_glass_15 : decode cX11_glass 15 = .ok (.getfield 197, 3) := dz_180 (n := 0) (r := 15) hz_X11_glass_0 rfl rfl
theorem dX11_glass_18 : decode cX11_glass 18 = .ok (.ifCond .ne 5, 3) := dz_154 (n := 0) (r := 18) hz_X11_glass_0 rfl (by decide +kernel)
theorem dX11_glass_21 : decode cX11_glass 21 = .ok (.iconst 0, 1) := dz_3 (n := 0) (r := 21) hz_X11_glass_0 rfl
theorem dX11_glass_22 : decode cX11_glass 22 = .ok (.ireturn, 1) := dz_172 (n := 0) (r := 22) hz_X11_glass_0 rfl
theorem dX11_glass_23 : decode cX11_glass 23 = .ok (.aload_n 0, 1) := dz_42 (n := 0) (r := 23) hz_X11_glass_0 rfl
theorem dX11_glass_24 : decode cX11_glass 24 = .ok (.getfield 38, 3) := dz_180 (n := 0) (r := 24) hz_X11_glass_0 rfl rfl
theorem dX11_glass_27 : decode cX11_glass 27 = .ok (.aload_n 0, 1) := dz_42 (n := 0) (r := 27) hz_X11_glass_0 rfl
theorem dX11_glass_28 : decode cX11_glass 28 = .ok (.getfield 31, 3) := dz_180 (n := 0) (r := 28) hz_X11_glass_0 rfl rfl
theorem dX11_glass_31 : decode cX11_glass 31 = .ok (.invokevirtual 169, 3) := dz_182 (n := 0) (r := 31) hz_X11_glass_0 rfl rfl
theorem hz_X11_glass_32 : (cX11_glass.data.toList.drop 32).take 40 = [0, 169, 27, 133, 65, 3, 54, 4, 21, 4, 16, 32, 162, 0, 50, 42, 180, 0, 24, 21, 4, 182, 0, 200, 2, 159, 0, 31, 32, 184, 0, 203, 65, 42, 180, 0, 31, 21, 4, 32] := by decide +kernel
theorem dX11_glass_34 : decode cX11_glass 34 = .ok (.iload_n 1, 1) := dz_27 (n := 32) (r := 2) hz_X11_glass_32 rfl
theorem dX11_glass_35 : decode cX11_glass 35 = .ok (.i2l, 1) := dz_133 (n := 32) (r := 3) hz_X11_glass_32 rfl
theorem dX11_glass_36 : decode cX11_glass 36 = .ok (.lstore_n 2, 1) := dz_65 (n := 32) (r := 4) hz_X11_glass_32 rfl
theorem dX11_glass_37 : decode cX11_glass 37 = .ok (.iconst 0, 1) := dz_3 (n := 32) (r := 5) hz_X11_glass_32 rfl
theorem dX11_glass_38 : decode cX11_glass 38 = .ok (.istore 4, 2) := dz_54 (n := 32) (r := 6) hz_X11_glass_32 rfl rfl
theorem dX11_glass_40 : decode cX11_glass 40 = .ok (.iload 4, 2) := dz_21 (n := 32) (r := 8) hz_X11_glass_32 rfl rfl
theorem dX11_glass_42 : decode cX11_glass 42 = .ok (.bipush 32, 2) := dz_16 (n := 32) (r := 10) hz_X11_glass_32 rfl rfl
theorem dX11_glass_44 : decode cX11_glass 44 = .ok (.if_icmp .ge 50, 3) := dz_162 (n := 32) (r := 12) hz_X11_glass_32 rfl (by decide +kernel)
theorem dX11_glass_47 : decode cX11_glass 47 = .ok (.aload_n 0, 1) := dz_42 (n := 32) (r := 15) hz_X11_glass_32 rfl
theorem dX11_glass_48 : decode cX11_glass 48 = .ok (.getfield 24, 3) := dz_180 (n := 32) (r := 16) hz_X11_glass_32 rfl rfl
theorem dX11_glass_51 : decode cX11_glass 51 = .ok (.iload 4, 2) := dz_21 (n := 32) (r := 19) hz_X11_glass_32 rfl rfl
theorem dX11_glass_53 : decode cX11_glass 53 = .ok (.invokevirtual 200, 3) := dz_182 (n := 32) (r := 21) hz_X11_glass_32 rfl rfl
theorem dX11_glass_56 : decode cX11_glass 56 = .ok (.iconst (-1), 1) := dz_2 (n := 32) (r := 24) hz_X11_glass_32 rfl
theorem dX11_glass_57 : decode cX11_glass 57 = .ok (.if_icmp .eq 31, 3) := dz_159 (n := 32) (r := 25) hz_X11_glass_32 rfl (by decide +kernel)
theorem dX11_glass_60 : decode cX11_glass 60 = .ok (.lload_n 2, 1) := dz_32 (n := 32) (r := 28) hz_X11_glass_32 rfl
theorem dX11_glass_61 : decode cX11_glass 61 = .ok (.invokestatic 203, 3) := dz_184 (n := 32) (r := 29) hz_X11_glass_32 rfl rfl
theorem hz_X11_glass_64 : (cX11_glass.data.toList.drop 64).take 40 = [65, 42, 180, 0, 31, 21, 4, 32, 5, 184, 0, 207, 4, 160, 0, 7, 4, 167, 0, 4, 2, 182, 0, 172, 132, 4, 1, 167, 255, 205, 42, 182, 0, 154, 4, 172] := by decide +kernel
theorem dX11_glass_64 : decode cX11_glass 64 = .ok (.lstore_n 2, 1) := dz_65 (n := 64) (r := 0) hz_X11_glass_64 rfl
theorem dX11_glass_65 : decode cX11_glass 65 = .ok (.aload_n 0, 1) := dz_42 (n := 64) (r := 1) hz_X11_glass_64 rfl
theorem dX11_glass_66 : decode cX11_glass 66 = .ok (.getfield 31, 3) := dz_180 (n := 64) (r := 2) hz_X11_glass_64 rfl rfl
theorem dX11_glass_69 : decode cX11_glass 69 = .ok (.iload 4, 2) := dz_21 (n := 64) (r := 5) hz_X11_glass_64 rfl rfl
theorem dX11_glass_71 : decode cX11_glass 71 = .ok (.lload_n 2, 1) := dz_32 (n := 64) (r := 7) hz_X11_glass_64 rfl
theorem dX11_glass_72 : decode cX11_glass 72 = .ok (.iconst 2, 1) := dz_5 (n := 64) (r := 8) hz_X11_glass_64 rfl
theorem dX11_glass_73 : decode cX11_glass 73 = .ok (.invokestatic 207, 3) := dz_184 (n := 64) (r := 9) hz_X11_glass_64 rfl rfl
theorem dX11_glass_76 : decode cX11_glass 76 = .ok (.iconst 1, 1) := dz_4 (n := 64) (r := 12) hz_X11_glass_64 rfl
theorem dX11_glass_77 : decode cX11_glass 77 = .ok (.if_icmp .ne 7, 3) := dz_160 (n := 64) (r := 13) hz_X11_glass_64 rfl (by decide +kernel)
theorem dX11_glass_80 : decode cX11_glass 80 = .ok (.iconst 1, 1) := dz_4 (n := 64) (r := 16) hz_X11_glass_64 rfl
theorem dX11_glass_81 : decode cX11_glass 81 = .ok (.goto 4, 3) := dz_167 (n := 64) (r := 17) hz_X11_glass_64 rfl (by decide +kernel)
theorem dX11_glass_84 : decode cX11_glass 84 = .ok (.iconst (-1), 1) := dz_2 (n := 64) (r := 20) hz_X11_glass_64 rfl
theorem dX11_glass_85 : decode cX11_glass 85 = .ok (.invokevirtual 172, 3) := dz_182 (n := 64) (r := 21) hz_X11_glass_64 rfl rfl
theorem dX11_glass_88 : decode cX11_glass 88 = .ok (.iinc 4 1, 3) := dz_132 (n := 64) (r := 24) hz_X11_glass_64 rfl rfl rfl
theorem dX11_glass_91 : decode cX11_glass 91 = .ok (.goto (-51), 3) := dz_167 (n := 64) (r := 27) hz_X11_glass_64 rfl (by decide +kernel)
theorem dX11_glass_94 : decode cX11_glass 94 = .ok (.aload_n 0, 1) := dz_42 (n := 64) (r := 30) hz_X11_glass_64 rfl
theorem dX11_glass_95 : decode cX11_glass 95 = .ok (.invokevirtual 154, 3) := dz_182 (n := 64) (r := 31) hz_X11_glass_64 rfl rfl
theorem hz_X11_glass_96 : (cX11_glass.data.toList.drop 96).take 40 = [0, 154, 4, 172] := by decide +kernel
theorem dX11_glass_98 : decode cX11_glass 98 = .ok (.iconst 1, 1) := dz_4 (n := 96) (r := 2) hz_X11_glass_96 rfl
theorem dX11_glass_99 : decode cX11_glass 99 = .ok (.ireturn, 1) := dz_172 (n := 96) (r := 3) hz_X11_glass_96 rfl
theorem hz_X11_turn_0 : (cX11_turn.data.toList.drop 0).take 40 = [42, 180, 0, 24, 27, 182, 0, 176, 153, 0, 14, 42, 180, 0, 31, 27, 182, 0, 211, 153, 0, 5, 3, 172, 42, 180, 0, 38, 42, 180, 0, 31, 182, 0, 169, 42, 180, 0, 31, 89] := by decide +kernel
theorem dX11_turn_0 : decode cX11_turn 0 = .ok (.aload_n 0, 1) := dz_42 (n := 0) (r := 0) hz_X11_turn_0 rfl
theorem dX11_turn_1 : decode cX11_turn 1 = .ok (.getfield 24, 3) := dz_180 (n := 0) (r := 1) hz_X11_turn_0 rfl rfl
theorem dX11_turn_4 : decode cX11_turn 4 = .ok (.iload_n 1, 1) := dz_27 (n := 0) (r := 4) hz_X11_turn_0 rfl
theorem dX11_turn_5 : decode cX11_turn 5 = .ok (.invokevirtual 176, 3) := dz_182 (n := 0) (r := 5) hz_X11_turn_0 rfl rfl
theorem dX11_turn_8 : decode cX11_turn 8 = .ok (.ifCond .eq 14, 3) := dz_153 (n := 0) (r := 8) hz_X11_turn_0 rfl (by decide +kernel)
theorem dX11_turn_11 : decode cX11_turn 11 = .ok (.aload_n 0, 1) := dz_42 (n := 0) (r := 11) hz_X11_turn_0 rfl
theorem dX11_turn_12 : decode cX11_turn 12 = .ok (.getfield 31, 3) := dz_180 (n := 0) (r := 12) hz_X11_turn_0 rfl rfl
theorem dX11_turn_15 : decode cX11_turn 15 = .ok (.iload_n 1, 1) := dz_27 (n := 0) (r := 15) hz_X11_turn_0 rfl
theorem dX11_turn_16 : decode cX11_turn 16 = .ok (.invokevirtual 211, 3) := dz_182 (n := 0) (r := 16) hz_X11_turn_0 rfl rfl
theorem dX11_turn_19 : decode cX11_turn 19 = .ok (.ifCond .eq 5, 3) := dz_153 (n := 0) (r := 19) hz_X11_turn_0 rfl (by decide +kernel)
theorem dX11_turn_22 : decode cX11_turn 22 = .ok (.iconst 0, 1) := dz_3 (n := 0) (r := 22) hz_X11_turn_0 rfl
theorem dX11_turn_23 : decode cX11_turn 23 = .ok (.ireturn, 1) := dz_172 (n := 0) (r := 23) hz_X11_turn_0 rfl
theorem dX11_turn_24 : decode cX11_turn 24 = .ok (.aload_n 0, 1) := dz_42 (n := 0) (r := 24) hz_X11_turn_0 rfl
theorem dX11_turn_25 : decode cX11_turn 25 = .ok (.getfield 38, 3) := dz_180 (n := 0) (r := 25) hz_X11_turn_0 rfl rfl
theorem dX11_turn_28 : decode cX11_turn 28 = .ok (.aload_n 0, 1) := dz_42 (n := 0) (r := 28) hz_X11_turn_0 rfl
theorem dX11_turn_29 : decode cX11_turn 29 = .ok (.getfield 31, 3) := dz_180 (n := 0) (r := 29) hz_X11_turn_0 rfl rfl
theorem hz_X11_turn_32 : (cX11_turn.data.toList.drop 32).take 40 = [182, 0, 169, 42, 180, 0, 31, 89, 180, 0, 144, 4, 27, 120, 130, 181, 0, 144, 4, 172] := by decide +kernel
theorem dX11_turn_32 : decode cX11_turn 32 = .ok (.invokevirtual 169, 3) := dz_182 (n := 32) (r := 0) hz_X11_turn_32 rfl rfl
theorem dX11_turn_35 : decode cX11_turn 35 = .ok (.aload_n 0, 1) := dz_42 (n := 32) (r := 3) hz_X11_turn_32 rfl
theorem dX11_turn_36 : decode cX11_turn 36 = .ok (.getfield 31, 3) := dz_180 (n := 32) (r := 4) hz_X11_turn_32 rfl rfl
theorem dX11_turn_39 : decode cX11_turn 39 = .ok (.dup, 1) := dz_89 (n := 32) (r := 7) hz_X11_turn_32 rfl
theorem dX11_turn_40 : decode cX11_turn 40 = .ok (.getfield 144, 3) := dz_180 (n := 32) (r := 8) hz_X11_turn_32 rfl rfl
theorem dX11_turn_43 : decode cX11_turn 43 = .ok (.iconst 1, 1) := dz_4 (n := 32) (r := 11) hz_X11_turn_32 rfl
theorem dX11_turn_44 : decode cX11_turn 44 = .ok (.iload_n 1, 1) := dz_27 (n := 32) (r := 12) hz_X11_turn_32 rfl
theorem dX11_turn_45 : decode cX11_turn 45 = .ok (.ishl, 1) := dz_120 (n := 32) (r := 13) hz_X11_turn_32 rfl
theorem dX11_turn_46 : decode cX11_turn 46 = .ok (.ixor, 1) := dz_130 (n := 32) (r := 14) hz_X11_turn_32 rfl
theorem dX11_turn_47 : decode cX11_turn 47 = .ok (.putfield 144, 3) := dz_181 (n := 32) (r := 15) hz_X11_turn_32 rfl rfl
theorem dX11_turn_50 : decode cX11_turn 50 = .ok (.iconst 1, 1) := dz_4 (n := 32) (r := 18) hz_X11_turn_32 rfl
theorem dX11_turn_51 : decode cX11_turn 51 = .ok (.ireturn, 1) := dz_172 (n := 32) (r := 19) hz_X11_turn_32 rfl
theorem hz_X11_fall_0 : (cX11_fall.data.toList.drop 0).take 40 = [42, 180, 0, 24, 180, 0, 197, 154, 0, 5, 2, 172, 42, 180, 0, 83, 42, 180, 0, 24, 42, 180, 0, 31, 42, 180, 0, 31, 180, 0, 144, 182, 0, 214, 42, 180, 0, 83, 180, 0] := by decide +kernel
theorem dX11_fall_0 : decode cX11_fall 0 = .ok (.aload_n 0, 1) := dz_42 (n := 0) (r := 0) hz_X11_fall_0 rfl
theorem dX11_fall_1 : decode cX11_fall 1 = .ok (.getfield 24, 3) := dz_180 (n := 0) (r := 1) hz_X11_fall_0 rfl rfl
theorem dX11_fall_4 : decode cX11_fall 4 = .ok (.getfield 197, 3) := dz_180 (n := 0) (r := 4) hz_X11_fall_0 rfl rfl
theorem dX11_fall_7 : decode cX11_fall 7 = .ok (.ifCond .ne 5, 3) := dz_154 (n := 0) (r := 7) hz_X11_fall_0 rfl (by decide +kernel)
theorem dX11_fall_10 : decode cX11_fall 10 = .ok (.iconst (-1), 1) := dz_2 (n := 0) (r := 10) hz_X11_fall_0 rfl
theorem dX11_fall_11 : decode cX11_fall 11 = .ok (.ireturn, 1) := dz_172 (n := 0) (r := 11) hz_X11_fall_0 rfl
theorem dX11_fall_12 : decode cX11_fall 12 = .ok (.aload_n 0, 1) := dz_42 (n := 0) (r := 12) hz_X11_fall_0 rfl
theorem dX11_fall_13 : decode cX11_fall 13 = .ok (.getfield 83, 3) := dz_180 (n := 0) (r := 13) hz_X11_fall_0 rfl rfl
theorem dX11_fall_16 : decode cX11_fall 16 = .ok (.aload_n 0, 1) := dz_42 (n := 0) (r := 16) hz_X11_fall_0 rfl
theorem dX11_fall_17 : decode cX11_fall 17 = .ok (.getfield 24, 3) := dz_180 (n := 0) (r := 17) hz_X11_fall_0 rfl rfl
theorem dX11_fall_20 : decode cX11_fall 20 = .ok (.aload_n 0, 1) := dz_42 (n := 0) (r := 20) hz_X11_fall_0 rfl
theorem dX11_fall_21 : decode cX11_fall 21 = .ok (.getfield 31, 3) := dz_180 (n := 0) (r := 21) hz_X11_fall_0 rfl rfl
theorem dX11_fall_24 : decode cX11_fall 24 = .ok (.aload_n 0, 1) := dz_42 (n := 0) (r := 24) hz_X11_fall_0 rfl
theorem dX11_fall_25 : decode cX11_fall 25 = .ok (.getfield 31, 3) := dz_180 (n := 0) (r := 25) hz_X11_fall_0 rfl rfl
theorem dX11_fall_28 : decode cX11_fall 28 = .ok (.getfield 144, 3) := dz_180 (n := 0) (r := 28) hz_X11_fall_0 rfl rfl
theorem dX11_fall_31 : decode cX11_fall 31 = .ok (.invokevirtual 214, 3) := dz_182 (n := 0) (r := 31) hz_X11_fall_0 rfl rfl
theorem hz_X11_fall_32 : (cX11_fall.data.toList.drop 32).take 40 = [0, 214, 42, 180, 0, 83, 180, 0, 218, 158, 0, 28, 42, 180, 0, 38, 42, 180, 0, 31, 182, 0, 169, 42, 180, 0, 31, 42, 180, 0, 83, 180, 0, 221, 181, 0, 144, 42, 180, 0] := by decide +kernel
theorem dX11_fall_34 : decode cX11_fall 34 = .ok (.aload_n 0, 1) := dz_42 (n := 32) (r := 2) hz_X11_fall_32 rfl
theorem dX11_fall_35 : decode cX11_fall 35 = .ok (.getfield 83, 3) := dz_180 (n := 32) (r := 3) hz_X11_fall_32 rfl rfl
theorem dX11_fall_38 : decode cX11_fall 38 = .ok (.getfield 218, 3) := dz_180 (n := 32) (r := 6) hz_X11_fall_32 rfl rfl
theorem dX11_fall_41 : decode cX11_fall 41 = .ok (.ifCond .le 28, 3) := dz_158 (n := 32) (r := 9) hz_X11_fall_32 rfl (by decide +kernel)
theorem dX11_fall_44 : decode cX11_fall 44 = .ok (.aload_n 0, 1) := dz_42 (n := 32) (r := 12) hz_X11_fall_32 rfl
theorem dX11_fall_45 : decode cX11_fall 45 = .ok (.getfield 38, 3) := dz_180 (n := 32) (r := 13) hz_X11_fall_32 rfl rfl
theorem dX11_fall_48 : decode cX11_fall 48 = .ok (.aload_n 0, 1) := dz_42 (n := 32) (r := 16) hz_X11_fall_32 rfl
theorem dX11_fall_49 : decode cX11_fall 49 = .ok (.getfield 31, 3) := dz_180 (n := 32) (r := 17) hz_X11_fall_32 rfl rfl
theorem dX11_fall_52 : decode cX11_fall 52 = .ok (.invokevirtual 169, 3) := dz_182 (n := 32) (r := 20) hz_X11_fall_32 rfl rfl
theorem dX11_fall_55 : decode cX11_fall 55 = .ok (.aload_n 0, 1) := dz_42 (n := 32) (r := 23) hz_X11_fall_32 rfl
theorem dX11_fall_56 : decode cX11_fall 56 = .ok (.getfield 31, 3) := dz_180 (n := 32) (r := 24) hz_X11_fall_32 rfl rfl
theorem dX11_fall_59 : decode cX11_fall 59 = .ok (.aload_n 0, 1) := dz_42 (n := 32) (r := 27) hz_X11_fall_32 rfl
theorem dX11_fall_60 : decode cX11_fall 60 = .ok (.getfield 83, 3) := dz_180 (n := 32) (r := 28) hz_X11_fall_32 rfl rfl
theorem dX11_fall_63 : decode cX11_fall 63 = .ok (.getfield 221, 3) := dz_180 (n := 32) (r := 31) hz_X11_fall_32 rfl rfl
theorem hz_X11_fall_64 : (cX11_fall.data.toList.drop 64).take 40 = [0, 221, 181, 0, 144, 42, 180, 0, 83, 180, 0, 218, 172] := by decide +kernel
theorem dX11_fall_66 : decode cX11_fall 66 = .ok (.putfield 144, 3) := dz_181 (n := 64) (r := 2) hz_X11_fall_64 rfl rfl
theorem dX11_fall_69 : decode cX11_fall 69 = .ok (.aload_n 0, 1) := dz_42 (n := 64) (r := 5) hz_X11_fall_64 rfl
theorem dX11_fall_70 : decode cX11_fall 70 = .ok (.getfield 83, 3) := dz_180 (n := 64) (r := 6) hz_X11_fall_64 rfl rfl
theorem dX11_fall_73 : decode cX11_fall 73 = .ok (.getfield 218, 3) := dz_180 (n := 64) (r := 9) hz_X11_fall_64 rfl rfl
theorem dX11_fall_76 : decode cX11_fall 76 = .ok (.ireturn, 1) := dz_172 (n := 64) (r := 12) hz_X11_fall_64 rfl
theorem hz_X11_undo_0 : (cX11_undo.data.toList.drop 0).take 40 = [42, 180, 0, 38, 42, 180, 0, 31, 182, 0, 222, 172] := by decide +kernel
theorem dX11_undo_0 : decode cX11_undo 0 = .ok (.aload_n 0, 1) := dz_42 (n := 0) (r := 0) hz_X11_undo_0 rfl
theorem dX11_undo_1 : decode cX11_undo 1 = .ok (.getfield 38, 3) := dz_180 (n := 0) (r := 1) hz_X11_undo_0 rfl rfl
theorem dX11_undo_4 : decode cX11_undo 4 = .ok (.aload_n 0, 1) := dz_42 (n := 0) (r := 4) hz_X11_undo_0 rfl
theorem dX11_undo_5 : decode cX11_undo 5 = .ok (.getfield 31, 3) := dz_180 (n := 0) (r := 5) hz_X11_undo_0 rfl rfl
theorem dX11_undo_8 : decode cX11_undo 8 = .ok (.invokevirtual 222, 3) := dz_182 (n := 0) (r := 8) hz_X11_undo_0 rfl rfl
theorem dX11_undo_11 : decode cX11_undo 11 = .ok (.ireturn, 1) := dz_172 (n := 0) (r := 11) hz_X11_undo_0 rfl
theorem hz_X11_site_0 : (cX11_site.data.toList.drop 0).take 40 = [42, 180, 0, 24, 27, 182, 0, 176, 154, 0, 6, 18, 226, 172, 28, 170, 0, 0, 0, 141, 0, 0, 0, 0, 0, 0, 0, 7, 0, 0, 0, 45, 0, 0, 0, 54, 0, 0, 0, 63] := by decide +kernel
theorem dX11_site_0 : decode cX11_site 0 = .ok (.aload_n 0, 1) := dz_42 (n := 0) (r := 0) hz_X11_site_0 rfl
theorem dX11_site_1 : decode cX11_site 1 = .ok (.getfield 24, 3) := dz_180 (n := 0) (r := 1) hz_X11_site_0 rfl rfl
theorem dX11_site_4 : decode cX11_site 4 = .ok (.iload_n 1, 1) := dz_27 (n := 0) (r := 4) hz_X11_site_0 rfl
theorem dX11_site_5 : decode cX11_site 5 = .ok (.invokevirtual 176, 3) := dz_182 (n := 0) (r := 5) hz_X11_site_0 rfl rfl
theorem dX11_site_8 : decode cX11_site 8 = .ok (.ifCond .ne 6, 3) := dz_154 (n := 0) (r := 8) hz_X11_site_0 rfl (by decide +kernel)
theorem dX11_site_11 : decode cX11_site 11 = .ok (.ldc 226, 2) := dz_18 (n := 0) (r := 11) hz_X11_site_0 rfl rfl
theorem dX11_site_13 : decode cX11_site 13 = .ok (.ireturn, 1) := dz_172 (n := 0) (r := 13) hz_X11_site_0 rfl
theorem dX11_site_14 : decode cX11_site 14 = .ok (.iload_n 2, 1) := dz_28 (n := 0) (r := 14) hz_X11_site_0 rfl
theorem dX11_site_15 : decode cX11_site 15 = .ok (.tableswitch 141 0 7 #[45, 54, 63, 72, 81, 95, 109, 121], 45) := by decide +kernel
theorem hz_X11_site_32 : (cX11_site.data.toList.drop 32).take 40 = [0, 0, 0, 54, 0, 0, 0, 63, 0, 0, 0, 72, 0, 0, 0, 81, 0, 0, 0, 95, 0, 0, 0, 109, 0, 0, 0, 121, 42, 180, 0, 24, 27, 182, 0, 227, 172, 42, 180, 0] := by decide +kernel
theorem dX11_site_60 : decode cX11_site 60 = .ok (.aload_n 0, 1) := dz_42 (n := 32) (r := 28) hz_X11_site_32 rfl
theorem dX11_site_61 : decode cX11_site 61 = .ok (.getfield 24, 3) := dz_180 (n := 32) (r := 29) hz_X11_site_32 rfl rfl
theorem hz_X11_site_64 : (cX11_site.data.toList.drop 64).take 40 = [27, 182, 0, 227, 172, 42, 180, 0, 24, 27, 182, 0, 230, 172, 42, 180, 0, 31, 27, 182, 0, 179, 172, 42, 180, 0, 31, 27, 182, 0, 185, 172, 42, 42, 180, 0, 24, 27, 3, 182] := by decide +kernel
theorem dX11_site_64 : decode cX11_site 64 = .ok (.iload_n 1, 1) := dz_27 (n := 64) (r := 0) hz_X11_site_64 rfl
theorem dX11_site_65 : decode cX11_site 65 = .ok (.invokevirtual 227, 3) := dz_182 (n := 64) (r := 1) hz_X11_site_64 rfl rfl
theorem dX11_site_68 : decode cX11_site 68 = .ok (.ireturn, 1) := dz_172 (n := 64) (r := 4) hz_X11_site_64 rfl
theorem dX11_site_69 : decode cX11_site 69 = .ok (.aload_n 0, 1) := dz_42 (n := 64) (r := 5) hz_X11_site_64 rfl
theorem dX11_site_70 : decode cX11_site 70 = .ok (.getfield 24, 3) := dz_180 (n := 64) (r := 6) hz_X11_site_64 rfl rfl
theorem dX11_site_73 : decode cX11_site 73 = .ok (.iload_n 1, 1) := dz_27 (n := 64) (r := 9) hz_X11_site_64 rfl
theorem dX11_site_74 : decode cX11_site 74 = .ok (.invokevirtual 230, 3) := dz_182 (n := 64) (r := 10) hz_X11_site_64 rfl rfl
theorem dX11_site_77 : decode cX11_site 77 = .ok (.ireturn, 1) := dz_172 (n := 64) (r := 13) hz_X11_site_64 rfl
theorem dX11_site_78 : decode cX11_site 78 = .ok (.aload_n 0, 1) := dz_42 (n := 64) (r := 14) hz_X11_site_64 rfl
theorem dX11_site_79 : decode cX11_site 79 = .ok (.getfield 31, 3) := dz_180 (n := 64) (r := 15) hz_X11_site_64 rfl rfl
theorem dX11_site_82 : decode cX11_site 82 = .ok (.iload_n 1, 1) := dz_27 (n := 64) (r := 18) hz_X11_site_64 rfl
theorem dX11_site_83 : decode cX11_site 83 = .ok (.invokevirtual 179, 3) := dz_182 (n := 64) (r := 19) hz_X11_site_64 rfl rfl
theorem dX11_site_86 : decode cX11_site 86 = .ok (.ireturn, 1) := dz_172 (n := 64) (r := 22) hz_X11_site_64 rfl
theorem dX11_site_87 : decode cX11_site 87 = .ok (.aload_n 0, 1) := dz_42 (n := 64) (r := 23) hz_X11_site_64 rfl
theorem dX11_site_88 : decode cX11_site 88 = .ok (.getfield 31, 3) := dz_180 (n := 64) (r := 24) hz_X11_site_64 rfl rfl
theorem dX11_site_91 : decode cX11_site 91 = .ok (.iload_n 1, 1) := dz_27 (n := 64) (r := 27) hz_X11_site_64 rfl
theorem dX11_site_92 : decode cX11_site 92 = .ok (.invokevirtual 185, 3) := dz_182 (n := 64) (r := 28) hz_X11_site_64 rfl rfl
theorem dX11_site_95 : decode cX11_site 95 = .ok (.ireturn, 1) := dz_172 (n := 64) (r := 31) hz_X11_site_64 rfl
theorem hz_X11_site_96 : (cX11_site.data.toList.drop 96).take 40 = [42, 42, 180, 0, 24, 27, 3, 182, 0, 157, 182, 0, 233, 172, 42, 42, 180, 0, 24, 27, 4, 182, 0, 157, 182, 0, 233, 172, 42, 180, 0, 31, 180, 0, 144, 27, 184, 0, 236, 172] := by decide +kernel
theorem dX11_site_96 : decode cX11_site 96 = .ok (.aload_n 0, 1) := dz_42 (n := 96) (r := 0) hz_X11_site_96 rfl
theorem dX11_site_97 : decode cX11_site 97 = .ok (.aload_n 0, 1) := dz_42 (n := 96) (r := 1) hz_X11_site_96 rfl
theorem dX11_site_98 : decode cX11_site 98 = .ok (.getfield 24, 3) := dz_180 (n := 96) (r := 2) hz_X11_site_96 rfl rfl
theorem dX11_site_101 : decode cX11_site 101 = .ok (.iload_n 1, 1) := dz_27 (n := 96) (r := 5) hz_X11_site_96 rfl
theorem dX11_site_102 : decode cX11_site 102 = .ok (.iconst 0, 1) := dz_3 (n := 96) (r := 6) hz_X11_site_96 rfl
theorem dX11_site_103 : decode cX11_site 103 = .ok (.invokevirtual 157, 3) := dz_182 (n := 96) (r := 7) hz_X11_site_96 rfl rfl
theorem dX11_site_106 : decode cX11_site 106 = .ok (.invokevirtual 233, 3) := dz_182 (n := 96) (r := 10) hz_X11_site_96 rfl rfl
theorem dX11_site_109 : decode cX11_site 109 = .ok (.ireturn, 1) := dz_172 (n := 96) (r := 13) hz_X11_site_96 rfl
theorem dX11_site_110 : decode cX11_site 110 = .ok (.aload_n 0, 1) := dz_42 (n := 96) (r := 14) hz_X11_site_96 rfl
theorem dX11_site_111 : decode cX11_site 111 = .ok (.aload_n 0, 1) := dz_42 (n := 96) (r := 15) hz_X11_site_96 rfl
theorem dX11_site_112 : decode cX11_site 112 = .ok (.getfield 24, 3) := dz_180 (n := 96) (r := 16) hz_X11_site_96 rfl rfl
theorem dX11_site_115 : decode cX11_site 115 = .ok (.iload_n 1, 1) := dz_27 (n := 96) (r := 19) hz_X11_site_96 rfl
theorem dX11_site_116 : decode cX11_site 116 = .ok (.iconst 1, 1) := dz_4 (n := 96) (r := 20) hz_X11_site_96 rfl
theorem dX11_site_117 : decode cX11_site 117 = .ok (.invokevirtual 157, 3) := dz_182 (n := 96) (r := 21) hz_X11_site_96 rfl rfl
theorem dX11_site_120 : decode cX11_site 120 = .ok (.invokevirtual 233, 3) := dz_182 (n := 96) (r := 24) hz_X11_site_96 rfl rfl
theorem dX11_site_123 : decode cX11_site 123 = .ok (.ireturn, 1) := dz_172 (n := 96) (r := 27) hz_X11_site_96 rfl
theorem dX11_site_124 : decode cX11_site 124 = .ok (.aload_n 0, 1) := dz_42 (n := 96) (r := 28) hz_X11_site_96 rfl
theorem dX11_site_125 : decode cX11_site 125 = .ok (.getfield 31, 3) := dz_180 (n := 96) (r := 29) hz_X11_site_96 rfl rfl
theorem hz_X11_site_128 : (cX11_site.data.toList.drop 128).take 40 = [180, 0, 144, 27, 184, 0, 236, 172, 42, 180, 0, 24, 42, 180, 0, 31, 42, 180, 0, 31, 180, 0, 144, 27, 182, 0, 240, 172, 18, 226, 172] := by decide +kernel
theorem dX11_site_128 : decode cX11_site 128 = .ok (.getfield 144, 3) := dz_180 (n := 128) (r := 0) hz_X11_site_128 rfl rfl
theorem dX11_site_131 : decode cX11_site 131 = .ok (.iload_n 1, 1) := dz_27 (n := 128) (r := 3) hz_X11_site_128 rfl
theorem dX11_site_132 : decode cX11_site 132 = .ok (.invokestatic 236, 3) := dz_184 (n := 128) (r := 4) hz_X11_site_128 rfl rfl
theorem dX11_site_135 : decode cX11_site 135 = .ok (.ireturn, 1) := dz_172 (n := 128) (r := 7) hz_X11_site_128 rfl
theorem dX11_site_136 : decode cX11_site 136 = .ok (.aload_n 0, 1) := dz_42 (n := 128) (r := 8) hz_X11_site_128 rfl
theorem dX11_site_137 : decode cX11_site 137 = .ok (.getfield 24, 3) := dz_180 (n := 128) (r := 9) hz_X11_site_128 rfl rfl
theorem dX11_site_140 : decode cX11_site 140 = .ok (.aload_n 0, 1) := dz_42 (n := 128) (r := 12) hz_X11_site_128 rfl
theorem dX11_site_141 : decode cX11_site 141 = .ok (.getfield 31, 3) := dz_180 (n := 128) (r := 13) hz_X11_site_128 rfl rfl
theorem dX11_site_144 : decode cX11_site 144 = .ok (.aload_n 0, 1) := dz_42 (n := 128) (r := 16) hz_X11_site_128 rfl
theorem dX11_site_145 : decode cX11_site 145 = .ok (.getfield 31, 3) := dz_180 (n := 128) (r := 17) hz_X11_site_128 rfl rfl
theorem dX11_site_148 : decode cX11_site 148 = .ok (.getfield 144, 3) := dz_180 (n := 128) (r := 20) hz_X11_site_128 rfl rfl
theorem dX11_site_151 : decode cX11_site 151 = .ok (.iload_n 1, 1) := dz_27 (n := 128) (r := 23) hz_X11_site_128 rfl
theorem dX11_site_152 : decode cX11_site 152 = .ok (.invokevirtual 240, 3) := dz_182 (n := 128) (r := 24) hz_X11_site_128 rfl rfl
theorem dX11_site_155 : decode cX11_site 155 = .ok (.ireturn, 1) := dz_172 (n := 128) (r := 27) hz_X11_site_128 rfl
theorem dX11_site_156 : decode cX11_site 156 = .ok (.ldc 226, 2) := dz_18 (n := 128) (r := 28) hz_X11_site_128 rfl rfl
theorem dX11_site_158 : decode cX11_site 158 = .ok (.ireturn, 1) := dz_172 (n := 128) (r := 30) hz_X11_site_128 rfl
theorem hz_X11_bondOrNoTie_0 : (cX11_bondOrNoTie.data.toList.drop 0).take 40 = [27, 2, 160, 0, 8, 16, 100, 167, 0, 11, 42, 180, 0, 31, 27, 182, 0, 165, 172] := by decide +kernel
theorem dX11_bondOrNoTie_0 : decode cX11_bondOrNoTie 0 = .ok (.iload_n 1, 1) := dz_27 (n := 0) (r := 0) hz_X11_bondOrNoTie_0 rfl
theorem dX11_bondOrNoTie_1 : decode cX11_bondOrNoTie 1 = .ok (.iconst (-1), 1) := dz_2 (n := 0) (r := 1) hz_X11_bondOrNoTie_0 rfl
theorem dX11_bondOrNoTie_2 : decode cX11_bondOrNoTie 2 = .ok (.if_icmp .ne 8, 3) := dz_160 (n := 0) (r := 2) hz_X11_bondOrNoTie_0 rfl (by decide +kernel)
theorem dX11_bondOrNoTie_5 : decode cX11_bondOrNoTie 5 = .ok (.bipush 100, 2) := dz_16 (n := 0) (r := 5) hz_X11_bondOrNoTie_0 rfl rfl
theorem dX11_bondOrNoTie_7 : decode cX11_bondOrNoTie 7 = .ok (.goto 11, 3) := dz_167 (n := 0) (r := 7) hz_X11_bondOrNoTie_0 rfl (by decide +kernel)
theorem dX11_bondOrNoTie_10 : decode cX11_bondOrNoTie 10 = .ok (.aload_n 0, 1) := dz_42 (n := 0) (r := 10) hz_X11_bondOrNoTie_0 rfl
theorem dX11_bondOrNoTie_11 : decode cX11_bondOrNoTie 11 = .ok (.getfield 31, 3) := dz_180 (n := 0) (r := 11) hz_X11_bondOrNoTie_0 rfl rfl
theorem dX11_bondOrNoTie_14 : decode cX11_bondOrNoTie 14 = .ok (.iload_n 1, 1) := dz_27 (n := 0) (r := 14) hz_X11_bondOrNoTie_0 rfl
theorem dX11_bondOrNoTie_15 : decode cX11_bondOrNoTie 15 = .ok (.invokevirtual 165, 3) := dz_182 (n := 0) (r := 15) hz_X11_bondOrNoTie_0 rfl rfl
theorem dX11_bondOrNoTie_18 : decode cX11_bondOrNoTie 18 = .ok (.ireturn, 1) := dz_172 (n := 0) (r := 18) hz_X11_bondOrNoTie_0 rfl
theorem hz_X11_square_0 : (cX11_square.data.toList.drop 0).take 40 = [42, 180, 0, 24, 27, 182, 0, 176, 154, 0, 5, 2, 172, 42, 180, 0, 24, 42, 180, 0, 31, 27, 182, 0, 244, 172] := by decide +kernel
theorem dX11_square_0 : decode cX11_square 0 = .ok (.aload_n 0, 1) := dz_42 (n := 0) (r := 0) hz_X11_square_0 rfl
theorem dX11_square_1 : decode cX11_square 1 = .ok (.getfield 24, 3) := dz_180 (n := 0) (r := 1) hz_X11_square_0 rfl rfl
theorem dX11_square_4 : decode cX11_square 4 = .ok (.iload_n 1, 1) := dz_27 (n := 0) (r := 4) hz_X11_square_0 rfl
theorem dX11_square_5 : decode cX11_square 5 = .ok (.invokevirtual 176, 3) := dz_182 (n := 0) (r := 5) hz_X11_square_0 rfl rfl
theorem dX11_square_8 : decode cX11_square 8 = .ok (.ifCond .ne 5, 3) := dz_154 (n := 0) (r := 8) hz_X11_square_0 rfl (by decide +kernel)
theorem dX11_square_11 : decode cX11_square 11 = .ok (.iconst (-1), 1) := dz_2 (n := 0) (r := 11) hz_X11_square_0 rfl
theorem dX11_square_12 : decode cX11_square 12 = .ok (.ireturn, 1) := dz_172 (n := 0) (r := 12) hz_X11_square_0 rfl
theorem dX11_square_13 : decode cX11_square 13 = .ok (.aload_n 0, 1) := dz_42 (n := 0) (r := 13) hz_X11_square_0 rfl
theorem dX11_square_14 : decode cX11_square 14 = .ok (.getfield 24, 3) := dz_180 (n := 0) (r := 14) hz_X11_square_0 rfl rfl
theorem dX11_square_17 : decode cX11_square 17 = .ok (.aload_n 0, 1) := dz_42 (n := 0) (r := 17) hz_X11_square_0 rfl
theorem dX11_square_18 : decode cX11_square 18 = .ok (.getfield 31, 3) := dz_180 (n := 0) (r := 18) hz_X11_square_0 rfl rfl
theorem dX11_square_21 : decode cX11_square 21 = .ok (.iload_n 1, 1) := dz_27 (n := 0) (r := 21) hz_X11_square_0 rfl
theorem dX11_square_22 : decode cX11_square 22 = .ok (.invokevirtual 244, 3) := dz_182 (n := 0) (r := 22) hz_X11_square_0 rfl rfl
theorem dX11_square_25 : decode cX11_square 25 = .ok (.ireturn, 1) := dz_172 (n := 0) (r := 25) hz_X11_square_0 rfl
theorem hz_X11_cluster_0 : (cX11_cluster.data.toList.drop 0).take 40 = [42, 180, 0, 24, 27, 182, 0, 176, 154, 0, 5, 2, 172, 42, 180, 0, 24, 42, 180, 0, 31, 180, 0, 144, 27, 182, 0, 248, 172] := by decide +kernel
theorem dX11_cluster_0 : decode cX11_cluster 0 = .ok (.aload_n 0, 1) := dz_42 (n := 0) (r := 0) hz_X11_cluster_0 rfl
theorem dX11_cluster_1 : decode cX11_cluster 1 = .ok (.getfield 24, 3) := dz_180 (n := 0) (r := 1) hz_X11_cluster_0 rfl rfl
theorem dX11_cluster_4 : decode cX11_cluster 4 = .ok (.iload_n 1, 1) := dz_27 (n := 0) (r := 4) hz_X11_cluster_0 rfl
theorem dX11_cluster_5 : decode cX11_cluster 5 = .ok (.invokevirtual 176, 3) := dz_182 (n := 0) (r := 5) hz_X11_cluster_0 rfl rfl
theorem dX11_cluster_8 : decode cX11_cluster 8 = .ok (.ifCond .ne 5, 3) := dz_154 (n := 0) (r := 8) hz_X11_cluster_0 rfl (by decide +kernel)
theorem dX11_cluster_11 : decode cX11_cluster 11 = .ok (.iconst (-1), 1) := dz_2 (n := 0) (r := 11) hz_X11_cluster_0 rfl
theorem dX11_cluster_12 : decode cX11_cluster 12 = .ok (.ireturn, 1) := dz_172 (n := 0) (r := 12) hz_X11_cluster_0 rfl
theorem dX11_cluster_13 : decode cX11_cluster 13 = .ok (.aload_n 0, 1) := dz_42 (n := 0) (r := 13) hz_X11_cluster_0 rfl
theorem dX11_cluster_14 : decode cX11_cluster 14 = .ok (.getfield 24, 3) := dz_180 (n := 0) (r := 14) hz_X11_cluster_0 rfl rfl
theorem dX11_cluster_17 : decode cX11_cluster 17 = .ok (.aload_n 0, 1) := dz_42 (n := 0) (r := 17) hz_X11_cluster_0 rfl
theorem dX11_cluster_18 : decode cX11_cluster 18 = .ok (.getfield 31, 3) := dz_180 (n := 0) (r := 18) hz_X11_cluster_0 rfl rfl
theorem dX11_cluster_21 : decode cX11_cluster 21 = .ok (.getfield 144, 3) := dz_180 (n := 0) (r := 21) hz_X11_cluster_0 rfl rfl
theorem dX11_cluster_24 : decode cX11_cluster 24 = .ok (.iload_n 1, 1) := dz_27 (n := 0) (r := 24) hz_X11_cluster_0 rfl
theorem dX11_cluster_25 : decode cX11_cluster 25 = .ok (.invokevirtual 248, 3) := dz_182 (n := 0) (r := 25) hz_X11_cluster_0 rfl rfl
theorem dX11_cluster_28 : decode cX11_cluster 28 = .ok (.ireturn, 1) := dz_172 (n := 0) (r := 28) hz_X11_cluster_0 rfl
theorem hz_X11_level_0 : (cX11_level.data.toList.drop 0).take 40 = [42, 182, 0, 251, 78, 27, 2, 160, 0, 8, 45, 180, 0, 255, 172, 45, 27, 182, 1, 2, 154, 0, 6, 18, 226, 172, 45, 27, 182, 1, 5, 54, 4, 28, 170, 0, 0, 0, 0, 65] := by decide +kernel
theorem dX11_level_0 : decode cX11_level 0 = .ok (.aload_n 0, 1) := dz_42 (n := 0) (r := 0) hz_X11_level_0 rfl
theorem dX11_level_1 : decode cX11_level 1 = .ok (.invokevirtual 251, 3) := dz_182 (n := 0) (r := 1) hz_X11_level_0 rfl rfl
theorem dX11_level_4 : decode cX11_level 4 = .ok (.astore_n 3, 1) := dz_78 (n := 0) (r := 4) hz_X11_level_0 rfl
theorem dX11_level_5 : decode cX11_level 5 = .ok (.iload_n 1, 1) := dz_27 (n := 0) (r := 5) hz_X11_level_0 rfl
theorem dX11_level_6 : decode cX11_level 6 = .ok (.iconst (-1), 1) := dz_2 (n := 0) (r := 6) hz_X11_level_0 rfl
theorem dX11_level_7 : decode cX11_level 7 = .ok (.if_icmp .ne 8, 3) := dz_160 (n := 0) (r := 7) hz_X11_level_0 rfl (by decide +kernel)
theorem dX11_level_10 : decode cX11_level 10 = .ok (.aload_n 3, 1) := dz_45 (n := 0) (r := 10) hz_X11_level_0 rfl
theorem dX11_level_11 : decode cX11_level 11 = .ok (.getfield 255, 3) := dz_180 (n := 0) (r := 11) hz_X11_level_0 rfl rfl
theorem dX11_level_14 : decode cX11_level 14 = .ok (.ireturn, 1) := dz_172 (n := 0) (r := 14) hz_X11_level_0 rfl
theorem dX11_level_15 : decode cX11_level 15 = .ok (.aload_n 3, 1) := dz_45 (n := 0) (r := 15) hz_X11_level_0 rfl
theorem dX11_level_16 : decode cX11_level 16 = .ok (.iload_n 1, 1) := dz_27 (n := 0) (r := 16) hz_X11_level_0 rfl
theorem dX11_level_17 : decode cX11_level 17 = .ok (.invokevirtual 258, 3) := dz_182 (n := 0) (r := 17) hz_X11_level_0 rfl rfl
theorem dX11_level_20 : decode cX11_level 20 = .ok (.ifCond .ne 6, 3) := dz_154 (n := 0) (r := 20) hz_X11_level_0 rfl (by decide +kernel)
theorem dX11_level_23 : decode cX11_level 23 = .ok (.ldc 226, 2) := dz_18 (n := 0) (r := 23) hz_X11_level_0 rfl rfl
theorem dX11_level_25 : decode cX11_level 25 = .ok (.ireturn, 1) := dz_172 (n := 0) (r := 25) hz_X11_level_0 rfl
theorem dX11_level_26 : decode cX11_level 26 = .ok (.aload_n 3, 1) := dz_45 (n := 0) (r := 26) hz_X11_level_0 rfl
theorem dX11_level_27 : decode cX11_level 27 = .ok (.iload_n 1, 1) := dz_27 (n := 0) (r := 27) hz_X11_level_0 rfl
theorem dX11_level_28 : decode cX11_level 28 = .ok (.invokevirtual 261, 3) := dz_182 (n := 0) (r := 28) hz_X11_level_0 rfl rfl
theorem dX11_level_31 : decode cX11_level 31 = .ok (.istore 4, 2) := dz_54 (n := 0) (r := 31) hz_X11_level_0 rfl rfl
theorem hz_X11_level_32 : (cX11_level.data.toList.drop 32).take 40 = [4, 28, 170, 0, 0, 0, 0, 65, 0, 0, 0, 0, 0, 0, 0, 4, 0, 0, 0, 34, 0, 0, 0, 37, 0, 0, 0, 44, 0, 0, 0, 51, 0, 0, 0, 58, 21, 4, 172, 45] := by decide +kernel
theorem dX11_level_33 : decode cX11_level 33 = .ok (.iload_n 2, 1) := dz_28 (n := 32) (r := 1) hz_X11_level_32 rfl
theorem dX11_level_34 : decode cX11_level 34 = .ok (.tableswitch 65 0 4 #[34, 37, 44, 51, 58], 34) := by decide +kernel
theorem hz_X11_level_64 : (cX11_level.data.toList.drop 64).take 40 = [0, 0, 0, 58, 21, 4, 172, 45, 21, 4, 182, 1, 8, 172, 45, 21, 4, 182, 1, 11, 172, 45, 21, 4, 182, 1, 14, 172, 45, 21, 4, 182, 1, 17, 172, 18, 226, 172] := by decide +kernel
theorem dX11_level_68 : decode cX11_level 68 = .ok (.iload 4, 2) := dz_21 (n := 64) (r := 4) hz_X11_level_64 rfl rfl
theorem dX11_level_70 : decode cX11_level 70 = .ok (.ireturn, 1) := dz_172 (n := 64) (r := 6) hz_X11_level_64 rfl
theorem dX11_level_71 : decode cX11_level 71 = .ok (.aload_n 3, 1) := dz_45 (n := 64) (r := 7) hz_X11_level_64 rfl
theorem dX11_level_72 : decode cX11_level 72 = .ok (.iload 4, 2) := dz_21 (n := 64) (r := 8) hz_X11_level_64 rfl rfl
theorem dX11_level_74 : decode cX11_level 74 = .ok (.invokevirtual 264, 3) := dz_182 (n := 64) (r := 10) hz_X11_level_64 rfl rfl
theorem dX11_level_77 : decode cX11_level 77 = .ok (.ireturn, 1) := dz_172 (n := 64) (r := 13) hz_X11_level_64 rfl
theorem dX11_level_78 : decode cX11_level 78 = .ok (.aload_n 3, 1) := dz_45 (n := 64) (r := 14) hz_X11_level_64 rfl
theorem dX11_level_79 : decode cX11_level 79 = .ok (.iload 4, 2) := dz_21 (n := 64) (r := 15) hz_X11_level_64 rfl rfl
theorem dX11_level_81 : decode cX11_level 81 = .ok (.invokevirtual 267, 3) := dz_182 (n := 64) (r := 17) hz_X11_level_64 rfl rfl
theorem dX11_level_84 : decode cX11_level 84 = .ok (.ireturn, 1) := dz_172 (n := 64) (r := 20) hz_X11_level_64 rfl
theorem dX11_level_85 : decode cX11_level 85 = .ok (.aload_n 3, 1) := dz_45 (n := 64) (r := 21) hz_X11_level_64 rfl
theorem dX11_level_86 : decode cX11_level 86 = .ok (.iload 4, 2) := dz_21 (n := 64) (r := 22) hz_X11_level_64 rfl rfl
theorem dX11_level_88 : decode cX11_level 88 = .ok (.invokevirtual 270, 3) := dz_182 (n := 64) (r := 24) hz_X11_level_64 rfl rfl
theorem dX11_level_91 : decode cX11_level 91 = .ok (.ireturn, 1) := dz_172 (n := 64) (r := 27) hz_X11_level_64 rfl
theorem dX11_level_92 : decode cX11_level 92 = .ok (.aload_n 3, 1) := dz_45 (n := 64) (r := 28) hz_X11_level_64 rfl
theorem dX11_level_93 : decode cX11_level 93 = .ok (.iload 4, 2) := dz_21 (n := 64) (r := 29) hz_X11_level_64 rfl rfl
theorem dX11_level_95 : decode cX11_level 95 = .ok (.invokevirtual 273, 3) := dz_182 (n := 64) (r := 31) hz_X11_level_64 rfl rfl
theorem hz_X11_level_96 : (cX11_level.data.toList.drop 96).take 40 = [1, 17, 172, 18, 226, 172] := by decide +kernel
theorem dX11_level_98 : decode cX11_level 98 = .ok (.ireturn, 1) := dz_172 (n := 96) (r := 2) hz_X11_level_96 rfl
theorem dX11_level_99 : decode cX11_level 99 = .ok (.ldc 226, 2) := dz_18 (n := 96) (r := 3) hz_X11_level_96 rfl rfl
theorem dX11_level_101 : decode cX11_level 101 = .ok (.ireturn, 1) := dz_172 (n := 96) (r := 5) hz_X11_level_96 rfl
theorem hz_X11_both_0 : (cX11_both.data.toList.drop 0).take 40 = [42, 182, 0, 251, 27, 28, 182, 1, 20, 172] := by decide +kernel
theorem dX11_both_0 : decode cX11_both 0 = .ok (.aload_n 0, 1) := dz_42 (n := 0) (r := 0) hz_X11_both_0 rfl
theorem dX11_both_1 : decode cX11_both 1 = .ok (.invokevirtual 251, 3) := dz_182 (n := 0) (r := 1) hz_X11_both_0 rfl rfl
theorem dX11_both_4 : decode cX11_both 4 = .ok (.iload_n 1, 1) := dz_27 (n := 0) (r := 4) hz_X11_both_0 rfl
theorem dX11_both_5 : decode cX11_both 5 = .ok (.iload_n 2, 1) := dz_28 (n := 0) (r := 5) hz_X11_both_0 rfl
theorem dX11_both_6 : decode cX11_both 6 = .ok (.invokevirtual 276, 3) := dz_182 (n := 0) (r := 6) hz_X11_both_0 rfl rfl
theorem dX11_both_9 : decode cX11_both 9 = .ok (.ireturn, 1) := dz_172 (n := 0) (r := 9) hz_X11_both_0 rfl
theorem hz_X11_broken_0 : (cX11_broken.data.toList.drop 0).take 40 = [42, 182, 1, 23, 27, 182, 1, 27, 172] := by decide +kernel
theorem dX11_broken_0 : decode cX11_broken 0 = .ok (.aload_n 0, 1) := dz_42 (n := 0) (r := 0) hz_X11_broken_0 rfl
theorem dX11_broken_1 : decode cX11_broken 1 = .ok (.invokevirtual 279, 3) := dz_182 (n := 0) (r := 1) hz_X11_broken_0 rfl rfl
theorem dX11_broken_4 : decode cX11_broken 4 = .ok (.iload_n 1, 1) := dz_27 (n := 0) (r := 4) hz_X11_broken_0 rfl
theorem dX11_broken_5 : decode cX11_broken 5 = .ok (.invokevirtual 283, 3) := dz_182 (n := 0) (r := 5) hz_X11_broken_0 rfl rfl
theorem dX11_broken_8 : decode cX11_broken 8 = .ok (.ireturn, 1) := dz_172 (n := 0) (r := 8) hz_X11_broken_0 rfl
theorem hz_X11_ground_0 : (cX11_ground.data.toList.drop 0).take 40 = [42, 182, 0, 251, 77, 44, 180, 0, 255, 154, 0, 6, 18, 226, 172, 44, 3, 182, 1, 5, 62, 27, 170, 0, 0, 0, 0, 65, 0, 0, 0, 0, 0, 0, 0, 3, 0, 0, 0, 30] := by decide +kernel
theorem dX11_ground_0 : decode cX11_ground 0 = .ok (.aload_n 0, 1) := dz_42 (n := 0) (r := 0) hz_X11_ground_0 rfl
theorem dX11_ground_1 : decode cX11_ground 1 = .ok (.invokevirtual 251, 3) := dz_182 (n := 0) (r := 1) hz_X11_ground_0 rfl rfl
theorem dX11_ground_4 : decode cX11_ground 4 = .ok (.astore_n 2, 1) := dz_77 (n := 0) (r := 4) hz_X11_ground_0 rfl
theorem dX11_ground_5 : decode cX11_ground 5 = .ok (.aload_n 2, 1) := dz_44 (n := 0) (r := 5) hz_X11_ground_0 rfl
theorem dX11_ground_6 : decode cX11_ground 6 = .ok (.getfield 255, 3) := dz_180 (n := 0) (r := 6) hz_X11_ground_0 rfl rfl
theorem dX11_ground_9 : decode cX11_ground 9 = .ok (.ifCond .ne 6, 3) := dz_154 (n := 0) (r := 9) hz_X11_ground_0 rfl (by decide +kernel)
theorem dX11_ground_12 : decode cX11_ground 12 = .ok (.ldc 226, 2) := dz_18 (n := 0) (r := 12) hz_X11_ground_0 rfl rfl
theorem dX11_ground_14 : decode cX11_ground 14 = .ok (.ireturn, 1) := dz_172 (n := 0) (r := 14) hz_X11_ground_0 rfl
theorem dX11_ground_15 : decode cX11_ground 15 = .ok (.aload_n 2, 1) := dz_44 (n := 0) (r := 15) hz_X11_ground_0 rfl
theorem dX11_ground_16 : decode cX11_ground 16 = .ok (.iconst 0, 1) := dz_3 (n := 0) (r := 16) hz_X11_ground_0 rfl
theorem dX11_ground_17 : decode cX11_ground 17 = .ok (.invokevirtual 261, 3) := dz_182 (n := 0) (r := 17) hz_X11_ground_0 rfl rfl
theorem dX11_ground_20 : decode cX11_ground 20 = .ok (.istore_n 3, 1) := dz_62 (n := 0) (r := 20) hz_X11_ground_0 rfl
theorem dX11_ground_21 : decode cX11_ground 21 = .ok (.iload_n 1, 1) := dz_27 (n := 0) (r := 21) hz_X11_ground_0 rfl
theorem dX11_ground_22 : decode cX11_ground 22 = .ok (.tableswitch 65 0 3 #[30, 32, 38, 44], 30) := by decide +kernel
theorem hz_X11_ground_32 : (cX11_ground.data.toList.drop 32).take 40 = [0, 0, 0, 3, 0, 0, 0, 30, 0, 0, 0, 32, 0, 0, 0, 38, 0, 0, 0, 44, 29, 172, 44, 29, 182, 1, 8, 172, 44, 29, 182, 1, 11, 172, 44, 180, 0, 255, 4, 164] := by decide +kernel
theorem dX11_ground_52 : decode cX11_ground 52 = .ok (.iload_n 3, 1) := dz_29 (n := 32) (r := 20) hz_X11_ground_32 rfl
theorem dX11_ground_53 : decode cX11_ground 53 = .ok (.ireturn, 1) := dz_172 (n := 32) (r := 21) hz_X11_ground_32 rfl
theorem dX11_ground_54 : decode cX11_ground 54 = .ok (.aload_n 2, 1) := dz_44 (n := 32) (r := 22) hz_X11_ground_32 rfl
theorem dX11_ground_55 : decode cX11_ground 55 = .ok (.iload_n 3, 1) := dz_29 (n := 32) (r := 23) hz_X11_ground_32 rfl
theorem dX11_ground_56 : decode cX11_ground 56 = .ok (.invokevirtual 264, 3) := dz_182 (n := 32) (r := 24) hz_X11_ground_32 rfl rfl
theorem dX11_ground_59 : decode cX11_ground 59 = .ok (.ireturn, 1) := dz_172 (n := 32) (r := 27) hz_X11_ground_32 rfl
theorem dX11_ground_60 : decode cX11_ground 60 = .ok (.aload_n 2, 1) := dz_44 (n := 32) (r := 28) hz_X11_ground_32 rfl
theorem dX11_ground_61 : decode cX11_ground 61 = .ok (.iload_n 3, 1) := dz_29 (n := 32) (r := 29) hz_X11_ground_32 rfl
theorem dX11_ground_62 : decode cX11_ground 62 = .ok (.invokevirtual 267, 3) := dz_182 (n := 32) (r := 30) hz_X11_ground_32 rfl rfl
theorem hz_X11_ground_64 : (cX11_ground.data.toList.drop 64).take 40 = [11, 172, 44, 180, 0, 255, 4, 164, 0, 13, 44, 4, 182, 1, 5, 29, 100, 167, 0, 5, 16, 254, 172, 18, 226, 172] := by decide +kernel
theorem dX11_ground_65 : decode cX11_ground 65 = .ok (.ireturn, 1) := dz_172 (n := 64) (r := 1) hz_X11_ground_64 rfl
theorem dX11_ground_66 : decode cX11_ground 66 = .ok (.aload_n 2, 1) := dz_44 (n := 64) (r := 2) hz_X11_ground_64 rfl
theorem dX11_ground_67 : decode cX11_ground 67 = .ok (.getfield 255, 3) := dz_180 (n := 64) (r := 3) hz_X11_ground_64 rfl rfl
theorem dX11_ground_70 : decode cX11_ground 70 = .ok (.iconst 1, 1) := dz_4 (n := 64) (r := 6) hz_X11_ground_64 rfl
theorem dX11_ground_71 : decode cX11_ground 71 = .ok (.if_icmp .le 13, 3) := dz_164 (n := 64) (r := 7) hz_X11_ground_64 rfl (by decide +kernel)
theorem dX11_ground_74 : decode cX11_ground 74 = .ok (.aload_n 2, 1) := dz_44 (n := 64) (r := 10) hz_X11_ground_64 rfl
theorem dX11_ground_75 : decode cX11_ground 75 = .ok (.iconst 1, 1) := dz_4 (n := 64) (r := 11) hz_X11_ground_64 rfl
theorem dX11_ground_76 : decode cX11_ground 76 = .ok (.invokevirtual 261, 3) := dz_182 (n := 64) (r := 12) hz_X11_ground_64 rfl rfl
theorem dX11_ground_79 : decode cX11_ground 79 = .ok (.iload_n 3, 1) := dz_29 (n := 64) (r := 15) hz_X11_ground_64 rfl
theorem dX11_ground_80 : decode cX11_ground 80 = .ok (.isub, 1) := dz_100 (n := 64) (r := 16) hz_X11_ground_64 rfl
theorem dX11_ground_81 : decode cX11_ground 81 = .ok (.goto 5, 3) := dz_167 (n := 64) (r := 17) hz_X11_ground_64 rfl (by decide +kernel)
theorem dX11_ground_84 : decode cX11_ground 84 = .ok (.bipush (-2), 2) := dz_16 (n := 64) (r := 20) hz_X11_ground_64 rfl rfl
theorem dX11_ground_86 : decode cX11_ground 86 = .ok (.ireturn, 1) := dz_172 (n := 64) (r := 22) hz_X11_ground_64 rfl
theorem dX11_ground_87 : decode cX11_ground 87 = .ok (.ldc 226, 2) := dz_18 (n := 64) (r := 23) hz_X11_ground_64 rfl rfl
theorem dX11_ground_89 : decode cX11_ground 89 = .ok (.ireturn, 1) := dz_172 (n := 64) (r := 25) hz_X11_ground_64 rfl
theorem hz_X11_pair_0 : (cX11_pair.data.toList.drop 0).take 40 = [42, 180, 0, 24, 27, 182, 0, 176, 153, 0, 25, 42, 180, 0, 24, 28, 182, 0, 176, 153, 0, 14, 42, 182, 0, 251, 29, 182, 1, 2, 154, 0, 6, 18, 226, 172, 42, 180, 0, 62] := by decide +kernel
theorem dX11_pair_0 : decode cX11_pair 0 = .ok (.aload_n 0, 1) := dz_42 (n := 0) (r := 0) hz_X11_pair_0 rfl
theorem dX11_pair_1 : decode cX11_pair 1 = .ok (.getfield 24, 3) := dz_180 (n := 0) (r := 1) hz_X11_pair_0 rfl rfl
theorem dX11_pair_4 : decode cX11_pair 4 = .ok (.iload_n 1, 1) := dz_27 (n := 0) (r := 4) hz_X11_pair_0 rfl
theorem dX11_pair_5 : decode cX11_pair 5 = .ok (.invokevirtual 176, 3) := dz_182 (n := 0) (r := 5) hz_X11_pair_0 rfl rfl
theorem dX11_pair_8 : decode cX11_pair 8 = .ok (.ifCond .eq 25, 3) := dz_153 (n := 0) (r := 8) hz_X11_pair_0 rfl (by decide +kernel)
theorem dX11_pair_11 : decode cX11_pair 11 = .ok (.aload_n 0, 1) := dz_42 (n := 0) (r := 11) hz_X11_pair_0 rfl
theorem dX11_pair_12 : decode cX11_pair 12 = .ok (.getfield 24, 3) := dz_180 (n := 0) (r := 12) hz_X11_pair_0 rfl rfl
theorem dX11_pair_15 : decode cX11_pair 15 = .ok (.iload_n 2, 1) := dz_28 (n := 0) (r := 15) hz_X11_pair_0 rfl
theorem dX11_pair_16 : decode cX11_pair 16 = .ok (.invokevirtual 176, 3) := dz_182 (n := 0) (r := 16) hz_X11_pair_0 rfl rfl
theorem dX11_pair_19 : decode cX11_pair 19 = .ok (.ifCond .eq 14, 3) := dz_153 (n := 0) (r := 19) hz_X11_pair_0 rfl (by decide +kernel)
theorem dX11_pair_22 : decode cX11_pair 22 = .ok (.aload_n 0, 1) := dz_42 (n := 0) (r := 22) hz_X11_pair_0 rfl
theorem dX11_pair_23 : decode cX11_pair 23 = .ok (.invokevirtual 251, 3) := dz_182 (n := 0) (r := 23) hz_X11_pair_0 rfl rfl
theorem dX11_pair_26 : decode cX11_pair 26 = .ok (.iload_n 3, 1) := dz_29 (n := 0) (r := 26) hz_X11_pair_0 rfl
theorem dX11_pair_27 : decode cX11_pair 27 = .ok (.invokevirtual 258, 3) := dz_182 (n := 0) (r := 27) hz_X11_pair_0 rfl rfl
theorem dX11_pair_30 : decode cX11_pair 30 = .ok (.ifCond .ne 6, 3) := dz_154 (n := 0) (r := 30) hz_X11_pair_0 rfl (by decide +kernel)
theorem hz_X11_pair_32 : (cX11_pair.data.toList.drop 32).take 40 = [6, 18, 226, 172, 42, 180, 0, 62, 29, 182, 1, 5, 54, 5, 42, 27, 28, 21, 5, 182, 1, 28, 54, 6, 42, 180, 0, 62, 21, 5, 182, 1, 8, 54, 7, 5, 21, 6, 104, 21] := by decide +kernel
theorem dX11_pair_33 : decode cX11_pair 33 = .ok (.ldc 226, 2) := dz_18 (n := 32) (r := 1) hz_X11_pair_32 rfl rfl
theorem dX11_pair_35 : decode cX11_pair 35 = .ok (.ireturn, 1) := dz_172 (n := 32) (r := 3) hz_X11_pair_32 rfl
theorem dX11_pair_36 : decode cX11_pair 36 = .ok (.aload_n 0, 1) := dz_42 (n := 32) (r := 4) hz_X11_pair_32 rfl
theorem dX11_pair_37 : decode cX11_pair 37 = .ok (.getfield 62, 3) := dz_180 (n := 32) (r := 5) hz_X11_pair_32 rfl rfl
theorem dX11_pair_40 : decode cX11_pair 40 = .ok (.iload_n 3, 1) := dz_29 (n := 32) (r := 8) hz_X11_pair_32 rfl
theorem dX11_pair_41 : decode cX11_pair 41 = .ok (.invokevirtual 261, 3) := dz_182 (n := 32) (r := 9) hz_X11_pair_32 rfl rfl
theorem dX11_pair_44 : decode cX11_pair 44 = .ok (.istore 5, 2) := dz_54 (n := 32) (r := 12) hz_X11_pair_32 rfl rfl
theorem dX11_pair_46 : decode cX11_pair 46 = .ok (.aload_n 0, 1) := dz_42 (n := 32) (r := 14) hz_X11_pair_32 rfl
theorem dX11_pair_47 : decode cX11_pair 47 = .ok (.iload_n 1, 1) := dz_27 (n := 32) (r := 15) hz_X11_pair_32 rfl
theorem dX11_pair_48 : decode cX11_pair 48 = .ok (.iload_n 2, 1) := dz_28 (n := 32) (r := 16) hz_X11_pair_32 rfl
theorem dX11_pair_49 : decode cX11_pair 49 = .ok (.iload 5, 2) := dz_21 (n := 32) (r := 17) hz_X11_pair_32 rfl rfl
theorem dX11_pair_51 : decode cX11_pair 51 = .ok (.invokevirtual 284, 3) := dz_182 (n := 32) (r := 19) hz_X11_pair_32 rfl rfl
theorem dX11_pair_54 : decode cX11_pair 54 = .ok (.istore 6, 2) := dz_54 (n := 32) (r := 22) hz_X11_pair_32 rfl rfl
theorem dX11_pair_56 : decode cX11_pair 56 = .ok (.aload_n 0, 1) := dz_42 (n := 32) (r := 24) hz_X11_pair_32 rfl
theorem dX11_pair_57 : decode cX11_pair 57 = .ok (.getfield 62, 3) := dz_180 (n := 32) (r := 25) hz_X11_pair_32 rfl rfl
theorem dX11_pair_60 : decode cX11_pair 60 = .ok (.iload 5, 2) := dz_21 (n := 32) (r := 28) hz_X11_pair_32 rfl rfl
theorem dX11_pair_62 : decode cX11_pair 62 = .ok (.invokevirtual 264, 3) := dz_182 (n := 32) (r := 30) hz_X11_pair_32 rfl rfl
theorem hz_X11_pair_64 : (cX11_pair.data.toList.drop 64).take 40 = [8, 54, 7, 5, 21, 6, 104, 21, 7, 100, 21, 7, 21, 4, 184, 1, 32, 172] := by decide +kernel
theorem dX11_pair_65 : decode cX11_pair 65 = .ok (.istore 7, 2) := dz_54 (n := 64) (r := 1) hz_X11_pair_64 rfl rfl
theorem dX11_pair_67 : decode cX11_pair 67 = .ok (.iconst 2, 1) := dz_5 (n := 64) (r := 3) hz_X11_pair_64 rfl
theorem dX11_pair_68 : decode cX11_pair 68 = .ok (.iload 6, 2) := dz_21 (n := 64) (r := 4) hz_X11_pair_64 rfl rfl
theorem dX11_pair_70 : decode cX11_pair 70 = .ok (.imul, 1) := dz_104 (n := 64) (r := 6) hz_X11_pair_64 rfl
theorem dX11_pair_71 : decode cX11_pair 71 = .ok (.iload 7, 2) := dz_21 (n := 64) (r := 7) hz_X11_pair_64 rfl rfl
theorem dX11_pair_73 : decode cX11_pair 73 = .ok (.isub, 1) := dz_100 (n := 64) (r := 9) hz_X11_pair_64 rfl
theorem dX11_pair_74 : decode cX11_pair 74 = .ok (.iload 7, 2) := dz_21 (n := 64) (r := 10) hz_X11_pair_64 rfl rfl
theorem dX11_pair_76 : decode cX11_pair 76 = .ok (.iload 4, 2) := dz_21 (n := 64) (r := 12) hz_X11_pair_64 rfl rfl
theorem dX11_pair_78 : decode cX11_pair 78 = .ok (.invokestatic 288, 3) := dz_184 (n := 64) (r := 14) hz_X11_pair_64 rfl rfl
theorem dX11_pair_81 : decode cX11_pair 81 = .ok (.ireturn, 1) := dz_172 (n := 64) (r := 17) hz_X11_pair_64 rfl
theorem hz_X11_countAlike_0 : (cX11_countAlike.data.toList.drop 0).take 40 = [42, 180, 0, 24, 182, 1, 35, 54, 4, 3, 54, 5, 3, 54, 6, 21, 6, 21, 4, 162, 0, 52, 42, 180, 0, 31, 21, 6, 182, 1, 39, 153, 0, 34, 42, 180, 0, 52, 21, 6] := by decide +kernel
theorem dX11_countAlike_0 : decode cX11_countAlike 0 = .ok (.aload_n 0, 1) := dz_42 (n := 0) (r := 0) hz_X11_countAlike_0 rfl
theorem dX11_countAlike_1 : decode cX11_countAlike 1 = .ok (.getfield 24, 3) := dz_180 (n := 0) (r := 1) hz_X11_countAlike_0 rfl rfl
theorem dX11_countAlike_4 : decode cX11_countAlike 4 = .ok (.invokevirtual 291, 3) := dz_182 (n := 0) (r := 4) hz_X11_countAlike_0 rfl rfl
theorem dX11_countAlike_7 : decode cX11_countAlike 7 = .ok (.istore 4, 2) := dz_54 (n := 0) (r := 7) hz_X11_countAlike_0 rfl rfl
theorem dX11_countAlike_9 : decode cX11_countAlike 9 = .ok (.iconst 0, 1) := dz_3 (n := 0) (r := 9) hz_X11_countAlike_0 rfl
theorem dX11_countAlike_10 : decode cX11_countAlike 10 = .ok (.istore 5, 2) := dz_54 (n := 0) (r := 10) hz_X11_countAlike_0 rfl rfl
theorem dX11_countAlike_12 : decode cX11_countAlike 12 = .ok (.iconst 0, 1) := dz_3 (n := 0) (r := 12) hz_X11_countAlike_0 rfl
theorem dX11_countAlike_13 : decode cX11_countAlike 13 = .ok (.istore 6, 2) := dz_54 (n := 0) (r := 13) hz_X11_countAlike_0 rfl rfl
theorem dX11_countAlike_15 : decode cX11_countAlike 15 = .ok (.iload 6, 2) := dz_21 (n := 0) (r := 15) hz_X11_countAlike_0 rfl rfl
theorem dX11_countAlike_17 : decode cX11_countAlike 17 = .ok (.iload 4, 2) := dz_21 (n := 0) (r := 17) hz_X11_countAlike_0 rfl rfl
theorem dX11_countAlike_19 : decode cX11_countAlike 19 = .ok (.if_icmp .ge 52, 3) := dz_162 (n := 0) (r := 19) hz_X11_countAlike_0 rfl (by decide +kernel)
theorem dX11_countAlike_22 : decode cX11_countAlike 22 = .ok (.aload_n 0, 1) := dz_42 (n := 0) (r := 22) hz_X11_countAlike_0 rfl
theorem dX11_countAlike_23 : decode cX11_countAlike 23 = .ok (.getfield 31, 3) := dz_180 (n := 0) (r := 23) hz_X11_countAlike_0 rfl rfl
theorem dX11_countAlike_26 : decode cX11_countAlike 26 = .ok (.iload 6, 2) := dz_21 (n := 0) (r := 26) hz_X11_countAlike_0 rfl rfl
theorem dX11_countAlike_28 : decode cX11_countAlike 28 = .ok (.invokevirtual 295, 3) := dz_182 (n := 0) (r := 28) hz_X11_countAlike_0 rfl rfl
theorem dX11_countAlike_31 : decode cX11_countAlike 31 = .ok (.ifCond .eq 34, 3) := dz_153 (n := 0) (r := 31) hz_X11_countAlike_0 rfl (by decide +kernel)
theorem hz_X11_countAlike_32 : (cX11_countAlike.data.toList.drop 32).take 40 = [0, 34, 42, 180, 0, 52, 21, 6, 182, 1, 42, 29, 160, 0, 21, 21, 6, 27, 184, 0, 236, 21, 6, 28, 184, 0, 236, 160, 0, 6, 132, 5, 1, 132, 6, 1, 167, 255, 203, 21] := by decide +kernel
theorem dX11_countAlike_34 : decode cX11_countAlike 34 = .ok (.aload_n 0, 1) := dz_42 (n := 32) (r := 2) hz_X11_countAlike_32 rfl
theorem dX11_countAlike_35 : decode cX11_countAlike 35 = .ok (.getfield 52, 3) := dz_180 (n := 32) (r := 3) hz_X11_countAlike_32 rfl rfl
theorem dX11_countAlike_38 : decode cX11_countAlike 38 = .ok (.iload 6, 2) := dz_21 (n := 32) (r := 6) hz_X11_countAlike_32 rfl rfl
theorem dX11_countAlike_40 : decode cX11_countAlike 40 = .ok (.invokevirtual 298, 3) := dz_182 (n := 32) (r := 8) hz_X11_countAlike_32 rfl rfl
theorem dX11_countAlike_43 : decode cX11_countAlike 43 = .ok (.iload_n 3, 1) := dz_29 (n := 32) (r := 11) hz_X11_countAlike_32 rfl
theorem dX11_countAlike_44 : decode cX11_countAlike 44 = .ok (.if_icmp .ne 21, 3) := dz_160 (n := 32) (r := 12) hz_X11_countAlike_32 rfl (by decide +kernel)
theorem dX11_countAlike_47 : decode cX11_countAlike 47 = .ok (.iload 6, 2) := dz_21 (n := 32) (r := 15) hz_X11_countAlike_32 rfl rfl
theorem dX11_countAlike_49 : decode cX11_countAlike 49 = .ok (.iload_n 1, 1) := dz_27 (n := 32) (r := 17) hz_X11_countAlike_32 rfl
theorem dX11_countAlike_50 : decode cX11_countAlike 50 = .ok (.invokestatic 236, 3) := dz_184 (n := 32) (r := 18) hz_X11_countAlike_32 rfl rfl
theorem dX11_countAlike_53 : decode cX11_countAlike 53 = .ok (.iload 6, 2) := dz_21 (n := 32) (r := 21) hz_X11_countAlike_32 rfl rfl
theorem dX11_countAlike_55 : decode cX11_countAlike 55 = .ok (.iload_n 2, 1) := dz_28 (n := 32) (r := 23) hz_X11_countAlike_32 rfl
theorem dX11_countAlike_56 : decode cX11_countAlike 56 = .ok (.invokestatic 236, 3) := dz_184 (n := 32) (r := 24) hz_X11_countAlike_32 rfl rfl
theorem dX11_countAlike_59 : decode cX11_countAlike 59 = .ok (.if_icmp .ne 6, 3) := dz_160 (n := 32) (r := 27) hz_X11_countAlike_32 rfl (by decide +kernel)
theorem dX11_countAlike_62 : decode cX11_countAlike 62 = .ok (.iinc 5 1, 3) := dz_132 (n := 32) (r := 30) hz_X11_countAlike_32 rfl rfl rfl
theorem hz_X11_countAlike_64 : (cX11_countAlike.data.toList.drop 64).take 40 = [1, 132, 6, 1, 167, 255, 203, 21, 5, 172] := by decide +kernel
theorem dX11_countAlike_65 : decode cX11_countAlike 65 = .ok (.iinc 6 1, 3) := dz_132 (n := 64) (r := 1) hz_X11_countAlike_64 rfl rfl rfl
theorem dX11_countAlike_68 : decode cX11_countAlike 68 = .ok (.goto (-53), 3) := dz_167 (n := 64) (r := 4) hz_X11_countAlike_64 rfl (by decide +kernel)
theorem dX11_countAlike_71 : decode cX11_countAlike 71 = .ok (.iload 5, 2) := dz_21 (n := 64) (r := 7) hz_X11_countAlike_64 rfl rfl
theorem dX11_countAlike_73 : decode cX11_countAlike 73 = .ok (.ireturn, 1) := dz_172 (n := 64) (r := 9) hz_X11_countAlike_64 rfl
theorem hz_X11_mean_0 : (cX11_mean.data.toList.drop 0).take 40 = [42, 182, 0, 251, 78, 45, 27, 182, 1, 2, 154, 0, 6, 18, 226, 172, 45, 27, 182, 1, 5, 54, 4, 45, 21, 4, 182, 1, 45, 45, 21, 4, 182, 1, 8, 28, 184, 1, 32, 172] := by decide +kernel
theorem dX11_mean_0 : decode cX11_mean 0 = .ok (.aload_n 0, 1) := dz_42 (n := 0) (r := 0) hz_X11_mean_0 rfl
theorem dX11_mean_1 : decode cX11_mean 1 = .ok (.invokevirtual 251, 3) := dz_182 (n := 0) (r := 1) hz_X11_mean_0 rfl rfl
theorem dX11_mean_4 : decode cX11_mean 4 = .ok (.astore_n 3, 1) := dz_78 (n := 0) (r := 4) hz_X11_mean_0 rfl
theorem dX11_mean_5 : decode cX11_mean 5 = .ok (.aload_n 3, 1) := dz_45 (n := 0) (r := 5) hz_X11_mean_0 rfl
theorem dX11_mean_6 : decode cX11_mean 6 = .ok (.iload_n 1, 1) := dz_27 (n := 0) (r := 6) hz_X11_mean_0 rfl
theorem dX11_mean_7 : decode cX11_mean 7 = .ok (.invokevirtual 258, 3) := dz_182 (n := 0) (r := 7) hz_X11_mean_0 rfl rfl
theorem dX11_mean_10 : decode cX11_mean 10 = .ok (.ifCond .ne 6, 3) := dz_154 (n := 0) (r := 10) hz_X11_mean_0 rfl (by decide +kernel)
theorem dX11_mean_13 : decode cX11_mean 13 = .ok (.ldc 226, 2) := dz_18 (n := 0) (r := 13) hz_X11_mean_0 rfl rfl
theorem dX11_mean_15 : decode cX11_mean 15 = .ok (.ireturn, 1) := dz_172 (n := 0) (r := 15) hz_X11_mean_0 rfl
theorem dX11_mean_16 : decode cX11_mean 16 = .ok (.aload_n 3, 1) := dz_45 (n := 0) (r := 16) hz_X11_mean_0 rfl
theorem dX11_mean_17 : decode cX11_mean 17 = .ok (.iload_n 1, 1) := dz_27 (n := 0) (r := 17) hz_X11_mean_0 rfl
theorem dX11_mean_18 : decode cX11_mean 18 = .ok (.invokevirtual 261, 3) := dz_182 (n := 0) (r := 18) hz_X11_mean_0 rfl rfl
theorem dX11_mean_21 : decode cX11_mean 21 = .ok (.istore 4, 2) := dz_54 (n := 0) (r := 21) hz_X11_mean_0 rfl rfl
theorem dX11_mean_23 : decode cX11_mean 23 = .ok (.aload_n 3, 1) := dz_45 (n := 0) (r := 23) hz_X11_mean_0 rfl
theorem dX11_mean_24 : decode cX11_mean 24 = .ok (.iload 4, 2) := dz_21 (n := 0) (r := 24) hz_X11_mean_0 rfl rfl
theorem dX11_mean_26 : decode cX11_mean 26 = .ok (.invokevirtual 301, 3) := dz_182 (n := 0) (r := 26) hz_X11_mean_0 rfl rfl
theorem dX11_mean_29 : decode cX11_mean 29 = .ok (.aload_n 3, 1) := dz_45 (n := 0) (r := 29) hz_X11_mean_0 rfl
theorem dX11_mean_30 : decode cX11_mean 30 = .ok (.iload 4, 2) := dz_21 (n := 0) (r := 30) hz_X11_mean_0 rfl rfl
theorem hz_X11_mean_32 : (cX11_mean.data.toList.drop 32).take 40 = [182, 1, 8, 28, 184, 1, 32, 172] := by decide +kernel
theorem dX11_mean_32 : decode cX11_mean 32 = .ok (.invokevirtual 264, 3) := dz_182 (n := 32) (r := 0) hz_X11_mean_32 rfl rfl
theorem dX11_mean_35 : decode cX11_mean 35 = .ok (.iload_n 2, 1) := dz_28 (n := 32) (r := 3) hz_X11_mean_32 rfl
theorem dX11_mean_36 : decode cX11_mean 36 = .ok (.invokestatic 288, 3) := dz_184 (n := 32) (r := 4) hz_X11_mean_32 rfl rfl
theorem dX11_mean_39 : decode cX11_mean 39 = .ok (.ireturn, 1) := dz_172 (n := 32) (r := 7) hz_X11_mean_32 rfl
theorem hz_X11_value_0 : (cX11_value.data.toList.drop 0).take 40 = [27, 155, 0, 10, 27, 19, 1, 48, 161, 0, 5, 2, 172, 42, 182, 0, 251, 77, 44, 180, 0, 255, 154, 0, 5, 3, 172, 9, 66, 10, 55, 5, 44, 3, 182, 1, 5, 54, 7, 21] := by decide +kernel
theorem dX11_value_0 : decode cX11_value 0 = .ok (.iload_n 1, 1) := dz_27 (n := 0) (r := 0) hz_X11_value_0 rfl
theorem dX11_value_1 : decode cX11_value 1 = .ok (.ifCond .lt 10, 3) := dz_155 (n := 0) (r := 1) hz_X11_value_0 rfl (by decide +kernel)
theorem dX11_value_4 : decode cX11_value 4 = .ok (.iload_n 1, 1) := dz_27 (n := 0) (r := 4) hz_X11_value_0 rfl
theorem dX11_value_5 : decode cX11_value 5 = .ok (.ldc_w 304, 3) := dz_19 (n := 0) (r := 5) hz_X11_value_0 rfl rfl
theorem dX11_value_8 : decode cX11_value 8 = .ok (.if_icmp .lt 5, 3) := dz_161 (n := 0) (r := 8) hz_X11_value_0 rfl (by decide +kernel)
theorem dX11_value_11 : decode cX11_value 11 = .ok (.iconst (-1), 1) := dz_2 (n := 0) (r := 11) hz_X11_value_0 rfl
theorem dX11_value_12 : decode cX11_value 12 = .ok (.ireturn, 1) := dz_172 (n := 0) (r := 12) hz_X11_value_0 rfl
theorem dX11_value_13 : decode cX11_value 13 = .ok (.aload_n 0, 1) := dz_42 (n := 0) (r := 13) hz_X11_value_0 rfl
theorem dX11_value_14 : decode cX11_value 14 = .ok (.invokevirtual 251, 3) := dz_182 (n := 0) (r := 14) hz_X11_value_0 rfl rfl
theorem dX11_value_17 : decode cX11_value 17 = .ok (.astore_n 2, 1) := dz_77 (n := 0) (r := 17) hz_X11_value_0 rfl
theorem dX11_value_18 : decode cX11_value 18 = .ok (.aload_n 2, 1) := dz_44 (n := 0) (r := 18) hz_X11_value_0 rfl
theorem dX11_value_19 : decode cX11_value 19 = .ok (.getfield 255, 3) := dz_180 (n := 0) (r := 19) hz_X11_value_0 rfl rfl
theorem dX11_value_22 : decode cX11_value 22 = .ok (.ifCond .ne 5, 3) := dz_154 (n := 0) (r := 22) hz_X11_value_0 rfl (by decide +kernel)
theorem dX11_value_25 : decode cX11_value 25 = .ok (.iconst 0, 1) := dz_3 (n := 0) (r := 25) hz_X11_value_0 rfl
theorem dX11_value_26 : decode cX11_value 26 = .ok (.ireturn, 1) := dz_172 (n := 0) (r := 26) hz_X11_value_0 rfl
theorem dX11_value_27 : decode cX11_value 27 = .ok (.lconst 0, 1) := dz_9 (n := 0) (r := 27) hz_X11_value_0 rfl
theorem dX11_value_28 : decode cX11_value 28 = .ok (.lstore_n 3, 1) := dz_66 (n := 0) (r := 28) hz_X11_value_0 rfl
theorem dX11_value_29 : decode cX11_value 29 = .ok (.lconst 1, 1) := dz_10 (n := 0) (r := 29) hz_X11_value_0 rfl
theorem dX11_value_30 : decode cX11_value 30 = .ok (.lstore 5, 2) := dz_55 (n := 0) (r := 30) hz_X11_value_0 rfl rfl
theorem hz_X11_value_32 : (cX11_value.data.toList.drop 32).take 40 = [44, 3, 182, 1, 5, 54, 7, 21, 7, 17, 0, 144, 163, 0, 37, 33, 44, 21, 7, 182, 1, 8, 133, 22, 5, 105, 97, 20, 1, 49, 113, 66, 22, 5, 27, 133, 105, 20, 1, 49] := by decide +kernel
theorem dX11_value_32 : decode cX11_value 32 = .ok (.aload_n 2, 1) := dz_44 (n := 32) (r := 0) hz_X11_value_32 rfl
theorem dX11_value_33 : decode cX11_value 33 = .ok (.iconst 0, 1) := dz_3 (n := 32) (r := 1) hz_X11_value_32 rfl
theorem dX11_value_34 : decode cX11_value 34 = .ok (.invokevirtual 261, 3) := dz_182 (n := 32) (r := 2) hz_X11_value_32 rfl rfl
theorem dX11_value_37 : decode cX11_value 37 = .ok (.istore 7, 2) := dz_54 (n := 32) (r := 5) hz_X11_value_32 rfl rfl
theorem dX11_value_39 : decode cX11_value 39 = .ok (.iload 7, 2) := dz_21 (n := 32) (r := 7) hz_X11_value_32 rfl rfl
theorem dX11_value_41 : decode cX11_value 41 = .ok (.sipush 144, 3) := dz_17 (n := 32) (r := 9) hz_X11_value_32 rfl (by decide +kernel)
theorem dX11_value_44 : decode cX11_value 44 = .ok (.if_icmp .gt 37, 3) := dz_163 (n := 32) (r := 12) hz_X11_value_32 rfl (by decide +kernel)
theorem dX11_value_47 : decode cX11_value 47 = .ok (.lload_n 3, 1) := dz_33 (n := 32) (r := 15) hz_X11_value_32 rfl
theorem dX11_value_48 : decode cX11_value 48 = .ok (.aload_n 2, 1) := dz_44 (n := 32) (r := 16) hz_X11_value_32 rfl
theorem dX11_value_49 : decode cX11_value 49 = .ok (.iload 7, 2) := dz_21 (n := 32) (r := 17) hz_X11_value_32 rfl rfl
theorem dX11_value_51 : decode cX11_value 51 = .ok (.invokevirtual 264, 3) := dz_182 (n := 32) (r := 19) hz_X11_value_32 rfl rfl
theorem dX11_value_54 : decode cX11_value 54 = .ok (.i2l, 1) := dz_133 (n := 32) (r := 22) hz_X11_value_32 rfl
theorem dX11_value_55 : decode cX11_value 55 = .ok (.lload 5, 2) := dz_22 (n := 32) (r := 23) hz_X11_value_32 rfl rfl
theorem dX11_value_57 : decode cX11_value 57 = .ok (.lmul, 1) := dz_105 (n := 32) (r := 25) hz_X11_value_32 rfl
theorem dX11_value_58 : decode cX11_value 58 = .ok (.ladd, 1) := dz_97 (n := 32) (r := 26) hz_X11_value_32 rfl
theorem dX11_value_59 : decode cX11_value 59 = .ok (.ldc2_w 305, 3) := dz_20 (n := 32) (r := 27) hz_X11_value_32 rfl rfl
theorem dX11_value_62 : decode cX11_value 62 = .ok (.lrem, 1) := dz_113 (n := 32) (r := 30) hz_X11_value_32 rfl
theorem dX11_value_63 : decode cX11_value 63 = .ok (.lstore_n 3, 1) := dz_66 (n := 32) (r := 31) hz_X11_value_32 rfl
theorem hz_X11_value_64 : (cX11_value.data.toList.drop 64).take 40 = [22, 5, 27, 133, 105, 20, 1, 49, 113, 55, 5, 132, 7, 1, 167, 255, 217, 33, 136, 172] := by decide +kernel
theorem dX11_value_64 : decode cX11_value 64 = .ok (.lload 5, 2) := dz_22 (n := 64) (r := 0) hz_X11_value_64 rfl rfl
theorem dX11_value_66 : decode cX11_value 66 = .ok (.iload_n 1, 1) := dz_27 (n := 64) (r := 2) hz_X11_value_64 rfl
theorem dX11_value_67 : decode cX11_value 67 = .ok (.i2l, 1) := dz_133 (n := 64) (r := 3) hz_X11_value_64 rfl
theorem dX11_value_68 : decode cX11_value 68 = .ok (.lmul, 1) := dz_105 (n := 64) (r := 4) hz_X11_value_64 rfl
theorem dX11_value_69 : decode cX11_value 69 = .ok (.ldc2_w 305, 3) := dz_20 (n := 64) (r := 5) hz_X11_value_64 rfl rfl
theorem dX11_value_72 : decode cX11_value 72 = .ok (.lrem, 1) := dz_113 (n := 64) (r := 8) hz_X11_value_64 rfl
theorem dX11_value_73 : decode cX11_value 73 = .ok (.lstore 5, 2) := dz_55 (n := 64) (r := 9) hz_X11_value_64 rfl rfl
theorem dX11_value_75 : decode cX11_value 75 = .ok (.iinc 7 1, 3) := dz_132 (n := 64) (r := 11) hz_X11_value_64 rfl rfl rfl
theorem dX11_value_78 : decode cX11_value 78 = .ok (.goto (-39), 3) := dz_167 (n := 64) (r := 14) hz_X11_value_64 rfl (by decide +kernel)
theorem dX11_value_81 : decode cX11_value 81 = .ok (.lload_n 3, 1) := dz_33 (n := 64) (r := 17) hz_X11_value_64 rfl
theorem dX11_value_82 : decode cX11_value 82 = .ok (.l2i, 1) := dz_136 (n := 64) (r := 18) hz_X11_value_64 rfl
theorem dX11_value_83 : decode cX11_value 83 = .ok (.ireturn, 1) := dz_172 (n := 64) (r := 19) hz_X11_value_64 rfl
theorem hz_X11_joined_0 : (cX11_joined.data.toList.drop 0).take 40 = [42, 27, 182, 1, 51, 58, 4, 25, 4, 198, 0, 11, 25, 4, 180, 0, 150, 154, 0, 7, 20, 1, 55, 173, 42, 25, 4, 182, 1, 57, 28, 2, 160, 0, 9, 42, 182, 1, 61, 133] := by decide +kernel
theorem dX11_joined_0 : decode cX11_joined 0 = .ok (.aload_n 0, 1) := dz_42 (n := 0) (r := 0) hz_X11_joined_0 rfl
theorem dX11_joined_1 : decode cX11_joined 1 = .ok (.iload_n 1, 1) := dz_27 (n := 0) (r := 1) hz_X11_joined_0 rfl
theorem dX11_joined_2 : decode cX11_joined 2 = .ok (.invokevirtual 307, 3) := dz_182 (n := 0) (r := 2) hz_X11_joined_0 rfl rfl
theorem dX11_joined_5 : decode cX11_joined 5 = .ok (.astore 4, 2) := dz_58 (n := 0) (r := 5) hz_X11_joined_0 rfl rfl
theorem dX11_joined_7 : decode cX11_joined 7 = .ok (.aload 4, 2) := dz_25 (n := 0) (r := 7) hz_X11_joined_0 rfl rfl
theorem dX11_joined_9 : decode cX11_joined 9 = .ok (.ifnull 11, 3) := dz_198 (n := 0) (r := 9) hz_X11_joined_0 rfl (by decide +kernel)
theorem dX11_joined_12 : decode cX11_joined 12 = .ok (.aload 4, 2) := dz_25 (n := 0) (r := 12) hz_X11_joined_0 rfl rfl
theorem dX11_joined_14 : decode cX11_joined 14 = .ok (.getfield 150, 3) := dz_180 (n := 0) (r := 14) hz_X11_joined_0 rfl rfl
theorem dX11_joined_17 : decode cX11_joined 17 = .ok (.ifCond .ne 7, 3) := dz_154 (n := 0) (r := 17) hz_X11_joined_0 rfl (by decide +kernel)
theorem dX11_joined_20 : decode cX11_joined 20 = .ok (.ldc2_w 311, 3) := dz_20 (n := 0) (r := 20) hz_X11_joined_0 rfl rfl
theorem dX11_joined_23 : decode cX11_joined 23 = .ok (.lreturn, 1) := dz_173 (n := 0) (r := 23) hz_X11_joined_0 rfl
theorem dX11_joined_24 : decode cX11_joined 24 = .ok (.aload_n 0, 1) := dz_42 (n := 0) (r := 24) hz_X11_joined_0 rfl
theorem dX11_joined_25 : decode cX11_joined 25 = .ok (.aload 4, 2) := dz_25 (n := 0) (r := 25) hz_X11_joined_0 rfl rfl
theorem dX11_joined_27 : decode cX11_joined 27 = .ok (.invokevirtual 313, 3) := dz_182 (n := 0) (r := 27) hz_X11_joined_0 rfl rfl
theorem dX11_joined_30 : decode cX11_joined 30 = .ok (.iload_n 2, 1) := dz_28 (n := 0) (r := 30) hz_X11_joined_0 rfl
theorem dX11_joined_31 : decode cX11_joined 31 = .ok (.iconst (-1), 1) := dz_2 (n := 0) (r := 31) hz_X11_joined_0 rfl
theorem hz_X11_joined_32 : (cX11_joined.data.toList.drop 32).take 40 = [160, 0, 9, 42, 182, 1, 61, 133, 173, 42, 28, 182, 1, 64, 54, 5, 21, 5, 155, 0, 13, 21, 5, 42, 180, 0, 87, 190, 161, 0, 7, 20, 1, 55, 173, 29, 171, 0, 0, 0] := by decide +kernel
theorem dX11_joined_32 : decode cX11_joined 32 = .ok (.if_icmp .ne 9, 3) := dz_160 (n := 32) (r := 0) hz_X11_joined_32 rfl (by decide +kernel)
theorem dX11_joined_35 : decode cX11_joined 35 = .ok (.aload_n 0, 1) := dz_42 (n := 32) (r := 3) hz_X11_joined_32 rfl
theorem dX11_joined_36 : decode cX11_joined 36 = .ok (.invokevirtual 317, 3) := dz_182 (n := 32) (r := 4) hz_X11_joined_32 rfl rfl
theorem dX11_joined_39 : decode cX11_joined 39 = .ok (.i2l, 1) := dz_133 (n := 32) (r := 7) hz_X11_joined_32 rfl
theorem dX11_joined_40 : decode cX11_joined 40 = .ok (.lreturn, 1) := dz_173 (n := 32) (r := 8) hz_X11_joined_32 rfl
theorem dX11_joined_41 : decode cX11_joined 41 = .ok (.aload_n 0, 1) := dz_42 (n := 32) (r := 9) hz_X11_joined_32 rfl
theorem dX11_joined_42 : decode cX11_joined 42 = .ok (.iload_n 2, 1) := dz_28 (n := 32) (r := 10) hz_X11_joined_32 rfl
theorem dX11_joined_43 : decode cX11_joined 43 = .ok (.invokevirtual 320, 3) := dz_182 (n := 32) (r := 11) hz_X11_joined_32 rfl rfl
theorem dX11_joined_46 : decode cX11_joined 46 = .ok (.istore 5, 2) := dz_54 (n := 32) (r := 14) hz_X11_joined_32 rfl rfl
theorem dX11_joined_48 : decode cX11_joined 48 = .ok (.iload 5, 2) := dz_21 (n := 32) (r := 16) hz_X11_joined_32 rfl rfl
theorem dX11_joined_50 : decode cX11_joined 50 = .ok (.ifCond .lt 13, 3) := dz_155 (n := 32) (r := 18) hz_X11_joined_32 rfl (by decide +kernel)
theorem dX11_joined_53 : decode cX11_joined 53 = .ok (.iload 5, 2) := dz_21 (n := 32) (r := 21) hz_X11_joined_32 rfl rfl
theorem dX11_joined_55 : decode cX11_joined 55 = .ok (.aload_n 0, 1) := dz_42 (n := 32) (r := 23) hz_X11_joined_32 rfl
theorem dX11_joined_56 : decode cX11_joined 56 = .ok (.getfield 87, 3) := dz_180 (n := 32) (r := 24) hz_X11_joined_32 rfl rfl
theorem dX11_joined_59 : decode cX11_joined 59 = .ok (.arraylength, 1) := dz_190 (n := 32) (r := 27) hz_X11_joined_32 rfl
theorem dX11_joined_60 : decode cX11_joined 60 = .ok (.if_icmp .lt 7, 3) := dz_161 (n := 32) (r := 28) hz_X11_joined_32 rfl (by decide +kernel)
theorem dX11_joined_63 : decode cX11_joined 63 = .ok (.ldc2_w 311, 3) := dz_20 (n := 32) (r := 31) hz_X11_joined_32 rfl rfl
theorem hz_X11_joined_64 : (cX11_joined.data.toList.drop 64).take 40 = [1, 55, 173, 29, 171, 0, 0, 0, 0, 0, 0, 44, 0, 0, 0, 2, 0, 0, 0, 0, 0, 0, 0, 28, 0, 0, 0, 1, 0, 0, 0, 36, 21, 5, 17, 1, 32, 100, 133, 173] := by decide +kernel
theorem dX11_joined_66 : decode cX11_joined 66 = .ok (.lreturn, 1) := dz_173 (n := 64) (r := 2) hz_X11_joined_64 rfl
theorem dX11_joined_67 : decode cX11_joined 67 = .ok (.iload_n 3, 1) := dz_29 (n := 64) (r := 3) hz_X11_joined_64 rfl
theorem dX11_joined_68 : decode cX11_joined 68 = .ok (.lookupswitch 44 #[(0, 28), (1, 36)], 28) := by decide +kernel
theorem hz_X11_joined_96 : (cX11_joined.data.toList.drop 96).take 40 = [21, 5, 17, 1, 32, 100, 133, 173, 42, 180, 0, 87, 21, 5, 47, 173, 20, 1, 55, 173] := by decide +kernel
theorem dX11_joined_96 : decode cX11_joined 96 = .ok (.iload 5, 2) := dz_21 (n := 96) (r := 0) hz_X11_joined_96 rfl rfl
theorem dX11_joined_98 : decode cX11_joined 98 = .ok (.sipush 288, 3) := dz_17 (n := 96) (r := 2) hz_X11_joined_96 rfl (by decide +kernel)
theorem dX11_joined_101 : decode cX11_joined 101 = .ok (.isub, 1) := dz_100 (n := 96) (r := 5) hz_X11_joined_96 rfl
theorem dX11_joined_102 : decode cX11_joined 102 = .ok (.i2l, 1) := dz_133 (n := 96) (r := 6) hz_X11_joined_96 rfl
theorem dX11_joined_103 : decode cX11_joined 103 = .ok (.lreturn, 1) := dz_173 (n := 96) (r := 7) hz_X11_joined_96 rfl
theorem dX11_joined_104 : decode cX11_joined 104 = .ok (.aload_n 0, 1) := dz_42 (n := 96) (r := 8) hz_X11_joined_96 rfl
theorem dX11_joined_105 : decode cX11_joined 105 = .ok (.getfield 87, 3) := dz_180 (n := 96) (r := 9) hz_X11_joined_96 rfl rfl
theorem dX11_joined_108 : decode cX11_joined 108 = .ok (.iload 5, 2) := dz_21 (n := 96) (r := 12) hz_X11_joined_96 rfl rfl
theorem dX11_joined_110 : decode cX11_joined 110 = .ok (.laload, 1) := dz_47 (n := 96) (r := 14) hz_X11_joined_96 rfl
theorem dX11_joined_111 : decode cX11_joined 111 = .ok (.lreturn, 1) := dz_173 (n := 96) (r := 15) hz_X11_joined_96 rfl
theorem dX11_joined_112 : decode cX11_joined 112 = .ok (.ldc2_w 311, 3) := dz_20 (n := 96) (r := 16) hz_X11_joined_96 rfl rfl
theorem dX11_joined_115 : decode cX11_joined 115 = .ok (.lreturn, 1) := dz_173 (n := 96) (r := 19) hz_X11_joined_96 rfl
theorem hz_X11_joinWays_0 : (cX11_joinWays.data.toList.drop 0).take 40 = [42, 182, 0, 251, 180, 1, 67, 77, 42, 43, 182, 1, 70, 78, 42, 180, 0, 87, 9, 184, 1, 74, 3, 54, 4, 21, 4, 44, 190, 162, 0, 69, 3, 54, 5, 44, 21, 4, 46, 153] := by decide +kernel
theorem dX11_joinWays_0 : decode cX11_joinWays 0 = .ok (.aload_n 0, 1) := dz_42 (n := 0) (r := 0) hz_X11_joinWays_0 rfl
theorem dX11_joinWays_1 : decode cX11_joinWays 1 = .ok (.invokevirtual 251, 3) := dz_182 (n := 0) (r := 1) hz_X11_joinWays_0 rfl rfl
theorem dX11_joinWays_4 : decode cX11_joinWays 4 = .ok (.getfield 323, 3) := dz_180 (n := 0) (r := 4) hz_X11_joinWays_0 rfl rfl
theorem dX11_joinWays_7 : decode cX11_joinWays 7 = .ok (.astore_n 2, 1) := dz_77 (n := 0) (r := 7) hz_X11_joinWays_0 rfl
theorem dX11_joinWays_8 : decode cX11_joinWays 8 = .ok (.aload_n 0, 1) := dz_42 (n := 0) (r := 8) hz_X11_joinWays_0 rfl
theorem dX11_joinWays_9 : decode cX11_joinWays 9 = .ok (.aload_n 1, 1) := dz_43 (n := 0) (r := 9) hz_X11_joinWays_0 rfl
theorem dX11_joinWays_10 : decode cX11_joinWays 10 = .ok (.invokevirtual 326, 3) := dz_182 (n := 0) (r := 10) hz_X11_joinWays_0 rfl rfl
theorem dX11_joinWays_13 : decode cX11_joinWays 13 = .ok (.astore_n 3, 1) := dz_78 (n := 0) (r := 13) hz_X11_joinWays_0 rfl
theorem dX11_joinWays_14 : decode cX11_joinWays 14 = .ok (.aload_n 0, 1) := dz_42 (n := 0) (r := 14) hz_X11_joinWays_0 rfl
theorem dX11_joinWays_15 : decode cX11_joinWays 15 = .ok (.getfield 87, 3) := dz_180 (n := 0) (r := 15) hz_X11_joinWays_0 rfl rfl
theorem dX11_joinWays_18 : decode cX11_joinWays 18 = .ok (.lconst 0, 1) := dz_9 (n := 0) (r := 18) hz_X11_joinWays_0 rfl
theorem dX11_joinWays_19 : decode cX11_joinWays 19 = .ok (.invokestatic 330, 3) := dz_184 (n := 0) (r := 19) hz_X11_joinWays_0 rfl rfl
theorem dX11_joinWays_22 : decode cX11_joinWays 22 = .ok (.iconst 0, 1) := dz_3 (n := 0) (r := 22) hz_X11_joinWays_0 rfl
theorem dX11_joinWays_23 : decode cX11_joinWays 23 = .ok (.istore 4, 2) := dz_54 (n := 0) (r := 23) hz_X11_joinWays_0 rfl rfl
theorem dX11_joinWays_25 : decode cX11_joinWays 25 = .ok (.iload 4, 2) := dz_21 (n := 0) (r := 25) hz_X11_joinWays_0 rfl rfl
theorem dX11_joinWays_27 : decode cX11_joinWays 27 = .ok (.aload_n 2, 1) := dz_44 (n := 0) (r := 27) hz_X11_joinWays_0 rfl
theorem dX11_joinWays_28 : decode cX11_joinWays 28 = .ok (.arraylength, 1) := dz_190 (n := 0) (r := 28) hz_X11_joinWays_0 rfl
theorem dX11_joinWays_29 : decode cX11_joinWays 29 = .ok (.if_icmp .ge 69, 3) := dz_162 (n := 0) (r := 29) hz_X11_joinWays_0 rfl (by decide +kernel)
theorem hz_X11_joinWays_32 : (cX11_joinWays.data.toList.drop 32).take 40 = [3, 54, 5, 44, 21, 4, 46, 153, 0, 53, 21, 5, 45, 190, 162, 0, 46, 21, 4, 21, 5, 96, 42, 180, 0, 87, 190, 162, 0, 33, 42, 180, 0, 87, 21, 4, 21, 5, 96, 92] := by decide +kernel
theorem dX11_joinWays_32 : decode cX11_joinWays 32 = .ok (.iconst 0, 1) := dz_3 (n := 32) (r := 0) hz_X11_joinWays_32 rfl
theorem dX11_joinWays_33 : decode cX11_joinWays 33 = .ok (.istore 5, 2) := dz_54 (n := 32) (r := 1) hz_X11_joinWays_32 rfl rfl
theorem dX11_joinWays_35 : decode cX11_joinWays 35 = .ok (.aload_n 2, 1) := dz_44 (n := 32) (r := 3) hz_X11_joinWays_32 rfl
theorem dX11_joinWays_36 : decode cX11_joinWays 36 = .ok (.iload 4, 2) := dz_21 (n := 32) (r := 4) hz_X11_joinWays_32 rfl rfl
theorem dX11_joinWays_38 : decode cX11_joinWays 38 = .ok (.iaload, 1) := dz_46 (n := 32) (r := 6) hz_X11_joinWays_32 rfl
theorem dX11_joinWays_39 : decode cX11_joinWays 39 = .ok (.ifCond .eq 53, 3) := dz_153 (n := 32) (r := 7) hz_X11_joinWays_32 rfl (by decide +kernel)
theorem dX11_joinWays_42 : decode cX11_joinWays 42 = .ok (.iload 5, 2) := dz_21 (n := 32) (r := 10) hz_X11_joinWays_32 rfl rfl
theorem dX11_joinWays_44 : decode cX11_joinWays 44 = .ok (.aload_n 3, 1) := dz_45 (n := 32) (r := 12) hz_X11_joinWays_32 rfl
theorem dX11_joinWays_45 : decode cX11_joinWays 45 = .ok (.arraylength, 1) := dz_190 (n := 32) (r := 13) hz_X11_joinWays_32 rfl
theorem dX11_joinWays_46 : decode cX11_joinWays 46 = .ok (.if_icmp .ge 46, 3) := dz_162 (n := 32) (r := 14) hz_X11_joinWays_32 rfl (by decide +kernel)
theorem dX11_joinWays_49 : decode cX11_joinWays 49 = .ok (.iload 4, 2) := dz_21 (n := 32) (r := 17) hz_X11_joinWays_32 rfl rfl
theorem dX11_joinWays_51 : decode cX11_joinWays 51 = .ok (.iload 5, 2) := dz_21 (n := 32) (r := 19) hz_X11_joinWays_32 rfl rfl
theorem dX11_joinWays_53 : decode cX11_joinWays 53 = .ok (.iadd, 1) := dz_96 (n := 32) (r := 21) hz_X11_joinWays_32 rfl
theorem dX11_joinWays_54 : decode cX11_joinWays 54 = .ok (.aload_n 0, 1) := dz_42 (n := 32) (r := 22) hz_X11_joinWays_32 rfl
theorem dX11_joinWays_55 : decode cX11_joinWays 55 = .ok (.getfield 87, 3) := dz_180 (n := 32) (r := 23) hz_X11_joinWays_32 rfl rfl
theorem dX11_joinWays_58 : decode cX11_joinWays 58 = .ok (.arraylength, 1) := dz_190 (n := 32) (r := 26) hz_X11_joinWays_32 rfl
theorem dX11_joinWays_59 : decode cX11_joinWays 59 = .ok (.if_icmp .ge 33, 3) := dz_162 (n := 32) (r := 27) hz_X11_joinWays_32 rfl (by decide +kernel)
theorem dX11_joinWays_62 : decode cX11_joinWays 62 = .ok (.aload_n 0, 1) := dz_42 (n := 32) (r := 30) hz_X11_joinWays_32 rfl
theorem dX11_joinWays_63 : decode cX11_joinWays 63 = .ok (.getfield 87, 3) := dz_180 (n := 32) (r := 31) hz_X11_joinWays_32 rfl rfl
theorem hz_X11_joinWays_64 : (cX11_joinWays.data.toList.drop 64).take 40 = [0, 87, 21, 4, 21, 5, 96, 92, 47, 44, 21, 4, 46, 133, 45, 21, 5, 46, 133, 105, 97, 80, 132, 5, 1, 167, 255, 202, 132, 4, 1, 167, 255, 186, 177] := by decide +kernel
theorem dX11_joinWays_66 : decode cX11_joinWays 66 = .ok (.iload 4, 2) := dz_21 (n := 64) (r := 2) hz_X11_joinWays_64 rfl rfl
theorem dX11_joinWays_68 : decode cX11_joinWays 68 = .ok (.iload 5, 2) := dz_21 (n := 64) (r := 4) hz_X11_joinWays_64 rfl rfl
theorem dX11_joinWays_70 : decode cX11_joinWays 70 = .ok (.iadd, 1) := dz_96 (n := 64) (r := 6) hz_X11_joinWays_64 rfl
theorem dX11_joinWays_71 : decode cX11_joinWays 71 = .ok (.dup2, 1) := dz_92 (n := 64) (r := 7) hz_X11_joinWays_64 rfl
theorem dX11_joinWays_72 : decode cX11_joinWays 72 = .ok (.laload, 1) := dz_47 (n := 64) (r := 8) hz_X11_joinWays_64 rfl
theorem dX11_joinWays_73 : decode cX11_joinWays 73 = .ok (.aload_n 2, 1) := dz_44 (n := 64) (r := 9) hz_X11_joinWays_64 rfl
theorem dX11_joinWays_74 : decode cX11_joinWays 74 = .ok (.iload 4, 2) := dz_21 (n := 64) (r := 10) hz_X11_joinWays_64 rfl rfl
theorem dX11_joinWays_76 : decode cX11_joinWays 76 = .ok (.iaload, 1) := dz_46 (n := 64) (r := 12) hz_X11_joinWays_64 rfl
theorem dX11_joinWays_77 : decode cX11_joinWays 77 = .ok (.i2l, 1) := dz_133 (n := 64) (r := 13) hz_X11_joinWays_64 rfl
theorem dX11_joinWays_78 : decode cX11_joinWays 78 = .ok (.aload_n 3, 1) := dz_45 (n := 64) (r := 14) hz_X11_joinWays_64 rfl
theorem dX11_joinWays_79 : decode cX11_joinWays 79 = .ok (.iload 5, 2) := dz_21 (n := 64) (r := 15) hz_X11_joinWays_64 rfl rfl
theorem dX11_joinWays_81 : decode cX11_joinWays 81 = .ok (.iaload, 1) := dz_46 (n := 64) (r := 17) hz_X11_joinWays_64 rfl
theorem dX11_joinWays_82 : decode cX11_joinWays 82 = .ok (.i2l, 1) := dz_133 (n := 64) (r := 18) hz_X11_joinWays_64 rfl
theorem dX11_joinWays_83 : decode cX11_joinWays 83 = .ok (.lmul, 1) := dz_105 (n := 64) (r := 19) hz_X11_joinWays_64 rfl
theorem dX11_joinWays_84 : decode cX11_joinWays 84 = .ok (.ladd, 1) := dz_97 (n := 64) (r := 20) hz_X11_joinWays_64 rfl
theorem dX11_joinWays_85 : decode cX11_joinWays 85 = .ok (.lastore, 1) := dz_80 (n := 64) (r := 21) hz_X11_joinWays_64 rfl
theorem dX11_joinWays_86 : decode cX11_joinWays 86 = .ok (.iinc 5 1, 3) := dz_132 (n := 64) (r := 22) hz_X11_joinWays_64 rfl rfl rfl
theorem dX11_joinWays_89 : decode cX11_joinWays 89 = .ok (.goto (-54), 3) := dz_167 (n := 64) (r := 25) hz_X11_joinWays_64 rfl (by decide +kernel)
theorem dX11_joinWays_92 : decode cX11_joinWays 92 = .ok (.iinc 4 1, 3) := dz_132 (n := 64) (r := 28) hz_X11_joinWays_64 rfl rfl rfl
theorem dX11_joinWays_95 : decode cX11_joinWays 95 = .ok (.goto (-70), 3) := dz_167 (n := 64) (r := 31) hz_X11_joinWays_64 rfl (by decide +kernel)
theorem hz_X11_joinWays_96 : (cX11_joinWays.data.toList.drop 96).take 40 = [255, 186, 177] := by decide +kernel
theorem dX11_joinWays_98 : decode cX11_joinWays 98 = .ok (.return_, 1) := dz_177 (n := 96) (r := 2) hz_X11_joinWays_96 rfl
theorem hz_X11_heldWays_0 : (cX11_heldWays.data.toList.drop 0).take 40 = [43, 180, 1, 80, 154, 0, 56, 42, 180, 0, 56, 42, 180, 0, 24, 43, 180, 1, 83, 180, 1, 84, 43, 180, 1, 83, 180, 1, 87, 42, 180, 0, 24, 180, 0, 197, 182, 1, 90, 42] := by decide +kernel
theorem dX11_heldWays_0 : decode cX11_heldWays 0 = .ok (.aload_n 1, 1) := dz_43 (n := 0) (r := 0) hz_X11_heldWays_0 rfl
theorem dX11_heldWays_1 : decode cX11_heldWays 1 = .ok (.getfield 336, 3) := dz_180 (n := 0) (r := 1) hz_X11_heldWays_0 rfl rfl
theorem dX11_heldWays_4 : decode cX11_heldWays 4 = .ok (.ifCond .ne 56, 3) := dz_154 (n := 0) (r := 4) hz_X11_heldWays_0 rfl (by decide +kernel)
theorem dX11_heldWays_7 : decode cX11_heldWays 7 = .ok (.aload_n 0, 1) := dz_42 (n := 0) (r := 7) hz_X11_heldWays_0 rfl
theorem dX11_heldWays_8 : decode cX11_heldWays 8 = .ok (.getfield 56, 3) := dz_180 (n := 0) (r := 8) hz_X11_heldWays_0 rfl rfl
theorem dX11_heldWays_11 : decode cX11_heldWays 11 = .ok (.aload_n 0, 1) := dz_42 (n := 0) (r := 11) hz_X11_heldWays_0 rfl
theorem dX11_heldWays_12 : decode cX11_heldWays 12 = .ok (.getfield 24, 3) := dz_180 (n := 0) (r := 12) hz_X11_heldWays_0 rfl rfl
theorem dX11_heldWays_15 : decode cX11_heldWays 15 = .ok (.aload_n 1, 1) := dz_43 (n := 0) (r := 15) hz_X11_heldWays_0 rfl
theorem dX11_heldWays_16 : decode cX11_heldWays 16 = .ok (.getfield 339, 3) := dz_180 (n := 0) (r := 16) hz_X11_heldWays_0 rfl rfl
theorem dX11_heldWays_19 : decode cX11_heldWays 19 = .ok (.getfield 340, 3) := dz_180 (n := 0) (r := 19) hz_X11_heldWays_0 rfl rfl
theorem dX11_heldWays_22 : decode cX11_heldWays 22 = .ok (.aload_n 1, 1) := dz_43 (n := 0) (r := 22) hz_X11_heldWays_0 rfl
theorem dX11_heldWays_23 : decode cX11_heldWays 23 = .ok (.getfield 339, 3) := dz_180 (n := 0) (r := 23) hz_X11_heldWays_0 rfl rfl
theorem dX11_heldWays_26 : decode cX11_heldWays 26 = .ok (.getfield 343, 3) := dz_180 (n := 0) (r := 26) hz_X11_heldWays_0 rfl rfl
theorem dX11_heldWays_29 : decode cX11_heldWays 29 = .ok (.aload_n 0, 1) := dz_42 (n := 0) (r := 29) hz_X11_heldWays_0 rfl
theorem dX11_heldWays_30 : decode cX11_heldWays 30 = .ok (.getfield 24, 3) := dz_180 (n := 0) (r := 30) hz_X11_heldWays_0 rfl rfl
theorem hz_X11_heldWays_32 : (cX11_heldWays.data.toList.drop 32).take 40 = [24, 180, 0, 197, 182, 1, 90, 42, 43, 180, 1, 93, 42, 180, 0, 56, 43, 180, 1, 83, 182, 1, 94, 43, 4, 181, 1, 80, 43, 180, 1, 93, 176] := by decide +kernel
theorem dX11_heldWays_33 : decode cX11_heldWays 33 = .ok (.getfield 197, 3) := dz_180 (n := 32) (r := 1) hz_X11_heldWays_32 rfl rfl
theorem dX11_heldWays_36 : decode cX11_heldWays 36 = .ok (.invokevirtual 346, 3) := dz_182 (n := 32) (r := 4) hz_X11_heldWays_32 rfl rfl
theorem dX11_heldWays_39 : decode cX11_heldWays 39 = .ok (.aload_n 0, 1) := dz_42 (n := 32) (r := 7) hz_X11_heldWays_32 rfl
theorem dX11_heldWays_40 : decode cX11_heldWays 40 = .ok (.aload_n 1, 1) := dz_43 (n := 32) (r := 8) hz_X11_heldWays_32 rfl
theorem dX11_heldWays_41 : decode cX11_heldWays 41 = .ok (.getfield 349, 3) := dz_180 (n := 32) (r := 9) hz_X11_heldWays_32 rfl rfl
theorem dX11_heldWays_44 : decode cX11_heldWays 44 = .ok (.aload_n 0, 1) := dz_42 (n := 32) (r := 12) hz_X11_heldWays_32 rfl
theorem dX11_heldWays_45 : decode cX11_heldWays 45 = .ok (.getfield 56, 3) := dz_180 (n := 32) (r := 13) hz_X11_heldWays_32 rfl rfl
theorem dX11_heldWays_48 : decode cX11_heldWays 48 = .ok (.aload_n 1, 1) := dz_43 (n := 32) (r := 16) hz_X11_heldWays_32 rfl
theorem dX11_heldWays_49 : decode cX11_heldWays 49 = .ok (.getfield 339, 3) := dz_180 (n := 32) (r := 17) hz_X11_heldWays_32 rfl rfl
theorem dX11_heldWays_52 : decode cX11_heldWays 52 = .ok (.invokevirtual 350, 3) := dz_182 (n := 32) (r := 20) hz_X11_heldWays_32 rfl rfl
theorem dX11_heldWays_55 : decode cX11_heldWays 55 = .ok (.aload_n 1, 1) := dz_43 (n := 32) (r := 23) hz_X11_heldWays_32 rfl
theorem dX11_heldWays_56 : decode cX11_heldWays 56 = .ok (.iconst 1, 1) := dz_4 (n := 32) (r := 24) hz_X11_heldWays_32 rfl
theorem dX11_heldWays_57 : decode cX11_heldWays 57 = .ok (.putfield 336, 3) := dz_181 (n := 32) (r := 25) hz_X11_heldWays_32 rfl rfl
theorem dX11_heldWays_60 : decode cX11_heldWays 60 = .ok (.aload_n 1, 1) := dz_43 (n := 32) (r := 28) hz_X11_heldWays_32 rfl
theorem dX11_heldWays_61 : decode cX11_heldWays 61 = .ok (.getfield 349, 3) := dz_180 (n := 32) (r := 29) hz_X11_heldWays_32 rfl rfl
theorem hz_X11_heldWays_64 : (cX11_heldWays.data.toList.drop 64).take 40 = [176] := by decide +kernel
theorem dX11_heldWays_64 : decode cX11_heldWays 64 = .ok (.areturn, 1) := dz_176 (n := 64) (r := 0) hz_X11_heldWays_64 rfl
theorem hz_X11_countWays_0 : (cX11_countWays.data.toList.drop 0).take 40 = [42, 180, 0, 24, 182, 1, 35, 54, 4, 43, 3, 184, 1, 98, 3, 54, 5, 21, 5, 21, 4, 162, 0, 50, 44, 21, 5, 182, 1, 42, 17, 0, 144, 96, 54, 6, 45, 21, 5, 182] := by decide +kernel
theorem dX11_countWays_0 : decode cX11_countWays 0 = .ok (.aload_n 0, 1) := dz_42 (n := 0) (r := 0) hz_X11_countWays_0 rfl
theorem dX11_countWays_1 : decode cX11_countWays 1 = .ok (.getfield 24, 3) := dz_180 (n := 0) (r := 1) hz_X11_countWays_0 rfl rfl
theorem dX11_countWays_4 : decode cX11_countWays 4 = .ok (.invokevirtual 291, 3) := dz_182 (n := 0) (r := 4) hz_X11_countWays_0 rfl rfl
theorem dX11_countWays_7 : decode cX11_countWays 7 = .ok (.istore 4, 2) := dz_54 (n := 0) (r := 7) hz_X11_countWays_0 rfl rfl
theorem dX11_countWays_9 : decode cX11_countWays 9 = .ok (.aload_n 1, 1) := dz_43 (n := 0) (r := 9) hz_X11_countWays_0 rfl
theorem dX11_countWays_10 : decode cX11_countWays 10 = .ok (.iconst 0, 1) := dz_3 (n := 0) (r := 10) hz_X11_countWays_0 rfl
theorem dX11_countWays_11 : decode cX11_countWays 11 = .ok (.invokestatic 354, 3) := dz_184 (n := 0) (r := 11) hz_X11_countWays_0 rfl rfl
theorem dX11_countWays_14 : decode cX11_countWays 14 = .ok (.iconst 0, 1) := dz_3 (n := 0) (r := 14) hz_X11_countWays_0 rfl
theorem dX11_countWays_15 : decode cX11_countWays 15 = .ok (.istore 5, 2) := dz_54 (n := 0) (r := 15) hz_X11_countWays_0 rfl rfl
theorem dX11_countWays_17 : decode cX11_countWays 17 = .ok (.iload 5, 2) := dz_21 (n := 0) (r := 17) hz_X11_countWays_0 rfl rfl
theorem dX11_countWays_19 : decode cX11_countWays 19 = .ok (.iload 4, 2) := dz_21 (n := 0) (r := 19) hz_X11_countWays_0 rfl rfl
theorem dX11_countWays_21 : decode cX11_countWays 21 = .ok (.if_icmp .ge 50, 3) := dz_162 (n := 0) (r := 21) hz_X11_countWays_0 rfl (by decide +kernel)
theorem dX11_countWays_24 : decode cX11_countWays 24 = .ok (.aload_n 2, 1) := dz_44 (n := 0) (r := 24) hz_X11_countWays_0 rfl
theorem dX11_countWays_25 : decode cX11_countWays 25 = .ok (.iload 5, 2) := dz_21 (n := 0) (r := 25) hz_X11_countWays_0 rfl rfl
theorem dX11_countWays_27 : decode cX11_countWays 27 = .ok (.invokevirtual 298, 3) := dz_182 (n := 0) (r := 27) hz_X11_countWays_0 rfl rfl
theorem dX11_countWays_30 : decode cX11_countWays 30 = .ok (.sipush 144, 3) := dz_17 (n := 0) (r := 30) hz_X11_countWays_0 rfl (by decide +kernel)
theorem hz_X11_countWays_32 : (cX11_countWays.data.toList.drop 32).take 40 = [144, 96, 54, 6, 45, 21, 5, 182, 1, 39, 153, 0, 23, 21, 6, 155, 0, 18, 21, 6, 43, 190, 162, 0, 11, 43, 21, 6, 92, 46, 4, 96, 79, 132, 5, 1, 167, 255, 205, 177] := by decide +kernel
theorem dX11_countWays_33 : decode cX11_countWays 33 = .ok (.iadd, 1) := dz_96 (n := 32) (r := 1) hz_X11_countWays_32 rfl
theorem dX11_countWays_34 : decode cX11_countWays 34 = .ok (.istore 6, 2) := dz_54 (n := 32) (r := 2) hz_X11_countWays_32 rfl rfl
theorem dX11_countWays_36 : decode cX11_countWays 36 = .ok (.aload_n 3, 1) := dz_45 (n := 32) (r := 4) hz_X11_countWays_32 rfl
theorem dX11_countWays_37 : decode cX11_countWays 37 = .ok (.iload 5, 2) := dz_21 (n := 32) (r := 5) hz_X11_countWays_32 rfl rfl
theorem dX11_countWays_39 : decode cX11_countWays 39 = .ok (.invokevirtual 295, 3) := dz_182 (n := 32) (r := 7) hz_X11_countWays_32 rfl rfl
theorem dX11_countWays_42 : decode cX11_countWays 42 = .ok (.ifCond .eq 23, 3) := dz_153 (n := 32) (r := 10) hz_X11_countWays_32 rfl (by decide +kernel)
theorem dX11_countWays_45 : decode cX11_countWays 45 = .ok (.iload 6, 2) := dz_21 (n := 32) (r := 13) hz_X11_countWays_32 rfl rfl
theorem dX11_countWays_47 : decode cX11_countWays 47 = .ok (.ifCond .lt 18, 3) := dz_155 (n := 32) (r := 15) hz_X11_countWays_32 rfl (by decide +kernel)
theorem dX11_countWays_50 : decode cX11_countWays 50 = .ok (.iload 6, 2) := dz_21 (n := 32) (r := 18) hz_X11_countWays_32 rfl rfl
theorem dX11_countWays_52 : decode cX11_countWays 52 = .ok (.aload_n 1, 1) := dz_43 (n := 32) (r := 20) hz_X11_countWays_32 rfl
theorem dX11_countWays_53 : decode cX11_countWays 53 = .ok (.arraylength, 1) := dz_190 (n := 32) (r := 21) hz_X11_countWays_32 rfl
theorem dX11_countWays_54 : decode cX11_countWays 54 = .ok (.if_icmp .ge 11, 3) := dz_162 (n := 32) (r := 22) hz_X11_countWays_32 rfl (by decide +kernel)
theorem dX11_countWays_57 : decode cX11_countWays 57 = .ok (.aload_n 1, 1) := dz_43 (n := 32) (r := 25) hz_X11_countWays_32 rfl
theorem dX11_countWays_58 : decode cX11_countWays 58 = .ok (.iload 6, 2) := dz_21 (n := 32) (r := 26) hz_X11_countWays_32 rfl rfl
theorem dX11_countWays_60 : decode cX11_countWays 60 = .ok (.dup2, 1) := dz_92 (n := 32) (r := 28) hz_X11_countWays_32 rfl
theorem dX11_countWays_61 : decode cX11_countWays 61 = .ok (.iaload, 1) := dz_46 (n := 32) (r := 29) hz_X11_countWays_32 rfl
theorem dX11_countWays_62 : decode cX11_countWays 62 = .ok (.iconst 1, 1) := dz_4 (n := 32) (r := 30) hz_X11_countWays_32 rfl
theorem dX11_countWays_63 : decode cX11_countWays 63 = .ok (.iadd, 1) := dz_96 (n := 32) (r := 31) hz_X11_countWays_32 rfl
theorem hz_X11_countWays_64 : (cX11_countWays.data.toList.drop 64).take 40 = [79, 132, 5, 1, 167, 255, 205, 177] := by decide +kernel
theorem dX11_countWays_64 : decode cX11_countWays 64 = .ok (.iastore, 1) := dz_79 (n := 64) (r := 0) hz_X11_countWays_64 rfl
theorem dX11_countWays_65 : decode cX11_countWays 65 = .ok (.iinc 5 1, 3) := dz_132 (n := 64) (r := 1) hz_X11_countWays_64 rfl rfl rfl
theorem dX11_countWays_68 : decode cX11_countWays 68 = .ok (.goto (-51), 3) := dz_167 (n := 64) (r := 4) hz_X11_countWays_64 rfl (by decide +kernel)
theorem dX11_countWays_71 : decode cX11_countWays 71 = .ok (.return_, 1) := dz_177 (n := 64) (r := 7) hz_X11_countWays_64 rfl
theorem hz_X11_countJoinedLevels_0 : (cX11_countJoinedLevels.data.toList.drop 0).take 40 = [3, 60, 3, 61, 28, 42, 180, 0, 87, 190, 162, 0, 23, 42, 180, 0, 87, 28, 47, 9, 148, 153, 0, 6, 132, 1, 1, 132, 2, 1, 167, 255, 230, 27, 172] := by decide +kernel
theorem dX11_countJoinedLevels_0 : decode cX11_countJoinedLevels 0 = .ok (.iconst 0, 1) := dz_3 (n := 0) (r := 0) hz_X11_countJoinedLevels_0 rfl
theorem dX11_countJoinedLevels_1 : decode cX11_countJoinedLevels 1 = .ok (.istore_n 1, 1) := dz_60 (n := 0) (r := 1) hz_X11_countJoinedLevels_0 rfl
theorem dX11_countJoinedLevels_2 : decode cX11_countJoinedLevels 2 = .ok (.iconst 0, 1) := dz_3 (n := 0) (r := 2) hz_X11_countJoinedLevels_0 rfl
theorem dX11_countJoinedLevels_3 : decode cX11_countJoinedLevels 3 = .ok (.istore_n 2, 1) := dz_61 (n := 0) (r := 3) hz_X11_countJoinedLevels_0 rfl
theorem dX11_countJoinedLevels_4 : decode cX11_countJoinedLevels 4 = .ok (.iload_n 2, 1) := dz_28 (n := 0) (r := 4) hz_X11_countJoinedLevels_0 rfl
theorem dX11_countJoinedLevels_5 : decode cX11_countJoinedLevels 5 = .ok (.aload_n 0, 1) := dz_42 (n := 0) (r := 5) hz_X11_countJoinedLevels_0 rfl
theorem dX11_countJoinedLevels_6 : decode cX11_countJoinedLevels 6 = .ok (.getfield 87, 3) := dz_180 (n := 0) (r := 6) hz_X11_countJoinedLevels_0 rfl rfl
theorem dX11_countJoinedLevels_9 : decode cX11_countJoinedLevels 9 = .ok (.arraylength, 1) := dz_190 (n := 0) (r := 9) hz_X11_countJoinedLevels_0 rfl
theorem dX11_countJoinedLevels_10 : decode cX11_countJoinedLevels 10 = .ok (.if_icmp .ge 23, 3) := dz_162 (n := 0) (r := 10) hz_X11_countJoinedLevels_0 rfl (by decide +kernel)
theorem dX11_countJoinedLevels_13 : decode cX11_countJoinedLevels 13 = .ok (.aload_n 0, 1) := dz_42 (n := 0) (r := 13) hz_X11_countJoinedLevels_0 rfl
theorem dX11_countJoinedLevels_14 : decode cX11_countJoinedLevels 14 = .ok (.getfield 87, 3) := dz_180 (n := 0) (r := 14) hz_X11_countJoinedLevels_0 rfl rfl
theorem dX11_countJoinedLevels_17 : decode cX11_countJoinedLevels 17 = .ok (.iload_n 2, 1) := dz_28 (n := 0) (r := 17) hz_X11_countJoinedLevels_0 rfl
theorem dX11_countJoinedLevels_18 : decode cX11_countJoinedLevels 18 = .ok (.laload, 1) := dz_47 (n := 0) (r := 18) hz_X11_countJoinedLevels_0 rfl
theorem dX11_countJoinedLevels_19 : decode cX11_countJoinedLevels 19 = .ok (.lconst 0, 1) := dz_9 (n := 0) (r := 19) hz_X11_countJoinedLevels_0 rfl
theorem dX11_countJoinedLevels_20 : decode cX11_countJoinedLevels 20 = .ok (.lcmp, 1) := dz_148 (n := 0) (r := 20) hz_X11_countJoinedLevels_0 rfl
theorem dX11_countJoinedLevels_21 : decode cX11_countJoinedLevels 21 = .ok (.ifCond .eq 6, 3) := dz_153 (n := 0) (r := 21) hz_X11_countJoinedLevels_0 rfl (by decide +kernel)
theorem dX11_countJoinedLevels_24 : decode cX11_countJoinedLevels 24 = .ok (.iinc 1 1, 3) := dz_132 (n := 0) (r := 24) hz_X11_countJoinedLevels_0 rfl rfl rfl
theorem dX11_countJoinedLevels_27 : decode cX11_countJoinedLevels 27 = .ok (.iinc 2 1, 3) := dz_132 (n := 0) (r := 27) hz_X11_countJoinedLevels_0 rfl rfl rfl
theorem dX11_countJoinedLevels_30 : decode cX11_countJoinedLevels 30 = .ok (.goto (-26), 3) := dz_167 (n := 0) (r := 30) hz_X11_countJoinedLevels_0 rfl (by decide +kernel)
theorem hz_X11_countJoinedLevels_32 : (cX11_countJoinedLevels.data.toList.drop 32).take 40 = [230, 27, 172] := by decide +kernel
theorem dX11_countJoinedLevels_33 : decode cX11_countJoinedLevels 33 = .ok (.iload_n 1, 1) := dz_27 (n := 32) (r := 1) hz_X11_countJoinedLevels_32 rfl
theorem dX11_countJoinedLevels_34 : decode cX11_countJoinedLevels 34 = .ok (.ireturn, 1) := dz_172 (n := 32) (r := 2) hz_X11_countJoinedLevels_32 rfl
theorem hz_X11_joinedLevelAt_0 : (cX11_joinedLevelAt.data.toList.drop 0).take 40 = [3, 61, 3, 62, 29, 42, 180, 0, 87, 190, 162, 0, 30, 42, 180, 0, 87, 29, 47, 9, 148, 153, 0, 13, 28, 27, 160, 0, 5, 29, 172, 132, 2, 1, 132, 3, 1, 167, 255, 223] := by decide +kernel
theorem dX11_joinedLevelAt_0 : decode cX11_joinedLevelAt 0 = .ok (.iconst 0, 1) := dz_3 (n := 0) (r := 0) hz_X11_joinedLevelAt_0 rfl
theorem dX11_joinedLevelAt_1 : decode cX11_joinedLevelAt 1 = .ok (.istore_n 2, 1) := dz_61 (n := 0) (r := 1) hz_X11_joinedLevelAt_0 rfl
theorem dX11_joinedLevelAt_2 : decode cX11_joinedLevelAt 2 = .ok (.iconst 0, 1) := dz_3 (n := 0) (r := 2) hz_X11_joinedLevelAt_0 rfl
theorem dX11_joinedLevelAt_3 : decode cX11_joinedLevelAt 3 = .ok (.istore_n 3, 1) := dz_62 (n := 0) (r := 3) hz_X11_joinedLevelAt_0 rfl
theorem dX11_joinedLevelAt_4 : decode cX11_joinedLevelAt 4 = .ok (.iload_n 3, 1) := dz_29 (n := 0) (r := 4) hz_X11_joinedLevelAt_0 rfl
theorem dX11_joinedLevelAt_5 : decode cX11_joinedLevelAt 5 = .ok (.aload_n 0, 1) := dz_42 (n := 0) (r := 5) hz_X11_joinedLevelAt_0 rfl
theorem dX11_joinedLevelAt_6 : decode cX11_joinedLevelAt 6 = .ok (.getfield 87, 3) := dz_180 (n := 0) (r := 6) hz_X11_joinedLevelAt_0 rfl rfl
theorem dX11_joinedLevelAt_9 : decode cX11_joinedLevelAt 9 = .ok (.arraylength, 1) := dz_190 (n := 0) (r := 9) hz_X11_joinedLevelAt_0 rfl
theorem dX11_joinedLevelAt_10 : decode cX11_joinedLevelAt 10 = .ok (.if_icmp .ge 30, 3) := dz_162 (n := 0) (r := 10) hz_X11_joinedLevelAt_0 rfl (by decide +kernel)
theorem dX11_joinedLevelAt_13 : decode cX11_joinedLevelAt 13 = .ok (.aload_n 0, 1) := dz_42 (n := 0) (r := 13) hz_X11_joinedLevelAt_0 rfl
theorem dX11_joinedLevelAt_14 : decode cX11_joinedLevelAt 14 = .ok (.getfield 87, 3) := dz_180 (n := 0) (r := 14) hz_X11_joinedLevelAt_0 rfl rfl
theorem dX11_joinedLevelAt_17 : decode cX11_joinedLevelAt 17 = .ok (.iload_n 3, 1) := dz_29 (n := 0) (r := 17) hz_X11_joinedLevelAt_0 rfl
theorem dX11_joinedLevelAt_18 : decode cX11_joinedLevelAt 18 = .ok (.laload, 1) := dz_47 (n := 0) (r := 18) hz_X11_joinedLevelAt_0 rfl
theorem dX11_joinedLevelAt_19 : decode cX11_joinedLevelAt 19 = .ok (.lconst 0, 1) := dz_9 (n := 0) (r := 19) hz_X11_joinedLevelAt_0 rfl
theorem dX11_joinedLevelAt_20 : decode cX11_joinedLevelAt 20 = .ok (.lcmp, 1) := dz_148 (n := 0) (r := 20) hz_X11_joinedLevelAt_0 rfl
theorem dX11_joinedLevelAt_21 : decode cX11_joinedLevelAt 21 = .ok (.ifCond .eq 13, 3) := dz_153 (n := 0) (r := 21) hz_X11_joinedLevelAt_0 rfl (by decide +kernel)
theorem dX11_joinedLevelAt_24 : decode cX11_joinedLevelAt 24 = .ok (.iload_n 2, 1) := dz_28 (n := 0) (r := 24) hz_X11_joinedLevelAt_0 rfl
theorem dX11_joinedLevelAt_25 : decode cX11_joinedLevelAt 25 = .ok (.iload_n 1, 1) := dz_27 (n := 0) (r := 25) hz_X11_joinedLevelAt_0 rfl
theorem dX11_joinedLevelAt_26 : decode cX11_joinedLevelAt 26 = .ok (.if_icmp .ne 5, 3) := dz_160 (n := 0) (r := 26) hz_X11_joinedLevelAt_0 rfl (by decide +kernel)
theorem dX11_joinedLevelAt_29 : decode cX11_joinedLevelAt 29 = .ok (.iload_n 3, 1) := dz_29 (n := 0) (r := 29) hz_X11_joinedLevelAt_0 rfl
theorem dX11_joinedLevelAt_30 : decode cX11_joinedLevelAt 30 = .ok (.ireturn, 1) := dz_172 (n := 0) (r := 30) hz_X11_joinedLevelAt_0 rfl
theorem dX11_joinedLevelAt_31 : decode cX11_joinedLevelAt 31 = .ok (.iinc 2 1, 3) := dz_132 (n := 0) (r := 31) hz_X11_joinedLevelAt_0 rfl rfl rfl
theorem hz_X11_joinedLevelAt_32 : (cX11_joinedLevelAt.data.toList.drop 32).take 40 = [2, 1, 132, 3, 1, 167, 255, 223, 2, 172] := by decide +kernel
theorem dX11_joinedLevelAt_34 : decode cX11_joinedLevelAt 34 = .ok (.iinc 3 1, 3) := dz_132 (n := 32) (r := 2) hz_X11_joinedLevelAt_32 rfl rfl rfl
theorem dX11_joinedLevelAt_37 : decode cX11_joinedLevelAt 37 = .ok (.goto (-33), 3) := dz_167 (n := 32) (r := 5) hz_X11_joinedLevelAt_32 rfl (by decide +kernel)
theorem dX11_joinedLevelAt_40 : decode cX11_joinedLevelAt 40 = .ok (.iconst (-1), 1) := dz_2 (n := 32) (r := 8) hz_X11_joinedLevelAt_32 rfl
theorem dX11_joinedLevelAt_41 : decode cX11_joinedLevelAt 41 = .ok (.ireturn, 1) := dz_172 (n := 32) (r := 9) hz_X11_joinedLevelAt_32 rfl
theorem hz_X11_stuck_0 : (cX11_stuck.data.toList.drop 0).take 40 = [42, 182, 0, 251, 77, 44, 180, 0, 255, 154, 0, 5, 3, 172, 44, 3, 182, 1, 5, 62, 42, 180, 0, 24, 182, 1, 35, 54, 4, 3, 54, 5, 3, 54, 6, 21, 6, 21, 4, 162] := by decide +kernel
theorem dX11_stuck_0 : decode cX11_stuck 0 = .ok (.aload_n 0, 1) := dz_42 (n := 0) (r := 0) hz_X11_stuck_0 rfl
theorem dX11_stuck_1 : decode cX11_stuck 1 = .ok (.invokevirtual 251, 3) := dz_182 (n := 0) (r := 1) hz_X11_stuck_0 rfl rfl
theorem dX11_stuck_4 : decode cX11_stuck 4 = .ok (.astore_n 2, 1) := dz_77 (n := 0) (r := 4) hz_X11_stuck_0 rfl
theorem dX11_stuck_5 : decode cX11_stuck 5 = .ok (.aload_n 2, 1) := dz_44 (n := 0) (r := 5) hz_X11_stuck_0 rfl
theorem dX11_stuck_6 : decode cX11_stuck 6 = .ok (.getfield 255, 3) := dz_180 (n := 0) (r := 6) hz_X11_stuck_0 rfl rfl
theorem dX11_stuck_9 : decode cX11_stuck 9 = .ok (.ifCond .ne 5, 3) := dz_154 (n := 0) (r := 9) hz_X11_stuck_0 rfl (by decide +kernel)
theorem dX11_stuck_12 : decode cX11_stuck 12 = .ok (.iconst 0, 1) := dz_3 (n := 0) (r := 12) hz_X11_stuck_0 rfl
theorem dX11_stuck_13 : decode cX11_stuck 13 = .ok (.ireturn, 1) := dz_172 (n := 0) (r := 13) hz_X11_stuck_0 rfl
theorem dX11_stuck_14 : decode cX11_stuck 14 = .ok (.aload_n 2, 1) := dz_44 (n := 0) (r := 14) hz_X11_stuck_0 rfl
theorem dX11_stuck_15 : decode cX11_stuck 15 = .ok (.iconst 0, 1) := dz_3 (n := 0) (r := 15) hz_X11_stuck_0 rfl
theorem dX11_stuck_16 : decode cX11_stuck 16 = .ok (.invokevirtual 261, 3) := dz_182 (n := 0) (r := 16) hz_X11_stuck_0 rfl rfl
theorem dX11_stuck_19 : decode cX11_stuck 19 = .ok (.istore_n 3, 1) := dz_62 (n := 0) (r := 19) hz_X11_stuck_0 rfl
theorem dX11_stuck_20 : decode cX11_stuck 20 = .ok (.aload_n 0, 1) := dz_42 (n := 0) (r := 20) hz_X11_stuck_0 rfl
theorem dX11_stuck_21 : decode cX11_stuck 21 = .ok (.getfield 24, 3) := dz_180 (n := 0) (r := 21) hz_X11_stuck_0 rfl rfl
theorem dX11_stuck_24 : decode cX11_stuck 24 = .ok (.invokevirtual 291, 3) := dz_182 (n := 0) (r := 24) hz_X11_stuck_0 rfl rfl
theorem dX11_stuck_27 : decode cX11_stuck 27 = .ok (.istore 4, 2) := dz_54 (n := 0) (r := 27) hz_X11_stuck_0 rfl rfl
theorem dX11_stuck_29 : decode cX11_stuck 29 = .ok (.iconst 0, 1) := dz_3 (n := 0) (r := 29) hz_X11_stuck_0 rfl
theorem dX11_stuck_30 : decode cX11_stuck 30 = .ok (.istore 5, 2) := dz_54 (n := 0) (r := 30) hz_X11_stuck_0 rfl rfl
theorem hz_X11_stuck_32 : (cX11_stuck.data.toList.drop 32).take 40 = [3, 54, 6, 21, 6, 21, 4, 162, 0, 74, 42, 180, 0, 31, 21, 6, 182, 1, 39, 153, 0, 24, 27, 153, 0, 16, 42, 180, 0, 52, 21, 6, 182, 1, 42, 29, 159, 0, 7, 4] := by decide +kernel
theorem dX11_stuck_32 : decode cX11_stuck 32 = .ok (.iconst 0, 1) := dz_3 (n := 32) (r := 0) hz_X11_stuck_32 rfl
theorem dX11_stuck_33 : decode cX11_stuck 33 = .ok (.istore 6, 2) := dz_54 (n := 32) (r := 1) hz_X11_stuck_32 rfl rfl
theorem dX11_stuck_35 : decode cX11_stuck 35 = .ok (.iload 6, 2) := dz_21 (n := 32) (r := 3) hz_X11_stuck_32 rfl rfl
theorem dX11_stuck_37 : decode cX11_stuck 37 = .ok (.iload 4, 2) := dz_21 (n := 32) (r := 5) hz_X11_stuck_32 rfl rfl
theorem dX11_stuck_39 : decode cX11_stuck 39 = .ok (.if_icmp .ge 74, 3) := dz_162 (n := 32) (r := 7) hz_X11_stuck_32 rfl (by decide +kernel)
theorem dX11_stuck_42 : decode cX11_stuck 42 = .ok (.aload_n 0, 1) := dz_42 (n := 32) (r := 10) hz_X11_stuck_32 rfl
theorem dX11_stuck_43 : decode cX11_stuck 43 = .ok (.getfield 31, 3) := dz_180 (n := 32) (r := 11) hz_X11_stuck_32 rfl rfl
theorem dX11_stuck_46 : decode cX11_stuck 46 = .ok (.iload 6, 2) := dz_21 (n := 32) (r := 14) hz_X11_stuck_32 rfl rfl
theorem dX11_stuck_48 : decode cX11_stuck 48 = .ok (.invokevirtual 295, 3) := dz_182 (n := 32) (r := 16) hz_X11_stuck_32 rfl rfl
theorem dX11_stuck_51 : decode cX11_stuck 51 = .ok (.ifCond .eq 24, 3) := dz_153 (n := 32) (r := 19) hz_X11_stuck_32 rfl (by decide +kernel)
theorem dX11_stuck_54 : decode cX11_stuck 54 = .ok (.iload_n 1, 1) := dz_27 (n := 32) (r := 22) hz_X11_stuck_32 rfl
theorem dX11_stuck_55 : decode cX11_stuck 55 = .ok (.ifCond .eq 16, 3) := dz_153 (n := 32) (r := 23) hz_X11_stuck_32 rfl (by decide +kernel)
theorem dX11_stuck_58 : decode cX11_stuck 58 = .ok (.aload_n 0, 1) := dz_42 (n := 32) (r := 26) hz_X11_stuck_32 rfl
theorem dX11_stuck_59 : decode cX11_stuck 59 = .ok (.getfield 52, 3) := dz_180 (n := 32) (r := 27) hz_X11_stuck_32 rfl rfl
theorem dX11_stuck_62 : decode cX11_stuck 62 = .ok (.iload 6, 2) := dz_21 (n := 32) (r := 30) hz_X11_stuck_32 rfl rfl
theorem hz_X11_stuck_64 : (cX11_stuck.data.toList.drop 64).take 40 = [182, 1, 42, 29, 159, 0, 7, 4, 167, 0, 4, 3, 54, 7, 21, 7, 153, 0, 27, 42, 180, 0, 52, 21, 6, 42, 180, 0, 31, 180, 0, 191, 21, 4, 182, 1, 101, 153, 0, 6] := by decide +kernel
theorem dX11_stuck_64 : decode cX11_stuck 64 = .ok (.invokevirtual 298, 3) := dz_182 (n := 64) (r := 0) hz_X11_stuck_64 rfl rfl
theorem dX11_stuck_67 : decode cX11_stuck 67 = .ok (.iload_n 3, 1) := dz_29 (n := 64) (r := 3) hz_X11_stuck_64 rfl
theorem dX11_stuck_68 : decode cX11_stuck 68 = .ok (.if_icmp .eq 7, 3) := dz_159 (n := 64) (r := 4) hz_X11_stuck_64 rfl (by decide +kernel)
theorem dX11_stuck_71 : decode cX11_stuck 71 = .ok (.iconst 1, 1) := dz_4 (n := 64) (r := 7) hz_X11_stuck_64 rfl
theorem dX11_stuck_72 : decode cX11_stuck 72 = .ok (.goto 4, 3) := dz_167 (n := 64) (r := 8) hz_X11_stuck_64 rfl (by decide +kernel)
theorem dX11_stuck_75 : decode cX11_stuck 75 = .ok (.iconst 0, 1) := dz_3 (n := 64) (r := 11) hz_X11_stuck_64 rfl
theorem dX11_stuck_76 : decode cX11_stuck 76 = .ok (.istore 7, 2) := dz_54 (n := 64) (r := 12) hz_X11_stuck_64 rfl rfl
theorem dX11_stuck_78 : decode cX11_stuck 78 = .ok (.iload 7, 2) := dz_21 (n := 64) (r := 14) hz_X11_stuck_64 rfl rfl
theorem dX11_stuck_80 : decode cX11_stuck 80 = .ok (.ifCond .eq 27, 3) := dz_153 (n := 64) (r := 16) hz_X11_stuck_64 rfl (by decide +kernel)
theorem dX11_stuck_83 : decode cX11_stuck 83 = .ok (.aload_n 0, 1) := dz_42 (n := 64) (r := 19) hz_X11_stuck_64 rfl
theorem dX11_stuck_84 : decode cX11_stuck 84 = .ok (.getfield 52, 3) := dz_180 (n := 64) (r := 20) hz_X11_stuck_64 rfl rfl
theorem dX11_stuck_87 : decode cX11_stuck 87 = .ok (.iload 6, 2) := dz_21 (n := 64) (r := 23) hz_X11_stuck_64 rfl rfl
theorem dX11_stuck_89 : decode cX11_stuck 89 = .ok (.aload_n 0, 1) := dz_42 (n := 64) (r := 25) hz_X11_stuck_64 rfl
theorem dX11_stuck_90 : decode cX11_stuck 90 = .ok (.getfield 31, 3) := dz_180 (n := 64) (r := 26) hz_X11_stuck_64 rfl rfl
theorem dX11_stuck_93 : decode cX11_stuck 93 = .ok (.getfield 191, 3) := dz_180 (n := 64) (r := 29) hz_X11_stuck_64 rfl rfl
theorem hz_X11_stuck_96 : (cX11_stuck.data.toList.drop 96).take 40 = [21, 4, 182, 1, 101, 153, 0, 6, 132, 5, 1, 132, 6, 1, 167, 255, 181, 21, 5, 172] := by decide +kernel
theorem dX11_stuck_96 : decode cX11_stuck 96 = .ok (.iload 4, 2) := dz_21 (n := 96) (r := 0) hz_X11_stuck_96 rfl rfl
theorem dX11_stuck_98 : decode cX11_stuck 98 = .ok (.invokevirtual 357, 3) := dz_182 (n := 96) (r := 2) hz_X11_stuck_96 rfl rfl
theorem dX11_stuck_101 : decode cX11_stuck 101 = .ok (.ifCond .eq 6, 3) := dz_153 (n := 96) (r := 5) hz_X11_stuck_96 rfl (by decide +kernel)
theorem dX11_stuck_104 : decode cX11_stuck 104 = .ok (.iinc 5 1, 3) := dz_132 (n := 96) (r := 8) hz_X11_stuck_96 rfl rfl rfl
theorem dX11_stuck_107 : decode cX11_stuck 107 = .ok (.iinc 6 1, 3) := dz_132 (n := 96) (r := 11) hz_X11_stuck_96 rfl rfl rfl
theorem dX11_stuck_110 : decode cX11_stuck 110 = .ok (.goto (-75), 3) := dz_167 (n := 96) (r := 14) hz_X11_stuck_96 rfl (by decide +kernel)
theorem dX11_stuck_113 : decode cX11_stuck 113 = .ok (.iload 5, 2) := dz_21 (n := 96) (r := 17) hz_X11_stuck_96 rfl rfl
theorem dX11_stuck_115 : decode cX11_stuck 115 = .ok (.ireturn, 1) := dz_172 (n := 96) (r := 19) hz_X11_stuck_96 rfl
theorem hz_X11_rows_0 : (cX11_rows.data.toList.drop 0).take 40 = [27, 155, 0, 31, 27, 42, 180, 0, 24, 180, 1, 105, 162, 0, 20, 28, 155, 0, 16, 28, 4, 42, 180, 0, 24, 180, 1, 106, 120, 161, 0, 5, 2, 172, 42, 27, 182, 1, 107, 58] := by decide +kernel
theorem dX11_rows_0 : decode cX11_rows 0 = .ok (.iload_n 1, 1) := dz_27 (n := 0) (r := 0) hz_X11_rows_0 rfl
theorem dX11_rows_1 : decode cX11_rows 1 = .ok (.ifCond .lt 31, 3) := dz_155 (n := 0) (r := 1) hz_X11_rows_0 rfl (by decide +kernel)
theorem dX11_rows_4 : decode cX11_rows 4 = .ok (.iload_n 1, 1) := dz_27 (n := 0) (r := 4) hz_X11_rows_0 rfl
theorem dX11_rows_5 : decode cX11_rows 5 = .ok (.aload_n 0, 1) := dz_42 (n := 0) (r := 5) hz_X11_rows_0 rfl
theorem dX11_rows_6 : decode cX11_rows 6 = .ok (.getfield 24, 3) := dz_180 (n := 0) (r := 6) hz_X11_rows_0 rfl rfl
theorem dX11_rows_9 : decode cX11_rows 9 = .ok (.getfield 361, 3) := dz_180 (n := 0) (r := 9) hz_X11_rows_0 rfl rfl
theorem dX11_rows_12 : decode cX11_rows 12 = .ok (.if_icmp .ge 20, 3) := dz_162 (n := 0) (r := 12) hz_X11_rows_0 rfl (by decide +kernel)
theorem dX11_rows_15 : decode cX11_rows 15 = .ok (.iload_n 2, 1) := dz_28 (n := 0) (r := 15) hz_X11_rows_0 rfl
theorem dX11_rows_16 : decode cX11_rows 16 = .ok (.ifCond .lt 16, 3) := dz_155 (n := 0) (r := 16) hz_X11_rows_0 rfl (by decide +kernel)
theorem dX11_rows_19 : decode cX11_rows 19 = .ok (.iload_n 2, 1) := dz_28 (n := 0) (r := 19) hz_X11_rows_0 rfl
theorem dX11_rows_20 : decode cX11_rows 20 = .ok (.iconst 1, 1) := dz_4 (n := 0) (r := 20) hz_X11_rows_0 rfl
theorem dX11_rows_21 : decode cX11_rows 21 = .ok (.aload_n 0, 1) := dz_42 (n := 0) (r := 21) hz_X11_rows_0 rfl
theorem dX11_rows_22 : decode cX11_rows 22 = .ok (.getfield 24, 3) := dz_180 (n := 0) (r := 22) hz_X11_rows_0 rfl rfl
theorem dX11_rows_25 : decode cX11_rows 25 = .ok (.getfield 362, 3) := dz_180 (n := 0) (r := 25) hz_X11_rows_0 rfl rfl
theorem dX11_rows_28 : decode cX11_rows 28 = .ok (.ishl, 1) := dz_120 (n := 0) (r := 28) hz_X11_rows_0 rfl
theorem dX11_rows_29 : decode cX11_rows 29 = .ok (.if_icmp .lt 5, 3) := dz_161 (n := 0) (r := 29) hz_X11_rows_0 rfl (by decide +kernel)
theorem hz_X11_rows_32 : (cX11_rows.data.toList.drop 32).take 40 = [2, 172, 42, 27, 182, 1, 107, 58, 4, 27, 42, 180, 0, 24, 180, 1, 106, 104, 54, 5, 4, 21, 5, 42, 180, 0, 24, 180, 1, 106, 96, 120, 4, 100, 54, 6, 28, 21, 5, 120] := by decide +kernel
theorem dX11_rows_32 : decode cX11_rows 32 = .ok (.iconst (-1), 1) := dz_2 (n := 32) (r := 0) hz_X11_rows_32 rfl
theorem dX11_rows_33 : decode cX11_rows 33 = .ok (.ireturn, 1) := dz_172 (n := 32) (r := 1) hz_X11_rows_32 rfl
theorem dX11_rows_34 : decode cX11_rows 34 = .ok (.aload_n 0, 1) := dz_42 (n := 32) (r := 2) hz_X11_rows_32 rfl
theorem dX11_rows_35 : decode cX11_rows 35 = .ok (.iload_n 1, 1) := dz_27 (n := 32) (r := 3) hz_X11_rows_32 rfl
theorem dX11_rows_36 : decode cX11_rows 36 = .ok (.invokevirtual 363, 3) := dz_182 (n := 32) (r := 4) hz_X11_rows_32 rfl rfl
theorem dX11_rows_39 : decode cX11_rows 39 = .ok (.astore 4, 2) := dz_58 (n := 32) (r := 7) hz_X11_rows_32 rfl rfl
theorem dX11_rows_41 : decode cX11_rows 41 = .ok (.iload_n 1, 1) := dz_27 (n := 32) (r := 9) hz_X11_rows_32 rfl
theorem dX11_rows_42 : decode cX11_rows 42 = .ok (.aload_n 0, 1) := dz_42 (n := 32) (r := 10) hz_X11_rows_32 rfl
theorem dX11_rows_43 : decode cX11_rows 43 = .ok (.getfield 24, 3) := dz_180 (n := 32) (r := 11) hz_X11_rows_32 rfl rfl
theorem dX11_rows_46 : decode cX11_rows 46 = .ok (.getfield 362, 3) := dz_180 (n := 32) (r := 14) hz_X11_rows_32 rfl rfl
theorem dX11_rows_49 : decode cX11_rows 49 = .ok (.imul, 1) := dz_104 (n := 32) (r := 17) hz_X11_rows_32 rfl
theorem dX11_rows_50 : decode cX11_rows 50 = .ok (.istore 5, 2) := dz_54 (n := 32) (r := 18) hz_X11_rows_32 rfl rfl
theorem dX11_rows_52 : decode cX11_rows 52 = .ok (.iconst 1, 1) := dz_4 (n := 32) (r := 20) hz_X11_rows_32 rfl
theorem dX11_rows_53 : decode cX11_rows 53 = .ok (.iload 5, 2) := dz_21 (n := 32) (r := 21) hz_X11_rows_32 rfl rfl
theorem dX11_rows_55 : decode cX11_rows 55 = .ok (.aload_n 0, 1) := dz_42 (n := 32) (r := 23) hz_X11_rows_32 rfl
theorem dX11_rows_56 : decode cX11_rows 56 = .ok (.getfield 24, 3) := dz_180 (n := 32) (r := 24) hz_X11_rows_32 rfl rfl
theorem dX11_rows_59 : decode cX11_rows 59 = .ok (.getfield 362, 3) := dz_180 (n := 32) (r := 27) hz_X11_rows_32 rfl rfl
theorem dX11_rows_62 : decode cX11_rows 62 = .ok (.iadd, 1) := dz_96 (n := 32) (r := 30) hz_X11_rows_32 rfl
theorem dX11_rows_63 : decode cX11_rows 63 = .ok (.ishl, 1) := dz_120 (n := 32) (r := 31) hz_X11_rows_32 rfl
theorem hz_X11_rows_64 : (cX11_rows.data.toList.drop 64).take 40 = [4, 100, 54, 6, 28, 21, 5, 120, 54, 7, 21, 7, 4, 21, 5, 120, 96, 54, 8, 3, 54, 9, 21, 7, 54, 10, 21, 10, 21, 8, 162, 0, 46, 21, 10, 42, 180, 0, 31, 180] := by decide +kernel
theorem dX11_rows_64 : decode cX11_rows 64 = .ok (.iconst 1, 1) := dz_4 (n := 64) (r := 0) hz_X11_rows_64 rfl
theorem dX11_rows_65 : decode cX11_rows 65 = .ok (.isub, 1) := dz_100 (n := 64) (r := 1) hz_X11_rows_64 rfl
theorem dX11_rows_66 : decode cX11_rows 66 = .ok (.istore 6, 2) := dz_54 (n := 64) (r := 2) hz_X11_rows_64 rfl rfl
theorem dX11_rows_68 : decode cX11_rows 68 = .ok (.iload_n 2, 1) := dz_28 (n := 64) (r := 4) hz_X11_rows_64 rfl
theorem dX11_rows_69 : decode cX11_rows 69 = .ok (.iload 5, 2) := dz_21 (n := 64) (r := 5) hz_X11_rows_64 rfl rfl
theorem dX11_rows_71 : decode cX11_rows 71 = .ok (.ishl, 1) := dz_120 (n := 64) (r := 7) hz_X11_rows_64 rfl
theorem dX11_rows_72 : decode cX11_rows 72 = .ok (.istore 7, 2) := dz_54 (n := 64) (r := 8) hz_X11_rows_64 rfl rfl
theorem dX11_rows_74 : decode cX11_rows 74 = .ok (.iload 7, 2) := dz_21 (n := 64) (r := 10) hz_X11_rows_64 rfl rfl
theorem dX11_rows_76 : decode cX11_rows 76 = .ok (.iconst 1, 1) := dz_4 (n := 64) (r := 12) hz_X11_rows_64 rfl
theorem dX11_rows_77 : decode cX11_rows 77 = .ok (.iload 5, 2) := dz_21 (n := 64) (r := 13) hz_X11_rows_64 rfl rfl
theorem dX11_rows_79 : decode cX11_rows 79 = .ok (.ishl, 1) := dz_120 (n := 64) (r := 15) hz_X11_rows_64 rfl
theorem dX11_rows_80 : decode cX11_rows 80 = .ok (.iadd, 1) := dz_96 (n := 64) (r := 16) hz_X11_rows_64 rfl
theorem dX11_rows_81 : decode cX11_rows 81 = .ok (.istore 8, 2) := dz_54 (n := 64) (r := 17) hz_X11_rows_64 rfl rfl
theorem dX11_rows_83 : decode cX11_rows 83 = .ok (.iconst 0, 1) := dz_3 (n := 64) (r := 19) hz_X11_rows_64 rfl
theorem dX11_rows_84 : decode cX11_rows 84 = .ok (.istore 9, 2) := dz_54 (n := 64) (r := 20) hz_X11_rows_64 rfl rfl
theorem dX11_rows_86 : decode cX11_rows 86 = .ok (.iload 7, 2) := dz_21 (n := 64) (r := 22) hz_X11_rows_64 rfl rfl
theorem dX11_rows_88 : decode cX11_rows 88 = .ok (.istore 10, 2) := dz_54 (n := 64) (r := 24) hz_X11_rows_64 rfl rfl
theorem dX11_rows_90 : decode cX11_rows 90 = .ok (.iload 10, 2) := dz_21 (n := 64) (r := 26) hz_X11_rows_64 rfl rfl
theorem dX11_rows_92 : decode cX11_rows 92 = .ok (.iload 8, 2) := dz_21 (n := 64) (r := 28) hz_X11_rows_64 rfl rfl
theorem dX11_rows_94 : decode cX11_rows 94 = .ok (.if_icmp .ge 46, 3) := dz_162 (n := 64) (r := 30) hz_X11_rows_64 rfl (by decide +kernel)
theorem hz_X11_rows_96 : (cX11_rows.data.toList.drop 96).take 40 = [46, 21, 10, 42, 180, 0, 31, 180, 0, 191, 126, 42, 180, 0, 31, 180, 0, 141, 21, 6, 126, 160, 0, 17, 25, 4, 21, 10, 182, 1, 42, 29, 160, 0, 6, 132, 9, 1, 132, 10] := by decide +kernel
theorem dX11_rows_97 : decode cX11_rows 97 = .ok (.iload 10, 2) := dz_21 (n := 96) (r := 1) hz_X11_rows_96 rfl rfl
theorem dX11_rows_99 : decode cX11_rows 99 = .ok (.aload_n 0, 1) := dz_42 (n := 96) (r := 3) hz_X11_rows_96 rfl
theorem dX11_rows_100 : decode cX11_rows 100 = .ok (.getfield 31, 3) := dz_180 (n := 96) (r := 4) hz_X11_rows_96 rfl rfl
theorem dX11_rows_103 : decode cX11_rows 103 = .ok (.getfield 191, 3) := dz_180 (n := 96) (r := 7) hz_X11_rows_96 rfl rfl
theorem dX11_rows_106 : decode cX11_rows 106 = .ok (.iand, 1) := dz_126 (n := 96) (r := 10) hz_X11_rows_96 rfl
theorem dX11_rows_107 : decode cX11_rows 107 = .ok (.aload_n 0, 1) := dz_42 (n := 96) (r := 11) hz_X11_rows_96 rfl
theorem dX11_rows_108 : decode cX11_rows 108 = .ok (.getfield 31, 3) := dz_180 (n := 96) (r := 12) hz_X11_rows_96 rfl rfl
theorem dX11_rows_111 : decode cX11_rows 111 = .ok (.getfield 141, 3) := dz_180 (n := 96) (r := 15) hz_X11_rows_96 rfl rfl
theorem dX11_rows_114 : decode cX11_rows 114 = .ok (.iload 6, 2) := dz_21 (n := 96) (r := 18) hz_X11_rows_96 rfl rfl
theorem dX11_rows_116 : decode cX11_rows 116 = .ok (.iand, 1) := dz_126 (n := 96) (r := 20) hz_X11_rows_96 rfl
theorem dX11_rows_117 : decode cX11_rows 117 = .ok (.if_icmp .ne 17, 3) := dz_160 (n := 96) (r := 21) hz_X11_rows_96 rfl (by decide +kernel)
theorem dX11_rows_120 : decode cX11_rows 120 = .ok (.aload 4, 2) := dz_25 (n := 96) (r := 24) hz_X11_rows_96 rfl rfl
theorem dX11_rows_122 : decode cX11_rows 122 = .ok (.iload 10, 2) := dz_21 (n := 96) (r := 26) hz_X11_rows_96 rfl rfl
theorem dX11_rows_124 : decode cX11_rows 124 = .ok (.invokevirtual 298, 3) := dz_182 (n := 96) (r := 28) hz_X11_rows_96 rfl rfl
theorem dX11_rows_127 : decode cX11_rows 127 = .ok (.iload_n 3, 1) := dz_29 (n := 96) (r := 31) hz_X11_rows_96 rfl
theorem hz_X11_rows_128 : (cX11_rows.data.toList.drop 128).take 40 = [160, 0, 6, 132, 9, 1, 132, 10, 1, 167, 255, 209, 21, 9, 172] := by decide +kernel
theorem dX11_rows_128 : decode cX11_rows 128 = .ok (.if_icmp .ne 6, 3) := dz_160 (n := 128) (r := 0) hz_X11_rows_128 rfl (by decide +kernel)
theorem dX11_rows_131 : decode cX11_rows 131 = .ok (.iinc 9 1, 3) := dz_132 (n := 128) (r := 3) hz_X11_rows_128 rfl rfl rfl
theorem dX11_rows_134 : decode cX11_rows 134 = .ok (.iinc 10 1, 3) := dz_132 (n := 128) (r := 6) hz_X11_rows_128 rfl rfl rfl
theorem dX11_rows_137 : decode cX11_rows 137 = .ok (.goto (-47), 3) := dz_167 (n := 128) (r := 9) hz_X11_rows_128 rfl (by decide +kernel)
theorem dX11_rows_140 : decode cX11_rows 140 = .ok (.iload 9, 2) := dz_21 (n := 128) (r := 12) hz_X11_rows_128 rfl rfl
theorem dX11_rows_142 : decode cX11_rows 142 = .ok (.ireturn, 1) := dz_172 (n := 128) (r := 14) hz_X11_rows_128 rfl
theorem hz_X11_energiesOfRows_0 : (cX11_energiesOfRows.data.toList.drop 0).take 40 = [27, 42, 180, 0, 24, 180, 1, 105, 4, 100, 160, 0, 8, 42, 182, 1, 111, 176, 42, 180, 0, 56, 42, 180, 0, 24, 42, 180, 0, 31, 180, 1, 84, 42, 180, 0, 31, 180, 1, 87] := by decide +kernel
theorem dX11_energiesOfRows_0 : decode cX11_energiesOfRows 0 = .ok (.iload_n 1, 1) := dz_27 (n := 0) (r := 0) hz_X11_energiesOfRows_0 rfl
theorem dX11_energiesOfRows_1 : decode cX11_energiesOfRows 1 = .ok (.aload_n 0, 1) := dz_42 (n := 0) (r := 1) hz_X11_energiesOfRows_0 rfl
theorem dX11_energiesOfRows_2 : decode cX11_energiesOfRows 2 = .ok (.getfield 24, 3) := dz_180 (n := 0) (r := 2) hz_X11_energiesOfRows_0 rfl rfl
theorem dX11_energiesOfRows_5 : decode cX11_energiesOfRows 5 = .ok (.getfield 361, 3) := dz_180 (n := 0) (r := 5) hz_X11_energiesOfRows_0 rfl rfl
theorem dX11_energiesOfRows_8 : decode cX11_energiesOfRows 8 = .ok (.iconst 1, 1) := dz_4 (n := 0) (r := 8) hz_X11_energiesOfRows_0 rfl
theorem dX11_energiesOfRows_9 : decode cX11_energiesOfRows 9 = .ok (.isub, 1) := dz_100 (n := 0) (r := 9) hz_X11_energiesOfRows_0 rfl
theorem dX11_energiesOfRows_10 : decode cX11_energiesOfRows 10 = .ok (.if_icmp .ne 8, 3) := dz_160 (n := 0) (r := 10) hz_X11_energiesOfRows_0 rfl (by decide +kernel)
theorem dX11_energiesOfRows_13 : decode cX11_energiesOfRows 13 = .ok (.aload_n 0, 1) := dz_42 (n := 0) (r := 13) hz_X11_energiesOfRows_0 rfl
theorem dX11_energiesOfRows_14 : decode cX11_energiesOfRows 14 = .ok (.invokevirtual 367, 3) := dz_182 (n := 0) (r := 14) hz_X11_energiesOfRows_0 rfl rfl
theorem dX11_energiesOfRows_17 : decode cX11_energiesOfRows 17 = .ok (.areturn, 1) := dz_176 (n := 0) (r := 17) hz_X11_energiesOfRows_0 rfl
theorem dX11_energiesOfRows_18 : decode cX11_energiesOfRows 18 = .ok (.aload_n 0, 1) := dz_42 (n := 0) (r := 18) hz_X11_energiesOfRows_0 rfl
theorem dX11_energiesOfRows_19 : decode cX11_energiesOfRows 19 = .ok (.getfield 56, 3) := dz_180 (n := 0) (r := 19) hz_X11_energiesOfRows_0 rfl rfl
theorem dX11_energiesOfRows_22 : decode cX11_energiesOfRows 22 = .ok (.aload_n 0, 1) := dz_42 (n := 0) (r := 22) hz_X11_energiesOfRows_0 rfl
theorem dX11_energiesOfRows_23 : decode cX11_energiesOfRows 23 = .ok (.getfield 24, 3) := dz_180 (n := 0) (r := 23) hz_X11_energiesOfRows_0 rfl rfl
theorem dX11_energiesOfRows_26 : decode cX11_energiesOfRows 26 = .ok (.aload_n 0, 1) := dz_42 (n := 0) (r := 26) hz_X11_energiesOfRows_0 rfl
theorem dX11_energiesOfRows_27 : decode cX11_energiesOfRows 27 = .ok (.getfield 31, 3) := dz_180 (n := 0) (r := 27) hz_X11_energiesOfRows_0 rfl rfl
theorem dX11_energiesOfRows_30 : decode cX11_energiesOfRows 30 = .ok (.getfield 340, 3) := dz_180 (n := 0) (r := 30) hz_X11_energiesOfRows_0 rfl rfl
theorem hz_X11_energiesOfRows_32 : (cX11_energiesOfRows.data.toList.drop 32).take 40 = [84, 42, 180, 0, 31, 180, 1, 87, 27, 4, 96, 42, 180, 0, 24, 180, 1, 106, 104, 182, 1, 90, 42, 180, 0, 56, 176] := by decide +kernel
theorem dX11_energiesOfRows_33 : decode cX11_energiesOfRows 33 = .ok (.aload_n 0, 1) := dz_42 (n := 32) (r := 1) hz_X11_energiesOfRows_32 rfl
theorem dX11_energiesOfRows_34 : decode cX11_energiesOfRows 34 = .ok (.getfield 31, 3) := dz_180 (n := 32) (r := 2) hz_X11_energiesOfRows_32 rfl rfl
theorem dX11_energiesOfRows_37 : decode cX11_energiesOfRows 37 = .ok (.getfield 343, 3) := dz_180 (n := 32) (r := 5) hz_X11_energiesOfRows_32 rfl rfl
theorem dX11_energiesOfRows_40 : decode cX11_energiesOfRows 40 = .ok (.iload_n 1, 1) := dz_27 (n := 32) (r := 8) hz_X11_energiesOfRows_32 rfl
theorem dX11_energiesOfRows_41 : decode cX11_energiesOfRows 41 = .ok (.iconst 1, 1) := dz_4 (n := 32) (r := 9) hz_X11_energiesOfRows_32 rfl
theorem dX11_energiesOfRows_42 : decode cX11_energiesOfRows 42 = .ok (.iadd, 1) := dz_96 (n := 32) (r := 10) hz_X11_energiesOfRows_32 rfl
theorem dX11_energiesOfRows_43 : decode cX11_energiesOfRows 43 = .ok (.aload_n 0, 1) := dz_42 (n := 32) (r := 11) hz_X11_energiesOfRows_32 rfl
theorem dX11_energiesOfRows_44 : decode cX11_energiesOfRows 44 = .ok (.getfield 24, 3) := dz_180 (n := 32) (r := 12) hz_X11_energiesOfRows_32 rfl rfl
theorem dX11_energiesOfRows_47 : decode cX11_energiesOfRows 47 = .ok (.getfield 362, 3) := dz_180 (n := 32) (r := 15) hz_X11_energiesOfRows_32 rfl rfl
theorem dX11_energiesOfRows_50 : decode cX11_energiesOfRows 50 = .ok (.imul, 1) := dz_104 (n := 32) (r := 18) hz_X11_energiesOfRows_32 rfl
theorem dX11_energiesOfRows_51 : decode cX11_energiesOfRows 51 = .ok (.invokevirtual 346, 3) := dz_182 (n := 32) (r := 19) hz_X11_energiesOfRows_32 rfl rfl
theorem dX11_energiesOfRows_54 : decode cX11_energiesOfRows 54 = .ok (.aload_n 0, 1) := dz_42 (n := 32) (r := 22) hz_X11_energiesOfRows_32 rfl
theorem dX11_energiesOfRows_55 : decode cX11_energiesOfRows 55 = .ok (.getfield 56, 3) := dz_180 (n := 32) (r := 23) hz_X11_energiesOfRows_32 rfl rfl
theorem dX11_energiesOfRows_58 : decode cX11_energiesOfRows 58 = .ok (.areturn, 1) := dz_176 (n := 32) (r := 26) hz_X11_energiesOfRows_32 rfl
theorem hz_X11_overlap_0 : (cX11_overlap.data.toList.drop 0).take 40 = [42, 182, 0, 251, 77, 44, 180, 0, 255, 154, 0, 5, 3, 172, 44, 44, 3, 182, 1, 5, 182, 1, 8, 17, 1, 0, 164, 0, 6, 16, 254, 172, 42, 44, 3, 182, 1, 5, 182, 1] := by decide +kernel
theorem dX11_overlap_0 : decode cX11_overlap 0 = .ok (.aload_n 0, 1) := dz_42 (n := 0) (r := 0) hz_X11_overlap_0 rfl
theorem dX11_overlap_1 : decode cX11_overlap 1 = .ok (.invokevirtual 251, 3) := dz_182 (n := 0) (r := 1) hz_X11_overlap_0 rfl rfl
theorem dX11_overlap_4 : decode cX11_overlap 4 = .ok (.astore_n 2, 1) := dz_77 (n := 0) (r := 4) hz_X11_overlap_0 rfl
theorem dX11_overlap_5 : decode cX11_overlap 5 = .ok (.aload_n 2, 1) := dz_44 (n := 0) (r := 5) hz_X11_overlap_0 rfl
theorem dX11_overlap_6 : decode cX11_overlap 6 = .ok (.getfield 255, 3) := dz_180 (n := 0) (r := 6) hz_X11_overlap_0 rfl rfl
theorem dX11_overlap_9 : decode cX11_overlap 9 = .ok (.ifCond .ne 5, 3) := dz_154 (n := 0) (r := 9) hz_X11_overlap_0 rfl (by decide +kernel)
theorem dX11_overlap_12 : decode cX11_overlap 12 = .ok (.iconst 0, 1) := dz_3 (n := 0) (r := 12) hz_X11_overlap_0 rfl
theorem dX11_overlap_13 : decode cX11_overlap 13 = .ok (.ireturn, 1) := dz_172 (n := 0) (r := 13) hz_X11_overlap_0 rfl
theorem dX11_overlap_14 : decode cX11_overlap 14 = .ok (.aload_n 2, 1) := dz_44 (n := 0) (r := 14) hz_X11_overlap_0 rfl
theorem dX11_overlap_15 : decode cX11_overlap 15 = .ok (.aload_n 2, 1) := dz_44 (n := 0) (r := 15) hz_X11_overlap_0 rfl
theorem dX11_overlap_16 : decode cX11_overlap 16 = .ok (.iconst 0, 1) := dz_3 (n := 0) (r := 16) hz_X11_overlap_0 rfl
theorem dX11_overlap_17 : decode cX11_overlap 17 = .ok (.invokevirtual 261, 3) := dz_182 (n := 0) (r := 17) hz_X11_overlap_0 rfl rfl
theorem dX11_overlap_20 : decode cX11_overlap 20 = .ok (.invokevirtual 264, 3) := dz_182 (n := 0) (r := 20) hz_X11_overlap_0 rfl rfl
theorem dX11_overlap_23 : decode cX11_overlap 23 = .ok (.sipush 256, 3) := dz_17 (n := 0) (r := 23) hz_X11_overlap_0 rfl (by decide +kernel)
theorem dX11_overlap_26 : decode cX11_overlap 26 = .ok (.if_icmp .le 6, 3) := dz_164 (n := 0) (r := 26) hz_X11_overlap_0 rfl (by decide +kernel)
theorem dX11_overlap_29 : decode cX11_overlap 29 = .ok (.bipush (-2), 2) := dz_16 (n := 0) (r := 29) hz_X11_overlap_0 rfl rfl
theorem dX11_overlap_31 : decode cX11_overlap 31 = .ok (.ireturn, 1) := dz_172 (n := 0) (r := 31) hz_X11_overlap_0 rfl
theorem hz_X11_overlap_32 : (cX11_overlap.data.toList.drop 32).take 40 = [42, 44, 3, 182, 1, 5, 182, 1, 115, 62, 3, 54, 4, 3, 54, 5, 21, 5, 29, 162, 0, 60, 21, 5, 42, 180, 0, 91, 190, 162, 0, 50, 3, 54, 6, 21, 6, 21, 5, 162] := by decide +kernel
theorem dX11_overlap_32 : decode cX11_overlap 32 = .ok (.aload_n 0, 1) := dz_42 (n := 32) (r := 0) hz_X11_overlap_32 rfl
theorem dX11_overlap_33 : decode cX11_overlap 33 = .ok (.aload_n 2, 1) := dz_44 (n := 32) (r := 1) hz_X11_overlap_32 rfl
theorem dX11_overlap_34 : decode cX11_overlap 34 = .ok (.iconst 0, 1) := dz_3 (n := 32) (r := 2) hz_X11_overlap_32 rfl
theorem dX11_overlap_35 : decode cX11_overlap 35 = .ok (.invokevirtual 261, 3) := dz_182 (n := 32) (r := 3) hz_X11_overlap_32 rfl rfl
theorem dX11_overlap_38 : decode cX11_overlap 38 = .ok (.invokevirtual 371, 3) := dz_182 (n := 32) (r := 6) hz_X11_overlap_32 rfl rfl
theorem dX11_overlap_41 : decode cX11_overlap 41 = .ok (.istore_n 3, 1) := dz_62 (n := 32) (r := 9) hz_X11_overlap_32 rfl
theorem dX11_overlap_42 : decode cX11_overlap 42 = .ok (.iconst 0, 1) := dz_3 (n := 32) (r := 10) hz_X11_overlap_32 rfl
theorem dX11_overlap_43 : decode cX11_overlap 43 = .ok (.istore 4, 2) := dz_54 (n := 32) (r := 11) hz_X11_overlap_32 rfl rfl
theorem dX11_overlap_45 : decode cX11_overlap 45 = .ok (.iconst 0, 1) := dz_3 (n := 32) (r := 13) hz_X11_overlap_32 rfl
theorem dX11_overlap_46 : decode cX11_overlap 46 = .ok (.istore 5, 2) := dz_54 (n := 32) (r := 14) hz_X11_overlap_32 rfl rfl
theorem dX11_overlap_48 : decode cX11_overlap 48 = .ok (.iload 5, 2) := dz_21 (n := 32) (r := 16) hz_X11_overlap_32 rfl rfl
theorem dX11_overlap_50 : decode cX11_overlap 50 = .ok (.iload_n 3, 1) := dz_29 (n := 32) (r := 18) hz_X11_overlap_32 rfl
theorem dX11_overlap_51 : decode cX11_overlap 51 = .ok (.if_icmp .ge 60, 3) := dz_162 (n := 32) (r := 19) hz_X11_overlap_32 rfl (by decide +kernel)
theorem dX11_overlap_54 : decode cX11_overlap 54 = .ok (.iload 5, 2) := dz_21 (n := 32) (r := 22) hz_X11_overlap_32 rfl rfl
theorem dX11_overlap_56 : decode cX11_overlap 56 = .ok (.aload_n 0, 1) := dz_42 (n := 32) (r := 24) hz_X11_overlap_32 rfl
theorem dX11_overlap_57 : decode cX11_overlap 57 = .ok (.getfield 91, 3) := dz_180 (n := 32) (r := 25) hz_X11_overlap_32 rfl rfl
theorem dX11_overlap_60 : decode cX11_overlap 60 = .ok (.arraylength, 1) := dz_190 (n := 32) (r := 28) hz_X11_overlap_32 rfl
theorem dX11_overlap_61 : decode cX11_overlap 61 = .ok (.if_icmp .ge 50, 3) := dz_162 (n := 32) (r := 29) hz_X11_overlap_32 rfl (by decide +kernel)
theorem hz_X11_overlap_64 : (cX11_overlap.data.toList.drop 64).take 40 = [3, 54, 6, 21, 6, 21, 5, 162, 0, 34, 42, 180, 0, 91, 21, 5, 46, 42, 180, 0, 91, 21, 6, 46, 130, 184, 1, 118, 27, 160, 0, 6, 132, 4, 1, 132, 6, 1, 167, 255] := by decide +kernel
theorem dX11_overlap_64 : decode cX11_overlap 64 = .ok (.iconst 0, 1) := dz_3 (n := 64) (r := 0) hz_X11_overlap_64 rfl
theorem dX11_overlap_65 : decode cX11_overlap 65 = .ok (.istore 6, 2) := dz_54 (n := 64) (r := 1) hz_X11_overlap_64 rfl rfl
theorem dX11_overlap_67 : decode cX11_overlap 67 = .ok (.iload 6, 2) := dz_21 (n := 64) (r := 3) hz_X11_overlap_64 rfl rfl
theorem dX11_overlap_69 : decode cX11_overlap 69 = .ok (.iload 5, 2) := dz_21 (n := 64) (r := 5) hz_X11_overlap_64 rfl rfl
theorem dX11_overlap_71 : decode cX11_overlap 71 = .ok (.if_icmp .ge 34, 3) := dz_162 (n := 64) (r := 7) hz_X11_overlap_64 rfl (by decide +kernel)
theorem dX11_overlap_74 : decode cX11_overlap 74 = .ok (.aload_n 0, 1) := dz_42 (n := 64) (r := 10) hz_X11_overlap_64 rfl
theorem dX11_overlap_75 : decode cX11_overlap 75 = .ok (.getfield 91, 3) := dz_180 (n := 64) (r := 11) hz_X11_overlap_64 rfl rfl
theorem dX11_overlap_78 : decode cX11_overlap 78 = .ok (.iload 5, 2) := dz_21 (n := 64) (r := 14) hz_X11_overlap_64 rfl rfl
theorem dX11_overlap_80 : decode cX11_overlap 80 = .ok (.iaload, 1) := dz_46 (n := 64) (r := 16) hz_X11_overlap_64 rfl
theorem dX11_overlap_81 : decode cX11_overlap 81 = .ok (.aload_n 0, 1) := dz_42 (n := 64) (r := 17) hz_X11_overlap_64 rfl
theorem dX11_overlap_82 : decode cX11_overlap 82 = .ok (.getfield 91, 3) := dz_180 (n := 64) (r := 18) hz_X11_overlap_64 rfl rfl
theorem dX11_overlap_85 : decode cX11_overlap 85 = .ok (.iload 6, 2) := dz_21 (n := 64) (r := 21) hz_X11_overlap_64 rfl rfl
theorem dX11_overlap_87 : decode cX11_overlap 87 = .ok (.iaload, 1) := dz_46 (n := 64) (r := 23) hz_X11_overlap_64 rfl
theorem dX11_overlap_88 : decode cX11_overlap 88 = .ok (.ixor, 1) := dz_130 (n := 64) (r := 24) hz_X11_overlap_64 rfl
theorem dX11_overlap_89 : decode cX11_overlap 89 = .ok (.invokestatic 374, 3) := dz_184 (n := 64) (r := 25) hz_X11_overlap_64 rfl rfl
theorem dX11_overlap_92 : decode cX11_overlap 92 = .ok (.iload_n 1, 1) := dz_27 (n := 64) (r := 28) hz_X11_overlap_64 rfl
theorem dX11_overlap_93 : decode cX11_overlap 93 = .ok (.if_icmp .ne 6, 3) := dz_160 (n := 64) (r := 29) hz_X11_overlap_64 rfl (by decide +kernel)
theorem hz_X11_overlap_96 : (cX11_overlap.data.toList.drop 96).take 40 = [132, 4, 1, 132, 6, 1, 167, 255, 221, 132, 5, 1, 167, 255, 196, 21, 4, 172] := by decide +kernel
theorem dX11_overlap_96 : decode cX11_overlap 96 = .ok (.iinc 4 1, 3) := dz_132 (n := 96) (r := 0) hz_X11_overlap_96 rfl rfl rfl
theorem dX11_overlap_99 : decode cX11_overlap 99 = .ok (.iinc 6 1, 3) := dz_132 (n := 96) (r := 3) hz_X11_overlap_96 rfl rfl rfl
theorem dX11_overlap_102 : decode cX11_overlap 102 = .ok (.goto (-35), 3) := dz_167 (n := 96) (r := 6) hz_X11_overlap_96 rfl (by decide +kernel)
theorem dX11_overlap_105 : decode cX11_overlap 105 = .ok (.iinc 5 1, 3) := dz_132 (n := 96) (r := 9) hz_X11_overlap_96 rfl rfl rfl
theorem dX11_overlap_108 : decode cX11_overlap 108 = .ok (.goto (-60), 3) := dz_167 (n := 96) (r := 12) hz_X11_overlap_96 rfl (by decide +kernel)
theorem dX11_overlap_111 : decode cX11_overlap 111 = .ok (.iload 4, 2) := dz_21 (n := 96) (r := 15) hz_X11_overlap_96 rfl rfl
theorem dX11_overlap_113 : decode cX11_overlap 113 = .ok (.ireturn, 1) := dz_172 (n := 96) (r := 17) hz_X11_overlap_96 rfl
theorem hz_X11_listGround_0 : (cX11_listGround.data.toList.drop 0).take 40 = [42, 180, 0, 24, 182, 1, 35, 61, 3, 62, 3, 54, 4, 21, 4, 28, 162, 0, 54, 29, 42, 180, 0, 91, 190, 162, 0, 45, 42, 180, 0, 31, 21, 4, 182, 1, 39, 153, 0, 27] := by decide +kernel
theorem dX11_listGround_0 : decode cX11_listGround 0 = .ok (.aload_n 0, 1) := dz_42 (n := 0) (r := 0) hz_X11_listGround_0 rfl
theorem dX11_listGround_1 : decode cX11_listGround 1 = .ok (.getfield 24, 3) := dz_180 (n := 0) (r := 1) hz_X11_listGround_0 rfl rfl
theorem dX11_listGround_4 : decode cX11_listGround 4 = .ok (.invokevirtual 291, 3) := dz_182 (n := 0) (r := 4) hz_X11_listGround_0 rfl rfl
theorem dX11_listGround_7 : decode cX11_listGround 7 = .ok (.istore_n 2, 1) := dz_61 (n := 0) (r := 7) hz_X11_listGround_0 rfl
theorem dX11_listGround_8 : decode cX11_listGround 8 = .ok (.iconst 0, 1) := dz_3 (n := 0) (r := 8) hz_X11_listGround_0 rfl
theorem dX11_listGround_9 : decode cX11_listGround 9 = .ok (.istore_n 3, 1) := dz_62 (n := 0) (r := 9) hz_X11_listGround_0 rfl
theorem dX11_listGround_10 : decode cX11_listGround 10 = .ok (.iconst 0, 1) := dz_3 (n := 0) (r := 10) hz_X11_listGround_0 rfl
theorem dX11_listGround_11 : decode cX11_listGround 11 = .ok (.istore 4, 2) := dz_54 (n := 0) (r := 11) hz_X11_listGround_0 rfl rfl
theorem dX11_listGround_13 : decode cX11_listGround 13 = .ok (.iload 4, 2) := dz_21 (n := 0) (r := 13) hz_X11_listGround_0 rfl rfl
theorem dX11_listGround_15 : decode cX11_listGround 15 = .ok (.iload_n 2, 1) := dz_28 (n := 0) (r := 15) hz_X11_listGround_0 rfl
theorem dX11_listGround_16 : decode cX11_listGround 16 = .ok (.if_icmp .ge 54, 3) := dz_162 (n := 0) (r := 16) hz_X11_listGround_0 rfl (by decide +kernel)
theorem dX11_listGround_19 : decode cX11_listGround 19 = .ok (.iload_n 3, 1) := dz_29 (n := 0) (r := 19) hz_X11_listGround_0 rfl
theorem dX11_listGround_20 : decode cX11_listGround 20 = .ok (.aload_n 0, 1) := dz_42 (n := 0) (r := 20) hz_X11_listGround_0 rfl
theorem dX11_listGround_21 : decode cX11_listGround 21 = .ok (.getfield 91, 3) := dz_180 (n := 0) (r := 21) hz_X11_listGround_0 rfl rfl
theorem dX11_listGround_24 : decode cX11_listGround 24 = .ok (.arraylength, 1) := dz_190 (n := 0) (r := 24) hz_X11_listGround_0 rfl
theorem dX11_listGround_25 : decode cX11_listGround 25 = .ok (.if_icmp .ge 45, 3) := dz_162 (n := 0) (r := 25) hz_X11_listGround_0 rfl (by decide +kernel)
theorem dX11_listGround_28 : decode cX11_listGround 28 = .ok (.aload_n 0, 1) := dz_42 (n := 0) (r := 28) hz_X11_listGround_0 rfl
theorem dX11_listGround_29 : decode cX11_listGround 29 = .ok (.getfield 31, 3) := dz_180 (n := 0) (r := 29) hz_X11_listGround_0 rfl rfl
theorem hz_X11_listGround_32 : (cX11_listGround.data.toList.drop 32).take 40 = [21, 4, 182, 1, 39, 153, 0, 27, 42, 180, 0, 52, 21, 4, 182, 1, 42, 27, 160, 0, 14, 42, 180, 0, 91, 29, 21, 4, 79, 132, 3, 1, 132, 4, 1, 167, 255, 202, 29, 172] := by decide +kernel
theorem dX11_listGround_32 : decode cX11_listGround 32 = .ok (.iload 4, 2) := dz_21 (n := 32) (r := 0) hz_X11_listGround_32 rfl rfl
theorem dX11_listGround_34 : decode cX11_listGround 34 = .ok (.invokevirtual 295, 3) := dz_182 (n := 32) (r := 2) hz_X11_listGround_32 rfl rfl
theorem dX11_listGround_37 : decode cX11_listGround 37 = .ok (.ifCond .eq 27, 3) := dz_153 (n := 32) (r := 5) hz_X11_listGround_32 rfl (by decide +kernel)
theorem dX11_listGround_40 : decode cX11_listGround 40 = .ok (.aload_n 0, 1) := dz_42 (n := 32) (r := 8) hz_X11_listGround_32 rfl
theorem dX11_listGround_41 : decode cX11_listGround 41 = .ok (.getfield 52, 3) := dz_180 (n := 32) (r := 9) hz_X11_listGround_32 rfl rfl
theorem dX11_listGround_44 : decode cX11_listGround 44 = .ok (.iload 4, 2) := dz_21 (n := 32) (r := 12) hz_X11_listGround_32 rfl rfl
theorem dX11_listGround_46 : decode cX11_listGround 46 = .ok (.invokevirtual 298, 3) := dz_182 (n := 32) (r := 14) hz_X11_listGround_32 rfl rfl
theorem dX11_listGround_49 : decode cX11_listGround 49 = .ok (.iload_n 1, 1) := dz_27 (n := 32) (r := 17) hz_X11_listGround_32 rfl
theorem dX11_listGround_50 : decode cX11_listGround 50 = .ok (.if_icmp .ne 14, 3) := dz_160 (n := 32) (r := 18) hz_X11_listGround_32 rfl (by decide +kernel)
theorem dX11_listGround_53 : decode cX11_listGround 53 = .ok (.aload_n 0, 1) := dz_42 (n := 32) (r := 21) hz_X11_listGround_32 rfl
theorem dX11_listGround_54 : decode cX11_listGround 54 = .ok (.getfield 91, 3) := dz_180 (n := 32) (r := 22) hz_X11_listGround_32 rfl rfl
theorem dX11_listGround_57 : decode cX11_listGround 57 = .ok (.iload_n 3, 1) := dz_29 (n := 32) (r := 25) hz_X11_listGround_32 rfl
theorem dX11_listGround_58 : decode cX11_listGround 58 = .ok (.iload 4, 2) := dz_21 (n := 32) (r := 26) hz_X11_listGround_32 rfl rfl
theorem dX11_listGround_60 : decode cX11_listGround 60 = .ok (.iastore, 1) := dz_79 (n := 32) (r := 28) hz_X11_listGround_32 rfl
theorem dX11_listGround_61 : decode cX11_listGround 61 = .ok (.iinc 3 1, 3) := dz_132 (n := 32) (r := 29) hz_X11_listGround_32 rfl rfl rfl
theorem hz_X11_listGround_64 : (cX11_listGround.data.toList.drop 64).take 40 = [132, 4, 1, 167, 255, 202, 29, 172] := by decide +kernel
theorem dX11_listGround_64 : decode cX11_listGround 64 = .ok (.iinc 4 1, 3) := dz_132 (n := 64) (r := 0) hz_X11_listGround_64 rfl rfl rfl
theorem dX11_listGround_67 : decode cX11_listGround 67 = .ok (.goto (-54), 3) := dz_167 (n := 64) (r := 3) hz_X11_listGround_64 rfl (by decide +kernel)
theorem dX11_listGround_70 : decode cX11_listGround 70 = .ok (.iload_n 3, 1) := dz_29 (n := 64) (r := 6) hz_X11_listGround_64 rfl
theorem dX11_listGround_71 : decode cX11_listGround 71 = .ok (.ireturn, 1) := dz_172 (n := 64) (r := 7) hz_X11_listGround_64 rfl
theorem hz_X11_stiff_0 : (cX11_stiff.data.toList.drop 0).take 40 = [42, 180, 0, 24, 27, 182, 0, 176, 153, 0, 19, 42, 180, 0, 24, 28, 182, 0, 176, 153, 0, 8, 27, 28, 160, 0, 6, 18, 226, 172, 42, 182, 1, 111, 87, 42, 180, 0, 24, 182] := by decide +kernel
theorem dX11_stiff_0 : decode cX11_stiff 0 = .ok (.aload_n 0, 1) := dz_42 (n := 0) (r := 0) hz_X11_stiff_0 rfl
theorem dX11_stiff_1 : decode cX11_stiff 1 = .ok (.getfield 24, 3) := dz_180 (n := 0) (r := 1) hz_X11_stiff_0 rfl rfl
theorem dX11_stiff_4 : decode cX11_stiff 4 = .ok (.iload_n 1, 1) := dz_27 (n := 0) (r := 4) hz_X11_stiff_0 rfl
theorem dX11_stiff_5 : decode cX11_stiff 5 = .ok (.invokevirtual 176, 3) := dz_182 (n := 0) (r := 5) hz_X11_stiff_0 rfl rfl
theorem dX11_stiff_8 : decode cX11_stiff 8 = .ok (.ifCond .eq 19, 3) := dz_153 (n := 0) (r := 8) hz_X11_stiff_0 rfl (by decide +kernel)
theorem dX11_stiff_11 : decode cX11_stiff 11 = .ok (.aload_n 0, 1) := dz_42 (n := 0) (r := 11) hz_X11_stiff_0 rfl
theorem dX11_stiff_12 : decode cX11_stiff 12 = .ok (.getfield 24, 3) := dz_180 (n := 0) (r := 12) hz_X11_stiff_0 rfl rfl
theorem dX11_stiff_15 : decode cX11_stiff 15 = .ok (.iload_n 2, 1) := dz_28 (n := 0) (r := 15) hz_X11_stiff_0 rfl
theorem dX11_stiff_16 : decode cX11_stiff 16 = .ok (.invokevirtual 176, 3) := dz_182 (n := 0) (r := 16) hz_X11_stiff_0 rfl rfl
theorem dX11_stiff_19 : decode cX11_stiff 19 = .ok (.ifCond .eq 8, 3) := dz_153 (n := 0) (r := 19) hz_X11_stiff_0 rfl (by decide +kernel)
theorem dX11_stiff_22 : decode cX11_stiff 22 = .ok (.iload_n 1, 1) := dz_27 (n := 0) (r := 22) hz_X11_stiff_0 rfl
theorem dX11_stiff_23 : decode cX11_stiff 23 = .ok (.iload_n 2, 1) := dz_28 (n := 0) (r := 23) hz_X11_stiff_0 rfl
theorem dX11_stiff_24 : decode cX11_stiff 24 = .ok (.if_icmp .ne 6, 3) := dz_160 (n := 0) (r := 24) hz_X11_stiff_0 rfl (by decide +kernel)
theorem dX11_stiff_27 : decode cX11_stiff 27 = .ok (.ldc 226, 2) := dz_18 (n := 0) (r := 27) hz_X11_stiff_0 rfl rfl
theorem dX11_stiff_29 : decode cX11_stiff 29 = .ok (.ireturn, 1) := dz_172 (n := 0) (r := 29) hz_X11_stiff_0 rfl
theorem dX11_stiff_30 : decode cX11_stiff 30 = .ok (.aload_n 0, 1) := dz_42 (n := 0) (r := 30) hz_X11_stiff_0 rfl
theorem dX11_stiff_31 : decode cX11_stiff 31 = .ok (.invokevirtual 367, 3) := dz_182 (n := 0) (r := 31) hz_X11_stiff_0 rfl rfl
theorem hz_X11_stiff_32 : (cX11_stiff.data.toList.drop 32).take 40 = [1, 111, 87, 42, 180, 0, 24, 182, 1, 35, 62, 17, 0, 145, 54, 4, 17, 0, 145, 54, 5, 3, 54, 6, 21, 6, 29, 162, 0, 71, 42, 180, 0, 31, 21, 6, 182, 1, 39, 153] := by decide +kernel
theorem dX11_stiff_34 : decode cX11_stiff 34 = .ok (.pop, 1) := dz_87 (n := 32) (r := 2) hz_X11_stiff_32 rfl
theorem dX11_stiff_35 : decode cX11_stiff 35 = .ok (.aload_n 0, 1) := dz_42 (n := 32) (r := 3) hz_X11_stiff_32 rfl
theorem dX11_stiff_36 : decode cX11_stiff 36 = .ok (.getfield 24, 3) := dz_180 (n := 32) (r := 4) hz_X11_stiff_32 rfl rfl
theorem dX11_stiff_39 : decode cX11_stiff 39 = .ok (.invokevirtual 291, 3) := dz_182 (n := 32) (r := 7) hz_X11_stiff_32 rfl rfl
theorem dX11_stiff_42 : decode cX11_stiff 42 = .ok (.istore_n 3, 1) := dz_62 (n := 32) (r := 10) hz_X11_stiff_32 rfl
theorem dX11_stiff_43 : decode cX11_stiff 43 = .ok (.sipush 145, 3) := dz_17 (n := 32) (r := 11) hz_X11_stiff_32 rfl (by decide +kernel)
theorem dX11_stiff_46 : decode cX11_stiff 46 = .ok (.istore 4, 2) := dz_54 (n := 32) (r := 14) hz_X11_stiff_32 rfl rfl
theorem dX11_stiff_48 : decode cX11_stiff 48 = .ok (.sipush 145, 3) := dz_17 (n := 32) (r := 16) hz_X11_stiff_32 rfl (by decide +kernel)
theorem dX11_stiff_51 : decode cX11_stiff 51 = .ok (.istore 5, 2) := dz_54 (n := 32) (r := 19) hz_X11_stiff_32 rfl rfl
theorem dX11_stiff_53 : decode cX11_stiff 53 = .ok (.iconst 0, 1) := dz_3 (n := 32) (r := 21) hz_X11_stiff_32 rfl
theorem dX11_stiff_54 : decode cX11_stiff 54 = .ok (.istore 6, 2) := dz_54 (n := 32) (r := 22) hz_X11_stiff_32 rfl rfl
theorem dX11_stiff_56 : decode cX11_stiff 56 = .ok (.iload 6, 2) := dz_21 (n := 32) (r := 24) hz_X11_stiff_32 rfl rfl
theorem dX11_stiff_58 : decode cX11_stiff 58 = .ok (.iload_n 3, 1) := dz_29 (n := 32) (r := 26) hz_X11_stiff_32 rfl
theorem dX11_stiff_59 : decode cX11_stiff 59 = .ok (.if_icmp .ge 71, 3) := dz_162 (n := 32) (r := 27) hz_X11_stiff_32 rfl (by decide +kernel)
theorem dX11_stiff_62 : decode cX11_stiff 62 = .ok (.aload_n 0, 1) := dz_42 (n := 32) (r := 30) hz_X11_stiff_32 rfl
theorem dX11_stiff_63 : decode cX11_stiff 63 = .ok (.getfield 31, 3) := dz_180 (n := 32) (r := 31) hz_X11_stiff_32 rfl rfl
theorem hz_X11_stiff_64 : (cX11_stiff.data.toList.drop 64).take 40 = [0, 31, 21, 6, 182, 1, 39, 153, 0, 53, 21, 6, 27, 184, 0, 236, 21, 6, 28, 184, 0, 236, 160, 0, 22, 21, 5, 42, 180, 0, 52, 21, 6, 182, 1, 42, 184, 1, 123, 54] := by decide +kernel
theorem dX11_stiff_66 : decode cX11_stiff 66 = .ok (.iload 6, 2) := dz_21 (n := 64) (r := 2) hz_X11_stiff_64 rfl rfl
theorem dX11_stiff_68 : decode cX11_stiff 68 = .ok (.invokevirtual 295, 3) := dz_182 (n := 64) (r := 4) hz_X11_stiff_64 rfl rfl
theorem dX11_stiff_71 : decode cX11_stiff 71 = .ok (.ifCond .eq 53, 3) := dz_153 (n := 64) (r := 7) hz_X11_stiff_64 rfl (by decide +kernel)
theorem dX11_stiff_74 : decode cX11_stiff 74 = .ok (.iload 6, 2) := dz_21 (n := 64) (r := 10) hz_X11_stiff_64 rfl rfl
theorem dX11_stiff_76 : decode cX11_stiff 76 = .ok (.iload_n 1, 1) := dz_27 (n := 64) (r := 12) hz_X11_stiff_64 rfl
theorem dX11_stiff_77 : decode cX11_stiff 77 = .ok (.invokestatic 236, 3) := dz_184 (n := 64) (r := 13) hz_X11_stiff_64 rfl rfl
theorem dX11_stiff_80 : decode cX11_stiff 80 = .ok (.iload 6, 2) := dz_21 (n := 64) (r := 16) hz_X11_stiff_64 rfl rfl
theorem dX11_stiff_82 : decode cX11_stiff 82 = .ok (.iload_n 2, 1) := dz_28 (n := 64) (r := 18) hz_X11_stiff_64 rfl
theorem dX11_stiff_83 : decode cX11_stiff 83 = .ok (.invokestatic 236, 3) := dz_184 (n := 64) (r := 19) hz_X11_stiff_64 rfl rfl
theorem dX11_stiff_86 : decode cX11_stiff 86 = .ok (.if_icmp .ne 22, 3) := dz_160 (n := 64) (r := 22) hz_X11_stiff_64 rfl (by decide +kernel)
theorem dX11_stiff_89 : decode cX11_stiff 89 = .ok (.iload 5, 2) := dz_21 (n := 64) (r := 25) hz_X11_stiff_64 rfl rfl
theorem dX11_stiff_91 : decode cX11_stiff 91 = .ok (.aload_n 0, 1) := dz_42 (n := 64) (r := 27) hz_X11_stiff_64 rfl
theorem dX11_stiff_92 : decode cX11_stiff 92 = .ok (.getfield 52, 3) := dz_180 (n := 64) (r := 28) hz_X11_stiff_64 rfl rfl
theorem dX11_stiff_95 : decode cX11_stiff 95 = .ok (.iload 6, 2) := dz_21 (n := 64) (r := 31) hz_X11_stiff_64 rfl rfl
theorem hz_X11_stiff_96 : (cX11_stiff.data.toList.drop 96).take 40 = [6, 182, 1, 42, 184, 1, 123, 54, 5, 167, 0, 19, 21, 4, 42, 180, 0, 52, 21, 6, 182, 1, 42, 184, 1, 123, 54, 4, 132, 6, 1, 167, 255, 185, 21, 5, 17, 0, 145, 159] := by decide +kernel
theorem dX11_stiff_97 : decode cX11_stiff 97 = .ok (.invokevirtual 298, 3) := dz_182 (n := 96) (r := 1) hz_X11_stiff_96 rfl rfl
theorem dX11_stiff_100 : decode cX11_stiff 100 = .ok (.invokestatic 379, 3) := dz_184 (n := 96) (r := 4) hz_X11_stiff_96 rfl rfl
theorem dX11_stiff_103 : decode cX11_stiff 103 = .ok (.istore 5, 2) := dz_54 (n := 96) (r := 7) hz_X11_stiff_96 rfl rfl
theorem dX11_stiff_105 : decode cX11_stiff 105 = .ok (.goto 19, 3) := dz_167 (n := 96) (r := 9) hz_X11_stiff_96 rfl (by decide +kernel)
theorem dX11_stiff_108 : decode cX11_stiff 108 = .ok (.iload 4, 2) := dz_21 (n := 96) (r := 12) hz_X11_stiff_96 rfl rfl
theorem dX11_stiff_110 : decode cX11_stiff 110 = .ok (.aload_n 0, 1) := dz_42 (n := 96) (r := 14) hz_X11_stiff_96 rfl
theorem dX11_stiff_111 : decode cX11_stiff 111 = .ok (.getfield 52, 3) := dz_180 (n := 96) (r := 15) hz_X11_stiff_96 rfl rfl
theorem dX11_stiff_114 : decode cX11_stiff 114 = .ok (.iload 6, 2) := dz_21 (n := 96) (r := 18) hz_X11_stiff_96 rfl rfl
theorem dX11_stiff_116 : decode cX11_stiff 116 = .ok (.invokevirtual 298, 3) := dz_182 (n := 96) (r := 20) hz_X11_stiff_96 rfl rfl
theorem dX11_stiff_119 : decode cX11_stiff 119 = .ok (.invokestatic 379, 3) := dz_184 (n := 96) (r := 23) hz_X11_stiff_96 rfl rfl
theorem dX11_stiff_122 : decode cX11_stiff 122 = .ok (.istore 4, 2) := dz_54 (n := 96) (r := 26) hz_X11_stiff_96 rfl rfl
theorem dX11_stiff_124 : decode cX11_stiff 124 = .ok (.iinc 6 1, 3) := dz_132 (n := 96) (r := 28) hz_X11_stiff_96 rfl rfl rfl
theorem dX11_stiff_127 : decode cX11_stiff 127 = .ok (.goto (-71), 3) := dz_167 (n := 96) (r := 31) hz_X11_stiff_96 rfl (by decide +kernel)
theorem hz_X11_stiff_128 : (cX11_stiff.data.toList.drop 128).take 40 = [255, 185, 21, 5, 17, 0, 145, 159, 0, 11, 21, 4, 17, 0, 145, 160, 0, 7, 4, 167, 0, 4, 3, 54, 6, 21, 6, 153, 0, 8, 18, 226, 167, 0, 8, 21, 4, 21, 5, 100] := by decide +kernel
theorem dX11_stiff_130 : decode cX11_stiff 130 = .ok (.iload 5, 2) := dz_21 (n := 128) (r := 2) hz_X11_stiff_128 rfl rfl
theorem dX11_stiff_132 : decode cX11_stiff 132 = .ok (.sipush 145, 3) := dz_17 (n := 128) (r := 4) hz_X11_stiff_128 rfl (by decide +kernel)
theorem dX11_stiff_135 : decode cX11_stiff 135 = .ok (.if_icmp .eq 11, 3) := dz_159 (n := 128) (r := 7) hz_X11_stiff_128 rfl (by decide +kernel)
theorem dX11_stiff_138 : decode cX11_stiff 138 = .ok (.iload 4, 2) := dz_21 (n := 128) (r := 10) hz_X11_stiff_128 rfl rfl
theorem dX11_stiff_140 : decode cX11_stiff 140 = .ok (.sipush 145, 3) := dz_17 (n := 128) (r := 12) hz_X11_stiff_128 rfl (by decide +kernel)
theorem dX11_stiff_143 : decode cX11_stiff 143 = .ok (.if_icmp .ne 7, 3) := dz_160 (n := 128) (r := 15) hz_X11_stiff_128 rfl (by decide +kernel)
theorem dX11_stiff_146 : decode cX11_stiff 146 = .ok (.iconst 1, 1) := dz_4 (n := 128) (r := 18) hz_X11_stiff_128 rfl
theorem dX11_stiff_147 : decode cX11_stiff 147 = .ok (.goto 4, 3) := dz_167 (n := 128) (r := 19) hz_X11_stiff_128 rfl (by decide +kernel)
theorem dX11_stiff_150 : decode cX11_stiff 150 = .ok (.iconst 0, 1) := dz_3 (n := 128) (r := 22) hz_X11_stiff_128 rfl
theorem dX11_stiff_151 : decode cX11_stiff 151 = .ok (.istore 6, 2) := dz_54 (n := 128) (r := 23) hz_X11_stiff_128 rfl rfl
theorem dX11_stiff_153 : decode cX11_stiff 153 = .ok (.iload 6, 2) := dz_21 (n := 128) (r := 25) hz_X11_stiff_128 rfl rfl
theorem dX11_stiff_155 : decode cX11_stiff 155 = .ok (.ifCond .eq 8, 3) := dz_153 (n := 128) (r := 27) hz_X11_stiff_128 rfl (by decide +kernel)
theorem dX11_stiff_158 : decode cX11_stiff 158 = .ok (.ldc 226, 2) := dz_18 (n := 128) (r := 30) hz_X11_stiff_128 rfl rfl
theorem hz_X11_stiff_160 : (cX11_stiff.data.toList.drop 160).take 40 = [167, 0, 8, 21, 4, 21, 5, 100, 172] := by decide +kernel
theorem dX11_stiff_160 : decode cX11_stiff 160 = .ok (.goto 8, 3) := dz_167 (n := 160) (r := 0) hz_X11_stiff_160 rfl (by decide +kernel)
theorem dX11_stiff_163 : decode cX11_stiff 163 = .ok (.iload 4, 2) := dz_21 (n := 160) (r := 3) hz_X11_stiff_160 rfl rfl
theorem dX11_stiff_165 : decode cX11_stiff 165 = .ok (.iload 5, 2) := dz_21 (n := 160) (r := 5) hz_X11_stiff_160 rfl rfl
theorem dX11_stiff_167 : decode cX11_stiff 167 = .ok (.isub, 1) := dz_100 (n := 160) (r := 7) hz_X11_stiff_160 rfl
theorem dX11_stiff_168 : decode cX11_stiff 168 = .ok (.ireturn, 1) := dz_172 (n := 160) (r := 8) hz_X11_stiff_160 rfl
theorem hz_X11_state_0 : (cX11_state.data.toList.drop 0).take 40 = [42, 27, 182, 1, 128, 154, 0, 6, 18, 226, 172, 28, 170, 0, 0, 0, 0, 0, 0, 156, 0, 0, 0, 0, 0, 0, 0, 5, 0, 0, 0, 40, 0, 0, 0, 53, 0, 0, 0, 66] := by decide +kernel
theorem dX11_state_0 : decode cX11_state 0 = .ok (.aload_n 0, 1) := dz_42 (n := 0) (r := 0) hz_X11_state_0 rfl
theorem dX11_state_1 : decode cX11_state 1 = .ok (.iload_n 1, 1) := dz_27 (n := 0) (r := 1) hz_X11_state_0 rfl
theorem dX11_state_2 : decode cX11_state 2 = .ok (.invokevirtual 384, 3) := dz_182 (n := 0) (r := 2) hz_X11_state_0 rfl rfl
theorem dX11_state_5 : decode cX11_state 5 = .ok (.ifCond .ne 6, 3) := dz_154 (n := 0) (r := 5) hz_X11_state_0 rfl (by decide +kernel)
theorem dX11_state_8 : decode cX11_state 8 = .ok (.ldc 226, 2) := dz_18 (n := 0) (r := 8) hz_X11_state_0 rfl rfl
theorem dX11_state_10 : decode cX11_state 10 = .ok (.ireturn, 1) := dz_172 (n := 0) (r := 10) hz_X11_state_0 rfl
theorem dX11_state_11 : decode cX11_state 11 = .ok (.iload_n 2, 1) := dz_28 (n := 0) (r := 11) hz_X11_state_0 rfl
theorem dX11_state_12 : decode cX11_state 12 = .ok (.tableswitch 156 0 5 #[40, 53, 66, 88, 112, 136], 40) := by decide +kernel
theorem hz_X11_state_32 : (cX11_state.data.toList.drop 32).take 40 = [0, 0, 0, 53, 0, 0, 0, 66, 0, 0, 0, 88, 0, 0, 0, 112, 0, 0, 0, 136, 42, 180, 0, 24, 42, 180, 0, 31, 27, 182, 1, 131, 172, 42, 180, 0, 24, 42, 180, 0] := by decide +kernel
theorem dX11_state_52 : decode cX11_state 52 = .ok (.aload_n 0, 1) := dz_42 (n := 32) (r := 20) hz_X11_state_32 rfl
theorem dX11_state_53 : decode cX11_state 53 = .ok (.getfield 24, 3) := dz_180 (n := 32) (r := 21) hz_X11_state_32 rfl rfl
theorem dX11_state_56 : decode cX11_state 56 = .ok (.aload_n 0, 1) := dz_42 (n := 32) (r := 24) hz_X11_state_32 rfl
theorem dX11_state_57 : decode cX11_state 57 = .ok (.getfield 31, 3) := dz_180 (n := 32) (r := 25) hz_X11_state_32 rfl rfl
theorem dX11_state_60 : decode cX11_state 60 = .ok (.iload_n 1, 1) := dz_27 (n := 32) (r := 28) hz_X11_state_32 rfl
theorem dX11_state_61 : decode cX11_state 61 = .ok (.invokevirtual 387, 3) := dz_182 (n := 32) (r := 29) hz_X11_state_32 rfl rfl
theorem hz_X11_state_64 : (cX11_state.data.toList.drop 64).take 40 = [172, 42, 180, 0, 24, 42, 180, 0, 31, 27, 182, 1, 133, 172, 42, 180, 0, 24, 42, 180, 0, 31, 27, 182, 1, 136, 2, 160, 0, 7, 4, 167, 0, 4, 3, 172, 42, 180, 0, 83] := by decide +kernel
theorem dX11_state_64 : decode cX11_state 64 = .ok (.ireturn, 1) := dz_172 (n := 64) (r := 0) hz_X11_state_64 rfl
theorem dX11_state_65 : decode cX11_state 65 = .ok (.aload_n 0, 1) := dz_42 (n := 64) (r := 1) hz_X11_state_64 rfl
theorem dX11_state_66 : decode cX11_state 66 = .ok (.getfield 24, 3) := dz_180 (n := 64) (r := 2) hz_X11_state_64 rfl rfl
theorem dX11_state_69 : decode cX11_state 69 = .ok (.aload_n 0, 1) := dz_42 (n := 64) (r := 5) hz_X11_state_64 rfl
theorem dX11_state_70 : decode cX11_state 70 = .ok (.getfield 31, 3) := dz_180 (n := 64) (r := 6) hz_X11_state_64 rfl rfl
theorem dX11_state_73 : decode cX11_state 73 = .ok (.iload_n 1, 1) := dz_27 (n := 64) (r := 9) hz_X11_state_64 rfl
theorem dX11_state_74 : decode cX11_state 74 = .ok (.invokevirtual 389, 3) := dz_182 (n := 64) (r := 10) hz_X11_state_64 rfl rfl
theorem dX11_state_77 : decode cX11_state 77 = .ok (.ireturn, 1) := dz_172 (n := 64) (r := 13) hz_X11_state_64 rfl
theorem dX11_state_78 : decode cX11_state 78 = .ok (.aload_n 0, 1) := dz_42 (n := 64) (r := 14) hz_X11_state_64 rfl
theorem dX11_state_79 : decode cX11_state 79 = .ok (.getfield 24, 3) := dz_180 (n := 64) (r := 15) hz_X11_state_64 rfl rfl
theorem dX11_state_82 : decode cX11_state 82 = .ok (.aload_n 0, 1) := dz_42 (n := 64) (r := 18) hz_X11_state_64 rfl
theorem dX11_state_83 : decode cX11_state 83 = .ok (.getfield 31, 3) := dz_180 (n := 64) (r := 19) hz_X11_state_64 rfl rfl
theorem dX11_state_86 : decode cX11_state 86 = .ok (.iload_n 1, 1) := dz_27 (n := 64) (r := 22) hz_X11_state_64 rfl
theorem dX11_state_87 : decode cX11_state 87 = .ok (.invokevirtual 392, 3) := dz_182 (n := 64) (r := 23) hz_X11_state_64 rfl rfl
theorem dX11_state_90 : decode cX11_state 90 = .ok (.iconst (-1), 1) := dz_2 (n := 64) (r := 26) hz_X11_state_64 rfl
theorem dX11_state_91 : decode cX11_state 91 = .ok (.if_icmp .ne 7, 3) := dz_160 (n := 64) (r := 27) hz_X11_state_64 rfl (by decide +kernel)
theorem dX11_state_94 : decode cX11_state 94 = .ok (.iconst 1, 1) := dz_4 (n := 64) (r := 30) hz_X11_state_64 rfl
theorem dX11_state_95 : decode cX11_state 95 = .ok (.goto 4, 3) := dz_167 (n := 64) (r := 31) hz_X11_state_64 rfl (by decide +kernel)
theorem hz_X11_state_96 : (cX11_state.data.toList.drop 96).take 40 = [0, 4, 3, 172, 42, 180, 0, 83, 42, 180, 0, 24, 42, 180, 0, 31, 27, 182, 0, 214, 42, 180, 0, 83, 180, 0, 221, 172, 42, 180, 0, 83, 42, 180, 0, 24, 42, 180, 0, 31] := by decide +kernel
theorem dX11_state_98 : decode cX11_state 98 = .ok (.iconst 0, 1) := dz_3 (n := 96) (r := 2) hz_X11_state_96 rfl
theorem dX11_state_99 : decode cX11_state 99 = .ok (.ireturn, 1) := dz_172 (n := 96) (r := 3) hz_X11_state_96 rfl
theorem dX11_state_100 : decode cX11_state 100 = .ok (.aload_n 0, 1) := dz_42 (n := 96) (r := 4) hz_X11_state_96 rfl
theorem dX11_state_101 : decode cX11_state 101 = .ok (.getfield 83, 3) := dz_180 (n := 96) (r := 5) hz_X11_state_96 rfl rfl
theorem dX11_state_104 : decode cX11_state 104 = .ok (.aload_n 0, 1) := dz_42 (n := 96) (r := 8) hz_X11_state_96 rfl
theorem dX11_state_105 : decode cX11_state 105 = .ok (.getfield 24, 3) := dz_180 (n := 96) (r := 9) hz_X11_state_96 rfl rfl
theorem dX11_state_108 : decode cX11_state 108 = .ok (.aload_n 0, 1) := dz_42 (n := 96) (r := 12) hz_X11_state_96 rfl
theorem dX11_state_109 : decode cX11_state 109 = .ok (.getfield 31, 3) := dz_180 (n := 96) (r := 13) hz_X11_state_96 rfl rfl
theorem dX11_state_112 : decode cX11_state 112 = .ok (.iload_n 1, 1) := dz_27 (n := 96) (r := 16) hz_X11_state_96 rfl
theorem dX11_state_113 : decode cX11_state 113 = .ok (.invokevirtual 214, 3) := dz_182 (n := 96) (r := 17) hz_X11_state_96 rfl rfl
theorem dX11_state_116 : decode cX11_state 116 = .ok (.aload_n 0, 1) := dz_42 (n := 96) (r := 20) hz_X11_state_96 rfl
theorem dX11_state_117 : decode cX11_state 117 = .ok (.getfield 83, 3) := dz_180 (n := 96) (r := 21) hz_X11_state_96 rfl rfl
theorem dX11_state_120 : decode cX11_state 120 = .ok (.getfield 221, 3) := dz_180 (n := 96) (r := 24) hz_X11_state_96 rfl rfl
theorem dX11_state_123 : decode cX11_state 123 = .ok (.ireturn, 1) := dz_172 (n := 96) (r := 27) hz_X11_state_96 rfl
theorem dX11_state_124 : decode cX11_state 124 = .ok (.aload_n 0, 1) := dz_42 (n := 96) (r := 28) hz_X11_state_96 rfl
theorem dX11_state_125 : decode cX11_state 125 = .ok (.getfield 83, 3) := dz_180 (n := 96) (r := 29) hz_X11_state_96 rfl rfl
theorem hz_X11_state_128 : (cX11_state.data.toList.drop 128).take 40 = [42, 180, 0, 24, 42, 180, 0, 31, 27, 182, 0, 214, 42, 180, 0, 83, 180, 0, 218, 172, 42, 182, 0, 251, 42, 180, 0, 24, 42, 180, 0, 31, 27, 182, 1, 131, 182, 1, 139, 172] := by decide +kernel
theorem dX11_state_128 : decode cX11_state 128 = .ok (.aload_n 0, 1) := dz_42 (n := 128) (r := 0) hz_X11_state_128 rfl
theorem dX11_state_129 : decode cX11_state 129 = .ok (.getfield 24, 3) := dz_180 (n := 128) (r := 1) hz_X11_state_128 rfl rfl
theorem dX11_state_132 : decode cX11_state 132 = .ok (.aload_n 0, 1) := dz_42 (n := 128) (r := 4) hz_X11_state_128 rfl
theorem dX11_state_133 : decode cX11_state 133 = .ok (.getfield 31, 3) := dz_180 (n := 128) (r := 5) hz_X11_state_128 rfl rfl
theorem dX11_state_136 : decode cX11_state 136 = .ok (.iload_n 1, 1) := dz_27 (n := 128) (r := 8) hz_X11_state_128 rfl
theorem dX11_state_137 : decode cX11_state 137 = .ok (.invokevirtual 214, 3) := dz_182 (n := 128) (r := 9) hz_X11_state_128 rfl rfl
theorem dX11_state_140 : decode cX11_state 140 = .ok (.aload_n 0, 1) := dz_42 (n := 128) (r := 12) hz_X11_state_128 rfl
theorem dX11_state_141 : decode cX11_state 141 = .ok (.getfield 83, 3) := dz_180 (n := 128) (r := 13) hz_X11_state_128 rfl rfl
theorem dX11_state_144 : decode cX11_state 144 = .ok (.getfield 218, 3) := dz_180 (n := 128) (r := 16) hz_X11_state_128 rfl rfl
theorem dX11_state_147 : decode cX11_state 147 = .ok (.ireturn, 1) := dz_172 (n := 128) (r := 19) hz_X11_state_128 rfl
theorem dX11_state_148 : decode cX11_state 148 = .ok (.aload_n 0, 1) := dz_42 (n := 128) (r := 20) hz_X11_state_128 rfl
theorem dX11_state_149 : decode cX11_state 149 = .ok (.invokevirtual 251, 3) := dz_182 (n := 128) (r := 21) hz_X11_state_128 rfl rfl
theorem dX11_state_152 : decode cX11_state 152 = .ok (.aload_n 0, 1) := dz_42 (n := 128) (r := 24) hz_X11_state_128 rfl
theorem dX11_state_153 : decode cX11_state 153 = .ok (.getfield 24, 3) := dz_180 (n := 128) (r := 25) hz_X11_state_128 rfl rfl
theorem dX11_state_156 : decode cX11_state 156 = .ok (.aload_n 0, 1) := dz_42 (n := 128) (r := 28) hz_X11_state_128 rfl
theorem dX11_state_157 : decode cX11_state 157 = .ok (.getfield 31, 3) := dz_180 (n := 128) (r := 29) hz_X11_state_128 rfl rfl
theorem hz_X11_state_160 : (cX11_state.data.toList.drop 160).take 40 = [27, 182, 1, 131, 182, 1, 139, 172, 18, 226, 172] := by decide +kernel
theorem dX11_state_160 : decode cX11_state 160 = .ok (.iload_n 1, 1) := dz_27 (n := 160) (r := 0) hz_X11_state_160 rfl
theorem dX11_state_161 : decode cX11_state 161 = .ok (.invokevirtual 387, 3) := dz_182 (n := 160) (r := 1) hz_X11_state_160 rfl rfl
theorem dX11_state_164 : decode cX11_state 164 = .ok (.invokevirtual 395, 3) := dz_182 (n := 160) (r := 4) hz_X11_state_160 rfl rfl
theorem dX11_state_167 : decode cX11_state 167 = .ok (.ireturn, 1) := dz_172 (n := 160) (r := 7) hz_X11_state_160 rfl
theorem dX11_state_168 : decode cX11_state 168 = .ok (.ldc 226, 2) := dz_18 (n := 160) (r := 8) hz_X11_state_160 rfl rfl
theorem dX11_state_170 : decode cX11_state 170 = .ok (.ireturn, 1) := dz_172 (n := 160) (r := 10) hz_X11_state_160 rfl
theorem hz_X11_nearest_0 : (cX11_nearest.data.toList.drop 0).take 40 = [42, 27, 182, 1, 128, 153, 0, 12, 28, 155, 0, 8, 28, 4, 164, 0, 6, 18, 226, 172, 42, 27, 182, 1, 142, 62, 28, 154, 0, 7, 29, 167, 0, 9, 29, 27, 130, 184, 1, 118] := by decide +kernel
theorem dX11_nearest_0 : decode cX11_nearest 0 = .ok (.aload_n 0, 1) := dz_42 (n := 0) (r := 0) hz_X11_nearest_0 rfl
theorem dX11_nearest_1 : decode cX11_nearest 1 = .ok (.iload_n 1, 1) := dz_27 (n := 0) (r := 1) hz_X11_nearest_0 rfl
theorem dX11_nearest_2 : decode cX11_nearest 2 = .ok (.invokevirtual 384, 3) := dz_182 (n := 0) (r := 2) hz_X11_nearest_0 rfl rfl
theorem dX11_nearest_5 : decode cX11_nearest 5 = .ok (.ifCond .eq 12, 3) := dz_153 (n := 0) (r := 5) hz_X11_nearest_0 rfl (by decide +kernel)
theorem dX11_nearest_8 : decode cX11_nearest 8 = .ok (.iload_n 2, 1) := dz_28 (n := 0) (r := 8) hz_X11_nearest_0 rfl
theorem dX11_nearest_9 : decode cX11_nearest 9 = .ok (.ifCond .lt 8, 3) := dz_155 (n := 0) (r := 9) hz_X11_nearest_0 rfl (by decide +kernel)
theorem dX11_nearest_12 : decode cX11_nearest 12 = .ok (.iload_n 2, 1) := dz_28 (n := 0) (r := 12) hz_X11_nearest_0 rfl
theorem dX11_nearest_13 : decode cX11_nearest 13 = .ok (.iconst 1, 1) := dz_4 (n := 0) (r := 13) hz_X11_nearest_0 rfl
theorem dX11_nearest_14 : decode cX11_nearest 14 = .ok (.if_icmp .le 6, 3) := dz_164 (n := 0) (r := 14) hz_X11_nearest_0 rfl (by decide +kernel)
theorem dX11_nearest_17 : decode cX11_nearest 17 = .ok (.ldc 226, 2) := dz_18 (n := 0) (r := 17) hz_X11_nearest_0 rfl rfl
theorem dX11_nearest_19 : decode cX11_nearest 19 = .ok (.ireturn, 1) := dz_172 (n := 0) (r := 19) hz_X11_nearest_0 rfl
theorem dX11_nearest_20 : decode cX11_nearest 20 = .ok (.aload_n 0, 1) := dz_42 (n := 0) (r := 20) hz_X11_nearest_0 rfl
theorem dX11_nearest_21 : decode cX11_nearest 21 = .ok (.iload_n 1, 1) := dz_27 (n := 0) (r := 21) hz_X11_nearest_0 rfl
theorem dX11_nearest_22 : decode cX11_nearest 22 = .ok (.invokevirtual 398, 3) := dz_182 (n := 0) (r := 22) hz_X11_nearest_0 rfl rfl
theorem dX11_nearest_25 : decode cX11_nearest 25 = .ok (.istore_n 3, 1) := dz_62 (n := 0) (r := 25) hz_X11_nearest_0 rfl
theorem dX11_nearest_26 : decode cX11_nearest 26 = .ok (.iload_n 2, 1) := dz_28 (n := 0) (r := 26) hz_X11_nearest_0 rfl
theorem dX11_nearest_27 : decode cX11_nearest 27 = .ok (.ifCond .ne 7, 3) := dz_154 (n := 0) (r := 27) hz_X11_nearest_0 rfl (by decide +kernel)
theorem dX11_nearest_30 : decode cX11_nearest 30 = .ok (.iload_n 3, 1) := dz_29 (n := 0) (r := 30) hz_X11_nearest_0 rfl
theorem dX11_nearest_31 : decode cX11_nearest 31 = .ok (.goto 9, 3) := dz_167 (n := 0) (r := 31) hz_X11_nearest_0 rfl (by decide +kernel)
theorem hz_X11_nearest_32 : (cX11_nearest.data.toList.drop 32).take 40 = [0, 9, 29, 27, 130, 184, 1, 118, 172] := by decide +kernel
theorem dX11_nearest_34 : decode cX11_nearest 34 = .ok (.iload_n 3, 1) := dz_29 (n := 32) (r := 2) hz_X11_nearest_32 rfl
theorem dX11_nearest_35 : decode cX11_nearest 35 = .ok (.iload_n 1, 1) := dz_27 (n := 32) (r := 3) hz_X11_nearest_32 rfl
theorem dX11_nearest_36 : decode cX11_nearest 36 = .ok (.ixor, 1) := dz_130 (n := 32) (r := 4) hz_X11_nearest_32 rfl
theorem dX11_nearest_37 : decode cX11_nearest 37 = .ok (.invokestatic 374, 3) := dz_184 (n := 32) (r := 5) hz_X11_nearest_32 rfl rfl
theorem dX11_nearest_40 : decode cX11_nearest 40 = .ok (.ireturn, 1) := dz_172 (n := 32) (r := 8) hz_X11_nearest_32 rfl
theorem hz_X11_nearestGround_0 : (cX11_nearestGround.data.toList.drop 0).take 40 = [42, 182, 0, 251, 77, 44, 3, 182, 1, 5, 62, 42, 180, 0, 24, 182, 1, 35, 54, 4, 44, 29, 182, 1, 11, 54, 5, 3, 54, 6, 21, 6, 21, 4, 162, 0, 55, 42, 180, 0] := by decide +kernel
theorem dX11_nearestGround_0 : decode cX11_nearestGround 0 = .ok (.aload_n 0, 1) := dz_42 (n := 0) (r := 0) hz_X11_nearestGround_0 rfl
theorem dX11_nearestGround_1 : decode cX11_nearestGround 1 = .ok (.invokevirtual 251, 3) := dz_182 (n := 0) (r := 1) hz_X11_nearestGround_0 rfl rfl
theorem dX11_nearestGround_4 : decode cX11_nearestGround 4 = .ok (.astore_n 2, 1) := dz_77 (n := 0) (r := 4) hz_X11_nearestGround_0 rfl
theorem dX11_nearestGround_5 : decode cX11_nearestGround 5 = .ok (.aload_n 2, 1) := dz_44 (n := 0) (r := 5) hz_X11_nearestGround_0 rfl
theorem dX11_nearestGround_6 : decode cX11_nearestGround 6 = .ok (.iconst 0, 1) := dz_3 (n := 0) (r := 6) hz_X11_nearestGround_0 rfl
theorem dX11_nearestGround_7 : decode cX11_nearestGround 7 = .ok (.invokevirtual 261, 3) := dz_182 (n := 0) (r := 7) hz_X11_nearestGround_0 rfl rfl
theorem dX11_nearestGround_10 : decode cX11_nearestGround 10 = .ok (.istore_n 3, 1) := dz_62 (n := 0) (r := 10) hz_X11_nearestGround_0 rfl
theorem dX11_nearestGround_11 : decode cX11_nearestGround 11 = .ok (.aload_n 0, 1) := dz_42 (n := 0) (r := 11) hz_X11_nearestGround_0 rfl
theorem dX11_nearestGround_12 : decode cX11_nearestGround 12 = .ok (.getfield 24, 3) := dz_180 (n := 0) (r := 12) hz_X11_nearestGround_0 rfl rfl
theorem dX11_nearestGround_15 : decode cX11_nearestGround 15 = .ok (.invokevirtual 291, 3) := dz_182 (n := 0) (r := 15) hz_X11_nearestGround_0 rfl rfl
theorem dX11_nearestGround_18 : decode cX11_nearestGround 18 = .ok (.istore 4, 2) := dz_54 (n := 0) (r := 18) hz_X11_nearestGround_0 rfl rfl
theorem dX11_nearestGround_20 : decode cX11_nearestGround 20 = .ok (.aload_n 2, 1) := dz_44 (n := 0) (r := 20) hz_X11_nearestGround_0 rfl
theorem dX11_nearestGround_21 : decode cX11_nearestGround 21 = .ok (.iload_n 3, 1) := dz_29 (n := 0) (r := 21) hz_X11_nearestGround_0 rfl
theorem dX11_nearestGround_22 : decode cX11_nearestGround 22 = .ok (.invokevirtual 267, 3) := dz_182 (n := 0) (r := 22) hz_X11_nearestGround_0 rfl rfl
theorem dX11_nearestGround_25 : decode cX11_nearestGround 25 = .ok (.istore 5, 2) := dz_54 (n := 0) (r := 25) hz_X11_nearestGround_0 rfl rfl
theorem dX11_nearestGround_27 : decode cX11_nearestGround 27 = .ok (.iconst 0, 1) := dz_3 (n := 0) (r := 27) hz_X11_nearestGround_0 rfl
theorem dX11_nearestGround_28 : decode cX11_nearestGround 28 = .ok (.istore 6, 2) := dz_54 (n := 0) (r := 28) hz_X11_nearestGround_0 rfl rfl
theorem dX11_nearestGround_30 : decode cX11_nearestGround 30 = .ok (.iload 6, 2) := dz_21 (n := 0) (r := 30) hz_X11_nearestGround_0 rfl rfl
theorem hz_X11_nearestGround_32 : (cX11_nearestGround.data.toList.drop 32).take 40 = [21, 4, 162, 0, 55, 42, 180, 0, 31, 21, 6, 182, 1, 39, 153, 0, 37, 42, 180, 0, 52, 21, 6, 182, 1, 42, 29, 160, 0, 24, 21, 6, 27, 130, 184, 1, 118, 21, 5, 27] := by decide +kernel
theorem dX11_nearestGround_32 : decode cX11_nearestGround 32 = .ok (.iload 4, 2) := dz_21 (n := 32) (r := 0) hz_X11_nearestGround_32 rfl rfl
theorem dX11_nearestGround_34 : decode cX11_nearestGround 34 = .ok (.if_icmp .ge 55, 3) := dz_162 (n := 32) (r := 2) hz_X11_nearestGround_32 rfl (by decide +kernel)
theorem dX11_nearestGround_37 : decode cX11_nearestGround 37 = .ok (.aload_n 0, 1) := dz_42 (n := 32) (r := 5) hz_X11_nearestGround_32 rfl
theorem dX11_nearestGround_38 : decode cX11_nearestGround 38 = .ok (.getfield 31, 3) := dz_180 (n := 32) (r := 6) hz_X11_nearestGround_32 rfl rfl
theorem dX11_nearestGround_41 : decode cX11_nearestGround 41 = .ok (.iload 6, 2) := dz_21 (n := 32) (r := 9) hz_X11_nearestGround_32 rfl rfl
theorem dX11_nearestGround_43 : decode cX11_nearestGround 43 = .ok (.invokevirtual 295, 3) := dz_182 (n := 32) (r := 11) hz_X11_nearestGround_32 rfl rfl
theorem dX11_nearestGround_46 : decode cX11_nearestGround 46 = .ok (.ifCond .eq 37, 3) := dz_153 (n := 32) (r := 14) hz_X11_nearestGround_32 rfl (by decide +kernel)
theorem dX11_nearestGround_49 : decode cX11_nearestGround 49 = .ok (.aload_n 0, 1) := dz_42 (n := 32) (r := 17) hz_X11_nearestGround_32 rfl
theorem dX11_nearestGround_50 : decode cX11_nearestGround 50 = .ok (.getfield 52, 3) := dz_180 (n := 32) (r := 18) hz_X11_nearestGround_32 rfl rfl
theorem dX11_nearestGround_53 : decode cX11_nearestGround 53 = .ok (.iload 6, 2) := dz_21 (n := 32) (r := 21) hz_X11_nearestGround_32 rfl rfl
theorem dX11_nearestGround_55 : decode cX11_nearestGround 55 = .ok (.invokevirtual 298, 3) := dz_182 (n := 32) (r := 23) hz_X11_nearestGround_32 rfl rfl
theorem dX11_nearestGround_58 : decode cX11_nearestGround 58 = .ok (.iload_n 3, 1) := dz_29 (n := 32) (r := 26) hz_X11_nearestGround_32 rfl
theorem dX11_nearestGround_59 : decode cX11_nearestGround 59 = .ok (.if_icmp .ne 24, 3) := dz_160 (n := 32) (r := 27) hz_X11_nearestGround_32 rfl (by decide +kernel)
theorem dX11_nearestGround_62 : decode cX11_nearestGround 62 = .ok (.iload 6, 2) := dz_21 (n := 32) (r := 30) hz_X11_nearestGround_32 rfl rfl
theorem hz_X11_nearestGround_64 : (cX11_nearestGround.data.toList.drop 64).take 40 = [27, 130, 184, 1, 118, 21, 5, 27, 130, 184, 1, 118, 162, 0, 7, 21, 6, 54, 5, 132, 6, 1, 167, 255, 200, 21, 5, 172] := by decide +kernel
theorem dX11_nearestGround_64 : decode cX11_nearestGround 64 = .ok (.iload_n 1, 1) := dz_27 (n := 64) (r := 0) hz_X11_nearestGround_64 rfl
theorem dX11_nearestGround_65 : decode cX11_nearestGround 65 = .ok (.ixor, 1) := dz_130 (n := 64) (r := 1) hz_X11_nearestGround_64 rfl
theorem dX11_nearestGround_66 : decode cX11_nearestGround 66 = .ok (.invokestatic 374, 3) := dz_184 (n := 64) (r := 2) hz_X11_nearestGround_64 rfl rfl
theorem dX11_nearestGround_69 : decode cX11_nearestGround 69 = .ok (.iload 5, 2) := dz_21 (n := 64) (r := 5) hz_X11_nearestGround_64 rfl rfl
theorem dX11_nearestGround_71 : decode cX11_nearestGround 71 = .ok (.iload_n 1, 1) := dz_27 (n := 64) (r := 7) hz_X11_nearestGround_64 rfl
theorem dX11_nearestGround_72 : decode cX11_nearestGround 72 = .ok (.ixor, 1) := dz_130 (n := 64) (r := 8) hz_X11_nearestGround_64 rfl
theorem dX11_nearestGround_73 : decode cX11_nearestGround 73 = .ok (.invokestatic 374, 3) := dz_184 (n := 64) (r := 9) hz_X11_nearestGround_64 rfl rfl
theorem dX11_nearestGround_76 : decode cX11_nearestGround 76 = .ok (.if_icmp .ge 7, 3) := dz_162 (n := 64) (r := 12) hz_X11_nearestGround_64 rfl (by decide +kernel)
theorem dX11_nearestGround_79 : decode cX11_nearestGround 79 = .ok (.iload 6, 2) := dz_21 (n := 64) (r := 15) hz_X11_nearestGround_64 rfl rfl
theorem dX11_nearestGround_81 : decode cX11_nearestGround 81 = .ok (.istore 5, 2) := dz_54 (n := 64) (r := 17) hz_X11_nearestGround_64 rfl rfl
theorem dX11_nearestGround_83 : decode cX11_nearestGround 83 = .ok (.iinc 6 1, 3) := dz_132 (n := 64) (r := 19) hz_X11_nearestGround_64 rfl rfl rfl
theorem dX11_nearestGround_86 : decode cX11_nearestGround 86 = .ok (.goto (-56), 3) := dz_167 (n := 64) (r := 22) hz_X11_nearestGround_64 rfl (by decide +kernel)
theorem dX11_nearestGround_89 : decode cX11_nearestGround 89 = .ok (.iload 5, 2) := dz_21 (n := 64) (r := 25) hz_X11_nearestGround_64 rfl rfl
theorem dX11_nearestGround_91 : decode cX11_nearestGround 91 = .ok (.ireturn, 1) := dz_172 (n := 64) (r := 27) hz_X11_nearestGround_64 rfl
theorem hz_X11_wander_0 : (cX11_wander.data.toList.drop 0).take 40 = [27, 155, 0, 30, 27, 17, 0, 200, 163, 0, 23, 28, 155, 0, 19, 28, 16, 100, 163, 0, 13, 42, 180, 0, 24, 180, 0, 197, 154, 0, 6, 18, 226, 172, 42, 180, 0, 83, 42, 180] := by decide +kernel
theorem dX11_wander_0 : decode cX11_wander 0 = .ok (.iload_n 1, 1) := dz_27 (n := 0) (r := 0) hz_X11_wander_0 rfl
theorem dX11_wander_1 : decode cX11_wander 1 = .ok (.ifCond .lt 30, 3) := dz_155 (n := 0) (r := 1) hz_X11_wander_0 rfl (by decide +kernel)
theorem dX11_wander_4 : decode cX11_wander 4 = .ok (.iload_n 1, 1) := dz_27 (n := 0) (r := 4) hz_X11_wander_0 rfl
theorem dX11_wander_5 : decode cX11_wander 5 = .ok (.sipush 200, 3) := dz_17 (n := 0) (r := 5) hz_X11_wander_0 rfl (by decide +kernel)
theorem dX11_wander_8 : decode cX11_wander 8 = .ok (.if_icmp .gt 23, 3) := dz_163 (n := 0) (r := 8) hz_X11_wander_0 rfl (by decide +kernel)
theorem dX11_wander_11 : decode cX11_wander 11 = .ok (.iload_n 2, 1) := dz_28 (n := 0) (r := 11) hz_X11_wander_0 rfl
theorem dX11_wander_12 : decode cX11_wander 12 = .ok (.ifCond .lt 19, 3) := dz_155 (n := 0) (r := 12) hz_X11_wander_0 rfl (by decide +kernel)
theorem dX11_wander_15 : decode cX11_wander 15 = .ok (.iload_n 2, 1) := dz_28 (n := 0) (r := 15) hz_X11_wander_0 rfl
theorem dX11_wander_16 : decode cX11_wander 16 = .ok (.bipush 100, 2) := dz_16 (n := 0) (r := 16) hz_X11_wander_0 rfl rfl
theorem dX11_wander_18 : decode cX11_wander 18 = .ok (.if_icmp .gt 13, 3) := dz_163 (n := 0) (r := 18) hz_X11_wander_0 rfl (by decide +kernel)
theorem dX11_wander_21 : decode cX11_wander 21 = .ok (.aload_n 0, 1) := dz_42 (n := 0) (r := 21) hz_X11_wander_0 rfl
theorem dX11_wander_22 : decode cX11_wander 22 = .ok (.getfield 24, 3) := dz_180 (n := 0) (r := 22) hz_X11_wander_0 rfl rfl
theorem dX11_wander_25 : decode cX11_wander 25 = .ok (.getfield 197, 3) := dz_180 (n := 0) (r := 25) hz_X11_wander_0 rfl rfl
theorem dX11_wander_28 : decode cX11_wander 28 = .ok (.ifCond .ne 6, 3) := dz_154 (n := 0) (r := 28) hz_X11_wander_0 rfl (by decide +kernel)
theorem dX11_wander_31 : decode cX11_wander 31 = .ok (.ldc 226, 2) := dz_18 (n := 0) (r := 31) hz_X11_wander_0 rfl rfl
theorem hz_X11_wander_32 : (cX11_wander.data.toList.drop 32).take 40 = [226, 172, 42, 180, 0, 83, 42, 180, 0, 24, 42, 180, 0, 31, 27, 28, 182, 1, 145, 29, 170, 0, 0, 0, 0, 0, 0, 52, 0, 0, 0, 0, 0, 0, 0, 2, 0, 0, 0, 28] := by decide +kernel
theorem dX11_wander_33 : decode cX11_wander 33 = .ok (.ireturn, 1) := dz_172 (n := 32) (r := 1) hz_X11_wander_32 rfl
theorem dX11_wander_34 : decode cX11_wander 34 = .ok (.aload_n 0, 1) := dz_42 (n := 32) (r := 2) hz_X11_wander_32 rfl
theorem dX11_wander_35 : decode cX11_wander 35 = .ok (.getfield 83, 3) := dz_180 (n := 32) (r := 3) hz_X11_wander_32 rfl rfl
theorem dX11_wander_38 : decode cX11_wander 38 = .ok (.aload_n 0, 1) := dz_42 (n := 32) (r := 6) hz_X11_wander_32 rfl
theorem dX11_wander_39 : decode cX11_wander 39 = .ok (.getfield 24, 3) := dz_180 (n := 32) (r := 7) hz_X11_wander_32 rfl rfl
theorem dX11_wander_42 : decode cX11_wander 42 = .ok (.aload_n 0, 1) := dz_42 (n := 32) (r := 10) hz_X11_wander_32 rfl
theorem dX11_wander_43 : decode cX11_wander 43 = .ok (.getfield 31, 3) := dz_180 (n := 32) (r := 11) hz_X11_wander_32 rfl rfl
theorem dX11_wander_46 : decode cX11_wander 46 = .ok (.iload_n 1, 1) := dz_27 (n := 32) (r := 14) hz_X11_wander_32 rfl
theorem dX11_wander_47 : decode cX11_wander 47 = .ok (.iload_n 2, 1) := dz_28 (n := 32) (r := 15) hz_X11_wander_32 rfl
theorem dX11_wander_48 : decode cX11_wander 48 = .ok (.invokevirtual 401, 3) := dz_182 (n := 32) (r := 16) hz_X11_wander_32 rfl rfl
theorem dX11_wander_51 : decode cX11_wander 51 = .ok (.iload_n 3, 1) := dz_29 (n := 32) (r := 19) hz_X11_wander_32 rfl
theorem dX11_wander_52 : decode cX11_wander 52 = .ok (.tableswitch 52 0 2 #[28, 36, 44], 28) := by decide +kernel
theorem hz_X11_wander_64 : (cX11_wander.data.toList.drop 64).take 40 = [0, 0, 0, 2, 0, 0, 0, 28, 0, 0, 0, 36, 0, 0, 0, 44, 42, 180, 0, 83, 180, 0, 221, 172, 42, 180, 0, 83, 180, 1, 149, 172, 42, 180, 0, 83, 180, 0, 218, 172] := by decide +kernel
theorem dX11_wander_80 : decode cX11_wander 80 = .ok (.aload_n 0, 1) := dz_42 (n := 64) (r := 16) hz_X11_wander_64 rfl
theorem dX11_wander_81 : decode cX11_wander 81 = .ok (.getfield 83, 3) := dz_180 (n := 64) (r := 17) hz_X11_wander_64 rfl rfl
theorem dX11_wander_84 : decode cX11_wander 84 = .ok (.getfield 221, 3) := dz_180 (n := 64) (r := 20) hz_X11_wander_64 rfl rfl
theorem dX11_wander_87 : decode cX11_wander 87 = .ok (.ireturn, 1) := dz_172 (n := 64) (r := 23) hz_X11_wander_64 rfl
theorem dX11_wander_88 : decode cX11_wander 88 = .ok (.aload_n 0, 1) := dz_42 (n := 64) (r := 24) hz_X11_wander_64 rfl
theorem dX11_wander_89 : decode cX11_wander 89 = .ok (.getfield 83, 3) := dz_180 (n := 64) (r := 25) hz_X11_wander_64 rfl rfl
theorem dX11_wander_92 : decode cX11_wander 92 = .ok (.getfield 405, 3) := dz_180 (n := 64) (r := 28) hz_X11_wander_64 rfl rfl
theorem dX11_wander_95 : decode cX11_wander 95 = .ok (.ireturn, 1) := dz_172 (n := 64) (r := 31) hz_X11_wander_64 rfl
theorem hz_X11_wander_96 : (cX11_wander.data.toList.drop 96).take 40 = [42, 180, 0, 83, 180, 0, 218, 172, 18, 226, 172] := by decide +kernel
theorem dX11_wander_96 : decode cX11_wander 96 = .ok (.aload_n 0, 1) := dz_42 (n := 96) (r := 0) hz_X11_wander_96 rfl
theorem dX11_wander_97 : decode cX11_wander 97 = .ok (.getfield 83, 3) := dz_180 (n := 96) (r := 1) hz_X11_wander_96 rfl rfl
theorem dX11_wander_100 : decode cX11_wander 100 = .ok (.getfield 218, 3) := dz_180 (n := 96) (r := 4) hz_X11_wander_96 rfl rfl
theorem dX11_wander_103 : decode cX11_wander 103 = .ok (.ireturn, 1) := dz_172 (n := 96) (r := 7) hz_X11_wander_96 rfl
theorem dX11_wander_104 : decode cX11_wander 104 = .ok (.ldc 226, 2) := dz_18 (n := 96) (r := 8) hz_X11_wander_96 rfl rfl
theorem dX11_wander_106 : decode cX11_wander 106 = .ok (.ireturn, 1) := dz_172 (n := 96) (r := 10) hz_X11_wander_96 rfl
theorem hz_X11_basin_0 : (cX11_basin.data.toList.drop 0).take 40 = [42, 182, 1, 152, 153, 0, 11, 42, 27, 182, 1, 128, 154, 0, 6, 18, 226, 172, 42, 182, 1, 156, 27, 182, 1, 160, 172] := by decide +kernel
theorem dX11_basin_0 : decode cX11_basin 0 = .ok (.aload_n 0, 1) := dz_42 (n := 0) (r := 0) hz_X11_basin_0 rfl
theorem dX11_basin_1 : decode cX11_basin 1 = .ok (.invokevirtual 408, 3) := dz_182 (n := 0) (r := 1) hz_X11_basin_0 rfl rfl
theorem dX11_basin_4 : decode cX11_basin 4 = .ok (.ifCond .eq 11, 3) := dz_153 (n := 0) (r := 4) hz_X11_basin_0 rfl (by decide +kernel)
theorem dX11_basin_7 : decode cX11_basin 7 = .ok (.aload_n 0, 1) := dz_42 (n := 0) (r := 7) hz_X11_basin_0 rfl
theorem dX11_basin_8 : decode cX11_basin 8 = .ok (.iload_n 1, 1) := dz_27 (n := 0) (r := 8) hz_X11_basin_0 rfl
theorem dX11_basin_9 : decode cX11_basin 9 = .ok (.invokevirtual 384, 3) := dz_182 (n := 0) (r := 9) hz_X11_basin_0 rfl rfl
theorem dX11_basin_12 : decode cX11_basin 12 = .ok (.ifCond .ne 6, 3) := dz_154 (n := 0) (r := 12) hz_X11_basin_0 rfl (by decide +kernel)
theorem dX11_basin_15 : decode cX11_basin 15 = .ok (.ldc 226, 2) := dz_18 (n := 0) (r := 15) hz_X11_basin_0 rfl rfl
theorem dX11_basin_17 : decode cX11_basin 17 = .ok (.ireturn, 1) := dz_172 (n := 0) (r := 17) hz_X11_basin_0 rfl
theorem dX11_basin_18 : decode cX11_basin 18 = .ok (.aload_n 0, 1) := dz_42 (n := 0) (r := 18) hz_X11_basin_0 rfl
theorem dX11_basin_19 : decode cX11_basin 19 = .ok (.invokevirtual 412, 3) := dz_182 (n := 0) (r := 19) hz_X11_basin_0 rfl rfl
theorem dX11_basin_22 : decode cX11_basin 22 = .ok (.iload_n 1, 1) := dz_27 (n := 0) (r := 22) hz_X11_basin_0 rfl
theorem dX11_basin_23 : decode cX11_basin 23 = .ok (.invokevirtual 416, 3) := dz_182 (n := 0) (r := 23) hz_X11_basin_0 rfl rfl
theorem dX11_basin_26 : decode cX11_basin 26 = .ok (.ireturn, 1) := dz_172 (n := 0) (r := 26) hz_X11_basin_0 rfl
theorem hz_X11_hill_0 : (cX11_hill.data.toList.drop 0).take 40 = [42, 182, 1, 152, 153, 0, 11, 42, 27, 182, 1, 128, 154, 0, 6, 18, 226, 172, 42, 182, 1, 156, 77, 44, 27, 44, 182, 1, 163, 4, 182, 1, 166, 172] := by decide +kernel
theorem dX11_hill_0 : decode cX11_hill 0 = .ok (.aload_n 0, 1) := dz_42 (n := 0) (r := 0) hz_X11_hill_0 rfl
theorem dX11_hill_1 : decode cX11_hill 1 = .ok (.invokevirtual 408, 3) := dz_182 (n := 0) (r := 1) hz_X11_hill_0 rfl rfl
theorem dX11_hill_4 : decode cX11_hill 4 = .ok (.ifCond .eq 11, 3) := dz_153 (n := 0) (r := 4) hz_X11_hill_0 rfl (by decide +kernel)
theorem dX11_hill_7 : decode cX11_hill 7 = .ok (.aload_n 0, 1) := dz_42 (n := 0) (r := 7) hz_X11_hill_0 rfl
theorem dX11_hill_8 : decode cX11_hill 8 = .ok (.iload_n 1, 1) := dz_27 (n := 0) (r := 8) hz_X11_hill_0 rfl
theorem dX11_hill_9 : decode cX11_hill 9 = .ok (.invokevirtual 384, 3) := dz_182 (n := 0) (r := 9) hz_X11_hill_0 rfl rfl
theorem dX11_hill_12 : decode cX11_hill 12 = .ok (.ifCond .ne 6, 3) := dz_154 (n := 0) (r := 12) hz_X11_hill_0 rfl (by decide +kernel)
theorem dX11_hill_15 : decode cX11_hill 15 = .ok (.ldc 226, 2) := dz_18 (n := 0) (r := 15) hz_X11_hill_0 rfl rfl
theorem dX11_hill_17 : decode cX11_hill 17 = .ok (.ireturn, 1) := dz_172 (n := 0) (r := 17) hz_X11_hill_0 rfl
theorem dX11_hill_18 : decode cX11_hill 18 = .ok (.aload_n 0, 1) := dz_42 (n := 0) (r := 18) hz_X11_hill_0 rfl
theorem dX11_hill_19 : decode cX11_hill 19 = .ok (.invokevirtual 412, 3) := dz_182 (n := 0) (r := 19) hz_X11_hill_0 rfl rfl
theorem dX11_hill_22 : decode cX11_hill 22 = .ok (.astore_n 2, 1) := dz_77 (n := 0) (r := 22) hz_X11_hill_0 rfl
theorem dX11_hill_23 : decode cX11_hill 23 = .ok (.aload_n 2, 1) := dz_44 (n := 0) (r := 23) hz_X11_hill_0 rfl
theorem dX11_hill_24 : decode cX11_hill 24 = .ok (.iload_n 1, 1) := dz_27 (n := 0) (r := 24) hz_X11_hill_0 rfl
theorem dX11_hill_25 : decode cX11_hill 25 = .ok (.aload_n 2, 1) := dz_44 (n := 0) (r := 25) hz_X11_hill_0 rfl
theorem dX11_hill_26 : decode cX11_hill 26 = .ok (.invokevirtual 419, 3) := dz_182 (n := 0) (r := 26) hz_X11_hill_0 rfl rfl
theorem dX11_hill_29 : decode cX11_hill 29 = .ok (.iconst 1, 1) := dz_4 (n := 0) (r := 29) hz_X11_hill_0 rfl
theorem dX11_hill_30 : decode cX11_hill 30 = .ok (.invokevirtual 422, 3) := dz_182 (n := 0) (r := 30) hz_X11_hill_0 rfl rfl
theorem hz_X11_hill_32 : (cX11_hill.data.toList.drop 32).take 40 = [166, 172] := by decide +kernel
theorem dX11_hill_33 : decode cX11_hill 33 = .ok (.ireturn, 1) := dz_172 (n := 32) (r := 1) hz_X11_hill_32 rfl
theorem hz_X11_pass_0 : (cX11_pass.data.toList.drop 0).take 40 = [42, 182, 1, 152, 153, 0, 19, 42, 27, 182, 1, 128, 153, 0, 11, 42, 28, 182, 1, 128, 154, 0, 6, 18, 226, 172, 42, 182, 1, 156, 27, 28, 3, 182, 1, 166, 172] := by decide +kernel
theorem dX11_pass_0 : decode cX11_pass 0 = .ok (.aload_n 0, 1) := dz_42 (n := 0) (r := 0) hz_X11_pass_0 rfl
theorem dX11_pass_1 : decode cX11_pass 1 = .ok (.invokevirtual 408, 3) := dz_182 (n := 0) (r := 1) hz_X11_pass_0 rfl rfl
theorem dX11_pass_4 : decode cX11_pass 4 = .ok (.ifCond .eq 19, 3) := dz_153 (n := 0) (r := 4) hz_X11_pass_0 rfl (by decide +kernel)
theorem dX11_pass_7 : decode cX11_pass 7 = .ok (.aload_n 0, 1) := dz_42 (n := 0) (r := 7) hz_X11_pass_0 rfl
theorem dX11_pass_8 : decode cX11_pass 8 = .ok (.iload_n 1, 1) := dz_27 (n := 0) (r := 8) hz_X11_pass_0 rfl
theorem dX11_pass_9 : decode cX11_pass 9 = .ok (.invokevirtual 384, 3) := dz_182 (n := 0) (r := 9) hz_X11_pass_0 rfl rfl
theorem dX11_pass_12 : decode cX11_pass 12 = .ok (.ifCond .eq 11, 3) := dz_153 (n := 0) (r := 12) hz_X11_pass_0 rfl (by decide +kernel)
theorem dX11_pass_15 : decode cX11_pass 15 = .ok (.aload_n 0, 1) := dz_42 (n := 0) (r := 15) hz_X11_pass_0 rfl
theorem dX11_pass_16 : decode cX11_pass 16 = .ok (.iload_n 2, 1) := dz_28 (n := 0) (r := 16) hz_X11_pass_0 rfl
theorem dX11_pass_17 : decode cX11_pass 17 = .ok (.invokevirtual 384, 3) := dz_182 (n := 0) (r := 17) hz_X11_pass_0 rfl rfl
theorem dX11_pass_20 : decode cX11_pass 20 = .ok (.ifCond .ne 6, 3) := dz_154 (n := 0) (r := 20) hz_X11_pass_0 rfl (by decide +kernel)
theorem dX11_pass_23 : decode cX11_pass 23 = .ok (.ldc 226, 2) := dz_18 (n := 0) (r := 23) hz_X11_pass_0 rfl rfl
theorem dX11_pass_25 : decode cX11_pass 25 = .ok (.ireturn, 1) := dz_172 (n := 0) (r := 25) hz_X11_pass_0 rfl
theorem dX11_pass_26 : decode cX11_pass 26 = .ok (.aload_n 0, 1) := dz_42 (n := 0) (r := 26) hz_X11_pass_0 rfl
theorem dX11_pass_27 : decode cX11_pass 27 = .ok (.invokevirtual 412, 3) := dz_182 (n := 0) (r := 27) hz_X11_pass_0 rfl rfl
theorem dX11_pass_30 : decode cX11_pass 30 = .ok (.iload_n 1, 1) := dz_27 (n := 0) (r := 30) hz_X11_pass_0 rfl
theorem dX11_pass_31 : decode cX11_pass 31 = .ok (.iload_n 2, 1) := dz_28 (n := 0) (r := 31) hz_X11_pass_0 rfl
theorem hz_X11_pass_32 : (cX11_pass.data.toList.drop 32).take 40 = [3, 182, 1, 166, 172] := by decide +kernel
theorem dX11_pass_32 : decode cX11_pass 32 = .ok (.iconst 0, 1) := dz_3 (n := 32) (r := 0) hz_X11_pass_32 rfl
theorem dX11_pass_33 : decode cX11_pass 33 = .ok (.invokevirtual 422, 3) := dz_182 (n := 32) (r := 1) hz_X11_pass_32 rfl rfl
theorem dX11_pass_36 : decode cX11_pass 36 = .ok (.ireturn, 1) := dz_172 (n := 32) (r := 4) hz_X11_pass_32 rfl
theorem hz_X11_lakes_0 : (cX11_lakes.data.toList.drop 0).take 40 = [42, 182, 1, 152, 154, 0, 6, 18, 226, 172, 42, 182, 1, 156, 27, 182, 1, 170, 172] := by decide +kernel
theorem dX11_lakes_0 : decode cX11_lakes 0 = .ok (.aload_n 0, 1) := dz_42 (n := 0) (r := 0) hz_X11_lakes_0 rfl
theorem dX11_lakes_1 : decode cX11_lakes 1 = .ok (.invokevirtual 408, 3) := dz_182 (n := 0) (r := 1) hz_X11_lakes_0 rfl rfl
theorem dX11_lakes_4 : decode cX11_lakes 4 = .ok (.ifCond .ne 6, 3) := dz_154 (n := 0) (r := 4) hz_X11_lakes_0 rfl (by decide +kernel)
theorem dX11_lakes_7 : decode cX11_lakes 7 = .ok (.ldc 226, 2) := dz_18 (n := 0) (r := 7) hz_X11_lakes_0 rfl rfl
theorem dX11_lakes_9 : decode cX11_lakes 9 = .ok (.ireturn, 1) := dz_172 (n := 0) (r := 9) hz_X11_lakes_0 rfl
theorem dX11_lakes_10 : decode cX11_lakes 10 = .ok (.aload_n 0, 1) := dz_42 (n := 0) (r := 10) hz_X11_lakes_0 rfl
theorem dX11_lakes_11 : decode cX11_lakes 11 = .ok (.invokevirtual 412, 3) := dz_182 (n := 0) (r := 11) hz_X11_lakes_0 rfl rfl
theorem dX11_lakes_14 : decode cX11_lakes 14 = .ok (.iload_n 1, 1) := dz_27 (n := 0) (r := 14) hz_X11_lakes_0 rfl
theorem dX11_lakes_15 : decode cX11_lakes 15 = .ok (.invokevirtual 426, 3) := dz_182 (n := 0) (r := 15) hz_X11_lakes_0 rfl rfl
theorem dX11_lakes_18 : decode cX11_lakes 18 = .ok (.ireturn, 1) := dz_172 (n := 0) (r := 18) hz_X11_lakes_0 rfl
theorem hz_X11_down_0 : (cX11_down.data.toList.drop 0).take 40 = [42, 182, 1, 152, 153, 0, 11, 42, 27, 182, 1, 128, 154, 0, 7, 20, 1, 55, 173, 42, 182, 1, 156, 27, 182, 1, 173, 173] := by decide +kernel
theorem dX11_down_0 : decode cX11_down 0 = .ok (.aload_n 0, 1) := dz_42 (n := 0) (r := 0) hz_X11_down_0 rfl
theorem dX11_down_1 : decode cX11_down 1 = .ok (.invokevirtual 408, 3) := dz_182 (n := 0) (r := 1) hz_X11_down_0 rfl rfl
theorem dX11_down_4 : decode cX11_down 4 = .ok (.ifCond .eq 11, 3) := dz_153 (n := 0) (r := 4) hz_X11_down_0 rfl (by decide +kernel)
theorem dX11_down_7 : decode cX11_down 7 = .ok (.aload_n 0, 1) := dz_42 (n := 0) (r := 7) hz_X11_down_0 rfl
theorem dX11_down_8 : decode cX11_down 8 = .ok (.iload_n 1, 1) := dz_27 (n := 0) (r := 8) hz_X11_down_0 rfl
theorem dX11_down_9 : decode cX11_down 9 = .ok (.invokevirtual 384, 3) := dz_182 (n := 0) (r := 9) hz_X11_down_0 rfl rfl
theorem dX11_down_12 : decode cX11_down 12 = .ok (.ifCond .ne 7, 3) := dz_154 (n := 0) (r := 12) hz_X11_down_0 rfl (by decide +kernel)
theorem dX11_down_15 : decode cX11_down 15 = .ok (.ldc2_w 311, 3) := dz_20 (n := 0) (r := 15) hz_X11_down_0 rfl rfl
theorem dX11_down_18 : decode cX11_down 18 = .ok (.lreturn, 1) := dz_173 (n := 0) (r := 18) hz_X11_down_0 rfl
theorem dX11_down_19 : decode cX11_down 19 = .ok (.aload_n 0, 1) := dz_42 (n := 0) (r := 19) hz_X11_down_0 rfl
end
section
theorem dX11_down_20 : decode cX11_down 20 = .ok (.invokevirtual 412, 3) := dz_182 (n := 0) (r := 20) hz_X11_down_0 rfl rfl
theorem dX11_down_23 : decode cX11_down 23 = .ok (.iload_n 1, 1) := dz_27 (n := 0) (r := 23) hz_X11_down_0 rfl
theorem dX11_down_24 : decode cX11_down 24 = .ok (.invokevirtual 429, 3) := dz_182 (n := 0) (r := 24) hz_X11_down_0 rfl rfl
theorem dX11_down_27 : decode cX11_down 27 = .ok (.lreturn, 1) := dz_173 (n := 0) (r := 27) hz_X11_down_0 rfl
theorem hz_X11_isSmall_0 : (cX11_isSmall.data.toList.drop 0).take 40 = [42, 180, 0, 24, 180, 0, 197, 16, 10, 163, 0, 7, 4, 167, 0, 4, 3, 172] := by decide +kernel
theorem dX11_isSmall_0 : decode cX11_isSmall 0 = .ok (.aload_n 0, 1) := dz_42 (n := 0) (r := 0) hz_X11_isSmall_0 rfl
theorem dX11_isSmall_1 : decode cX11_isSmall 1 = .ok (.getfield 24, 3) := dz_180 (n := 0) (r := 1) hz_X11_isSmall_0 rfl rfl
theorem dX11_isSmall_4 : decode cX11_isSmall 4 = .ok (.getfield 197, 3) := dz_180 (n := 0) (r := 4) hz_X11_isSmall_0 rfl rfl
theorem dX11_isSmall_7 : decode cX11_isSmall 7 = .ok (.bipush 10, 2) := dz_16 (n := 0) (r := 7) hz_X11_isSmall_0 rfl rfl
theorem dX11_isSmall_9 : decode cX11_isSmall 9 = .ok (.if_icmp .gt 7, 3) := dz_163 (n := 0) (r := 9) hz_X11_isSmall_0 rfl (by decide +kernel)
theorem dX11_isSmall_12 : decode cX11_isSmall 12 = .ok (.iconst 1, 1) := dz_4 (n := 0) (r := 12) hz_X11_isSmall_0 rfl
theorem dX11_isSmall_13 : decode cX11_isSmall 13 = .ok (.goto 4, 3) := dz_167 (n := 0) (r := 13) hz_X11_isSmall_0 rfl (by decide +kernel)
theorem dX11_isSmall_16 : decode cX11_isSmall 16 = .ok (.iconst 0, 1) := dz_3 (n := 0) (r := 16) hz_X11_isSmall_0 rfl
theorem dX11_isSmall_17 : decode cX11_isSmall 17 = .ok (.ireturn, 1) := dz_172 (n := 0) (r := 17) hz_X11_isSmall_0 rfl
theorem hz_X11_hold_0 : (cX11_hold.data.toList.drop 0).take 40 = [42, 27, 182, 1, 51, 77, 44, 199, 0, 5, 3, 172, 44, 180, 1, 83, 42, 180, 0, 31, 182, 0, 137, 44, 4, 181, 0, 150, 44, 3, 181, 1, 80, 4, 172] := by decide +kernel
theorem dX11_hold_0 : decode cX11_hold 0 = .ok (.aload_n 0, 1) := dz_42 (n := 0) (r := 0) hz_X11_hold_0 rfl
theorem dX11_hold_1 : decode cX11_hold 1 = .ok (.iload_n 1, 1) := dz_27 (n := 0) (r := 1) hz_X11_hold_0 rfl
theorem dX11_hold_2 : decode cX11_hold 2 = .ok (.invokevirtual 307, 3) := dz_182 (n := 0) (r := 2) hz_X11_hold_0 rfl rfl
theorem dX11_hold_5 : decode cX11_hold 5 = .ok (.astore_n 2, 1) := dz_77 (n := 0) (r := 5) hz_X11_hold_0 rfl
theorem dX11_hold_6 : decode cX11_hold 6 = .ok (.aload_n 2, 1) := dz_44 (n := 0) (r := 6) hz_X11_hold_0 rfl
theorem dX11_hold_7 : decode cX11_hold 7 = .ok (.ifnonnull 5, 3) := dz_199 (n := 0) (r := 7) hz_X11_hold_0 rfl (by decide +kernel)
theorem dX11_hold_10 : decode cX11_hold 10 = .ok (.iconst 0, 1) := dz_3 (n := 0) (r := 10) hz_X11_hold_0 rfl
theorem dX11_hold_11 : decode cX11_hold 11 = .ok (.ireturn, 1) := dz_172 (n := 0) (r := 11) hz_X11_hold_0 rfl
theorem dX11_hold_12 : decode cX11_hold 12 = .ok (.aload_n 2, 1) := dz_44 (n := 0) (r := 12) hz_X11_hold_0 rfl
theorem dX11_hold_13 : decode cX11_hold 13 = .ok (.getfield 339, 3) := dz_180 (n := 0) (r := 13) hz_X11_hold_0 rfl rfl
theorem dX11_hold_16 : decode cX11_hold 16 = .ok (.aload_n 0, 1) := dz_42 (n := 0) (r := 16) hz_X11_hold_0 rfl
theorem dX11_hold_17 : decode cX11_hold 17 = .ok (.getfield 31, 3) := dz_180 (n := 0) (r := 17) hz_X11_hold_0 rfl rfl
theorem dX11_hold_20 : decode cX11_hold 20 = .ok (.invokevirtual 137, 3) := dz_182 (n := 0) (r := 20) hz_X11_hold_0 rfl rfl
theorem dX11_hold_23 : decode cX11_hold 23 = .ok (.aload_n 2, 1) := dz_44 (n := 0) (r := 23) hz_X11_hold_0 rfl
theorem dX11_hold_24 : decode cX11_hold 24 = .ok (.iconst 1, 1) := dz_4 (n := 0) (r := 24) hz_X11_hold_0 rfl
theorem dX11_hold_25 : decode cX11_hold 25 = .ok (.putfield 150, 3) := dz_181 (n := 0) (r := 25) hz_X11_hold_0 rfl rfl
theorem dX11_hold_28 : decode cX11_hold 28 = .ok (.aload_n 2, 1) := dz_44 (n := 0) (r := 28) hz_X11_hold_0 rfl
theorem dX11_hold_29 : decode cX11_hold 29 = .ok (.iconst 0, 1) := dz_3 (n := 0) (r := 29) hz_X11_hold_0 rfl
theorem dX11_hold_30 : decode cX11_hold 30 = .ok (.putfield 336, 3) := dz_181 (n := 0) (r := 30) hz_X11_hold_0 rfl rfl
theorem hz_X11_hold_32 : (cX11_hold.data.toList.drop 32).take 40 = [80, 4, 172] := by decide +kernel
theorem dX11_hold_33 : decode cX11_hold 33 = .ok (.iconst 1, 1) := dz_4 (n := 32) (r := 1) hz_X11_hold_32 rfl
theorem dX11_hold_34 : decode cX11_hold 34 = .ok (.ireturn, 1) := dz_172 (n := 32) (r := 2) hz_X11_hold_32 rfl
theorem hz_X11_restore_0 : (cX11_restore.data.toList.drop 0).take 40 = [42, 27, 182, 1, 51, 77, 44, 198, 0, 10, 44, 180, 0, 150, 154, 0, 5, 3, 172, 42, 180, 0, 31, 44, 180, 1, 83, 182, 0, 137, 42, 180, 0, 38, 182, 0, 147, 4, 172] := by decide +kernel
theorem dX11_restore_0 : decode cX11_restore 0 = .ok (.aload_n 0, 1) := dz_42 (n := 0) (r := 0) hz_X11_restore_0 rfl
theorem dX11_restore_1 : decode cX11_restore 1 = .ok (.iload_n 1, 1) := dz_27 (n := 0) (r := 1) hz_X11_restore_0 rfl
theorem dX11_restore_2 : decode cX11_restore 2 = .ok (.invokevirtual 307, 3) := dz_182 (n := 0) (r := 2) hz_X11_restore_0 rfl rfl
theorem dX11_restore_5 : decode cX11_restore 5 = .ok (.astore_n 2, 1) := dz_77 (n := 0) (r := 5) hz_X11_restore_0 rfl
theorem dX11_restore_6 : decode cX11_restore 6 = .ok (.aload_n 2, 1) := dz_44 (n := 0) (r := 6) hz_X11_restore_0 rfl
theorem dX11_restore_7 : decode cX11_restore 7 = .ok (.ifnull 10, 3) := dz_198 (n := 0) (r := 7) hz_X11_restore_0 rfl (by decide +kernel)
theorem dX11_restore_10 : decode cX11_restore 10 = .ok (.aload_n 2, 1) := dz_44 (n := 0) (r := 10) hz_X11_restore_0 rfl
theorem dX11_restore_11 : decode cX11_restore 11 = .ok (.getfield 150, 3) := dz_180 (n := 0) (r := 11) hz_X11_restore_0 rfl rfl
theorem dX11_restore_14 : decode cX11_restore 14 = .ok (.ifCond .ne 5, 3) := dz_154 (n := 0) (r := 14) hz_X11_restore_0 rfl (by decide +kernel)
theorem dX11_restore_17 : decode cX11_restore 17 = .ok (.iconst 0, 1) := dz_3 (n := 0) (r := 17) hz_X11_restore_0 rfl
theorem dX11_restore_18 : decode cX11_restore 18 = .ok (.ireturn, 1) := dz_172 (n := 0) (r := 18) hz_X11_restore_0 rfl
theorem dX11_restore_19 : decode cX11_restore 19 = .ok (.aload_n 0, 1) := dz_42 (n := 0) (r := 19) hz_X11_restore_0 rfl
theorem dX11_restore_20 : decode cX11_restore 20 = .ok (.getfield 31, 3) := dz_180 (n := 0) (r := 20) hz_X11_restore_0 rfl rfl
theorem dX11_restore_23 : decode cX11_restore 23 = .ok (.aload_n 2, 1) := dz_44 (n := 0) (r := 23) hz_X11_restore_0 rfl
theorem dX11_restore_24 : decode cX11_restore 24 = .ok (.getfield 339, 3) := dz_180 (n := 0) (r := 24) hz_X11_restore_0 rfl rfl
theorem dX11_restore_27 : decode cX11_restore 27 = .ok (.invokevirtual 137, 3) := dz_182 (n := 0) (r := 27) hz_X11_restore_0 rfl rfl
theorem dX11_restore_30 : decode cX11_restore 30 = .ok (.aload_n 0, 1) := dz_42 (n := 0) (r := 30) hz_X11_restore_0 rfl
theorem dX11_restore_31 : decode cX11_restore 31 = .ok (.getfield 38, 3) := dz_180 (n := 0) (r := 31) hz_X11_restore_0 rfl rfl
theorem hz_X11_restore_32 : (cX11_restore.data.toList.drop 32).take 40 = [0, 38, 182, 0, 147, 4, 172] := by decide +kernel
theorem dX11_restore_34 : decode cX11_restore 34 = .ok (.invokevirtual 147, 3) := dz_182 (n := 32) (r := 2) hz_X11_restore_32 rfl rfl
theorem dX11_restore_37 : decode cX11_restore 37 = .ok (.iconst 1, 1) := dz_4 (n := 32) (r := 5) hz_X11_restore_32 rfl
theorem dX11_restore_38 : decode cX11_restore 38 = .ok (.ireturn, 1) := dz_172 (n := 32) (r := 6) hz_X11_restore_32 rfl
theorem hz_X11_slotAt_0 : (cX11_slotAt.data.toList.drop 0).take 40 = [27, 155, 0, 21, 27, 42, 180, 0, 44, 190, 162, 0, 12, 42, 180, 0, 44, 27, 50, 167, 0, 4, 1, 176] := by decide +kernel
theorem dX11_slotAt_0 : decode cX11_slotAt 0 = .ok (.iload_n 1, 1) := dz_27 (n := 0) (r := 0) hz_X11_slotAt_0 rfl
theorem dX11_slotAt_1 : decode cX11_slotAt 1 = .ok (.ifCond .lt 21, 3) := dz_155 (n := 0) (r := 1) hz_X11_slotAt_0 rfl (by decide +kernel)
theorem dX11_slotAt_4 : decode cX11_slotAt 4 = .ok (.iload_n 1, 1) := dz_27 (n := 0) (r := 4) hz_X11_slotAt_0 rfl
theorem dX11_slotAt_5 : decode cX11_slotAt 5 = .ok (.aload_n 0, 1) := dz_42 (n := 0) (r := 5) hz_X11_slotAt_0 rfl
theorem dX11_slotAt_6 : decode cX11_slotAt 6 = .ok (.getfield 44, 3) := dz_180 (n := 0) (r := 6) hz_X11_slotAt_0 rfl rfl
theorem dX11_slotAt_9 : decode cX11_slotAt 9 = .ok (.arraylength, 1) := dz_190 (n := 0) (r := 9) hz_X11_slotAt_0 rfl
theorem dX11_slotAt_10 : decode cX11_slotAt 10 = .ok (.if_icmp .ge 12, 3) := dz_162 (n := 0) (r := 10) hz_X11_slotAt_0 rfl (by decide +kernel)
theorem dX11_slotAt_13 : decode cX11_slotAt 13 = .ok (.aload_n 0, 1) := dz_42 (n := 0) (r := 13) hz_X11_slotAt_0 rfl
theorem dX11_slotAt_14 : decode cX11_slotAt 14 = .ok (.getfield 44, 3) := dz_180 (n := 0) (r := 14) hz_X11_slotAt_0 rfl rfl
theorem dX11_slotAt_17 : decode cX11_slotAt 17 = .ok (.iload_n 1, 1) := dz_27 (n := 0) (r := 17) hz_X11_slotAt_0 rfl
theorem dX11_slotAt_18 : decode cX11_slotAt 18 = .ok (.aaload, 1) := dz_50 (n := 0) (r := 18) hz_X11_slotAt_0 rfl
theorem dX11_slotAt_19 : decode cX11_slotAt 19 = .ok (.goto 4, 3) := dz_167 (n := 0) (r := 19) hz_X11_slotAt_0 rfl (by decide +kernel)
theorem dX11_slotAt_22 : decode cX11_slotAt 22 = .ok (.aconst_null, 1) := dz_1 (n := 0) (r := 22) hz_X11_slotAt_0 rfl
theorem dX11_slotAt_23 : decode cX11_slotAt 23 = .ok (.areturn, 1) := dz_176 (n := 0) (r := 23) hz_X11_slotAt_0 rfl
theorem hz_X11_count_0 : (cX11_count.data.toList.drop 0).take 40 = [27, 170, 0, 0, 0, 0, 0, 207, 0, 0, 0, 0, 0, 0, 0, 14, 0, 0, 0, 75, 0, 0, 0, 83, 0, 0, 0, 91, 0, 0, 0, 99, 0, 0, 0, 104, 0, 0, 0, 112] := by decide +kernel
theorem dX11_count_0 : decode cX11_count 0 = .ok (.iload_n 1, 1) := dz_27 (n := 0) (r := 0) hz_X11_count_0 rfl
theorem dX11_count_1 : decode cX11_count 1 = .ok (.tableswitch 207 0 14 #[75, 83, 91, 99, 104, 112, 120, 128, 136, 141, 149, 164, 179, 187, 195], 75) := by decide +kernel
theorem hz_X11_count_64 : (cX11_count.data.toList.drop 64).take 40 = [0, 0, 0, 179, 0, 0, 0, 187, 0, 0, 0, 195, 42, 180, 0, 24, 180, 1, 106, 172, 42, 180, 0, 24, 180, 1, 105, 172, 42, 180, 0, 31, 180, 0, 144, 172, 42, 182, 1, 177] := by decide +kernel
theorem dX11_count_76 : decode cX11_count 76 = .ok (.aload_n 0, 1) := dz_42 (n := 64) (r := 12) hz_X11_count_64 rfl
theorem dX11_count_77 : decode cX11_count 77 = .ok (.getfield 24, 3) := dz_180 (n := 64) (r := 13) hz_X11_count_64 rfl rfl
theorem dX11_count_80 : decode cX11_count 80 = .ok (.getfield 362, 3) := dz_180 (n := 64) (r := 16) hz_X11_count_64 rfl rfl
theorem dX11_count_83 : decode cX11_count 83 = .ok (.ireturn, 1) := dz_172 (n := 64) (r := 19) hz_X11_count_64 rfl
theorem dX11_count_84 : decode cX11_count 84 = .ok (.aload_n 0, 1) := dz_42 (n := 64) (r := 20) hz_X11_count_64 rfl
theorem dX11_count_85 : decode cX11_count 85 = .ok (.getfield 24, 3) := dz_180 (n := 64) (r := 21) hz_X11_count_64 rfl rfl
theorem dX11_count_88 : decode cX11_count 88 = .ok (.getfield 361, 3) := dz_180 (n := 64) (r := 24) hz_X11_count_64 rfl rfl
theorem dX11_count_91 : decode cX11_count 91 = .ok (.ireturn, 1) := dz_172 (n := 64) (r := 27) hz_X11_count_64 rfl
theorem dX11_count_92 : decode cX11_count 92 = .ok (.aload_n 0, 1) := dz_42 (n := 64) (r := 28) hz_X11_count_64 rfl
theorem dX11_count_93 : decode cX11_count 93 = .ok (.getfield 31, 3) := dz_180 (n := 64) (r := 29) hz_X11_count_64 rfl rfl
theorem hz_X11_count_96 : (cX11_count.data.toList.drop 96).take 40 = [180, 0, 144, 172, 42, 182, 1, 177, 172, 42, 180, 0, 31, 180, 0, 191, 172, 42, 180, 0, 24, 182, 1, 180, 172, 42, 180, 0, 20, 180, 0, 102, 172, 42, 180, 0, 38, 180, 1, 183] := by decide +kernel
theorem dX11_count_96 : decode cX11_count 96 = .ok (.getfield 144, 3) := dz_180 (n := 96) (r := 0) hz_X11_count_96 rfl rfl
theorem dX11_count_99 : decode cX11_count 99 = .ok (.ireturn, 1) := dz_172 (n := 96) (r := 3) hz_X11_count_96 rfl
theorem dX11_count_100 : decode cX11_count 100 = .ok (.aload_n 0, 1) := dz_42 (n := 96) (r := 4) hz_X11_count_96 rfl
theorem dX11_count_101 : decode cX11_count 101 = .ok (.invokevirtual 433, 3) := dz_182 (n := 96) (r := 5) hz_X11_count_96 rfl rfl
theorem dX11_count_104 : decode cX11_count 104 = .ok (.ireturn, 1) := dz_172 (n := 96) (r := 8) hz_X11_count_96 rfl
theorem dX11_count_105 : decode cX11_count 105 = .ok (.aload_n 0, 1) := dz_42 (n := 96) (r := 9) hz_X11_count_96 rfl
theorem dX11_count_106 : decode cX11_count 106 = .ok (.getfield 31, 3) := dz_180 (n := 96) (r := 10) hz_X11_count_96 rfl rfl
theorem dX11_count_109 : decode cX11_count 109 = .ok (.getfield 191, 3) := dz_180 (n := 96) (r := 13) hz_X11_count_96 rfl rfl
theorem dX11_count_112 : decode cX11_count 112 = .ok (.ireturn, 1) := dz_172 (n := 96) (r := 16) hz_X11_count_96 rfl
theorem dX11_count_113 : decode cX11_count 113 = .ok (.aload_n 0, 1) := dz_42 (n := 96) (r := 17) hz_X11_count_96 rfl
theorem dX11_count_114 : decode cX11_count 114 = .ok (.getfield 24, 3) := dz_180 (n := 96) (r := 18) hz_X11_count_96 rfl rfl
theorem dX11_count_117 : decode cX11_count 117 = .ok (.invokevirtual 436, 3) := dz_182 (n := 96) (r := 21) hz_X11_count_96 rfl rfl
theorem dX11_count_120 : decode cX11_count 120 = .ok (.ireturn, 1) := dz_172 (n := 96) (r := 24) hz_X11_count_96 rfl
theorem dX11_count_121 : decode cX11_count 121 = .ok (.aload_n 0, 1) := dz_42 (n := 96) (r := 25) hz_X11_count_96 rfl
theorem dX11_count_122 : decode cX11_count 122 = .ok (.getfield 20, 3) := dz_180 (n := 96) (r := 26) hz_X11_count_96 rfl rfl
theorem dX11_count_125 : decode cX11_count 125 = .ok (.getfield 102, 3) := dz_180 (n := 96) (r := 29) hz_X11_count_96 rfl rfl
theorem hz_X11_count_128 : (cX11_count.data.toList.drop 128).take 40 = [172, 42, 180, 0, 38, 180, 1, 183, 172, 42, 182, 1, 184, 172, 42, 180, 0, 31, 180, 1, 187, 172, 42, 180, 0, 24, 42, 180, 0, 31, 180, 0, 144, 182, 1, 190, 172, 42, 180, 0] := by decide +kernel
theorem dX11_count_128 : decode cX11_count 128 = .ok (.ireturn, 1) := dz_172 (n := 128) (r := 0) hz_X11_count_128 rfl
theorem dX11_count_129 : decode cX11_count 129 = .ok (.aload_n 0, 1) := dz_42 (n := 128) (r := 1) hz_X11_count_128 rfl
theorem dX11_count_130 : decode cX11_count 130 = .ok (.getfield 38, 3) := dz_180 (n := 128) (r := 2) hz_X11_count_128 rfl rfl
theorem dX11_count_133 : decode cX11_count 133 = .ok (.getfield 439, 3) := dz_180 (n := 128) (r := 5) hz_X11_count_128 rfl rfl
theorem dX11_count_136 : decode cX11_count 136 = .ok (.ireturn, 1) := dz_172 (n := 128) (r := 8) hz_X11_count_128 rfl
theorem dX11_count_137 : decode cX11_count 137 = .ok (.aload_n 0, 1) := dz_42 (n := 128) (r := 9) hz_X11_count_128 rfl
theorem dX11_count_138 : decode cX11_count 138 = .ok (.invokevirtual 440, 3) := dz_182 (n := 128) (r := 10) hz_X11_count_128 rfl rfl
theorem dX11_count_141 : decode cX11_count 141 = .ok (.ireturn, 1) := dz_172 (n := 128) (r := 13) hz_X11_count_128 rfl
theorem dX11_count_142 : decode cX11_count 142 = .ok (.aload_n 0, 1) := dz_42 (n := 128) (r := 14) hz_X11_count_128 rfl
theorem dX11_count_143 : decode cX11_count 143 = .ok (.getfield 31, 3) := dz_180 (n := 128) (r := 15) hz_X11_count_128 rfl rfl
theorem dX11_count_146 : decode cX11_count 146 = .ok (.getfield 443, 3) := dz_180 (n := 128) (r := 18) hz_X11_count_128 rfl rfl
theorem dX11_count_149 : decode cX11_count 149 = .ok (.ireturn, 1) := dz_172 (n := 128) (r := 21) hz_X11_count_128 rfl
theorem dX11_count_150 : decode cX11_count 150 = .ok (.aload_n 0, 1) := dz_42 (n := 128) (r := 22) hz_X11_count_128 rfl
theorem dX11_count_151 : decode cX11_count 151 = .ok (.getfield 24, 3) := dz_180 (n := 128) (r := 23) hz_X11_count_128 rfl rfl
theorem dX11_count_154 : decode cX11_count 154 = .ok (.aload_n 0, 1) := dz_42 (n := 128) (r := 26) hz_X11_count_128 rfl
theorem dX11_count_155 : decode cX11_count 155 = .ok (.getfield 31, 3) := dz_180 (n := 128) (r := 27) hz_X11_count_128 rfl rfl
theorem dX11_count_158 : decode cX11_count 158 = .ok (.getfield 144, 3) := dz_180 (n := 128) (r := 30) hz_X11_count_128 rfl rfl
theorem hz_X11_count_160 : (cX11_count.data.toList.drop 160).take 40 = [144, 182, 1, 190, 172, 42, 180, 0, 24, 42, 180, 0, 31, 180, 0, 144, 182, 1, 193, 172, 42, 180, 0, 24, 180, 1, 196, 172, 42, 182, 1, 23, 182, 1, 197, 172, 42, 180, 0, 24] := by decide +kernel
theorem dX11_count_161 : decode cX11_count 161 = .ok (.invokevirtual 446, 3) := dz_182 (n := 160) (r := 1) hz_X11_count_160 rfl rfl
theorem dX11_count_164 : decode cX11_count 164 = .ok (.ireturn, 1) := dz_172 (n := 160) (r := 4) hz_X11_count_160 rfl
theorem dX11_count_165 : decode cX11_count 165 = .ok (.aload_n 0, 1) := dz_42 (n := 160) (r := 5) hz_X11_count_160 rfl
theorem dX11_count_166 : decode cX11_count 166 = .ok (.getfield 24, 3) := dz_180 (n := 160) (r := 6) hz_X11_count_160 rfl rfl
theorem dX11_count_169 : decode cX11_count 169 = .ok (.aload_n 0, 1) := dz_42 (n := 160) (r := 9) hz_X11_count_160 rfl
theorem dX11_count_170 : decode cX11_count 170 = .ok (.getfield 31, 3) := dz_180 (n := 160) (r := 10) hz_X11_count_160 rfl rfl
theorem dX11_count_173 : decode cX11_count 173 = .ok (.getfield 144, 3) := dz_180 (n := 160) (r := 13) hz_X11_count_160 rfl rfl
theorem dX11_count_176 : decode cX11_count 176 = .ok (.invokevirtual 449, 3) := dz_182 (n := 160) (r := 16) hz_X11_count_160 rfl rfl
theorem dX11_count_179 : decode cX11_count 179 = .ok (.ireturn, 1) := dz_172 (n := 160) (r := 19) hz_X11_count_160 rfl
theorem dX11_count_180 : decode cX11_count 180 = .ok (.aload_n 0, 1) := dz_42 (n := 160) (r := 20) hz_X11_count_160 rfl
theorem dX11_count_181 : decode cX11_count 181 = .ok (.getfield 24, 3) := dz_180 (n := 160) (r := 21) hz_X11_count_160 rfl rfl
theorem dX11_count_184 : decode cX11_count 184 = .ok (.getfield 452, 3) := dz_180 (n := 160) (r := 24) hz_X11_count_160 rfl rfl
theorem dX11_count_187 : decode cX11_count 187 = .ok (.ireturn, 1) := dz_172 (n := 160) (r := 27) hz_X11_count_160 rfl
theorem dX11_count_188 : decode cX11_count 188 = .ok (.aload_n 0, 1) := dz_42 (n := 160) (r := 28) hz_X11_count_160 rfl
theorem dX11_count_189 : decode cX11_count 189 = .ok (.invokevirtual 279, 3) := dz_182 (n := 160) (r := 29) hz_X11_count_160 rfl rfl
theorem hz_X11_count_192 : (cX11_count.data.toList.drop 192).take 40 = [182, 1, 197, 172, 42, 180, 0, 24, 42, 180, 0, 31, 182, 1, 200, 172, 2, 172] := by decide +kernel
theorem dX11_count_192 : decode cX11_count 192 = .ok (.invokevirtual 453, 3) := dz_182 (n := 192) (r := 0) hz_X11_count_192 rfl rfl
theorem dX11_count_195 : decode cX11_count 195 = .ok (.ireturn, 1) := dz_172 (n := 192) (r := 3) hz_X11_count_192 rfl
theorem dX11_count_196 : decode cX11_count 196 = .ok (.aload_n 0, 1) := dz_42 (n := 192) (r := 4) hz_X11_count_192 rfl
theorem dX11_count_197 : decode cX11_count 197 = .ok (.getfield 24, 3) := dz_180 (n := 192) (r := 5) hz_X11_count_192 rfl rfl
theorem dX11_count_200 : decode cX11_count 200 = .ok (.aload_n 0, 1) := dz_42 (n := 192) (r := 8) hz_X11_count_192 rfl
theorem dX11_count_201 : decode cX11_count 201 = .ok (.getfield 31, 3) := dz_180 (n := 192) (r := 9) hz_X11_count_192 rfl rfl
theorem dX11_count_204 : decode cX11_count 204 = .ok (.invokevirtual 456, 3) := dz_182 (n := 192) (r := 12) hz_X11_count_192 rfl rfl
theorem dX11_count_207 : decode cX11_count 207 = .ok (.ireturn, 1) := dz_172 (n := 192) (r := 15) hz_X11_count_192 rfl
theorem dX11_count_208 : decode cX11_count 208 = .ok (.iconst (-1), 1) := dz_2 (n := 192) (r := 16) hz_X11_count_192 rfl
theorem dX11_count_209 : decode cX11_count 209 = .ok (.ireturn, 1) := dz_172 (n := 192) (r := 17) hz_X11_count_192 rfl
theorem hz_X11_countStates_0 : (cX11_countStates.data.toList.drop 0).take 40 = [42, 180, 0, 24, 180, 0, 197, 154, 0, 7, 3, 167, 0, 23, 4, 42, 180, 0, 24, 180, 0, 197, 42, 180, 0, 31, 180, 0, 191, 184, 1, 118, 100, 120, 172] := by decide +kernel
theorem dX11_countStates_0 : decode cX11_countStates 0 = .ok (.aload_n 0, 1) := dz_42 (n := 0) (r := 0) hz_X11_countStates_0 rfl
theorem dX11_countStates_1 : decode cX11_countStates 1 = .ok (.getfield 24, 3) := dz_180 (n := 0) (r := 1) hz_X11_countStates_0 rfl rfl
theorem dX11_countStates_4 : decode cX11_countStates 4 = .ok (.getfield 197, 3) := dz_180 (n := 0) (r := 4) hz_X11_countStates_0 rfl rfl
theorem dX11_countStates_7 : decode cX11_countStates 7 = .ok (.ifCond .ne 7, 3) := dz_154 (n := 0) (r := 7) hz_X11_countStates_0 rfl (by decide +kernel)
theorem dX11_countStates_10 : decode cX11_countStates 10 = .ok (.iconst 0, 1) := dz_3 (n := 0) (r := 10) hz_X11_countStates_0 rfl
theorem dX11_countStates_11 : decode cX11_countStates 11 = .ok (.goto 23, 3) := dz_167 (n := 0) (r := 11) hz_X11_countStates_0 rfl (by decide +kernel)
theorem dX11_countStates_14 : decode cX11_countStates 14 = .ok (.iconst 1, 1) := dz_4 (n := 0) (r := 14) hz_X11_countStates_0 rfl
theorem dX11_countStates_15 : decode cX11_countStates 15 = .ok (.aload_n 0, 1) := dz_42 (n := 0) (r := 15) hz_X11_countStates_0 rfl
theorem dX11_countStates_16 : decode cX11_countStates 16 = .ok (.getfield 24, 3) := dz_180 (n := 0) (r := 16) hz_X11_countStates_0 rfl rfl
theorem dX11_countStates_19 : decode cX11_countStates 19 = .ok (.getfield 197, 3) := dz_180 (n := 0) (r := 19) hz_X11_countStates_0 rfl rfl
theorem dX11_countStates_22 : decode cX11_countStates 22 = .ok (.aload_n 0, 1) := dz_42 (n := 0) (r := 22) hz_X11_countStates_0 rfl
theorem dX11_countStates_23 : decode cX11_countStates 23 = .ok (.getfield 31, 3) := dz_180 (n := 0) (r := 23) hz_X11_countStates_0 rfl rfl
theorem dX11_countStates_26 : decode cX11_countStates 26 = .ok (.getfield 191, 3) := dz_180 (n := 0) (r := 26) hz_X11_countStates_0 rfl rfl
theorem dX11_countStates_29 : decode cX11_countStates 29 = .ok (.invokestatic 374, 3) := dz_184 (n := 0) (r := 29) hz_X11_countStates_0 rfl rfl
theorem hz_X11_countStates_32 : (cX11_countStates.data.toList.drop 32).take 40 = [100, 120, 172] := by decide +kernel
theorem dX11_countStates_32 : decode cX11_countStates 32 = .ok (.isub, 1) := dz_100 (n := 32) (r := 0) hz_X11_countStates_32 rfl
theorem dX11_countStates_33 : decode cX11_countStates 33 = .ok (.ishl, 1) := dz_120 (n := 32) (r := 1) hz_X11_countStates_32 rfl
theorem dX11_countStates_34 : decode cX11_countStates 34 = .ok (.ireturn, 1) := dz_172 (n := 32) (r := 2) hz_X11_countStates_32 rfl
theorem hz_X11_countFullSlots_0 : (cX11_countFullSlots.data.toList.drop 0).take 40 = [3, 60, 3, 61, 28, 42, 180, 0, 44, 190, 162, 0, 24, 42, 180, 0, 44, 28, 50, 180, 0, 150, 153, 0, 6, 132, 1, 1, 132, 2, 1, 167, 255, 229, 27, 172] := by decide +kernel
theorem dX11_countFullSlots_0 : decode cX11_countFullSlots 0 = .ok (.iconst 0, 1) := dz_3 (n := 0) (r := 0) hz_X11_countFullSlots_0 rfl
theorem dX11_countFullSlots_1 : decode cX11_countFullSlots 1 = .ok (.istore_n 1, 1) := dz_60 (n := 0) (r := 1) hz_X11_countFullSlots_0 rfl
theorem dX11_countFullSlots_2 : decode cX11_countFullSlots 2 = .ok (.iconst 0, 1) := dz_3 (n := 0) (r := 2) hz_X11_countFullSlots_0 rfl
theorem dX11_countFullSlots_3 : decode cX11_countFullSlots 3 = .ok (.istore_n 2, 1) := dz_61 (n := 0) (r := 3) hz_X11_countFullSlots_0 rfl
theorem dX11_countFullSlots_4 : decode cX11_countFullSlots 4 = .ok (.iload_n 2, 1) := dz_28 (n := 0) (r := 4) hz_X11_countFullSlots_0 rfl
theorem dX11_countFullSlots_5 : decode cX11_countFullSlots 5 = .ok (.aload_n 0, 1) := dz_42 (n := 0) (r := 5) hz_X11_countFullSlots_0 rfl
theorem dX11_countFullSlots_6 : decode cX11_countFullSlots 6 = .ok (.getfield 44, 3) := dz_180 (n := 0) (r := 6) hz_X11_countFullSlots_0 rfl rfl
theorem dX11_countFullSlots_9 : decode cX11_countFullSlots 9 = .ok (.arraylength, 1) := dz_190 (n := 0) (r := 9) hz_X11_countFullSlots_0 rfl
theorem dX11_countFullSlots_10 : decode cX11_countFullSlots 10 = .ok (.if_icmp .ge 24, 3) := dz_162 (n := 0) (r := 10) hz_X11_countFullSlots_0 rfl (by decide +kernel)
theorem dX11_countFullSlots_13 : decode cX11_countFullSlots 13 = .ok (.aload_n 0, 1) := dz_42 (n := 0) (r := 13) hz_X11_countFullSlots_0 rfl
theorem dX11_countFullSlots_14 : decode cX11_countFullSlots 14 = .ok (.getfield 44, 3) := dz_180 (n := 0) (r := 14) hz_X11_countFullSlots_0 rfl rfl
theorem dX11_countFullSlots_17 : decode cX11_countFullSlots 17 = .ok (.iload_n 2, 1) := dz_28 (n := 0) (r := 17) hz_X11_countFullSlots_0 rfl
theorem dX11_countFullSlots_18 : decode cX11_countFullSlots 18 = .ok (.aaload, 1) := dz_50 (n := 0) (r := 18) hz_X11_countFullSlots_0 rfl
theorem dX11_countFullSlots_19 : decode cX11_countFullSlots 19 = .ok (.getfield 150, 3) := dz_180 (n := 0) (r := 19) hz_X11_countFullSlots_0 rfl rfl
theorem dX11_countFullSlots_22 : decode cX11_countFullSlots 22 = .ok (.ifCond .eq 6, 3) := dz_153 (n := 0) (r := 22) hz_X11_countFullSlots_0 rfl (by decide +kernel)
theorem dX11_countFullSlots_25 : decode cX11_countFullSlots 25 = .ok (.iinc 1 1, 3) := dz_132 (n := 0) (r := 25) hz_X11_countFullSlots_0 rfl rfl rfl
theorem dX11_countFullSlots_28 : decode cX11_countFullSlots 28 = .ok (.iinc 2 1, 3) := dz_132 (n := 0) (r := 28) hz_X11_countFullSlots_0 rfl rfl rfl
theorem dX11_countFullSlots_31 : decode cX11_countFullSlots 31 = .ok (.goto (-27), 3) := dz_167 (n := 0) (r := 31) hz_X11_countFullSlots_0 rfl (by decide +kernel)
theorem hz_X11_countFullSlots_32 : (cX11_countFullSlots.data.toList.drop 32).take 40 = [255, 229, 27, 172] := by decide +kernel
theorem dX11_countFullSlots_34 : decode cX11_countFullSlots 34 = .ok (.iload_n 1, 1) := dz_27 (n := 32) (r := 2) hz_X11_countFullSlots_32 rfl
theorem dX11_countFullSlots_35 : decode cX11_countFullSlots 35 = .ok (.ireturn, 1) := dz_172 (n := 32) (r := 3) hz_X11_countFullSlots_32 rfl
theorem hz_X11_stampTies_0 : (cX11_stampTies.data.toList.drop 0).take 40 = [42, 89, 180, 0, 99, 4, 96, 181, 0, 99, 42, 180, 0, 31, 42, 180, 0, 99, 181, 1, 204, 42, 180, 0, 31, 42, 180, 0, 99, 181, 1, 207, 177] := by decide +kernel
theorem dX11_stampTies_0 : decode cX11_stampTies 0 = .ok (.aload_n 0, 1) := dz_42 (n := 0) (r := 0) hz_X11_stampTies_0 rfl
theorem dX11_stampTies_1 : decode cX11_stampTies 1 = .ok (.dup, 1) := dz_89 (n := 0) (r := 1) hz_X11_stampTies_0 rfl
theorem dX11_stampTies_2 : decode cX11_stampTies 2 = .ok (.getfield 99, 3) := dz_180 (n := 0) (r := 2) hz_X11_stampTies_0 rfl rfl
theorem dX11_stampTies_5 : decode cX11_stampTies 5 = .ok (.iconst 1, 1) := dz_4 (n := 0) (r := 5) hz_X11_stampTies_0 rfl
theorem dX11_stampTies_6 : decode cX11_stampTies 6 = .ok (.iadd, 1) := dz_96 (n := 0) (r := 6) hz_X11_stampTies_0 rfl
theorem dX11_stampTies_7 : decode cX11_stampTies 7 = .ok (.putfield 99, 3) := dz_181 (n := 0) (r := 7) hz_X11_stampTies_0 rfl rfl
theorem dX11_stampTies_10 : decode cX11_stampTies 10 = .ok (.aload_n 0, 1) := dz_42 (n := 0) (r := 10) hz_X11_stampTies_0 rfl
theorem dX11_stampTies_11 : decode cX11_stampTies 11 = .ok (.getfield 31, 3) := dz_180 (n := 0) (r := 11) hz_X11_stampTies_0 rfl rfl
theorem dX11_stampTies_14 : decode cX11_stampTies 14 = .ok (.aload_n 0, 1) := dz_42 (n := 0) (r := 14) hz_X11_stampTies_0 rfl
theorem dX11_stampTies_15 : decode cX11_stampTies 15 = .ok (.getfield 99, 3) := dz_180 (n := 0) (r := 15) hz_X11_stampTies_0 rfl rfl
theorem dX11_stampTies_18 : decode cX11_stampTies 18 = .ok (.putfield 460, 3) := dz_181 (n := 0) (r := 18) hz_X11_stampTies_0 rfl rfl
theorem dX11_stampTies_21 : decode cX11_stampTies 21 = .ok (.aload_n 0, 1) := dz_42 (n := 0) (r := 21) hz_X11_stampTies_0 rfl
theorem dX11_stampTies_22 : decode cX11_stampTies 22 = .ok (.getfield 31, 3) := dz_180 (n := 0) (r := 22) hz_X11_stampTies_0 rfl rfl
theorem dX11_stampTies_25 : decode cX11_stampTies 25 = .ok (.aload_n 0, 1) := dz_42 (n := 0) (r := 25) hz_X11_stampTies_0 rfl
theorem dX11_stampTies_26 : decode cX11_stampTies 26 = .ok (.getfield 99, 3) := dz_180 (n := 0) (r := 26) hz_X11_stampTies_0 rfl rfl
theorem dX11_stampTies_29 : decode cX11_stampTies 29 = .ok (.putfield 463, 3) := dz_181 (n := 0) (r := 29) hz_X11_stampTies_0 rfl rfl
theorem hz_X11_stampTies_32 : (cX11_stampTies.data.toList.drop 32).take 40 = [177] := by decide +kernel
theorem dX11_stampTies_32 : decode cX11_stampTies 32 = .ok (.return_, 1) := dz_177 (n := 32) (r := 0) hz_X11_stampTies_32 rfl
theorem hz_X11_stampPins_0 : (cX11_stampPins.data.toList.drop 0).take 40 = [42, 89, 180, 0, 99, 4, 96, 181, 0, 99, 42, 180, 0, 31, 42, 180, 0, 99, 181, 1, 207, 177] := by decide +kernel
theorem dX11_stampPins_0 : decode cX11_stampPins 0 = .ok (.aload_n 0, 1) := dz_42 (n := 0) (r := 0) hz_X11_stampPins_0 rfl
theorem dX11_stampPins_1 : decode cX11_stampPins 1 = .ok (.dup, 1) := dz_89 (n := 0) (r := 1) hz_X11_stampPins_0 rfl
theorem dX11_stampPins_2 : decode cX11_stampPins 2 = .ok (.getfield 99, 3) := dz_180 (n := 0) (r := 2) hz_X11_stampPins_0 rfl rfl
theorem dX11_stampPins_5 : decode cX11_stampPins 5 = .ok (.iconst 1, 1) := dz_4 (n := 0) (r := 5) hz_X11_stampPins_0 rfl
theorem dX11_stampPins_6 : decode cX11_stampPins 6 = .ok (.iadd, 1) := dz_96 (n := 0) (r := 6) hz_X11_stampPins_0 rfl
theorem dX11_stampPins_7 : decode cX11_stampPins 7 = .ok (.putfield 99, 3) := dz_181 (n := 0) (r := 7) hz_X11_stampPins_0 rfl rfl
theorem dX11_stampPins_10 : decode cX11_stampPins 10 = .ok (.aload_n 0, 1) := dz_42 (n := 0) (r := 10) hz_X11_stampPins_0 rfl
theorem dX11_stampPins_11 : decode cX11_stampPins 11 = .ok (.getfield 31, 3) := dz_180 (n := 0) (r := 11) hz_X11_stampPins_0 rfl rfl
theorem dX11_stampPins_14 : decode cX11_stampPins 14 = .ok (.aload_n 0, 1) := dz_42 (n := 0) (r := 14) hz_X11_stampPins_0 rfl
theorem dX11_stampPins_15 : decode cX11_stampPins 15 = .ok (.getfield 99, 3) := dz_180 (n := 0) (r := 15) hz_X11_stampPins_0 rfl rfl
theorem dX11_stampPins_18 : decode cX11_stampPins 18 = .ok (.putfield 463, 3) := dz_181 (n := 0) (r := 18) hz_X11_stampPins_0 rfl rfl
theorem dX11_stampPins_21 : decode cX11_stampPins 21 = .ok (.return_, 1) := dz_177 (n := 0) (r := 21) hz_X11_stampPins_0 rfl
theorem hz_X11_energiesNow_0 : (cX11_energiesNow.data.toList.drop 0).take 40 = [42, 180, 0, 52, 180, 1, 210, 42, 180, 0, 31, 180, 1, 204, 159, 0, 49, 42, 180, 0, 52, 42, 180, 0, 24, 42, 180, 0, 31, 180, 1, 84, 42, 180, 0, 31, 180, 1, 87, 42] := by decide +kernel
theorem dX11_energiesNow_0 : decode cX11_energiesNow 0 = .ok (.aload_n 0, 1) := dz_42 (n := 0) (r := 0) hz_X11_energiesNow_0 rfl
theorem dX11_energiesNow_1 : decode cX11_energiesNow 1 = .ok (.getfield 52, 3) := dz_180 (n := 0) (r := 1) hz_X11_energiesNow_0 rfl rfl
theorem dX11_energiesNow_4 : decode cX11_energiesNow 4 = .ok (.getfield 466, 3) := dz_180 (n := 0) (r := 4) hz_X11_energiesNow_0 rfl rfl
theorem dX11_energiesNow_7 : decode cX11_energiesNow 7 = .ok (.aload_n 0, 1) := dz_42 (n := 0) (r := 7) hz_X11_energiesNow_0 rfl
theorem dX11_energiesNow_8 : decode cX11_energiesNow 8 = .ok (.getfield 31, 3) := dz_180 (n := 0) (r := 8) hz_X11_energiesNow_0 rfl rfl
theorem dX11_energiesNow_11 : decode cX11_energiesNow 11 = .ok (.getfield 460, 3) := dz_180 (n := 0) (r := 11) hz_X11_energiesNow_0 rfl rfl
theorem dX11_energiesNow_14 : decode cX11_energiesNow 14 = .ok (.if_icmp .eq 49, 3) := dz_159 (n := 0) (r := 14) hz_X11_energiesNow_0 rfl (by decide +kernel)
theorem dX11_energiesNow_17 : decode cX11_energiesNow 17 = .ok (.aload_n 0, 1) := dz_42 (n := 0) (r := 17) hz_X11_energiesNow_0 rfl
theorem dX11_energiesNow_18 : decode cX11_energiesNow 18 = .ok (.getfield 52, 3) := dz_180 (n := 0) (r := 18) hz_X11_energiesNow_0 rfl rfl
theorem dX11_energiesNow_21 : decode cX11_energiesNow 21 = .ok (.aload_n 0, 1) := dz_42 (n := 0) (r := 21) hz_X11_energiesNow_0 rfl
theorem dX11_energiesNow_22 : decode cX11_energiesNow 22 = .ok (.getfield 24, 3) := dz_180 (n := 0) (r := 22) hz_X11_energiesNow_0 rfl rfl
theorem dX11_energiesNow_25 : decode cX11_energiesNow 25 = .ok (.aload_n 0, 1) := dz_42 (n := 0) (r := 25) hz_X11_energiesNow_0 rfl
theorem dX11_energiesNow_26 : decode cX11_energiesNow 26 = .ok (.getfield 31, 3) := dz_180 (n := 0) (r := 26) hz_X11_energiesNow_0 rfl rfl
theorem dX11_energiesNow_29 : decode cX11_energiesNow 29 = .ok (.getfield 340, 3) := dz_180 (n := 0) (r := 29) hz_X11_energiesNow_0 rfl rfl
theorem hz_X11_energiesNow_32 : (cX11_energiesNow.data.toList.drop 32).take 40 = [42, 180, 0, 31, 180, 1, 87, 42, 180, 0, 24, 180, 0, 197, 182, 1, 90, 42, 180, 0, 52, 42, 180, 0, 31, 180, 1, 204, 181, 1, 210, 42, 180, 0, 52, 176] := by decide +kernel
theorem dX11_energiesNow_32 : decode cX11_energiesNow 32 = .ok (.aload_n 0, 1) := dz_42 (n := 32) (r := 0) hz_X11_energiesNow_32 rfl
theorem dX11_energiesNow_33 : decode cX11_energiesNow 33 = .ok (.getfield 31, 3) := dz_180 (n := 32) (r := 1) hz_X11_energiesNow_32 rfl rfl
theorem dX11_energiesNow_36 : decode cX11_energiesNow 36 = .ok (.getfield 343, 3) := dz_180 (n := 32) (r := 4) hz_X11_energiesNow_32 rfl rfl
theorem dX11_energiesNow_39 : decode cX11_energiesNow 39 = .ok (.aload_n 0, 1) := dz_42 (n := 32) (r := 7) hz_X11_energiesNow_32 rfl
theorem dX11_energiesNow_40 : decode cX11_energiesNow 40 = .ok (.getfield 24, 3) := dz_180 (n := 32) (r := 8) hz_X11_energiesNow_32 rfl rfl
theorem dX11_energiesNow_43 : decode cX11_energiesNow 43 = .ok (.getfield 197, 3) := dz_180 (n := 32) (r := 11) hz_X11_energiesNow_32 rfl rfl
theorem dX11_energiesNow_46 : decode cX11_energiesNow 46 = .ok (.invokevirtual 346, 3) := dz_182 (n := 32) (r := 14) hz_X11_energiesNow_32 rfl rfl
theorem dX11_energiesNow_49 : decode cX11_energiesNow 49 = .ok (.aload_n 0, 1) := dz_42 (n := 32) (r := 17) hz_X11_energiesNow_32 rfl
theorem dX11_energiesNow_50 : decode cX11_energiesNow 50 = .ok (.getfield 52, 3) := dz_180 (n := 32) (r := 18) hz_X11_energiesNow_32 rfl rfl
theorem dX11_energiesNow_53 : decode cX11_energiesNow 53 = .ok (.aload_n 0, 1) := dz_42 (n := 32) (r := 21) hz_X11_energiesNow_32 rfl
theorem dX11_energiesNow_54 : decode cX11_energiesNow 54 = .ok (.getfield 31, 3) := dz_180 (n := 32) (r := 22) hz_X11_energiesNow_32 rfl rfl
theorem dX11_energiesNow_57 : decode cX11_energiesNow 57 = .ok (.getfield 460, 3) := dz_180 (n := 32) (r := 25) hz_X11_energiesNow_32 rfl rfl
theorem dX11_energiesNow_60 : decode cX11_energiesNow 60 = .ok (.putfield 466, 3) := dz_181 (n := 32) (r := 28) hz_X11_energiesNow_32 rfl rfl
theorem dX11_energiesNow_63 : decode cX11_energiesNow 63 = .ok (.aload_n 0, 1) := dz_42 (n := 32) (r := 31) hz_X11_energiesNow_32 rfl
theorem hz_X11_energiesNow_64 : (cX11_energiesNow.data.toList.drop 64).take 40 = [180, 0, 52, 176] := by decide +kernel
theorem dX11_energiesNow_64 : decode cX11_energiesNow 64 = .ok (.getfield 52, 3) := dz_180 (n := 64) (r := 0) hz_X11_energiesNow_64 rfl rfl
theorem dX11_energiesNow_67 : decode cX11_energiesNow 67 = .ok (.areturn, 1) := dz_176 (n := 64) (r := 3) hz_X11_energiesNow_64 rfl
theorem hz_X11_levelsNow_0 : (cX11_levelsNow.data.toList.drop 0).take 40 = [42, 182, 1, 111, 87, 42, 180, 0, 62, 180, 1, 213, 42, 180, 0, 31, 180, 1, 207, 159, 0, 39, 42, 180, 0, 62, 42, 180, 0, 52, 42, 180, 0, 31, 42, 180, 0, 24, 182, 1] := by decide +kernel
theorem dX11_levelsNow_0 : decode cX11_levelsNow 0 = .ok (.aload_n 0, 1) := dz_42 (n := 0) (r := 0) hz_X11_levelsNow_0 rfl
theorem dX11_levelsNow_1 : decode cX11_levelsNow 1 = .ok (.invokevirtual 367, 3) := dz_182 (n := 0) (r := 1) hz_X11_levelsNow_0 rfl rfl
theorem dX11_levelsNow_4 : decode cX11_levelsNow 4 = .ok (.pop, 1) := dz_87 (n := 0) (r := 4) hz_X11_levelsNow_0 rfl
theorem dX11_levelsNow_5 : decode cX11_levelsNow 5 = .ok (.aload_n 0, 1) := dz_42 (n := 0) (r := 5) hz_X11_levelsNow_0 rfl
theorem dX11_levelsNow_6 : decode cX11_levelsNow 6 = .ok (.getfield 62, 3) := dz_180 (n := 0) (r := 6) hz_X11_levelsNow_0 rfl rfl
theorem dX11_levelsNow_9 : decode cX11_levelsNow 9 = .ok (.getfield 469, 3) := dz_180 (n := 0) (r := 9) hz_X11_levelsNow_0 rfl rfl
theorem dX11_levelsNow_12 : decode cX11_levelsNow 12 = .ok (.aload_n 0, 1) := dz_42 (n := 0) (r := 12) hz_X11_levelsNow_0 rfl
theorem dX11_levelsNow_13 : decode cX11_levelsNow 13 = .ok (.getfield 31, 3) := dz_180 (n := 0) (r := 13) hz_X11_levelsNow_0 rfl rfl
theorem dX11_levelsNow_16 : decode cX11_levelsNow 16 = .ok (.getfield 463, 3) := dz_180 (n := 0) (r := 16) hz_X11_levelsNow_0 rfl rfl
theorem dX11_levelsNow_19 : decode cX11_levelsNow 19 = .ok (.if_icmp .eq 39, 3) := dz_159 (n := 0) (r := 19) hz_X11_levelsNow_0 rfl (by decide +kernel)
theorem dX11_levelsNow_22 : decode cX11_levelsNow 22 = .ok (.aload_n 0, 1) := dz_42 (n := 0) (r := 22) hz_X11_levelsNow_0 rfl
theorem dX11_levelsNow_23 : decode cX11_levelsNow 23 = .ok (.getfield 62, 3) := dz_180 (n := 0) (r := 23) hz_X11_levelsNow_0 rfl rfl
theorem dX11_levelsNow_26 : decode cX11_levelsNow 26 = .ok (.aload_n 0, 1) := dz_42 (n := 0) (r := 26) hz_X11_levelsNow_0 rfl
theorem dX11_levelsNow_27 : decode cX11_levelsNow 27 = .ok (.getfield 52, 3) := dz_180 (n := 0) (r := 27) hz_X11_levelsNow_0 rfl rfl
theorem dX11_levelsNow_30 : decode cX11_levelsNow 30 = .ok (.aload_n 0, 1) := dz_42 (n := 0) (r := 30) hz_X11_levelsNow_0 rfl
theorem dX11_levelsNow_31 : decode cX11_levelsNow 31 = .ok (.getfield 31, 3) := dz_180 (n := 0) (r := 31) hz_X11_levelsNow_0 rfl rfl
theorem hz_X11_levelsNow_32 : (cX11_levelsNow.data.toList.drop 32).take 40 = [0, 31, 42, 180, 0, 24, 182, 1, 35, 182, 1, 214, 42, 180, 0, 62, 42, 180, 0, 31, 180, 1, 207, 181, 1, 213, 42, 180, 0, 62, 176] := by decide +kernel
theorem dX11_levelsNow_34 : decode cX11_levelsNow 34 = .ok (.aload_n 0, 1) := dz_42 (n := 32) (r := 2) hz_X11_levelsNow_32 rfl
theorem dX11_levelsNow_35 : decode cX11_levelsNow 35 = .ok (.getfield 24, 3) := dz_180 (n := 32) (r := 3) hz_X11_levelsNow_32 rfl rfl
theorem dX11_levelsNow_38 : decode cX11_levelsNow 38 = .ok (.invokevirtual 291, 3) := dz_182 (n := 32) (r := 6) hz_X11_levelsNow_32 rfl rfl
theorem dX11_levelsNow_41 : decode cX11_levelsNow 41 = .ok (.invokevirtual 470, 3) := dz_182 (n := 32) (r := 9) hz_X11_levelsNow_32 rfl rfl
theorem dX11_levelsNow_44 : decode cX11_levelsNow 44 = .ok (.aload_n 0, 1) := dz_42 (n := 32) (r := 12) hz_X11_levelsNow_32 rfl
theorem dX11_levelsNow_45 : decode cX11_levelsNow 45 = .ok (.getfield 62, 3) := dz_180 (n := 32) (r := 13) hz_X11_levelsNow_32 rfl rfl
theorem dX11_levelsNow_48 : decode cX11_levelsNow 48 = .ok (.aload_n 0, 1) := dz_42 (n := 32) (r := 16) hz_X11_levelsNow_32 rfl
theorem dX11_levelsNow_49 : decode cX11_levelsNow 49 = .ok (.getfield 31, 3) := dz_180 (n := 32) (r := 17) hz_X11_levelsNow_32 rfl rfl
theorem dX11_levelsNow_52 : decode cX11_levelsNow 52 = .ok (.getfield 463, 3) := dz_180 (n := 32) (r := 20) hz_X11_levelsNow_32 rfl rfl
theorem dX11_levelsNow_55 : decode cX11_levelsNow 55 = .ok (.putfield 469, 3) := dz_181 (n := 32) (r := 23) hz_X11_levelsNow_32 rfl rfl
theorem dX11_levelsNow_58 : decode cX11_levelsNow 58 = .ok (.aload_n 0, 1) := dz_42 (n := 32) (r := 26) hz_X11_levelsNow_32 rfl
theorem dX11_levelsNow_59 : decode cX11_levelsNow 59 = .ok (.getfield 62, 3) := dz_180 (n := 32) (r := 27) hz_X11_levelsNow_32 rfl rfl
theorem dX11_levelsNow_62 : decode cX11_levelsNow 62 = .ok (.areturn, 1) := dz_176 (n := 32) (r := 30) hz_X11_levelsNow_32 rfl
theorem hz_X11_breaksNow_0 : (cX11_breaksNow.data.toList.drop 0).take 40 = [42, 180, 0, 69, 180, 1, 218, 42, 180, 0, 31, 180, 1, 207, 159, 0, 36, 42, 180, 0, 69, 42, 180, 0, 24, 42, 180, 0, 31, 42, 180, 0, 56, 182, 1, 219, 42, 180, 0, 69] := by decide +kernel
theorem dX11_breaksNow_0 : decode cX11_breaksNow 0 = .ok (.aload_n 0, 1) := dz_42 (n := 0) (r := 0) hz_X11_breaksNow_0 rfl
theorem dX11_breaksNow_1 : decode cX11_breaksNow 1 = .ok (.getfield 69, 3) := dz_180 (n := 0) (r := 1) hz_X11_breaksNow_0 rfl rfl
theorem dX11_breaksNow_4 : decode cX11_breaksNow 4 = .ok (.getfield 474, 3) := dz_180 (n := 0) (r := 4) hz_X11_breaksNow_0 rfl rfl
theorem dX11_breaksNow_7 : decode cX11_breaksNow 7 = .ok (.aload_n 0, 1) := dz_42 (n := 0) (r := 7) hz_X11_breaksNow_0 rfl
theorem dX11_breaksNow_8 : decode cX11_breaksNow 8 = .ok (.getfield 31, 3) := dz_180 (n := 0) (r := 8) hz_X11_breaksNow_0 rfl rfl
theorem dX11_breaksNow_11 : decode cX11_breaksNow 11 = .ok (.getfield 463, 3) := dz_180 (n := 0) (r := 11) hz_X11_breaksNow_0 rfl rfl
theorem dX11_breaksNow_14 : decode cX11_breaksNow 14 = .ok (.if_icmp .eq 36, 3) := dz_159 (n := 0) (r := 14) hz_X11_breaksNow_0 rfl (by decide +kernel)
theorem dX11_breaksNow_17 : decode cX11_breaksNow 17 = .ok (.aload_n 0, 1) := dz_42 (n := 0) (r := 17) hz_X11_breaksNow_0 rfl
theorem dX11_breaksNow_18 : decode cX11_breaksNow 18 = .ok (.getfield 69, 3) := dz_180 (n := 0) (r := 18) hz_X11_breaksNow_0 rfl rfl
theorem dX11_breaksNow_21 : decode cX11_breaksNow 21 = .ok (.aload_n 0, 1) := dz_42 (n := 0) (r := 21) hz_X11_breaksNow_0 rfl
theorem dX11_breaksNow_22 : decode cX11_breaksNow 22 = .ok (.getfield 24, 3) := dz_180 (n := 0) (r := 22) hz_X11_breaksNow_0 rfl rfl
theorem dX11_breaksNow_25 : decode cX11_breaksNow 25 = .ok (.aload_n 0, 1) := dz_42 (n := 0) (r := 25) hz_X11_breaksNow_0 rfl
theorem dX11_breaksNow_26 : decode cX11_breaksNow 26 = .ok (.getfield 31, 3) := dz_180 (n := 0) (r := 26) hz_X11_breaksNow_0 rfl rfl
theorem dX11_breaksNow_29 : decode cX11_breaksNow 29 = .ok (.aload_n 0, 1) := dz_42 (n := 0) (r := 29) hz_X11_breaksNow_0 rfl
theorem dX11_breaksNow_30 : decode cX11_breaksNow 30 = .ok (.getfield 56, 3) := dz_180 (n := 0) (r := 30) hz_X11_breaksNow_0 rfl rfl
theorem hz_X11_breaksNow_32 : (cX11_breaksNow.data.toList.drop 32).take 40 = [56, 182, 1, 219, 42, 180, 0, 69, 42, 180, 0, 31, 180, 1, 207, 181, 1, 218, 42, 180, 0, 69, 176] := by decide +kernel
theorem dX11_breaksNow_33 : decode cX11_breaksNow 33 = .ok (.invokevirtual 475, 3) := dz_182 (n := 32) (r := 1) hz_X11_breaksNow_32 rfl rfl
theorem dX11_breaksNow_36 : decode cX11_breaksNow 36 = .ok (.aload_n 0, 1) := dz_42 (n := 32) (r := 4) hz_X11_breaksNow_32 rfl
theorem dX11_breaksNow_37 : decode cX11_breaksNow 37 = .ok (.getfield 69, 3) := dz_180 (n := 32) (r := 5) hz_X11_breaksNow_32 rfl rfl
theorem dX11_breaksNow_40 : decode cX11_breaksNow 40 = .ok (.aload_n 0, 1) := dz_42 (n := 32) (r := 8) hz_X11_breaksNow_32 rfl
theorem dX11_breaksNow_41 : decode cX11_breaksNow 41 = .ok (.getfield 31, 3) := dz_180 (n := 32) (r := 9) hz_X11_breaksNow_32 rfl rfl
theorem dX11_breaksNow_44 : decode cX11_breaksNow 44 = .ok (.getfield 463, 3) := dz_180 (n := 32) (r := 12) hz_X11_breaksNow_32 rfl rfl
theorem dX11_breaksNow_47 : decode cX11_breaksNow 47 = .ok (.putfield 474, 3) := dz_181 (n := 32) (r := 15) hz_X11_breaksNow_32 rfl rfl
theorem dX11_breaksNow_50 : decode cX11_breaksNow 50 = .ok (.aload_n 0, 1) := dz_42 (n := 32) (r := 18) hz_X11_breaksNow_32 rfl
theorem dX11_breaksNow_51 : decode cX11_breaksNow 51 = .ok (.getfield 69, 3) := dz_180 (n := 32) (r := 19) hz_X11_breaksNow_32 rfl rfl
theorem dX11_breaksNow_54 : decode cX11_breaksNow 54 = .ok (.areturn, 1) := dz_176 (n := 32) (r := 22) hz_X11_breaksNow_32 rfl
theorem hz_X11_terrainNow_0 : (cX11_terrainNow.data.toList.drop 0).take 40 = [42, 182, 0, 251, 76, 42, 180, 0, 76, 180, 1, 222, 42, 180, 0, 31, 180, 1, 207, 159, 0, 40, 42, 180, 0, 76, 42, 180, 0, 52, 43, 42, 180, 0, 31, 42, 180, 0, 24, 180] := by decide +kernel
theorem dX11_terrainNow_0 : decode cX11_terrainNow 0 = .ok (.aload_n 0, 1) := dz_42 (n := 0) (r := 0) hz_X11_terrainNow_0 rfl
theorem dX11_terrainNow_1 : decode cX11_terrainNow 1 = .ok (.invokevirtual 251, 3) := dz_182 (n := 0) (r := 1) hz_X11_terrainNow_0 rfl rfl
theorem dX11_terrainNow_4 : decode cX11_terrainNow 4 = .ok (.astore_n 1, 1) := dz_76 (n := 0) (r := 4) hz_X11_terrainNow_0 rfl
theorem dX11_terrainNow_5 : decode cX11_terrainNow 5 = .ok (.aload_n 0, 1) := dz_42 (n := 0) (r := 5) hz_X11_terrainNow_0 rfl
theorem dX11_terrainNow_6 : decode cX11_terrainNow 6 = .ok (.getfield 76, 3) := dz_180 (n := 0) (r := 6) hz_X11_terrainNow_0 rfl rfl
theorem dX11_terrainNow_9 : decode cX11_terrainNow 9 = .ok (.getfield 478, 3) := dz_180 (n := 0) (r := 9) hz_X11_terrainNow_0 rfl rfl
theorem dX11_terrainNow_12 : decode cX11_terrainNow 12 = .ok (.aload_n 0, 1) := dz_42 (n := 0) (r := 12) hz_X11_terrainNow_0 rfl
theorem dX11_terrainNow_13 : decode cX11_terrainNow 13 = .ok (.getfield 31, 3) := dz_180 (n := 0) (r := 13) hz_X11_terrainNow_0 rfl rfl
theorem dX11_terrainNow_16 : decode cX11_terrainNow 16 = .ok (.getfield 463, 3) := dz_180 (n := 0) (r := 16) hz_X11_terrainNow_0 rfl rfl
theorem dX11_terrainNow_19 : decode cX11_terrainNow 19 = .ok (.if_icmp .eq 40, 3) := dz_159 (n := 0) (r := 19) hz_X11_terrainNow_0 rfl (by decide +kernel)
theorem dX11_terrainNow_22 : decode cX11_terrainNow 22 = .ok (.aload_n 0, 1) := dz_42 (n := 0) (r := 22) hz_X11_terrainNow_0 rfl
theorem dX11_terrainNow_23 : decode cX11_terrainNow 23 = .ok (.getfield 76, 3) := dz_180 (n := 0) (r := 23) hz_X11_terrainNow_0 rfl rfl
theorem dX11_terrainNow_26 : decode cX11_terrainNow 26 = .ok (.aload_n 0, 1) := dz_42 (n := 0) (r := 26) hz_X11_terrainNow_0 rfl
theorem dX11_terrainNow_27 : decode cX11_terrainNow 27 = .ok (.getfield 52, 3) := dz_180 (n := 0) (r := 27) hz_X11_terrainNow_0 rfl rfl
theorem dX11_terrainNow_30 : decode cX11_terrainNow 30 = .ok (.aload_n 1, 1) := dz_43 (n := 0) (r := 30) hz_X11_terrainNow_0 rfl
theorem dX11_terrainNow_31 : decode cX11_terrainNow 31 = .ok (.aload_n 0, 1) := dz_42 (n := 0) (r := 31) hz_X11_terrainNow_0 rfl
theorem hz_X11_terrainNow_32 : (cX11_terrainNow.data.toList.drop 32).take 40 = [180, 0, 31, 42, 180, 0, 24, 180, 0, 197, 182, 1, 223, 42, 180, 0, 76, 42, 180, 0, 31, 180, 1, 207, 181, 1, 222, 42, 180, 0, 76, 176] := by decide +kernel
theorem dX11_terrainNow_32 : decode cX11_terrainNow 32 = .ok (.getfield 31, 3) := dz_180 (n := 32) (r := 0) hz_X11_terrainNow_32 rfl rfl
theorem dX11_terrainNow_35 : decode cX11_terrainNow 35 = .ok (.aload_n 0, 1) := dz_42 (n := 32) (r := 3) hz_X11_terrainNow_32 rfl
theorem dX11_terrainNow_36 : decode cX11_terrainNow 36 = .ok (.getfield 24, 3) := dz_180 (n := 32) (r := 4) hz_X11_terrainNow_32 rfl rfl
theorem dX11_terrainNow_39 : decode cX11_terrainNow 39 = .ok (.getfield 197, 3) := dz_180 (n := 32) (r := 7) hz_X11_terrainNow_32 rfl rfl
theorem dX11_terrainNow_42 : decode cX11_terrainNow 42 = .ok (.invokevirtual 479, 3) := dz_182 (n := 32) (r := 10) hz_X11_terrainNow_32 rfl rfl
theorem dX11_terrainNow_45 : decode cX11_terrainNow 45 = .ok (.aload_n 0, 1) := dz_42 (n := 32) (r := 13) hz_X11_terrainNow_32 rfl
theorem dX11_terrainNow_46 : decode cX11_terrainNow 46 = .ok (.getfield 76, 3) := dz_180 (n := 32) (r := 14) hz_X11_terrainNow_32 rfl rfl
theorem dX11_terrainNow_49 : decode cX11_terrainNow 49 = .ok (.aload_n 0, 1) := dz_42 (n := 32) (r := 17) hz_X11_terrainNow_32 rfl
theorem dX11_terrainNow_50 : decode cX11_terrainNow 50 = .ok (.getfield 31, 3) := dz_180 (n := 32) (r := 18) hz_X11_terrainNow_32 rfl rfl
theorem dX11_terrainNow_53 : decode cX11_terrainNow 53 = .ok (.getfield 463, 3) := dz_180 (n := 32) (r := 21) hz_X11_terrainNow_32 rfl rfl
theorem dX11_terrainNow_56 : decode cX11_terrainNow 56 = .ok (.putfield 478, 3) := dz_181 (n := 32) (r := 24) hz_X11_terrainNow_32 rfl rfl
theorem dX11_terrainNow_59 : decode cX11_terrainNow 59 = .ok (.aload_n 0, 1) := dz_42 (n := 32) (r := 27) hz_X11_terrainNow_32 rfl
theorem dX11_terrainNow_60 : decode cX11_terrainNow 60 = .ok (.getfield 76, 3) := dz_180 (n := 32) (r := 28) hz_X11_terrainNow_32 rfl rfl
theorem dX11_terrainNow_63 : decode cX11_terrainNow 63 = .ok (.areturn, 1) := dz_176 (n := 32) (r := 31) hz_X11_terrainNow_32 rfl
theorem hz_X11_isLawful_0 : (cX11_isLawful.data.toList.drop 0).take 40 = [27, 155, 0, 29, 27, 42, 180, 0, 24, 182, 1, 35, 162, 0, 18, 42, 180, 0, 31, 27, 182, 1, 39, 153, 0, 7, 4, 167, 0, 4, 3, 172] := by decide +kernel
theorem dX11_isLawful_0 : decode cX11_isLawful 0 = .ok (.iload_n 1, 1) := dz_27 (n := 0) (r := 0) hz_X11_isLawful_0 rfl
theorem dX11_isLawful_1 : decode cX11_isLawful 1 = .ok (.ifCond .lt 29, 3) := dz_155 (n := 0) (r := 1) hz_X11_isLawful_0 rfl (by decide +kernel)
theorem dX11_isLawful_4 : decode cX11_isLawful 4 = .ok (.iload_n 1, 1) := dz_27 (n := 0) (r := 4) hz_X11_isLawful_0 rfl
theorem dX11_isLawful_5 : decode cX11_isLawful 5 = .ok (.aload_n 0, 1) := dz_42 (n := 0) (r := 5) hz_X11_isLawful_0 rfl
theorem dX11_isLawful_6 : decode cX11_isLawful 6 = .ok (.getfield 24, 3) := dz_180 (n := 0) (r := 6) hz_X11_isLawful_0 rfl rfl
theorem dX11_isLawful_9 : decode cX11_isLawful 9 = .ok (.invokevirtual 291, 3) := dz_182 (n := 0) (r := 9) hz_X11_isLawful_0 rfl rfl
theorem dX11_isLawful_12 : decode cX11_isLawful 12 = .ok (.if_icmp .ge 18, 3) := dz_162 (n := 0) (r := 12) hz_X11_isLawful_0 rfl (by decide +kernel)
theorem dX11_isLawful_15 : decode cX11_isLawful 15 = .ok (.aload_n 0, 1) := dz_42 (n := 0) (r := 15) hz_X11_isLawful_0 rfl
theorem dX11_isLawful_16 : decode cX11_isLawful 16 = .ok (.getfield 31, 3) := dz_180 (n := 0) (r := 16) hz_X11_isLawful_0 rfl rfl
theorem dX11_isLawful_19 : decode cX11_isLawful 19 = .ok (.iload_n 1, 1) := dz_27 (n := 0) (r := 19) hz_X11_isLawful_0 rfl
theorem dX11_isLawful_20 : decode cX11_isLawful 20 = .ok (.invokevirtual 295, 3) := dz_182 (n := 0) (r := 20) hz_X11_isLawful_0 rfl rfl
theorem dX11_isLawful_23 : decode cX11_isLawful 23 = .ok (.ifCond .eq 7, 3) := dz_153 (n := 0) (r := 23) hz_X11_isLawful_0 rfl (by decide +kernel)
theorem dX11_isLawful_26 : decode cX11_isLawful 26 = .ok (.iconst 1, 1) := dz_4 (n := 0) (r := 26) hz_X11_isLawful_0 rfl
theorem dX11_isLawful_27 : decode cX11_isLawful 27 = .ok (.goto 4, 3) := dz_167 (n := 0) (r := 27) hz_X11_isLawful_0 rfl (by decide +kernel)
theorem dX11_isLawful_30 : decode cX11_isLawful 30 = .ok (.iconst 0, 1) := dz_3 (n := 0) (r := 30) hz_X11_isLawful_0 rfl
theorem dX11_isLawful_31 : decode cX11_isLawful 31 = .ok (.ireturn, 1) := dz_172 (n := 0) (r := 31) hz_X11_isLawful_0 rfl
theorem hz_X11_isJ_0 : (cX11_isJ.data.toList.drop 0).take 40 = [26, 16, 253, 161, 0, 12, 26, 6, 163, 0, 7, 4, 167, 0, 4, 3, 172] := by decide +kernel
theorem dX11_isJ_0 : decode cX11_isJ 0 = .ok (.iload_n 0, 1) := dz_26 (n := 0) (r := 0) hz_X11_isJ_0 rfl
theorem dX11_isJ_1 : decode cX11_isJ 1 = .ok (.bipush (-3), 2) := dz_16 (n := 0) (r := 1) hz_X11_isJ_0 rfl rfl
theorem dX11_isJ_3 : decode cX11_isJ 3 = .ok (.if_icmp .lt 12, 3) := dz_161 (n := 0) (r := 3) hz_X11_isJ_0 rfl (by decide +kernel)
theorem dX11_isJ_6 : decode cX11_isJ 6 = .ok (.iload_n 0, 1) := dz_26 (n := 0) (r := 6) hz_X11_isJ_0 rfl
theorem dX11_isJ_7 : decode cX11_isJ 7 = .ok (.iconst 3, 1) := dz_6 (n := 0) (r := 7) hz_X11_isJ_0 rfl
theorem dX11_isJ_8 : decode cX11_isJ 8 = .ok (.if_icmp .gt 7, 3) := dz_163 (n := 0) (r := 8) hz_X11_isJ_0 rfl (by decide +kernel)
theorem dX11_isJ_11 : decode cX11_isJ 11 = .ok (.iconst 1, 1) := dz_4 (n := 0) (r := 11) hz_X11_isJ_0 rfl
theorem dX11_isJ_12 : decode cX11_isJ 12 = .ok (.goto 4, 3) := dz_167 (n := 0) (r := 12) hz_X11_isJ_0 rfl (by decide +kernel)
theorem dX11_isJ_15 : decode cX11_isJ 15 = .ok (.iconst 0, 1) := dz_3 (n := 0) (r := 15) hz_X11_isJ_0 rfl
theorem dX11_isJ_16 : decode cX11_isJ 16 = .ok (.ireturn, 1) := dz_172 (n := 0) (r := 16) hz_X11_isJ_0 rfl
theorem hz_X11_bitOf_0 : (cX11_bitOf.data.toList.drop 0).take 40 = [26, 27, 122, 4, 126, 172] := by decide +kernel
theorem dX11_bitOf_0 : decode cX11_bitOf 0 = .ok (.iload_n 0, 1) := dz_26 (n := 0) (r := 0) hz_X11_bitOf_0 rfl
theorem dX11_bitOf_1 : decode cX11_bitOf 1 = .ok (.iload_n 1, 1) := dz_27 (n := 0) (r := 1) hz_X11_bitOf_0 rfl
theorem dX11_bitOf_2 : decode cX11_bitOf 2 = .ok (.ishr, 1) := dz_122 (n := 0) (r := 2) hz_X11_bitOf_0 rfl
theorem dX11_bitOf_3 : decode cX11_bitOf 3 = .ok (.iconst 1, 1) := dz_4 (n := 0) (r := 3) hz_X11_bitOf_0 rfl
theorem dX11_bitOf_4 : decode cX11_bitOf 4 = .ok (.iand, 1) := dz_126 (n := 0) (r := 4) hz_X11_bitOf_0 rfl
theorem dX11_bitOf_5 : decode cX11_bitOf 5 = .ok (.ireturn, 1) := dz_172 (n := 0) (r := 5) hz_X11_bitOf_0 rfl
theorem hz_X11_nextLot_0 : (cX11_nextLot.data.toList.drop 0).take 40 = [30, 20, 1, 227, 105, 20, 1, 229, 97, 20, 1, 231, 113, 173] := by decide +kernel
theorem dX11_nextLot_0 : decode cX11_nextLot 0 = .ok (.lload_n 0, 1) := dz_30 (n := 0) (r := 0) hz_X11_nextLot_0 rfl
theorem dX11_nextLot_1 : decode cX11_nextLot 1 = .ok (.ldc2_w 483, 3) := dz_20 (n := 0) (r := 1) hz_X11_nextLot_0 rfl rfl
theorem dX11_nextLot_4 : decode cX11_nextLot 4 = .ok (.lmul, 1) := dz_105 (n := 0) (r := 4) hz_X11_nextLot_0 rfl
theorem dX11_nextLot_5 : decode cX11_nextLot 5 = .ok (.ldc2_w 485, 3) := dz_20 (n := 0) (r := 5) hz_X11_nextLot_0 rfl rfl
theorem dX11_nextLot_8 : decode cX11_nextLot 8 = .ok (.ladd, 1) := dz_97 (n := 0) (r := 8) hz_X11_nextLot_0 rfl
theorem dX11_nextLot_9 : decode cX11_nextLot 9 = .ok (.ldc2_w 487, 3) := dz_20 (n := 0) (r := 9) hz_X11_nextLot_0 rfl rfl
theorem dX11_nextLot_12 : decode cX11_nextLot 12 = .ok (.lrem, 1) := dz_113 (n := 0) (r := 12) hz_X11_nextLot_0 rfl
theorem dX11_nextLot_13 : decode cX11_nextLot 13 = .ok (.lreturn, 1) := dz_173 (n := 0) (r := 13) hz_X11_nextLot_0 rfl
theorem hz_X11_lotOf_0 : (cX11_lotOf.data.toList.drop 0).take 40 = [28, 158, 0, 15, 30, 20, 1, 233, 109, 28, 133, 113, 136, 167, 0, 4, 3, 172] := by decide +kernel
theorem dX11_lotOf_0 : decode cX11_lotOf 0 = .ok (.iload_n 2, 1) := dz_28 (n := 0) (r := 0) hz_X11_lotOf_0 rfl
theorem dX11_lotOf_1 : decode cX11_lotOf 1 = .ok (.ifCond .le 15, 3) := dz_158 (n := 0) (r := 1) hz_X11_lotOf_0 rfl (by decide +kernel)
theorem dX11_lotOf_4 : decode cX11_lotOf 4 = .ok (.lload_n 0, 1) := dz_30 (n := 0) (r := 4) hz_X11_lotOf_0 rfl
theorem dX11_lotOf_5 : decode cX11_lotOf 5 = .ok (.ldc2_w 489, 3) := dz_20 (n := 0) (r := 5) hz_X11_lotOf_0 rfl rfl
theorem dX11_lotOf_8 : decode cX11_lotOf 8 = .ok (.ldiv, 1) := dz_109 (n := 0) (r := 8) hz_X11_lotOf_0 rfl
theorem dX11_lotOf_9 : decode cX11_lotOf 9 = .ok (.iload_n 2, 1) := dz_28 (n := 0) (r := 9) hz_X11_lotOf_0 rfl
theorem dX11_lotOf_10 : decode cX11_lotOf 10 = .ok (.i2l, 1) := dz_133 (n := 0) (r := 10) hz_X11_lotOf_0 rfl
theorem dX11_lotOf_11 : decode cX11_lotOf 11 = .ok (.lrem, 1) := dz_113 (n := 0) (r := 11) hz_X11_lotOf_0 rfl
theorem dX11_lotOf_12 : decode cX11_lotOf 12 = .ok (.l2i, 1) := dz_136 (n := 0) (r := 12) hz_X11_lotOf_0 rfl
theorem dX11_lotOf_13 : decode cX11_lotOf 13 = .ok (.goto 4, 3) := dz_167 (n := 0) (r := 13) hz_X11_lotOf_0 rfl (by decide +kernel)
theorem dX11_lotOf_16 : decode cX11_lotOf 16 = .ok (.iconst 0, 1) := dz_3 (n := 0) (r := 16) hz_X11_lotOf_0 rfl
theorem dX11_lotOf_17 : decode cX11_lotOf 17 = .ok (.ireturn, 1) := dz_172 (n := 0) (r := 17) hz_X11_lotOf_0 rfl
theorem hz_X11_partOfFraction_0 : (cX11_partOfFraction.data.toList.drop 0).take 40 = [26, 184, 1, 235, 27, 184, 1, 238, 62, 29, 154, 0, 6, 18, 226, 172, 28, 171, 0, 0, 0, 0, 0, 35, 0, 0, 0, 2, 0, 0, 0, 0, 0, 0, 0, 27, 0, 0, 0, 1] := by decide +kernel
theorem dX11_partOfFraction_0 : decode cX11_partOfFraction 0 = .ok (.iload_n 0, 1) := dz_26 (n := 0) (r := 0) hz_X11_partOfFraction_0 rfl
theorem dX11_partOfFraction_1 : decode cX11_partOfFraction 1 = .ok (.invokestatic 491, 3) := dz_184 (n := 0) (r := 1) hz_X11_partOfFraction_0 rfl rfl
theorem dX11_partOfFraction_4 : decode cX11_partOfFraction 4 = .ok (.iload_n 1, 1) := dz_27 (n := 0) (r := 4) hz_X11_partOfFraction_0 rfl
theorem dX11_partOfFraction_5 : decode cX11_partOfFraction 5 = .ok (.invokestatic 494, 3) := dz_184 (n := 0) (r := 5) hz_X11_partOfFraction_0 rfl rfl
theorem dX11_partOfFraction_8 : decode cX11_partOfFraction 8 = .ok (.istore_n 3, 1) := dz_62 (n := 0) (r := 8) hz_X11_partOfFraction_0 rfl
theorem dX11_partOfFraction_9 : decode cX11_partOfFraction 9 = .ok (.iload_n 3, 1) := dz_29 (n := 0) (r := 9) hz_X11_partOfFraction_0 rfl
theorem dX11_partOfFraction_10 : decode cX11_partOfFraction 10 = .ok (.ifCond .ne 6, 3) := dz_154 (n := 0) (r := 10) hz_X11_partOfFraction_0 rfl (by decide +kernel)
theorem dX11_partOfFraction_13 : decode cX11_partOfFraction 13 = .ok (.ldc 226, 2) := dz_18 (n := 0) (r := 13) hz_X11_partOfFraction_0 rfl rfl
theorem dX11_partOfFraction_15 : decode cX11_partOfFraction 15 = .ok (.ireturn, 1) := dz_172 (n := 0) (r := 15) hz_X11_partOfFraction_0 rfl
theorem dX11_partOfFraction_16 : decode cX11_partOfFraction 16 = .ok (.iload_n 2, 1) := dz_28 (n := 0) (r := 16) hz_X11_partOfFraction_0 rfl
theorem dX11_partOfFraction_17 : decode cX11_partOfFraction 17 = .ok (.lookupswitch 35 #[(0, 27), (1, 31)], 27) := by decide +kernel
theorem hz_X11_partOfFraction_32 : (cX11_partOfFraction.data.toList.drop 32).take 40 = [0, 0, 0, 27, 0, 0, 0, 1, 0, 0, 0, 31, 26, 29, 108, 172, 27, 29, 108, 172, 18, 226, 172] := by decide +kernel
theorem dX11_partOfFraction_44 : decode cX11_partOfFraction 44 = .ok (.iload_n 0, 1) := dz_26 (n := 32) (r := 12) hz_X11_partOfFraction_32 rfl
theorem dX11_partOfFraction_45 : decode cX11_partOfFraction 45 = .ok (.iload_n 3, 1) := dz_29 (n := 32) (r := 13) hz_X11_partOfFraction_32 rfl
theorem dX11_partOfFraction_46 : decode cX11_partOfFraction 46 = .ok (.idiv, 1) := dz_108 (n := 32) (r := 14) hz_X11_partOfFraction_32 rfl
theorem dX11_partOfFraction_47 : decode cX11_partOfFraction 47 = .ok (.ireturn, 1) := dz_172 (n := 32) (r := 15) hz_X11_partOfFraction_32 rfl
theorem dX11_partOfFraction_48 : decode cX11_partOfFraction 48 = .ok (.iload_n 1, 1) := dz_27 (n := 32) (r := 16) hz_X11_partOfFraction_32 rfl
theorem dX11_partOfFraction_49 : decode cX11_partOfFraction 49 = .ok (.iload_n 3, 1) := dz_29 (n := 32) (r := 17) hz_X11_partOfFraction_32 rfl
theorem dX11_partOfFraction_50 : decode cX11_partOfFraction 50 = .ok (.idiv, 1) := dz_108 (n := 32) (r := 18) hz_X11_partOfFraction_32 rfl
theorem dX11_partOfFraction_51 : decode cX11_partOfFraction 51 = .ok (.ireturn, 1) := dz_172 (n := 32) (r := 19) hz_X11_partOfFraction_32 rfl
theorem dX11_partOfFraction_52 : decode cX11_partOfFraction 52 = .ok (.ldc 226, 2) := dz_18 (n := 32) (r := 20) hz_X11_partOfFraction_32 rfl rfl
theorem dX11_partOfFraction_54 : decode cX11_partOfFraction 54 = .ok (.ireturn, 1) := dz_172 (n := 32) (r := 22) hz_X11_partOfFraction_32 rfl
theorem hz_X11_commonDivisor_0 : (cX11_commonDivisor.data.toList.drop 0).take 40 = [26, 61, 27, 62, 3, 54, 4, 21, 4, 16, 64, 162, 0, 23, 29, 153, 0, 19, 28, 29, 112, 54, 5, 29, 61, 21, 5, 62, 132, 4, 1, 167, 255, 232, 28, 172] := by decide +kernel
theorem dX11_commonDivisor_0 : decode cX11_commonDivisor 0 = .ok (.iload_n 0, 1) := dz_26 (n := 0) (r := 0) hz_X11_commonDivisor_0 rfl
theorem dX11_commonDivisor_1 : decode cX11_commonDivisor 1 = .ok (.istore_n 2, 1) := dz_61 (n := 0) (r := 1) hz_X11_commonDivisor_0 rfl
theorem dX11_commonDivisor_2 : decode cX11_commonDivisor 2 = .ok (.iload_n 1, 1) := dz_27 (n := 0) (r := 2) hz_X11_commonDivisor_0 rfl
theorem dX11_commonDivisor_3 : decode cX11_commonDivisor 3 = .ok (.istore_n 3, 1) := dz_62 (n := 0) (r := 3) hz_X11_commonDivisor_0 rfl
theorem dX11_commonDivisor_4 : decode cX11_commonDivisor 4 = .ok (.iconst 0, 1) := dz_3 (n := 0) (r := 4) hz_X11_commonDivisor_0 rfl
theorem dX11_commonDivisor_5 : decode cX11_commonDivisor 5 = .ok (.istore 4, 2) := dz_54 (n := 0) (r := 5) hz_X11_commonDivisor_0 rfl rfl
theorem dX11_commonDivisor_7 : decode cX11_commonDivisor 7 = .ok (.iload 4, 2) := dz_21 (n := 0) (r := 7) hz_X11_commonDivisor_0 rfl rfl
theorem dX11_commonDivisor_9 : decode cX11_commonDivisor 9 = .ok (.bipush 64, 2) := dz_16 (n := 0) (r := 9) hz_X11_commonDivisor_0 rfl rfl
theorem dX11_commonDivisor_11 : decode cX11_commonDivisor 11 = .ok (.if_icmp .ge 23, 3) := dz_162 (n := 0) (r := 11) hz_X11_commonDivisor_0 rfl (by decide +kernel)
theorem dX11_commonDivisor_14 : decode cX11_commonDivisor 14 = .ok (.iload_n 3, 1) := dz_29 (n := 0) (r := 14) hz_X11_commonDivisor_0 rfl
theorem dX11_commonDivisor_15 : decode cX11_commonDivisor 15 = .ok (.ifCond .eq 19, 3) := dz_153 (n := 0) (r := 15) hz_X11_commonDivisor_0 rfl (by decide +kernel)
theorem dX11_commonDivisor_18 : decode cX11_commonDivisor 18 = .ok (.iload_n 2, 1) := dz_28 (n := 0) (r := 18) hz_X11_commonDivisor_0 rfl
theorem dX11_commonDivisor_19 : decode cX11_commonDivisor 19 = .ok (.iload_n 3, 1) := dz_29 (n := 0) (r := 19) hz_X11_commonDivisor_0 rfl
theorem dX11_commonDivisor_20 : decode cX11_commonDivisor 20 = .ok (.irem, 1) := dz_112 (n := 0) (r := 20) hz_X11_commonDivisor_0 rfl
theorem dX11_commonDivisor_21 : decode cX11_commonDivisor 21 = .ok (.istore 5, 2) := dz_54 (n := 0) (r := 21) hz_X11_commonDivisor_0 rfl rfl
theorem dX11_commonDivisor_23 : decode cX11_commonDivisor 23 = .ok (.iload_n 3, 1) := dz_29 (n := 0) (r := 23) hz_X11_commonDivisor_0 rfl
theorem dX11_commonDivisor_24 : decode cX11_commonDivisor 24 = .ok (.istore_n 2, 1) := dz_61 (n := 0) (r := 24) hz_X11_commonDivisor_0 rfl
theorem dX11_commonDivisor_25 : decode cX11_commonDivisor 25 = .ok (.iload 5, 2) := dz_21 (n := 0) (r := 25) hz_X11_commonDivisor_0 rfl rfl
theorem dX11_commonDivisor_27 : decode cX11_commonDivisor 27 = .ok (.istore_n 3, 1) := dz_62 (n := 0) (r := 27) hz_X11_commonDivisor_0 rfl
theorem dX11_commonDivisor_28 : decode cX11_commonDivisor 28 = .ok (.iinc 4 1, 3) := dz_132 (n := 0) (r := 28) hz_X11_commonDivisor_0 rfl rfl rfl
theorem dX11_commonDivisor_31 : decode cX11_commonDivisor 31 = .ok (.goto (-24), 3) := dz_167 (n := 0) (r := 31) hz_X11_commonDivisor_0 rfl (by decide +kernel)
theorem hz_X11_commonDivisor_32 : (cX11_commonDivisor.data.toList.drop 32).take 40 = [255, 232, 28, 172] := by decide +kernel
theorem dX11_commonDivisor_34 : decode cX11_commonDivisor 34 = .ok (.iload_n 2, 1) := dz_28 (n := 32) (r := 2) hz_X11_commonDivisor_32 rfl
theorem dX11_commonDivisor_35 : decode cX11_commonDivisor 35 = .ok (.ireturn, 1) := dz_172 (n := 32) (r := 3) hz_X11_commonDivisor_32 rfl
theorem hz_X12_init_0 : (cX12_init.data.toList.drop 0).take 40 = [42, 183, 0, 7, 42, 17, 7, 208, 188, 8, 181, 0, 13, 42, 17, 7, 208, 188, 8, 181, 0, 17, 42, 17, 1, 147, 188, 10, 181, 0, 20, 42, 17, 1, 147, 188, 10, 181, 0, 24] := by decide +kernel
theorem dX12_init_0 : decode cX12_init 0 = .ok (.aload_n 0, 1) := dz_42 (n := 0) (r := 0) hz_X12_init_0 rfl
theorem dX12_init_1 : decode cX12_init 1 = .ok (.invokespecial 7, 3) := dz_183 (n := 0) (r := 1) hz_X12_init_0 rfl rfl
theorem dX12_init_4 : decode cX12_init 4 = .ok (.aload_n 0, 1) := dz_42 (n := 0) (r := 4) hz_X12_init_0 rfl
theorem dX12_init_5 : decode cX12_init 5 = .ok (.sipush 2000, 3) := dz_17 (n := 0) (r := 5) hz_X12_init_0 rfl (by decide +kernel)
theorem dX12_init_8 : decode cX12_init 8 = .ok (.newarray .byte, 2) := dz_188_8 (n := 0) (r := 8) hz_X12_init_0 rfl
theorem dX12_init_10 : decode cX12_init 10 = .ok (.putfield 13, 3) := dz_181 (n := 0) (r := 10) hz_X12_init_0 rfl rfl
theorem dX12_init_13 : decode cX12_init 13 = .ok (.aload_n 0, 1) := dz_42 (n := 0) (r := 13) hz_X12_init_0 rfl
theorem dX12_init_14 : decode cX12_init 14 = .ok (.sipush 2000, 3) := dz_17 (n := 0) (r := 14) hz_X12_init_0 rfl (by decide +kernel)
theorem dX12_init_17 : decode cX12_init 17 = .ok (.newarray .byte, 2) := dz_188_8 (n := 0) (r := 17) hz_X12_init_0 rfl
theorem dX12_init_19 : decode cX12_init 19 = .ok (.putfield 17, 3) := dz_181 (n := 0) (r := 19) hz_X12_init_0 rfl rfl
theorem dX12_init_22 : decode cX12_init 22 = .ok (.aload_n 0, 1) := dz_42 (n := 0) (r := 22) hz_X12_init_0 rfl
theorem dX12_init_23 : decode cX12_init 23 = .ok (.sipush 403, 3) := dz_17 (n := 0) (r := 23) hz_X12_init_0 rfl (by decide +kernel)
theorem dX12_init_26 : decode cX12_init 26 = .ok (.newarray .int, 2) := dz_188_10 (n := 0) (r := 26) hz_X12_init_0 rfl
theorem dX12_init_28 : decode cX12_init 28 = .ok (.putfield 20, 3) := dz_181 (n := 0) (r := 28) hz_X12_init_0 rfl rfl
theorem dX12_init_31 : decode cX12_init 31 = .ok (.aload_n 0, 1) := dz_42 (n := 0) (r := 31) hz_X12_init_0 rfl
theorem hz_X12_init_32 : (cX12_init.data.toList.drop 32).take 40 = [17, 1, 147, 188, 10, 181, 0, 24, 42, 17, 1, 147, 188, 10, 181, 0, 27, 42, 17, 1, 147, 188, 11, 181, 0, 30, 42, 16, 11, 188, 11, 181, 0, 34, 42, 2, 181, 0, 37, 42] := by decide +kernel
theorem dX12_init_32 : decode cX12_init 32 = .ok (.sipush 403, 3) := dz_17 (n := 32) (r := 0) hz_X12_init_32 rfl (by decide +kernel)
theorem dX12_init_35 : decode cX12_init 35 = .ok (.newarray .int, 2) := dz_188_10 (n := 32) (r := 3) hz_X12_init_32 rfl
theorem dX12_init_37 : decode cX12_init 37 = .ok (.putfield 24, 3) := dz_181 (n := 32) (r := 5) hz_X12_init_32 rfl rfl
theorem dX12_init_40 : decode cX12_init 40 = .ok (.aload_n 0, 1) := dz_42 (n := 32) (r := 8) hz_X12_init_32 rfl
theorem dX12_init_41 : decode cX12_init 41 = .ok (.sipush 403, 3) := dz_17 (n := 32) (r := 9) hz_X12_init_32 rfl (by decide +kernel)
theorem dX12_init_44 : decode cX12_init 44 = .ok (.newarray .int, 2) := dz_188_10 (n := 32) (r := 12) hz_X12_init_32 rfl
theorem dX12_init_46 : decode cX12_init 46 = .ok (.putfield 27, 3) := dz_181 (n := 32) (r := 14) hz_X12_init_32 rfl rfl
theorem dX12_init_49 : decode cX12_init 49 = .ok (.aload_n 0, 1) := dz_42 (n := 32) (r := 17) hz_X12_init_32 rfl
theorem dX12_init_50 : decode cX12_init 50 = .ok (.sipush 403, 3) := dz_17 (n := 32) (r := 18) hz_X12_init_32 rfl (by decide +kernel)
theorem dX12_init_53 : decode cX12_init 53 = .ok (.newarray .long, 2) := dz_188_11 (n := 32) (r := 21) hz_X12_init_32 rfl
theorem dX12_init_55 : decode cX12_init 55 = .ok (.putfield 30, 3) := dz_181 (n := 32) (r := 23) hz_X12_init_32 rfl rfl
theorem dX12_init_58 : decode cX12_init 58 = .ok (.aload_n 0, 1) := dz_42 (n := 32) (r := 26) hz_X12_init_32 rfl
theorem dX12_init_59 : decode cX12_init 59 = .ok (.bipush 11, 2) := dz_16 (n := 32) (r := 27) hz_X12_init_32 rfl rfl
theorem dX12_init_61 : decode cX12_init 61 = .ok (.newarray .long, 2) := dz_188_11 (n := 32) (r := 29) hz_X12_init_32 rfl
theorem dX12_init_63 : decode cX12_init 63 = .ok (.putfield 34, 3) := dz_181 (n := 32) (r := 31) hz_X12_init_32 rfl rfl
theorem hz_X12_init_64 : (cX12_init.data.toList.drop 64).take 40 = [0, 34, 42, 2, 181, 0, 37, 42, 16, 66, 188, 10, 181, 0, 40, 42, 16, 66, 188, 10, 181, 0, 43, 42, 17, 10, 80, 188, 10, 181, 0, 46, 42, 17, 0, 198, 188, 10, 181, 0] := by decide +kernel
theorem dX12_init_66 : decode cX12_init 66 = .ok (.aload_n 0, 1) := dz_42 (n := 64) (r := 2) hz_X12_init_64 rfl
theorem dX12_init_67 : decode cX12_init 67 = .ok (.iconst (-1), 1) := dz_2 (n := 64) (r := 3) hz_X12_init_64 rfl
theorem dX12_init_68 : decode cX12_init 68 = .ok (.putfield 37, 3) := dz_181 (n := 64) (r := 4) hz_X12_init_64 rfl rfl
theorem dX12_init_71 : decode cX12_init 71 = .ok (.aload_n 0, 1) := dz_42 (n := 64) (r := 7) hz_X12_init_64 rfl
theorem dX12_init_72 : decode cX12_init 72 = .ok (.bipush 66, 2) := dz_16 (n := 64) (r := 8) hz_X12_init_64 rfl rfl
theorem dX12_init_74 : decode cX12_init 74 = .ok (.newarray .int, 2) := dz_188_10 (n := 64) (r := 10) hz_X12_init_64 rfl
theorem dX12_init_76 : decode cX12_init 76 = .ok (.putfield 40, 3) := dz_181 (n := 64) (r := 12) hz_X12_init_64 rfl rfl
theorem dX12_init_79 : decode cX12_init 79 = .ok (.aload_n 0, 1) := dz_42 (n := 64) (r := 15) hz_X12_init_64 rfl
theorem dX12_init_80 : decode cX12_init 80 = .ok (.bipush 66, 2) := dz_16 (n := 64) (r := 16) hz_X12_init_64 rfl rfl
theorem dX12_init_82 : decode cX12_init 82 = .ok (.newarray .int, 2) := dz_188_10 (n := 64) (r := 18) hz_X12_init_64 rfl
theorem dX12_init_84 : decode cX12_init 84 = .ok (.putfield 43, 3) := dz_181 (n := 64) (r := 20) hz_X12_init_64 rfl rfl
theorem dX12_init_87 : decode cX12_init 87 = .ok (.aload_n 0, 1) := dz_42 (n := 64) (r := 23) hz_X12_init_64 rfl
theorem dX12_init_88 : decode cX12_init 88 = .ok (.sipush 2640, 3) := dz_17 (n := 64) (r := 24) hz_X12_init_64 rfl (by decide +kernel)
theorem dX12_init_91 : decode cX12_init 91 = .ok (.newarray .int, 2) := dz_188_10 (n := 64) (r := 27) hz_X12_init_64 rfl
theorem dX12_init_93 : decode cX12_init 93 = .ok (.putfield 46, 3) := dz_181 (n := 64) (r := 29) hz_X12_init_64 rfl rfl
theorem hz_X12_init_96 : (cX12_init.data.toList.drop 96).take 40 = [42, 17, 0, 198, 188, 10, 181, 0, 49, 42, 6, 188, 4, 181, 0, 52, 42, 18, 56, 188, 10, 181, 0, 57, 42, 17, 1, 45, 188, 10, 181, 0, 60, 42, 17, 1, 45, 188, 10, 181] := by decide +kernel
theorem dX12_init_96 : decode cX12_init 96 = .ok (.aload_n 0, 1) := dz_42 (n := 96) (r := 0) hz_X12_init_96 rfl
theorem dX12_init_97 : decode cX12_init 97 = .ok (.sipush 198, 3) := dz_17 (n := 96) (r := 1) hz_X12_init_96 rfl (by decide +kernel)
theorem dX12_init_100 : decode cX12_init 100 = .ok (.newarray .int, 2) := dz_188_10 (n := 96) (r := 4) hz_X12_init_96 rfl
theorem dX12_init_102 : decode cX12_init 102 = .ok (.putfield 49, 3) := dz_181 (n := 96) (r := 6) hz_X12_init_96 rfl rfl
theorem dX12_init_105 : decode cX12_init 105 = .ok (.aload_n 0, 1) := dz_42 (n := 96) (r := 9) hz_X12_init_96 rfl
theorem dX12_init_106 : decode cX12_init 106 = .ok (.iconst 3, 1) := dz_6 (n := 96) (r := 10) hz_X12_init_96 rfl
theorem dX12_init_107 : decode cX12_init 107 = .ok (.newarray .boolean, 2) := dz_188_4 (n := 96) (r := 11) hz_X12_init_96 rfl
theorem dX12_init_109 : decode cX12_init 109 = .ok (.putfield 52, 3) := dz_181 (n := 96) (r := 13) hz_X12_init_96 rfl rfl
theorem dX12_init_112 : decode cX12_init 112 = .ok (.aload_n 0, 1) := dz_42 (n := 96) (r := 16) hz_X12_init_96 rfl
theorem dX12_init_113 : decode cX12_init 113 = .ok (.ldc 56, 2) := dz_18 (n := 96) (r := 17) hz_X12_init_96 rfl rfl
theorem dX12_init_115 : decode cX12_init 115 = .ok (.newarray .int, 2) := dz_188_10 (n := 96) (r := 19) hz_X12_init_96 rfl
theorem dX12_init_117 : decode cX12_init 117 = .ok (.putfield 57, 3) := dz_181 (n := 96) (r := 21) hz_X12_init_96 rfl rfl
theorem dX12_init_120 : decode cX12_init 120 = .ok (.aload_n 0, 1) := dz_42 (n := 96) (r := 24) hz_X12_init_96 rfl
theorem dX12_init_121 : decode cX12_init 121 = .ok (.sipush 301, 3) := dz_17 (n := 96) (r := 25) hz_X12_init_96 rfl (by decide +kernel)
theorem dX12_init_124 : decode cX12_init 124 = .ok (.newarray .int, 2) := dz_188_10 (n := 96) (r := 28) hz_X12_init_96 rfl
theorem dX12_init_126 : decode cX12_init 126 = .ok (.putfield 60, 3) := dz_181 (n := 96) (r := 30) hz_X12_init_96 rfl rfl
theorem hz_X12_init_128 : (cX12_init.data.toList.drop 128).take 40 = [60, 42, 17, 1, 45, 188, 10, 181, 0, 63, 42, 16, 66, 188, 10, 181, 0, 66, 42, 17, 1, 45, 188, 10, 181, 0, 69, 42, 17, 2, 89, 188, 11, 181, 0, 72, 42, 17, 4, 0] := by decide +kernel
theorem dX12_init_129 : decode cX12_init 129 = .ok (.aload_n 0, 1) := dz_42 (n := 128) (r := 1) hz_X12_init_128 rfl
theorem dX12_init_130 : decode cX12_init 130 = .ok (.sipush 301, 3) := dz_17 (n := 128) (r := 2) hz_X12_init_128 rfl (by decide +kernel)
theorem dX12_init_133 : decode cX12_init 133 = .ok (.newarray .int, 2) := dz_188_10 (n := 128) (r := 5) hz_X12_init_128 rfl
theorem dX12_init_135 : decode cX12_init 135 = .ok (.putfield 63, 3) := dz_181 (n := 128) (r := 7) hz_X12_init_128 rfl rfl
theorem dX12_init_138 : decode cX12_init 138 = .ok (.aload_n 0, 1) := dz_42 (n := 128) (r := 10) hz_X12_init_128 rfl
theorem dX12_init_139 : decode cX12_init 139 = .ok (.bipush 66, 2) := dz_16 (n := 128) (r := 11) hz_X12_init_128 rfl rfl
theorem dX12_init_141 : decode cX12_init 141 = .ok (.newarray .int, 2) := dz_188_10 (n := 128) (r := 13) hz_X12_init_128 rfl
theorem dX12_init_143 : decode cX12_init 143 = .ok (.putfield 66, 3) := dz_181 (n := 128) (r := 15) hz_X12_init_128 rfl rfl
theorem dX12_init_146 : decode cX12_init 146 = .ok (.aload_n 0, 1) := dz_42 (n := 128) (r := 18) hz_X12_init_128 rfl
theorem dX12_init_147 : decode cX12_init 147 = .ok (.sipush 301, 3) := dz_17 (n := 128) (r := 19) hz_X12_init_128 rfl (by decide +kernel)
theorem dX12_init_150 : decode cX12_init 150 = .ok (.newarray .int, 2) := dz_188_10 (n := 128) (r := 22) hz_X12_init_128 rfl
theorem dX12_init_152 : decode cX12_init 152 = .ok (.putfield 69, 3) := dz_181 (n := 128) (r := 24) hz_X12_init_128 rfl rfl
theorem dX12_init_155 : decode cX12_init 155 = .ok (.aload_n 0, 1) := dz_42 (n := 128) (r := 27) hz_X12_init_128 rfl
theorem dX12_init_156 : decode cX12_init 156 = .ok (.sipush 601, 3) := dz_17 (n := 128) (r := 28) hz_X12_init_128 rfl (by decide +kernel)
theorem dX12_init_159 : decode cX12_init 159 = .ok (.newarray .long, 2) := dz_188_11 (n := 128) (r := 31) hz_X12_init_128 rfl
theorem hz_X12_init_160 : (cX12_init.data.toList.drop 160).take 40 = [11, 181, 0, 72, 42, 17, 4, 0, 188, 10, 181, 0, 75, 42, 17, 4, 0, 188, 4, 181, 0, 78, 42, 17, 4, 0, 188, 10, 181, 0, 81, 42, 17, 4, 0, 188, 11, 181, 0, 84] := by decide +kernel
theorem dX12_init_161 : decode cX12_init 161 = .ok (.putfield 72, 3) := dz_181 (n := 160) (r := 1) hz_X12_init_160 rfl rfl
theorem dX12_init_164 : decode cX12_init 164 = .ok (.aload_n 0, 1) := dz_42 (n := 160) (r := 4) hz_X12_init_160 rfl
theorem dX12_init_165 : decode cX12_init 165 = .ok (.sipush 1024, 3) := dz_17 (n := 160) (r := 5) hz_X12_init_160 rfl (by decide +kernel)
theorem dX12_init_168 : decode cX12_init 168 = .ok (.newarray .int, 2) := dz_188_10 (n := 160) (r := 8) hz_X12_init_160 rfl
theorem dX12_init_170 : decode cX12_init 170 = .ok (.putfield 75, 3) := dz_181 (n := 160) (r := 10) hz_X12_init_160 rfl rfl
theorem dX12_init_173 : decode cX12_init 173 = .ok (.aload_n 0, 1) := dz_42 (n := 160) (r := 13) hz_X12_init_160 rfl
theorem dX12_init_174 : decode cX12_init 174 = .ok (.sipush 1024, 3) := dz_17 (n := 160) (r := 14) hz_X12_init_160 rfl (by decide +kernel)
theorem dX12_init_177 : decode cX12_init 177 = .ok (.newarray .boolean, 2) := dz_188_4 (n := 160) (r := 17) hz_X12_init_160 rfl
theorem dX12_init_179 : decode cX12_init 179 = .ok (.putfield 78, 3) := dz_181 (n := 160) (r := 19) hz_X12_init_160 rfl rfl
theorem dX12_init_182 : decode cX12_init 182 = .ok (.aload_n 0, 1) := dz_42 (n := 160) (r := 22) hz_X12_init_160 rfl
theorem dX12_init_183 : decode cX12_init 183 = .ok (.sipush 1024, 3) := dz_17 (n := 160) (r := 23) hz_X12_init_160 rfl (by decide +kernel)
theorem dX12_init_186 : decode cX12_init 186 = .ok (.newarray .int, 2) := dz_188_10 (n := 160) (r := 26) hz_X12_init_160 rfl
theorem dX12_init_188 : decode cX12_init 188 = .ok (.putfield 81, 3) := dz_181 (n := 160) (r := 28) hz_X12_init_160 rfl rfl
theorem dX12_init_191 : decode cX12_init 191 = .ok (.aload_n 0, 1) := dz_42 (n := 160) (r := 31) hz_X12_init_160 rfl
theorem hz_X12_init_192 : (cX12_init.data.toList.drop 192).take 40 = [17, 4, 0, 188, 11, 181, 0, 84, 42, 17, 1, 0, 188, 10, 181, 0, 87, 42, 180, 0, 34, 3, 16, 115, 16, 116, 16, 114, 16, 105, 16, 112, 3, 3, 184, 0, 90, 80, 42, 180] := by decide +kernel
theorem dX12_init_192 : decode cX12_init 192 = .ok (.sipush 1024, 3) := dz_17 (n := 192) (r := 0) hz_X12_init_192 rfl (by decide +kernel)
theorem dX12_init_195 : decode cX12_init 195 = .ok (.newarray .long, 2) := dz_188_11 (n := 192) (r := 3) hz_X12_init_192 rfl
theorem dX12_init_197 : decode cX12_init 197 = .ok (.putfield 84, 3) := dz_181 (n := 192) (r := 5) hz_X12_init_192 rfl rfl
theorem dX12_init_200 : decode cX12_init 200 = .ok (.aload_n 0, 1) := dz_42 (n := 192) (r := 8) hz_X12_init_192 rfl
theorem dX12_init_201 : decode cX12_init 201 = .ok (.sipush 256, 3) := dz_17 (n := 192) (r := 9) hz_X12_init_192 rfl (by decide +kernel)
theorem dX12_init_204 : decode cX12_init 204 = .ok (.newarray .int, 2) := dz_188_10 (n := 192) (r := 12) hz_X12_init_192 rfl
theorem dX12_init_206 : decode cX12_init 206 = .ok (.putfield 87, 3) := dz_181 (n := 192) (r := 14) hz_X12_init_192 rfl rfl
theorem dX12_init_209 : decode cX12_init 209 = .ok (.aload_n 0, 1) := dz_42 (n := 192) (r := 17) hz_X12_init_192 rfl
theorem dX12_init_210 : decode cX12_init 210 = .ok (.getfield 34, 3) := dz_180 (n := 192) (r := 18) hz_X12_init_192 rfl rfl
theorem dX12_init_213 : decode cX12_init 213 = .ok (.iconst 0, 1) := dz_3 (n := 192) (r := 21) hz_X12_init_192 rfl
theorem dX12_init_214 : decode cX12_init 214 = .ok (.bipush 115, 2) := dz_16 (n := 192) (r := 22) hz_X12_init_192 rfl rfl
theorem dX12_init_216 : decode cX12_init 216 = .ok (.bipush 116, 2) := dz_16 (n := 192) (r := 24) hz_X12_init_192 rfl rfl
theorem dX12_init_218 : decode cX12_init 218 = .ok (.bipush 114, 2) := dz_16 (n := 192) (r := 26) hz_X12_init_192 rfl rfl
theorem dX12_init_220 : decode cX12_init 220 = .ok (.bipush 105, 2) := dz_16 (n := 192) (r := 28) hz_X12_init_192 rfl rfl
theorem dX12_init_222 : decode cX12_init 222 = .ok (.bipush 112, 2) := dz_16 (n := 192) (r := 30) hz_X12_init_192 rfl rfl
theorem hz_X12_init_224 : (cX12_init.data.toList.drop 224).take 40 = [3, 3, 184, 0, 90, 80, 42, 180, 0, 34, 4, 16, 97, 16, 99, 16, 114, 16, 111, 16, 115, 16, 115, 3, 184, 0, 90, 80, 42, 180, 0, 34, 5, 16, 97, 16, 108, 16, 111, 16] := by decide +kernel
theorem dX12_init_224 : decode cX12_init 224 = .ok (.iconst 0, 1) := dz_3 (n := 224) (r := 0) hz_X12_init_224 rfl
theorem dX12_init_225 : decode cX12_init 225 = .ok (.iconst 0, 1) := dz_3 (n := 224) (r := 1) hz_X12_init_224 rfl
theorem dX12_init_226 : decode cX12_init 226 = .ok (.invokestatic 90, 3) := dz_184 (n := 224) (r := 2) hz_X12_init_224 rfl rfl
theorem dX12_init_229 : decode cX12_init 229 = .ok (.lastore, 1) := dz_80 (n := 224) (r := 5) hz_X12_init_224 rfl
theorem dX12_init_230 : decode cX12_init 230 = .ok (.aload_n 0, 1) := dz_42 (n := 224) (r := 6) hz_X12_init_224 rfl
theorem dX12_init_231 : decode cX12_init 231 = .ok (.getfield 34, 3) := dz_180 (n := 224) (r := 7) hz_X12_init_224 rfl rfl
theorem dX12_init_234 : decode cX12_init 234 = .ok (.iconst 1, 1) := dz_4 (n := 224) (r := 10) hz_X12_init_224 rfl
theorem dX12_init_235 : decode cX12_init 235 = .ok (.bipush 97, 2) := dz_16 (n := 224) (r := 11) hz_X12_init_224 rfl rfl
theorem dX12_init_237 : decode cX12_init 237 = .ok (.bipush 99, 2) := dz_16 (n := 224) (r := 13) hz_X12_init_224 rfl rfl
theorem dX12_init_239 : decode cX12_init 239 = .ok (.bipush 114, 2) := dz_16 (n := 224) (r := 15) hz_X12_init_224 rfl rfl
theorem dX12_init_241 : decode cX12_init 241 = .ok (.bipush 111, 2) := dz_16 (n := 224) (r := 17) hz_X12_init_224 rfl rfl
theorem dX12_init_243 : decode cX12_init 243 = .ok (.bipush 115, 2) := dz_16 (n := 224) (r := 19) hz_X12_init_224 rfl rfl
theorem dX12_init_245 : decode cX12_init 245 = .ok (.bipush 115, 2) := dz_16 (n := 224) (r := 21) hz_X12_init_224 rfl rfl
theorem dX12_init_247 : decode cX12_init 247 = .ok (.iconst 0, 1) := dz_3 (n := 224) (r := 23) hz_X12_init_224 rfl
theorem dX12_init_248 : decode cX12_init 248 = .ok (.invokestatic 90, 3) := dz_184 (n := 224) (r := 24) hz_X12_init_224 rfl rfl
theorem dX12_init_251 : decode cX12_init 251 = .ok (.lastore, 1) := dz_80 (n := 224) (r := 27) hz_X12_init_224 rfl
theorem dX12_init_252 : decode cX12_init 252 = .ok (.aload_n 0, 1) := dz_42 (n := 224) (r := 28) hz_X12_init_224 rfl
theorem dX12_init_253 : decode cX12_init 253 = .ok (.getfield 34, 3) := dz_180 (n := 224) (r := 29) hz_X12_init_224 rfl rfl
theorem hz_X12_init_256 : (cX12_init.data.toList.drop 256).take 40 = [5, 16, 97, 16, 108, 16, 111, 16, 110, 16, 103, 3, 3, 184, 0, 90, 80, 42, 180, 0, 34, 6, 16, 102, 16, 105, 16, 101, 16, 108, 16, 100, 3, 3, 184, 0, 90, 80, 42, 180] := by decide +kernel
theorem dX12_init_256 : decode cX12_init 256 = .ok (.iconst 2, 1) := dz_5 (n := 256) (r := 0) hz_X12_init_256 rfl
theorem dX12_init_257 : decode cX12_init 257 = .ok (.bipush 97, 2) := dz_16 (n := 256) (r := 1) hz_X12_init_256 rfl rfl
theorem dX12_init_259 : decode cX12_init 259 = .ok (.bipush 108, 2) := dz_16 (n := 256) (r := 3) hz_X12_init_256 rfl rfl
theorem dX12_init_261 : decode cX12_init 261 = .ok (.bipush 111, 2) := dz_16 (n := 256) (r := 5) hz_X12_init_256 rfl rfl
theorem dX12_init_263 : decode cX12_init 263 = .ok (.bipush 110, 2) := dz_16 (n := 256) (r := 7) hz_X12_init_256 rfl rfl
theorem dX12_init_265 : decode cX12_init 265 = .ok (.bipush 103, 2) := dz_16 (n := 256) (r := 9) hz_X12_init_256 rfl rfl
theorem dX12_init_267 : decode cX12_init 267 = .ok (.iconst 0, 1) := dz_3 (n := 256) (r := 11) hz_X12_init_256 rfl
theorem dX12_init_268 : decode cX12_init 268 = .ok (.iconst 0, 1) := dz_3 (n := 256) (r := 12) hz_X12_init_256 rfl
theorem dX12_init_269 : decode cX12_init 269 = .ok (.invokestatic 90, 3) := dz_184 (n := 256) (r := 13) hz_X12_init_256 rfl rfl
theorem dX12_init_272 : decode cX12_init 272 = .ok (.lastore, 1) := dz_80 (n := 256) (r := 16) hz_X12_init_256 rfl
theorem dX12_init_273 : decode cX12_init 273 = .ok (.aload_n 0, 1) := dz_42 (n := 256) (r := 17) hz_X12_init_256 rfl
theorem dX12_init_274 : decode cX12_init 274 = .ok (.getfield 34, 3) := dz_180 (n := 256) (r := 18) hz_X12_init_256 rfl rfl
theorem dX12_init_277 : decode cX12_init 277 = .ok (.iconst 3, 1) := dz_6 (n := 256) (r := 21) hz_X12_init_256 rfl
theorem dX12_init_278 : decode cX12_init 278 = .ok (.bipush 102, 2) := dz_16 (n := 256) (r := 22) hz_X12_init_256 rfl rfl
theorem dX12_init_280 : decode cX12_init 280 = .ok (.bipush 105, 2) := dz_16 (n := 256) (r := 24) hz_X12_init_256 rfl rfl
theorem dX12_init_282 : decode cX12_init 282 = .ok (.bipush 101, 2) := dz_16 (n := 256) (r := 26) hz_X12_init_256 rfl rfl
theorem dX12_init_284 : decode cX12_init 284 = .ok (.bipush 108, 2) := dz_16 (n := 256) (r := 28) hz_X12_init_256 rfl rfl
theorem dX12_init_286 : decode cX12_init 286 = .ok (.bipush 100, 2) := dz_16 (n := 256) (r := 30) hz_X12_init_256 rfl rfl
theorem hz_X12_init_288 : (cX12_init.data.toList.drop 288).take 40 = [3, 3, 184, 0, 90, 80, 42, 180, 0, 34, 7, 16, 114, 16, 105, 16, 110, 16, 103, 3, 3, 3, 184, 0, 90, 80, 42, 180, 0, 34, 8, 16, 116, 16, 105, 16, 101, 3, 3, 3] := by decide +kernel
theorem dX12_init_288 : decode cX12_init 288 = .ok (.iconst 0, 1) := dz_3 (n := 288) (r := 0) hz_X12_init_288 rfl
theorem dX12_init_289 : decode cX12_init 289 = .ok (.iconst 0, 1) := dz_3 (n := 288) (r := 1) hz_X12_init_288 rfl
theorem dX12_init_290 : decode cX12_init 290 = .ok (.invokestatic 90, 3) := dz_184 (n := 288) (r := 2) hz_X12_init_288 rfl rfl
theorem dX12_init_293 : decode cX12_init 293 = .ok (.lastore, 1) := dz_80 (n := 288) (r := 5) hz_X12_init_288 rfl
theorem dX12_init_294 : decode cX12_init 294 = .ok (.aload_n 0, 1) := dz_42 (n := 288) (r := 6) hz_X12_init_288 rfl
theorem dX12_init_295 : decode cX12_init 295 = .ok (.getfield 34, 3) := dz_180 (n := 288) (r := 7) hz_X12_init_288 rfl rfl
theorem dX12_init_298 : decode cX12_init 298 = .ok (.iconst 4, 1) := dz_7 (n := 288) (r := 10) hz_X12_init_288 rfl
theorem dX12_init_299 : decode cX12_init 299 = .ok (.bipush 114, 2) := dz_16 (n := 288) (r := 11) hz_X12_init_288 rfl rfl
theorem dX12_init_301 : decode cX12_init 301 = .ok (.bipush 105, 2) := dz_16 (n := 288) (r := 13) hz_X12_init_288 rfl rfl
theorem dX12_init_303 : decode cX12_init 303 = .ok (.bipush 110, 2) := dz_16 (n := 288) (r := 15) hz_X12_init_288 rfl rfl
theorem dX12_init_305 : decode cX12_init 305 = .ok (.bipush 103, 2) := dz_16 (n := 288) (r := 17) hz_X12_init_288 rfl rfl
theorem dX12_init_307 : decode cX12_init 307 = .ok (.iconst 0, 1) := dz_3 (n := 288) (r := 19) hz_X12_init_288 rfl
theorem dX12_init_308 : decode cX12_init 308 = .ok (.iconst 0, 1) := dz_3 (n := 288) (r := 20) hz_X12_init_288 rfl
theorem dX12_init_309 : decode cX12_init 309 = .ok (.iconst 0, 1) := dz_3 (n := 288) (r := 21) hz_X12_init_288 rfl
theorem dX12_init_310 : decode cX12_init 310 = .ok (.invokestatic 90, 3) := dz_184 (n := 288) (r := 22) hz_X12_init_288 rfl rfl
theorem dX12_init_313 : decode cX12_init 313 = .ok (.lastore, 1) := dz_80 (n := 288) (r := 25) hz_X12_init_288 rfl
theorem dX12_init_314 : decode cX12_init 314 = .ok (.aload_n 0, 1) := dz_42 (n := 288) (r := 26) hz_X12_init_288 rfl
theorem dX12_init_315 : decode cX12_init 315 = .ok (.getfield 34, 3) := dz_180 (n := 288) (r := 27) hz_X12_init_288 rfl rfl
theorem dX12_init_318 : decode cX12_init 318 = .ok (.iconst 5, 1) := dz_8 (n := 288) (r := 30) hz_X12_init_288 rfl
theorem dX12_init_319 : decode cX12_init 319 = .ok (.bipush 116, 2) := dz_16 (n := 288) (r := 31) hz_X12_init_288 rfl rfl
theorem hz_X12_init_320 : (cX12_init.data.toList.drop 320).take 40 = [116, 16, 105, 16, 101, 3, 3, 3, 3, 184, 0, 90, 80, 42, 180, 0, 34, 16, 6, 16, 112, 16, 117, 16, 108, 16, 108, 3, 3, 3, 184, 0, 90, 80, 42, 180, 0, 34, 16, 7] := by decide +kernel
theorem dX12_init_321 : decode cX12_init 321 = .ok (.bipush 105, 2) := dz_16 (n := 320) (r := 1) hz_X12_init_320 rfl rfl
theorem dX12_init_323 : decode cX12_init 323 = .ok (.bipush 101, 2) := dz_16 (n := 320) (r := 3) hz_X12_init_320 rfl rfl
theorem dX12_init_325 : decode cX12_init 325 = .ok (.iconst 0, 1) := dz_3 (n := 320) (r := 5) hz_X12_init_320 rfl
theorem dX12_init_326 : decode cX12_init 326 = .ok (.iconst 0, 1) := dz_3 (n := 320) (r := 6) hz_X12_init_320 rfl
theorem dX12_init_327 : decode cX12_init 327 = .ok (.iconst 0, 1) := dz_3 (n := 320) (r := 7) hz_X12_init_320 rfl
theorem dX12_init_328 : decode cX12_init 328 = .ok (.iconst 0, 1) := dz_3 (n := 320) (r := 8) hz_X12_init_320 rfl
theorem dX12_init_329 : decode cX12_init 329 = .ok (.invokestatic 90, 3) := dz_184 (n := 320) (r := 9) hz_X12_init_320 rfl rfl
theorem dX12_init_332 : decode cX12_init 332 = .ok (.lastore, 1) := dz_80 (n := 320) (r := 12) hz_X12_init_320 rfl
theorem dX12_init_333 : decode cX12_init 333 = .ok (.aload_n 0, 1) := dz_42 (n := 320) (r := 13) hz_X12_init_320 rfl
theorem dX12_init_334 : decode cX12_init 334 = .ok (.getfield 34, 3) := dz_180 (n := 320) (r := 14) hz_X12_init_320 rfl rfl
theorem dX12_init_337 : decode cX12_init 337 = .ok (.bipush 6, 2) := dz_16 (n := 320) (r := 17) hz_X12_init_320 rfl rfl
theorem dX12_init_339 : decode cX12_init 339 = .ok (.bipush 112, 2) := dz_16 (n := 320) (r := 19) hz_X12_init_320 rfl rfl
theorem dX12_init_341 : decode cX12_init 341 = .ok (.bipush 117, 2) := dz_16 (n := 320) (r := 21) hz_X12_init_320 rfl rfl
theorem dX12_init_343 : decode cX12_init 343 = .ok (.bipush 108, 2) := dz_16 (n := 320) (r := 23) hz_X12_init_320 rfl rfl
theorem dX12_init_345 : decode cX12_init 345 = .ok (.bipush 108, 2) := dz_16 (n := 320) (r := 25) hz_X12_init_320 rfl rfl
theorem dX12_init_347 : decode cX12_init 347 = .ok (.iconst 0, 1) := dz_3 (n := 320) (r := 27) hz_X12_init_320 rfl
theorem dX12_init_348 : decode cX12_init 348 = .ok (.iconst 0, 1) := dz_3 (n := 320) (r := 28) hz_X12_init_320 rfl
theorem dX12_init_349 : decode cX12_init 349 = .ok (.iconst 0, 1) := dz_3 (n := 320) (r := 29) hz_X12_init_320 rfl
theorem dX12_init_350 : decode cX12_init 350 = .ok (.invokestatic 90, 3) := dz_184 (n := 320) (r := 30) hz_X12_init_320 rfl rfl
theorem hz_X12_init_352 : (cX12_init.data.toList.drop 352).take 40 = [90, 80, 42, 180, 0, 34, 16, 7, 16, 112, 16, 105, 16, 110, 3, 3, 3, 3, 184, 0, 90, 80, 42, 180, 0, 34, 16, 8, 16, 117, 16, 112, 3, 3, 3, 3, 3, 184, 0, 90] := by decide +kernel
theorem dX12_init_353 : decode cX12_init 353 = .ok (.lastore, 1) := dz_80 (n := 352) (r := 1) hz_X12_init_352 rfl
theorem dX12_init_354 : decode cX12_init 354 = .ok (.aload_n 0, 1) := dz_42 (n := 352) (r := 2) hz_X12_init_352 rfl
theorem dX12_init_355 : decode cX12_init 355 = .ok (.getfield 34, 3) := dz_180 (n := 352) (r := 3) hz_X12_init_352 rfl rfl
theorem dX12_init_358 : decode cX12_init 358 = .ok (.bipush 7, 2) := dz_16 (n := 352) (r := 6) hz_X12_init_352 rfl rfl
theorem dX12_init_360 : decode cX12_init 360 = .ok (.bipush 112, 2) := dz_16 (n := 352) (r := 8) hz_X12_init_352 rfl rfl
theorem dX12_init_362 : decode cX12_init 362 = .ok (.bipush 105, 2) := dz_16 (n := 352) (r := 10) hz_X12_init_352 rfl rfl
theorem dX12_init_364 : decode cX12_init 364 = .ok (.bipush 110, 2) := dz_16 (n := 352) (r := 12) hz_X12_init_352 rfl rfl
theorem dX12_init_366 : decode cX12_init 366 = .ok (.iconst 0, 1) := dz_3 (n := 352) (r := 14) hz_X12_init_352 rfl
theorem dX12_init_367 : decode cX12_init 367 = .ok (.iconst 0, 1) := dz_3 (n := 352) (r := 15) hz_X12_init_352 rfl
theorem dX12_init_368 : decode cX12_init 368 = .ok (.iconst 0, 1) := dz_3 (n := 352) (r := 16) hz_X12_init_352 rfl
theorem dX12_init_369 : decode cX12_init 369 = .ok (.iconst 0, 1) := dz_3 (n := 352) (r := 17) hz_X12_init_352 rfl
theorem dX12_init_370 : decode cX12_init 370 = .ok (.invokestatic 90, 3) := dz_184 (n := 352) (r := 18) hz_X12_init_352 rfl rfl
theorem dX12_init_373 : decode cX12_init 373 = .ok (.lastore, 1) := dz_80 (n := 352) (r := 21) hz_X12_init_352 rfl
theorem dX12_init_374 : decode cX12_init 374 = .ok (.aload_n 0, 1) := dz_42 (n := 352) (r := 22) hz_X12_init_352 rfl
theorem dX12_init_375 : decode cX12_init 375 = .ok (.getfield 34, 3) := dz_180 (n := 352) (r := 23) hz_X12_init_352 rfl rfl
theorem dX12_init_378 : decode cX12_init 378 = .ok (.bipush 8, 2) := dz_16 (n := 352) (r := 26) hz_X12_init_352 rfl rfl
theorem dX12_init_380 : decode cX12_init 380 = .ok (.bipush 117, 2) := dz_16 (n := 352) (r := 28) hz_X12_init_352 rfl rfl
theorem dX12_init_382 : decode cX12_init 382 = .ok (.bipush 112, 2) := dz_16 (n := 352) (r := 30) hz_X12_init_352 rfl rfl
theorem hz_X12_init_384 : (cX12_init.data.toList.drop 384).take 40 = [3, 3, 3, 3, 3, 184, 0, 90, 80, 42, 180, 0, 34, 16, 9, 16, 100, 16, 111, 16, 119, 16, 110, 3, 3, 3, 184, 0, 90, 80, 42, 180, 0, 34, 16, 10, 16, 115, 16, 101] := by decide +kernel
theorem dX12_init_384 : decode cX12_init 384 = .ok (.iconst 0, 1) := dz_3 (n := 384) (r := 0) hz_X12_init_384 rfl
theorem dX12_init_385 : decode cX12_init 385 = .ok (.iconst 0, 1) := dz_3 (n := 384) (r := 1) hz_X12_init_384 rfl
theorem dX12_init_386 : decode cX12_init 386 = .ok (.iconst 0, 1) := dz_3 (n := 384) (r := 2) hz_X12_init_384 rfl
theorem dX12_init_387 : decode cX12_init 387 = .ok (.iconst 0, 1) := dz_3 (n := 384) (r := 3) hz_X12_init_384 rfl
theorem dX12_init_388 : decode cX12_init 388 = .ok (.iconst 0, 1) := dz_3 (n := 384) (r := 4) hz_X12_init_384 rfl
theorem dX12_init_389 : decode cX12_init 389 = .ok (.invokestatic 90, 3) := dz_184 (n := 384) (r := 5) hz_X12_init_384 rfl rfl
theorem dX12_init_392 : decode cX12_init 392 = .ok (.lastore, 1) := dz_80 (n := 384) (r := 8) hz_X12_init_384 rfl
theorem dX12_init_393 : decode cX12_init 393 = .ok (.aload_n 0, 1) := dz_42 (n := 384) (r := 9) hz_X12_init_384 rfl
theorem dX12_init_394 : decode cX12_init 394 = .ok (.getfield 34, 3) := dz_180 (n := 384) (r := 10) hz_X12_init_384 rfl rfl
theorem dX12_init_397 : decode cX12_init 397 = .ok (.bipush 9, 2) := dz_16 (n := 384) (r := 13) hz_X12_init_384 rfl rfl
theorem dX12_init_399 : decode cX12_init 399 = .ok (.bipush 100, 2) := dz_16 (n := 384) (r := 15) hz_X12_init_384 rfl rfl
theorem dX12_init_401 : decode cX12_init 401 = .ok (.bipush 111, 2) := dz_16 (n := 384) (r := 17) hz_X12_init_384 rfl rfl
theorem dX12_init_403 : decode cX12_init 403 = .ok (.bipush 119, 2) := dz_16 (n := 384) (r := 19) hz_X12_init_384 rfl rfl
theorem dX12_init_405 : decode cX12_init 405 = .ok (.bipush 110, 2) := dz_16 (n := 384) (r := 21) hz_X12_init_384 rfl rfl
theorem dX12_init_407 : decode cX12_init 407 = .ok (.iconst 0, 1) := dz_3 (n := 384) (r := 23) hz_X12_init_384 rfl
theorem dX12_init_408 : decode cX12_init 408 = .ok (.iconst 0, 1) := dz_3 (n := 384) (r := 24) hz_X12_init_384 rfl
theorem dX12_init_409 : decode cX12_init 409 = .ok (.iconst 0, 1) := dz_3 (n := 384) (r := 25) hz_X12_init_384 rfl
theorem dX12_init_410 : decode cX12_init 410 = .ok (.invokestatic 90, 3) := dz_184 (n := 384) (r := 26) hz_X12_init_384 rfl rfl
theorem dX12_init_413 : decode cX12_init 413 = .ok (.lastore, 1) := dz_80 (n := 384) (r := 29) hz_X12_init_384 rfl
theorem dX12_init_414 : decode cX12_init 414 = .ok (.aload_n 0, 1) := dz_42 (n := 384) (r := 30) hz_X12_init_384 rfl
theorem dX12_init_415 : decode cX12_init 415 = .ok (.getfield 34, 3) := dz_180 (n := 384) (r := 31) hz_X12_init_384 rfl rfl
theorem hz_X12_init_416 : (cX12_init.data.toList.drop 416).take 40 = [0, 34, 16, 10, 16, 115, 16, 101, 16, 101, 16, 100, 3, 3, 3, 184, 0, 90, 80, 177] := by decide +kernel
theorem dX12_init_418 : decode cX12_init 418 = .ok (.bipush 10, 2) := dz_16 (n := 416) (r := 2) hz_X12_init_416 rfl rfl
theorem dX12_init_420 : decode cX12_init 420 = .ok (.bipush 115, 2) := dz_16 (n := 416) (r := 4) hz_X12_init_416 rfl rfl
theorem dX12_init_422 : decode cX12_init 422 = .ok (.bipush 101, 2) := dz_16 (n := 416) (r := 6) hz_X12_init_416 rfl rfl
theorem dX12_init_424 : decode cX12_init 424 = .ok (.bipush 101, 2) := dz_16 (n := 416) (r := 8) hz_X12_init_416 rfl rfl
theorem dX12_init_426 : decode cX12_init 426 = .ok (.bipush 100, 2) := dz_16 (n := 416) (r := 10) hz_X12_init_416 rfl rfl
theorem dX12_init_428 : decode cX12_init 428 = .ok (.iconst 0, 1) := dz_3 (n := 416) (r := 12) hz_X12_init_416 rfl
theorem dX12_init_429 : decode cX12_init 429 = .ok (.iconst 0, 1) := dz_3 (n := 416) (r := 13) hz_X12_init_416 rfl
theorem dX12_init_430 : decode cX12_init 430 = .ok (.iconst 0, 1) := dz_3 (n := 416) (r := 14) hz_X12_init_416 rfl
theorem dX12_init_431 : decode cX12_init 431 = .ok (.invokestatic 90, 3) := dz_184 (n := 416) (r := 15) hz_X12_init_416 rfl rfl
theorem dX12_init_434 : decode cX12_init 434 = .ok (.lastore, 1) := dz_80 (n := 416) (r := 18) hz_X12_init_416 rfl
theorem dX12_init_435 : decode cX12_init 435 = .ok (.return_, 1) := dz_177 (n := 416) (r := 19) hz_X12_init_416 rfl
theorem hz_X12_feed_0 : (cX12_feed.data.toList.drop 0).take 40 = [42, 180, 0, 94, 16, 20, 96, 17, 7, 208, 164, 0, 5, 2, 172, 42, 27, 182, 0, 97, 42, 28, 182, 0, 97, 42, 29, 182, 0, 97, 42, 21, 4, 182, 0, 97, 42, 21, 5, 182] := by decide +kernel
theorem dX12_feed_0 : decode cX12_feed 0 = .ok (.aload_n 0, 1) := dz_42 (n := 0) (r := 0) hz_X12_feed_0 rfl
theorem dX12_feed_1 : decode cX12_feed 1 = .ok (.getfield 94, 3) := dz_180 (n := 0) (r := 1) hz_X12_feed_0 rfl rfl
theorem dX12_feed_4 : decode cX12_feed 4 = .ok (.bipush 20, 2) := dz_16 (n := 0) (r := 4) hz_X12_feed_0 rfl rfl
theorem dX12_feed_6 : decode cX12_feed 6 = .ok (.iadd, 1) := dz_96 (n := 0) (r := 6) hz_X12_feed_0 rfl
theorem dX12_feed_7 : decode cX12_feed 7 = .ok (.sipush 2000, 3) := dz_17 (n := 0) (r := 7) hz_X12_feed_0 rfl (by decide +kernel)
theorem dX12_feed_10 : decode cX12_feed 10 = .ok (.if_icmp .le 5, 3) := dz_164 (n := 0) (r := 10) hz_X12_feed_0 rfl (by decide +kernel)
theorem dX12_feed_13 : decode cX12_feed 13 = .ok (.iconst (-1), 1) := dz_2 (n := 0) (r := 13) hz_X12_feed_0 rfl
theorem dX12_feed_14 : decode cX12_feed 14 = .ok (.ireturn, 1) := dz_172 (n := 0) (r := 14) hz_X12_feed_0 rfl
theorem dX12_feed_15 : decode cX12_feed 15 = .ok (.aload_n 0, 1) := dz_42 (n := 0) (r := 15) hz_X12_feed_0 rfl
theorem dX12_feed_16 : decode cX12_feed 16 = .ok (.iload_n 1, 1) := dz_27 (n := 0) (r := 16) hz_X12_feed_0 rfl
theorem dX12_feed_17 : decode cX12_feed 17 = .ok (.invokevirtual 97, 3) := dz_182 (n := 0) (r := 17) hz_X12_feed_0 rfl rfl
theorem dX12_feed_20 : decode cX12_feed 20 = .ok (.aload_n 0, 1) := dz_42 (n := 0) (r := 20) hz_X12_feed_0 rfl
theorem dX12_feed_21 : decode cX12_feed 21 = .ok (.iload_n 2, 1) := dz_28 (n := 0) (r := 21) hz_X12_feed_0 rfl
theorem dX12_feed_22 : decode cX12_feed 22 = .ok (.invokevirtual 97, 3) := dz_182 (n := 0) (r := 22) hz_X12_feed_0 rfl rfl
theorem dX12_feed_25 : decode cX12_feed 25 = .ok (.aload_n 0, 1) := dz_42 (n := 0) (r := 25) hz_X12_feed_0 rfl
theorem dX12_feed_26 : decode cX12_feed 26 = .ok (.iload_n 3, 1) := dz_29 (n := 0) (r := 26) hz_X12_feed_0 rfl
theorem dX12_feed_27 : decode cX12_feed 27 = .ok (.invokevirtual 97, 3) := dz_182 (n := 0) (r := 27) hz_X12_feed_0 rfl rfl
theorem dX12_feed_30 : decode cX12_feed 30 = .ok (.aload_n 0, 1) := dz_42 (n := 0) (r := 30) hz_X12_feed_0 rfl
theorem dX12_feed_31 : decode cX12_feed 31 = .ok (.iload 4, 2) := dz_21 (n := 0) (r := 31) hz_X12_feed_0 rfl rfl
theorem hz_X12_feed_32 : (cX12_feed.data.toList.drop 32).take 40 = [4, 182, 0, 97, 42, 21, 5, 182, 0, 97, 42, 180, 0, 94, 172] := by decide +kernel
theorem dX12_feed_33 : decode cX12_feed 33 = .ok (.invokevirtual 97, 3) := dz_182 (n := 32) (r := 1) hz_X12_feed_32 rfl rfl
theorem dX12_feed_36 : decode cX12_feed 36 = .ok (.aload_n 0, 1) := dz_42 (n := 32) (r := 4) hz_X12_feed_32 rfl
theorem dX12_feed_37 : decode cX12_feed 37 = .ok (.iload 5, 2) := dz_21 (n := 32) (r := 5) hz_X12_feed_32 rfl rfl
theorem dX12_feed_39 : decode cX12_feed 39 = .ok (.invokevirtual 97, 3) := dz_182 (n := 32) (r := 7) hz_X12_feed_32 rfl rfl
theorem dX12_feed_42 : decode cX12_feed 42 = .ok (.aload_n 0, 1) := dz_42 (n := 32) (r := 10) hz_X12_feed_32 rfl
theorem dX12_feed_43 : decode cX12_feed 43 = .ok (.getfield 94, 3) := dz_180 (n := 32) (r := 11) hz_X12_feed_32 rfl rfl
theorem dX12_feed_46 : decode cX12_feed 46 = .ok (.ireturn, 1) := dz_172 (n := 32) (r := 14) hz_X12_feed_32 rfl
theorem hz_X12_lays_0 : (cX12_lays.data.toList.drop 0).take 40 = [16, 24, 61, 28, 155, 0, 32, 42, 180, 0, 13, 42, 180, 0, 94, 27, 28, 122, 145, 84, 42, 89, 180, 0, 94, 4, 96, 181, 0, 94, 132, 2, 248, 167, 255, 226, 177] := by decide +kernel
theorem dX12_lays_0 : decode cX12_lays 0 = .ok (.bipush 24, 2) := dz_16 (n := 0) (r := 0) hz_X12_lays_0 rfl rfl
theorem dX12_lays_2 : decode cX12_lays 2 = .ok (.istore_n 2, 1) := dz_61 (n := 0) (r := 2) hz_X12_lays_0 rfl
theorem dX12_lays_3 : decode cX12_lays 3 = .ok (.iload_n 2, 1) := dz_28 (n := 0) (r := 3) hz_X12_lays_0 rfl
theorem dX12_lays_4 : decode cX12_lays 4 = .ok (.ifCond .lt 32, 3) := dz_155 (n := 0) (r := 4) hz_X12_lays_0 rfl (by decide +kernel)
theorem dX12_lays_7 : decode cX12_lays 7 = .ok (.aload_n 0, 1) := dz_42 (n := 0) (r := 7) hz_X12_lays_0 rfl
theorem dX12_lays_8 : decode cX12_lays 8 = .ok (.getfield 13, 3) := dz_180 (n := 0) (r := 8) hz_X12_lays_0 rfl rfl
theorem dX12_lays_11 : decode cX12_lays 11 = .ok (.aload_n 0, 1) := dz_42 (n := 0) (r := 11) hz_X12_lays_0 rfl
theorem dX12_lays_12 : decode cX12_lays 12 = .ok (.getfield 94, 3) := dz_180 (n := 0) (r := 12) hz_X12_lays_0 rfl rfl
theorem dX12_lays_15 : decode cX12_lays 15 = .ok (.iload_n 1, 1) := dz_27 (n := 0) (r := 15) hz_X12_lays_0 rfl
theorem dX12_lays_16 : decode cX12_lays 16 = .ok (.iload_n 2, 1) := dz_28 (n := 0) (r := 16) hz_X12_lays_0 rfl
theorem dX12_lays_17 : decode cX12_lays 17 = .ok (.ishr, 1) := dz_122 (n := 0) (r := 17) hz_X12_lays_0 rfl
theorem dX12_lays_18 : decode cX12_lays 18 = .ok (.i2b, 1) := dz_145 (n := 0) (r := 18) hz_X12_lays_0 rfl
theorem dX12_lays_19 : decode cX12_lays 19 = .ok (.bastore, 1) := dz_84 (n := 0) (r := 19) hz_X12_lays_0 rfl
theorem dX12_lays_20 : decode cX12_lays 20 = .ok (.aload_n 0, 1) := dz_42 (n := 0) (r := 20) hz_X12_lays_0 rfl
theorem dX12_lays_21 : decode cX12_lays 21 = .ok (.dup, 1) := dz_89 (n := 0) (r := 21) hz_X12_lays_0 rfl
theorem dX12_lays_22 : decode cX12_lays 22 = .ok (.getfield 94, 3) := dz_180 (n := 0) (r := 22) hz_X12_lays_0 rfl rfl
theorem dX12_lays_25 : decode cX12_lays 25 = .ok (.iconst 1, 1) := dz_4 (n := 0) (r := 25) hz_X12_lays_0 rfl
theorem dX12_lays_26 : decode cX12_lays 26 = .ok (.iadd, 1) := dz_96 (n := 0) (r := 26) hz_X12_lays_0 rfl
theorem dX12_lays_27 : decode cX12_lays 27 = .ok (.putfield 94, 3) := dz_181 (n := 0) (r := 27) hz_X12_lays_0 rfl rfl
theorem dX12_lays_30 : decode cX12_lays 30 = .ok (.iinc 2 (-8), 3) := dz_132 (n := 0) (r := 30) hz_X12_lays_0 rfl rfl rfl
theorem hz_X12_lays_32 : (cX12_lays.data.toList.drop 32).take 40 = [248, 167, 255, 226, 177] := by decide +kernel
theorem dX12_lays_33 : decode cX12_lays 33 = .ok (.goto (-30), 3) := dz_167 (n := 32) (r := 1) hz_X12_lays_32 rfl (by decide +kernel)
theorem dX12_lays_36 : decode cX12_lays 36 = .ok (.return_, 1) := dz_177 (n := 32) (r := 4) hz_X12_lays_32 rfl
theorem hz_X12_back_0 : (cX12_back.data.toList.drop 0).take 40 = [27, 155, 0, 11, 27, 42, 180, 0, 94, 164, 0, 5, 2, 172, 42, 89, 180, 0, 94, 27, 100, 181, 0, 94, 42, 180, 0, 94, 172] := by decide +kernel
theorem dX12_back_0 : decode cX12_back 0 = .ok (.iload_n 1, 1) := dz_27 (n := 0) (r := 0) hz_X12_back_0 rfl
theorem dX12_back_1 : decode cX12_back 1 = .ok (.ifCond .lt 11, 3) := dz_155 (n := 0) (r := 1) hz_X12_back_0 rfl (by decide +kernel)
theorem dX12_back_4 : decode cX12_back 4 = .ok (.iload_n 1, 1) := dz_27 (n := 0) (r := 4) hz_X12_back_0 rfl
theorem dX12_back_5 : decode cX12_back 5 = .ok (.aload_n 0, 1) := dz_42 (n := 0) (r := 5) hz_X12_back_0 rfl
theorem dX12_back_6 : decode cX12_back 6 = .ok (.getfield 94, 3) := dz_180 (n := 0) (r := 6) hz_X12_back_0 rfl rfl
theorem dX12_back_9 : decode cX12_back 9 = .ok (.if_icmp .le 5, 3) := dz_164 (n := 0) (r := 9) hz_X12_back_0 rfl (by decide +kernel)
theorem dX12_back_12 : decode cX12_back 12 = .ok (.iconst (-1), 1) := dz_2 (n := 0) (r := 12) hz_X12_back_0 rfl
theorem dX12_back_13 : decode cX12_back 13 = .ok (.ireturn, 1) := dz_172 (n := 0) (r := 13) hz_X12_back_0 rfl
theorem dX12_back_14 : decode cX12_back 14 = .ok (.aload_n 0, 1) := dz_42 (n := 0) (r := 14) hz_X12_back_0 rfl
theorem dX12_back_15 : decode cX12_back 15 = .ok (.dup, 1) := dz_89 (n := 0) (r := 15) hz_X12_back_0 rfl
theorem dX12_back_16 : decode cX12_back 16 = .ok (.getfield 94, 3) := dz_180 (n := 0) (r := 16) hz_X12_back_0 rfl rfl
theorem dX12_back_19 : decode cX12_back 19 = .ok (.iload_n 1, 1) := dz_27 (n := 0) (r := 19) hz_X12_back_0 rfl
theorem dX12_back_20 : decode cX12_back 20 = .ok (.isub, 1) := dz_100 (n := 0) (r := 20) hz_X12_back_0 rfl
theorem dX12_back_21 : decode cX12_back 21 = .ok (.putfield 94, 3) := dz_181 (n := 0) (r := 21) hz_X12_back_0 rfl rfl
theorem dX12_back_24 : decode cX12_back 24 = .ok (.aload_n 0, 1) := dz_42 (n := 0) (r := 24) hz_X12_back_0 rfl
theorem dX12_back_25 : decode cX12_back 25 = .ok (.getfield 94, 3) := dz_180 (n := 0) (r := 25) hz_X12_back_0 rfl rfl
theorem dX12_back_28 : decode cX12_back 28 = .ok (.ireturn, 1) := dz_172 (n := 0) (r := 28) hz_X12_back_0 rfl
theorem hz_X12_byteAt_0 : (cX12_byteAt.data.toList.drop 0).take 40 = [27, 42, 180, 0, 101, 162, 0, 16, 42, 180, 0, 17, 27, 51, 17, 0, 255, 126, 167, 0, 4, 3, 172] := by decide +kernel
theorem dX12_byteAt_0 : decode cX12_byteAt 0 = .ok (.iload_n 1, 1) := dz_27 (n := 0) (r := 0) hz_X12_byteAt_0 rfl
theorem dX12_byteAt_1 : decode cX12_byteAt 1 = .ok (.aload_n 0, 1) := dz_42 (n := 0) (r := 1) hz_X12_byteAt_0 rfl
theorem dX12_byteAt_2 : decode cX12_byteAt 2 = .ok (.getfield 101, 3) := dz_180 (n := 0) (r := 2) hz_X12_byteAt_0 rfl rfl
theorem dX12_byteAt_5 : decode cX12_byteAt 5 = .ok (.if_icmp .ge 16, 3) := dz_162 (n := 0) (r := 5) hz_X12_byteAt_0 rfl (by decide +kernel)
theorem dX12_byteAt_8 : decode cX12_byteAt 8 = .ok (.aload_n 0, 1) := dz_42 (n := 0) (r := 8) hz_X12_byteAt_0 rfl
theorem dX12_byteAt_9 : decode cX12_byteAt 9 = .ok (.getfield 17, 3) := dz_180 (n := 0) (r := 9) hz_X12_byteAt_0 rfl rfl
theorem dX12_byteAt_12 : decode cX12_byteAt 12 = .ok (.iload_n 1, 1) := dz_27 (n := 0) (r := 12) hz_X12_byteAt_0 rfl
theorem dX12_byteAt_13 : decode cX12_byteAt 13 = .ok (.baload, 1) := dz_51 (n := 0) (r := 13) hz_X12_byteAt_0 rfl
theorem dX12_byteAt_14 : decode cX12_byteAt 14 = .ok (.sipush 255, 3) := dz_17 (n := 0) (r := 14) hz_X12_byteAt_0 rfl (by decide +kernel)
theorem dX12_byteAt_17 : decode cX12_byteAt 17 = .ok (.iand, 1) := dz_126 (n := 0) (r := 17) hz_X12_byteAt_0 rfl
theorem dX12_byteAt_18 : decode cX12_byteAt 18 = .ok (.goto 4, 3) := dz_167 (n := 0) (r := 18) hz_X12_byteAt_0 rfl (by decide +kernel)
theorem dX12_byteAt_21 : decode cX12_byteAt 21 = .ok (.iconst 0, 1) := dz_3 (n := 0) (r := 21) hz_X12_byteAt_0 rfl
theorem dX12_byteAt_22 : decode cX12_byteAt 22 = .ok (.ireturn, 1) := dz_172 (n := 0) (r := 22) hz_X12_byteAt_0 rfl
theorem hz_X12_isDigit_0 : (cX12_isDigit.data.toList.drop 0).take 40 = [26, 16, 48, 161, 0, 13, 26, 16, 57, 163, 0, 7, 4, 167, 0, 4, 3, 172] := by decide +kernel
theorem dX12_isDigit_0 : decode cX12_isDigit 0 = .ok (.iload_n 0, 1) := dz_26 (n := 0) (r := 0) hz_X12_isDigit_0 rfl
theorem dX12_isDigit_1 : decode cX12_isDigit 1 = .ok (.bipush 48, 2) := dz_16 (n := 0) (r := 1) hz_X12_isDigit_0 rfl rfl
theorem dX12_isDigit_3 : decode cX12_isDigit 3 = .ok (.if_icmp .lt 13, 3) := dz_161 (n := 0) (r := 3) hz_X12_isDigit_0 rfl (by decide +kernel)
theorem dX12_isDigit_6 : decode cX12_isDigit 6 = .ok (.iload_n 0, 1) := dz_26 (n := 0) (r := 6) hz_X12_isDigit_0 rfl
theorem dX12_isDigit_7 : decode cX12_isDigit 7 = .ok (.bipush 57, 2) := dz_16 (n := 0) (r := 7) hz_X12_isDigit_0 rfl rfl
theorem dX12_isDigit_9 : decode cX12_isDigit 9 = .ok (.if_icmp .gt 7, 3) := dz_163 (n := 0) (r := 9) hz_X12_isDigit_0 rfl (by decide +kernel)
theorem dX12_isDigit_12 : decode cX12_isDigit 12 = .ok (.iconst 1, 1) := dz_4 (n := 0) (r := 12) hz_X12_isDigit_0 rfl
theorem dX12_isDigit_13 : decode cX12_isDigit 13 = .ok (.goto 4, 3) := dz_167 (n := 0) (r := 13) hz_X12_isDigit_0 rfl (by decide +kernel)
theorem dX12_isDigit_16 : decode cX12_isDigit 16 = .ok (.iconst 0, 1) := dz_3 (n := 0) (r := 16) hz_X12_isDigit_0 rfl
theorem dX12_isDigit_17 : decode cX12_isDigit 17 = .ok (.ireturn, 1) := dz_172 (n := 0) (r := 17) hz_X12_isDigit_0 rfl
theorem hz_X12_isLetter_0 : (cX12_isLetter.data.toList.drop 0).take 40 = [26, 16, 97, 161, 0, 13, 26, 16, 122, 163, 0, 7, 4, 167, 0, 4, 3, 172] := by decide +kernel
theorem dX12_isLetter_0 : decode cX12_isLetter 0 = .ok (.iload_n 0, 1) := dz_26 (n := 0) (r := 0) hz_X12_isLetter_0 rfl
theorem dX12_isLetter_1 : decode cX12_isLetter 1 = .ok (.bipush 97, 2) := dz_16 (n := 0) (r := 1) hz_X12_isLetter_0 rfl rfl
theorem dX12_isLetter_3 : decode cX12_isLetter 3 = .ok (.if_icmp .lt 13, 3) := dz_161 (n := 0) (r := 3) hz_X12_isLetter_0 rfl (by decide +kernel)
theorem dX12_isLetter_6 : decode cX12_isLetter 6 = .ok (.iload_n 0, 1) := dz_26 (n := 0) (r := 6) hz_X12_isLetter_0 rfl
theorem dX12_isLetter_7 : decode cX12_isLetter 7 = .ok (.bipush 122, 2) := dz_16 (n := 0) (r := 7) hz_X12_isLetter_0 rfl rfl
theorem dX12_isLetter_9 : decode cX12_isLetter 9 = .ok (.if_icmp .gt 7, 3) := dz_163 (n := 0) (r := 9) hz_X12_isLetter_0 rfl (by decide +kernel)
theorem dX12_isLetter_12 : decode cX12_isLetter 12 = .ok (.iconst 1, 1) := dz_4 (n := 0) (r := 12) hz_X12_isLetter_0 rfl
theorem dX12_isLetter_13 : decode cX12_isLetter 13 = .ok (.goto 4, 3) := dz_167 (n := 0) (r := 13) hz_X12_isLetter_0 rfl (by decide +kernel)
theorem dX12_isLetter_16 : decode cX12_isLetter 16 = .ok (.iconst 0, 1) := dz_3 (n := 0) (r := 16) hz_X12_isLetter_0 rfl
theorem dX12_isLetter_17 : decode cX12_isLetter 17 = .ok (.ireturn, 1) := dz_172 (n := 0) (r := 17) hz_X12_isLetter_0 rfl
theorem hz_X12_appends_0 : (cX12_appends.data.toList.drop 0).take 40 = [28, 154, 0, 7, 30, 167, 0, 16, 20, 0, 104, 30, 105, 28, 16, 97, 100, 4, 96, 133, 97, 173] := by decide +kernel
theorem dX12_appends_0 : decode cX12_appends 0 = .ok (.iload_n 2, 1) := dz_28 (n := 0) (r := 0) hz_X12_appends_0 rfl
theorem dX12_appends_1 : decode cX12_appends 1 = .ok (.ifCond .ne 7, 3) := dz_154 (n := 0) (r := 1) hz_X12_appends_0 rfl (by decide +kernel)
theorem dX12_appends_4 : decode cX12_appends 4 = .ok (.lload_n 0, 1) := dz_30 (n := 0) (r := 4) hz_X12_appends_0 rfl
theorem dX12_appends_5 : decode cX12_appends 5 = .ok (.goto 16, 3) := dz_167 (n := 0) (r := 5) hz_X12_appends_0 rfl (by decide +kernel)
theorem dX12_appends_8 : decode cX12_appends 8 = .ok (.ldc2_w 104, 3) := dz_20 (n := 0) (r := 8) hz_X12_appends_0 rfl rfl
theorem dX12_appends_11 : decode cX12_appends 11 = .ok (.lload_n 0, 1) := dz_30 (n := 0) (r := 11) hz_X12_appends_0 rfl
theorem dX12_appends_12 : decode cX12_appends 12 = .ok (.lmul, 1) := dz_105 (n := 0) (r := 12) hz_X12_appends_0 rfl
theorem dX12_appends_13 : decode cX12_appends 13 = .ok (.iload_n 2, 1) := dz_28 (n := 0) (r := 13) hz_X12_appends_0 rfl
theorem dX12_appends_14 : decode cX12_appends 14 = .ok (.bipush 97, 2) := dz_16 (n := 0) (r := 14) hz_X12_appends_0 rfl rfl
theorem dX12_appends_16 : decode cX12_appends 16 = .ok (.isub, 1) := dz_100 (n := 0) (r := 16) hz_X12_appends_0 rfl
theorem dX12_appends_17 : decode cX12_appends 17 = .ok (.iconst 1, 1) := dz_4 (n := 0) (r := 17) hz_X12_appends_0 rfl
theorem dX12_appends_18 : decode cX12_appends 18 = .ok (.iadd, 1) := dz_96 (n := 0) (r := 18) hz_X12_appends_0 rfl
theorem dX12_appends_19 : decode cX12_appends 19 = .ok (.i2l, 1) := dz_133 (n := 0) (r := 19) hz_X12_appends_0 rfl
theorem dX12_appends_20 : decode cX12_appends 20 = .ok (.ladd, 1) := dz_97 (n := 0) (r := 20) hz_X12_appends_0 rfl
theorem dX12_appends_21 : decode cX12_appends 21 = .ok (.lreturn, 1) := dz_173 (n := 0) (r := 21) hz_X12_appends_0 rfl
theorem hz_X12_letters_0 : (cX12_letters.data.toList.drop 0).take 40 = [9, 26, 184, 0, 106, 27, 184, 0, 106, 28, 184, 0, 106, 29, 184, 0, 106, 21, 4, 184, 0, 106, 21, 5, 184, 0, 106, 21, 6, 184, 0, 106, 173] := by decide +kernel
theorem dX12_letters_0 : decode cX12_letters 0 = .ok (.lconst 0, 1) := dz_9 (n := 0) (r := 0) hz_X12_letters_0 rfl
theorem dX12_letters_1 : decode cX12_letters 1 = .ok (.iload_n 0, 1) := dz_26 (n := 0) (r := 1) hz_X12_letters_0 rfl
theorem dX12_letters_2 : decode cX12_letters 2 = .ok (.invokestatic 106, 3) := dz_184 (n := 0) (r := 2) hz_X12_letters_0 rfl rfl
theorem dX12_letters_5 : decode cX12_letters 5 = .ok (.iload_n 1, 1) := dz_27 (n := 0) (r := 5) hz_X12_letters_0 rfl
theorem dX12_letters_6 : decode cX12_letters 6 = .ok (.invokestatic 106, 3) := dz_184 (n := 0) (r := 6) hz_X12_letters_0 rfl rfl
theorem dX12_letters_9 : decode cX12_letters 9 = .ok (.iload_n 2, 1) := dz_28 (n := 0) (r := 9) hz_X12_letters_0 rfl
theorem dX12_letters_10 : decode cX12_letters 10 = .ok (.invokestatic 106, 3) := dz_184 (n := 0) (r := 10) hz_X12_letters_0 rfl rfl
theorem dX12_letters_13 : decode cX12_letters 13 = .ok (.iload_n 3, 1) := dz_29 (n := 0) (r := 13) hz_X12_letters_0 rfl
theorem dX12_letters_14 : decode cX12_letters 14 = .ok (.invokestatic 106, 3) := dz_184 (n := 0) (r := 14) hz_X12_letters_0 rfl rfl
theorem dX12_letters_17 : decode cX12_letters 17 = .ok (.iload 4, 2) := dz_21 (n := 0) (r := 17) hz_X12_letters_0 rfl rfl
theorem dX12_letters_19 : decode cX12_letters 19 = .ok (.invokestatic 106, 3) := dz_184 (n := 0) (r := 19) hz_X12_letters_0 rfl rfl
theorem dX12_letters_22 : decode cX12_letters 22 = .ok (.iload 5, 2) := dz_21 (n := 0) (r := 22) hz_X12_letters_0 rfl rfl
theorem dX12_letters_24 : decode cX12_letters 24 = .ok (.invokestatic 106, 3) := dz_184 (n := 0) (r := 24) hz_X12_letters_0 rfl rfl
theorem dX12_letters_27 : decode cX12_letters 27 = .ok (.iload 6, 2) := dz_21 (n := 0) (r := 27) hz_X12_letters_0 rfl rfl
theorem dX12_letters_29 : decode cX12_letters 29 = .ok (.invokestatic 106, 3) := dz_184 (n := 0) (r := 29) hz_X12_letters_0 rfl rfl
theorem hz_X12_letters_32 : (cX12_letters.data.toList.drop 32).take 40 = [173] := by decide +kernel
theorem dX12_letters_32 : decode cX12_letters 32 = .ok (.lreturn, 1) := dz_173 (n := 32) (r := 0) hz_X12_letters_32 rfl
theorem hz_X12_token_0 : (cX12_token.data.toList.drop 0).take 40 = [42, 180, 0, 20, 42, 180, 0, 110, 27, 79, 42, 180, 0, 24, 42, 180, 0, 110, 28, 79, 42, 180, 0, 27, 42, 180, 0, 110, 29, 79, 42, 180, 0, 30, 42, 180, 0, 110, 22, 4] := by decide +kernel
theorem dX12_token_0 : decode cX12_token 0 = .ok (.aload_n 0, 1) := dz_42 (n := 0) (r := 0) hz_X12_token_0 rfl
theorem dX12_token_1 : decode cX12_token 1 = .ok (.getfield 20, 3) := dz_180 (n := 0) (r := 1) hz_X12_token_0 rfl rfl
theorem dX12_token_4 : decode cX12_token 4 = .ok (.aload_n 0, 1) := dz_42 (n := 0) (r := 4) hz_X12_token_0 rfl
theorem dX12_token_5 : decode cX12_token 5 = .ok (.getfield 110, 3) := dz_180 (n := 0) (r := 5) hz_X12_token_0 rfl rfl
theorem dX12_token_8 : decode cX12_token 8 = .ok (.iload_n 1, 1) := dz_27 (n := 0) (r := 8) hz_X12_token_0 rfl
theorem dX12_token_9 : decode cX12_token 9 = .ok (.iastore, 1) := dz_79 (n := 0) (r := 9) hz_X12_token_0 rfl
theorem dX12_token_10 : decode cX12_token 10 = .ok (.aload_n 0, 1) := dz_42 (n := 0) (r := 10) hz_X12_token_0 rfl
theorem dX12_token_11 : decode cX12_token 11 = .ok (.getfield 24, 3) := dz_180 (n := 0) (r := 11) hz_X12_token_0 rfl rfl
theorem dX12_token_14 : decode cX12_token 14 = .ok (.aload_n 0, 1) := dz_42 (n := 0) (r := 14) hz_X12_token_0 rfl
theorem dX12_token_15 : decode cX12_token 15 = .ok (.getfield 110, 3) := dz_180 (n := 0) (r := 15) hz_X12_token_0 rfl rfl
theorem dX12_token_18 : decode cX12_token 18 = .ok (.iload_n 2, 1) := dz_28 (n := 0) (r := 18) hz_X12_token_0 rfl
theorem dX12_token_19 : decode cX12_token 19 = .ok (.iastore, 1) := dz_79 (n := 0) (r := 19) hz_X12_token_0 rfl
theorem dX12_token_20 : decode cX12_token 20 = .ok (.aload_n 0, 1) := dz_42 (n := 0) (r := 20) hz_X12_token_0 rfl
theorem dX12_token_21 : decode cX12_token 21 = .ok (.getfield 27, 3) := dz_180 (n := 0) (r := 21) hz_X12_token_0 rfl rfl
theorem dX12_token_24 : decode cX12_token 24 = .ok (.aload_n 0, 1) := dz_42 (n := 0) (r := 24) hz_X12_token_0 rfl
theorem dX12_token_25 : decode cX12_token 25 = .ok (.getfield 110, 3) := dz_180 (n := 0) (r := 25) hz_X12_token_0 rfl rfl
theorem dX12_token_28 : decode cX12_token 28 = .ok (.iload_n 3, 1) := dz_29 (n := 0) (r := 28) hz_X12_token_0 rfl
theorem dX12_token_29 : decode cX12_token 29 = .ok (.iastore, 1) := dz_79 (n := 0) (r := 29) hz_X12_token_0 rfl
theorem dX12_token_30 : decode cX12_token 30 = .ok (.aload_n 0, 1) := dz_42 (n := 0) (r := 30) hz_X12_token_0 rfl
theorem dX12_token_31 : decode cX12_token 31 = .ok (.getfield 30, 3) := dz_180 (n := 0) (r := 31) hz_X12_token_0 rfl rfl
theorem hz_X12_token_32 : (cX12_token.data.toList.drop 32).take 40 = [0, 30, 42, 180, 0, 110, 22, 4, 80, 42, 89, 180, 0, 110, 4, 96, 181, 0, 110, 177] := by decide +kernel
theorem dX12_token_34 : decode cX12_token 34 = .ok (.aload_n 0, 1) := dz_42 (n := 32) (r := 2) hz_X12_token_32 rfl
theorem dX12_token_35 : decode cX12_token 35 = .ok (.getfield 110, 3) := dz_180 (n := 32) (r := 3) hz_X12_token_32 rfl rfl
theorem dX12_token_38 : decode cX12_token 38 = .ok (.lload 4, 2) := dz_22 (n := 32) (r := 6) hz_X12_token_32 rfl rfl
theorem dX12_token_40 : decode cX12_token 40 = .ok (.lastore, 1) := dz_80 (n := 32) (r := 8) hz_X12_token_32 rfl
theorem dX12_token_41 : decode cX12_token 41 = .ok (.aload_n 0, 1) := dz_42 (n := 32) (r := 9) hz_X12_token_32 rfl
theorem dX12_token_42 : decode cX12_token 42 = .ok (.dup, 1) := dz_89 (n := 32) (r := 10) hz_X12_token_32 rfl
theorem dX12_token_43 : decode cX12_token 43 = .ok (.getfield 110, 3) := dz_180 (n := 32) (r := 11) hz_X12_token_32 rfl rfl
theorem dX12_token_46 : decode cX12_token 46 = .ok (.iconst 1, 1) := dz_4 (n := 32) (r := 14) hz_X12_token_32 rfl
theorem dX12_token_47 : decode cX12_token 47 = .ok (.iadd, 1) := dz_96 (n := 32) (r := 15) hz_X12_token_32 rfl
theorem dX12_token_48 : decode cX12_token 48 = .ok (.putfield 110, 3) := dz_181 (n := 32) (r := 16) hz_X12_token_32 rfl rfl
theorem dX12_token_51 : decode cX12_token 51 = .ok (.return_, 1) := dz_177 (n := 32) (r := 19) hz_X12_token_32 rfl
theorem hz_X12_cutsText_0 : (cX12_cutsText.data.toList.drop 0).take 40 = [42, 3, 181, 0, 110, 3, 60, 42, 180, 0, 110, 17, 1, 144, 163, 1, 17, 42, 27, 182, 0, 113, 61, 27, 42, 180, 0, 101, 161, 0, 15, 42, 3, 42, 180, 0, 101, 3, 9, 182] := by decide +kernel
theorem dX12_cutsText_0 : decode cX12_cutsText 0 = .ok (.aload_n 0, 1) := dz_42 (n := 0) (r := 0) hz_X12_cutsText_0 rfl
theorem dX12_cutsText_1 : decode cX12_cutsText 1 = .ok (.iconst 0, 1) := dz_3 (n := 0) (r := 1) hz_X12_cutsText_0 rfl
theorem dX12_cutsText_2 : decode cX12_cutsText 2 = .ok (.putfield 110, 3) := dz_181 (n := 0) (r := 2) hz_X12_cutsText_0 rfl rfl
theorem dX12_cutsText_5 : decode cX12_cutsText 5 = .ok (.iconst 0, 1) := dz_3 (n := 0) (r := 5) hz_X12_cutsText_0 rfl
theorem dX12_cutsText_6 : decode cX12_cutsText 6 = .ok (.istore_n 1, 1) := dz_60 (n := 0) (r := 6) hz_X12_cutsText_0 rfl
theorem dX12_cutsText_7 : decode cX12_cutsText 7 = .ok (.aload_n 0, 1) := dz_42 (n := 0) (r := 7) hz_X12_cutsText_0 rfl
theorem dX12_cutsText_8 : decode cX12_cutsText 8 = .ok (.getfield 110, 3) := dz_180 (n := 0) (r := 8) hz_X12_cutsText_0 rfl rfl
theorem dX12_cutsText_11 : decode cX12_cutsText 11 = .ok (.sipush 400, 3) := dz_17 (n := 0) (r := 11) hz_X12_cutsText_0 rfl (by decide +kernel)
theorem dX12_cutsText_14 : decode cX12_cutsText 14 = .ok (.if_icmp .gt 273, 3) := dz_163 (n := 0) (r := 14) hz_X12_cutsText_0 rfl (by decide +kernel)
theorem dX12_cutsText_17 : decode cX12_cutsText 17 = .ok (.aload_n 0, 1) := dz_42 (n := 0) (r := 17) hz_X12_cutsText_0 rfl
theorem dX12_cutsText_18 : decode cX12_cutsText 18 = .ok (.iload_n 1, 1) := dz_27 (n := 0) (r := 18) hz_X12_cutsText_0 rfl
theorem dX12_cutsText_19 : decode cX12_cutsText 19 = .ok (.invokevirtual 113, 3) := dz_182 (n := 0) (r := 19) hz_X12_cutsText_0 rfl rfl
theorem dX12_cutsText_22 : decode cX12_cutsText 22 = .ok (.istore_n 2, 1) := dz_61 (n := 0) (r := 22) hz_X12_cutsText_0 rfl
theorem dX12_cutsText_23 : decode cX12_cutsText 23 = .ok (.iload_n 1, 1) := dz_27 (n := 0) (r := 23) hz_X12_cutsText_0 rfl
theorem dX12_cutsText_24 : decode cX12_cutsText 24 = .ok (.aload_n 0, 1) := dz_42 (n := 0) (r := 24) hz_X12_cutsText_0 rfl
theorem dX12_cutsText_25 : decode cX12_cutsText 25 = .ok (.getfield 101, 3) := dz_180 (n := 0) (r := 25) hz_X12_cutsText_0 rfl rfl
theorem dX12_cutsText_28 : decode cX12_cutsText 28 = .ok (.if_icmp .lt 15, 3) := dz_161 (n := 0) (r := 28) hz_X12_cutsText_0 rfl (by decide +kernel)
theorem dX12_cutsText_31 : decode cX12_cutsText 31 = .ok (.aload_n 0, 1) := dz_42 (n := 0) (r := 31) hz_X12_cutsText_0 rfl
theorem hz_X12_cutsText_32 : (cX12_cutsText.data.toList.drop 32).take 40 = [3, 42, 180, 0, 101, 3, 9, 182, 0, 117, 177, 28, 16, 9, 159, 0, 21, 28, 16, 10, 159, 0, 15, 28, 16, 13, 159, 0, 9, 28, 16, 32, 160, 0, 9, 132, 1, 1, 167, 0] := by decide +kernel
theorem dX12_cutsText_32 : decode cX12_cutsText 32 = .ok (.iconst 0, 1) := dz_3 (n := 32) (r := 0) hz_X12_cutsText_32 rfl
theorem dX12_cutsText_33 : decode cX12_cutsText 33 = .ok (.aload_n 0, 1) := dz_42 (n := 32) (r := 1) hz_X12_cutsText_32 rfl
theorem dX12_cutsText_34 : decode cX12_cutsText 34 = .ok (.getfield 101, 3) := dz_180 (n := 32) (r := 2) hz_X12_cutsText_32 rfl rfl
theorem dX12_cutsText_37 : decode cX12_cutsText 37 = .ok (.iconst 0, 1) := dz_3 (n := 32) (r := 5) hz_X12_cutsText_32 rfl
theorem dX12_cutsText_38 : decode cX12_cutsText 38 = .ok (.lconst 0, 1) := dz_9 (n := 32) (r := 6) hz_X12_cutsText_32 rfl
theorem dX12_cutsText_39 : decode cX12_cutsText 39 = .ok (.invokevirtual 117, 3) := dz_182 (n := 32) (r := 7) hz_X12_cutsText_32 rfl rfl
theorem dX12_cutsText_42 : decode cX12_cutsText 42 = .ok (.return_, 1) := dz_177 (n := 32) (r := 10) hz_X12_cutsText_32 rfl
theorem dX12_cutsText_43 : decode cX12_cutsText 43 = .ok (.iload_n 2, 1) := dz_28 (n := 32) (r := 11) hz_X12_cutsText_32 rfl
theorem dX12_cutsText_44 : decode cX12_cutsText 44 = .ok (.bipush 9, 2) := dz_16 (n := 32) (r := 12) hz_X12_cutsText_32 rfl rfl
theorem dX12_cutsText_46 : decode cX12_cutsText 46 = .ok (.if_icmp .eq 21, 3) := dz_159 (n := 32) (r := 14) hz_X12_cutsText_32 rfl (by decide +kernel)
theorem dX12_cutsText_49 : decode cX12_cutsText 49 = .ok (.iload_n 2, 1) := dz_28 (n := 32) (r := 17) hz_X12_cutsText_32 rfl
theorem dX12_cutsText_50 : decode cX12_cutsText 50 = .ok (.bipush 10, 2) := dz_16 (n := 32) (r := 18) hz_X12_cutsText_32 rfl rfl
theorem dX12_cutsText_52 : decode cX12_cutsText 52 = .ok (.if_icmp .eq 15, 3) := dz_159 (n := 32) (r := 20) hz_X12_cutsText_32 rfl (by decide +kernel)
theorem dX12_cutsText_55 : decode cX12_cutsText 55 = .ok (.iload_n 2, 1) := dz_28 (n := 32) (r := 23) hz_X12_cutsText_32 rfl
theorem dX12_cutsText_56 : decode cX12_cutsText 56 = .ok (.bipush 13, 2) := dz_16 (n := 32) (r := 24) hz_X12_cutsText_32 rfl rfl
theorem dX12_cutsText_58 : decode cX12_cutsText 58 = .ok (.if_icmp .eq 9, 3) := dz_159 (n := 32) (r := 26) hz_X12_cutsText_32 rfl (by decide +kernel)
theorem dX12_cutsText_61 : decode cX12_cutsText 61 = .ok (.iload_n 2, 1) := dz_28 (n := 32) (r := 29) hz_X12_cutsText_32 rfl
theorem dX12_cutsText_62 : decode cX12_cutsText 62 = .ok (.bipush 32, 2) := dz_16 (n := 32) (r := 30) hz_X12_cutsText_32 rfl rfl
theorem hz_X12_cutsText_64 : (cX12_cutsText.data.toList.drop 64).take 40 = [160, 0, 9, 132, 1, 1, 167, 0, 214, 28, 184, 0, 121, 153, 0, 119, 3, 62, 9, 55, 4, 42, 27, 29, 96, 182, 0, 113, 184, 0, 121, 153, 0, 29, 29, 16, 8, 162, 0, 17] := by decide +kernel
theorem dX12_cutsText_64 : decode cX12_cutsText 64 = .ok (.if_icmp .ne 9, 3) := dz_160 (n := 64) (r := 0) hz_X12_cutsText_64 rfl (by decide +kernel)
theorem dX12_cutsText_67 : decode cX12_cutsText 67 = .ok (.iinc 1 1, 3) := dz_132 (n := 64) (r := 3) hz_X12_cutsText_64 rfl rfl rfl
theorem dX12_cutsText_70 : decode cX12_cutsText 70 = .ok (.goto 214, 3) := dz_167 (n := 64) (r := 6) hz_X12_cutsText_64 rfl (by decide +kernel)
theorem dX12_cutsText_73 : decode cX12_cutsText 73 = .ok (.iload_n 2, 1) := dz_28 (n := 64) (r := 9) hz_X12_cutsText_64 rfl
theorem dX12_cutsText_74 : decode cX12_cutsText 74 = .ok (.invokestatic 121, 3) := dz_184 (n := 64) (r := 10) hz_X12_cutsText_64 rfl rfl
theorem dX12_cutsText_77 : decode cX12_cutsText 77 = .ok (.ifCond .eq 119, 3) := dz_153 (n := 64) (r := 13) hz_X12_cutsText_64 rfl (by decide +kernel)
theorem dX12_cutsText_80 : decode cX12_cutsText 80 = .ok (.iconst 0, 1) := dz_3 (n := 64) (r := 16) hz_X12_cutsText_64 rfl
theorem dX12_cutsText_81 : decode cX12_cutsText 81 = .ok (.istore_n 3, 1) := dz_62 (n := 64) (r := 17) hz_X12_cutsText_64 rfl
theorem dX12_cutsText_82 : decode cX12_cutsText 82 = .ok (.lconst 0, 1) := dz_9 (n := 64) (r := 18) hz_X12_cutsText_64 rfl
theorem dX12_cutsText_83 : decode cX12_cutsText 83 = .ok (.lstore 4, 2) := dz_55 (n := 64) (r := 19) hz_X12_cutsText_64 rfl rfl
theorem dX12_cutsText_85 : decode cX12_cutsText 85 = .ok (.aload_n 0, 1) := dz_42 (n := 64) (r := 21) hz_X12_cutsText_64 rfl
theorem dX12_cutsText_86 : decode cX12_cutsText 86 = .ok (.iload_n 1, 1) := dz_27 (n := 64) (r := 22) hz_X12_cutsText_64 rfl
theorem dX12_cutsText_87 : decode cX12_cutsText 87 = .ok (.iload_n 3, 1) := dz_29 (n := 64) (r := 23) hz_X12_cutsText_64 rfl
theorem dX12_cutsText_88 : decode cX12_cutsText 88 = .ok (.iadd, 1) := dz_96 (n := 64) (r := 24) hz_X12_cutsText_64 rfl
theorem dX12_cutsText_89 : decode cX12_cutsText 89 = .ok (.invokevirtual 113, 3) := dz_182 (n := 64) (r := 25) hz_X12_cutsText_64 rfl rfl
theorem dX12_cutsText_92 : decode cX12_cutsText 92 = .ok (.invokestatic 121, 3) := dz_184 (n := 64) (r := 28) hz_X12_cutsText_64 rfl rfl
theorem dX12_cutsText_95 : decode cX12_cutsText 95 = .ok (.ifCond .eq 29, 3) := dz_153 (n := 64) (r := 31) hz_X12_cutsText_64 rfl (by decide +kernel)
theorem hz_X12_cutsText_96 : (cX12_cutsText.data.toList.drop 96).take 40 = [0, 29, 29, 16, 8, 162, 0, 17, 22, 4, 42, 27, 29, 96, 182, 0, 113, 184, 0, 106, 55, 4, 132, 3, 1, 167, 255, 220, 29, 16, 8, 164, 0, 7, 6, 167, 0, 4, 4, 54] := by decide +kernel
theorem dX12_cutsText_98 : decode cX12_cutsText 98 = .ok (.iload_n 3, 1) := dz_29 (n := 96) (r := 2) hz_X12_cutsText_96 rfl
theorem dX12_cutsText_99 : decode cX12_cutsText 99 = .ok (.bipush 8, 2) := dz_16 (n := 96) (r := 3) hz_X12_cutsText_96 rfl rfl
theorem dX12_cutsText_101 : decode cX12_cutsText 101 = .ok (.if_icmp .ge 17, 3) := dz_162 (n := 96) (r := 5) hz_X12_cutsText_96 rfl (by decide +kernel)
theorem dX12_cutsText_104 : decode cX12_cutsText 104 = .ok (.lload 4, 2) := dz_22 (n := 96) (r := 8) hz_X12_cutsText_96 rfl rfl
theorem dX12_cutsText_106 : decode cX12_cutsText 106 = .ok (.aload_n 0, 1) := dz_42 (n := 96) (r := 10) hz_X12_cutsText_96 rfl
theorem dX12_cutsText_107 : decode cX12_cutsText 107 = .ok (.iload_n 1, 1) := dz_27 (n := 96) (r := 11) hz_X12_cutsText_96 rfl
theorem dX12_cutsText_108 : decode cX12_cutsText 108 = .ok (.iload_n 3, 1) := dz_29 (n := 96) (r := 12) hz_X12_cutsText_96 rfl
theorem dX12_cutsText_109 : decode cX12_cutsText 109 = .ok (.iadd, 1) := dz_96 (n := 96) (r := 13) hz_X12_cutsText_96 rfl
theorem dX12_cutsText_110 : decode cX12_cutsText 110 = .ok (.invokevirtual 113, 3) := dz_182 (n := 96) (r := 14) hz_X12_cutsText_96 rfl rfl
theorem dX12_cutsText_113 : decode cX12_cutsText 113 = .ok (.invokestatic 106, 3) := dz_184 (n := 96) (r := 17) hz_X12_cutsText_96 rfl rfl
theorem dX12_cutsText_116 : decode cX12_cutsText 116 = .ok (.lstore 4, 2) := dz_55 (n := 96) (r := 20) hz_X12_cutsText_96 rfl rfl
theorem dX12_cutsText_118 : decode cX12_cutsText 118 = .ok (.iinc 3 1, 3) := dz_132 (n := 96) (r := 22) hz_X12_cutsText_96 rfl rfl rfl
theorem dX12_cutsText_121 : decode cX12_cutsText 121 = .ok (.goto (-36), 3) := dz_167 (n := 96) (r := 25) hz_X12_cutsText_96 rfl (by decide +kernel)
theorem dX12_cutsText_124 : decode cX12_cutsText 124 = .ok (.iload_n 3, 1) := dz_29 (n := 96) (r := 28) hz_X12_cutsText_96 rfl
theorem dX12_cutsText_125 : decode cX12_cutsText 125 = .ok (.bipush 8, 2) := dz_16 (n := 96) (r := 29) hz_X12_cutsText_96 rfl rfl
theorem dX12_cutsText_127 : decode cX12_cutsText 127 = .ok (.if_icmp .le 7, 3) := dz_164 (n := 96) (r := 31) hz_X12_cutsText_96 rfl (by decide +kernel)
theorem hz_X12_cutsText_128 : (cX12_cutsText.data.toList.drop 128).take 40 = [0, 7, 6, 167, 0, 4, 4, 54, 6, 29, 16, 8, 163, 0, 39, 3, 54, 7, 21, 7, 16, 11, 162, 0, 29, 42, 180, 0, 34, 21, 7, 47, 22, 4, 148, 154, 0, 10, 16, 20] := by decide +kernel
theorem dX12_cutsText_130 : decode cX12_cutsText 130 = .ok (.iconst 3, 1) := dz_6 (n := 128) (r := 2) hz_X12_cutsText_128 rfl
theorem dX12_cutsText_131 : decode cX12_cutsText 131 = .ok (.goto 4, 3) := dz_167 (n := 128) (r := 3) hz_X12_cutsText_128 rfl (by decide +kernel)
theorem dX12_cutsText_134 : decode cX12_cutsText 134 = .ok (.iconst 1, 1) := dz_4 (n := 128) (r := 6) hz_X12_cutsText_128 rfl
theorem dX12_cutsText_135 : decode cX12_cutsText 135 = .ok (.istore 6, 2) := dz_54 (n := 128) (r := 7) hz_X12_cutsText_128 rfl rfl
theorem dX12_cutsText_137 : decode cX12_cutsText 137 = .ok (.iload_n 3, 1) := dz_29 (n := 128) (r := 9) hz_X12_cutsText_128 rfl
theorem dX12_cutsText_138 : decode cX12_cutsText 138 = .ok (.bipush 8, 2) := dz_16 (n := 128) (r := 10) hz_X12_cutsText_128 rfl rfl
theorem dX12_cutsText_140 : decode cX12_cutsText 140 = .ok (.if_icmp .gt 39, 3) := dz_163 (n := 128) (r := 12) hz_X12_cutsText_128 rfl (by decide +kernel)
theorem dX12_cutsText_143 : decode cX12_cutsText 143 = .ok (.iconst 0, 1) := dz_3 (n := 128) (r := 15) hz_X12_cutsText_128 rfl
theorem dX12_cutsText_144 : decode cX12_cutsText 144 = .ok (.istore 7, 2) := dz_54 (n := 128) (r := 16) hz_X12_cutsText_128 rfl rfl
theorem dX12_cutsText_146 : decode cX12_cutsText 146 = .ok (.iload 7, 2) := dz_21 (n := 128) (r := 18) hz_X12_cutsText_128 rfl rfl
theorem dX12_cutsText_148 : decode cX12_cutsText 148 = .ok (.bipush 11, 2) := dz_16 (n := 128) (r := 20) hz_X12_cutsText_128 rfl rfl
theorem dX12_cutsText_150 : decode cX12_cutsText 150 = .ok (.if_icmp .ge 29, 3) := dz_162 (n := 128) (r := 22) hz_X12_cutsText_128 rfl (by decide +kernel)
theorem dX12_cutsText_153 : decode cX12_cutsText 153 = .ok (.aload_n 0, 1) := dz_42 (n := 128) (r := 25) hz_X12_cutsText_128 rfl
theorem dX12_cutsText_154 : decode cX12_cutsText 154 = .ok (.getfield 34, 3) := dz_180 (n := 128) (r := 26) hz_X12_cutsText_128 rfl rfl
theorem dX12_cutsText_157 : decode cX12_cutsText 157 = .ok (.iload 7, 2) := dz_21 (n := 128) (r := 29) hz_X12_cutsText_128 rfl rfl
theorem dX12_cutsText_159 : decode cX12_cutsText 159 = .ok (.laload, 1) := dz_47 (n := 128) (r := 31) hz_X12_cutsText_128 rfl
theorem hz_X12_cutsText_160 : (cX12_cutsText.data.toList.drop 160).take 40 = [22, 4, 148, 154, 0, 10, 16, 20, 21, 7, 96, 54, 6, 132, 7, 1, 167, 255, 226, 42, 21, 6, 27, 3, 22, 4, 182, 0, 117, 27, 29, 96, 60, 167, 0, 91, 28, 184, 0, 125] := by decide +kernel
theorem dX12_cutsText_160 : decode cX12_cutsText 160 = .ok (.lload 4, 2) := dz_22 (n := 160) (r := 0) hz_X12_cutsText_160 rfl rfl
theorem dX12_cutsText_162 : decode cX12_cutsText 162 = .ok (.lcmp, 1) := dz_148 (n := 160) (r := 2) hz_X12_cutsText_160 rfl
theorem dX12_cutsText_163 : decode cX12_cutsText 163 = .ok (.ifCond .ne 10, 3) := dz_154 (n := 160) (r := 3) hz_X12_cutsText_160 rfl (by decide +kernel)
theorem dX12_cutsText_166 : decode cX12_cutsText 166 = .ok (.bipush 20, 2) := dz_16 (n := 160) (r := 6) hz_X12_cutsText_160 rfl rfl
theorem dX12_cutsText_168 : decode cX12_cutsText 168 = .ok (.iload 7, 2) := dz_21 (n := 160) (r := 8) hz_X12_cutsText_160 rfl rfl
theorem dX12_cutsText_170 : decode cX12_cutsText 170 = .ok (.iadd, 1) := dz_96 (n := 160) (r := 10) hz_X12_cutsText_160 rfl
theorem dX12_cutsText_171 : decode cX12_cutsText 171 = .ok (.istore 6, 2) := dz_54 (n := 160) (r := 11) hz_X12_cutsText_160 rfl rfl
theorem dX12_cutsText_173 : decode cX12_cutsText 173 = .ok (.iinc 7 1, 3) := dz_132 (n := 160) (r := 13) hz_X12_cutsText_160 rfl rfl rfl
theorem dX12_cutsText_176 : decode cX12_cutsText 176 = .ok (.goto (-30), 3) := dz_167 (n := 160) (r := 16) hz_X12_cutsText_160 rfl (by decide +kernel)
theorem dX12_cutsText_179 : decode cX12_cutsText 179 = .ok (.aload_n 0, 1) := dz_42 (n := 160) (r := 19) hz_X12_cutsText_160 rfl
theorem dX12_cutsText_180 : decode cX12_cutsText 180 = .ok (.iload 6, 2) := dz_21 (n := 160) (r := 20) hz_X12_cutsText_160 rfl rfl
theorem dX12_cutsText_182 : decode cX12_cutsText 182 = .ok (.iload_n 1, 1) := dz_27 (n := 160) (r := 22) hz_X12_cutsText_160 rfl
theorem dX12_cutsText_183 : decode cX12_cutsText 183 = .ok (.iconst 0, 1) := dz_3 (n := 160) (r := 23) hz_X12_cutsText_160 rfl
theorem dX12_cutsText_184 : decode cX12_cutsText 184 = .ok (.lload 4, 2) := dz_22 (n := 160) (r := 24) hz_X12_cutsText_160 rfl rfl
theorem dX12_cutsText_186 : decode cX12_cutsText 186 = .ok (.invokevirtual 117, 3) := dz_182 (n := 160) (r := 26) hz_X12_cutsText_160 rfl rfl
theorem dX12_cutsText_189 : decode cX12_cutsText 189 = .ok (.iload_n 1, 1) := dz_27 (n := 160) (r := 29) hz_X12_cutsText_160 rfl
theorem dX12_cutsText_190 : decode cX12_cutsText 190 = .ok (.iload_n 3, 1) := dz_29 (n := 160) (r := 30) hz_X12_cutsText_160 rfl
theorem dX12_cutsText_191 : decode cX12_cutsText 191 = .ok (.iadd, 1) := dz_96 (n := 160) (r := 31) hz_X12_cutsText_160 rfl
theorem hz_X12_cutsText_192 : (cX12_cutsText.data.toList.drop 192).take 40 = [60, 167, 0, 91, 28, 184, 0, 125, 153, 0, 75, 3, 62, 3, 54, 4, 42, 27, 29, 96, 182, 0, 113, 184, 0, 125, 153, 0, 32, 29, 7, 162, 0, 21, 16, 10, 21, 4, 104, 42] := by decide +kernel
theorem dX12_cutsText_192 : decode cX12_cutsText 192 = .ok (.istore_n 1, 1) := dz_60 (n := 192) (r := 0) hz_X12_cutsText_192 rfl
theorem dX12_cutsText_193 : decode cX12_cutsText 193 = .ok (.goto 91, 3) := dz_167 (n := 192) (r := 1) hz_X12_cutsText_192 rfl (by decide +kernel)
theorem dX12_cutsText_196 : decode cX12_cutsText 196 = .ok (.iload_n 2, 1) := dz_28 (n := 192) (r := 4) hz_X12_cutsText_192 rfl
theorem dX12_cutsText_197 : decode cX12_cutsText 197 = .ok (.invokestatic 125, 3) := dz_184 (n := 192) (r := 5) hz_X12_cutsText_192 rfl rfl
theorem dX12_cutsText_200 : decode cX12_cutsText 200 = .ok (.ifCond .eq 75, 3) := dz_153 (n := 192) (r := 8) hz_X12_cutsText_192 rfl (by decide +kernel)
theorem dX12_cutsText_203 : decode cX12_cutsText 203 = .ok (.iconst 0, 1) := dz_3 (n := 192) (r := 11) hz_X12_cutsText_192 rfl
theorem dX12_cutsText_204 : decode cX12_cutsText 204 = .ok (.istore_n 3, 1) := dz_62 (n := 192) (r := 12) hz_X12_cutsText_192 rfl
theorem dX12_cutsText_205 : decode cX12_cutsText 205 = .ok (.iconst 0, 1) := dz_3 (n := 192) (r := 13) hz_X12_cutsText_192 rfl
theorem dX12_cutsText_206 : decode cX12_cutsText 206 = .ok (.istore 4, 2) := dz_54 (n := 192) (r := 14) hz_X12_cutsText_192 rfl rfl
theorem dX12_cutsText_208 : decode cX12_cutsText 208 = .ok (.aload_n 0, 1) := dz_42 (n := 192) (r := 16) hz_X12_cutsText_192 rfl
theorem dX12_cutsText_209 : decode cX12_cutsText 209 = .ok (.iload_n 1, 1) := dz_27 (n := 192) (r := 17) hz_X12_cutsText_192 rfl
theorem dX12_cutsText_210 : decode cX12_cutsText 210 = .ok (.iload_n 3, 1) := dz_29 (n := 192) (r := 18) hz_X12_cutsText_192 rfl
theorem dX12_cutsText_211 : decode cX12_cutsText 211 = .ok (.iadd, 1) := dz_96 (n := 192) (r := 19) hz_X12_cutsText_192 rfl
theorem dX12_cutsText_212 : decode cX12_cutsText 212 = .ok (.invokevirtual 113, 3) := dz_182 (n := 192) (r := 20) hz_X12_cutsText_192 rfl rfl
theorem dX12_cutsText_215 : decode cX12_cutsText 215 = .ok (.invokestatic 125, 3) := dz_184 (n := 192) (r := 23) hz_X12_cutsText_192 rfl rfl
theorem dX12_cutsText_218 : decode cX12_cutsText 218 = .ok (.ifCond .eq 32, 3) := dz_153 (n := 192) (r := 26) hz_X12_cutsText_192 rfl (by decide +kernel)
theorem dX12_cutsText_221 : decode cX12_cutsText 221 = .ok (.iload_n 3, 1) := dz_29 (n := 192) (r := 29) hz_X12_cutsText_192 rfl
theorem dX12_cutsText_222 : decode cX12_cutsText 222 = .ok (.iconst 4, 1) := dz_7 (n := 192) (r := 30) hz_X12_cutsText_192 rfl
theorem dX12_cutsText_223 : decode cX12_cutsText 223 = .ok (.if_icmp .ge 21, 3) := dz_162 (n := 192) (r := 31) hz_X12_cutsText_192 rfl (by decide +kernel)
theorem hz_X12_cutsText_224 : (cX12_cutsText.data.toList.drop 224).take 40 = [0, 21, 16, 10, 21, 4, 104, 42, 27, 29, 96, 182, 0, 113, 96, 16, 48, 100, 54, 4, 132, 3, 1, 167, 255, 217, 42, 29, 7, 164, 0, 7, 6, 167, 0, 4, 5, 27, 21, 4] := by decide +kernel
theorem dX12_cutsText_226 : decode cX12_cutsText 226 = .ok (.bipush 10, 2) := dz_16 (n := 224) (r := 2) hz_X12_cutsText_224 rfl rfl
theorem dX12_cutsText_228 : decode cX12_cutsText 228 = .ok (.iload 4, 2) := dz_21 (n := 224) (r := 4) hz_X12_cutsText_224 rfl rfl
theorem dX12_cutsText_230 : decode cX12_cutsText 230 = .ok (.imul, 1) := dz_104 (n := 224) (r := 6) hz_X12_cutsText_224 rfl
theorem dX12_cutsText_231 : decode cX12_cutsText 231 = .ok (.aload_n 0, 1) := dz_42 (n := 224) (r := 7) hz_X12_cutsText_224 rfl
theorem dX12_cutsText_232 : decode cX12_cutsText 232 = .ok (.iload_n 1, 1) := dz_27 (n := 224) (r := 8) hz_X12_cutsText_224 rfl
theorem dX12_cutsText_233 : decode cX12_cutsText 233 = .ok (.iload_n 3, 1) := dz_29 (n := 224) (r := 9) hz_X12_cutsText_224 rfl
theorem dX12_cutsText_234 : decode cX12_cutsText 234 = .ok (.iadd, 1) := dz_96 (n := 224) (r := 10) hz_X12_cutsText_224 rfl
theorem dX12_cutsText_235 : decode cX12_cutsText 235 = .ok (.invokevirtual 113, 3) := dz_182 (n := 224) (r := 11) hz_X12_cutsText_224 rfl rfl
theorem dX12_cutsText_238 : decode cX12_cutsText 238 = .ok (.iadd, 1) := dz_96 (n := 224) (r := 14) hz_X12_cutsText_224 rfl
theorem dX12_cutsText_239 : decode cX12_cutsText 239 = .ok (.bipush 48, 2) := dz_16 (n := 224) (r := 15) hz_X12_cutsText_224 rfl rfl
theorem dX12_cutsText_241 : decode cX12_cutsText 241 = .ok (.isub, 1) := dz_100 (n := 224) (r := 17) hz_X12_cutsText_224 rfl
theorem dX12_cutsText_242 : decode cX12_cutsText 242 = .ok (.istore 4, 2) := dz_54 (n := 224) (r := 18) hz_X12_cutsText_224 rfl rfl
theorem dX12_cutsText_244 : decode cX12_cutsText 244 = .ok (.iinc 3 1, 3) := dz_132 (n := 224) (r := 20) hz_X12_cutsText_224 rfl rfl rfl
theorem dX12_cutsText_247 : decode cX12_cutsText 247 = .ok (.goto (-39), 3) := dz_167 (n := 224) (r := 23) hz_X12_cutsText_224 rfl (by decide +kernel)
theorem dX12_cutsText_250 : decode cX12_cutsText 250 = .ok (.aload_n 0, 1) := dz_42 (n := 224) (r := 26) hz_X12_cutsText_224 rfl
theorem dX12_cutsText_251 : decode cX12_cutsText 251 = .ok (.iload_n 3, 1) := dz_29 (n := 224) (r := 27) hz_X12_cutsText_224 rfl
theorem dX12_cutsText_252 : decode cX12_cutsText 252 = .ok (.iconst 4, 1) := dz_7 (n := 224) (r := 28) hz_X12_cutsText_224 rfl
theorem dX12_cutsText_253 : decode cX12_cutsText 253 = .ok (.if_icmp .le 7, 3) := dz_164 (n := 224) (r := 29) hz_X12_cutsText_224 rfl (by decide +kernel)
theorem hz_X12_cutsText_256 : (cX12_cutsText.data.toList.drop 256).take 40 = [6, 167, 0, 4, 5, 27, 21, 4, 9, 182, 0, 117, 27, 29, 96, 60, 167, 0, 12, 27, 42, 27, 28, 182, 0, 128, 96, 60, 167, 254, 235, 177] := by decide +kernel
theorem dX12_cutsText_256 : decode cX12_cutsText 256 = .ok (.iconst 3, 1) := dz_6 (n := 256) (r := 0) hz_X12_cutsText_256 rfl
theorem dX12_cutsText_257 : decode cX12_cutsText 257 = .ok (.goto 4, 3) := dz_167 (n := 256) (r := 1) hz_X12_cutsText_256 rfl (by decide +kernel)
theorem dX12_cutsText_260 : decode cX12_cutsText 260 = .ok (.iconst 2, 1) := dz_5 (n := 256) (r := 4) hz_X12_cutsText_256 rfl
theorem dX12_cutsText_261 : decode cX12_cutsText 261 = .ok (.iload_n 1, 1) := dz_27 (n := 256) (r := 5) hz_X12_cutsText_256 rfl
theorem dX12_cutsText_262 : decode cX12_cutsText 262 = .ok (.iload 4, 2) := dz_21 (n := 256) (r := 6) hz_X12_cutsText_256 rfl rfl
theorem dX12_cutsText_264 : decode cX12_cutsText 264 = .ok (.lconst 0, 1) := dz_9 (n := 256) (r := 8) hz_X12_cutsText_256 rfl
theorem dX12_cutsText_265 : decode cX12_cutsText 265 = .ok (.invokevirtual 117, 3) := dz_182 (n := 256) (r := 9) hz_X12_cutsText_256 rfl rfl
theorem dX12_cutsText_268 : decode cX12_cutsText 268 = .ok (.iload_n 1, 1) := dz_27 (n := 256) (r := 12) hz_X12_cutsText_256 rfl
theorem dX12_cutsText_269 : decode cX12_cutsText 269 = .ok (.iload_n 3, 1) := dz_29 (n := 256) (r := 13) hz_X12_cutsText_256 rfl
theorem dX12_cutsText_270 : decode cX12_cutsText 270 = .ok (.iadd, 1) := dz_96 (n := 256) (r := 14) hz_X12_cutsText_256 rfl
theorem dX12_cutsText_271 : decode cX12_cutsText 271 = .ok (.istore_n 1, 1) := dz_60 (n := 256) (r := 15) hz_X12_cutsText_256 rfl
theorem dX12_cutsText_272 : decode cX12_cutsText 272 = .ok (.goto 12, 3) := dz_167 (n := 256) (r := 16) hz_X12_cutsText_256 rfl (by decide +kernel)
theorem dX12_cutsText_275 : decode cX12_cutsText 275 = .ok (.iload_n 1, 1) := dz_27 (n := 256) (r := 19) hz_X12_cutsText_256 rfl
theorem dX12_cutsText_276 : decode cX12_cutsText 276 = .ok (.aload_n 0, 1) := dz_42 (n := 256) (r := 20) hz_X12_cutsText_256 rfl
theorem dX12_cutsText_277 : decode cX12_cutsText 277 = .ok (.iload_n 1, 1) := dz_27 (n := 256) (r := 21) hz_X12_cutsText_256 rfl
theorem dX12_cutsText_278 : decode cX12_cutsText 278 = .ok (.iload_n 2, 1) := dz_28 (n := 256) (r := 22) hz_X12_cutsText_256 rfl
theorem dX12_cutsText_279 : decode cX12_cutsText 279 = .ok (.invokevirtual 128, 3) := dz_182 (n := 256) (r := 23) hz_X12_cutsText_256 rfl rfl
theorem dX12_cutsText_282 : decode cX12_cutsText 282 = .ok (.iadd, 1) := dz_96 (n := 256) (r := 26) hz_X12_cutsText_256 rfl
theorem dX12_cutsText_283 : decode cX12_cutsText 283 = .ok (.istore_n 1, 1) := dz_60 (n := 256) (r := 27) hz_X12_cutsText_256 rfl
theorem dX12_cutsText_284 : decode cX12_cutsText 284 = .ok (.goto (-277), 3) := dz_167 (n := 256) (r := 28) hz_X12_cutsText_256 rfl (by decide +kernel)
theorem dX12_cutsText_287 : decode cX12_cutsText 287 = .ok (.return_, 1) := dz_177 (n := 256) (r := 31) hz_X12_cutsText_256 rfl
theorem hz_X12_sign_0 : (cX12_sign.data.toList.drop 0).take 40 = [42, 28, 16, 59, 160, 0, 7, 7, 167, 0, 14, 28, 16, 45, 160, 0, 7, 8, 167, 0, 4, 6, 27, 3, 9, 182, 0, 117, 4, 172] := by decide +kernel
theorem dX12_sign_0 : decode cX12_sign 0 = .ok (.aload_n 0, 1) := dz_42 (n := 0) (r := 0) hz_X12_sign_0 rfl
theorem dX12_sign_1 : decode cX12_sign 1 = .ok (.iload_n 2, 1) := dz_28 (n := 0) (r := 1) hz_X12_sign_0 rfl
theorem dX12_sign_2 : decode cX12_sign 2 = .ok (.bipush 59, 2) := dz_16 (n := 0) (r := 2) hz_X12_sign_0 rfl rfl
theorem dX12_sign_4 : decode cX12_sign 4 = .ok (.if_icmp .ne 7, 3) := dz_160 (n := 0) (r := 4) hz_X12_sign_0 rfl (by decide +kernel)
theorem dX12_sign_7 : decode cX12_sign 7 = .ok (.iconst 4, 1) := dz_7 (n := 0) (r := 7) hz_X12_sign_0 rfl
theorem dX12_sign_8 : decode cX12_sign 8 = .ok (.goto 14, 3) := dz_167 (n := 0) (r := 8) hz_X12_sign_0 rfl (by decide +kernel)
theorem dX12_sign_11 : decode cX12_sign 11 = .ok (.iload_n 2, 1) := dz_28 (n := 0) (r := 11) hz_X12_sign_0 rfl
theorem dX12_sign_12 : decode cX12_sign 12 = .ok (.bipush 45, 2) := dz_16 (n := 0) (r := 12) hz_X12_sign_0 rfl rfl
theorem dX12_sign_14 : decode cX12_sign 14 = .ok (.if_icmp .ne 7, 3) := dz_160 (n := 0) (r := 14) hz_X12_sign_0 rfl (by decide +kernel)
theorem dX12_sign_17 : decode cX12_sign 17 = .ok (.iconst 5, 1) := dz_8 (n := 0) (r := 17) hz_X12_sign_0 rfl
theorem dX12_sign_18 : decode cX12_sign 18 = .ok (.goto 4, 3) := dz_167 (n := 0) (r := 18) hz_X12_sign_0 rfl (by decide +kernel)
theorem dX12_sign_21 : decode cX12_sign 21 = .ok (.iconst 3, 1) := dz_6 (n := 0) (r := 21) hz_X12_sign_0 rfl
theorem dX12_sign_22 : decode cX12_sign 22 = .ok (.iload_n 1, 1) := dz_27 (n := 0) (r := 22) hz_X12_sign_0 rfl
theorem dX12_sign_23 : decode cX12_sign 23 = .ok (.iconst 0, 1) := dz_3 (n := 0) (r := 23) hz_X12_sign_0 rfl
theorem dX12_sign_24 : decode cX12_sign 24 = .ok (.lconst 0, 1) := dz_9 (n := 0) (r := 24) hz_X12_sign_0 rfl
theorem dX12_sign_25 : decode cX12_sign 25 = .ok (.invokevirtual 117, 3) := dz_182 (n := 0) (r := 25) hz_X12_sign_0 rfl rfl
theorem dX12_sign_28 : decode cX12_sign 28 = .ok (.iconst 1, 1) := dz_4 (n := 0) (r := 28) hz_X12_sign_0 rfl
theorem dX12_sign_29 : decode cX12_sign 29 = .ok (.ireturn, 1) := dz_172 (n := 0) (r := 29) hz_X12_sign_0 rfl
theorem hz_X12_is_0 : (cX12_is.data.toList.drop 0).take 40 = [42, 180, 0, 132, 154, 0, 20, 42, 180, 0, 20, 42, 180, 0, 135, 46, 27, 160, 0, 7, 4, 167, 0, 4, 3, 172] := by decide +kernel
theorem dX12_is_0 : decode cX12_is 0 = .ok (.aload_n 0, 1) := dz_42 (n := 0) (r := 0) hz_X12_is_0 rfl
theorem dX12_is_1 : decode cX12_is 1 = .ok (.getfield 132, 3) := dz_180 (n := 0) (r := 1) hz_X12_is_0 rfl rfl
theorem dX12_is_4 : decode cX12_is 4 = .ok (.ifCond .ne 20, 3) := dz_154 (n := 0) (r := 4) hz_X12_is_0 rfl (by decide +kernel)
theorem dX12_is_7 : decode cX12_is 7 = .ok (.aload_n 0, 1) := dz_42 (n := 0) (r := 7) hz_X12_is_0 rfl
theorem dX12_is_8 : decode cX12_is 8 = .ok (.getfield 20, 3) := dz_180 (n := 0) (r := 8) hz_X12_is_0 rfl rfl
theorem dX12_is_11 : decode cX12_is 11 = .ok (.aload_n 0, 1) := dz_42 (n := 0) (r := 11) hz_X12_is_0 rfl
theorem dX12_is_12 : decode cX12_is 12 = .ok (.getfield 135, 3) := dz_180 (n := 0) (r := 12) hz_X12_is_0 rfl rfl
theorem dX12_is_15 : decode cX12_is 15 = .ok (.iaload, 1) := dz_46 (n := 0) (r := 15) hz_X12_is_0 rfl
theorem dX12_is_16 : decode cX12_is 16 = .ok (.iload_n 1, 1) := dz_27 (n := 0) (r := 16) hz_X12_is_0 rfl
theorem dX12_is_17 : decode cX12_is 17 = .ok (.if_icmp .ne 7, 3) := dz_160 (n := 0) (r := 17) hz_X12_is_0 rfl (by decide +kernel)
theorem dX12_is_20 : decode cX12_is 20 = .ok (.iconst 1, 1) := dz_4 (n := 0) (r := 20) hz_X12_is_0 rfl
theorem dX12_is_21 : decode cX12_is 21 = .ok (.goto 4, 3) := dz_167 (n := 0) (r := 21) hz_X12_is_0 rfl (by decide +kernel)
theorem dX12_is_24 : decode cX12_is 24 = .ok (.iconst 0, 1) := dz_3 (n := 0) (r := 24) hz_X12_is_0 rfl
theorem dX12_is_25 : decode cX12_is 25 = .ok (.ireturn, 1) := dz_172 (n := 0) (r := 25) hz_X12_is_0 rfl
theorem hz_X12_fail_0 : (cX12_fail.data.toList.drop 0).take 40 = [42, 180, 0, 132, 158, 0, 4, 177, 42, 27, 181, 0, 132, 42, 42, 180, 0, 24, 42, 180, 0, 135, 46, 181, 0, 138, 177] := by decide +kernel
theorem dX12_fail_0 : decode cX12_fail 0 = .ok (.aload_n 0, 1) := dz_42 (n := 0) (r := 0) hz_X12_fail_0 rfl
theorem dX12_fail_1 : decode cX12_fail 1 = .ok (.getfield 132, 3) := dz_180 (n := 0) (r := 1) hz_X12_fail_0 rfl rfl
theorem dX12_fail_4 : decode cX12_fail 4 = .ok (.ifCond .le 4, 3) := dz_158 (n := 0) (r := 4) hz_X12_fail_0 rfl (by decide +kernel)
theorem dX12_fail_7 : decode cX12_fail 7 = .ok (.return_, 1) := dz_177 (n := 0) (r := 7) hz_X12_fail_0 rfl
theorem dX12_fail_8 : decode cX12_fail 8 = .ok (.aload_n 0, 1) := dz_42 (n := 0) (r := 8) hz_X12_fail_0 rfl
theorem dX12_fail_9 : decode cX12_fail 9 = .ok (.iload_n 1, 1) := dz_27 (n := 0) (r := 9) hz_X12_fail_0 rfl
theorem dX12_fail_10 : decode cX12_fail 10 = .ok (.putfield 132, 3) := dz_181 (n := 0) (r := 10) hz_X12_fail_0 rfl rfl
theorem dX12_fail_13 : decode cX12_fail 13 = .ok (.aload_n 0, 1) := dz_42 (n := 0) (r := 13) hz_X12_fail_0 rfl
theorem dX12_fail_14 : decode cX12_fail 14 = .ok (.aload_n 0, 1) := dz_42 (n := 0) (r := 14) hz_X12_fail_0 rfl
theorem dX12_fail_15 : decode cX12_fail 15 = .ok (.getfield 24, 3) := dz_180 (n := 0) (r := 15) hz_X12_fail_0 rfl rfl
theorem dX12_fail_18 : decode cX12_fail 18 = .ok (.aload_n 0, 1) := dz_42 (n := 0) (r := 18) hz_X12_fail_0 rfl
theorem dX12_fail_19 : decode cX12_fail 19 = .ok (.getfield 135, 3) := dz_180 (n := 0) (r := 19) hz_X12_fail_0 rfl rfl
theorem dX12_fail_22 : decode cX12_fail 22 = .ok (.iaload, 1) := dz_46 (n := 0) (r := 22) hz_X12_fail_0 rfl
theorem dX12_fail_23 : decode cX12_fail 23 = .ok (.putfield 138, 3) := dz_181 (n := 0) (r := 23) hz_X12_fail_0 rfl rfl
theorem dX12_fail_26 : decode cX12_fail 26 = .ok (.return_, 1) := dz_177 (n := 0) (r := 26) hz_X12_fail_0 rfl
theorem hz_X12_wrong_0 : (cX12_wrong.data.toList.drop 0).take 40 = [42, 180, 0, 24, 28, 46, 62, 42, 180, 0, 132, 157, 0, 34, 42, 180, 0, 141, 153, 0, 28, 29, 42, 180, 0, 144, 163, 0, 19, 29, 42, 180, 0, 144, 160, 0, 12, 27, 42, 180] := by decide +kernel
theorem dX12_wrong_0 : decode cX12_wrong 0 = .ok (.aload_n 0, 1) := dz_42 (n := 0) (r := 0) hz_X12_wrong_0 rfl
theorem dX12_wrong_1 : decode cX12_wrong 1 = .ok (.getfield 24, 3) := dz_180 (n := 0) (r := 1) hz_X12_wrong_0 rfl rfl
theorem dX12_wrong_4 : decode cX12_wrong 4 = .ok (.iload_n 2, 1) := dz_28 (n := 0) (r := 4) hz_X12_wrong_0 rfl
theorem dX12_wrong_5 : decode cX12_wrong 5 = .ok (.iaload, 1) := dz_46 (n := 0) (r := 5) hz_X12_wrong_0 rfl
theorem dX12_wrong_6 : decode cX12_wrong 6 = .ok (.istore_n 3, 1) := dz_62 (n := 0) (r := 6) hz_X12_wrong_0 rfl
theorem dX12_wrong_7 : decode cX12_wrong 7 = .ok (.aload_n 0, 1) := dz_42 (n := 0) (r := 7) hz_X12_wrong_0 rfl
theorem dX12_wrong_8 : decode cX12_wrong 8 = .ok (.getfield 132, 3) := dz_180 (n := 0) (r := 8) hz_X12_wrong_0 rfl rfl
theorem dX12_wrong_11 : decode cX12_wrong 11 = .ok (.ifCond .gt 34, 3) := dz_157 (n := 0) (r := 11) hz_X12_wrong_0 rfl (by decide +kernel)
theorem dX12_wrong_14 : decode cX12_wrong 14 = .ok (.aload_n 0, 1) := dz_42 (n := 0) (r := 14) hz_X12_wrong_0 rfl
theorem dX12_wrong_15 : decode cX12_wrong 15 = .ok (.getfield 141, 3) := dz_180 (n := 0) (r := 15) hz_X12_wrong_0 rfl rfl
theorem dX12_wrong_18 : decode cX12_wrong 18 = .ok (.ifCond .eq 28, 3) := dz_153 (n := 0) (r := 18) hz_X12_wrong_0 rfl (by decide +kernel)
theorem dX12_wrong_21 : decode cX12_wrong 21 = .ok (.iload_n 3, 1) := dz_29 (n := 0) (r := 21) hz_X12_wrong_0 rfl
theorem dX12_wrong_22 : decode cX12_wrong 22 = .ok (.aload_n 0, 1) := dz_42 (n := 0) (r := 22) hz_X12_wrong_0 rfl
theorem dX12_wrong_23 : decode cX12_wrong 23 = .ok (.getfield 144, 3) := dz_180 (n := 0) (r := 23) hz_X12_wrong_0 rfl rfl
theorem dX12_wrong_26 : decode cX12_wrong 26 = .ok (.if_icmp .gt 19, 3) := dz_163 (n := 0) (r := 26) hz_X12_wrong_0 rfl (by decide +kernel)
theorem dX12_wrong_29 : decode cX12_wrong 29 = .ok (.iload_n 3, 1) := dz_29 (n := 0) (r := 29) hz_X12_wrong_0 rfl
theorem dX12_wrong_30 : decode cX12_wrong 30 = .ok (.aload_n 0, 1) := dz_42 (n := 0) (r := 30) hz_X12_wrong_0 rfl
theorem dX12_wrong_31 : decode cX12_wrong 31 = .ok (.getfield 144, 3) := dz_180 (n := 0) (r := 31) hz_X12_wrong_0 rfl rfl
theorem hz_X12_wrong_32 : (cX12_wrong.data.toList.drop 32).take 40 = [0, 144, 160, 0, 12, 27, 42, 180, 0, 141, 161, 0, 4, 177, 42, 27, 181, 0, 141, 42, 29, 181, 0, 144, 177] := by decide +kernel
theorem dX12_wrong_34 : decode cX12_wrong 34 = .ok (.if_icmp .ne 12, 3) := dz_160 (n := 32) (r := 2) hz_X12_wrong_32 rfl (by decide +kernel)
theorem dX12_wrong_37 : decode cX12_wrong 37 = .ok (.iload_n 1, 1) := dz_27 (n := 32) (r := 5) hz_X12_wrong_32 rfl
theorem dX12_wrong_38 : decode cX12_wrong 38 = .ok (.aload_n 0, 1) := dz_42 (n := 32) (r := 6) hz_X12_wrong_32 rfl
theorem dX12_wrong_39 : decode cX12_wrong 39 = .ok (.getfield 141, 3) := dz_180 (n := 32) (r := 7) hz_X12_wrong_32 rfl rfl
theorem dX12_wrong_42 : decode cX12_wrong 42 = .ok (.if_icmp .lt 4, 3) := dz_161 (n := 32) (r := 10) hz_X12_wrong_32 rfl (by decide +kernel)
theorem dX12_wrong_45 : decode cX12_wrong 45 = .ok (.return_, 1) := dz_177 (n := 32) (r := 13) hz_X12_wrong_32 rfl
theorem dX12_wrong_46 : decode cX12_wrong 46 = .ok (.aload_n 0, 1) := dz_42 (n := 32) (r := 14) hz_X12_wrong_32 rfl
theorem dX12_wrong_47 : decode cX12_wrong 47 = .ok (.iload_n 1, 1) := dz_27 (n := 32) (r := 15) hz_X12_wrong_32 rfl
theorem dX12_wrong_48 : decode cX12_wrong 48 = .ok (.putfield 141, 3) := dz_181 (n := 32) (r := 16) hz_X12_wrong_32 rfl rfl
theorem dX12_wrong_51 : decode cX12_wrong 51 = .ok (.aload_n 0, 1) := dz_42 (n := 32) (r := 19) hz_X12_wrong_32 rfl
theorem dX12_wrong_52 : decode cX12_wrong 52 = .ok (.iload_n 3, 1) := dz_29 (n := 32) (r := 20) hz_X12_wrong_32 rfl
theorem dX12_wrong_53 : decode cX12_wrong 53 = .ok (.putfield 144, 3) := dz_181 (n := 32) (r := 21) hz_X12_wrong_32 rfl rfl
theorem dX12_wrong_56 : decode cX12_wrong 56 = .ok (.return_, 1) := dz_177 (n := 32) (r := 24) hz_X12_wrong_32 rfl
theorem hz_X12_passes_0 : (cX12_passes.data.toList.drop 0).take 40 = [42, 180, 0, 135, 17, 1, 144, 160, 0, 11, 42, 5, 182, 0, 147, 167, 0, 13, 42, 89, 180, 0, 135, 4, 96, 181, 0, 135, 177] := by decide +kernel
theorem dX12_passes_0 : decode cX12_passes 0 = .ok (.aload_n 0, 1) := dz_42 (n := 0) (r := 0) hz_X12_passes_0 rfl
theorem dX12_passes_1 : decode cX12_passes 1 = .ok (.getfield 135, 3) := dz_180 (n := 0) (r := 1) hz_X12_passes_0 rfl rfl
theorem dX12_passes_4 : decode cX12_passes 4 = .ok (.sipush 400, 3) := dz_17 (n := 0) (r := 4) hz_X12_passes_0 rfl (by decide +kernel)
theorem dX12_passes_7 : decode cX12_passes 7 = .ok (.if_icmp .ne 11, 3) := dz_160 (n := 0) (r := 7) hz_X12_passes_0 rfl (by decide +kernel)
theorem dX12_passes_10 : decode cX12_passes 10 = .ok (.aload_n 0, 1) := dz_42 (n := 0) (r := 10) hz_X12_passes_0 rfl
theorem dX12_passes_11 : decode cX12_passes 11 = .ok (.iconst 2, 1) := dz_5 (n := 0) (r := 11) hz_X12_passes_0 rfl
theorem dX12_passes_12 : decode cX12_passes 12 = .ok (.invokevirtual 147, 3) := dz_182 (n := 0) (r := 12) hz_X12_passes_0 rfl rfl
theorem dX12_passes_15 : decode cX12_passes 15 = .ok (.goto 13, 3) := dz_167 (n := 0) (r := 15) hz_X12_passes_0 rfl (by decide +kernel)
theorem dX12_passes_18 : decode cX12_passes 18 = .ok (.aload_n 0, 1) := dz_42 (n := 0) (r := 18) hz_X12_passes_0 rfl
theorem dX12_passes_19 : decode cX12_passes 19 = .ok (.dup, 1) := dz_89 (n := 0) (r := 19) hz_X12_passes_0 rfl
theorem dX12_passes_20 : decode cX12_passes 20 = .ok (.getfield 135, 3) := dz_180 (n := 0) (r := 20) hz_X12_passes_0 rfl rfl
theorem dX12_passes_23 : decode cX12_passes 23 = .ok (.iconst 1, 1) := dz_4 (n := 0) (r := 23) hz_X12_passes_0 rfl
theorem dX12_passes_24 : decode cX12_passes 24 = .ok (.iadd, 1) := dz_96 (n := 0) (r := 24) hz_X12_passes_0 rfl
theorem dX12_passes_25 : decode cX12_passes 25 = .ok (.putfield 135, 3) := dz_181 (n := 0) (r := 25) hz_X12_passes_0 rfl rfl
theorem dX12_passes_28 : decode cX12_passes 28 = .ok (.return_, 1) := dz_177 (n := 0) (r := 28) hz_X12_passes_0 rfl
theorem hz_X12_must_0 : (cX12_must.data.toList.drop 0).take 40 = [42, 27, 182, 0, 150, 153, 0, 10, 42, 182, 0, 153, 167, 0, 8, 42, 4, 182, 0, 147, 177] := by decide +kernel
theorem dX12_must_0 : decode cX12_must 0 = .ok (.aload_n 0, 1) := dz_42 (n := 0) (r := 0) hz_X12_must_0 rfl
theorem dX12_must_1 : decode cX12_must 1 = .ok (.iload_n 1, 1) := dz_27 (n := 0) (r := 1) hz_X12_must_0 rfl
theorem dX12_must_2 : decode cX12_must 2 = .ok (.invokevirtual 150, 3) := dz_182 (n := 0) (r := 2) hz_X12_must_0 rfl rfl
theorem dX12_must_5 : decode cX12_must 5 = .ok (.ifCond .eq 10, 3) := dz_153 (n := 0) (r := 5) hz_X12_must_0 rfl (by decide +kernel)
theorem dX12_must_8 : decode cX12_must 8 = .ok (.aload_n 0, 1) := dz_42 (n := 0) (r := 8) hz_X12_must_0 rfl
theorem dX12_must_9 : decode cX12_must 9 = .ok (.invokevirtual 153, 3) := dz_182 (n := 0) (r := 9) hz_X12_must_0 rfl rfl
theorem dX12_must_12 : decode cX12_must 12 = .ok (.goto 8, 3) := dz_167 (n := 0) (r := 12) hz_X12_must_0 rfl (by decide +kernel)
theorem dX12_must_15 : decode cX12_must 15 = .ok (.aload_n 0, 1) := dz_42 (n := 0) (r := 15) hz_X12_must_0 rfl
theorem dX12_must_16 : decode cX12_must 16 = .ok (.iconst 1, 1) := dz_4 (n := 0) (r := 16) hz_X12_must_0 rfl
theorem dX12_must_17 : decode cX12_must 17 = .ok (.invokevirtual 147, 3) := dz_182 (n := 0) (r := 17) hz_X12_must_0 rfl rfl
theorem dX12_must_20 : decode cX12_must 20 = .ok (.return_, 1) := dz_177 (n := 0) (r := 20) hz_X12_must_0 rfl
theorem hz_X12_read_0 : (cX12_read.data.toList.drop 0).take 40 = [42, 42, 180, 0, 94, 181, 0, 101, 3, 60, 27, 42, 180, 0, 101, 162, 0, 21, 42, 180, 0, 17, 27, 42, 180, 0, 13, 27, 51, 84, 132, 1, 1, 167, 255, 233, 42, 3, 181, 0] := by decide +kernel
theorem dX12_read_0 : decode cX12_read 0 = .ok (.aload_n 0, 1) := dz_42 (n := 0) (r := 0) hz_X12_read_0 rfl
theorem dX12_read_1 : decode cX12_read 1 = .ok (.aload_n 0, 1) := dz_42 (n := 0) (r := 1) hz_X12_read_0 rfl
theorem dX12_read_2 : decode cX12_read 2 = .ok (.getfield 94, 3) := dz_180 (n := 0) (r := 2) hz_X12_read_0 rfl rfl
theorem dX12_read_5 : decode cX12_read 5 = .ok (.putfield 101, 3) := dz_181 (n := 0) (r := 5) hz_X12_read_0 rfl rfl
theorem dX12_read_8 : decode cX12_read 8 = .ok (.iconst 0, 1) := dz_3 (n := 0) (r := 8) hz_X12_read_0 rfl
theorem dX12_read_9 : decode cX12_read 9 = .ok (.istore_n 1, 1) := dz_60 (n := 0) (r := 9) hz_X12_read_0 rfl
theorem dX12_read_10 : decode cX12_read 10 = .ok (.iload_n 1, 1) := dz_27 (n := 0) (r := 10) hz_X12_read_0 rfl
theorem dX12_read_11 : decode cX12_read 11 = .ok (.aload_n 0, 1) := dz_42 (n := 0) (r := 11) hz_X12_read_0 rfl
theorem dX12_read_12 : decode cX12_read 12 = .ok (.getfield 101, 3) := dz_180 (n := 0) (r := 12) hz_X12_read_0 rfl rfl
theorem dX12_read_15 : decode cX12_read 15 = .ok (.if_icmp .ge 21, 3) := dz_162 (n := 0) (r := 15) hz_X12_read_0 rfl (by decide +kernel)
theorem dX12_read_18 : decode cX12_read 18 = .ok (.aload_n 0, 1) := dz_42 (n := 0) (r := 18) hz_X12_read_0 rfl
theorem dX12_read_19 : decode cX12_read 19 = .ok (.getfield 17, 3) := dz_180 (n := 0) (r := 19) hz_X12_read_0 rfl rfl
theorem dX12_read_22 : decode cX12_read 22 = .ok (.iload_n 1, 1) := dz_27 (n := 0) (r := 22) hz_X12_read_0 rfl
theorem dX12_read_23 : decode cX12_read 23 = .ok (.aload_n 0, 1) := dz_42 (n := 0) (r := 23) hz_X12_read_0 rfl
theorem dX12_read_24 : decode cX12_read 24 = .ok (.getfield 13, 3) := dz_180 (n := 0) (r := 24) hz_X12_read_0 rfl rfl
theorem dX12_read_27 : decode cX12_read 27 = .ok (.iload_n 1, 1) := dz_27 (n := 0) (r := 27) hz_X12_read_0 rfl
theorem dX12_read_28 : decode cX12_read 28 = .ok (.baload, 1) := dz_51 (n := 0) (r := 28) hz_X12_read_0 rfl
theorem dX12_read_29 : decode cX12_read 29 = .ok (.bastore, 1) := dz_84 (n := 0) (r := 29) hz_X12_read_0 rfl
theorem dX12_read_30 : decode cX12_read 30 = .ok (.iinc 1 1, 3) := dz_132 (n := 0) (r := 30) hz_X12_read_0 rfl rfl rfl
theorem hz_X12_read_32 : (cX12_read.data.toList.drop 32).take 40 = [1, 167, 255, 233, 42, 3, 181, 0, 94, 42, 182, 0, 156, 42, 3, 181, 0, 135, 42, 3, 181, 0, 132, 42, 3, 181, 0, 141, 42, 16, 20, 182, 0, 159, 42, 5, 182, 0, 159, 42] := by decide +kernel
theorem dX12_read_33 : decode cX12_read 33 = .ok (.goto (-23), 3) := dz_167 (n := 32) (r := 1) hz_X12_read_32 rfl (by decide +kernel)
theorem dX12_read_36 : decode cX12_read 36 = .ok (.aload_n 0, 1) := dz_42 (n := 32) (r := 4) hz_X12_read_32 rfl
theorem dX12_read_37 : decode cX12_read 37 = .ok (.iconst 0, 1) := dz_3 (n := 32) (r := 5) hz_X12_read_32 rfl
theorem dX12_read_38 : decode cX12_read 38 = .ok (.putfield 94, 3) := dz_181 (n := 32) (r := 6) hz_X12_read_32 rfl rfl
theorem dX12_read_41 : decode cX12_read 41 = .ok (.aload_n 0, 1) := dz_42 (n := 32) (r := 9) hz_X12_read_32 rfl
theorem dX12_read_42 : decode cX12_read 42 = .ok (.invokevirtual 156, 3) := dz_182 (n := 32) (r := 10) hz_X12_read_32 rfl rfl
theorem dX12_read_45 : decode cX12_read 45 = .ok (.aload_n 0, 1) := dz_42 (n := 32) (r := 13) hz_X12_read_32 rfl
theorem dX12_read_46 : decode cX12_read 46 = .ok (.iconst 0, 1) := dz_3 (n := 32) (r := 14) hz_X12_read_32 rfl
theorem dX12_read_47 : decode cX12_read 47 = .ok (.putfield 135, 3) := dz_181 (n := 32) (r := 15) hz_X12_read_32 rfl rfl
theorem dX12_read_50 : decode cX12_read 50 = .ok (.aload_n 0, 1) := dz_42 (n := 32) (r := 18) hz_X12_read_32 rfl
theorem dX12_read_51 : decode cX12_read 51 = .ok (.iconst 0, 1) := dz_3 (n := 32) (r := 19) hz_X12_read_32 rfl
theorem dX12_read_52 : decode cX12_read 52 = .ok (.putfield 132, 3) := dz_181 (n := 32) (r := 20) hz_X12_read_32 rfl rfl
theorem dX12_read_55 : decode cX12_read 55 = .ok (.aload_n 0, 1) := dz_42 (n := 32) (r := 23) hz_X12_read_32 rfl
theorem dX12_read_56 : decode cX12_read 56 = .ok (.iconst 0, 1) := dz_3 (n := 32) (r := 24) hz_X12_read_32 rfl
theorem dX12_read_57 : decode cX12_read 57 = .ok (.putfield 141, 3) := dz_181 (n := 32) (r := 25) hz_X12_read_32 rfl rfl
theorem dX12_read_60 : decode cX12_read 60 = .ok (.aload_n 0, 1) := dz_42 (n := 32) (r := 28) hz_X12_read_32 rfl
theorem dX12_read_61 : decode cX12_read 61 = .ok (.bipush 20, 2) := dz_16 (n := 32) (r := 29) hz_X12_read_32 rfl rfl
theorem dX12_read_63 : decode cX12_read 63 = .ok (.invokevirtual 159, 3) := dz_182 (n := 32) (r := 31) hz_X12_read_32 rfl rfl
theorem hz_X12_read_64 : (cX12_read.data.toList.drop 64).take 40 = [0, 159, 42, 5, 182, 0, 159, 42, 5, 182, 0, 159, 42, 7, 182, 0, 159, 42, 180, 0, 132, 154, 0, 18, 42, 3, 182, 0, 150, 154, 0, 10, 42, 182, 0, 162, 167, 255, 237, 42] := by decide +kernel
theorem dX12_read_66 : decode cX12_read 66 = .ok (.aload_n 0, 1) := dz_42 (n := 64) (r := 2) hz_X12_read_64 rfl
theorem dX12_read_67 : decode cX12_read 67 = .ok (.iconst 2, 1) := dz_5 (n := 64) (r := 3) hz_X12_read_64 rfl
theorem dX12_read_68 : decode cX12_read 68 = .ok (.invokevirtual 159, 3) := dz_182 (n := 64) (r := 4) hz_X12_read_64 rfl rfl
theorem dX12_read_71 : decode cX12_read 71 = .ok (.aload_n 0, 1) := dz_42 (n := 64) (r := 7) hz_X12_read_64 rfl
theorem dX12_read_72 : decode cX12_read 72 = .ok (.iconst 2, 1) := dz_5 (n := 64) (r := 8) hz_X12_read_64 rfl
theorem dX12_read_73 : decode cX12_read 73 = .ok (.invokevirtual 159, 3) := dz_182 (n := 64) (r := 9) hz_X12_read_64 rfl rfl
theorem dX12_read_76 : decode cX12_read 76 = .ok (.aload_n 0, 1) := dz_42 (n := 64) (r := 12) hz_X12_read_64 rfl
theorem dX12_read_77 : decode cX12_read 77 = .ok (.iconst 4, 1) := dz_7 (n := 64) (r := 13) hz_X12_read_64 rfl
theorem dX12_read_78 : decode cX12_read 78 = .ok (.invokevirtual 159, 3) := dz_182 (n := 64) (r := 14) hz_X12_read_64 rfl rfl
theorem dX12_read_81 : decode cX12_read 81 = .ok (.aload_n 0, 1) := dz_42 (n := 64) (r := 17) hz_X12_read_64 rfl
theorem dX12_read_82 : decode cX12_read 82 = .ok (.getfield 132, 3) := dz_180 (n := 64) (r := 18) hz_X12_read_64 rfl rfl
theorem dX12_read_85 : decode cX12_read 85 = .ok (.ifCond .ne 18, 3) := dz_154 (n := 64) (r := 21) hz_X12_read_64 rfl (by decide +kernel)
theorem dX12_read_88 : decode cX12_read 88 = .ok (.aload_n 0, 1) := dz_42 (n := 64) (r := 24) hz_X12_read_64 rfl
theorem dX12_read_89 : decode cX12_read 89 = .ok (.iconst 0, 1) := dz_3 (n := 64) (r := 25) hz_X12_read_64 rfl
theorem dX12_read_90 : decode cX12_read 90 = .ok (.invokevirtual 150, 3) := dz_182 (n := 64) (r := 26) hz_X12_read_64 rfl rfl
theorem dX12_read_93 : decode cX12_read 93 = .ok (.ifCond .ne 10, 3) := dz_154 (n := 64) (r := 29) hz_X12_read_64 rfl (by decide +kernel)
theorem hz_X12_read_96 : (cX12_read.data.toList.drop 96).take 40 = [42, 182, 0, 162, 167, 255, 237, 42, 180, 0, 132, 154, 0, 7, 42, 182, 0, 165, 42, 42, 180, 0, 132, 158, 0, 10, 42, 180, 0, 138, 167, 0, 18, 42, 180, 0, 141, 158, 0, 10] := by decide +kernel
theorem dX12_read_96 : decode cX12_read 96 = .ok (.aload_n 0, 1) := dz_42 (n := 96) (r := 0) hz_X12_read_96 rfl
theorem dX12_read_97 : decode cX12_read 97 = .ok (.invokevirtual 162, 3) := dz_182 (n := 96) (r := 1) hz_X12_read_96 rfl rfl
theorem dX12_read_100 : decode cX12_read 100 = .ok (.goto (-19), 3) := dz_167 (n := 96) (r := 4) hz_X12_read_96 rfl (by decide +kernel)
theorem dX12_read_103 : decode cX12_read 103 = .ok (.aload_n 0, 1) := dz_42 (n := 96) (r := 7) hz_X12_read_96 rfl
theorem dX12_read_104 : decode cX12_read 104 = .ok (.getfield 132, 3) := dz_180 (n := 96) (r := 8) hz_X12_read_96 rfl rfl
theorem dX12_read_107 : decode cX12_read 107 = .ok (.ifCond .ne 7, 3) := dz_154 (n := 96) (r := 11) hz_X12_read_96 rfl (by decide +kernel)
theorem dX12_read_110 : decode cX12_read 110 = .ok (.aload_n 0, 1) := dz_42 (n := 96) (r := 14) hz_X12_read_96 rfl
theorem dX12_read_111 : decode cX12_read 111 = .ok (.invokevirtual 165, 3) := dz_182 (n := 96) (r := 15) hz_X12_read_96 rfl rfl
theorem dX12_read_114 : decode cX12_read 114 = .ok (.aload_n 0, 1) := dz_42 (n := 96) (r := 18) hz_X12_read_96 rfl
theorem dX12_read_115 : decode cX12_read 115 = .ok (.aload_n 0, 1) := dz_42 (n := 96) (r := 19) hz_X12_read_96 rfl
theorem dX12_read_116 : decode cX12_read 116 = .ok (.getfield 132, 3) := dz_180 (n := 96) (r := 20) hz_X12_read_96 rfl rfl
theorem dX12_read_119 : decode cX12_read 119 = .ok (.ifCond .le 10, 3) := dz_158 (n := 96) (r := 23) hz_X12_read_96 rfl (by decide +kernel)
theorem dX12_read_122 : decode cX12_read 122 = .ok (.aload_n 0, 1) := dz_42 (n := 96) (r := 26) hz_X12_read_96 rfl
theorem dX12_read_123 : decode cX12_read 123 = .ok (.getfield 138, 3) := dz_180 (n := 96) (r := 27) hz_X12_read_96 rfl rfl
theorem dX12_read_126 : decode cX12_read 126 = .ok (.goto 18, 3) := dz_167 (n := 96) (r := 30) hz_X12_read_96 rfl (by decide +kernel)
theorem hz_X12_read_128 : (cX12_read.data.toList.drop 128).take 40 = [18, 42, 180, 0, 141, 158, 0, 10, 42, 180, 0, 144, 167, 0, 4, 2, 181, 0, 37, 42, 180, 0, 132, 158, 0, 8, 42, 180, 0, 132, 172, 42, 180, 0, 141, 158, 0, 8, 42, 180] := by decide +kernel
theorem dX12_read_129 : decode cX12_read 129 = .ok (.aload_n 0, 1) := dz_42 (n := 128) (r := 1) hz_X12_read_128 rfl
theorem dX12_read_130 : decode cX12_read 130 = .ok (.getfield 141, 3) := dz_180 (n := 128) (r := 2) hz_X12_read_128 rfl rfl
theorem dX12_read_133 : decode cX12_read 133 = .ok (.ifCond .le 10, 3) := dz_158 (n := 128) (r := 5) hz_X12_read_128 rfl (by decide +kernel)
theorem dX12_read_136 : decode cX12_read 136 = .ok (.aload_n 0, 1) := dz_42 (n := 128) (r := 8) hz_X12_read_128 rfl
theorem dX12_read_137 : decode cX12_read 137 = .ok (.getfield 144, 3) := dz_180 (n := 128) (r := 9) hz_X12_read_128 rfl rfl
theorem dX12_read_140 : decode cX12_read 140 = .ok (.goto 4, 3) := dz_167 (n := 128) (r := 12) hz_X12_read_128 rfl (by decide +kernel)
theorem dX12_read_143 : decode cX12_read 143 = .ok (.iconst (-1), 1) := dz_2 (n := 128) (r := 15) hz_X12_read_128 rfl
theorem dX12_read_144 : decode cX12_read 144 = .ok (.putfield 37, 3) := dz_181 (n := 128) (r := 16) hz_X12_read_128 rfl rfl
theorem dX12_read_147 : decode cX12_read 147 = .ok (.aload_n 0, 1) := dz_42 (n := 128) (r := 19) hz_X12_read_128 rfl
theorem dX12_read_148 : decode cX12_read 148 = .ok (.getfield 132, 3) := dz_180 (n := 128) (r := 20) hz_X12_read_128 rfl rfl
theorem dX12_read_151 : decode cX12_read 151 = .ok (.ifCond .le 8, 3) := dz_158 (n := 128) (r := 23) hz_X12_read_128 rfl (by decide +kernel)
theorem dX12_read_154 : decode cX12_read 154 = .ok (.aload_n 0, 1) := dz_42 (n := 128) (r := 26) hz_X12_read_128 rfl
theorem dX12_read_155 : decode cX12_read 155 = .ok (.getfield 132, 3) := dz_180 (n := 128) (r := 27) hz_X12_read_128 rfl rfl
theorem dX12_read_158 : decode cX12_read 158 = .ok (.ireturn, 1) := dz_172 (n := 128) (r := 30) hz_X12_read_128 rfl
theorem dX12_read_159 : decode cX12_read 159 = .ok (.aload_n 0, 1) := dz_42 (n := 128) (r := 31) hz_X12_read_128 rfl
theorem hz_X12_read_160 : (cX12_read.data.toList.drop 160).take 40 = [180, 0, 141, 158, 0, 8, 42, 180, 0, 141, 172, 42, 42, 180, 0, 168, 181, 0, 171, 42, 42, 180, 0, 174, 181, 0, 177, 42, 42, 180, 0, 180, 181, 0, 184, 42, 42, 180, 0, 187] := by decide +kernel
theorem dX12_read_160 : decode cX12_read 160 = .ok (.getfield 141, 3) := dz_180 (n := 160) (r := 0) hz_X12_read_160 rfl rfl
theorem dX12_read_163 : decode cX12_read 163 = .ok (.ifCond .le 8, 3) := dz_158 (n := 160) (r := 3) hz_X12_read_160 rfl (by decide +kernel)
theorem dX12_read_166 : decode cX12_read 166 = .ok (.aload_n 0, 1) := dz_42 (n := 160) (r := 6) hz_X12_read_160 rfl
theorem dX12_read_167 : decode cX12_read 167 = .ok (.getfield 141, 3) := dz_180 (n := 160) (r := 7) hz_X12_read_160 rfl rfl
theorem dX12_read_170 : decode cX12_read 170 = .ok (.ireturn, 1) := dz_172 (n := 160) (r := 10) hz_X12_read_160 rfl
theorem dX12_read_171 : decode cX12_read 171 = .ok (.aload_n 0, 1) := dz_42 (n := 160) (r := 11) hz_X12_read_160 rfl
theorem dX12_read_172 : decode cX12_read 172 = .ok (.aload_n 0, 1) := dz_42 (n := 160) (r := 12) hz_X12_read_160 rfl
theorem dX12_read_173 : decode cX12_read 173 = .ok (.getfield 168, 3) := dz_180 (n := 160) (r := 13) hz_X12_read_160 rfl rfl
theorem dX12_read_176 : decode cX12_read 176 = .ok (.putfield 171, 3) := dz_181 (n := 160) (r := 16) hz_X12_read_160 rfl rfl
theorem dX12_read_179 : decode cX12_read 179 = .ok (.aload_n 0, 1) := dz_42 (n := 160) (r := 19) hz_X12_read_160 rfl
theorem dX12_read_180 : decode cX12_read 180 = .ok (.aload_n 0, 1) := dz_42 (n := 160) (r := 20) hz_X12_read_160 rfl
theorem dX12_read_181 : decode cX12_read 181 = .ok (.getfield 174, 3) := dz_180 (n := 160) (r := 21) hz_X12_read_160 rfl rfl
theorem dX12_read_184 : decode cX12_read 184 = .ok (.putfield 177, 3) := dz_181 (n := 160) (r := 24) hz_X12_read_160 rfl rfl
theorem dX12_read_187 : decode cX12_read 187 = .ok (.aload_n 0, 1) := dz_42 (n := 160) (r := 27) hz_X12_read_160 rfl
theorem dX12_read_188 : decode cX12_read 188 = .ok (.aload_n 0, 1) := dz_42 (n := 160) (r := 28) hz_X12_read_160 rfl
theorem dX12_read_189 : decode cX12_read 189 = .ok (.getfield 180, 3) := dz_180 (n := 160) (r := 29) hz_X12_read_160 rfl rfl
theorem hz_X12_read_192 : (cX12_read.data.toList.drop 192).take 40 = [181, 0, 184, 42, 42, 180, 0, 187, 181, 0, 190, 3, 60, 27, 16, 66, 162, 0, 21, 42, 180, 0, 40, 27, 42, 180, 0, 43, 27, 46, 79, 132, 1, 1, 167, 255, 235, 42, 180, 0] := by decide +kernel
theorem dX12_read_192 : decode cX12_read 192 = .ok (.putfield 184, 3) := dz_181 (n := 192) (r := 0) hz_X12_read_192 rfl rfl
theorem dX12_read_195 : decode cX12_read 195 = .ok (.aload_n 0, 1) := dz_42 (n := 192) (r := 3) hz_X12_read_192 rfl
theorem dX12_read_196 : decode cX12_read 196 = .ok (.aload_n 0, 1) := dz_42 (n := 192) (r := 4) hz_X12_read_192 rfl
theorem dX12_read_197 : decode cX12_read 197 = .ok (.getfield 187, 3) := dz_180 (n := 192) (r := 5) hz_X12_read_192 rfl rfl
theorem dX12_read_200 : decode cX12_read 200 = .ok (.putfield 190, 3) := dz_181 (n := 192) (r := 8) hz_X12_read_192 rfl rfl
theorem dX12_read_203 : decode cX12_read 203 = .ok (.iconst 0, 1) := dz_3 (n := 192) (r := 11) hz_X12_read_192 rfl
theorem dX12_read_204 : decode cX12_read 204 = .ok (.istore_n 1, 1) := dz_60 (n := 192) (r := 12) hz_X12_read_192 rfl
theorem dX12_read_205 : decode cX12_read 205 = .ok (.iload_n 1, 1) := dz_27 (n := 192) (r := 13) hz_X12_read_192 rfl
theorem dX12_read_206 : decode cX12_read 206 = .ok (.bipush 66, 2) := dz_16 (n := 192) (r := 14) hz_X12_read_192 rfl rfl
theorem dX12_read_208 : decode cX12_read 208 = .ok (.if_icmp .ge 21, 3) := dz_162 (n := 192) (r := 16) hz_X12_read_192 rfl (by decide +kernel)
theorem dX12_read_211 : decode cX12_read 211 = .ok (.aload_n 0, 1) := dz_42 (n := 192) (r := 19) hz_X12_read_192 rfl
theorem dX12_read_212 : decode cX12_read 212 = .ok (.getfield 40, 3) := dz_180 (n := 192) (r := 20) hz_X12_read_192 rfl rfl
theorem dX12_read_215 : decode cX12_read 215 = .ok (.iload_n 1, 1) := dz_27 (n := 192) (r := 23) hz_X12_read_192 rfl
theorem dX12_read_216 : decode cX12_read 216 = .ok (.aload_n 0, 1) := dz_42 (n := 192) (r := 24) hz_X12_read_192 rfl
theorem dX12_read_217 : decode cX12_read 217 = .ok (.getfield 43, 3) := dz_180 (n := 192) (r := 25) hz_X12_read_192 rfl rfl
theorem dX12_read_220 : decode cX12_read 220 = .ok (.iload_n 1, 1) := dz_27 (n := 192) (r := 28) hz_X12_read_192 rfl
theorem dX12_read_221 : decode cX12_read 221 = .ok (.iaload, 1) := dz_46 (n := 192) (r := 29) hz_X12_read_192 rfl
theorem dX12_read_222 : decode cX12_read 222 = .ok (.iastore, 1) := dz_79 (n := 192) (r := 30) hz_X12_read_192 rfl
theorem dX12_read_223 : decode cX12_read 223 = .ok (.iinc 1 1, 3) := dz_132 (n := 192) (r := 31) hz_X12_read_192 rfl rfl rfl
theorem hz_X12_read_224 : (cX12_read.data.toList.drop 224).take 40 = [1, 1, 167, 255, 235, 42, 180, 0, 40, 16, 64, 3, 79, 3, 60, 27, 42, 182, 0, 193, 162, 0, 35, 42, 180, 0, 40, 16, 48, 27, 96, 46, 4, 160, 0, 16, 42, 180, 0, 40] := by decide +kernel
theorem dX12_read_226 : decode cX12_read 226 = .ok (.goto (-21), 3) := dz_167 (n := 224) (r := 2) hz_X12_read_224 rfl (by decide +kernel)
theorem dX12_read_229 : decode cX12_read 229 = .ok (.aload_n 0, 1) := dz_42 (n := 224) (r := 5) hz_X12_read_224 rfl
theorem dX12_read_230 : decode cX12_read 230 = .ok (.getfield 40, 3) := dz_180 (n := 224) (r := 6) hz_X12_read_224 rfl rfl
theorem dX12_read_233 : decode cX12_read 233 = .ok (.bipush 64, 2) := dz_16 (n := 224) (r := 9) hz_X12_read_224 rfl rfl
theorem dX12_read_235 : decode cX12_read 235 = .ok (.iconst 0, 1) := dz_3 (n := 224) (r := 11) hz_X12_read_224 rfl
theorem dX12_read_236 : decode cX12_read 236 = .ok (.iastore, 1) := dz_79 (n := 224) (r := 12) hz_X12_read_224 rfl
theorem dX12_read_237 : decode cX12_read 237 = .ok (.iconst 0, 1) := dz_3 (n := 224) (r := 13) hz_X12_read_224 rfl
theorem dX12_read_238 : decode cX12_read 238 = .ok (.istore_n 1, 1) := dz_60 (n := 224) (r := 14) hz_X12_read_224 rfl
theorem dX12_read_239 : decode cX12_read 239 = .ok (.iload_n 1, 1) := dz_27 (n := 224) (r := 15) hz_X12_read_224 rfl
theorem dX12_read_240 : decode cX12_read 240 = .ok (.aload_n 0, 1) := dz_42 (n := 224) (r := 16) hz_X12_read_224 rfl
theorem dX12_read_241 : decode cX12_read 241 = .ok (.invokevirtual 193, 3) := dz_182 (n := 224) (r := 17) hz_X12_read_224 rfl rfl
theorem dX12_read_244 : decode cX12_read 244 = .ok (.if_icmp .ge 35, 3) := dz_162 (n := 224) (r := 20) hz_X12_read_224 rfl (by decide +kernel)
theorem dX12_read_247 : decode cX12_read 247 = .ok (.aload_n 0, 1) := dz_42 (n := 224) (r := 23) hz_X12_read_224 rfl
theorem dX12_read_248 : decode cX12_read 248 = .ok (.getfield 40, 3) := dz_180 (n := 224) (r := 24) hz_X12_read_224 rfl rfl
theorem dX12_read_251 : decode cX12_read 251 = .ok (.bipush 48, 2) := dz_16 (n := 224) (r := 27) hz_X12_read_224 rfl rfl
theorem dX12_read_253 : decode cX12_read 253 = .ok (.iload_n 1, 1) := dz_27 (n := 224) (r := 29) hz_X12_read_224 rfl
theorem dX12_read_254 : decode cX12_read 254 = .ok (.iadd, 1) := dz_96 (n := 224) (r := 30) hz_X12_read_224 rfl
theorem dX12_read_255 : decode cX12_read 255 = .ok (.iaload, 1) := dz_46 (n := 224) (r := 31) hz_X12_read_224 rfl
theorem hz_X12_read_256 : (cX12_read.data.toList.drop 256).take 40 = [4, 160, 0, 16, 42, 180, 0, 40, 16, 64, 92, 46, 4, 27, 120, 128, 79, 132, 1, 1, 167, 255, 219, 42, 3, 181, 0, 197, 3, 60, 27, 6, 162, 0, 16, 42, 180, 0, 52, 27] := by decide +kernel
theorem dX12_read_256 : decode cX12_read 256 = .ok (.iconst 1, 1) := dz_4 (n := 256) (r := 0) hz_X12_read_256 rfl
theorem dX12_read_257 : decode cX12_read 257 = .ok (.if_icmp .ne 16, 3) := dz_160 (n := 256) (r := 1) hz_X12_read_256 rfl (by decide +kernel)
theorem dX12_read_260 : decode cX12_read 260 = .ok (.aload_n 0, 1) := dz_42 (n := 256) (r := 4) hz_X12_read_256 rfl
theorem dX12_read_261 : decode cX12_read 261 = .ok (.getfield 40, 3) := dz_180 (n := 256) (r := 5) hz_X12_read_256 rfl rfl
theorem dX12_read_264 : decode cX12_read 264 = .ok (.bipush 64, 2) := dz_16 (n := 256) (r := 8) hz_X12_read_256 rfl rfl
theorem dX12_read_266 : decode cX12_read 266 = .ok (.dup2, 1) := dz_92 (n := 256) (r := 10) hz_X12_read_256 rfl
theorem dX12_read_267 : decode cX12_read 267 = .ok (.iaload, 1) := dz_46 (n := 256) (r := 11) hz_X12_read_256 rfl
theorem dX12_read_268 : decode cX12_read 268 = .ok (.iconst 1, 1) := dz_4 (n := 256) (r := 12) hz_X12_read_256 rfl
theorem dX12_read_269 : decode cX12_read 269 = .ok (.iload_n 1, 1) := dz_27 (n := 256) (r := 13) hz_X12_read_256 rfl
theorem dX12_read_270 : decode cX12_read 270 = .ok (.ishl, 1) := dz_120 (n := 256) (r := 14) hz_X12_read_256 rfl
theorem dX12_read_271 : decode cX12_read 271 = .ok (.ior, 1) := dz_128 (n := 256) (r := 15) hz_X12_read_256 rfl
theorem dX12_read_272 : decode cX12_read 272 = .ok (.iastore, 1) := dz_79 (n := 256) (r := 16) hz_X12_read_256 rfl
theorem dX12_read_273 : decode cX12_read 273 = .ok (.iinc 1 1, 3) := dz_132 (n := 256) (r := 17) hz_X12_read_256 rfl rfl rfl
theorem dX12_read_276 : decode cX12_read 276 = .ok (.goto (-37), 3) := dz_167 (n := 256) (r := 20) hz_X12_read_256 rfl (by decide +kernel)
theorem dX12_read_279 : decode cX12_read 279 = .ok (.aload_n 0, 1) := dz_42 (n := 256) (r := 23) hz_X12_read_256 rfl
theorem dX12_read_280 : decode cX12_read 280 = .ok (.iconst 0, 1) := dz_3 (n := 256) (r := 24) hz_X12_read_256 rfl
theorem dX12_read_281 : decode cX12_read 281 = .ok (.putfield 197, 3) := dz_181 (n := 256) (r := 25) hz_X12_read_256 rfl rfl
theorem dX12_read_284 : decode cX12_read 284 = .ok (.iconst 0, 1) := dz_3 (n := 256) (r := 28) hz_X12_read_256 rfl
theorem dX12_read_285 : decode cX12_read 285 = .ok (.istore_n 1, 1) := dz_60 (n := 256) (r := 29) hz_X12_read_256 rfl
theorem dX12_read_286 : decode cX12_read 286 = .ok (.iload_n 1, 1) := dz_27 (n := 256) (r := 30) hz_X12_read_256 rfl
theorem dX12_read_287 : decode cX12_read 287 = .ok (.iconst 3, 1) := dz_6 (n := 256) (r := 31) hz_X12_read_256 rfl
theorem hz_X12_read_288 : (cX12_read.data.toList.drop 288).take 40 = [162, 0, 16, 42, 180, 0, 52, 27, 3, 84, 132, 1, 1, 167, 255, 241, 42, 3, 181, 0, 200, 3, 172] := by decide +kernel
theorem dX12_read_288 : decode cX12_read 288 = .ok (.if_icmp .ge 16, 3) := dz_162 (n := 288) (r := 0) hz_X12_read_288 rfl (by decide +kernel)
theorem dX12_read_291 : decode cX12_read 291 = .ok (.aload_n 0, 1) := dz_42 (n := 288) (r := 3) hz_X12_read_288 rfl
theorem dX12_read_292 : decode cX12_read 292 = .ok (.getfield 52, 3) := dz_180 (n := 288) (r := 4) hz_X12_read_288 rfl rfl
theorem dX12_read_295 : decode cX12_read 295 = .ok (.iload_n 1, 1) := dz_27 (n := 288) (r := 7) hz_X12_read_288 rfl
theorem dX12_read_296 : decode cX12_read 296 = .ok (.iconst 0, 1) := dz_3 (n := 288) (r := 8) hz_X12_read_288 rfl
theorem dX12_read_297 : decode cX12_read 297 = .ok (.bastore, 1) := dz_84 (n := 288) (r := 9) hz_X12_read_288 rfl
theorem dX12_read_298 : decode cX12_read 298 = .ok (.iinc 1 1, 3) := dz_132 (n := 288) (r := 10) hz_X12_read_288 rfl rfl rfl
theorem dX12_read_301 : decode cX12_read 301 = .ok (.goto (-15), 3) := dz_167 (n := 288) (r := 13) hz_X12_read_288 rfl (by decide +kernel)
theorem dX12_read_304 : decode cX12_read 304 = .ok (.aload_n 0, 1) := dz_42 (n := 288) (r := 16) hz_X12_read_288 rfl
theorem dX12_read_305 : decode cX12_read 305 = .ok (.iconst 0, 1) := dz_3 (n := 288) (r := 17) hz_X12_read_288 rfl
theorem dX12_read_306 : decode cX12_read 306 = .ok (.putfield 200, 3) := dz_181 (n := 288) (r := 18) hz_X12_read_288 rfl rfl
theorem dX12_read_309 : decode cX12_read 309 = .ok (.iconst 0, 1) := dz_3 (n := 288) (r := 21) hz_X12_read_288 rfl
theorem dX12_read_310 : decode cX12_read 310 = .ok (.ireturn, 1) := dz_172 (n := 288) (r := 22) hz_X12_read_288 rfl
theorem hz_X12_place_0 : (cX12_place.data.toList.drop 0).take 40 = [42, 180, 0, 37, 172] := by decide +kernel
theorem dX12_place_0 : decode cX12_place 0 = .ok (.aload_n 0, 1) := dz_42 (n := 0) (r := 0) hz_X12_place_0 rfl
theorem dX12_place_1 : decode cX12_place 1 = .ok (.getfield 37, 3) := dz_180 (n := 0) (r := 1) hz_X12_place_0 rfl rfl
theorem dX12_place_4 : decode cX12_place 4 = .ok (.ireturn, 1) := dz_172 (n := 0) (r := 4) hz_X12_place_0 rfl
theorem hz_X12_mustWay_0 : (cX12_mustWay.data.toList.drop 0).take 40 = [42, 16, 21, 182, 0, 150, 153, 0, 10, 42, 182, 0, 153, 167, 0, 9, 42, 16, 22, 182, 0, 159, 177] := by decide +kernel
theorem dX12_mustWay_0 : decode cX12_mustWay 0 = .ok (.aload_n 0, 1) := dz_42 (n := 0) (r := 0) hz_X12_mustWay_0 rfl
theorem dX12_mustWay_1 : decode cX12_mustWay 1 = .ok (.bipush 21, 2) := dz_16 (n := 0) (r := 1) hz_X12_mustWay_0 rfl rfl
theorem dX12_mustWay_3 : decode cX12_mustWay 3 = .ok (.invokevirtual 150, 3) := dz_182 (n := 0) (r := 3) hz_X12_mustWay_0 rfl rfl
theorem dX12_mustWay_6 : decode cX12_mustWay 6 = .ok (.ifCond .eq 10, 3) := dz_153 (n := 0) (r := 6) hz_X12_mustWay_0 rfl (by decide +kernel)
theorem dX12_mustWay_9 : decode cX12_mustWay 9 = .ok (.aload_n 0, 1) := dz_42 (n := 0) (r := 9) hz_X12_mustWay_0 rfl
theorem dX12_mustWay_10 : decode cX12_mustWay 10 = .ok (.invokevirtual 153, 3) := dz_182 (n := 0) (r := 10) hz_X12_mustWay_0 rfl rfl
theorem dX12_mustWay_13 : decode cX12_mustWay 13 = .ok (.goto 9, 3) := dz_167 (n := 0) (r := 13) hz_X12_mustWay_0 rfl (by decide +kernel)
theorem dX12_mustWay_16 : decode cX12_mustWay 16 = .ok (.aload_n 0, 1) := dz_42 (n := 0) (r := 16) hz_X12_mustWay_0 rfl
theorem dX12_mustWay_17 : decode cX12_mustWay 17 = .ok (.bipush 22, 2) := dz_16 (n := 0) (r := 17) hz_X12_mustWay_0 rfl rfl
theorem dX12_mustWay_19 : decode cX12_mustWay 19 = .ok (.invokevirtual 159, 3) := dz_182 (n := 0) (r := 19) hz_X12_mustWay_0 rfl rfl
theorem dX12_mustWay_22 : decode cX12_mustWay 22 = .ok (.return_, 1) := dz_177 (n := 0) (r := 22) hz_X12_mustWay_0 rfl
theorem hz_X12_mustJ_0 : (cX12_mustJ.data.toList.drop 0).take 40 = [42, 8, 182, 0, 150, 153, 0, 7, 42, 182, 0, 153, 42, 5, 182, 0, 159, 177] := by decide +kernel
theorem dX12_mustJ_0 : decode cX12_mustJ 0 = .ok (.aload_n 0, 1) := dz_42 (n := 0) (r := 0) hz_X12_mustJ_0 rfl
theorem dX12_mustJ_1 : decode cX12_mustJ 1 = .ok (.iconst 5, 1) := dz_8 (n := 0) (r := 1) hz_X12_mustJ_0 rfl
theorem dX12_mustJ_2 : decode cX12_mustJ 2 = .ok (.invokevirtual 150, 3) := dz_182 (n := 0) (r := 2) hz_X12_mustJ_0 rfl rfl
theorem dX12_mustJ_5 : decode cX12_mustJ 5 = .ok (.ifCond .eq 7, 3) := dz_153 (n := 0) (r := 5) hz_X12_mustJ_0 rfl (by decide +kernel)
theorem dX12_mustJ_8 : decode cX12_mustJ 8 = .ok (.aload_n 0, 1) := dz_42 (n := 0) (r := 8) hz_X12_mustJ_0 rfl
theorem dX12_mustJ_9 : decode cX12_mustJ 9 = .ok (.invokevirtual 153, 3) := dz_182 (n := 0) (r := 9) hz_X12_mustJ_0 rfl rfl
theorem dX12_mustJ_12 : decode cX12_mustJ 12 = .ok (.aload_n 0, 1) := dz_42 (n := 0) (r := 12) hz_X12_mustJ_0 rfl
theorem dX12_mustJ_13 : decode cX12_mustJ 13 = .ok (.iconst 2, 1) := dz_5 (n := 0) (r := 13) hz_X12_mustJ_0 rfl
theorem dX12_mustJ_14 : decode cX12_mustJ 14 = .ok (.invokevirtual 159, 3) := dz_182 (n := 0) (r := 14) hz_X12_mustJ_0 rfl rfl
theorem dX12_mustJ_17 : decode cX12_mustJ 17 = .ok (.return_, 1) := dz_177 (n := 0) (r := 17) hz_X12_mustJ_0 rfl
theorem hz_X12_line_0 : (cX12_line.data.toList.drop 0).take 40 = [42, 180, 0, 20, 42, 180, 0, 135, 46, 60, 27, 170, 0, 0, 0, 157, 0, 0, 0, 21, 0, 0, 0, 30, 0, 0, 0, 53, 0, 0, 0, 53, 0, 0, 0, 53, 0, 0, 0, 64] := by decide +kernel
theorem dX12_line_0 : decode cX12_line 0 = .ok (.aload_n 0, 1) := dz_42 (n := 0) (r := 0) hz_X12_line_0 rfl
theorem dX12_line_1 : decode cX12_line 1 = .ok (.getfield 20, 3) := dz_180 (n := 0) (r := 1) hz_X12_line_0 rfl rfl
theorem dX12_line_4 : decode cX12_line 4 = .ok (.aload_n 0, 1) := dz_42 (n := 0) (r := 4) hz_X12_line_0 rfl
theorem dX12_line_5 : decode cX12_line 5 = .ok (.getfield 135, 3) := dz_180 (n := 0) (r := 5) hz_X12_line_0 rfl rfl
theorem dX12_line_8 : decode cX12_line 8 = .ok (.iaload, 1) := dz_46 (n := 0) (r := 8) hz_X12_line_0 rfl
theorem dX12_line_9 : decode cX12_line 9 = .ok (.istore_n 1, 1) := dz_60 (n := 0) (r := 9) hz_X12_line_0 rfl
theorem dX12_line_10 : decode cX12_line 10 = .ok (.iload_n 1, 1) := dz_27 (n := 0) (r := 10) hz_X12_line_0 rfl
theorem dX12_line_11 : decode cX12_line 11 = .ok (.tableswitch 157 21 30 #[53, 53, 53, 64, 75, 95, 111, 157, 157, 145], 53) := by decide +kernel
theorem hz_X12_line_64 : (cX12_line.data.toList.drop 64).take 40 = [42, 182, 0, 153, 42, 182, 0, 203, 167, 0, 102, 42, 182, 0, 153, 42, 182, 0, 206, 167, 0, 91, 42, 182, 0, 153, 42, 5, 182, 0, 159, 42, 182, 0, 206, 42, 182, 0, 203, 167] := by decide +kernel
theorem dX12_line_64 : decode cX12_line 64 = .ok (.aload_n 0, 1) := dz_42 (n := 64) (r := 0) hz_X12_line_64 rfl
theorem dX12_line_65 : decode cX12_line 65 = .ok (.invokevirtual 153, 3) := dz_182 (n := 64) (r := 1) hz_X12_line_64 rfl rfl
theorem dX12_line_68 : decode cX12_line 68 = .ok (.aload_n 0, 1) := dz_42 (n := 64) (r := 4) hz_X12_line_64 rfl
theorem dX12_line_69 : decode cX12_line 69 = .ok (.invokevirtual 203, 3) := dz_182 (n := 64) (r := 5) hz_X12_line_64 rfl rfl
theorem dX12_line_72 : decode cX12_line 72 = .ok (.goto 102, 3) := dz_167 (n := 64) (r := 8) hz_X12_line_64 rfl (by decide +kernel)
theorem dX12_line_75 : decode cX12_line 75 = .ok (.aload_n 0, 1) := dz_42 (n := 64) (r := 11) hz_X12_line_64 rfl
theorem dX12_line_76 : decode cX12_line 76 = .ok (.invokevirtual 153, 3) := dz_182 (n := 64) (r := 12) hz_X12_line_64 rfl rfl
theorem dX12_line_79 : decode cX12_line 79 = .ok (.aload_n 0, 1) := dz_42 (n := 64) (r := 15) hz_X12_line_64 rfl
theorem dX12_line_80 : decode cX12_line 80 = .ok (.invokevirtual 206, 3) := dz_182 (n := 64) (r := 16) hz_X12_line_64 rfl rfl
theorem dX12_line_83 : decode cX12_line 83 = .ok (.goto 91, 3) := dz_167 (n := 64) (r := 19) hz_X12_line_64 rfl (by decide +kernel)
theorem dX12_line_86 : decode cX12_line 86 = .ok (.aload_n 0, 1) := dz_42 (n := 64) (r := 22) hz_X12_line_64 rfl
theorem dX12_line_87 : decode cX12_line 87 = .ok (.invokevirtual 153, 3) := dz_182 (n := 64) (r := 23) hz_X12_line_64 rfl rfl
theorem dX12_line_90 : decode cX12_line 90 = .ok (.aload_n 0, 1) := dz_42 (n := 64) (r := 26) hz_X12_line_64 rfl
theorem dX12_line_91 : decode cX12_line 91 = .ok (.iconst 2, 1) := dz_5 (n := 64) (r := 27) hz_X12_line_64 rfl
theorem dX12_line_92 : decode cX12_line 92 = .ok (.invokevirtual 159, 3) := dz_182 (n := 64) (r := 28) hz_X12_line_64 rfl rfl
theorem dX12_line_95 : decode cX12_line 95 = .ok (.aload_n 0, 1) := dz_42 (n := 64) (r := 31) hz_X12_line_64 rfl
theorem hz_X12_line_96 : (cX12_line.data.toList.drop 96).take 40 = [182, 0, 206, 42, 182, 0, 203, 167, 0, 71, 42, 182, 0, 153, 42, 5, 182, 0, 159, 42, 182, 0, 203, 167, 0, 55, 42, 182, 0, 153, 42, 5, 182, 0, 159, 42, 16, 28, 182, 0] := by decide +kernel
theorem dX12_line_96 : decode cX12_line 96 = .ok (.invokevirtual 206, 3) := dz_182 (n := 96) (r := 0) hz_X12_line_96 rfl rfl
theorem dX12_line_99 : decode cX12_line 99 = .ok (.aload_n 0, 1) := dz_42 (n := 96) (r := 3) hz_X12_line_96 rfl
theorem dX12_line_100 : decode cX12_line 100 = .ok (.invokevirtual 203, 3) := dz_182 (n := 96) (r := 4) hz_X12_line_96 rfl rfl
theorem dX12_line_103 : decode cX12_line 103 = .ok (.goto 71, 3) := dz_167 (n := 96) (r := 7) hz_X12_line_96 rfl (by decide +kernel)
theorem dX12_line_106 : decode cX12_line 106 = .ok (.aload_n 0, 1) := dz_42 (n := 96) (r := 10) hz_X12_line_96 rfl
theorem dX12_line_107 : decode cX12_line 107 = .ok (.invokevirtual 153, 3) := dz_182 (n := 96) (r := 11) hz_X12_line_96 rfl rfl
theorem dX12_line_110 : decode cX12_line 110 = .ok (.aload_n 0, 1) := dz_42 (n := 96) (r := 14) hz_X12_line_96 rfl
theorem dX12_line_111 : decode cX12_line 111 = .ok (.iconst 2, 1) := dz_5 (n := 96) (r := 15) hz_X12_line_96 rfl
theorem dX12_line_112 : decode cX12_line 112 = .ok (.invokevirtual 159, 3) := dz_182 (n := 96) (r := 16) hz_X12_line_96 rfl rfl
theorem dX12_line_115 : decode cX12_line 115 = .ok (.aload_n 0, 1) := dz_42 (n := 96) (r := 19) hz_X12_line_96 rfl
theorem dX12_line_116 : decode cX12_line 116 = .ok (.invokevirtual 203, 3) := dz_182 (n := 96) (r := 20) hz_X12_line_96 rfl rfl
theorem dX12_line_119 : decode cX12_line 119 = .ok (.goto 55, 3) := dz_167 (n := 96) (r := 23) hz_X12_line_96 rfl (by decide +kernel)
theorem dX12_line_122 : decode cX12_line 122 = .ok (.aload_n 0, 1) := dz_42 (n := 96) (r := 26) hz_X12_line_96 rfl
theorem dX12_line_123 : decode cX12_line 123 = .ok (.invokevirtual 153, 3) := dz_182 (n := 96) (r := 27) hz_X12_line_96 rfl rfl
theorem dX12_line_126 : decode cX12_line 126 = .ok (.aload_n 0, 1) := dz_42 (n := 96) (r := 30) hz_X12_line_96 rfl
theorem dX12_line_127 : decode cX12_line 127 = .ok (.iconst 2, 1) := dz_5 (n := 96) (r := 31) hz_X12_line_96 rfl
theorem hz_X12_line_128 : (cX12_line.data.toList.drop 128).take 40 = [182, 0, 159, 42, 16, 28, 182, 0, 150, 153, 0, 10, 42, 182, 0, 153, 167, 0, 30, 42, 16, 29, 182, 0, 159, 167, 0, 21, 42, 182, 0, 153, 42, 5, 182, 0, 159, 167, 0, 9] := by decide +kernel
theorem dX12_line_128 : decode cX12_line 128 = .ok (.invokevirtual 159, 3) := dz_182 (n := 128) (r := 0) hz_X12_line_128 rfl rfl
theorem dX12_line_131 : decode cX12_line 131 = .ok (.aload_n 0, 1) := dz_42 (n := 128) (r := 3) hz_X12_line_128 rfl
theorem dX12_line_132 : decode cX12_line 132 = .ok (.bipush 28, 2) := dz_16 (n := 128) (r := 4) hz_X12_line_128 rfl rfl
theorem dX12_line_134 : decode cX12_line 134 = .ok (.invokevirtual 150, 3) := dz_182 (n := 128) (r := 6) hz_X12_line_128 rfl rfl
theorem dX12_line_137 : decode cX12_line 137 = .ok (.ifCond .eq 10, 3) := dz_153 (n := 128) (r := 9) hz_X12_line_128 rfl (by decide +kernel)
theorem dX12_line_140 : decode cX12_line 140 = .ok (.aload_n 0, 1) := dz_42 (n := 128) (r := 12) hz_X12_line_128 rfl
theorem dX12_line_141 : decode cX12_line 141 = .ok (.invokevirtual 153, 3) := dz_182 (n := 128) (r := 13) hz_X12_line_128 rfl rfl
theorem dX12_line_144 : decode cX12_line 144 = .ok (.goto 30, 3) := dz_167 (n := 128) (r := 16) hz_X12_line_128 rfl (by decide +kernel)
theorem dX12_line_147 : decode cX12_line 147 = .ok (.aload_n 0, 1) := dz_42 (n := 128) (r := 19) hz_X12_line_128 rfl
theorem dX12_line_148 : decode cX12_line 148 = .ok (.bipush 29, 2) := dz_16 (n := 128) (r := 20) hz_X12_line_128 rfl rfl
theorem dX12_line_150 : decode cX12_line 150 = .ok (.invokevirtual 159, 3) := dz_182 (n := 128) (r := 22) hz_X12_line_128 rfl rfl
theorem dX12_line_153 : decode cX12_line 153 = .ok (.goto 21, 3) := dz_167 (n := 128) (r := 25) hz_X12_line_128 rfl (by decide +kernel)
theorem dX12_line_156 : decode cX12_line 156 = .ok (.aload_n 0, 1) := dz_42 (n := 128) (r := 28) hz_X12_line_128 rfl
theorem dX12_line_157 : decode cX12_line 157 = .ok (.invokevirtual 153, 3) := dz_182 (n := 128) (r := 29) hz_X12_line_128 rfl rfl
theorem hz_X12_line_160 : (cX12_line.data.toList.drop 160).take 40 = [42, 5, 182, 0, 159, 167, 0, 9, 42, 4, 182, 0, 147, 177, 42, 7, 182, 0, 159, 177] := by decide +kernel
theorem dX12_line_160 : decode cX12_line 160 = .ok (.aload_n 0, 1) := dz_42 (n := 160) (r := 0) hz_X12_line_160 rfl
theorem dX12_line_161 : decode cX12_line 161 = .ok (.iconst 2, 1) := dz_5 (n := 160) (r := 1) hz_X12_line_160 rfl
theorem dX12_line_162 : decode cX12_line 162 = .ok (.invokevirtual 159, 3) := dz_182 (n := 160) (r := 2) hz_X12_line_160 rfl rfl
theorem dX12_line_165 : decode cX12_line 165 = .ok (.goto 9, 3) := dz_167 (n := 160) (r := 5) hz_X12_line_160 rfl (by decide +kernel)
theorem dX12_line_168 : decode cX12_line 168 = .ok (.aload_n 0, 1) := dz_42 (n := 160) (r := 8) hz_X12_line_160 rfl
theorem dX12_line_169 : decode cX12_line 169 = .ok (.iconst 1, 1) := dz_4 (n := 160) (r := 9) hz_X12_line_160 rfl
theorem dX12_line_170 : decode cX12_line 170 = .ok (.invokevirtual 147, 3) := dz_182 (n := 160) (r := 10) hz_X12_line_160 rfl rfl
theorem dX12_line_173 : decode cX12_line 173 = .ok (.return_, 1) := dz_177 (n := 160) (r := 13) hz_X12_line_160 rfl
theorem dX12_line_174 : decode cX12_line 174 = .ok (.aload_n 0, 1) := dz_42 (n := 160) (r := 14) hz_X12_line_160 rfl
theorem dX12_line_175 : decode cX12_line 175 = .ok (.iconst 4, 1) := dz_7 (n := 160) (r := 15) hz_X12_line_160 rfl
theorem dX12_line_176 : decode cX12_line 176 = .ok (.invokevirtual 159, 3) := dz_182 (n := 160) (r := 16) hz_X12_line_160 rfl rfl
theorem dX12_line_179 : decode cX12_line 179 = .ok (.return_, 1) := dz_177 (n := 160) (r := 19) hz_X12_line_160 rfl
theorem hz_X12_jAt_0 : (cX12_jAt.data.toList.drop 0).take 40 = [42, 180, 0, 20, 27, 46, 8, 160, 0, 9, 27, 4, 96, 167, 0, 4, 27, 61, 42, 180, 0, 27, 28, 46, 6, 164, 0, 9, 42, 6, 28, 182, 0, 209, 42, 180, 0, 20, 27, 46] := by decide +kernel
theorem dX12_jAt_0 : decode cX12_jAt 0 = .ok (.aload_n 0, 1) := dz_42 (n := 0) (r := 0) hz_X12_jAt_0 rfl
theorem dX12_jAt_1 : decode cX12_jAt 1 = .ok (.getfield 20, 3) := dz_180 (n := 0) (r := 1) hz_X12_jAt_0 rfl rfl
theorem dX12_jAt_4 : decode cX12_jAt 4 = .ok (.iload_n 1, 1) := dz_27 (n := 0) (r := 4) hz_X12_jAt_0 rfl
theorem dX12_jAt_5 : decode cX12_jAt 5 = .ok (.iaload, 1) := dz_46 (n := 0) (r := 5) hz_X12_jAt_0 rfl
theorem dX12_jAt_6 : decode cX12_jAt 6 = .ok (.iconst 5, 1) := dz_8 (n := 0) (r := 6) hz_X12_jAt_0 rfl
theorem dX12_jAt_7 : decode cX12_jAt 7 = .ok (.if_icmp .ne 9, 3) := dz_160 (n := 0) (r := 7) hz_X12_jAt_0 rfl (by decide +kernel)
theorem dX12_jAt_10 : decode cX12_jAt 10 = .ok (.iload_n 1, 1) := dz_27 (n := 0) (r := 10) hz_X12_jAt_0 rfl
theorem dX12_jAt_11 : decode cX12_jAt 11 = .ok (.iconst 1, 1) := dz_4 (n := 0) (r := 11) hz_X12_jAt_0 rfl
theorem dX12_jAt_12 : decode cX12_jAt 12 = .ok (.iadd, 1) := dz_96 (n := 0) (r := 12) hz_X12_jAt_0 rfl
theorem dX12_jAt_13 : decode cX12_jAt 13 = .ok (.goto 4, 3) := dz_167 (n := 0) (r := 13) hz_X12_jAt_0 rfl (by decide +kernel)
theorem dX12_jAt_16 : decode cX12_jAt 16 = .ok (.iload_n 1, 1) := dz_27 (n := 0) (r := 16) hz_X12_jAt_0 rfl
theorem dX12_jAt_17 : decode cX12_jAt 17 = .ok (.istore_n 2, 1) := dz_61 (n := 0) (r := 17) hz_X12_jAt_0 rfl
theorem dX12_jAt_18 : decode cX12_jAt 18 = .ok (.aload_n 0, 1) := dz_42 (n := 0) (r := 18) hz_X12_jAt_0 rfl
theorem dX12_jAt_19 : decode cX12_jAt 19 = .ok (.getfield 27, 3) := dz_180 (n := 0) (r := 19) hz_X12_jAt_0 rfl rfl
theorem dX12_jAt_22 : decode cX12_jAt 22 = .ok (.iload_n 2, 1) := dz_28 (n := 0) (r := 22) hz_X12_jAt_0 rfl
theorem dX12_jAt_23 : decode cX12_jAt 23 = .ok (.iaload, 1) := dz_46 (n := 0) (r := 23) hz_X12_jAt_0 rfl
theorem dX12_jAt_24 : decode cX12_jAt 24 = .ok (.iconst 3, 1) := dz_6 (n := 0) (r := 24) hz_X12_jAt_0 rfl
theorem dX12_jAt_25 : decode cX12_jAt 25 = .ok (.if_icmp .le 9, 3) := dz_164 (n := 0) (r := 25) hz_X12_jAt_0 rfl (by decide +kernel)
theorem dX12_jAt_28 : decode cX12_jAt 28 = .ok (.aload_n 0, 1) := dz_42 (n := 0) (r := 28) hz_X12_jAt_0 rfl
theorem dX12_jAt_29 : decode cX12_jAt 29 = .ok (.iconst 3, 1) := dz_6 (n := 0) (r := 29) hz_X12_jAt_0 rfl
theorem dX12_jAt_30 : decode cX12_jAt 30 = .ok (.iload_n 2, 1) := dz_28 (n := 0) (r := 30) hz_X12_jAt_0 rfl
theorem dX12_jAt_31 : decode cX12_jAt 31 = .ok (.invokevirtual 209, 3) := dz_182 (n := 0) (r := 31) hz_X12_jAt_0 rfl rfl
theorem hz_X12_jAt_32 : (cX12_jAt.data.toList.drop 32).take 40 = [0, 209, 42, 180, 0, 20, 27, 46, 8, 160, 0, 13, 42, 180, 0, 27, 28, 46, 116, 167, 0, 9, 42, 180, 0, 27, 28, 46, 172] := by decide +kernel
theorem dX12_jAt_34 : decode cX12_jAt 34 = .ok (.aload_n 0, 1) := dz_42 (n := 32) (r := 2) hz_X12_jAt_32 rfl
theorem dX12_jAt_35 : decode cX12_jAt 35 = .ok (.getfield 20, 3) := dz_180 (n := 32) (r := 3) hz_X12_jAt_32 rfl rfl
theorem dX12_jAt_38 : decode cX12_jAt 38 = .ok (.iload_n 1, 1) := dz_27 (n := 32) (r := 6) hz_X12_jAt_32 rfl
theorem dX12_jAt_39 : decode cX12_jAt 39 = .ok (.iaload, 1) := dz_46 (n := 32) (r := 7) hz_X12_jAt_32 rfl
theorem dX12_jAt_40 : decode cX12_jAt 40 = .ok (.iconst 5, 1) := dz_8 (n := 32) (r := 8) hz_X12_jAt_32 rfl
theorem dX12_jAt_41 : decode cX12_jAt 41 = .ok (.if_icmp .ne 13, 3) := dz_160 (n := 32) (r := 9) hz_X12_jAt_32 rfl (by decide +kernel)
theorem dX12_jAt_44 : decode cX12_jAt 44 = .ok (.aload_n 0, 1) := dz_42 (n := 32) (r := 12) hz_X12_jAt_32 rfl
theorem dX12_jAt_45 : decode cX12_jAt 45 = .ok (.getfield 27, 3) := dz_180 (n := 32) (r := 13) hz_X12_jAt_32 rfl rfl
theorem dX12_jAt_48 : decode cX12_jAt 48 = .ok (.iload_n 2, 1) := dz_28 (n := 32) (r := 16) hz_X12_jAt_32 rfl
theorem dX12_jAt_49 : decode cX12_jAt 49 = .ok (.iaload, 1) := dz_46 (n := 32) (r := 17) hz_X12_jAt_32 rfl
theorem dX12_jAt_50 : decode cX12_jAt 50 = .ok (.ineg, 1) := dz_116 (n := 32) (r := 18) hz_X12_jAt_32 rfl
theorem dX12_jAt_51 : decode cX12_jAt 51 = .ok (.goto 9, 3) := dz_167 (n := 32) (r := 19) hz_X12_jAt_32 rfl (by decide +kernel)
theorem dX12_jAt_54 : decode cX12_jAt 54 = .ok (.aload_n 0, 1) := dz_42 (n := 32) (r := 22) hz_X12_jAt_32 rfl
theorem dX12_jAt_55 : decode cX12_jAt 55 = .ok (.getfield 27, 3) := dz_180 (n := 32) (r := 23) hz_X12_jAt_32 rfl rfl
theorem dX12_jAt_58 : decode cX12_jAt 58 = .ok (.iload_n 2, 1) := dz_28 (n := 32) (r := 26) hz_X12_jAt_32 rfl
theorem dX12_jAt_59 : decode cX12_jAt 59 = .ok (.iaload, 1) := dz_46 (n := 32) (r := 27) hz_X12_jAt_32 rfl
theorem dX12_jAt_60 : decode cX12_jAt 60 = .ok (.ireturn, 1) := dz_172 (n := 32) (r := 28) hz_X12_jAt_32 rfl
theorem hz_X12_means_0 : (cX12_means.data.toList.drop 0).take 40 = [42, 42, 180, 0, 27, 4, 46, 181, 0, 168, 42, 42, 180, 0, 27, 5, 46, 181, 0, 174, 42, 3, 181, 0, 180, 42, 3, 181, 0, 187, 42, 180, 0, 168, 4, 7, 184, 0, 213, 154] := by decide +kernel
theorem dX12_means_0 : decode cX12_means 0 = .ok (.aload_n 0, 1) := dz_42 (n := 0) (r := 0) hz_X12_means_0 rfl
theorem dX12_means_1 : decode cX12_means 1 = .ok (.aload_n 0, 1) := dz_42 (n := 0) (r := 1) hz_X12_means_0 rfl
theorem dX12_means_2 : decode cX12_means 2 = .ok (.getfield 27, 3) := dz_180 (n := 0) (r := 2) hz_X12_means_0 rfl rfl
theorem dX12_means_5 : decode cX12_means 5 = .ok (.iconst 1, 1) := dz_4 (n := 0) (r := 5) hz_X12_means_0 rfl
theorem dX12_means_6 : decode cX12_means 6 = .ok (.iaload, 1) := dz_46 (n := 0) (r := 6) hz_X12_means_0 rfl
theorem dX12_means_7 : decode cX12_means 7 = .ok (.putfield 168, 3) := dz_181 (n := 0) (r := 7) hz_X12_means_0 rfl rfl
theorem dX12_means_10 : decode cX12_means 10 = .ok (.aload_n 0, 1) := dz_42 (n := 0) (r := 10) hz_X12_means_0 rfl
theorem dX12_means_11 : decode cX12_means 11 = .ok (.aload_n 0, 1) := dz_42 (n := 0) (r := 11) hz_X12_means_0 rfl
theorem dX12_means_12 : decode cX12_means 12 = .ok (.getfield 27, 3) := dz_180 (n := 0) (r := 12) hz_X12_means_0 rfl rfl
theorem dX12_means_15 : decode cX12_means 15 = .ok (.iconst 2, 1) := dz_5 (n := 0) (r := 15) hz_X12_means_0 rfl
theorem dX12_means_16 : decode cX12_means 16 = .ok (.iaload, 1) := dz_46 (n := 0) (r := 16) hz_X12_means_0 rfl
theorem dX12_means_17 : decode cX12_means 17 = .ok (.putfield 174, 3) := dz_181 (n := 0) (r := 17) hz_X12_means_0 rfl rfl
theorem dX12_means_20 : decode cX12_means 20 = .ok (.aload_n 0, 1) := dz_42 (n := 0) (r := 20) hz_X12_means_0 rfl
theorem dX12_means_21 : decode cX12_means 21 = .ok (.iconst 0, 1) := dz_3 (n := 0) (r := 21) hz_X12_means_0 rfl
theorem dX12_means_22 : decode cX12_means 22 = .ok (.putfield 180, 3) := dz_181 (n := 0) (r := 22) hz_X12_means_0 rfl rfl
theorem dX12_means_25 : decode cX12_means 25 = .ok (.aload_n 0, 1) := dz_42 (n := 0) (r := 25) hz_X12_means_0 rfl
theorem dX12_means_26 : decode cX12_means 26 = .ok (.iconst 0, 1) := dz_3 (n := 0) (r := 26) hz_X12_means_0 rfl
theorem dX12_means_27 : decode cX12_means 27 = .ok (.putfield 187, 3) := dz_181 (n := 0) (r := 27) hz_X12_means_0 rfl rfl
theorem dX12_means_30 : decode cX12_means 30 = .ok (.aload_n 0, 1) := dz_42 (n := 0) (r := 30) hz_X12_means_0 rfl
theorem dX12_means_31 : decode cX12_means 31 = .ok (.getfield 168, 3) := dz_180 (n := 0) (r := 31) hz_X12_means_0 rfl rfl
theorem hz_X12_means_32 : (cX12_means.data.toList.drop 32).take 40 = [0, 168, 4, 7, 184, 0, 213, 154, 0, 9, 42, 6, 4, 182, 0, 209, 42, 180, 0, 174, 4, 16, 16, 184, 0, 213, 153, 0, 17, 42, 180, 0, 168, 42, 180, 0, 174, 104, 16, 16] := by decide +kernel
theorem dX12_means_34 : decode cX12_means 34 = .ok (.iconst 1, 1) := dz_4 (n := 32) (r := 2) hz_X12_means_32 rfl
theorem dX12_means_35 : decode cX12_means 35 = .ok (.iconst 4, 1) := dz_7 (n := 32) (r := 3) hz_X12_means_32 rfl
theorem dX12_means_36 : decode cX12_means 36 = .ok (.invokestatic 213, 3) := dz_184 (n := 32) (r := 4) hz_X12_means_32 rfl rfl
theorem dX12_means_39 : decode cX12_means 39 = .ok (.ifCond .ne 9, 3) := dz_154 (n := 32) (r := 7) hz_X12_means_32 rfl (by decide +kernel)
theorem dX12_means_42 : decode cX12_means 42 = .ok (.aload_n 0, 1) := dz_42 (n := 32) (r := 10) hz_X12_means_32 rfl
theorem dX12_means_43 : decode cX12_means 43 = .ok (.iconst 3, 1) := dz_6 (n := 32) (r := 11) hz_X12_means_32 rfl
theorem dX12_means_44 : decode cX12_means 44 = .ok (.iconst 1, 1) := dz_4 (n := 32) (r := 12) hz_X12_means_32 rfl
theorem dX12_means_45 : decode cX12_means 45 = .ok (.invokevirtual 209, 3) := dz_182 (n := 32) (r := 13) hz_X12_means_32 rfl rfl
theorem dX12_means_48 : decode cX12_means 48 = .ok (.aload_n 0, 1) := dz_42 (n := 32) (r := 16) hz_X12_means_32 rfl
theorem dX12_means_49 : decode cX12_means 49 = .ok (.getfield 174, 3) := dz_180 (n := 32) (r := 17) hz_X12_means_32 rfl rfl
theorem dX12_means_52 : decode cX12_means 52 = .ok (.iconst 1, 1) := dz_4 (n := 32) (r := 20) hz_X12_means_32 rfl
theorem dX12_means_53 : decode cX12_means 53 = .ok (.bipush 16, 2) := dz_16 (n := 32) (r := 21) hz_X12_means_32 rfl rfl
theorem dX12_means_55 : decode cX12_means 55 = .ok (.invokestatic 213, 3) := dz_184 (n := 32) (r := 23) hz_X12_means_32 rfl rfl
theorem dX12_means_58 : decode cX12_means 58 = .ok (.ifCond .eq 17, 3) := dz_153 (n := 32) (r := 26) hz_X12_means_32 rfl (by decide +kernel)
theorem dX12_means_61 : decode cX12_means 61 = .ok (.aload_n 0, 1) := dz_42 (n := 32) (r := 29) hz_X12_means_32 rfl
theorem dX12_means_62 : decode cX12_means 62 = .ok (.getfield 168, 3) := dz_180 (n := 32) (r := 30) hz_X12_means_32 rfl rfl
theorem hz_X12_means_64 : (cX12_means.data.toList.drop 64).take 40 = [168, 42, 180, 0, 174, 104, 16, 16, 164, 0, 9, 42, 6, 5, 182, 0, 209, 3, 60, 27, 16, 66, 162, 0, 16, 42, 180, 0, 43, 27, 3, 79, 132, 1, 1, 167, 255, 240, 3, 60] := by decide +kernel
theorem dX12_means_65 : decode cX12_means 65 = .ok (.aload_n 0, 1) := dz_42 (n := 64) (r := 1) hz_X12_means_64 rfl
theorem dX12_means_66 : decode cX12_means 66 = .ok (.getfield 174, 3) := dz_180 (n := 64) (r := 2) hz_X12_means_64 rfl rfl
theorem dX12_means_69 : decode cX12_means 69 = .ok (.imul, 1) := dz_104 (n := 64) (r := 5) hz_X12_means_64 rfl
theorem dX12_means_70 : decode cX12_means 70 = .ok (.bipush 16, 2) := dz_16 (n := 64) (r := 6) hz_X12_means_64 rfl rfl
theorem dX12_means_72 : decode cX12_means 72 = .ok (.if_icmp .le 9, 3) := dz_164 (n := 64) (r := 8) hz_X12_means_64 rfl (by decide +kernel)
theorem dX12_means_75 : decode cX12_means 75 = .ok (.aload_n 0, 1) := dz_42 (n := 64) (r := 11) hz_X12_means_64 rfl
theorem dX12_means_76 : decode cX12_means 76 = .ok (.iconst 3, 1) := dz_6 (n := 64) (r := 12) hz_X12_means_64 rfl
theorem dX12_means_77 : decode cX12_means 77 = .ok (.iconst 2, 1) := dz_5 (n := 64) (r := 13) hz_X12_means_64 rfl
theorem dX12_means_78 : decode cX12_means 78 = .ok (.invokevirtual 209, 3) := dz_182 (n := 64) (r := 14) hz_X12_means_64 rfl rfl
theorem dX12_means_81 : decode cX12_means 81 = .ok (.iconst 0, 1) := dz_3 (n := 64) (r := 17) hz_X12_means_64 rfl
theorem dX12_means_82 : decode cX12_means 82 = .ok (.istore_n 1, 1) := dz_60 (n := 64) (r := 18) hz_X12_means_64 rfl
theorem dX12_means_83 : decode cX12_means 83 = .ok (.iload_n 1, 1) := dz_27 (n := 64) (r := 19) hz_X12_means_64 rfl
theorem dX12_means_84 : decode cX12_means 84 = .ok (.bipush 66, 2) := dz_16 (n := 64) (r := 20) hz_X12_means_64 rfl rfl
theorem dX12_means_86 : decode cX12_means 86 = .ok (.if_icmp .ge 16, 3) := dz_162 (n := 64) (r := 22) hz_X12_means_64 rfl (by decide +kernel)
theorem dX12_means_89 : decode cX12_means 89 = .ok (.aload_n 0, 1) := dz_42 (n := 64) (r := 25) hz_X12_means_64 rfl
theorem dX12_means_90 : decode cX12_means 90 = .ok (.getfield 43, 3) := dz_180 (n := 64) (r := 26) hz_X12_means_64 rfl rfl
theorem dX12_means_93 : decode cX12_means 93 = .ok (.iload_n 1, 1) := dz_27 (n := 64) (r := 29) hz_X12_means_64 rfl
theorem dX12_means_94 : decode cX12_means 94 = .ok (.iconst 0, 1) := dz_3 (n := 64) (r := 30) hz_X12_means_64 rfl
theorem dX12_means_95 : decode cX12_means 95 = .ok (.iastore, 1) := dz_79 (n := 64) (r := 31) hz_X12_means_64 rfl
theorem hz_X12_means_96 : (cX12_means.data.toList.drop 96).take 40 = [132, 1, 1, 167, 255, 240, 3, 60, 27, 42, 180, 0, 110, 162, 0, 67, 42, 180, 0, 20, 27, 46, 16, 24, 160, 0, 21, 42, 180, 0, 20, 27, 4, 96, 46, 16, 21, 160, 0, 8] := by decide +kernel
theorem dX12_means_96 : decode cX12_means 96 = .ok (.iinc 1 1, 3) := dz_132 (n := 96) (r := 0) hz_X12_means_96 rfl rfl rfl
theorem dX12_means_99 : decode cX12_means 99 = .ok (.goto (-16), 3) := dz_167 (n := 96) (r := 3) hz_X12_means_96 rfl (by decide +kernel)
theorem dX12_means_102 : decode cX12_means 102 = .ok (.iconst 0, 1) := dz_3 (n := 96) (r := 6) hz_X12_means_96 rfl
theorem dX12_means_103 : decode cX12_means 103 = .ok (.istore_n 1, 1) := dz_60 (n := 96) (r := 7) hz_X12_means_96 rfl
theorem dX12_means_104 : decode cX12_means 104 = .ok (.iload_n 1, 1) := dz_27 (n := 96) (r := 8) hz_X12_means_96 rfl
theorem dX12_means_105 : decode cX12_means 105 = .ok (.aload_n 0, 1) := dz_42 (n := 96) (r := 9) hz_X12_means_96 rfl
theorem dX12_means_106 : decode cX12_means 106 = .ok (.getfield 110, 3) := dz_180 (n := 96) (r := 10) hz_X12_means_96 rfl rfl
theorem dX12_means_109 : decode cX12_means 109 = .ok (.if_icmp .ge 67, 3) := dz_162 (n := 96) (r := 13) hz_X12_means_96 rfl (by decide +kernel)
theorem dX12_means_112 : decode cX12_means 112 = .ok (.aload_n 0, 1) := dz_42 (n := 96) (r := 16) hz_X12_means_96 rfl
theorem dX12_means_113 : decode cX12_means 113 = .ok (.getfield 20, 3) := dz_180 (n := 96) (r := 17) hz_X12_means_96 rfl rfl
theorem dX12_means_116 : decode cX12_means 116 = .ok (.iload_n 1, 1) := dz_27 (n := 96) (r := 20) hz_X12_means_96 rfl
theorem dX12_means_117 : decode cX12_means 117 = .ok (.iaload, 1) := dz_46 (n := 96) (r := 21) hz_X12_means_96 rfl
theorem dX12_means_118 : decode cX12_means 118 = .ok (.bipush 24, 2) := dz_16 (n := 96) (r := 22) hz_X12_means_96 rfl rfl
theorem dX12_means_120 : decode cX12_means 120 = .ok (.if_icmp .ne 21, 3) := dz_160 (n := 96) (r := 24) hz_X12_means_96 rfl (by decide +kernel)
theorem dX12_means_123 : decode cX12_means 123 = .ok (.aload_n 0, 1) := dz_42 (n := 96) (r := 27) hz_X12_means_96 rfl
theorem dX12_means_124 : decode cX12_means 124 = .ok (.getfield 20, 3) := dz_180 (n := 96) (r := 28) hz_X12_means_96 rfl rfl
theorem dX12_means_127 : decode cX12_means 127 = .ok (.iload_n 1, 1) := dz_27 (n := 96) (r := 31) hz_X12_means_96 rfl
theorem hz_X12_means_128 : (cX12_means.data.toList.drop 128).take 40 = [4, 96, 46, 16, 21, 160, 0, 8, 42, 4, 181, 0, 180, 42, 180, 0, 20, 27, 46, 16, 24, 160, 0, 21, 42, 180, 0, 20, 27, 4, 96, 46, 16, 22, 160, 0, 8, 42, 4, 181] := by decide +kernel
theorem dX12_means_128 : decode cX12_means 128 = .ok (.iconst 1, 1) := dz_4 (n := 128) (r := 0) hz_X12_means_128 rfl
theorem dX12_means_129 : decode cX12_means 129 = .ok (.iadd, 1) := dz_96 (n := 128) (r := 1) hz_X12_means_128 rfl
theorem dX12_means_130 : decode cX12_means 130 = .ok (.iaload, 1) := dz_46 (n := 128) (r := 2) hz_X12_means_128 rfl
theorem dX12_means_131 : decode cX12_means 131 = .ok (.bipush 21, 2) := dz_16 (n := 128) (r := 3) hz_X12_means_128 rfl rfl
theorem dX12_means_133 : decode cX12_means 133 = .ok (.if_icmp .ne 8, 3) := dz_160 (n := 128) (r := 5) hz_X12_means_128 rfl (by decide +kernel)
theorem dX12_means_136 : decode cX12_means 136 = .ok (.aload_n 0, 1) := dz_42 (n := 128) (r := 8) hz_X12_means_128 rfl
theorem dX12_means_137 : decode cX12_means 137 = .ok (.iconst 1, 1) := dz_4 (n := 128) (r := 9) hz_X12_means_128 rfl
theorem dX12_means_138 : decode cX12_means 138 = .ok (.putfield 180, 3) := dz_181 (n := 128) (r := 10) hz_X12_means_128 rfl rfl
theorem dX12_means_141 : decode cX12_means 141 = .ok (.aload_n 0, 1) := dz_42 (n := 128) (r := 13) hz_X12_means_128 rfl
theorem dX12_means_142 : decode cX12_means 142 = .ok (.getfield 20, 3) := dz_180 (n := 128) (r := 14) hz_X12_means_128 rfl rfl
theorem dX12_means_145 : decode cX12_means 145 = .ok (.iload_n 1, 1) := dz_27 (n := 128) (r := 17) hz_X12_means_128 rfl
theorem dX12_means_146 : decode cX12_means 146 = .ok (.iaload, 1) := dz_46 (n := 128) (r := 18) hz_X12_means_128 rfl
theorem dX12_means_147 : decode cX12_means 147 = .ok (.bipush 24, 2) := dz_16 (n := 128) (r := 19) hz_X12_means_128 rfl rfl
theorem dX12_means_149 : decode cX12_means 149 = .ok (.if_icmp .ne 21, 3) := dz_160 (n := 128) (r := 21) hz_X12_means_128 rfl (by decide +kernel)
theorem dX12_means_152 : decode cX12_means 152 = .ok (.aload_n 0, 1) := dz_42 (n := 128) (r := 24) hz_X12_means_128 rfl
theorem dX12_means_153 : decode cX12_means 153 = .ok (.getfield 20, 3) := dz_180 (n := 128) (r := 25) hz_X12_means_128 rfl rfl
theorem dX12_means_156 : decode cX12_means 156 = .ok (.iload_n 1, 1) := dz_27 (n := 128) (r := 28) hz_X12_means_128 rfl
theorem dX12_means_157 : decode cX12_means 157 = .ok (.iconst 1, 1) := dz_4 (n := 128) (r := 29) hz_X12_means_128 rfl
theorem dX12_means_158 : decode cX12_means 158 = .ok (.iadd, 1) := dz_96 (n := 128) (r := 30) hz_X12_means_128 rfl
theorem dX12_means_159 : decode cX12_means 159 = .ok (.iaload, 1) := dz_46 (n := 128) (r := 31) hz_X12_means_128 rfl
theorem hz_X12_means_160 : (cX12_means.data.toList.drop 160).take 40 = [16, 22, 160, 0, 8, 42, 4, 181, 0, 187, 132, 1, 1, 167, 255, 187, 7, 60, 27, 42, 180, 0, 110, 162, 0, 26, 42, 180, 0, 20, 27, 4, 100, 46, 7, 160, 0, 8, 42, 27] := by decide +kernel
theorem dX12_means_160 : decode cX12_means 160 = .ok (.bipush 22, 2) := dz_16 (n := 160) (r := 0) hz_X12_means_160 rfl rfl
theorem dX12_means_162 : decode cX12_means 162 = .ok (.if_icmp .ne 8, 3) := dz_160 (n := 160) (r := 2) hz_X12_means_160 rfl (by decide +kernel)
theorem dX12_means_165 : decode cX12_means 165 = .ok (.aload_n 0, 1) := dz_42 (n := 160) (r := 5) hz_X12_means_160 rfl
theorem dX12_means_166 : decode cX12_means 166 = .ok (.iconst 1, 1) := dz_4 (n := 160) (r := 6) hz_X12_means_160 rfl
theorem dX12_means_167 : decode cX12_means 167 = .ok (.putfield 187, 3) := dz_181 (n := 160) (r := 7) hz_X12_means_160 rfl rfl
theorem dX12_means_170 : decode cX12_means 170 = .ok (.iinc 1 1, 3) := dz_132 (n := 160) (r := 10) hz_X12_means_160 rfl rfl rfl
theorem dX12_means_173 : decode cX12_means 173 = .ok (.goto (-69), 3) := dz_167 (n := 160) (r := 13) hz_X12_means_160 rfl (by decide +kernel)
theorem dX12_means_176 : decode cX12_means 176 = .ok (.iconst 4, 1) := dz_7 (n := 160) (r := 16) hz_X12_means_160 rfl
theorem dX12_means_177 : decode cX12_means 177 = .ok (.istore_n 1, 1) := dz_60 (n := 160) (r := 17) hz_X12_means_160 rfl
theorem dX12_means_178 : decode cX12_means 178 = .ok (.iload_n 1, 1) := dz_27 (n := 160) (r := 18) hz_X12_means_160 rfl
theorem dX12_means_179 : decode cX12_means 179 = .ok (.aload_n 0, 1) := dz_42 (n := 160) (r := 19) hz_X12_means_160 rfl
theorem dX12_means_180 : decode cX12_means 180 = .ok (.getfield 110, 3) := dz_180 (n := 160) (r := 20) hz_X12_means_160 rfl rfl
theorem dX12_means_183 : decode cX12_means 183 = .ok (.if_icmp .ge 26, 3) := dz_162 (n := 160) (r := 23) hz_X12_means_160 rfl (by decide +kernel)
theorem dX12_means_186 : decode cX12_means 186 = .ok (.aload_n 0, 1) := dz_42 (n := 160) (r := 26) hz_X12_means_160 rfl
theorem dX12_means_187 : decode cX12_means 187 = .ok (.getfield 20, 3) := dz_180 (n := 160) (r := 27) hz_X12_means_160 rfl rfl
theorem dX12_means_190 : decode cX12_means 190 = .ok (.iload_n 1, 1) := dz_27 (n := 160) (r := 30) hz_X12_means_160 rfl
theorem dX12_means_191 : decode cX12_means 191 = .ok (.iconst 1, 1) := dz_4 (n := 160) (r := 31) hz_X12_means_160 rfl
theorem hz_X12_means_192 : (cX12_means.data.toList.drop 192).take 40 = [100, 46, 7, 160, 0, 8, 42, 27, 182, 0, 217, 132, 1, 1, 167, 255, 228, 7, 60, 27, 42, 180, 0, 110, 162, 0, 26, 42, 180, 0, 20, 27, 4, 100, 46, 7, 160, 0, 8, 42] := by decide +kernel
theorem dX12_means_192 : decode cX12_means 192 = .ok (.isub, 1) := dz_100 (n := 192) (r := 0) hz_X12_means_192 rfl
theorem dX12_means_193 : decode cX12_means 193 = .ok (.iaload, 1) := dz_46 (n := 192) (r := 1) hz_X12_means_192 rfl
theorem dX12_means_194 : decode cX12_means 194 = .ok (.iconst 4, 1) := dz_7 (n := 192) (r := 2) hz_X12_means_192 rfl
theorem dX12_means_195 : decode cX12_means 195 = .ok (.if_icmp .ne 8, 3) := dz_160 (n := 192) (r := 3) hz_X12_means_192 rfl (by decide +kernel)
theorem dX12_means_198 : decode cX12_means 198 = .ok (.aload_n 0, 1) := dz_42 (n := 192) (r := 6) hz_X12_means_192 rfl
theorem dX12_means_199 : decode cX12_means 199 = .ok (.iload_n 1, 1) := dz_27 (n := 192) (r := 7) hz_X12_means_192 rfl
theorem dX12_means_200 : decode cX12_means 200 = .ok (.invokevirtual 217, 3) := dz_182 (n := 192) (r := 8) hz_X12_means_192 rfl rfl
theorem dX12_means_203 : decode cX12_means 203 = .ok (.iinc 1 1, 3) := dz_132 (n := 192) (r := 11) hz_X12_means_192 rfl rfl rfl
theorem dX12_means_206 : decode cX12_means 206 = .ok (.goto (-28), 3) := dz_167 (n := 192) (r := 14) hz_X12_means_192 rfl (by decide +kernel)
theorem dX12_means_209 : decode cX12_means 209 = .ok (.iconst 4, 1) := dz_7 (n := 192) (r := 17) hz_X12_means_192 rfl
theorem dX12_means_210 : decode cX12_means 210 = .ok (.istore_n 1, 1) := dz_60 (n := 192) (r := 18) hz_X12_means_192 rfl
theorem dX12_means_211 : decode cX12_means 211 = .ok (.iload_n 1, 1) := dz_27 (n := 192) (r := 19) hz_X12_means_192 rfl
theorem dX12_means_212 : decode cX12_means 212 = .ok (.aload_n 0, 1) := dz_42 (n := 192) (r := 20) hz_X12_means_192 rfl
theorem dX12_means_213 : decode cX12_means 213 = .ok (.getfield 110, 3) := dz_180 (n := 192) (r := 21) hz_X12_means_192 rfl rfl
theorem dX12_means_216 : decode cX12_means 216 = .ok (.if_icmp .ge 26, 3) := dz_162 (n := 192) (r := 24) hz_X12_means_192 rfl (by decide +kernel)
theorem dX12_means_219 : decode cX12_means 219 = .ok (.aload_n 0, 1) := dz_42 (n := 192) (r := 27) hz_X12_means_192 rfl
theorem dX12_means_220 : decode cX12_means 220 = .ok (.getfield 20, 3) := dz_180 (n := 192) (r := 28) hz_X12_means_192 rfl rfl
theorem dX12_means_223 : decode cX12_means 223 = .ok (.iload_n 1, 1) := dz_27 (n := 192) (r := 31) hz_X12_means_192 rfl
theorem hz_X12_means_224 : (cX12_means.data.toList.drop 224).take 40 = [4, 100, 46, 7, 160, 0, 8, 42, 27, 182, 0, 220, 132, 1, 1, 167, 255, 228, 177] := by decide +kernel
theorem dX12_means_224 : decode cX12_means 224 = .ok (.iconst 1, 1) := dz_4 (n := 224) (r := 0) hz_X12_means_224 rfl
theorem dX12_means_225 : decode cX12_means 225 = .ok (.isub, 1) := dz_100 (n := 224) (r := 1) hz_X12_means_224 rfl
theorem dX12_means_226 : decode cX12_means 226 = .ok (.iaload, 1) := dz_46 (n := 224) (r := 2) hz_X12_means_224 rfl
theorem dX12_means_227 : decode cX12_means 227 = .ok (.iconst 4, 1) := dz_7 (n := 224) (r := 3) hz_X12_means_224 rfl
theorem dX12_means_228 : decode cX12_means 228 = .ok (.if_icmp .ne 8, 3) := dz_160 (n := 224) (r := 4) hz_X12_means_224 rfl (by decide +kernel)
theorem dX12_means_231 : decode cX12_means 231 = .ok (.aload_n 0, 1) := dz_42 (n := 224) (r := 7) hz_X12_means_224 rfl
theorem dX12_means_232 : decode cX12_means 232 = .ok (.iload_n 1, 1) := dz_27 (n := 224) (r := 8) hz_X12_means_224 rfl
theorem dX12_means_233 : decode cX12_means 233 = .ok (.invokevirtual 220, 3) := dz_182 (n := 224) (r := 9) hz_X12_means_224 rfl rfl
theorem dX12_means_236 : decode cX12_means 236 = .ok (.iinc 1 1, 3) := dz_132 (n := 224) (r := 12) hz_X12_means_224 rfl rfl rfl
theorem dX12_means_239 : decode cX12_means 239 = .ok (.goto (-28), 3) := dz_167 (n := 224) (r := 15) hz_X12_means_224 rfl (by decide +kernel)
theorem dX12_means_242 : decode cX12_means 242 = .ok (.return_, 1) := dz_177 (n := 224) (r := 18) hz_X12_means_224 rfl
theorem hz_X12_meansAll_0 : (cX12_meansAll.data.toList.drop 0).take 40 = [42, 180, 0, 20, 27, 46, 16, 30, 160, 0, 18, 42, 180, 0, 43, 16, 65, 42, 180, 0, 27, 27, 4, 96, 46, 79, 42, 180, 0, 20, 27, 46, 16, 21, 159, 0, 26, 42, 180, 0] := by decide +kernel
theorem dX12_meansAll_0 : decode cX12_meansAll 0 = .ok (.aload_n 0, 1) := dz_42 (n := 0) (r := 0) hz_X12_meansAll_0 rfl
theorem dX12_meansAll_1 : decode cX12_meansAll 1 = .ok (.getfield 20, 3) := dz_180 (n := 0) (r := 1) hz_X12_meansAll_0 rfl rfl
theorem dX12_meansAll_4 : decode cX12_meansAll 4 = .ok (.iload_n 1, 1) := dz_27 (n := 0) (r := 4) hz_X12_meansAll_0 rfl
theorem dX12_meansAll_5 : decode cX12_meansAll 5 = .ok (.iaload, 1) := dz_46 (n := 0) (r := 5) hz_X12_meansAll_0 rfl
theorem dX12_meansAll_6 : decode cX12_meansAll 6 = .ok (.bipush 30, 2) := dz_16 (n := 0) (r := 6) hz_X12_meansAll_0 rfl rfl
theorem dX12_meansAll_8 : decode cX12_meansAll 8 = .ok (.if_icmp .ne 18, 3) := dz_160 (n := 0) (r := 8) hz_X12_meansAll_0 rfl (by decide +kernel)
theorem dX12_meansAll_11 : decode cX12_meansAll 11 = .ok (.aload_n 0, 1) := dz_42 (n := 0) (r := 11) hz_X12_meansAll_0 rfl
theorem dX12_meansAll_12 : decode cX12_meansAll 12 = .ok (.getfield 43, 3) := dz_180 (n := 0) (r := 12) hz_X12_meansAll_0 rfl rfl
theorem dX12_meansAll_15 : decode cX12_meansAll 15 = .ok (.bipush 65, 2) := dz_16 (n := 0) (r := 15) hz_X12_meansAll_0 rfl rfl
theorem dX12_meansAll_17 : decode cX12_meansAll 17 = .ok (.aload_n 0, 1) := dz_42 (n := 0) (r := 17) hz_X12_meansAll_0 rfl
theorem dX12_meansAll_18 : decode cX12_meansAll 18 = .ok (.getfield 27, 3) := dz_180 (n := 0) (r := 18) hz_X12_meansAll_0 rfl rfl
theorem dX12_meansAll_21 : decode cX12_meansAll 21 = .ok (.iload_n 1, 1) := dz_27 (n := 0) (r := 21) hz_X12_meansAll_0 rfl
theorem dX12_meansAll_22 : decode cX12_meansAll 22 = .ok (.iconst 1, 1) := dz_4 (n := 0) (r := 22) hz_X12_meansAll_0 rfl
theorem dX12_meansAll_23 : decode cX12_meansAll 23 = .ok (.iadd, 1) := dz_96 (n := 0) (r := 23) hz_X12_meansAll_0 rfl
theorem dX12_meansAll_24 : decode cX12_meansAll 24 = .ok (.iaload, 1) := dz_46 (n := 0) (r := 24) hz_X12_meansAll_0 rfl
theorem dX12_meansAll_25 : decode cX12_meansAll 25 = .ok (.iastore, 1) := dz_79 (n := 0) (r := 25) hz_X12_meansAll_0 rfl
theorem dX12_meansAll_26 : decode cX12_meansAll 26 = .ok (.aload_n 0, 1) := dz_42 (n := 0) (r := 26) hz_X12_meansAll_0 rfl
theorem dX12_meansAll_27 : decode cX12_meansAll 27 = .ok (.getfield 20, 3) := dz_180 (n := 0) (r := 27) hz_X12_meansAll_0 rfl rfl
theorem dX12_meansAll_30 : decode cX12_meansAll 30 = .ok (.iload_n 1, 1) := dz_27 (n := 0) (r := 30) hz_X12_meansAll_0 rfl
theorem dX12_meansAll_31 : decode cX12_meansAll 31 = .ok (.iaload, 1) := dz_46 (n := 0) (r := 31) hz_X12_meansAll_0 rfl
theorem hz_X12_meansAll_32 : (cX12_meansAll.data.toList.drop 32).take 40 = [16, 21, 159, 0, 26, 42, 180, 0, 20, 27, 46, 16, 22, 159, 0, 15, 42, 180, 0, 20, 27, 46, 16, 23, 159, 0, 4, 177, 42, 180, 0, 20, 27, 46, 16, 21, 160, 0, 7, 3] := by decide +kernel
theorem dX12_meansAll_32 : decode cX12_meansAll 32 = .ok (.bipush 21, 2) := dz_16 (n := 32) (r := 0) hz_X12_meansAll_32 rfl rfl
theorem dX12_meansAll_34 : decode cX12_meansAll 34 = .ok (.if_icmp .eq 26, 3) := dz_159 (n := 32) (r := 2) hz_X12_meansAll_32 rfl (by decide +kernel)
theorem dX12_meansAll_37 : decode cX12_meansAll 37 = .ok (.aload_n 0, 1) := dz_42 (n := 32) (r := 5) hz_X12_meansAll_32 rfl
theorem dX12_meansAll_38 : decode cX12_meansAll 38 = .ok (.getfield 20, 3) := dz_180 (n := 32) (r := 6) hz_X12_meansAll_32 rfl rfl
theorem dX12_meansAll_41 : decode cX12_meansAll 41 = .ok (.iload_n 1, 1) := dz_27 (n := 32) (r := 9) hz_X12_meansAll_32 rfl
theorem dX12_meansAll_42 : decode cX12_meansAll 42 = .ok (.iaload, 1) := dz_46 (n := 32) (r := 10) hz_X12_meansAll_32 rfl
theorem dX12_meansAll_43 : decode cX12_meansAll 43 = .ok (.bipush 22, 2) := dz_16 (n := 32) (r := 11) hz_X12_meansAll_32 rfl rfl
theorem dX12_meansAll_45 : decode cX12_meansAll 45 = .ok (.if_icmp .eq 15, 3) := dz_159 (n := 32) (r := 13) hz_X12_meansAll_32 rfl (by decide +kernel)
theorem dX12_meansAll_48 : decode cX12_meansAll 48 = .ok (.aload_n 0, 1) := dz_42 (n := 32) (r := 16) hz_X12_meansAll_32 rfl
theorem dX12_meansAll_49 : decode cX12_meansAll 49 = .ok (.getfield 20, 3) := dz_180 (n := 32) (r := 17) hz_X12_meansAll_32 rfl rfl
theorem dX12_meansAll_52 : decode cX12_meansAll 52 = .ok (.iload_n 1, 1) := dz_27 (n := 32) (r := 20) hz_X12_meansAll_32 rfl
theorem dX12_meansAll_53 : decode cX12_meansAll 53 = .ok (.iaload, 1) := dz_46 (n := 32) (r := 21) hz_X12_meansAll_32 rfl
theorem dX12_meansAll_54 : decode cX12_meansAll 54 = .ok (.bipush 23, 2) := dz_16 (n := 32) (r := 22) hz_X12_meansAll_32 rfl rfl
theorem dX12_meansAll_56 : decode cX12_meansAll 56 = .ok (.if_icmp .eq 4, 3) := dz_159 (n := 32) (r := 24) hz_X12_meansAll_32 rfl (by decide +kernel)
theorem dX12_meansAll_59 : decode cX12_meansAll 59 = .ok (.return_, 1) := dz_177 (n := 32) (r := 27) hz_X12_meansAll_32 rfl
theorem dX12_meansAll_60 : decode cX12_meansAll 60 = .ok (.aload_n 0, 1) := dz_42 (n := 32) (r := 28) hz_X12_meansAll_32 rfl
theorem dX12_meansAll_61 : decode cX12_meansAll 61 = .ok (.getfield 20, 3) := dz_180 (n := 32) (r := 29) hz_X12_meansAll_32 rfl rfl
theorem hz_X12_meansAll_64 : (cX12_meansAll.data.toList.drop 64).take 40 = [27, 46, 16, 21, 160, 0, 7, 3, 167, 0, 21, 42, 180, 0, 20, 27, 46, 16, 22, 160, 0, 8, 16, 16, 167, 0, 5, 16, 32, 61, 42, 27, 4, 96, 182, 0, 223, 62, 3, 54] := by decide +kernel
theorem dX12_meansAll_64 : decode cX12_meansAll 64 = .ok (.iload_n 1, 1) := dz_27 (n := 64) (r := 0) hz_X12_meansAll_64 rfl
theorem dX12_meansAll_65 : decode cX12_meansAll 65 = .ok (.iaload, 1) := dz_46 (n := 64) (r := 1) hz_X12_meansAll_64 rfl
theorem dX12_meansAll_66 : decode cX12_meansAll 66 = .ok (.bipush 21, 2) := dz_16 (n := 64) (r := 2) hz_X12_meansAll_64 rfl rfl
theorem dX12_meansAll_68 : decode cX12_meansAll 68 = .ok (.if_icmp .ne 7, 3) := dz_160 (n := 64) (r := 4) hz_X12_meansAll_64 rfl (by decide +kernel)
theorem dX12_meansAll_71 : decode cX12_meansAll 71 = .ok (.iconst 0, 1) := dz_3 (n := 64) (r := 7) hz_X12_meansAll_64 rfl
theorem dX12_meansAll_72 : decode cX12_meansAll 72 = .ok (.goto 21, 3) := dz_167 (n := 64) (r := 8) hz_X12_meansAll_64 rfl (by decide +kernel)
theorem dX12_meansAll_75 : decode cX12_meansAll 75 = .ok (.aload_n 0, 1) := dz_42 (n := 64) (r := 11) hz_X12_meansAll_64 rfl
theorem dX12_meansAll_76 : decode cX12_meansAll 76 = .ok (.getfield 20, 3) := dz_180 (n := 64) (r := 12) hz_X12_meansAll_64 rfl rfl
theorem dX12_meansAll_79 : decode cX12_meansAll 79 = .ok (.iload_n 1, 1) := dz_27 (n := 64) (r := 15) hz_X12_meansAll_64 rfl
theorem dX12_meansAll_80 : decode cX12_meansAll 80 = .ok (.iaload, 1) := dz_46 (n := 64) (r := 16) hz_X12_meansAll_64 rfl
theorem dX12_meansAll_81 : decode cX12_meansAll 81 = .ok (.bipush 22, 2) := dz_16 (n := 64) (r := 17) hz_X12_meansAll_64 rfl rfl
theorem dX12_meansAll_83 : decode cX12_meansAll 83 = .ok (.if_icmp .ne 8, 3) := dz_160 (n := 64) (r := 19) hz_X12_meansAll_64 rfl (by decide +kernel)
theorem dX12_meansAll_86 : decode cX12_meansAll 86 = .ok (.bipush 16, 2) := dz_16 (n := 64) (r := 22) hz_X12_meansAll_64 rfl rfl
theorem dX12_meansAll_88 : decode cX12_meansAll 88 = .ok (.goto 5, 3) := dz_167 (n := 64) (r := 24) hz_X12_meansAll_64 rfl (by decide +kernel)
theorem dX12_meansAll_91 : decode cX12_meansAll 91 = .ok (.bipush 32, 2) := dz_16 (n := 64) (r := 27) hz_X12_meansAll_64 rfl rfl
theorem dX12_meansAll_93 : decode cX12_meansAll 93 = .ok (.istore_n 2, 1) := dz_61 (n := 64) (r := 29) hz_X12_meansAll_64 rfl
theorem dX12_meansAll_94 : decode cX12_meansAll 94 = .ok (.aload_n 0, 1) := dz_42 (n := 64) (r := 30) hz_X12_meansAll_64 rfl
theorem dX12_meansAll_95 : decode cX12_meansAll 95 = .ok (.iload_n 1, 1) := dz_27 (n := 64) (r := 31) hz_X12_meansAll_64 rfl
theorem hz_X12_meansAll_96 : (cX12_meansAll.data.toList.drop 96).take 40 = [4, 96, 182, 0, 223, 62, 3, 54, 4, 21, 4, 16, 16, 162, 0, 19, 42, 180, 0, 43, 28, 21, 4, 96, 29, 79, 132, 4, 1, 167, 255, 236, 177] := by decide +kernel
theorem dX12_meansAll_96 : decode cX12_meansAll 96 = .ok (.iconst 1, 1) := dz_4 (n := 96) (r := 0) hz_X12_meansAll_96 rfl
theorem dX12_meansAll_97 : decode cX12_meansAll 97 = .ok (.iadd, 1) := dz_96 (n := 96) (r := 1) hz_X12_meansAll_96 rfl
theorem dX12_meansAll_98 : decode cX12_meansAll 98 = .ok (.invokevirtual 223, 3) := dz_182 (n := 96) (r := 2) hz_X12_meansAll_96 rfl rfl
theorem dX12_meansAll_101 : decode cX12_meansAll 101 = .ok (.istore_n 3, 1) := dz_62 (n := 96) (r := 5) hz_X12_meansAll_96 rfl
theorem dX12_meansAll_102 : decode cX12_meansAll 102 = .ok (.iconst 0, 1) := dz_3 (n := 96) (r := 6) hz_X12_meansAll_96 rfl
theorem dX12_meansAll_103 : decode cX12_meansAll 103 = .ok (.istore 4, 2) := dz_54 (n := 96) (r := 7) hz_X12_meansAll_96 rfl rfl
theorem dX12_meansAll_105 : decode cX12_meansAll 105 = .ok (.iload 4, 2) := dz_21 (n := 96) (r := 9) hz_X12_meansAll_96 rfl rfl
theorem dX12_meansAll_107 : decode cX12_meansAll 107 = .ok (.bipush 16, 2) := dz_16 (n := 96) (r := 11) hz_X12_meansAll_96 rfl rfl
theorem dX12_meansAll_109 : decode cX12_meansAll 109 = .ok (.if_icmp .ge 19, 3) := dz_162 (n := 96) (r := 13) hz_X12_meansAll_96 rfl (by decide +kernel)
theorem dX12_meansAll_112 : decode cX12_meansAll 112 = .ok (.aload_n 0, 1) := dz_42 (n := 96) (r := 16) hz_X12_meansAll_96 rfl
theorem dX12_meansAll_113 : decode cX12_meansAll 113 = .ok (.getfield 43, 3) := dz_180 (n := 96) (r := 17) hz_X12_meansAll_96 rfl rfl
theorem dX12_meansAll_116 : decode cX12_meansAll 116 = .ok (.iload_n 2, 1) := dz_28 (n := 96) (r := 20) hz_X12_meansAll_96 rfl
theorem dX12_meansAll_117 : decode cX12_meansAll 117 = .ok (.iload 4, 2) := dz_21 (n := 96) (r := 21) hz_X12_meansAll_96 rfl rfl
theorem dX12_meansAll_119 : decode cX12_meansAll 119 = .ok (.iadd, 1) := dz_96 (n := 96) (r := 23) hz_X12_meansAll_96 rfl
theorem dX12_meansAll_120 : decode cX12_meansAll 120 = .ok (.iload_n 3, 1) := dz_29 (n := 96) (r := 24) hz_X12_meansAll_96 rfl
theorem dX12_meansAll_121 : decode cX12_meansAll 121 = .ok (.iastore, 1) := dz_79 (n := 96) (r := 25) hz_X12_meansAll_96 rfl
theorem dX12_meansAll_122 : decode cX12_meansAll 122 = .ok (.iinc 4 1, 3) := dz_132 (n := 96) (r := 26) hz_X12_meansAll_96 rfl rfl rfl
theorem dX12_meansAll_125 : decode cX12_meansAll 125 = .ok (.goto (-20), 3) := dz_167 (n := 96) (r := 29) hz_X12_meansAll_96 rfl (by decide +kernel)
theorem hz_X12_meansAll_128 : (cX12_meansAll.data.toList.drop 128).take 40 = [177] := by decide +kernel
theorem dX12_meansAll_128 : decode cX12_meansAll 128 = .ok (.return_, 1) := dz_177 (n := 128) (r := 0) hz_X12_meansAll_128 rfl
theorem hz_X12_meansOne_0 : (cX12_meansOne.data.toList.drop 0).take 40 = [42, 180, 0, 20, 27, 46, 61, 28, 16, 25, 159, 0, 16, 28, 16, 26, 159, 0, 10, 28, 16, 27, 159, 0, 4, 177, 42, 180, 0, 27, 27, 4, 96, 46, 62, 29, 42, 180, 0, 168] := by decide +kernel
theorem dX12_meansOne_0 : decode cX12_meansOne 0 = .ok (.aload_n 0, 1) := dz_42 (n := 0) (r := 0) hz_X12_meansOne_0 rfl
theorem dX12_meansOne_1 : decode cX12_meansOne 1 = .ok (.getfield 20, 3) := dz_180 (n := 0) (r := 1) hz_X12_meansOne_0 rfl rfl
theorem dX12_meansOne_4 : decode cX12_meansOne 4 = .ok (.iload_n 1, 1) := dz_27 (n := 0) (r := 4) hz_X12_meansOne_0 rfl
theorem dX12_meansOne_5 : decode cX12_meansOne 5 = .ok (.iaload, 1) := dz_46 (n := 0) (r := 5) hz_X12_meansOne_0 rfl
theorem dX12_meansOne_6 : decode cX12_meansOne 6 = .ok (.istore_n 2, 1) := dz_61 (n := 0) (r := 6) hz_X12_meansOne_0 rfl
theorem dX12_meansOne_7 : decode cX12_meansOne 7 = .ok (.iload_n 2, 1) := dz_28 (n := 0) (r := 7) hz_X12_meansOne_0 rfl
theorem dX12_meansOne_8 : decode cX12_meansOne 8 = .ok (.bipush 25, 2) := dz_16 (n := 0) (r := 8) hz_X12_meansOne_0 rfl rfl
theorem dX12_meansOne_10 : decode cX12_meansOne 10 = .ok (.if_icmp .eq 16, 3) := dz_159 (n := 0) (r := 10) hz_X12_meansOne_0 rfl (by decide +kernel)
theorem dX12_meansOne_13 : decode cX12_meansOne 13 = .ok (.iload_n 2, 1) := dz_28 (n := 0) (r := 13) hz_X12_meansOne_0 rfl
theorem dX12_meansOne_14 : decode cX12_meansOne 14 = .ok (.bipush 26, 2) := dz_16 (n := 0) (r := 14) hz_X12_meansOne_0 rfl rfl
theorem dX12_meansOne_16 : decode cX12_meansOne 16 = .ok (.if_icmp .eq 10, 3) := dz_159 (n := 0) (r := 16) hz_X12_meansOne_0 rfl (by decide +kernel)
theorem dX12_meansOne_19 : decode cX12_meansOne 19 = .ok (.iload_n 2, 1) := dz_28 (n := 0) (r := 19) hz_X12_meansOne_0 rfl
theorem dX12_meansOne_20 : decode cX12_meansOne 20 = .ok (.bipush 27, 2) := dz_16 (n := 0) (r := 20) hz_X12_meansOne_0 rfl rfl
theorem dX12_meansOne_22 : decode cX12_meansOne 22 = .ok (.if_icmp .eq 4, 3) := dz_159 (n := 0) (r := 22) hz_X12_meansOne_0 rfl (by decide +kernel)
theorem dX12_meansOne_25 : decode cX12_meansOne 25 = .ok (.return_, 1) := dz_177 (n := 0) (r := 25) hz_X12_meansOne_0 rfl
theorem dX12_meansOne_26 : decode cX12_meansOne 26 = .ok (.aload_n 0, 1) := dz_42 (n := 0) (r := 26) hz_X12_meansOne_0 rfl
theorem dX12_meansOne_27 : decode cX12_meansOne 27 = .ok (.getfield 27, 3) := dz_180 (n := 0) (r := 27) hz_X12_meansOne_0 rfl rfl
theorem dX12_meansOne_30 : decode cX12_meansOne 30 = .ok (.iload_n 1, 1) := dz_27 (n := 0) (r := 30) hz_X12_meansOne_0 rfl
theorem dX12_meansOne_31 : decode cX12_meansOne 31 = .ok (.iconst 1, 1) := dz_4 (n := 0) (r := 31) hz_X12_meansOne_0 rfl
theorem hz_X12_meansOne_32 : (cX12_meansOne.data.toList.drop 32).take 40 = [96, 46, 62, 29, 42, 180, 0, 168, 42, 180, 0, 174, 104, 162, 0, 14, 42, 180, 0, 141, 154, 0, 7, 4, 167, 0, 4, 3, 54, 4, 42, 180, 0, 20, 27, 5, 96, 46, 16, 22] := by decide +kernel
theorem dX12_meansOne_32 : decode cX12_meansOne 32 = .ok (.iadd, 1) := dz_96 (n := 32) (r := 0) hz_X12_meansOne_32 rfl
theorem dX12_meansOne_33 : decode cX12_meansOne 33 = .ok (.iaload, 1) := dz_46 (n := 32) (r := 1) hz_X12_meansOne_32 rfl
theorem dX12_meansOne_34 : decode cX12_meansOne 34 = .ok (.istore_n 3, 1) := dz_62 (n := 32) (r := 2) hz_X12_meansOne_32 rfl
theorem dX12_meansOne_35 : decode cX12_meansOne 35 = .ok (.iload_n 3, 1) := dz_29 (n := 32) (r := 3) hz_X12_meansOne_32 rfl
theorem dX12_meansOne_36 : decode cX12_meansOne 36 = .ok (.aload_n 0, 1) := dz_42 (n := 32) (r := 4) hz_X12_meansOne_32 rfl
theorem dX12_meansOne_37 : decode cX12_meansOne 37 = .ok (.getfield 168, 3) := dz_180 (n := 32) (r := 5) hz_X12_meansOne_32 rfl rfl
theorem dX12_meansOne_40 : decode cX12_meansOne 40 = .ok (.aload_n 0, 1) := dz_42 (n := 32) (r := 8) hz_X12_meansOne_32 rfl
theorem dX12_meansOne_41 : decode cX12_meansOne 41 = .ok (.getfield 174, 3) := dz_180 (n := 32) (r := 9) hz_X12_meansOne_32 rfl rfl
theorem dX12_meansOne_44 : decode cX12_meansOne 44 = .ok (.imul, 1) := dz_104 (n := 32) (r := 12) hz_X12_meansOne_32 rfl
theorem dX12_meansOne_45 : decode cX12_meansOne 45 = .ok (.if_icmp .ge 14, 3) := dz_162 (n := 32) (r := 13) hz_X12_meansOne_32 rfl (by decide +kernel)
theorem dX12_meansOne_48 : decode cX12_meansOne 48 = .ok (.aload_n 0, 1) := dz_42 (n := 32) (r := 16) hz_X12_meansOne_32 rfl
theorem dX12_meansOne_49 : decode cX12_meansOne 49 = .ok (.getfield 141, 3) := dz_180 (n := 32) (r := 17) hz_X12_meansOne_32 rfl rfl
theorem dX12_meansOne_52 : decode cX12_meansOne 52 = .ok (.ifCond .ne 7, 3) := dz_154 (n := 32) (r := 20) hz_X12_meansOne_32 rfl (by decide +kernel)
theorem dX12_meansOne_55 : decode cX12_meansOne 55 = .ok (.iconst 1, 1) := dz_4 (n := 32) (r := 23) hz_X12_meansOne_32 rfl
theorem dX12_meansOne_56 : decode cX12_meansOne 56 = .ok (.goto 4, 3) := dz_167 (n := 32) (r := 24) hz_X12_meansOne_32 rfl (by decide +kernel)
theorem dX12_meansOne_59 : decode cX12_meansOne 59 = .ok (.iconst 0, 1) := dz_3 (n := 32) (r := 27) hz_X12_meansOne_32 rfl
theorem dX12_meansOne_60 : decode cX12_meansOne 60 = .ok (.istore 4, 2) := dz_54 (n := 32) (r := 28) hz_X12_meansOne_32 rfl rfl
theorem dX12_meansOne_62 : decode cX12_meansOne 62 = .ok (.aload_n 0, 1) := dz_42 (n := 32) (r := 30) hz_X12_meansOne_32 rfl
theorem dX12_meansOne_63 : decode cX12_meansOne 63 = .ok (.getfield 20, 3) := dz_180 (n := 32) (r := 31) hz_X12_meansOne_32 rfl rfl
theorem hz_X12_meansOne_64 : (cX12_meansOne.data.toList.drop 64).take 40 = [0, 20, 27, 5, 96, 46, 16, 22, 160, 0, 7, 4, 167, 0, 4, 3, 54, 5, 29, 42, 180, 0, 168, 42, 180, 0, 174, 104, 162, 0, 42, 28, 16, 25, 160, 0, 47, 29, 21, 5] := by decide +kernel
theorem dX12_meansOne_66 : decode cX12_meansOne 66 = .ok (.iload_n 1, 1) := dz_27 (n := 64) (r := 2) hz_X12_meansOne_64 rfl
theorem dX12_meansOne_67 : decode cX12_meansOne 67 = .ok (.iconst 2, 1) := dz_5 (n := 64) (r := 3) hz_X12_meansOne_64 rfl
theorem dX12_meansOne_68 : decode cX12_meansOne 68 = .ok (.iadd, 1) := dz_96 (n := 64) (r := 4) hz_X12_meansOne_64 rfl
theorem dX12_meansOne_69 : decode cX12_meansOne 69 = .ok (.iaload, 1) := dz_46 (n := 64) (r := 5) hz_X12_meansOne_64 rfl
theorem dX12_meansOne_70 : decode cX12_meansOne 70 = .ok (.bipush 22, 2) := dz_16 (n := 64) (r := 6) hz_X12_meansOne_64 rfl rfl
theorem dX12_meansOne_72 : decode cX12_meansOne 72 = .ok (.if_icmp .ne 7, 3) := dz_160 (n := 64) (r := 8) hz_X12_meansOne_64 rfl (by decide +kernel)
theorem dX12_meansOne_75 : decode cX12_meansOne 75 = .ok (.iconst 1, 1) := dz_4 (n := 64) (r := 11) hz_X12_meansOne_64 rfl
theorem dX12_meansOne_76 : decode cX12_meansOne 76 = .ok (.goto 4, 3) := dz_167 (n := 64) (r := 12) hz_X12_meansOne_64 rfl (by decide +kernel)
theorem dX12_meansOne_79 : decode cX12_meansOne 79 = .ok (.iconst 0, 1) := dz_3 (n := 64) (r := 15) hz_X12_meansOne_64 rfl
theorem dX12_meansOne_80 : decode cX12_meansOne 80 = .ok (.istore 5, 2) := dz_54 (n := 64) (r := 16) hz_X12_meansOne_64 rfl rfl
theorem dX12_meansOne_82 : decode cX12_meansOne 82 = .ok (.iload_n 3, 1) := dz_29 (n := 64) (r := 18) hz_X12_meansOne_64 rfl
theorem dX12_meansOne_83 : decode cX12_meansOne 83 = .ok (.aload_n 0, 1) := dz_42 (n := 64) (r := 19) hz_X12_meansOne_64 rfl
theorem dX12_meansOne_84 : decode cX12_meansOne 84 = .ok (.getfield 168, 3) := dz_180 (n := 64) (r := 20) hz_X12_meansOne_64 rfl rfl
theorem dX12_meansOne_87 : decode cX12_meansOne 87 = .ok (.aload_n 0, 1) := dz_42 (n := 64) (r := 23) hz_X12_meansOne_64 rfl
theorem dX12_meansOne_88 : decode cX12_meansOne 88 = .ok (.getfield 174, 3) := dz_180 (n := 64) (r := 24) hz_X12_meansOne_64 rfl rfl
theorem dX12_meansOne_91 : decode cX12_meansOne 91 = .ok (.imul, 1) := dz_104 (n := 64) (r := 27) hz_X12_meansOne_64 rfl
theorem dX12_meansOne_92 : decode cX12_meansOne 92 = .ok (.if_icmp .ge 42, 3) := dz_162 (n := 64) (r := 28) hz_X12_meansOne_64 rfl (by decide +kernel)
theorem dX12_meansOne_95 : decode cX12_meansOne 95 = .ok (.iload_n 2, 1) := dz_28 (n := 64) (r := 31) hz_X12_meansOne_64 rfl
theorem hz_X12_meansOne_96 : (cX12_meansOne.data.toList.drop 96).take 40 = [16, 25, 160, 0, 47, 29, 21, 5, 42, 180, 0, 168, 42, 180, 0, 174, 21, 5, 153, 0, 10, 42, 180, 0, 187, 167, 0, 7, 42, 180, 0, 180, 184, 0, 226, 156, 0, 14, 42, 7] := by decide +kernel
theorem dX12_meansOne_96 : decode cX12_meansOne 96 = .ok (.bipush 25, 2) := dz_16 (n := 96) (r := 0) hz_X12_meansOne_96 rfl rfl
theorem dX12_meansOne_98 : decode cX12_meansOne 98 = .ok (.if_icmp .ne 47, 3) := dz_160 (n := 96) (r := 2) hz_X12_meansOne_96 rfl (by decide +kernel)
theorem dX12_meansOne_101 : decode cX12_meansOne 101 = .ok (.iload_n 3, 1) := dz_29 (n := 96) (r := 5) hz_X12_meansOne_96 rfl
theorem dX12_meansOne_102 : decode cX12_meansOne 102 = .ok (.iload 5, 2) := dz_21 (n := 96) (r := 6) hz_X12_meansOne_96 rfl rfl
theorem dX12_meansOne_104 : decode cX12_meansOne 104 = .ok (.aload_n 0, 1) := dz_42 (n := 96) (r := 8) hz_X12_meansOne_96 rfl
theorem dX12_meansOne_105 : decode cX12_meansOne 105 = .ok (.getfield 168, 3) := dz_180 (n := 96) (r := 9) hz_X12_meansOne_96 rfl rfl
theorem dX12_meansOne_108 : decode cX12_meansOne 108 = .ok (.aload_n 0, 1) := dz_42 (n := 96) (r := 12) hz_X12_meansOne_96 rfl
theorem dX12_meansOne_109 : decode cX12_meansOne 109 = .ok (.getfield 174, 3) := dz_180 (n := 96) (r := 13) hz_X12_meansOne_96 rfl rfl
theorem dX12_meansOne_112 : decode cX12_meansOne 112 = .ok (.iload 5, 2) := dz_21 (n := 96) (r := 16) hz_X12_meansOne_96 rfl rfl
theorem dX12_meansOne_114 : decode cX12_meansOne 114 = .ok (.ifCond .eq 10, 3) := dz_153 (n := 96) (r := 18) hz_X12_meansOne_96 rfl (by decide +kernel)
theorem dX12_meansOne_117 : decode cX12_meansOne 117 = .ok (.aload_n 0, 1) := dz_42 (n := 96) (r := 21) hz_X12_meansOne_96 rfl
theorem dX12_meansOne_118 : decode cX12_meansOne 118 = .ok (.getfield 187, 3) := dz_180 (n := 96) (r := 22) hz_X12_meansOne_96 rfl rfl
theorem dX12_meansOne_121 : decode cX12_meansOne 121 = .ok (.goto 7, 3) := dz_167 (n := 96) (r := 25) hz_X12_meansOne_96 rfl (by decide +kernel)
theorem dX12_meansOne_124 : decode cX12_meansOne 124 = .ok (.aload_n 0, 1) := dz_42 (n := 96) (r := 28) hz_X12_meansOne_96 rfl
theorem dX12_meansOne_125 : decode cX12_meansOne 125 = .ok (.getfield 180, 3) := dz_180 (n := 96) (r := 29) hz_X12_meansOne_96 rfl rfl
theorem hz_X12_meansOne_128 : (cX12_meansOne.data.toList.drop 128).take 40 = [184, 0, 226, 156, 0, 14, 42, 7, 27, 4, 96, 182, 0, 209, 3, 54, 4, 28, 16, 27, 160, 0, 36, 21, 4, 153, 0, 30, 42, 180, 0, 43, 16, 48, 29, 96, 42, 180, 0, 20] := by decide +kernel
theorem dX12_meansOne_128 : decode cX12_meansOne 128 = .ok (.invokestatic 226, 3) := dz_184 (n := 128) (r := 0) hz_X12_meansOne_128 rfl rfl
theorem dX12_meansOne_131 : decode cX12_meansOne 131 = .ok (.ifCond .ge 14, 3) := dz_156 (n := 128) (r := 3) hz_X12_meansOne_128 rfl (by decide +kernel)
theorem dX12_meansOne_134 : decode cX12_meansOne 134 = .ok (.aload_n 0, 1) := dz_42 (n := 128) (r := 6) hz_X12_meansOne_128 rfl
theorem dX12_meansOne_135 : decode cX12_meansOne 135 = .ok (.iconst 4, 1) := dz_7 (n := 128) (r := 7) hz_X12_meansOne_128 rfl
theorem dX12_meansOne_136 : decode cX12_meansOne 136 = .ok (.iload_n 1, 1) := dz_27 (n := 128) (r := 8) hz_X12_meansOne_128 rfl
theorem dX12_meansOne_137 : decode cX12_meansOne 137 = .ok (.iconst 1, 1) := dz_4 (n := 128) (r := 9) hz_X12_meansOne_128 rfl
theorem dX12_meansOne_138 : decode cX12_meansOne 138 = .ok (.iadd, 1) := dz_96 (n := 128) (r := 10) hz_X12_meansOne_128 rfl
theorem dX12_meansOne_139 : decode cX12_meansOne 139 = .ok (.invokevirtual 209, 3) := dz_182 (n := 128) (r := 11) hz_X12_meansOne_128 rfl rfl
theorem dX12_meansOne_142 : decode cX12_meansOne 142 = .ok (.iconst 0, 1) := dz_3 (n := 128) (r := 14) hz_X12_meansOne_128 rfl
theorem dX12_meansOne_143 : decode cX12_meansOne 143 = .ok (.istore 4, 2) := dz_54 (n := 128) (r := 15) hz_X12_meansOne_128 rfl rfl
theorem dX12_meansOne_145 : decode cX12_meansOne 145 = .ok (.iload_n 2, 1) := dz_28 (n := 128) (r := 17) hz_X12_meansOne_128 rfl
theorem dX12_meansOne_146 : decode cX12_meansOne 146 = .ok (.bipush 27, 2) := dz_16 (n := 128) (r := 18) hz_X12_meansOne_128 rfl rfl
theorem dX12_meansOne_148 : decode cX12_meansOne 148 = .ok (.if_icmp .ne 36, 3) := dz_160 (n := 128) (r := 20) hz_X12_meansOne_128 rfl (by decide +kernel)
theorem dX12_meansOne_151 : decode cX12_meansOne 151 = .ok (.iload 4, 2) := dz_21 (n := 128) (r := 23) hz_X12_meansOne_128 rfl rfl
theorem dX12_meansOne_153 : decode cX12_meansOne 153 = .ok (.ifCond .eq 30, 3) := dz_153 (n := 128) (r := 25) hz_X12_meansOne_128 rfl (by decide +kernel)
theorem dX12_meansOne_156 : decode cX12_meansOne 156 = .ok (.aload_n 0, 1) := dz_42 (n := 128) (r := 28) hz_X12_meansOne_128 rfl
theorem dX12_meansOne_157 : decode cX12_meansOne 157 = .ok (.getfield 43, 3) := dz_180 (n := 128) (r := 29) hz_X12_meansOne_128 rfl rfl
theorem hz_X12_meansOne_160 : (cX12_meansOne.data.toList.drop 160).take 40 = [16, 48, 29, 96, 42, 180, 0, 20, 27, 5, 96, 46, 16, 28, 160, 0, 7, 4, 167, 0, 4, 5, 79, 177, 42, 28, 16, 25, 160, 0, 9, 27, 6, 96, 167, 0, 6, 27, 5, 96] := by decide +kernel
theorem dX12_meansOne_160 : decode cX12_meansOne 160 = .ok (.bipush 48, 2) := dz_16 (n := 160) (r := 0) hz_X12_meansOne_160 rfl rfl
theorem dX12_meansOne_162 : decode cX12_meansOne 162 = .ok (.iload_n 3, 1) := dz_29 (n := 160) (r := 2) hz_X12_meansOne_160 rfl
theorem dX12_meansOne_163 : decode cX12_meansOne 163 = .ok (.iadd, 1) := dz_96 (n := 160) (r := 3) hz_X12_meansOne_160 rfl
theorem dX12_meansOne_164 : decode cX12_meansOne 164 = .ok (.aload_n 0, 1) := dz_42 (n := 160) (r := 4) hz_X12_meansOne_160 rfl
theorem dX12_meansOne_165 : decode cX12_meansOne 165 = .ok (.getfield 20, 3) := dz_180 (n := 160) (r := 5) hz_X12_meansOne_160 rfl rfl
theorem dX12_meansOne_168 : decode cX12_meansOne 168 = .ok (.iload_n 1, 1) := dz_27 (n := 160) (r := 8) hz_X12_meansOne_160 rfl
theorem dX12_meansOne_169 : decode cX12_meansOne 169 = .ok (.iconst 2, 1) := dz_5 (n := 160) (r := 9) hz_X12_meansOne_160 rfl
theorem dX12_meansOne_170 : decode cX12_meansOne 170 = .ok (.iadd, 1) := dz_96 (n := 160) (r := 10) hz_X12_meansOne_160 rfl
theorem dX12_meansOne_171 : decode cX12_meansOne 171 = .ok (.iaload, 1) := dz_46 (n := 160) (r := 11) hz_X12_meansOne_160 rfl
theorem dX12_meansOne_172 : decode cX12_meansOne 172 = .ok (.bipush 28, 2) := dz_16 (n := 160) (r := 12) hz_X12_meansOne_160 rfl rfl
theorem dX12_meansOne_174 : decode cX12_meansOne 174 = .ok (.if_icmp .ne 7, 3) := dz_160 (n := 160) (r := 14) hz_X12_meansOne_160 rfl (by decide +kernel)
theorem dX12_meansOne_177 : decode cX12_meansOne 177 = .ok (.iconst 1, 1) := dz_4 (n := 160) (r := 17) hz_X12_meansOne_160 rfl
theorem dX12_meansOne_178 : decode cX12_meansOne 178 = .ok (.goto 4, 3) := dz_167 (n := 160) (r := 18) hz_X12_meansOne_160 rfl (by decide +kernel)
theorem dX12_meansOne_181 : decode cX12_meansOne 181 = .ok (.iconst 2, 1) := dz_5 (n := 160) (r := 21) hz_X12_meansOne_160 rfl
theorem dX12_meansOne_182 : decode cX12_meansOne 182 = .ok (.iastore, 1) := dz_79 (n := 160) (r := 22) hz_X12_meansOne_160 rfl
theorem dX12_meansOne_183 : decode cX12_meansOne 183 = .ok (.return_, 1) := dz_177 (n := 160) (r := 23) hz_X12_meansOne_160 rfl
theorem dX12_meansOne_184 : decode cX12_meansOne 184 = .ok (.aload_n 0, 1) := dz_42 (n := 160) (r := 24) hz_X12_meansOne_160 rfl
theorem dX12_meansOne_185 : decode cX12_meansOne 185 = .ok (.iload_n 2, 1) := dz_28 (n := 160) (r := 25) hz_X12_meansOne_160 rfl
theorem dX12_meansOne_186 : decode cX12_meansOne 186 = .ok (.bipush 25, 2) := dz_16 (n := 160) (r := 26) hz_X12_meansOne_160 rfl rfl
theorem dX12_meansOne_188 : decode cX12_meansOne 188 = .ok (.if_icmp .ne 9, 3) := dz_160 (n := 160) (r := 28) hz_X12_meansOne_160 rfl (by decide +kernel)
theorem dX12_meansOne_191 : decode cX12_meansOne 191 = .ok (.iload_n 1, 1) := dz_27 (n := 160) (r := 31) hz_X12_meansOne_160 rfl
theorem hz_X12_meansOne_192 : (cX12_meansOne.data.toList.drop 192).take 40 = [6, 96, 167, 0, 6, 27, 5, 96, 182, 0, 223, 54, 6, 21, 4, 153, 0, 34, 42, 180, 0, 43, 28, 16, 26, 160, 0, 8, 16, 32, 167, 0, 14, 21, 5, 153, 0, 8, 16, 16] := by decide +kernel
theorem dX12_meansOne_192 : decode cX12_meansOne 192 = .ok (.iconst 3, 1) := dz_6 (n := 192) (r := 0) hz_X12_meansOne_192 rfl
theorem dX12_meansOne_193 : decode cX12_meansOne 193 = .ok (.iadd, 1) := dz_96 (n := 192) (r := 1) hz_X12_meansOne_192 rfl
theorem dX12_meansOne_194 : decode cX12_meansOne 194 = .ok (.goto 6, 3) := dz_167 (n := 192) (r := 2) hz_X12_meansOne_192 rfl (by decide +kernel)
theorem dX12_meansOne_197 : decode cX12_meansOne 197 = .ok (.iload_n 1, 1) := dz_27 (n := 192) (r := 5) hz_X12_meansOne_192 rfl
theorem dX12_meansOne_198 : decode cX12_meansOne 198 = .ok (.iconst 2, 1) := dz_5 (n := 192) (r := 6) hz_X12_meansOne_192 rfl
theorem dX12_meansOne_199 : decode cX12_meansOne 199 = .ok (.iadd, 1) := dz_96 (n := 192) (r := 7) hz_X12_meansOne_192 rfl
theorem dX12_meansOne_200 : decode cX12_meansOne 200 = .ok (.invokevirtual 223, 3) := dz_182 (n := 192) (r := 8) hz_X12_meansOne_192 rfl rfl
theorem dX12_meansOne_203 : decode cX12_meansOne 203 = .ok (.istore 6, 2) := dz_54 (n := 192) (r := 11) hz_X12_meansOne_192 rfl rfl
theorem dX12_meansOne_205 : decode cX12_meansOne 205 = .ok (.iload 4, 2) := dz_21 (n := 192) (r := 13) hz_X12_meansOne_192 rfl rfl
theorem dX12_meansOne_207 : decode cX12_meansOne 207 = .ok (.ifCond .eq 34, 3) := dz_153 (n := 192) (r := 15) hz_X12_meansOne_192 rfl (by decide +kernel)
end
