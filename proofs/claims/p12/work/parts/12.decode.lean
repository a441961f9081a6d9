theorem dX10_fallFrom_46 : decode cX10_fallFrom 46 = .ok (.ishl, 1) := dz_120 (n := 32) (r := 14) hz_X10_fallFrom_32 rfl
theorem dX10_fallFrom_47 : decode cX10_fallFrom 47 = .ok (.ixor, 1) := dz_130 (n := 32) (r := 15) hz_X10_fallFrom_32 rfl
theorem dX10_fallFrom_48 : decode cX10_fallFrom 48 = .ok (.putfield 9, 3) := dz_181 (n := 32) (r := 16) hz_X10_fallFrom_32 rfl rfl
theorem dX10_fallFrom_51 : decode cX10_fallFrom 51 = .ok (.aload_n 0, 1) := dz_42 (n := 32) (r := 19) hz_X10_fallFrom_32 rfl
theorem dX10_fallFrom_52 : decode cX10_fallFrom 52 = .ok (.dup, 1) := dz_89 (n := 32) (r := 20) hz_X10_fallFrom_32 rfl
theorem dX10_fallFrom_53 : decode cX10_fallFrom 53 = .ok (.getfield 15, 3) := dz_180 (n := 32) (r := 21) hz_X10_fallFrom_32 rfl rfl
theorem dX10_fallFrom_56 : decode cX10_fallFrom 56 = .ok (.iconst 1, 1) := dz_4 (n := 32) (r := 24) hz_X10_fallFrom_32 rfl
theorem dX10_fallFrom_57 : decode cX10_fallFrom 57 = .ok (.iadd, 1) := dz_96 (n := 32) (r := 25) hz_X10_fallFrom_32 rfl
theorem dX10_fallFrom_58 : decode cX10_fallFrom 58 = .ok (.putfield 15, 3) := dz_181 (n := 32) (r := 26) hz_X10_fallFrom_32 rfl rfl
theorem dX10_fallFrom_61 : decode cX10_fallFrom 61 = .ok (.aload_n 1, 1) := dz_43 (n := 32) (r := 29) hz_X10_fallFrom_32 rfl
theorem dX10_fallFrom_62 : decode cX10_fallFrom 62 = .ok (.aload_n 2, 1) := dz_44 (n := 32) (r := 30) hz_X10_fallFrom_32 rfl
theorem dX10_fallFrom_63 : decode cX10_fallFrom 63 = .ok (.aload_n 0, 1) := dz_42 (n := 32) (r := 31) hz_X10_fallFrom_32 rfl
theorem hz_X10_fallFrom_64 : (cX10_fallFrom.data.toList.drop 64).take 40 = [180, 0, 9, 182, 0, 18, 54, 4, 132, 5, 1, 167, 255, 205, 177] := by decide +kernel
theorem dX10_fallFrom_64 : decode cX10_fallFrom 64 = .ok (.getfield 9, 3) := dz_180 (n := 64) (r := 0) hz_X10_fallFrom_64 rfl rfl
theorem dX10_fallFrom_67 : decode cX10_fallFrom 67 = .ok (.invokevirtual 18, 3) := dz_182 (n := 64) (r := 3) hz_X10_fallFrom_64 rfl rfl
theorem dX10_fallFrom_70 : decode cX10_fallFrom 70 = .ok (.istore 4, 2) := dz_54 (n := 64) (r := 6) hz_X10_fallFrom_64 rfl rfl
theorem dX10_fallFrom_72 : decode cX10_fallFrom 72 = .ok (.iinc 5 1, 3) := dz_132 (n := 64) (r := 8) hz_X10_fallFrom_64 rfl rfl rfl
theorem dX10_fallFrom_75 : decode cX10_fallFrom 75 = .ok (.goto (-51), 3) := dz_167 (n := 64) (r := 11) hz_X10_fallFrom_64 rfl (by decide +kernel)
theorem dX10_fallFrom_78 : decode cX10_fallFrom 78 = .ok (.return_, 1) := dz_177 (n := 64) (r := 14) hz_X10_fallFrom_64 rfl
theorem hz_X10_strollFrom_0 : (cX10_strollFrom.data.toList.drop 0).take 40 = [42, 44, 180, 0, 24, 181, 0, 9, 42, 3, 181, 0, 15, 43, 44, 42, 180, 0, 9, 182, 0, 27, 54, 5, 42, 21, 5, 181, 0, 30, 44, 180, 0, 33, 133, 55, 6, 3, 54, 8] := by decide +kernel
theorem dX10_strollFrom_0 : decode cX10_strollFrom 0 = .ok (.aload_n 0, 1) := dz_42 (n := 0) (r := 0) hz_X10_strollFrom_0 rfl
theorem dX10_strollFrom_1 : decode cX10_strollFrom 1 = .ok (.aload_n 2, 1) := dz_44 (n := 0) (r := 1) hz_X10_strollFrom_0 rfl
theorem dX10_strollFrom_2 : decode cX10_strollFrom 2 = .ok (.getfield 24, 3) := dz_180 (n := 0) (r := 2) hz_X10_strollFrom_0 rfl rfl
theorem dX10_strollFrom_5 : decode cX10_strollFrom 5 = .ok (.putfield 9, 3) := dz_181 (n := 0) (r := 5) hz_X10_strollFrom_0 rfl rfl
theorem dX10_strollFrom_8 : decode cX10_strollFrom 8 = .ok (.aload_n 0, 1) := dz_42 (n := 0) (r := 8) hz_X10_strollFrom_0 rfl
theorem dX10_strollFrom_9 : decode cX10_strollFrom 9 = .ok (.iconst 0, 1) := dz_3 (n := 0) (r := 9) hz_X10_strollFrom_0 rfl
theorem dX10_strollFrom_10 : decode cX10_strollFrom 10 = .ok (.putfield 15, 3) := dz_181 (n := 0) (r := 10) hz_X10_strollFrom_0 rfl rfl
theorem dX10_strollFrom_13 : decode cX10_strollFrom 13 = .ok (.aload_n 1, 1) := dz_43 (n := 0) (r := 13) hz_X10_strollFrom_0 rfl
theorem dX10_strollFrom_14 : decode cX10_strollFrom 14 = .ok (.aload_n 2, 1) := dz_44 (n := 0) (r := 14) hz_X10_strollFrom_0 rfl
theorem dX10_strollFrom_15 : decode cX10_strollFrom 15 = .ok (.aload_n 0, 1) := dz_42 (n := 0) (r := 15) hz_X10_strollFrom_0 rfl
theorem dX10_strollFrom_16 : decode cX10_strollFrom 16 = .ok (.getfield 9, 3) := dz_180 (n := 0) (r := 16) hz_X10_strollFrom_0 rfl rfl
theorem dX10_strollFrom_19 : decode cX10_strollFrom 19 = .ok (.invokevirtual 27, 3) := dz_182 (n := 0) (r := 19) hz_X10_strollFrom_0 rfl rfl
theorem dX10_strollFrom_22 : decode cX10_strollFrom 22 = .ok (.istore 5, 2) := dz_54 (n := 0) (r := 22) hz_X10_strollFrom_0 rfl rfl
theorem dX10_strollFrom_24 : decode cX10_strollFrom 24 = .ok (.aload_n 0, 1) := dz_42 (n := 0) (r := 24) hz_X10_strollFrom_0 rfl
theorem dX10_strollFrom_25 : decode cX10_strollFrom 25 = .ok (.iload 5, 2) := dz_21 (n := 0) (r := 25) hz_X10_strollFrom_0 rfl rfl
theorem dX10_strollFrom_27 : decode cX10_strollFrom 27 = .ok (.putfield 30, 3) := dz_181 (n := 0) (r := 27) hz_X10_strollFrom_0 rfl rfl
theorem dX10_strollFrom_30 : decode cX10_strollFrom 30 = .ok (.aload_n 2, 1) := dz_44 (n := 0) (r := 30) hz_X10_strollFrom_0 rfl
theorem dX10_strollFrom_31 : decode cX10_strollFrom 31 = .ok (.getfield 33, 3) := dz_180 (n := 0) (r := 31) hz_X10_strollFrom_0 rfl rfl
theorem hz_X10_strollFrom_32 : (cX10_strollFrom.data.toList.drop 32).take 40 = [0, 33, 133, 55, 6, 3, 54, 8, 21, 8, 29, 162, 0, 117, 22, 6, 184, 0, 36, 55, 6, 22, 6, 43, 180, 0, 40, 184, 0, 43, 54, 9, 22, 6, 184, 0, 36, 55, 6, 43] := by decide +kernel
theorem dX10_strollFrom_34 : decode cX10_strollFrom 34 = .ok (.i2l, 1) := dz_133 (n := 32) (r := 2) hz_X10_strollFrom_32 rfl
theorem dX10_strollFrom_35 : decode cX10_strollFrom 35 = .ok (.lstore 6, 2) := dz_55 (n := 32) (r := 3) hz_X10_strollFrom_32 rfl rfl
theorem dX10_strollFrom_37 : decode cX10_strollFrom 37 = .ok (.iconst 0, 1) := dz_3 (n := 32) (r := 5) hz_X10_strollFrom_32 rfl
theorem dX10_strollFrom_38 : decode cX10_strollFrom 38 = .ok (.istore 8, 2) := dz_54 (n := 32) (r := 6) hz_X10_strollFrom_32 rfl rfl
theorem dX10_strollFrom_40 : decode cX10_strollFrom 40 = .ok (.iload 8, 2) := dz_21 (n := 32) (r := 8) hz_X10_strollFrom_32 rfl rfl
theorem dX10_strollFrom_42 : decode cX10_strollFrom 42 = .ok (.iload_n 3, 1) := dz_29 (n := 32) (r := 10) hz_X10_strollFrom_32 rfl
theorem dX10_strollFrom_43 : decode cX10_strollFrom 43 = .ok (.if_icmp .ge 117, 3) := dz_162 (n := 32) (r := 11) hz_X10_strollFrom_32 rfl (by decide +kernel)
theorem dX10_strollFrom_46 : decode cX10_strollFrom 46 = .ok (.lload 6, 2) := dz_22 (n := 32) (r := 14) hz_X10_strollFrom_32 rfl rfl
theorem dX10_strollFrom_48 : decode cX10_strollFrom 48 = .ok (.invokestatic 36, 3) := dz_184 (n := 32) (r := 16) hz_X10_strollFrom_32 rfl rfl
theorem dX10_strollFrom_51 : decode cX10_strollFrom 51 = .ok (.lstore 6, 2) := dz_55 (n := 32) (r := 19) hz_X10_strollFrom_32 rfl rfl
theorem dX10_strollFrom_53 : decode cX10_strollFrom 53 = .ok (.lload 6, 2) := dz_22 (n := 32) (r := 21) hz_X10_strollFrom_32 rfl rfl
theorem dX10_strollFrom_55 : decode cX10_strollFrom 55 = .ok (.aload_n 1, 1) := dz_43 (n := 32) (r := 23) hz_X10_strollFrom_32 rfl
theorem dX10_strollFrom_56 : decode cX10_strollFrom 56 = .ok (.getfield 40, 3) := dz_180 (n := 32) (r := 24) hz_X10_strollFrom_32 rfl rfl
theorem dX10_strollFrom_59 : decode cX10_strollFrom 59 = .ok (.invokestatic 43, 3) := dz_184 (n := 32) (r := 27) hz_X10_strollFrom_32 rfl rfl
theorem dX10_strollFrom_62 : decode cX10_strollFrom 62 = .ok (.istore 9, 2) := dz_54 (n := 32) (r := 30) hz_X10_strollFrom_32 rfl rfl
theorem hz_X10_strollFrom_64 : (cX10_strollFrom.data.toList.drop 64).take 40 = [22, 6, 184, 0, 36, 55, 6, 43, 44, 42, 180, 0, 9, 21, 9, 182, 0, 47, 54, 10, 44, 21, 9, 182, 0, 51, 154, 0, 64, 22, 6, 16, 100, 184, 0, 43, 16, 100, 21, 4] := by decide +kernel
theorem dX10_strollFrom_64 : decode cX10_strollFrom 64 = .ok (.lload 6, 2) := dz_22 (n := 64) (r := 0) hz_X10_strollFrom_64 rfl rfl
theorem dX10_strollFrom_66 : decode cX10_strollFrom 66 = .ok (.invokestatic 36, 3) := dz_184 (n := 64) (r := 2) hz_X10_strollFrom_64 rfl rfl
theorem dX10_strollFrom_69 : decode cX10_strollFrom 69 = .ok (.lstore 6, 2) := dz_55 (n := 64) (r := 5) hz_X10_strollFrom_64 rfl rfl
theorem dX10_strollFrom_71 : decode cX10_strollFrom 71 = .ok (.aload_n 1, 1) := dz_43 (n := 64) (r := 7) hz_X10_strollFrom_64 rfl
theorem dX10_strollFrom_72 : decode cX10_strollFrom 72 = .ok (.aload_n 2, 1) := dz_44 (n := 64) (r := 8) hz_X10_strollFrom_64 rfl
theorem dX10_strollFrom_73 : decode cX10_strollFrom 73 = .ok (.aload_n 0, 1) := dz_42 (n := 64) (r := 9) hz_X10_strollFrom_64 rfl
theorem dX10_strollFrom_74 : decode cX10_strollFrom 74 = .ok (.getfield 9, 3) := dz_180 (n := 64) (r := 10) hz_X10_strollFrom_64 rfl rfl
theorem dX10_strollFrom_77 : decode cX10_strollFrom 77 = .ok (.iload 9, 2) := dz_21 (n := 64) (r := 13) hz_X10_strollFrom_64 rfl rfl
theorem dX10_strollFrom_79 : decode cX10_strollFrom 79 = .ok (.invokevirtual 47, 3) := dz_182 (n := 64) (r := 15) hz_X10_strollFrom_64 rfl rfl
theorem dX10_strollFrom_82 : decode cX10_strollFrom 82 = .ok (.istore 10, 2) := dz_54 (n := 64) (r := 18) hz_X10_strollFrom_64 rfl rfl
theorem dX10_strollFrom_84 : decode cX10_strollFrom 84 = .ok (.aload_n 2, 1) := dz_44 (n := 64) (r := 20) hz_X10_strollFrom_64 rfl
theorem dX10_strollFrom_85 : decode cX10_strollFrom 85 = .ok (.iload 9, 2) := dz_21 (n := 64) (r := 21) hz_X10_strollFrom_64 rfl rfl
theorem dX10_strollFrom_87 : decode cX10_strollFrom 87 = .ok (.invokevirtual 51, 3) := dz_182 (n := 64) (r := 23) hz_X10_strollFrom_64 rfl rfl
theorem dX10_strollFrom_90 : decode cX10_strollFrom 90 = .ok (.ifCond .ne 64, 3) := dz_154 (n := 64) (r := 26) hz_X10_strollFrom_64 rfl (by decide +kernel)
theorem dX10_strollFrom_93 : decode cX10_strollFrom 93 = .ok (.lload 6, 2) := dz_22 (n := 64) (r := 29) hz_X10_strollFrom_64 rfl rfl
theorem dX10_strollFrom_95 : decode cX10_strollFrom 95 = .ok (.bipush 100, 2) := dz_16 (n := 64) (r := 31) hz_X10_strollFrom_64 rfl rfl
theorem hz_X10_strollFrom_96 : (cX10_strollFrom.data.toList.drop 96).take 40 = [100, 184, 0, 43, 16, 100, 21, 4, 21, 10, 104, 100, 162, 0, 46, 42, 89, 180, 0, 9, 4, 21, 9, 120, 130, 181, 0, 9, 42, 89, 180, 0, 15, 4, 96, 181, 0, 15, 21, 5] := by decide +kernel
theorem dX10_strollFrom_97 : decode cX10_strollFrom 97 = .ok (.invokestatic 43, 3) := dz_184 (n := 96) (r := 1) hz_X10_strollFrom_96 rfl rfl
theorem dX10_strollFrom_100 : decode cX10_strollFrom 100 = .ok (.bipush 100, 2) := dz_16 (n := 96) (r := 4) hz_X10_strollFrom_96 rfl rfl
theorem dX10_strollFrom_102 : decode cX10_strollFrom 102 = .ok (.iload 4, 2) := dz_21 (n := 96) (r := 6) hz_X10_strollFrom_96 rfl rfl
theorem dX10_strollFrom_104 : decode cX10_strollFrom 104 = .ok (.iload 10, 2) := dz_21 (n := 96) (r := 8) hz_X10_strollFrom_96 rfl rfl
theorem dX10_strollFrom_106 : decode cX10_strollFrom 106 = .ok (.imul, 1) := dz_104 (n := 96) (r := 10) hz_X10_strollFrom_96 rfl
theorem dX10_strollFrom_107 : decode cX10_strollFrom 107 = .ok (.isub, 1) := dz_100 (n := 96) (r := 11) hz_X10_strollFrom_96 rfl
theorem dX10_strollFrom_108 : decode cX10_strollFrom 108 = .ok (.if_icmp .ge 46, 3) := dz_162 (n := 96) (r := 12) hz_X10_strollFrom_96 rfl (by decide +kernel)
theorem dX10_strollFrom_111 : decode cX10_strollFrom 111 = .ok (.aload_n 0, 1) := dz_42 (n := 96) (r := 15) hz_X10_strollFrom_96 rfl
theorem dX10_strollFrom_112 : decode cX10_strollFrom 112 = .ok (.dup, 1) := dz_89 (n := 96) (r := 16) hz_X10_strollFrom_96 rfl
theorem dX10_strollFrom_113 : decode cX10_strollFrom 113 = .ok (.getfield 9, 3) := dz_180 (n := 96) (r := 17) hz_X10_strollFrom_96 rfl rfl
theorem dX10_strollFrom_116 : decode cX10_strollFrom 116 = .ok (.iconst 1, 1) := dz_4 (n := 96) (r := 20) hz_X10_strollFrom_96 rfl
theorem dX10_strollFrom_117 : decode cX10_strollFrom 117 = .ok (.iload 9, 2) := dz_21 (n := 96) (r := 21) hz_X10_strollFrom_96 rfl rfl
theorem dX10_strollFrom_119 : decode cX10_strollFrom 119 = .ok (.ishl, 1) := dz_120 (n := 96) (r := 23) hz_X10_strollFrom_96 rfl
theorem dX10_strollFrom_120 : decode cX10_strollFrom 120 = .ok (.ixor, 1) := dz_130 (n := 96) (r := 24) hz_X10_strollFrom_96 rfl
theorem dX10_strollFrom_121 : decode cX10_strollFrom 121 = .ok (.putfield 9, 3) := dz_181 (n := 96) (r := 25) hz_X10_strollFrom_96 rfl rfl
theorem dX10_strollFrom_124 : decode cX10_strollFrom 124 = .ok (.aload_n 0, 1) := dz_42 (n := 96) (r := 28) hz_X10_strollFrom_96 rfl
theorem dX10_strollFrom_125 : decode cX10_strollFrom 125 = .ok (.dup, 1) := dz_89 (n := 96) (r := 29) hz_X10_strollFrom_96 rfl
theorem dX10_strollFrom_126 : decode cX10_strollFrom 126 = .ok (.getfield 15, 3) := dz_180 (n := 96) (r := 30) hz_X10_strollFrom_96 rfl rfl
theorem hz_X10_strollFrom_128 : (cX10_strollFrom.data.toList.drop 128).take 40 = [15, 4, 96, 181, 0, 15, 21, 5, 21, 10, 96, 54, 5, 42, 42, 180, 0, 30, 21, 5, 184, 0, 55, 181, 0, 30, 132, 8, 1, 167, 255, 139, 177] := by decide +kernel
theorem dX10_strollFrom_129 : decode cX10_strollFrom 129 = .ok (.iconst 1, 1) := dz_4 (n := 128) (r := 1) hz_X10_strollFrom_128 rfl
theorem dX10_strollFrom_130 : decode cX10_strollFrom 130 = .ok (.iadd, 1) := dz_96 (n := 128) (r := 2) hz_X10_strollFrom_128 rfl
theorem dX10_strollFrom_131 : decode cX10_strollFrom 131 = .ok (.putfield 15, 3) := dz_181 (n := 128) (r := 3) hz_X10_strollFrom_128 rfl rfl
theorem dX10_strollFrom_134 : decode cX10_strollFrom 134 = .ok (.iload 5, 2) := dz_21 (n := 128) (r := 6) hz_X10_strollFrom_128 rfl rfl
theorem dX10_strollFrom_136 : decode cX10_strollFrom 136 = .ok (.iload 10, 2) := dz_21 (n := 128) (r := 8) hz_X10_strollFrom_128 rfl rfl
theorem dX10_strollFrom_138 : decode cX10_strollFrom 138 = .ok (.iadd, 1) := dz_96 (n := 128) (r := 10) hz_X10_strollFrom_128 rfl
theorem dX10_strollFrom_139 : decode cX10_strollFrom 139 = .ok (.istore 5, 2) := dz_54 (n := 128) (r := 11) hz_X10_strollFrom_128 rfl rfl
theorem dX10_strollFrom_141 : decode cX10_strollFrom 141 = .ok (.aload_n 0, 1) := dz_42 (n := 128) (r := 13) hz_X10_strollFrom_128 rfl
theorem dX10_strollFrom_142 : decode cX10_strollFrom 142 = .ok (.aload_n 0, 1) := dz_42 (n := 128) (r := 14) hz_X10_strollFrom_128 rfl
theorem dX10_strollFrom_143 : decode cX10_strollFrom 143 = .ok (.getfield 30, 3) := dz_180 (n := 128) (r := 15) hz_X10_strollFrom_128 rfl rfl
theorem dX10_strollFrom_146 : decode cX10_strollFrom 146 = .ok (.iload 5, 2) := dz_21 (n := 128) (r := 18) hz_X10_strollFrom_128 rfl rfl
theorem dX10_strollFrom_148 : decode cX10_strollFrom 148 = .ok (.invokestatic 55, 3) := dz_184 (n := 128) (r := 20) hz_X10_strollFrom_128 rfl rfl
theorem dX10_strollFrom_151 : decode cX10_strollFrom 151 = .ok (.putfield 30, 3) := dz_181 (n := 128) (r := 23) hz_X10_strollFrom_128 rfl rfl
theorem dX10_strollFrom_154 : decode cX10_strollFrom 154 = .ok (.iinc 8 1, 3) := dz_132 (n := 128) (r := 26) hz_X10_strollFrom_128 rfl rfl rfl
theorem dX10_strollFrom_157 : decode cX10_strollFrom 157 = .ok (.goto (-117), 3) := dz_167 (n := 128) (r := 29) hz_X10_strollFrom_128 rfl (by decide +kernel)
theorem hz_X10_strollFrom_160 : (cX10_strollFrom.data.toList.drop 160).take 40 = [177] := by decide +kernel
theorem dX10_strollFrom_160 : decode cX10_strollFrom 160 = .ok (.return_, 1) := dz_177 (n := 160) (r := 0) hz_X10_strollFrom_160 rfl
theorem hz_X11_init_0 : (cX11_init.data.toList.drop 0).take 40 = [42, 183, 0, 3, 42, 187, 0, 9, 89, 183, 0, 11, 181, 0, 12, 42, 42, 180, 0, 12, 180, 0, 16, 181, 0, 20, 42, 187, 0, 21, 89, 183, 0, 23, 181, 0, 24, 42, 187, 0] := by decide +kernel
theorem dX11_init_0 : decode cX11_init 0 = .ok (.aload_n 0, 1) := dz_42 (n := 0) (r := 0) hz_X11_init_0 rfl
theorem dX11_init_1 : decode cX11_init 1 = .ok (.invokespecial 3, 3) := dz_183 (n := 0) (r := 1) hz_X11_init_0 rfl rfl
theorem dX11_init_4 : decode cX11_init 4 = .ok (.aload_n 0, 1) := dz_42 (n := 0) (r := 4) hz_X11_init_0 rfl
theorem dX11_init_5 : decode cX11_init 5 = .ok (.new 9, 3) := dz_187 (n := 0) (r := 5) hz_X11_init_0 rfl rfl
theorem dX11_init_8 : decode cX11_init 8 = .ok (.dup, 1) := dz_89 (n := 0) (r := 8) hz_X11_init_0 rfl
theorem dX11_init_9 : decode cX11_init 9 = .ok (.invokespecial 11, 3) := dz_183 (n := 0) (r := 9) hz_X11_init_0 rfl rfl
theorem dX11_init_12 : decode cX11_init 12 = .ok (.putfield 12, 3) := dz_181 (n := 0) (r := 12) hz_X11_init_0 rfl rfl
theorem dX11_init_15 : decode cX11_init 15 = .ok (.aload_n 0, 1) := dz_42 (n := 0) (r := 15) hz_X11_init_0 rfl
theorem dX11_init_16 : decode cX11_init 16 = .ok (.aload_n 0, 1) := dz_42 (n := 0) (r := 16) hz_X11_init_0 rfl
theorem dX11_init_17 : decode cX11_init 17 = .ok (.getfield 12, 3) := dz_180 (n := 0) (r := 17) hz_X11_init_0 rfl rfl
theorem dX11_init_20 : decode cX11_init 20 = .ok (.getfield 16, 3) := dz_180 (n := 0) (r := 20) hz_X11_init_0 rfl rfl
theorem dX11_init_23 : decode cX11_init 23 = .ok (.putfield 20, 3) := dz_181 (n := 0) (r := 23) hz_X11_init_0 rfl rfl
theorem dX11_init_26 : decode cX11_init 26 = .ok (.aload_n 0, 1) := dz_42 (n := 0) (r := 26) hz_X11_init_0 rfl
theorem dX11_init_27 : decode cX11_init 27 = .ok (.new 21, 3) := dz_187 (n := 0) (r := 27) hz_X11_init_0 rfl rfl
theorem dX11_init_30 : decode cX11_init 30 = .ok (.dup, 1) := dz_89 (n := 0) (r := 30) hz_X11_init_0 rfl
theorem dX11_init_31 : decode cX11_init 31 = .ok (.invokespecial 23, 3) := dz_183 (n := 0) (r := 31) hz_X11_init_0 rfl rfl
theorem hz_X11_init_32 : (cX11_init.data.toList.drop 32).take 40 = [0, 23, 181, 0, 24, 42, 187, 0, 28, 89, 183, 0, 30, 181, 0, 31, 42, 187, 0, 35, 89, 183, 0, 37, 181, 0, 38, 42, 6, 189, 0, 42, 181, 0, 44, 3, 60, 27, 42, 180] := by decide +kernel
theorem dX11_init_34 : decode cX11_init 34 = .ok (.putfield 24, 3) := dz_181 (n := 32) (r := 2) hz_X11_init_32 rfl rfl
theorem dX11_init_37 : decode cX11_init 37 = .ok (.aload_n 0, 1) := dz_42 (n := 32) (r := 5) hz_X11_init_32 rfl
theorem dX11_init_38 : decode cX11_init 38 = .ok (.new 28, 3) := dz_187 (n := 32) (r := 6) hz_X11_init_32 rfl rfl
theorem dX11_init_41 : decode cX11_init 41 = .ok (.dup, 1) := dz_89 (n := 32) (r := 9) hz_X11_init_32 rfl
theorem dX11_init_42 : decode cX11_init 42 = .ok (.invokespecial 30, 3) := dz_183 (n := 32) (r := 10) hz_X11_init_32 rfl rfl
theorem dX11_init_45 : decode cX11_init 45 = .ok (.putfield 31, 3) := dz_181 (n := 32) (r := 13) hz_X11_init_32 rfl rfl
theorem dX11_init_48 : decode cX11_init 48 = .ok (.aload_n 0, 1) := dz_42 (n := 32) (r := 16) hz_X11_init_32 rfl
theorem dX11_init_49 : decode cX11_init 49 = .ok (.new 35, 3) := dz_187 (n := 32) (r := 17) hz_X11_init_32 rfl rfl
theorem dX11_init_52 : decode cX11_init 52 = .ok (.dup, 1) := dz_89 (n := 32) (r := 20) hz_X11_init_32 rfl
theorem dX11_init_53 : decode cX11_init 53 = .ok (.invokespecial 37, 3) := dz_183 (n := 32) (r := 21) hz_X11_init_32 rfl rfl
theorem dX11_init_56 : decode cX11_init 56 = .ok (.putfield 38, 3) := dz_181 (n := 32) (r := 24) hz_X11_init_32 rfl rfl
theorem dX11_init_59 : decode cX11_init 59 = .ok (.aload_n 0, 1) := dz_42 (n := 32) (r := 27) hz_X11_init_32 rfl
theorem dX11_init_60 : decode cX11_init 60 = .ok (.iconst 3, 1) := dz_6 (n := 32) (r := 28) hz_X11_init_32 rfl
theorem dX11_init_61 : decode cX11_init 61 = .ok (.anewarray 42, 3) := dz_189 (n := 32) (r := 29) hz_X11_init_32 rfl rfl
theorem hz_X11_init_64 : (cX11_init.data.toList.drop 64).take 40 = [181, 0, 44, 3, 60, 27, 42, 180, 0, 44, 190, 162, 0, 22, 42, 180, 0, 44, 27, 187, 0, 42, 89, 183, 0, 48, 83, 132, 1, 1, 167, 255, 231, 42, 187, 0, 49, 89, 183, 0] := by decide +kernel
theorem dX11_init_64 : decode cX11_init 64 = .ok (.putfield 44, 3) := dz_181 (n := 64) (r := 0) hz_X11_init_64 rfl rfl
theorem dX11_init_67 : decode cX11_init 67 = .ok (.iconst 0, 1) := dz_3 (n := 64) (r := 3) hz_X11_init_64 rfl
theorem dX11_init_68 : decode cX11_init 68 = .ok (.istore_n 1, 1) := dz_60 (n := 64) (r := 4) hz_X11_init_64 rfl
theorem dX11_init_69 : decode cX11_init 69 = .ok (.iload_n 1, 1) := dz_27 (n := 64) (r := 5) hz_X11_init_64 rfl
theorem dX11_init_70 : decode cX11_init 70 = .ok (.aload_n 0, 1) := dz_42 (n := 64) (r := 6) hz_X11_init_64 rfl
theorem dX11_init_71 : decode cX11_init 71 = .ok (.getfield 44, 3) := dz_180 (n := 64) (r := 7) hz_X11_init_64 rfl rfl
theorem dX11_init_74 : decode cX11_init 74 = .ok (.arraylength, 1) := dz_190 (n := 64) (r := 10) hz_X11_init_64 rfl
theorem dX11_init_75 : decode cX11_init 75 = .ok (.if_icmp .ge 22, 3) := dz_162 (n := 64) (r := 11) hz_X11_init_64 rfl (by decide +kernel)
theorem dX11_init_78 : decode cX11_init 78 = .ok (.aload_n 0, 1) := dz_42 (n := 64) (r := 14) hz_X11_init_64 rfl
theorem dX11_init_79 : decode cX11_init 79 = .ok (.getfield 44, 3) := dz_180 (n := 64) (r := 15) hz_X11_init_64 rfl rfl
theorem dX11_init_82 : decode cX11_init 82 = .ok (.iload_n 1, 1) := dz_27 (n := 64) (r := 18) hz_X11_init_64 rfl
theorem dX11_init_83 : decode cX11_init 83 = .ok (.new 42, 3) := dz_187 (n := 64) (r := 19) hz_X11_init_64 rfl rfl
theorem dX11_init_86 : decode cX11_init 86 = .ok (.dup, 1) := dz_89 (n := 64) (r := 22) hz_X11_init_64 rfl
theorem dX11_init_87 : decode cX11_init 87 = .ok (.invokespecial 48, 3) := dz_183 (n := 64) (r := 23) hz_X11_init_64 rfl rfl
theorem dX11_init_90 : decode cX11_init 90 = .ok (.aastore, 1) := dz_83 (n := 64) (r := 26) hz_X11_init_64 rfl
theorem dX11_init_91 : decode cX11_init 91 = .ok (.iinc 1 1, 3) := dz_132 (n := 64) (r := 27) hz_X11_init_64 rfl rfl rfl
theorem dX11_init_94 : decode cX11_init 94 = .ok (.goto (-25), 3) := dz_167 (n := 64) (r := 30) hz_X11_init_64 rfl (by decide +kernel)
theorem hz_X11_init_96 : (cX11_init.data.toList.drop 96).take 40 = [231, 42, 187, 0, 49, 89, 183, 0, 51, 181, 0, 52, 42, 187, 0, 49, 89, 183, 0, 51, 181, 0, 56, 42, 187, 0, 59, 89, 183, 0, 61, 181, 0, 62, 42, 187, 0, 66, 89, 183] := by decide +kernel
theorem dX11_init_97 : decode cX11_init 97 = .ok (.aload_n 0, 1) := dz_42 (n := 96) (r := 1) hz_X11_init_96 rfl
theorem dX11_init_98 : decode cX11_init 98 = .ok (.new 49, 3) := dz_187 (n := 96) (r := 2) hz_X11_init_96 rfl rfl
theorem dX11_init_101 : decode cX11_init 101 = .ok (.dup, 1) := dz_89 (n := 96) (r := 5) hz_X11_init_96 rfl
theorem dX11_init_102 : decode cX11_init 102 = .ok (.invokespecial 51, 3) := dz_183 (n := 96) (r := 6) hz_X11_init_96 rfl rfl
theorem dX11_init_105 : decode cX11_init 105 = .ok (.putfield 52, 3) := dz_181 (n := 96) (r := 9) hz_X11_init_96 rfl rfl
theorem dX11_init_108 : decode cX11_init 108 = .ok (.aload_n 0, 1) := dz_42 (n := 96) (r := 12) hz_X11_init_96 rfl
theorem dX11_init_109 : decode cX11_init 109 = .ok (.new 49, 3) := dz_187 (n := 96) (r := 13) hz_X11_init_96 rfl rfl
theorem dX11_init_112 : decode cX11_init 112 = .ok (.dup, 1) := dz_89 (n := 96) (r := 16) hz_X11_init_96 rfl
theorem dX11_init_113 : decode cX11_init 113 = .ok (.invokespecial 51, 3) := dz_183 (n := 96) (r := 17) hz_X11_init_96 rfl rfl
theorem dX11_init_116 : decode cX11_init 116 = .ok (.putfield 56, 3) := dz_181 (n := 96) (r := 20) hz_X11_init_96 rfl rfl
theorem dX11_init_119 : decode cX11_init 119 = .ok (.aload_n 0, 1) := dz_42 (n := 96) (r := 23) hz_X11_init_96 rfl
theorem dX11_init_120 : decode cX11_init 120 = .ok (.new 59, 3) := dz_187 (n := 96) (r := 24) hz_X11_init_96 rfl rfl
theorem dX11_init_123 : decode cX11_init 123 = .ok (.dup, 1) := dz_89 (n := 96) (r := 27) hz_X11_init_96 rfl
theorem dX11_init_124 : decode cX11_init 124 = .ok (.invokespecial 61, 3) := dz_183 (n := 96) (r := 28) hz_X11_init_96 rfl rfl
theorem dX11_init_127 : decode cX11_init 127 = .ok (.putfield 62, 3) := dz_181 (n := 96) (r := 31) hz_X11_init_96 rfl rfl
theorem hz_X11_init_128 : (cX11_init.data.toList.drop 128).take 40 = [0, 62, 42, 187, 0, 66, 89, 183, 0, 68, 181, 0, 69, 42, 187, 0, 73, 89, 183, 0, 75, 181, 0, 76, 42, 187, 0, 80, 89, 183, 0, 82, 181, 0, 83, 42, 17, 2, 65, 188] := by decide +kernel
theorem dX11_init_130 : decode cX11_init 130 = .ok (.aload_n 0, 1) := dz_42 (n := 128) (r := 2) hz_X11_init_128 rfl
theorem dX11_init_131 : decode cX11_init 131 = .ok (.new 66, 3) := dz_187 (n := 128) (r := 3) hz_X11_init_128 rfl rfl
theorem dX11_init_134 : decode cX11_init 134 = .ok (.dup, 1) := dz_89 (n := 128) (r := 6) hz_X11_init_128 rfl
theorem dX11_init_135 : decode cX11_init 135 = .ok (.invokespecial 68, 3) := dz_183 (n := 128) (r := 7) hz_X11_init_128 rfl rfl
theorem dX11_init_138 : decode cX11_init 138 = .ok (.putfield 69, 3) := dz_181 (n := 128) (r := 10) hz_X11_init_128 rfl rfl
theorem dX11_init_141 : decode cX11_init 141 = .ok (.aload_n 0, 1) := dz_42 (n := 128) (r := 13) hz_X11_init_128 rfl
theorem dX11_init_142 : decode cX11_init 142 = .ok (.new 73, 3) := dz_187 (n := 128) (r := 14) hz_X11_init_128 rfl rfl
theorem dX11_init_145 : decode cX11_init 145 = .ok (.dup, 1) := dz_89 (n := 128) (r := 17) hz_X11_init_128 rfl
theorem dX11_init_146 : decode cX11_init 146 = .ok (.invokespecial 75, 3) := dz_183 (n := 128) (r := 18) hz_X11_init_128 rfl rfl
theorem dX11_init_149 : decode cX11_init 149 = .ok (.putfield 76, 3) := dz_181 (n := 128) (r := 21) hz_X11_init_128 rfl rfl
theorem dX11_init_152 : decode cX11_init 152 = .ok (.aload_n 0, 1) := dz_42 (n := 128) (r := 24) hz_X11_init_128 rfl
theorem dX11_init_153 : decode cX11_init 153 = .ok (.new 80, 3) := dz_187 (n := 128) (r := 25) hz_X11_init_128 rfl rfl
theorem dX11_init_156 : decode cX11_init 156 = .ok (.dup, 1) := dz_89 (n := 128) (r := 28) hz_X11_init_128 rfl
theorem dX11_init_157 : decode cX11_init 157 = .ok (.invokespecial 82, 3) := dz_183 (n := 128) (r := 29) hz_X11_init_128 rfl rfl
theorem hz_X11_init_160 : (cX11_init.data.toList.drop 160).take 40 = [181, 0, 83, 42, 17, 2, 65, 188, 11, 181, 0, 87, 42, 17, 1, 0, 188, 10, 181, 0, 91, 42, 2, 181, 0, 95, 42, 3, 181, 0, 99, 177] := by decide +kernel
theorem dX11_init_160 : decode cX11_init 160 = .ok (.putfield 83, 3) := dz_181 (n := 160) (r := 0) hz_X11_init_160 rfl rfl
theorem dX11_init_163 : decode cX11_init 163 = .ok (.aload_n 0, 1) := dz_42 (n := 160) (r := 3) hz_X11_init_160 rfl
theorem dX11_init_164 : decode cX11_init 164 = .ok (.sipush 577, 3) := dz_17 (n := 160) (r := 4) hz_X11_init_160 rfl (by decide +kernel)
theorem dX11_init_167 : decode cX11_init 167 = .ok (.newarray .long, 2) := dz_188_11 (n := 160) (r := 7) hz_X11_init_160 rfl
theorem dX11_init_169 : decode cX11_init 169 = .ok (.putfield 87, 3) := dz_181 (n := 160) (r := 9) hz_X11_init_160 rfl rfl
theorem dX11_init_172 : decode cX11_init 172 = .ok (.aload_n 0, 1) := dz_42 (n := 160) (r := 12) hz_X11_init_160 rfl
theorem dX11_init_173 : decode cX11_init 173 = .ok (.sipush 256, 3) := dz_17 (n := 160) (r := 13) hz_X11_init_160 rfl (by decide +kernel)
theorem dX11_init_176 : decode cX11_init 176 = .ok (.newarray .int, 2) := dz_188_10 (n := 160) (r := 16) hz_X11_init_160 rfl
theorem dX11_init_178 : decode cX11_init 178 = .ok (.putfield 91, 3) := dz_181 (n := 160) (r := 18) hz_X11_init_160 rfl rfl
theorem dX11_init_181 : decode cX11_init 181 = .ok (.aload_n 0, 1) := dz_42 (n := 160) (r := 21) hz_X11_init_160 rfl
theorem dX11_init_182 : decode cX11_init 182 = .ok (.iconst (-1), 1) := dz_2 (n := 160) (r := 22) hz_X11_init_160 rfl
theorem dX11_init_183 : decode cX11_init 183 = .ok (.putfield 95, 3) := dz_181 (n := 160) (r := 23) hz_X11_init_160 rfl rfl
theorem dX11_init_186 : decode cX11_init 186 = .ok (.aload_n 0, 1) := dz_42 (n := 160) (r := 26) hz_X11_init_160 rfl
theorem dX11_init_187 : decode cX11_init 187 = .ok (.iconst 0, 1) := dz_3 (n := 160) (r := 27) hz_X11_init_160 rfl
theorem dX11_init_188 : decode cX11_init 188 = .ok (.putfield 99, 3) := dz_181 (n := 160) (r := 28) hz_X11_init_160 rfl rfl
theorem dX11_init_191 : decode cX11_init 191 = .ok (.return_, 1) := dz_177 (n := 160) (r := 31) hz_X11_init_160 rfl
theorem hz_X11_feed_0 : (cX11_feed.data.toList.drop 0).take 40 = [42, 180, 0, 20, 180, 0, 102, 16, 20, 96, 17, 7, 208, 164, 0, 5, 2, 172, 42, 180, 0, 20, 27, 182, 0, 107, 42, 180, 0, 20, 28, 182, 0, 107, 42, 180, 0, 20, 29, 182] := by decide +kernel
theorem dX11_feed_0 : decode cX11_feed 0 = .ok (.aload_n 0, 1) := dz_42 (n := 0) (r := 0) hz_X11_feed_0 rfl
theorem dX11_feed_1 : decode cX11_feed 1 = .ok (.getfield 20, 3) := dz_180 (n := 0) (r := 1) hz_X11_feed_0 rfl rfl
theorem dX11_feed_4 : decode cX11_feed 4 = .ok (.getfield 102, 3) := dz_180 (n := 0) (r := 4) hz_X11_feed_0 rfl rfl
theorem dX11_feed_7 : decode cX11_feed 7 = .ok (.bipush 20, 2) := dz_16 (n := 0) (r := 7) hz_X11_feed_0 rfl rfl
theorem dX11_feed_9 : decode cX11_feed 9 = .ok (.iadd, 1) := dz_96 (n := 0) (r := 9) hz_X11_feed_0 rfl
theorem dX11_feed_10 : decode cX11_feed 10 = .ok (.sipush 2000, 3) := dz_17 (n := 0) (r := 10) hz_X11_feed_0 rfl (by decide +kernel)
theorem dX11_feed_13 : decode cX11_feed 13 = .ok (.if_icmp .le 5, 3) := dz_164 (n := 0) (r := 13) hz_X11_feed_0 rfl (by decide +kernel)
theorem dX11_feed_16 : decode cX11_feed 16 = .ok (.iconst (-1), 1) := dz_2 (n := 0) (r := 16) hz_X11_feed_0 rfl
theorem dX11_feed_17 : decode cX11_feed 17 = .ok (.ireturn, 1) := dz_172 (n := 0) (r := 17) hz_X11_feed_0 rfl
theorem dX11_feed_18 : decode cX11_feed 18 = .ok (.aload_n 0, 1) := dz_42 (n := 0) (r := 18) hz_X11_feed_0 rfl
theorem dX11_feed_19 : decode cX11_feed 19 = .ok (.getfield 20, 3) := dz_180 (n := 0) (r := 19) hz_X11_feed_0 rfl rfl
theorem dX11_feed_22 : decode cX11_feed 22 = .ok (.iload_n 1, 1) := dz_27 (n := 0) (r := 22) hz_X11_feed_0 rfl
theorem dX11_feed_23 : decode cX11_feed 23 = .ok (.invokevirtual 107, 3) := dz_182 (n := 0) (r := 23) hz_X11_feed_0 rfl rfl
theorem dX11_feed_26 : decode cX11_feed 26 = .ok (.aload_n 0, 1) := dz_42 (n := 0) (r := 26) hz_X11_feed_0 rfl
theorem dX11_feed_27 : decode cX11_feed 27 = .ok (.getfield 20, 3) := dz_180 (n := 0) (r := 27) hz_X11_feed_0 rfl rfl
theorem dX11_feed_30 : decode cX11_feed 30 = .ok (.iload_n 2, 1) := dz_28 (n := 0) (r := 30) hz_X11_feed_0 rfl
theorem dX11_feed_31 : decode cX11_feed 31 = .ok (.invokevirtual 107, 3) := dz_182 (n := 0) (r := 31) hz_X11_feed_0 rfl rfl
theorem hz_X11_feed_32 : (cX11_feed.data.toList.drop 32).take 40 = [0, 107, 42, 180, 0, 20, 29, 182, 0, 107, 42, 180, 0, 20, 21, 4, 182, 0, 107, 42, 180, 0, 20, 21, 5, 182, 0, 107, 42, 180, 0, 20, 180, 0, 102, 172] := by decide +kernel
theorem dX11_feed_34 : decode cX11_feed 34 = .ok (.aload_n 0, 1) := dz_42 (n := 32) (r := 2) hz_X11_feed_32 rfl
theorem dX11_feed_35 : decode cX11_feed 35 = .ok (.getfield 20, 3) := dz_180 (n := 32) (r := 3) hz_X11_feed_32 rfl rfl
theorem dX11_feed_38 : decode cX11_feed 38 = .ok (.iload_n 3, 1) := dz_29 (n := 32) (r := 6) hz_X11_feed_32 rfl
theorem dX11_feed_39 : decode cX11_feed 39 = .ok (.invokevirtual 107, 3) := dz_182 (n := 32) (r := 7) hz_X11_feed_32 rfl rfl
theorem dX11_feed_42 : decode cX11_feed 42 = .ok (.aload_n 0, 1) := dz_42 (n := 32) (r := 10) hz_X11_feed_32 rfl
theorem dX11_feed_43 : decode cX11_feed 43 = .ok (.getfield 20, 3) := dz_180 (n := 32) (r := 11) hz_X11_feed_32 rfl rfl
theorem dX11_feed_46 : decode cX11_feed 46 = .ok (.iload 4, 2) := dz_21 (n := 32) (r := 14) hz_X11_feed_32 rfl rfl
theorem dX11_feed_48 : decode cX11_feed 48 = .ok (.invokevirtual 107, 3) := dz_182 (n := 32) (r := 16) hz_X11_feed_32 rfl rfl
theorem dX11_feed_51 : decode cX11_feed 51 = .ok (.aload_n 0, 1) := dz_42 (n := 32) (r := 19) hz_X11_feed_32 rfl
theorem dX11_feed_52 : decode cX11_feed 52 = .ok (.getfield 20, 3) := dz_180 (n := 32) (r := 20) hz_X11_feed_32 rfl rfl
theorem dX11_feed_55 : decode cX11_feed 55 = .ok (.iload 5, 2) := dz_21 (n := 32) (r := 23) hz_X11_feed_32 rfl rfl
theorem dX11_feed_57 : decode cX11_feed 57 = .ok (.invokevirtual 107, 3) := dz_182 (n := 32) (r := 25) hz_X11_feed_32 rfl rfl
theorem dX11_feed_60 : decode cX11_feed 60 = .ok (.aload_n 0, 1) := dz_42 (n := 32) (r := 28) hz_X11_feed_32 rfl
theorem dX11_feed_61 : decode cX11_feed 61 = .ok (.getfield 20, 3) := dz_180 (n := 32) (r := 29) hz_X11_feed_32 rfl rfl
theorem hz_X11_feed_64 : (cX11_feed.data.toList.drop 64).take 40 = [180, 0, 102, 172] := by decide +kernel
theorem dX11_feed_64 : decode cX11_feed 64 = .ok (.getfield 102, 3) := dz_180 (n := 64) (r := 0) hz_X11_feed_64 rfl rfl
theorem dX11_feed_67 : decode cX11_feed 67 = .ok (.ireturn, 1) := dz_172 (n := 64) (r := 3) hz_X11_feed_64 rfl
theorem hz_X11_back_0 : (cX11_back.data.toList.drop 0).take 40 = [27, 155, 0, 14, 27, 42, 180, 0, 20, 180, 0, 102, 164, 0, 5, 2, 172, 42, 180, 0, 20, 89, 180, 0, 102, 27, 100, 181, 0, 102, 42, 180, 0, 20, 180, 0, 102, 172] := by decide +kernel
theorem dX11_back_0 : decode cX11_back 0 = .ok (.iload_n 1, 1) := dz_27 (n := 0) (r := 0) hz_X11_back_0 rfl
theorem dX11_back_1 : decode cX11_back 1 = .ok (.ifCond .lt 14, 3) := dz_155 (n := 0) (r := 1) hz_X11_back_0 rfl (by decide +kernel)
theorem dX11_back_4 : decode cX11_back 4 = .ok (.iload_n 1, 1) := dz_27 (n := 0) (r := 4) hz_X11_back_0 rfl
theorem dX11_back_5 : decode cX11_back 5 = .ok (.aload_n 0, 1) := dz_42 (n := 0) (r := 5) hz_X11_back_0 rfl
theorem dX11_back_6 : decode cX11_back 6 = .ok (.getfield 20, 3) := dz_180 (n := 0) (r := 6) hz_X11_back_0 rfl rfl
theorem dX11_back_9 : decode cX11_back 9 = .ok (.getfield 102, 3) := dz_180 (n := 0) (r := 9) hz_X11_back_0 rfl rfl
theorem dX11_back_12 : decode cX11_back 12 = .ok (.if_icmp .le 5, 3) := dz_164 (n := 0) (r := 12) hz_X11_back_0 rfl (by decide +kernel)
theorem dX11_back_15 : decode cX11_back 15 = .ok (.iconst (-1), 1) := dz_2 (n := 0) (r := 15) hz_X11_back_0 rfl
theorem dX11_back_16 : decode cX11_back 16 = .ok (.ireturn, 1) := dz_172 (n := 0) (r := 16) hz_X11_back_0 rfl
theorem dX11_back_17 : decode cX11_back 17 = .ok (.aload_n 0, 1) := dz_42 (n := 0) (r := 17) hz_X11_back_0 rfl
theorem dX11_back_18 : decode cX11_back 18 = .ok (.getfield 20, 3) := dz_180 (n := 0) (r := 18) hz_X11_back_0 rfl rfl
theorem dX11_back_21 : decode cX11_back 21 = .ok (.dup, 1) := dz_89 (n := 0) (r := 21) hz_X11_back_0 rfl
theorem dX11_back_22 : decode cX11_back 22 = .ok (.getfield 102, 3) := dz_180 (n := 0) (r := 22) hz_X11_back_0 rfl rfl
theorem dX11_back_25 : decode cX11_back 25 = .ok (.iload_n 1, 1) := dz_27 (n := 0) (r := 25) hz_X11_back_0 rfl
theorem dX11_back_26 : decode cX11_back 26 = .ok (.isub, 1) := dz_100 (n := 0) (r := 26) hz_X11_back_0 rfl
theorem dX11_back_27 : decode cX11_back 27 = .ok (.putfield 102, 3) := dz_181 (n := 0) (r := 27) hz_X11_back_0 rfl rfl
theorem dX11_back_30 : decode cX11_back 30 = .ok (.aload_n 0, 1) := dz_42 (n := 0) (r := 30) hz_X11_back_0 rfl
theorem dX11_back_31 : decode cX11_back 31 = .ok (.getfield 20, 3) := dz_180 (n := 0) (r := 31) hz_X11_back_0 rfl rfl
theorem hz_X11_back_32 : (cX11_back.data.toList.drop 32).take 40 = [0, 20, 180, 0, 102, 172] := by decide +kernel
theorem dX11_back_34 : decode cX11_back 34 = .ok (.getfield 102, 3) := dz_180 (n := 32) (r := 2) hz_X11_back_32 rfl rfl
theorem dX11_back_37 : decode cX11_back 37 = .ok (.ireturn, 1) := dz_172 (n := 32) (r := 5) hz_X11_back_32 rfl
theorem hz_X11_read_0 : (cX11_read.data.toList.drop 0).take 40 = [42, 180, 0, 12, 182, 0, 111, 42, 180, 0, 20, 3, 181, 0, 102, 42, 42, 180, 0, 12, 180, 0, 114, 181, 0, 95, 42, 180, 0, 12, 180, 0, 115, 154, 0, 7, 42, 182, 0, 118] := by decide +kernel
theorem dX11_read_0 : decode cX11_read 0 = .ok (.aload_n 0, 1) := dz_42 (n := 0) (r := 0) hz_X11_read_0 rfl
theorem dX11_read_1 : decode cX11_read 1 = .ok (.getfield 12, 3) := dz_180 (n := 0) (r := 1) hz_X11_read_0 rfl rfl
theorem dX11_read_4 : decode cX11_read 4 = .ok (.invokevirtual 111, 3) := dz_182 (n := 0) (r := 4) hz_X11_read_0 rfl rfl
theorem dX11_read_7 : decode cX11_read 7 = .ok (.aload_n 0, 1) := dz_42 (n := 0) (r := 7) hz_X11_read_0 rfl
theorem dX11_read_8 : decode cX11_read 8 = .ok (.getfield 20, 3) := dz_180 (n := 0) (r := 8) hz_X11_read_0 rfl rfl
theorem dX11_read_11 : decode cX11_read 11 = .ok (.iconst 0, 1) := dz_3 (n := 0) (r := 11) hz_X11_read_0 rfl
theorem dX11_read_12 : decode cX11_read 12 = .ok (.putfield 102, 3) := dz_181 (n := 0) (r := 12) hz_X11_read_0 rfl rfl
theorem dX11_read_15 : decode cX11_read 15 = .ok (.aload_n 0, 1) := dz_42 (n := 0) (r := 15) hz_X11_read_0 rfl
theorem dX11_read_16 : decode cX11_read 16 = .ok (.aload_n 0, 1) := dz_42 (n := 0) (r := 16) hz_X11_read_0 rfl
theorem dX11_read_17 : decode cX11_read 17 = .ok (.getfield 12, 3) := dz_180 (n := 0) (r := 17) hz_X11_read_0 rfl rfl
theorem dX11_read_20 : decode cX11_read 20 = .ok (.getfield 114, 3) := dz_180 (n := 0) (r := 20) hz_X11_read_0 rfl rfl
theorem dX11_read_23 : decode cX11_read 23 = .ok (.putfield 95, 3) := dz_181 (n := 0) (r := 23) hz_X11_read_0 rfl rfl
theorem dX11_read_26 : decode cX11_read 26 = .ok (.aload_n 0, 1) := dz_42 (n := 0) (r := 26) hz_X11_read_0 rfl
theorem dX11_read_27 : decode cX11_read 27 = .ok (.getfield 12, 3) := dz_180 (n := 0) (r := 27) hz_X11_read_0 rfl rfl
theorem dX11_read_30 : decode cX11_read 30 = .ok (.getfield 115, 3) := dz_180 (n := 0) (r := 30) hz_X11_read_0 rfl rfl
theorem hz_X11_read_32 : (cX11_read.data.toList.drop 32).take 40 = [115, 154, 0, 7, 42, 182, 0, 118, 42, 180, 0, 12, 180, 0, 115, 172] := by decide +kernel
theorem dX11_read_33 : decode cX11_read 33 = .ok (.ifCond .ne 7, 3) := dz_154 (n := 32) (r := 1) hz_X11_read_32 rfl (by decide +kernel)
theorem dX11_read_36 : decode cX11_read 36 = .ok (.aload_n 0, 1) := dz_42 (n := 32) (r := 4) hz_X11_read_32 rfl
theorem dX11_read_37 : decode cX11_read 37 = .ok (.invokevirtual 118, 3) := dz_182 (n := 32) (r := 5) hz_X11_read_32 rfl rfl
theorem dX11_read_40 : decode cX11_read 40 = .ok (.aload_n 0, 1) := dz_42 (n := 32) (r := 8) hz_X11_read_32 rfl
theorem dX11_read_41 : decode cX11_read 41 = .ok (.getfield 12, 3) := dz_180 (n := 32) (r := 9) hz_X11_read_32 rfl rfl
theorem dX11_read_44 : decode cX11_read 44 = .ok (.getfield 115, 3) := dz_180 (n := 32) (r := 12) hz_X11_read_32 rfl rfl
theorem dX11_read_47 : decode cX11_read 47 = .ok (.ireturn, 1) := dz_172 (n := 32) (r := 15) hz_X11_read_32 rfl
theorem hz_X11_place_0 : (cX11_place.data.toList.drop 0).take 40 = [42, 180, 0, 95, 172] := by decide +kernel
theorem dX11_place_0 : decode cX11_place 0 = .ok (.aload_n 0, 1) := dz_42 (n := 0) (r := 0) hz_X11_place_0 rfl
theorem dX11_place_1 : decode cX11_place 1 = .ok (.getfield 95, 3) := dz_180 (n := 0) (r := 1) hz_X11_place_0 rfl rfl
theorem dX11_place_4 : decode cX11_place 4 = .ok (.ireturn, 1) := dz_172 (n := 0) (r := 4) hz_X11_place_0 rfl
theorem hz_X11_beginAnew_0 : (cX11_beginAnew.data.toList.drop 0).take 40 = [42, 180, 0, 24, 42, 180, 0, 12, 180, 0, 121, 42, 180, 0, 12, 180, 0, 124, 42, 180, 0, 12, 180, 0, 127, 182, 0, 130, 42, 180, 0, 31, 42, 180, 0, 12, 180, 0, 134, 182] := by decide +kernel
theorem dX11_beginAnew_0 : decode cX11_beginAnew 0 = .ok (.aload_n 0, 1) := dz_42 (n := 0) (r := 0) hz_X11_beginAnew_0 rfl
theorem dX11_beginAnew_1 : decode cX11_beginAnew 1 = .ok (.getfield 24, 3) := dz_180 (n := 0) (r := 1) hz_X11_beginAnew_0 rfl rfl
theorem dX11_beginAnew_4 : decode cX11_beginAnew 4 = .ok (.aload_n 0, 1) := dz_42 (n := 0) (r := 4) hz_X11_beginAnew_0 rfl
theorem dX11_beginAnew_5 : decode cX11_beginAnew 5 = .ok (.getfield 12, 3) := dz_180 (n := 0) (r := 5) hz_X11_beginAnew_0 rfl rfl
theorem dX11_beginAnew_8 : decode cX11_beginAnew 8 = .ok (.getfield 121, 3) := dz_180 (n := 0) (r := 8) hz_X11_beginAnew_0 rfl rfl
theorem dX11_beginAnew_11 : decode cX11_beginAnew 11 = .ok (.aload_n 0, 1) := dz_42 (n := 0) (r := 11) hz_X11_beginAnew_0 rfl
theorem dX11_beginAnew_12 : decode cX11_beginAnew 12 = .ok (.getfield 12, 3) := dz_180 (n := 0) (r := 12) hz_X11_beginAnew_0 rfl rfl
theorem dX11_beginAnew_15 : decode cX11_beginAnew 15 = .ok (.getfield 124, 3) := dz_180 (n := 0) (r := 15) hz_X11_beginAnew_0 rfl rfl
theorem dX11_beginAnew_18 : decode cX11_beginAnew 18 = .ok (.aload_n 0, 1) := dz_42 (n := 0) (r := 18) hz_X11_beginAnew_0 rfl
theorem dX11_beginAnew_19 : decode cX11_beginAnew 19 = .ok (.getfield 12, 3) := dz_180 (n := 0) (r := 19) hz_X11_beginAnew_0 rfl rfl
theorem dX11_beginAnew_22 : decode cX11_beginAnew 22 = .ok (.getfield 127, 3) := dz_180 (n := 0) (r := 22) hz_X11_beginAnew_0 rfl rfl
theorem dX11_beginAnew_25 : decode cX11_beginAnew 25 = .ok (.invokevirtual 130, 3) := dz_182 (n := 0) (r := 25) hz_X11_beginAnew_0 rfl rfl
theorem dX11_beginAnew_28 : decode cX11_beginAnew 28 = .ok (.aload_n 0, 1) := dz_42 (n := 0) (r := 28) hz_X11_beginAnew_0 rfl
theorem dX11_beginAnew_29 : decode cX11_beginAnew 29 = .ok (.getfield 31, 3) := dz_180 (n := 0) (r := 29) hz_X11_beginAnew_0 rfl rfl
theorem hz_X11_beginAnew_32 : (cX11_beginAnew.data.toList.drop 32).take 40 = [42, 180, 0, 12, 180, 0, 134, 182, 0, 137, 42, 180, 0, 31, 42, 180, 0, 31, 180, 0, 141, 181, 0, 144, 42, 180, 0, 38, 182, 0, 147, 3, 60, 27, 42, 180, 0, 44, 190, 162] := by decide +kernel
theorem dX11_beginAnew_32 : decode cX11_beginAnew 32 = .ok (.aload_n 0, 1) := dz_42 (n := 32) (r := 0) hz_X11_beginAnew_32 rfl
theorem dX11_beginAnew_33 : decode cX11_beginAnew 33 = .ok (.getfield 12, 3) := dz_180 (n := 32) (r := 1) hz_X11_beginAnew_32 rfl rfl
theorem dX11_beginAnew_36 : decode cX11_beginAnew 36 = .ok (.getfield 134, 3) := dz_180 (n := 32) (r := 4) hz_X11_beginAnew_32 rfl rfl
theorem dX11_beginAnew_39 : decode cX11_beginAnew 39 = .ok (.invokevirtual 137, 3) := dz_182 (n := 32) (r := 7) hz_X11_beginAnew_32 rfl rfl
theorem dX11_beginAnew_42 : decode cX11_beginAnew 42 = .ok (.aload_n 0, 1) := dz_42 (n := 32) (r := 10) hz_X11_beginAnew_32 rfl
theorem dX11_beginAnew_43 : decode cX11_beginAnew 43 = .ok (.getfield 31, 3) := dz_180 (n := 32) (r := 11) hz_X11_beginAnew_32 rfl rfl
theorem dX11_beginAnew_46 : decode cX11_beginAnew 46 = .ok (.aload_n 0, 1) := dz_42 (n := 32) (r := 14) hz_X11_beginAnew_32 rfl
theorem dX11_beginAnew_47 : decode cX11_beginAnew 47 = .ok (.getfield 31, 3) := dz_180 (n := 32) (r := 15) hz_X11_beginAnew_32 rfl rfl
theorem dX11_beginAnew_50 : decode cX11_beginAnew 50 = .ok (.getfield 141, 3) := dz_180 (n := 32) (r := 18) hz_X11_beginAnew_32 rfl rfl
theorem dX11_beginAnew_53 : decode cX11_beginAnew 53 = .ok (.putfield 144, 3) := dz_181 (n := 32) (r := 21) hz_X11_beginAnew_32 rfl rfl
theorem dX11_beginAnew_56 : decode cX11_beginAnew 56 = .ok (.aload_n 0, 1) := dz_42 (n := 32) (r := 24) hz_X11_beginAnew_32 rfl
theorem dX11_beginAnew_57 : decode cX11_beginAnew 57 = .ok (.getfield 38, 3) := dz_180 (n := 32) (r := 25) hz_X11_beginAnew_32 rfl rfl
theorem dX11_beginAnew_60 : decode cX11_beginAnew 60 = .ok (.invokevirtual 147, 3) := dz_182 (n := 32) (r := 28) hz_X11_beginAnew_32 rfl rfl
theorem dX11_beginAnew_63 : decode cX11_beginAnew 63 = .ok (.iconst 0, 1) := dz_3 (n := 32) (r := 31) hz_X11_beginAnew_32 rfl
theorem hz_X11_beginAnew_64 : (cX11_beginAnew.data.toList.drop 64).take 40 = [60, 27, 42, 180, 0, 44, 190, 162, 0, 19, 42, 180, 0, 44, 27, 50, 3, 181, 0, 150, 132, 1, 1, 167, 255, 234, 42, 182, 0, 154, 177] := by decide +kernel
theorem dX11_beginAnew_64 : decode cX11_beginAnew 64 = .ok (.istore_n 1, 1) := dz_60 (n := 64) (r := 0) hz_X11_beginAnew_64 rfl
theorem dX11_beginAnew_65 : decode cX11_beginAnew 65 = .ok (.iload_n 1, 1) := dz_27 (n := 64) (r := 1) hz_X11_beginAnew_64 rfl
theorem dX11_beginAnew_66 : decode cX11_beginAnew 66 = .ok (.aload_n 0, 1) := dz_42 (n := 64) (r := 2) hz_X11_beginAnew_64 rfl
theorem dX11_beginAnew_67 : decode cX11_beginAnew 67 = .ok (.getfield 44, 3) := dz_180 (n := 64) (r := 3) hz_X11_beginAnew_64 rfl rfl
theorem dX11_beginAnew_70 : decode cX11_beginAnew 70 = .ok (.arraylength, 1) := dz_190 (n := 64) (r := 6) hz_X11_beginAnew_64 rfl
theorem dX11_beginAnew_71 : decode cX11_beginAnew 71 = .ok (.if_icmp .ge 19, 3) := dz_162 (n := 64) (r := 7) hz_X11_beginAnew_64 rfl (by decide +kernel)
theorem dX11_beginAnew_74 : decode cX11_beginAnew 74 = .ok (.aload_n 0, 1) := dz_42 (n := 64) (r := 10) hz_X11_beginAnew_64 rfl
theorem dX11_beginAnew_75 : decode cX11_beginAnew 75 = .ok (.getfield 44, 3) := dz_180 (n := 64) (r := 11) hz_X11_beginAnew_64 rfl rfl
theorem dX11_beginAnew_78 : decode cX11_beginAnew 78 = .ok (.iload_n 1, 1) := dz_27 (n := 64) (r := 14) hz_X11_beginAnew_64 rfl
theorem dX11_beginAnew_79 : decode cX11_beginAnew 79 = .ok (.aaload, 1) := dz_50 (n := 64) (r := 15) hz_X11_beginAnew_64 rfl
theorem dX11_beginAnew_80 : decode cX11_beginAnew 80 = .ok (.iconst 0, 1) := dz_3 (n := 64) (r := 16) hz_X11_beginAnew_64 rfl
theorem dX11_beginAnew_81 : decode cX11_beginAnew 81 = .ok (.putfield 150, 3) := dz_181 (n := 64) (r := 17) hz_X11_beginAnew_64 rfl rfl
theorem dX11_beginAnew_84 : decode cX11_beginAnew 84 = .ok (.iinc 1 1, 3) := dz_132 (n := 64) (r := 20) hz_X11_beginAnew_64 rfl rfl rfl
theorem dX11_beginAnew_87 : decode cX11_beginAnew 87 = .ok (.goto (-22), 3) := dz_167 (n := 64) (r := 23) hz_X11_beginAnew_64 rfl (by decide +kernel)
theorem dX11_beginAnew_90 : decode cX11_beginAnew 90 = .ok (.aload_n 0, 1) := dz_42 (n := 64) (r := 26) hz_X11_beginAnew_64 rfl
theorem dX11_beginAnew_91 : decode cX11_beginAnew 91 = .ok (.invokevirtual 154, 3) := dz_182 (n := 64) (r := 27) hz_X11_beginAnew_64 rfl rfl
theorem dX11_beginAnew_94 : decode cX11_beginAnew 94 = .ok (.return_, 1) := dz_177 (n := 64) (r := 30) hz_X11_beginAnew_64 rfl
theorem hz_X11_tie_0 : (cX11_tie.data.toList.drop 0).take 40 = [42, 180, 0, 24, 27, 28, 182, 0, 157, 54, 4, 21, 4, 2, 159, 0, 23, 29, 184, 0, 161, 153, 0, 16, 42, 180, 0, 31, 21, 4, 182, 0, 165, 29, 160, 0, 5, 3, 172, 42] := by decide +kernel
theorem dX11_tie_0 : decode cX11_tie 0 = .ok (.aload_n 0, 1) := dz_42 (n := 0) (r := 0) hz_X11_tie_0 rfl
theorem dX11_tie_1 : decode cX11_tie 1 = .ok (.getfield 24, 3) := dz_180 (n := 0) (r := 1) hz_X11_tie_0 rfl rfl
theorem dX11_tie_4 : decode cX11_tie 4 = .ok (.iload_n 1, 1) := dz_27 (n := 0) (r := 4) hz_X11_tie_0 rfl
theorem dX11_tie_5 : decode cX11_tie 5 = .ok (.iload_n 2, 1) := dz_28 (n := 0) (r := 5) hz_X11_tie_0 rfl
theorem dX11_tie_6 : decode cX11_tie 6 = .ok (.invokevirtual 157, 3) := dz_182 (n := 0) (r := 6) hz_X11_tie_0 rfl rfl
theorem dX11_tie_9 : decode cX11_tie 9 = .ok (.istore 4, 2) := dz_54 (n := 0) (r := 9) hz_X11_tie_0 rfl rfl
theorem dX11_tie_11 : decode cX11_tie 11 = .ok (.iload 4, 2) := dz_21 (n := 0) (r := 11) hz_X11_tie_0 rfl rfl
theorem dX11_tie_13 : decode cX11_tie 13 = .ok (.iconst (-1), 1) := dz_2 (n := 0) (r := 13) hz_X11_tie_0 rfl
theorem dX11_tie_14 : decode cX11_tie 14 = .ok (.if_icmp .eq 23, 3) := dz_159 (n := 0) (r := 14) hz_X11_tie_0 rfl (by decide +kernel)
theorem dX11_tie_17 : decode cX11_tie 17 = .ok (.iload_n 3, 1) := dz_29 (n := 0) (r := 17) hz_X11_tie_0 rfl
theorem dX11_tie_18 : decode cX11_tie 18 = .ok (.invokestatic 161, 3) := dz_184 (n := 0) (r := 18) hz_X11_tie_0 rfl rfl
theorem dX11_tie_21 : decode cX11_tie 21 = .ok (.ifCond .eq 16, 3) := dz_153 (n := 0) (r := 21) hz_X11_tie_0 rfl (by decide +kernel)
theorem dX11_tie_24 : decode cX11_tie 24 = .ok (.aload_n 0, 1) := dz_42 (n := 0) (r := 24) hz_X11_tie_0 rfl
theorem dX11_tie_25 : decode cX11_tie 25 = .ok (.getfield 31, 3) := dz_180 (n := 0) (r := 25) hz_X11_tie_0 rfl rfl
theorem dX11_tie_28 : decode cX11_tie 28 = .ok (.iload 4, 2) := dz_21 (n := 0) (r := 28) hz_X11_tie_0 rfl rfl
theorem dX11_tie_30 : decode cX11_tie 30 = .ok (.invokevirtual 165, 3) := dz_182 (n := 0) (r := 30) hz_X11_tie_0 rfl rfl
theorem hz_X11_tie_32 : (cX11_tie.data.toList.drop 32).take 40 = [165, 29, 160, 0, 5, 3, 172, 42, 180, 0, 38, 42, 180, 0, 31, 182, 0, 169, 42, 180, 0, 31, 21, 4, 29, 182, 0, 172, 42, 182, 0, 154, 4, 172] := by decide +kernel
theorem dX11_tie_33 : decode cX11_tie 33 = .ok (.iload_n 3, 1) := dz_29 (n := 32) (r := 1) hz_X11_tie_32 rfl
theorem dX11_tie_34 : decode cX11_tie 34 = .ok (.if_icmp .ne 5, 3) := dz_160 (n := 32) (r := 2) hz_X11_tie_32 rfl (by decide +kernel)
theorem dX11_tie_37 : decode cX11_tie 37 = .ok (.iconst 0, 1) := dz_3 (n := 32) (r := 5) hz_X11_tie_32 rfl
theorem dX11_tie_38 : decode cX11_tie 38 = .ok (.ireturn, 1) := dz_172 (n := 32) (r := 6) hz_X11_tie_32 rfl
theorem dX11_tie_39 : decode cX11_tie 39 = .ok (.aload_n 0, 1) := dz_42 (n := 32) (r := 7) hz_X11_tie_32 rfl
theorem dX11_tie_40 : decode cX11_tie 40 = .ok (.getfield 38, 3) := dz_180 (n := 32) (r := 8) hz_X11_tie_32 rfl rfl
theorem dX11_tie_43 : decode cX11_tie 43 = .ok (.aload_n 0, 1) := dz_42 (n := 32) (r := 11) hz_X11_tie_32 rfl
theorem dX11_tie_44 : decode cX11_tie 44 = .ok (.getfield 31, 3) := dz_180 (n := 32) (r := 12) hz_X11_tie_32 rfl rfl
theorem dX11_tie_47 : decode cX11_tie 47 = .ok (.invokevirtual 169, 3) := dz_182 (n := 32) (r := 15) hz_X11_tie_32 rfl rfl
theorem dX11_tie_50 : decode cX11_tie 50 = .ok (.aload_n 0, 1) := dz_42 (n := 32) (r := 18) hz_X11_tie_32 rfl
theorem dX11_tie_51 : decode cX11_tie 51 = .ok (.getfield 31, 3) := dz_180 (n := 32) (r := 19) hz_X11_tie_32 rfl rfl
theorem dX11_tie_54 : decode cX11_tie 54 = .ok (.iload 4, 2) := dz_21 (n := 32) (r := 22) hz_X11_tie_32 rfl rfl
theorem dX11_tie_56 : decode cX11_tie 56 = .ok (.iload_n 3, 1) := dz_29 (n := 32) (r := 24) hz_X11_tie_32 rfl
theorem dX11_tie_57 : decode cX11_tie 57 = .ok (.invokevirtual 172, 3) := dz_182 (n := 32) (r := 25) hz_X11_tie_32 rfl rfl
theorem dX11_tie_60 : decode cX11_tie 60 = .ok (.aload_n 0, 1) := dz_42 (n := 32) (r := 28) hz_X11_tie_32 rfl
theorem dX11_tie_61 : decode cX11_tie 61 = .ok (.invokevirtual 154, 3) := dz_182 (n := 32) (r := 29) hz_X11_tie_32 rfl rfl
theorem hz_X11_tie_64 : (cX11_tie.data.toList.drop 64).take 40 = [4, 172] := by decide +kernel
theorem dX11_tie_64 : decode cX11_tie 64 = .ok (.iconst 1, 1) := dz_4 (n := 64) (r := 0) hz_X11_tie_64 rfl
theorem dX11_tie_65 : decode cX11_tie 65 = .ok (.ireturn, 1) := dz_172 (n := 64) (r := 1) hz_X11_tie_64 rfl
theorem hz_X11_pull_0 : (cX11_pull.data.toList.drop 0).take 40 = [42, 180, 0, 24, 27, 182, 0, 176, 153, 0, 22, 28, 184, 0, 161, 153, 0, 15, 42, 180, 0, 31, 27, 182, 0, 179, 28, 160, 0, 5, 3, 172, 42, 180, 0, 38, 42, 180, 0, 31] := by decide +kernel
theorem dX11_pull_0 : decode cX11_pull 0 = .ok (.aload_n 0, 1) := dz_42 (n := 0) (r := 0) hz_X11_pull_0 rfl
theorem dX11_pull_1 : decode cX11_pull 1 = .ok (.getfield 24, 3) := dz_180 (n := 0) (r := 1) hz_X11_pull_0 rfl rfl
theorem dX11_pull_4 : decode cX11_pull 4 = .ok (.iload_n 1, 1) := dz_27 (n := 0) (r := 4) hz_X11_pull_0 rfl
theorem dX11_pull_5 : decode cX11_pull 5 = .ok (.invokevirtual 176, 3) := dz_182 (n := 0) (r := 5) hz_X11_pull_0 rfl rfl
theorem dX11_pull_8 : decode cX11_pull 8 = .ok (.ifCond .eq 22, 3) := dz_153 (n := 0) (r := 8) hz_X11_pull_0 rfl (by decide +kernel)
theorem dX11_pull_11 : decode cX11_pull 11 = .ok (.iload_n 2, 1) := dz_28 (n := 0) (r := 11) hz_X11_pull_0 rfl
theorem dX11_pull_12 : decode cX11_pull 12 = .ok (.invokestatic 161, 3) := dz_184 (n := 0) (r := 12) hz_X11_pull_0 rfl rfl
theorem dX11_pull_15 : decode cX11_pull 15 = .ok (.ifCond .eq 15, 3) := dz_153 (n := 0) (r := 15) hz_X11_pull_0 rfl (by decide +kernel)
theorem dX11_pull_18 : decode cX11_pull 18 = .ok (.aload_n 0, 1) := dz_42 (n := 0) (r := 18) hz_X11_pull_0 rfl
theorem dX11_pull_19 : decode cX11_pull 19 = .ok (.getfield 31, 3) := dz_180 (n := 0) (r := 19) hz_X11_pull_0 rfl rfl
theorem dX11_pull_22 : decode cX11_pull 22 = .ok (.iload_n 1, 1) := dz_27 (n := 0) (r := 22) hz_X11_pull_0 rfl
theorem dX11_pull_23 : decode cX11_pull 23 = .ok (.invokevirtual 179, 3) := dz_182 (n := 0) (r := 23) hz_X11_pull_0 rfl rfl
theorem dX11_pull_26 : decode cX11_pull 26 = .ok (.iload_n 2, 1) := dz_28 (n := 0) (r := 26) hz_X11_pull_0 rfl
theorem dX11_pull_27 : decode cX11_pull 27 = .ok (.if_icmp .ne 5, 3) := dz_160 (n := 0) (r := 27) hz_X11_pull_0 rfl (by decide +kernel)
theorem dX11_pull_30 : decode cX11_pull 30 = .ok (.iconst 0, 1) := dz_3 (n := 0) (r := 30) hz_X11_pull_0 rfl
theorem dX11_pull_31 : decode cX11_pull 31 = .ok (.ireturn, 1) := dz_172 (n := 0) (r := 31) hz_X11_pull_0 rfl
theorem hz_X11_pull_32 : (cX11_pull.data.toList.drop 32).take 40 = [42, 180, 0, 38, 42, 180, 0, 31, 182, 0, 169, 42, 180, 0, 31, 27, 28, 182, 0, 182, 42, 182, 0, 154, 4, 172] := by decide +kernel
theorem dX11_pull_32 : decode cX11_pull 32 = .ok (.aload_n 0, 1) := dz_42 (n := 32) (r := 0) hz_X11_pull_32 rfl
theorem dX11_pull_33 : decode cX11_pull 33 = .ok (.getfield 38, 3) := dz_180 (n := 32) (r := 1) hz_X11_pull_32 rfl rfl
theorem dX11_pull_36 : decode cX11_pull 36 = .ok (.aload_n 0, 1) := dz_42 (n := 32) (r := 4) hz_X11_pull_32 rfl
theorem dX11_pull_37 : decode cX11_pull 37 = .ok (.getfield 31, 3) := dz_180 (n := 32) (r := 5) hz_X11_pull_32 rfl rfl
theorem dX11_pull_40 : decode cX11_pull 40 = .ok (.invokevirtual 169, 3) := dz_182 (n := 32) (r := 8) hz_X11_pull_32 rfl rfl
theorem dX11_pull_43 : decode cX11_pull 43 = .ok (.aload_n 0, 1) := dz_42 (n := 32) (r := 11) hz_X11_pull_32 rfl
theorem dX11_pull_44 : decode cX11_pull 44 = .ok (.getfield 31, 3) := dz_180 (n := 32) (r := 12) hz_X11_pull_32 rfl rfl
theorem dX11_pull_47 : decode cX11_pull 47 = .ok (.iload_n 1, 1) := dz_27 (n := 32) (r := 15) hz_X11_pull_32 rfl
theorem dX11_pull_48 : decode cX11_pull 48 = .ok (.iload_n 2, 1) := dz_28 (n := 32) (r := 16) hz_X11_pull_32 rfl
theorem dX11_pull_49 : decode cX11_pull 49 = .ok (.invokevirtual 182, 3) := dz_182 (n := 32) (r := 17) hz_X11_pull_32 rfl rfl
theorem dX11_pull_52 : decode cX11_pull 52 = .ok (.aload_n 0, 1) := dz_42 (n := 32) (r := 20) hz_X11_pull_32 rfl
theorem dX11_pull_53 : decode cX11_pull 53 = .ok (.invokevirtual 154, 3) := dz_182 (n := 32) (r := 21) hz_X11_pull_32 rfl rfl
theorem dX11_pull_56 : decode cX11_pull 56 = .ok (.iconst 1, 1) := dz_4 (n := 32) (r := 24) hz_X11_pull_32 rfl
theorem dX11_pull_57 : decode cX11_pull 57 = .ok (.ireturn, 1) := dz_172 (n := 32) (r := 25) hz_X11_pull_32 rfl
theorem hz_X11_pin_0 : (cX11_pin.data.toList.drop 0).take 40 = [42, 180, 0, 24, 27, 182, 0, 176, 153, 0, 24, 28, 155, 0, 20, 28, 5, 163, 0, 15, 42, 180, 0, 31, 27, 182, 0, 185, 28, 160, 0, 5, 3, 172, 42, 180, 0, 38, 42, 180] := by decide +kernel
theorem dX11_pin_0 : decode cX11_pin 0 = .ok (.aload_n 0, 1) := dz_42 (n := 0) (r := 0) hz_X11_pin_0 rfl
theorem dX11_pin_1 : decode cX11_pin 1 = .ok (.getfield 24, 3) := dz_180 (n := 0) (r := 1) hz_X11_pin_0 rfl rfl
theorem dX11_pin_4 : decode cX11_pin 4 = .ok (.iload_n 1, 1) := dz_27 (n := 0) (r := 4) hz_X11_pin_0 rfl
theorem dX11_pin_5 : decode cX11_pin 5 = .ok (.invokevirtual 176, 3) := dz_182 (n := 0) (r := 5) hz_X11_pin_0 rfl rfl
theorem dX11_pin_8 : decode cX11_pin 8 = .ok (.ifCond .eq 24, 3) := dz_153 (n := 0) (r := 8) hz_X11_pin_0 rfl (by decide +kernel)
theorem dX11_pin_11 : decode cX11_pin 11 = .ok (.iload_n 2, 1) := dz_28 (n := 0) (r := 11) hz_X11_pin_0 rfl
theorem dX11_pin_12 : decode cX11_pin 12 = .ok (.ifCond .lt 20, 3) := dz_155 (n := 0) (r := 12) hz_X11_pin_0 rfl (by decide +kernel)
theorem dX11_pin_15 : decode cX11_pin 15 = .ok (.iload_n 2, 1) := dz_28 (n := 0) (r := 15) hz_X11_pin_0 rfl
theorem dX11_pin_16 : decode cX11_pin 16 = .ok (.iconst 2, 1) := dz_5 (n := 0) (r := 16) hz_X11_pin_0 rfl
theorem dX11_pin_17 : decode cX11_pin 17 = .ok (.if_icmp .gt 15, 3) := dz_163 (n := 0) (r := 17) hz_X11_pin_0 rfl (by decide +kernel)
theorem dX11_pin_20 : decode cX11_pin 20 = .ok (.aload_n 0, 1) := dz_42 (n := 0) (r := 20) hz_X11_pin_0 rfl
theorem dX11_pin_21 : decode cX11_pin 21 = .ok (.getfield 31, 3) := dz_180 (n := 0) (r := 21) hz_X11_pin_0 rfl rfl
theorem dX11_pin_24 : decode cX11_pin 24 = .ok (.iload_n 1, 1) := dz_27 (n := 0) (r := 24) hz_X11_pin_0 rfl
theorem dX11_pin_25 : decode cX11_pin 25 = .ok (.invokevirtual 185, 3) := dz_182 (n := 0) (r := 25) hz_X11_pin_0 rfl rfl
theorem dX11_pin_28 : decode cX11_pin 28 = .ok (.iload_n 2, 1) := dz_28 (n := 0) (r := 28) hz_X11_pin_0 rfl
theorem dX11_pin_29 : decode cX11_pin 29 = .ok (.if_icmp .ne 5, 3) := dz_160 (n := 0) (r := 29) hz_X11_pin_0 rfl (by decide +kernel)
theorem hz_X11_pin_32 : (cX11_pin.data.toList.drop 32).take 40 = [3, 172, 42, 180, 0, 38, 42, 180, 0, 31, 182, 0, 169, 42, 180, 0, 31, 27, 28, 182, 0, 188, 42, 180, 0, 31, 42, 180, 0, 31, 180, 0, 144, 42, 180, 0, 31, 180, 0, 191] := by decide +kernel
theorem dX11_pin_32 : decode cX11_pin 32 = .ok (.iconst 0, 1) := dz_3 (n := 32) (r := 0) hz_X11_pin_32 rfl
theorem dX11_pin_33 : decode cX11_pin 33 = .ok (.ireturn, 1) := dz_172 (n := 32) (r := 1) hz_X11_pin_32 rfl
theorem dX11_pin_34 : decode cX11_pin 34 = .ok (.aload_n 0, 1) := dz_42 (n := 32) (r := 2) hz_X11_pin_32 rfl
theorem dX11_pin_35 : decode cX11_pin 35 = .ok (.getfield 38, 3) := dz_180 (n := 32) (r := 3) hz_X11_pin_32 rfl rfl
theorem dX11_pin_38 : decode cX11_pin 38 = .ok (.aload_n 0, 1) := dz_42 (n := 32) (r := 6) hz_X11_pin_32 rfl
theorem dX11_pin_39 : decode cX11_pin 39 = .ok (.getfield 31, 3) := dz_180 (n := 32) (r := 7) hz_X11_pin_32 rfl rfl
theorem dX11_pin_42 : decode cX11_pin 42 = .ok (.invokevirtual 169, 3) := dz_182 (n := 32) (r := 10) hz_X11_pin_32 rfl rfl
theorem dX11_pin_45 : decode cX11_pin 45 = .ok (.aload_n 0, 1) := dz_42 (n := 32) (r := 13) hz_X11_pin_32 rfl
theorem dX11_pin_46 : decode cX11_pin 46 = .ok (.getfield 31, 3) := dz_180 (n := 32) (r := 14) hz_X11_pin_32 rfl rfl
theorem dX11_pin_49 : decode cX11_pin 49 = .ok (.iload_n 1, 1) := dz_27 (n := 32) (r := 17) hz_X11_pin_32 rfl
theorem dX11_pin_50 : decode cX11_pin 50 = .ok (.iload_n 2, 1) := dz_28 (n := 32) (r := 18) hz_X11_pin_32 rfl
theorem dX11_pin_51 : decode cX11_pin 51 = .ok (.invokevirtual 188, 3) := dz_182 (n := 32) (r := 19) hz_X11_pin_32 rfl rfl
theorem dX11_pin_54 : decode cX11_pin 54 = .ok (.aload_n 0, 1) := dz_42 (n := 32) (r := 22) hz_X11_pin_32 rfl
theorem dX11_pin_55 : decode cX11_pin 55 = .ok (.getfield 31, 3) := dz_180 (n := 32) (r := 23) hz_X11_pin_32 rfl rfl
theorem dX11_pin_58 : decode cX11_pin 58 = .ok (.aload_n 0, 1) := dz_42 (n := 32) (r := 26) hz_X11_pin_32 rfl
theorem dX11_pin_59 : decode cX11_pin 59 = .ok (.getfield 31, 3) := dz_180 (n := 32) (r := 27) hz_X11_pin_32 rfl rfl
theorem dX11_pin_62 : decode cX11_pin 62 = .ok (.getfield 144, 3) := dz_180 (n := 32) (r := 30) hz_X11_pin_32 rfl rfl
theorem hz_X11_pin_64 : (cX11_pin.data.toList.drop 64).take 40 = [144, 42, 180, 0, 31, 180, 0, 191, 2, 130, 126, 42, 180, 0, 31, 180, 0, 141, 128, 181, 0, 144, 42, 182, 0, 194, 4, 172] := by decide +kernel
theorem dX11_pin_65 : decode cX11_pin 65 = .ok (.aload_n 0, 1) := dz_42 (n := 64) (r := 1) hz_X11_pin_64 rfl
theorem dX11_pin_66 : decode cX11_pin 66 = .ok (.getfield 31, 3) := dz_180 (n := 64) (r := 2) hz_X11_pin_64 rfl rfl
theorem dX11_pin_69 : decode cX11_pin 69 = .ok (.getfield 191, 3) := dz_180 (n := 64) (r := 5) hz_X11_pin_64 rfl rfl
theorem dX11_pin_72 : decode cX11_pin 72 = .ok (.iconst (-1), 1) := dz_2 (n := 64) (r := 8) hz_X11_pin_64 rfl
theorem dX11_pin_73 : decode cX11_pin 73 = .ok (.ixor, 1) := dz_130 (n := 64) (r := 9) hz_X11_pin_64 rfl
theorem dX11_pin_74 : decode cX11_pin 74 = .ok (.iand, 1) := dz_126 (n := 64) (r := 10) hz_X11_pin_64 rfl
theorem dX11_pin_75 : decode cX11_pin 75 = .ok (.aload_n 0, 1) := dz_42 (n := 64) (r := 11) hz_X11_pin_64 rfl
theorem dX11_pin_76 : decode cX11_pin 76 = .ok (.getfield 31, 3) := dz_180 (n := 64) (r := 12) hz_X11_pin_64 rfl rfl
theorem dX11_pin_79 : decode cX11_pin 79 = .ok (.getfield 141, 3) := dz_180 (n := 64) (r := 15) hz_X11_pin_64 rfl rfl
theorem dX11_pin_82 : decode cX11_pin 82 = .ok (.ior, 1) := dz_128 (n := 64) (r := 18) hz_X11_pin_64 rfl
theorem dX11_pin_83 : decode cX11_pin 83 = .ok (.putfield 144, 3) := dz_181 (n := 64) (r := 19) hz_X11_pin_64 rfl rfl
theorem dX11_pin_86 : decode cX11_pin 86 = .ok (.aload_n 0, 1) := dz_42 (n := 64) (r := 22) hz_X11_pin_64 rfl
theorem dX11_pin_87 : decode cX11_pin 87 = .ok (.invokevirtual 194, 3) := dz_182 (n := 64) (r := 23) hz_X11_pin_64 rfl rfl
theorem dX11_pin_90 : decode cX11_pin 90 = .ok (.iconst 1, 1) := dz_4 (n := 64) (r := 26) hz_X11_pin_64 rfl
theorem dX11_pin_91 : decode cX11_pin 91 = .ok (.ireturn, 1) := dz_172 (n := 64) (r := 27) hz_X11_pin_64 rfl
theorem hz_X11_glass_0 : (cX11_glass.data.toList.drop 0).take 40 = [27, 155, 0, 20, 27, 17, 39, 15, 163, 0, 13, 42, 180, 0, 24, 180, 0, 197, 154, 0, 5, 3, 172, 42, 180, 0, 38, 42, 180, 0, 31, 182, 0, 169, 27, 133, 65, 3, 54, 4] := by decide +kernel
theorem dX11_glass_0 : decode cX11_glass 0 = .ok (.iload_n 1, 1) := dz_27 (n := 0) (r := 0) hz_X11_glass_0 rfl
theorem dX11_glass_1 : decode cX11_glass 1 = .ok (.ifCond .lt 20, 3) := dz_155 (n := 0) (r := 1) hz_X11_glass_0 rfl (by decide +kernel)
theorem dX11_glass_4 : decode cX11_glass 4 = .ok (.iload_n 1, 1) := dz_27 (n := 0) (r := 4) hz_X11_glass_0 rfl
theorem dX11_glass_5 : decode cX11_glass 5 = .ok (.sipush 9999, 3) := dz_17 (n := 0) (r := 5) hz_X11_glass_0 rfl (by decide +kernel)
theorem dX11_glass_8 : decode cX11_glass 8 = .ok (.if_icmp .gt 13, 3) := dz_163 (n := 0) (r := 8) hz_X11_glass_0 rfl (by decide +kernel)
theorem dX11_glass_11 : decode cX11_glass 11 = .ok (.aload_n 0, 1) := dz_42 (n := 0) (r := 11) hz_X11_glass_0 rfl
theorem dX11_glass_12 : decode cX11_glass 12 = .ok (.getfield 24, 3) := dz_180 (n := 0) (r := 12) hz_X11_glass_0 rfl rfl
theorem dX11_glass_15 : decode cX11_glass 15 = .ok (.getfield 197, 3) := dz_180 (n := 0) (r := 15) hz_X11_glass_0 rfl rfl
theorem dX11_glass_18 : decode cX11_glass 18 = .ok (.ifCond .ne 5, 3) := dz_154 (n := 0) (r := 18) hz_X11_glass_0 rfl (by decide +kernel)
theorem dX11_glass_21 : decode cX11_glass 21 = .ok (.iconst 0, 1) := dz_3 (n := 0) (r := 21) hz_X11_glass_0 rfl
theorem dX11_glass_22 : decode cX11_glass 22 = .ok (.ireturn, 1) := dz_172 (n := 0) (r := 22) hz_X11_glass_0 rfl
theorem dX11_glass_23 : decode cX11_glass 23 = .ok (.aload_n 0, 1) := dz_42 (n := 0) (r := 23) hz_X11_glass_0 rfl
theorem dX11_glass_24 : decode cX11_glass 24 = .ok (.getfield 38, 3) := dz_180 (n := 0) (r := 24) hz_X11_glass_0 rfl rfl
theorem dX11_glass_27 : decode cX11_glass 27 = .ok (.aload_n 0, 1) := dz_42 (n := 0) (r := 27) hz_X11_glass_0 rfl
theorem dX11_glass_28 : decode cX11_glass 28 = .ok (.getfield 31, 3) := dz_180 (n := 0) (r := 28) hz_X11_glass_0 rfl rfl
theorem dX11_glass_31 : decode cX11_glass 31 = .ok (.invokevirtual 169, 3) := dz_182 (n := 0) (r := 31) hz_X11_glass_0 rfl rfl
theorem hz_X11_glass_32 : (cX11_glass.data.toList.drop 32).take 40 = [0, 169, 27, 133, 65, 3, 54, 4, 21, 4, 16, 32, 162, 0, 50, 42, 180, 0, 24, 21, 4, 182, 0, 200, 2, 159, 0, 31, 32, 184, 0, 203, 65, 42, 180, 0, 31, 21, 4, 32] := by decide +kernel
theorem dX11_glass_34 : decode cX11_glass 34 = .ok (.iload_n 1, 1) := dz_27 (n := 32) (r := 2) hz_X11_glass_32 rfl
theorem dX11_glass_35 : decode cX11_glass 35 = .ok (.i2l, 1) := dz_133 (n := 32) (r := 3) hz_X11_glass_32 rfl
theorem dX11_glass_36 : decode cX11_glass 36 = .ok (.lstore_n 2, 1) := dz_65 (n := 32) (r := 4) hz_X11_glass_32 rfl
theorem dX11_glass_37 : decode cX11_glass 37 = .ok (.iconst 0, 1) := dz_3 (n := 32) (r := 5) hz_X11_glass_32 rfl
theorem dX11_glass_38 : decode cX11_glass 38 = .ok (.istore 4, 2) := dz_54 (n := 32) (r := 6) hz_X11_glass_32 rfl rfl
theorem dX11_glass_40 : decode cX11_glass 40 = .ok (.iload 4, 2) := dz_21 (n := 32) (r := 8) hz_X11_glass_32 rfl rfl
theorem dX11_glass_42 : decode cX11_glass 42 = .ok (.bipush 32, 2) := dz_16 (n := 32) (r := 10) hz_X11_glass_32 rfl rfl
theorem dX11_glass_44 : decode cX11_glass 44 = .ok (.if_icmp .ge 50, 3) := dz_162 (n := 32) (r := 12) hz_X11_glass_32 rfl (by decide +kernel)
theorem dX11_glass_47 : decode cX11_glass 47 = .ok (.aload_n 0, 1) := dz_42 (n := 32) (r := 15) hz_X11_glass_32 rfl
theorem dX11_glass_48 : decode cX11_glass 48 = .ok (.getfield 24, 3) := dz_180 (n := 32) (r := 16) hz_X11_glass_32 rfl rfl
theorem dX11_glass_51 : decode cX11_glass 51 = .ok (.iload 4, 2) := dz_21 (n := 32) (r := 19) hz_X11_glass_32 rfl rfl
theorem dX11_glass_53 : decode cX11_glass 53 = .ok (.invokevirtual 200, 3) := dz_182 (n := 32) (r := 21) hz_X11_glass_32 rfl rfl
theorem dX11_glass_56 : decode cX11_glass 56 = .ok (.iconst (-1), 1) := dz_2 (n := 32) (r := 24) hz_X11_glass_32 rfl
theorem dX11_glass_57 : decode cX11_glass 57 = .ok (.if_icmp .eq 31, 3) := dz_159 (n := 32) (r := 25) hz_X11_glass_32 rfl (by decide +kernel)
theorem dX11_glass_60 : decode cX11_glass 60 = .ok (.lload_n 2, 1) := dz_32 (n := 32) (r := 28) hz_X11_glass_32 rfl
theorem dX11_glass_61 : decode cX11_glass 61 = .ok (.invokestatic 203, 3) := dz_184 (n := 32) (r := 29) hz_X11_glass_32 rfl rfl
theorem hz_X11_glass_64 : (cX11_glass.data.toList.drop 64).take 40 = [65, 42, 180, 0, 31, 21, 4, 32, 5, 184, 0, 207, 4, 160, 0, 7, 4, 167, 0, 4, 2, 182, 0, 172, 132, 4, 1, 167, 255, 205, 42, 182, 0, 154, 4, 172] := by decide +kernel
theorem dX11_glass_64 : decode cX11_glass 64 = .ok (.lstore_n 2, 1) := dz_65 (n := 64) (r := 0) hz_X11_glass_64 rfl
theorem dX11_glass_65 : decode cX11_glass 65 = .ok (.aload_n 0, 1) := dz_42 (n := 64) (r := 1) hz_X11_glass_64 rfl
theorem dX11_glass_66 : decode cX11_glass 66 = .ok (.getfield 31, 3) := dz_180 (n := 64) (r := 2) hz_X11_glass_64 rfl rfl
theorem dX11_glass_69 : decode cX11_glass 69 = .ok (.iload 4, 2) := dz_21 (n := 64) (r := 5) hz_X11_glass_64 rfl rfl
theorem dX11_glass_71 : decode cX11_glass 71 = .ok (.lload_n 2, 1) := dz_32 (n := 64) (r := 7) hz_X11_glass_64 rfl
theorem dX11_glass_72 : decode cX11_glass 72 = .ok (.iconst 2, 1) := dz_5 (n := 64) (r := 8) hz_X11_glass_64 rfl
theorem dX11_glass_73 : decode cX11_glass 73 = .ok (.invokestatic 207, 3) := dz_184 (n := 64) (r := 9) hz_X11_glass_64 rfl rfl
theorem dX11_glass_76 : decode cX11_glass 76 = .ok (.iconst 1, 1) := dz_4 (n := 64) (r := 12) hz_X11_glass_64 rfl
theorem dX11_glass_77 : decode cX11_glass 77 = .ok (.if_icmp .ne 7, 3) := dz_160 (n := 64) (r := 13) hz_X11_glass_64 rfl (by decide +kernel)
theorem dX11_glass_80 : decode cX11_glass 80 = .ok (.iconst 1, 1) := dz_4 (n := 64) (r := 16) hz_X11_glass_64 rfl
theorem dX11_glass_81 : decode cX11_glass 81 = .ok (.goto 4, 3) := dz_167 (n := 64) (r := 17) hz_X11_glass_64 rfl (by decide +kernel)
theorem dX11_glass_84 : decode cX11_glass 84 = .ok (.iconst (-1), 1) := dz_2 (n := 64) (r := 20) hz_X11_glass_64 rfl
theorem dX11_glass_85 : decode cX11_glass 85 = .ok (.invokevirtual 172, 3) := dz_182 (n := 64) (r := 21) hz_X11_glass_64 rfl rfl
theorem dX11_glass_88 : decode cX11_glass 88 = .ok (.iinc 4 1, 3) := dz_132 (n := 64) (r := 24) hz_X11_glass_64 rfl rfl rfl
theorem dX11_glass_91 : decode cX11_glass 91 = .ok (.goto (-51), 3) := dz_167 (n := 64) (r := 27) hz_X11_glass_64 rfl (by decide +kernel)
theorem dX11_glass_94 : decode cX11_glass 94 = .ok (.aload_n 0, 1) := dz_42 (n := 64) (r := 30) hz_X11_glass_64 rfl
theorem dX11_glass_95 : decode cX11_glass 95 = .ok (.invokevirtual 154, 3) := dz_182 (n := 64) (r := 31) hz_X11_glass_64 rfl rfl
theorem hz_X11_glass_96 : (cX11_glass.data.toList.drop 96).take 40 = [0, 154, 4, 172] := by decide +kernel
theorem dX11_glass_98 : decode cX11_glass 98 = .ok (.iconst 1, 1) := dz_4 (n := 96) (r := 2) hz_X11_glass_96 rfl
theorem dX11_glass_99 : decode cX11_glass 99 = .ok (.ireturn, 1) := dz_172 (n := 96) (r := 3) hz_X11_glass_96 rfl
theorem hz_X11_turn_0 : (cX11_turn.data.toList.drop 0).take 40 = [42, 180, 0, 24, 27, 182, 0, 176, 153, 0, 14, 42, 180, 0, 31, 27, 182, 0, 211, 153, 0, 5, 3, 172, 42, 180, 0, 38, 42, 180, 0, 31, 182, 0, 169, 42, 180, 0, 31, 89] := by decide +kernel
theorem dX11_turn_0 : decode cX11_turn 0 = .ok (.aload_n 0, 1) := dz_42 (n := 0) (r := 0) hz_X11_turn_0 rfl
theorem dX11_turn_1 : decode cX11_turn 1 = .ok (.getfield 24, 3) := dz_180 (n := 0) (r := 1) hz_X11_turn_0 rfl rfl
theorem dX11_turn_4 : decode cX11_turn 4 = .ok (.iload_n 1, 1) := dz_27 (n := 0) (r := 4) hz_X11_turn_0 rfl
theorem dX11_turn_5 : decode cX11_turn 5 = .ok (.invokevirtual 176, 3) := dz_182 (n := 0) (r := 5) hz_X11_turn_0 rfl rfl
theorem dX11_turn_8 : decode cX11_turn 8 = .ok (.ifCond .eq 14, 3) := dz_153 (n := 0) (r := 8) hz_X11_turn_0 rfl (by decide +kernel)
theorem dX11_turn_11 : decode cX11_turn 11 = .ok (.aload_n 0, 1) := dz_42 (n := 0) (r := 11) hz_X11_turn_0 rfl
theorem dX11_turn_12 : decode cX11_turn 12 = .ok (.getfield 31, 3) := dz_180 (n := 0) (r := 12) hz_X11_turn_0 rfl rfl
theorem dX11_turn_15 : decode cX11_turn 15 = .ok (.iload_n 1, 1) := dz_27 (n := 0) (r := 15) hz_X11_turn_0 rfl
theorem dX11_turn_16 : decode cX11_turn 16 = .ok (.invokevirtual 211, 3) := dz_182 (n := 0) (r := 16) hz_X11_turn_0 rfl rfl
theorem dX11_turn_19 : decode cX11_turn 19 = .ok (.ifCond .eq 5, 3) := dz_153 (n := 0) (r := 19) hz_X11_turn_0 rfl (by decide +kernel)
theorem dX11_turn_22 : decode cX11_turn 22 = .ok (.iconst 0, 1) := dz_3 (n := 0) (r := 22) hz_X11_turn_0 rfl
theorem dX11_turn_23 : decode cX11_turn 23 = .ok (.ireturn, 1) := dz_172 (n := 0) (r := 23) hz_X11_turn_0 rfl
theorem dX11_turn_24 : decode cX11_turn 24 = .ok (.aload_n 0, 1) := dz_42 (n := 0) (r := 24) hz_X11_turn_0 rfl
theorem dX11_turn_25 : decode cX11_turn 25 = .ok (.getfield 38, 3) := dz_180 (n := 0) (r := 25) hz_X11_turn_0 rfl rfl
theorem dX11_turn_28 : decode cX11_turn 28 = .ok (.aload_n 0, 1) := dz_42 (n := 0) (r := 28) hz_X11_turn_0 rfl
theorem dX11_turn_29 : decode cX11_turn 29 = .ok (.getfield 31, 3) := dz_180 (n := 0) (r := 29) hz_X11_turn_0 rfl rfl
theorem hz_X11_turn_32 : (cX11_turn.data.toList.drop 32).take 40 = [182, 0, 169, 42, 180, 0, 31, 89, 180, 0, 144, 4, 27, 120, 130, 181, 0, 144, 4, 172] := by decide +kernel
theorem dX11_turn_32 : decode cX11_turn 32 = .ok (.invokevirtual 169, 3) := dz_182 (n := 32) (r := 0) hz_X11_turn_32 rfl rfl
theorem dX11_turn_35 : decode cX11_turn 35 = .ok (.aload_n 0, 1) := dz_42 (n := 32) (r := 3) hz_X11_turn_32 rfl
theorem dX11_turn_36 : decode cX11_turn 36 = .ok (.getfield 31, 3) := dz_180 (n := 32) (r := 4) hz_X11_turn_32 rfl rfl
theorem dX11_turn_39 : decode cX11_turn 39 = .ok (.dup, 1) := dz_89 (n := 32) (r := 7) hz_X11_turn_32 rfl
theorem dX11_turn_40 : decode cX11_turn 40 = .ok (.getfield 144, 3) := dz_180 (n := 32) (r := 8) hz_X11_turn_32 rfl rfl
theorem dX11_turn_43 : decode cX11_turn 43 = .ok (.iconst 1, 1) := dz_4 (n := 32) (r := 11) hz_X11_turn_32 rfl
theorem dX11_turn_44 : decode cX11_turn 44 = .ok (.iload_n 1, 1) := dz_27 (n := 32) (r := 12) hz_X11_turn_32 rfl
theorem dX11_turn_45 : decode cX11_turn 45 = .ok (.ishl, 1) := dz_120 (n := 32) (r := 13) hz_X11_turn_32 rfl
theorem dX11_turn_46 : decode cX11_turn 46 = .ok (.ixor, 1) := dz_130 (n := 32) (r := 14) hz_X11_turn_32 rfl
theorem dX11_turn_47 : decode cX11_turn 47 = .ok (.putfield 144, 3) := dz_181 (n := 32) (r := 15) hz_X11_turn_32 rfl rfl
theorem dX11_turn_50 : decode cX11_turn 50 = .ok (.iconst 1, 1) := dz_4 (n := 32) (r := 18) hz_X11_turn_32 rfl
theorem dX11_turn_51 : decode cX11_turn 51 = .ok (.ireturn, 1) := dz_172 (n := 32) (r := 19) hz_X11_turn_32 rfl
theorem hz_X11_fall_0 : (cX11_fall.data.toList.drop 0).take 40 = [42, 180, 0, 24, 180, 0, 197, 154, 0, 5, 2, 172, 42, 180, 0, 83, 42, 180, 0, 24, 42, 180, 0, 31, 42, 180, 0, 31, 180, 0, 144, 182, 0, 214, 42, 180, 0, 83, 180, 0] := by decide +kernel
theorem dX11_fall_0 : decode cX11_fall 0 = .ok (.aload_n 0, 1) := dz_42 (n := 0) (r := 0) hz_X11_fall_0 rfl
theorem dX11_fall_1 : decode cX11_fall 1 = .ok (.getfield 24, 3) := dz_180 (n := 0) (r := 1) hz_X11_fall_0 rfl rfl
theorem dX11_fall_4 : decode cX11_fall 4 = .ok (.getfield 197, 3) := dz_180 (n := 0) (r := 4) hz_X11_fall_0 rfl rfl
theorem dX11_fall_7 : decode cX11_fall 7 = .ok (.ifCond .ne 5, 3) := dz_154 (n := 0) (r := 7) hz_X11_fall_0 rfl (by decide +kernel)
theorem dX11_fall_10 : decode cX11_fall 10 = .ok (.iconst (-1), 1) := dz_2 (n := 0) (r := 10) hz_X11_fall_0 rfl
theorem dX11_fall_11 : decode cX11_fall 11 = .ok (.ireturn, 1) := dz_172 (n := 0) (r := 11) hz_X11_fall_0 rfl
theorem dX11_fall_12 : decode cX11_fall 12 = .ok (.aload_n 0, 1) := dz_42 (n := 0) (r := 12) hz_X11_fall_0 rfl
theorem dX11_fall_13 : decode cX11_fall 13 = .ok (.getfield 83, 3) := dz_180 (n := 0) (r := 13) hz_X11_fall_0 rfl rfl
theorem dX11_fall_16 : decode cX11_fall 16 = .ok (.aload_n 0, 1) := dz_42 (n := 0) (r := 16) hz_X11_fall_0 rfl
theorem dX11_fall_17 : decode cX11_fall 17 = .ok (.getfield 24, 3) := dz_180 (n := 0) (r := 17) hz_X11_fall_0 rfl rfl
theorem dX11_fall_20 : decode cX11_fall 20 = .ok (.aload_n 0, 1) := dz_42 (n := 0) (r := 20) hz_X11_fall_0 rfl
theorem dX11_fall_21 : decode cX11_fall 21 = .ok (.getfield 31, 3) := dz_180 (n := 0) (r := 21) hz_X11_fall_0 rfl rfl
theorem dX11_fall_24 : decode cX11_fall 24 = .ok (.aload_n 0, 1) := dz_42 (n := 0) (r := 24) hz_X11_fall_0 rfl
theorem dX11_fall_25 : decode cX11_fall 25 = .ok (.getfield 31, 3) := dz_180 (n := 0) (r := 25) hz_X11_fall_0 rfl rfl
theorem dX11_fall_28 : decode cX11_fall 28 = .ok (.getfield 144, 3) := dz_180 (n := 0) (r := 28) hz_X11_fall_0 rfl rfl
theorem dX11_fall_31 : decode cX11_fall 31 = .ok (.invokevirtual 214, 3) := dz_182 (n := 0) (r := 31) hz_X11_fall_0 rfl rfl
theorem hz_X11_fall_32 : (cX11_fall.data.toList.drop 32).take 40 = [0, 214, 42, 180, 0, 83, 180, 0, 218, 158, 0, 28, 42, 180, 0, 38, 42, 180, 0, 31, 182, 0, 169, 42, 180, 0, 31, 42, 180, 0, 83, 180, 0, 221, 181, 0, 144, 42, 180, 0] := by decide +kernel
theorem dX11_fall_34 : decode cX11_fall 34 = .ok (.aload_n 0, 1) := dz_42 (n := 32) (r := 2) hz_X11_fall_32 rfl
theorem dX11_fall_35 : decode cX11_fall 35 = .ok (.getfield 83, 3) := dz_180 (n := 32) (r := 3) hz_X11_fall_32 rfl rfl
theorem dX11_fall_38 : decode cX11_fall 38 = .ok (.getfield 218, 3) := dz_180 (n := 32) (r := 6) hz_X11_fall_32 rfl rfl
theorem dX11_fall_41 : decode cX11_fall 41 = .ok (.ifCond .le 28, 3) := dz_158 (n := 32) (r := 9) hz_X11_fall_32 rfl (by decide +kernel)
theorem dX11_fall_44 : decode cX11_fall 44 = .ok (.aload_n 0, 1) := dz_42 (n := 32) (r := 12) hz_X11_fall_32 rfl
theorem dX11_fall_45 : decode cX11_fall 45 = .ok (.getfield 38, 3) := dz_180 (n := 32) (r := 13) hz_X11_fall_32 rfl rfl
theorem dX11_fall_48 : decode cX11_fall 48 = .ok (.aload_n 0, 1) := dz_42 (n := 32) (r := 16) hz_X11_fall_32 rfl
theorem dX11_fall_49 : decode cX11_fall 49 = .ok (.getfield 31, 3) := dz_180 (n := 32) (r := 17) hz_X11_fall_32 rfl rfl
theorem dX11_fall_52 : decode cX11_fall 52 = .ok (.invokevirtual 169, 3) := dz_182 (n := 32) (r := 20) hz_X11_fall_32 rfl rfl
theorem dX11_fall_55 : decode cX11_fall 55 = .ok (.aload_n 0, 1) := dz_42 (n := 32) (r := 23) hz_X11_fall_32 rfl
theorem dX11_fall_56 : decode cX11_fall 56 = .ok (.getfield 31, 3) := dz_180 (n := 32) (r := 24) hz_X11_fall_32 rfl rfl
theorem dX11_fall_59 : decode cX11_fall 59 = .ok (.aload_n 0, 1) := dz_42 (n := 32) (r := 27) hz_X11_fall_32 rfl
theorem dX11_fall_60 : decode cX11_fall 60 = .ok (.getfield 83, 3) := dz_180 (n := 32) (r := 28) hz_X11_fall_32 rfl rfl
theorem dX11_fall_63 : decode cX11_fall 63 = .ok (.getfield 221, 3) := dz_180 (n := 32) (r := 31) hz_X11_fall_32 rfl rfl
theorem hz_X11_fall_64 : (cX11_fall.data.toList.drop 64).take 40 = [0, 221, 181, 0, 144, 42, 180, 0, 83, 180, 0, 218, 172] := by decide +kernel
theorem dX11_fall_66 : decode cX11_fall 66 = .ok (.putfield 144, 3) := dz_181 (n := 64) (r := 2) hz_X11_fall_64 rfl rfl
theorem dX11_fall_69 : decode cX11_fall 69 = .ok (.aload_n 0, 1) := dz_42 (n := 64) (r := 5) hz_X11_fall_64 rfl
theorem dX11_fall_70 : decode cX11_fall 70 = .ok (.getfield 83, 3) := dz_180 (n := 64) (r := 6) hz_X11_fall_64 rfl rfl
theorem dX11_fall_73 : decode cX11_fall 73 = .ok (.getfield 218, 3) := dz_180 (n := 64) (r := 9) hz_X11_fall_64 rfl rfl
theorem dX11_fall_76 : decode cX11_fall 76 = .ok (.ireturn, 1) := dz_172 (n := 64) (r := 12) hz_X11_fall_64 rfl
theorem hz_X11_undo_0 : (cX11_undo.data.toList.drop 0).take 40 = [42, 180, 0, 38, 42, 180, 0, 31, 182, 0, 222, 172] := by decide +kernel
theorem dX11_undo_0 : decode cX11_undo 0 = .ok (.aload_n 0, 1) := dz_42 (n := 0) (r := 0) hz_X11_undo_0 rfl
theorem dX11_undo_1 : decode cX11_undo 1 = .ok (.getfield 38, 3) := dz_180 (n := 0) (r := 1) hz_X11_undo_0 rfl rfl
theorem dX11_undo_4 : decode cX11_undo 4 = .ok (.aload_n 0, 1) := dz_42 (n := 0) (r := 4) hz_X11_undo_0 rfl
theorem dX11_undo_5 : decode cX11_undo 5 = .ok (.getfield 31, 3) := dz_180 (n := 0) (r := 5) hz_X11_undo_0 rfl rfl
theorem dX11_undo_8 : decode cX11_undo 8 = .ok (.invokevirtual 222, 3) := dz_182 (n := 0) (r := 8) hz_X11_undo_0 rfl rfl
theorem dX11_undo_11 : decode cX11_undo 11 = .ok (.ireturn, 1) := dz_172 (n := 0) (r := 11) hz_X11_undo_0 rfl
theorem hz_X11_site_0 : (cX11_site.data.toList.drop 0).take 40 = [42, 180, 0, 24, 27, 182, 0, 176, 154, 0, 6, 18, 226, 172, 28, 170, 0, 0, 0, 141, 0, 0, 0, 0, 0, 0, 0, 7, 0, 0, 0, 45, 0, 0, 0, 54, 0, 0, 0, 63] := by decide +kernel
theorem dX11_site_0 : decode cX11_site 0 = .ok (.aload_n 0, 1) := dz_42 (n := 0) (r := 0) hz_X11_site_0 rfl
theorem dX11_site_1 : decode cX11_site 1 = .ok (.getfield 24, 3) := dz_180 (n := 0) (r := 1) hz_X11_site_0 rfl rfl
theorem dX11_site_4 : decode cX11_site 4 = .ok (.iload_n 1, 1) := dz_27 (n := 0) (r := 4) hz_X11_site_0 rfl
theorem dX11_site_5 : decode cX11_site 5 = .ok (.invokevirtual 176, 3) := dz_182 (n := 0) (r := 5) hz_X11_site_0 rfl rfl
theorem dX11_site_8 : decode cX11_site 8 = .ok (.ifCond .ne 6, 3) := dz_154 (n := 0) (r := 8) hz_X11_site_0 rfl (by decide +kernel)
theorem dX11_site_11 : decode cX11_site 11 = .ok (.ldc 226, 2) := dz_18 (n := 0) (r := 11) hz_X11_site_0 rfl rfl
theorem dX11_site_13 : decode cX11_site 13 = .ok (.ireturn, 1) := dz_172 (n := 0) (r := 13) hz_X11_site_0 rfl
theorem dX11_site_14 : decode cX11_site 14 = .ok (.iload_n 2, 1) := dz_28 (n := 0) (r := 14) hz_X11_site_0 rfl
theorem dX11_site_15 : decode cX11_site 15 = .ok (.tableswitch 141 0 7 #[45, 54, 63, 72, 81, 95, 109, 121], 45) := by decide +kernel
theorem hz_X11_site_32 : (cX11_site.data.toList.drop 32).take 40 = [0, 0, 0, 54, 0, 0, 0, 63, 0, 0, 0, 72, 0, 0, 0, 81, 0, 0, 0, 95, 0, 0, 0, 109, 0, 0, 0, 121, 42, 180, 0, 24, 27, 182, 0, 227, 172, 42, 180, 0] := by decide +kernel
theorem dX11_site_60 : decode cX11_site 60 = .ok (.aload_n 0, 1) := dz_42 (n := 32) (r := 28) hz_X11_site_32 rfl
theorem dX11_site_61 : decode cX11_site 61 = .ok (.getfield 24, 3) := dz_180 (n := 32) (r := 29) hz_X11_site_32 rfl rfl
theorem hz_X11_site_64 : (cX11_site.data.toList.drop 64).take 40 = [27, 182, 0, 227, 172, 42, 180, 0, 24, 27, 182, 0, 230, 172, 42, 180, 0, 31, 27, 182, 0, 179, 172, 42, 180, 0, 31, 27, 182, 0, 185, 172, 42, 42, 180, 0, 24, 27, 3, 182] := by decide +kernel
theorem dX11_site_64 : decode cX11_site 64 = .ok (.iload_n 1, 1) := dz_27 (n := 64) (r := 0) hz_X11_site_64 rfl
theorem dX11_site_65 : decode cX11_site 65 = .ok (.invokevirtual 227, 3) := dz_182 (n := 64) (r := 1) hz_X11_site_64 rfl rfl
theorem dX11_site_68 : decode cX11_site 68 = .ok (.ireturn, 1) := dz_172 (n := 64) (r := 4) hz_X11_site_64 rfl
theorem dX11_site_69 : decode cX11_site 69 = .ok (.aload_n 0, 1) := dz_42 (n := 64) (r := 5) hz_X11_site_64 rfl
theorem dX11_site_70 : decode cX11_site 70 = .ok (.getfield 24, 3) := dz_180 (n := 64) (r := 6) hz_X11_site_64 rfl rfl
theorem dX11_site_73 : decode cX11_site 73 = .ok (.iload_n 1, 1) := dz_27 (n := 64) (r := 9) hz_X11_site_64 rfl
theorem dX11_site_74 : decode cX11_site 74 = .ok (.invokevirtual 230, 3) := dz_182 (n := 64) (r := 10) hz_X11_site_64 rfl rfl
theorem dX11_site_77 : decode cX11_site 77 = .ok (.ireturn, 1) := dz_172 (n := 64) (r := 13) hz_X11_site_64 rfl
theorem dX11_site_78 : decode cX11_site 78 = .ok (.aload_n 0, 1) := dz_42 (n := 64) (r := 14) hz_X11_site_64 rfl
theorem dX11_site_79 : decode cX11_site 79 = .ok (.getfield 31, 3) := dz_180 (n := 64) (r := 15) hz_X11_site_64 rfl rfl
theorem dX11_site_82 : decode cX11_site 82 = .ok (.iload_n 1, 1) := dz_27 (n := 64) (r := 18) hz_X11_site_64 rfl
theorem dX11_site_83 : decode cX11_site 83 = .ok (.invokevirtual 179, 3) := dz_182 (n := 64) (r := 19) hz_X11_site_64 rfl rfl
theorem dX11_site_86 : decode cX11_site 86 = .ok (.ireturn, 1) := dz_172 (n := 64) (r := 22) hz_X11_site_64 rfl
theorem dX11_site_87 : decode cX11_site 87 = .ok (.aload_n 0, 1) := dz_42 (n := 64) (r := 23) hz_X11_site_64 rfl
theorem dX11_site_88 : decode cX11_site 88 = .ok (.getfield 31, 3) := dz_180 (n := 64) (r := 24) hz_X11_site_64 rfl rfl
theorem dX11_site_91 : decode cX11_site 91 = .ok (.iload_n 1, 1) := dz_27 (n := 64) (r := 27) hz_X11_site_64 rfl
theorem dX11_site_92 : decode cX11_site 92 = .ok (.invokevirtual 185, 3) := dz_182 (n := 64) (r := 28) hz_X11_site_64 rfl rfl
theorem dX11_site_95 : decode cX11_site 95 = .ok (.ireturn, 1) := dz_172 (n := 64) (r := 31) hz_X11_site_64 rfl
theorem hz_X11_site_96 : (cX11_site.data.toList.drop 96).take 40 = [42, 42, 180, 0, 24, 27, 3, 182, 0, 157, 182, 0, 233, 172, 42, 42, 180, 0, 24, 27, 4, 182, 0, 157, 182, 0, 233, 172, 42, 180, 0, 31, 180, 0, 144, 27, 184, 0, 236, 172] := by decide +kernel
theorem dX11_site_96 : decode cX11_site 96 = .ok (.aload_n 0, 1) := dz_42 (n := 96) (r := 0) hz_X11_site_96 rfl
theorem dX11_site_97 : decode cX11_site 97 = .ok (.aload_n 0, 1) := dz_42 (n := 96) (r := 1) hz_X11_site_96 rfl
theorem dX11_site_98 : decode cX11_site 98 = .ok (.getfield 24, 3) := dz_180 (n := 96) (r := 2) hz_X11_site_96 rfl rfl
theorem dX11_site_101 : decode cX11_site 101 = .ok (.iload_n 1, 1) := dz_27 (n := 96) (r := 5) hz_X11_site_96 rfl
theorem dX11_site_102 : decode cX11_site 102 = .ok (.iconst 0, 1) := dz_3 (n := 96) (r := 6) hz_X11_site_96 rfl
theorem dX11_site_103 : decode cX11_site 103 = .ok (.invokevirtual 157, 3) := dz_182 (n := 96) (r := 7) hz_X11_site_96 rfl rfl
theorem dX11_site_106 : decode cX11_site 106 = .ok (.invokevirtual 233, 3) := dz_182 (n := 96) (r := 10) hz_X11_site_96 rfl rfl
theorem dX11_site_109 : decode cX11_site 109 = .ok (.ireturn, 1) := dz_172 (n := 96) (r := 13) hz_X11_site_96 rfl
theorem dX11_site_110 : decode cX11_site 110 = .ok (.aload_n 0, 1) := dz_42 (n := 96) (r := 14) hz_X11_site_96 rfl
theorem dX11_site_111 : decode cX11_site 111 = .ok (.aload_n 0, 1) := dz_42 (n := 96) (r := 15) hz_X11_site_96 rfl
theorem dX11_site_112 : decode cX11_site 112 = .ok (.getfield 24, 3) := dz_180 (n := 96) (r := 16) hz_X11_site_96 rfl rfl
theorem dX11_site_115 : decode cX11_site 115 = .ok (.iload_n 1, 1) := dz_27 (n := 96) (r := 19) hz_X11_site_96 rfl
theorem dX11_site_116 : decode cX11_site 116 = .ok (.iconst 1, 1) := dz_4 (n := 96) (r := 20) hz_X11_site_96 rfl
theorem dX11_site_117 : decode cX11_site 117 = .ok (.invokevirtual 157, 3) := dz_182 (n := 96) (r := 21) hz_X11_site_96 rfl rfl
theorem dX11_site_120 : decode cX11_site 120 = .ok (.invokevirtual 233, 3) := dz_182 (n := 96) (r := 24) hz_X11_site_96 rfl rfl
theorem dX11_site_123 : decode cX11_site 123 = .ok (.ireturn, 1) := dz_172 (n := 96) (r := 27) hz_X11_site_96 rfl
theorem dX11_site_124 : decode cX11_site 124 = .ok (.aload_n 0, 1) := dz_42 (n := 96) (r := 28) hz_X11_site_96 rfl
theorem dX11_site_125 : decode cX11_site 125 = .ok (.getfield 31, 3) := dz_180 (n := 96) (r := 29) hz_X11_site_96 rfl rfl
theorem hz_X11_site_128 : (cX11_site.data.toList.drop 128).take 40 = [180, 0, 144, 27, 184, 0, 236, 172, 42, 180, 0, 24, 42, 180, 0, 31, 42, 180, 0, 31, 180, 0, 144, 27, 182, 0, 240, 172, 18, 226, 172] := by decide +kernel
theorem dX11_site_128 : decode cX11_site 128 = .ok (.getfield 144, 3) := dz_180 (n := 128) (r := 0) hz_X11_site_128 rfl rfl
theorem dX11_site_131 : decode cX11_site 131 = .ok (.iload_n 1, 1) := dz_27 (n := 128) (r := 3) hz_X11_site_128 rfl
theorem dX11_site_132 : decode cX11_site 132 = .ok (.invokestatic 236, 3) := dz_184 (n := 128) (r := 4) hz_X11_site_128 rfl rfl
theorem dX11_site_135 : decode cX11_site 135 = .ok (.ireturn, 1) := dz_172 (n := 128) (r := 7) hz_X11_site_128 rfl
theorem dX11_site_136 : decode cX11_site 136 = .ok (.aload_n 0, 1) := dz_42 (n := 128) (r := 8) hz_X11_site_128 rfl
theorem dX11_site_137 : decode cX11_site 137 = .ok (.getfield 24, 3) := dz_180 (n := 128) (r := 9) hz_X11_site_128 rfl rfl
theorem dX11_site_140 : decode cX11_site 140 = .ok (.aload_n 0, 1) := dz_42 (n := 128) (r := 12) hz_X11_site_128 rfl
theorem dX11_site_141 : decode cX11_site 141 = .ok (.getfield 31, 3) := dz_180 (n := 128) (r := 13) hz_X11_site_128 rfl rfl
theorem dX11_site_144 : decode cX11_site 144 = .ok (.aload_n 0, 1) := dz_42 (n := 128) (r := 16) hz_X11_site_128 rfl
theorem dX11_site_145 : decode cX11_site 145 = .ok (.getfield 31, 3) := dz_180 (n := 128) (r := 17) hz_X11_site_128 rfl rfl
theorem dX11_site_148 : decode cX11_site 148 = .ok (.getfield 144, 3) := dz_180 (n := 128) (r := 20) hz_X11_site_128 rfl rfl
theorem dX11_site_151 : decode cX11_site 151 = .ok (.iload_n 1, 1) := dz_27 (n := 128) (r := 23) hz_X11_site_128 rfl
theorem dX11_site_152 : decode cX11_site 152 = .ok (.invokevirtual 240, 3) := dz_182 (n := 128) (r := 24) hz_X11_site_128 rfl rfl
theorem dX11_site_155 : decode cX11_site 155 = .ok (.ireturn, 1) := dz_172 (n := 128) (r := 27) hz_X11_site_128 rfl
theorem dX11_site_156 : decode cX11_site 156 = .ok (.ldc 226, 2) := dz_18 (n := 128) (r := 28) hz_X11_site_128 rfl rfl
theorem dX11_site_158 : decode cX11_site 158 = .ok (.ireturn, 1) := dz_172 (n := 128) (r := 30) hz_X11_site_128 rfl
theorem hz_X11_bondOrNoTie_0 : (cX11_bondOrNoTie.data.toList.drop 0).take 40 = [27, 2, 160, 0, 8, 16, 100, 167, 0, 11, 42, 180, 0, 31, 27, 182, 0, 165, 172] := by decide +kernel
theorem dX11_bondOrNoTie_0 : decode cX11_bondOrNoTie 0 = .ok (.iload_n 1, 1) := dz_27 (n := 0) (r := 0) hz_X11_bondOrNoTie_0 rfl
theorem dX11_bondOrNoTie_1 : decode cX11_bondOrNoTie 1 = .ok (.iconst (-1), 1) := dz_2 (n := 0) (r := 1) hz_X11_bondOrNoTie_0 rfl
theorem dX11_bondOrNoTie_2 : decode cX11_bondOrNoTie 2 = .ok (.if_icmp .ne 8, 3) := dz_160 (n := 0) (r := 2) hz_X11_bondOrNoTie_0 rfl (by decide +kernel)
theorem dX11_bondOrNoTie_5 : decode cX11_bondOrNoTie 5 = .ok (.bipush 100, 2) := dz_16 (n := 0) (r := 5) hz_X11_bondOrNoTie_0 rfl rfl
theorem dX11_bondOrNoTie_7 : decode cX11_bondOrNoTie 7 = .ok (.goto 11, 3) := dz_167 (n := 0) (r := 7) hz_X11_bondOrNoTie_0 rfl (by decide +kernel)
theorem dX11_bondOrNoTie_10 : decode cX11_bondOrNoTie 10 = .ok (.aload_n 0, 1) := dz_42 (n := 0) (r := 10) hz_X11_bondOrNoTie_0 rfl
theorem dX11_bondOrNoTie_11 : decode cX11_bondOrNoTie 11 = .ok (.getfield 31, 3) := dz_180 (n := 0) (r := 11) hz_X11_bondOrNoTie_0 rfl rfl
theorem dX11_bondOrNoTie_14 : decode cX11_bondOrNoTie 14 = .ok (.iload_n 1, 1) := dz_27 (n := 0) (r := 14) hz_X11_bondOrNoTie_0 rfl
theorem dX11_bondOrNoTie_15 : decode cX11_bondOrNoTie 15 = .ok (.invokevirtual 165, 3) := dz_182 (n := 0) (r := 15) hz_X11_bondOrNoTie_0 rfl rfl
theorem dX11_bondOrNoTie_18 : decode cX11_bondOrNoTie 18 = .ok (.ireturn, 1) := dz_172 (n := 0) (r := 18) hz_X11_bondOrNoTie_0 rfl
theorem hz_X11_square_0 : (cX11_square.data.toList.drop 0).take 40 = [42, 180, 0, 24, 27, 182, 0, 176, 154, 0, 5, 2, 172, 42, 180, 0, 24, 42, 180, 0, 31, 27, 182, 0, 244, 172] := by decide +kernel
theorem dX11_square_0 : decode cX11_square 0 = .ok (.aload_n 0, 1) := dz_42 (n := 0) (r := 0) hz_X11_square_0 rfl
theorem dX11_square_1 : decode cX11_square 1 = .ok (.getfield 24, 3) := dz_180 (n := 0) (r := 1) hz_X11_square_0 rfl rfl
theorem dX11_square_4 : decode cX11_square 4 = .ok (.iload_n 1, 1) := dz_27 (n := 0) (r := 4) hz_X11_square_0 rfl
theorem dX11_square_5 : decode cX11_square 5 = .ok (.invokevirtual 176, 3) := dz_182 (n := 0) (r := 5) hz_X11_square_0 rfl rfl
theorem dX11_square_8 : decode cX11_square 8 = .ok (.ifCond .ne 5, 3) := dz_154 (n := 0) (r := 8) hz_X11_square_0 rfl (by decide +kernel)
theorem dX11_square_11 : decode cX11_square 11 = .ok (.iconst (-1), 1) := dz_2 (n := 0) (r := 11) hz_X11_square_0 rfl
theorem dX11_square_12 : decode cX11_square 12 = .ok (.ireturn, 1) := dz_172 (n := 0) (r := 12) hz_X11_square_0 rfl
theorem dX11_square_13 : decode cX11_square 13 = .ok (.aload_n 0, 1) := dz_42 (n := 0) (r := 13) hz_X11_square_0 rfl
theorem dX11_square_14 : decode cX11_square 14 = .ok (.getfield 24, 3) := dz_180 (n := 0) (r := 14) hz_X11_square_0 rfl rfl
theorem dX11_square_17 : decode cX11_square 17 = .ok (.aload_n 0, 1) := dz_42 (n := 0) (r := 17) hz_X11_square_0 rfl
theorem dX11_square_18 : decode cX11_square 18 = .ok (.getfield 31, 3) := dz_180 (n := 0) (r := 18) hz_X11_square_0 rfl rfl
theorem dX11_square_21 : decode cX11_square 21 = .ok (.iload_n 1, 1) := dz_27 (n := 0) (r := 21) hz_X11_square_0 rfl
theorem dX11_square_22 : decode cX11_square 22 = .ok (.invokevirtual 244, 3) := dz_182 (n := 0) (r := 22) hz_X11_square_0 rfl rfl
theorem dX11_square_25 : decode cX11_square 25 = .ok (.ireturn, 1) := dz_172 (n := 0) (r := 25) hz_X11_square_0 rfl
theorem hz_X11_cluster_0 : (cX11_cluster.data.toList.drop 0).take 40 = [42, 180, 0, 24, 27, 182, 0, 176, 154, 0, 5, 2, 172, 42, 180, 0, 24, 42, 180, 0, 31, 180, 0, 144, 27, 182, 0, 248, 172] := by decide +kernel
theorem dX11_cluster_0 : decode cX11_cluster 0 = .ok (.aload_n 0, 1) := dz_42 (n := 0) (r := 0) hz_X11_cluster_0 rfl
theorem dX11_cluster_1 : decode cX11_cluster 1 = .ok (.getfield 24, 3) := dz_180 (n := 0) (r := 1) hz_X11_cluster_0 rfl rfl
theorem dX11_cluster_4 : decode cX11_cluster 4 = .ok (.iload_n 1, 1) := dz_27 (n := 0) (r := 4) hz_X11_cluster_0 rfl
theorem dX11_cluster_5 : decode cX11_cluster 5 = .ok (.invokevirtual 176, 3) := dz_182 (n := 0) (r := 5) hz_X11_cluster_0 rfl rfl
theorem dX11_cluster_8 : decode cX11_cluster 8 = .ok (.ifCond .ne 5, 3) := dz_154 (n := 0) (r := 8) hz_X11_cluster_0 rfl (by decide +kernel)
theorem dX11_cluster_11 : decode cX11_cluster 11 = .ok (.iconst (-1), 1) := dz_2 (n := 0) (r := 11) hz_X11_cluster_0 rfl
theorem dX11_cluster_12 : decode cX11_cluster 12 = .ok (.ireturn, 1) := dz_172 (n := 0) (r := 12) hz_X11_cluster_0 rfl
theorem dX11_cluster_13 : decode cX11_cluster 13 = .ok (.aload_n 0, 1) := dz_42 (n := 0) (r := 13) hz_X11_cluster_0 rfl
theorem dX11_cluster_14 : decode cX11_cluster 14 = .ok (.getfield 24, 3) := dz_180 (n := 0) (r := 14) hz_X11_cluster_0 rfl rfl
theorem dX11_cluster_17 : decode cX11_cluster 17 = .ok (.aload_n 0, 1) := dz_42 (n := 0) (r := 17) hz_X11_cluster_0 rfl
theorem dX11_cluster_18 : decode cX11_cluster 18 = .ok (.getfield 31, 3) := dz_180 (n := 0) (r := 18) hz_X11_cluster_0 rfl rfl
theorem dX11_cluster_21 : decode cX11_cluster 21 = .ok (.getfield 144, 3) := dz_180 (n := 0) (r := 21) hz_X11_cluster_0 rfl rfl
theorem dX11_cluster_24 : decode cX11_cluster 24 = .ok (.iload_n 1, 1) := dz_27 (n := 0) (r := 24) hz_X11_cluster_0 rfl
theorem dX11_cluster_25 : decode cX11_cluster 25 = .ok (.invokevirtual 248, 3) := dz_182 (n := 0) (r := 25) hz_X11_cluster_0 rfl rfl
theorem dX11_cluster_28 : decode cX11_cluster 28 = .ok (.ireturn, 1) := dz_172 (n := 0) (r := 28) hz_X11_cluster_0 rfl
theorem hz_X11_level_0 : (cX11_level.data.toList.drop 0).take 40 = [42, 182, 0, 251, 78, 27, 2, 160, 0, 8, 45, 180, 0, 255, 172, 45, 27, 182, 1, 2, 154, 0, 6, 18, 226, 172, 45, 27, 182, 1, 5, 54, 4, 28, 170, 0, 0, 0, 0, 65] := by decide +kernel
theorem dX11_level_0 : decode cX11_level 0 = .ok (.aload_n 0, 1) := dz_42 (n := 0) (r := 0) hz_X11_level_0 rfl
theorem dX11_level_1 : decode cX11_level 1 = .ok (.invokevirtual 251, 3) := dz_182 (n := 0) (r := 1) hz_X11_level_0 rfl rfl
theorem dX11_level_4 : decode cX11_level 4 = .ok (.astore_n 3, 1) := dz_78 (n := 0) (r := 4) hz_X11_level_0 rfl
theorem dX11_level_5 : decode cX11_level 5 = .ok (.iload_n 1, 1) := dz_27 (n := 0) (r := 5) hz_X11_level_0 rfl
theorem dX11_level_6 : decode cX11_level 6 = .ok (.iconst (-1), 1) := dz_2 (n := 0) (r := 6) hz_X11_level_0 rfl
theorem dX11_level_7 : decode cX11_level 7 = .ok (.if_icmp .ne 8, 3) := dz_160 (n := 0) (r := 7) hz_X11_level_0 rfl (by decide +kernel)
theorem dX11_level_10 : decode cX11_level 10 = .ok (.aload_n 3, 1) := dz_45 (n := 0) (r := 10) hz_X11_level_0 rfl
theorem dX11_level_11 : decode cX11_level 11 = .ok (.getfield 255, 3) := dz_180 (n := 0) (r := 11) hz_X11_level_0 rfl rfl
theorem dX11_level_14 : decode cX11_level 14 = .ok (.ireturn, 1) := dz_172 (n := 0) (r := 14) hz_X11_level_0 rfl
theorem dX11_level_15 : decode cX11_level 15 = .ok (.aload_n 3, 1) := dz_45 (n := 0) (r := 15) hz_X11_level_0 rfl
theorem dX11_level_16 : decode cX11_level 16 = .ok (.iload_n 1, 1) := dz_27 (n := 0) (r := 16) hz_X11_level_0 rfl
theorem dX11_level_17 : decode cX11_level 17 = .ok (.invokevirtual 258, 3) := dz_182 (n := 0) (r := 17) hz_X11_level_0 rfl rfl
theorem dX11_level_20 : decode cX11_level 20 = .ok (.ifCond .ne 6, 3) := dz_154 (n := 0) (r := 20) hz_X11_level_0 rfl (by decide +kernel)
theorem dX11_level_23 : decode cX11_level 23 = .ok (.ldc 226, 2) := dz_18 (n := 0) (r := 23) hz_X11_level_0 rfl rfl
theorem dX11_level_25 : decode cX11_level 25 = .ok (.ireturn, 1) := dz_172 (n := 0) (r := 25) hz_X11_level_0 rfl
theorem dX11_level_26 : decode cX11_level 26 = .ok (.aload_n 3, 1) := dz_45 (n := 0) (r := 26) hz_X11_level_0 rfl
theorem dX11_level_27 : decode cX11_level 27 = .ok (.iload_n 1, 1) := dz_27 (n := 0) (r := 27) hz_X11_level_0 rfl
theorem dX11_level_28 : decode cX11_level 28 = .ok (.invokevirtual 261, 3) := dz_182 (n := 0) (r := 28) hz_X11_level_0 rfl rfl
theorem dX11_level_31 : decode cX11_level 31 = .ok (.istore 4, 2) := dz_54 (n := 0) (r := 31) hz_X11_level_0 rfl rfl
theorem hz_X11_level_32 : (cX11_level.data.toList.drop 32).take 40 = [4, 28, 170, 0, 0, 0, 0, 65, 0, 0, 0, 0, 0, 0, 0, 4, 0, 0, 0, 34, 0, 0, 0, 37, 0, 0, 0, 44, 0, 0, 0, 51, 0, 0, 0, 58, 21, 4, 172, 45] := by decide +kernel
theorem dX11_level_33 : decode cX11_level 33 = .ok (.iload_n 2, 1) := dz_28 (n := 32) (r := 1) hz_X11_level_32 rfl
theorem dX11_level_34 : decode cX11_level 34 = .ok (.tableswitch 65 0 4 #[34, 37, 44, 51, 58], 34) := by decide +kernel
theorem hz_X11_level_64 : (cX11_level.data.toList.drop 64).take 40 = [0, 0, 0, 58, 21, 4, 172, 45, 21, 4, 182, 1, 8, 172, 45, 21, 4, 182, 1, 11, 172, 45, 21, 4, 182, 1, 14, 172, 45, 21, 4, 182, 1, 17, 172, 18, 226, 172] := by decide +kernel
theorem dX11_level_68 : decode cX11_level 68 = .ok (.iload 4, 2) := dz_21 (n := 64) (r := 4) hz_X11_level_64 rfl rfl
theorem dX11_level_70 : decode cX11_level 70 = .ok (.ireturn, 1) := dz_172 (n := 64) (r := 6) hz_X11_level_64 rfl
theorem dX11_level_71 : decode cX11_level 71 = .ok (.aload_n 3, 1) := dz_45 (n := 64) (r := 7) hz_X11_level_64 rfl
theorem dX11_level_72 : decode cX11_level 72 = .ok (.iload 4, 2) := dz_21 (n := 64) (r := 8) hz_X11_level_64 rfl rfl
theorem dX11_level_74 : decode cX11_level 74 = .ok (.invokevirtual 264, 3) := dz_182 (n := 64) (r := 10) hz_X11_level_64 rfl rfl
theorem dX11_level_77 : decode cX11_level 77 = .ok (.ireturn, 1) := dz_172 (n := 64) (r := 13) hz_X11_level_64 rfl
theorem dX11_level_78 : decode cX11_level 78 = .ok (.aload_n 3, 1) := dz_45 (n := 64) (r := 14) hz_X11_level_64 rfl
theorem dX11_level_79 : decode cX11_level 79 = .ok (.iload 4, 2) := dz_21 (n := 64) (r := 15) hz_X11_level_64 rfl rfl
theorem dX11_level_81 : decode cX11_level 81 = .ok (.invokevirtual 267, 3) := dz_182 (n := 64) (r := 17) hz_X11_level_64 rfl rfl
theorem dX11_level_84 : decode cX11_level 84 = .ok (.ireturn, 1) := dz_172 (n := 64) (r := 20) hz_X11_level_64 rfl
theorem dX11_level_85 : decode cX11_level 85 = .ok (.aload_n 3, 1) := dz_45 (n := 64) (r := 21) hz_X11_level_64 rfl
theorem dX11_level_86 : decode cX11_level 86 = .ok (.iload 4, 2) := dz_21 (n := 64) (r := 22) hz_X11_level_64 rfl rfl
theorem dX11_level_88 : decode cX11_level 88 = .ok (.invokevirtual 270, 3) := dz_182 (n := 64) (r := 24) hz_X11_level_64 rfl rfl
theorem dX11_level_91 : decode cX11_level 91 = .ok (.ireturn, 1) := dz_172 (n := 64) (r := 27) hz_X11_level_64 rfl
theorem dX11_level_92 : decode cX11_level 92 = .ok (.aload_n 3, 1) := dz_45 (n := 64) (r := 28) hz_X11_level_64 rfl
theorem dX11_level_93 : decode cX11_level 93 = .ok (.iload 4, 2) := dz_21 (n := 64) (r := 29) hz_X11_level_64 rfl rfl
theorem dX11_level_95 : decode cX11_level 95 = .ok (.invokevirtual 273, 3) := dz_182 (n := 64) (r := 31) hz_X11_level_64 rfl rfl
theorem hz_X11_level_96 : (cX11_level.data.toList.drop 96).take 40 = [1, 17, 172, 18, 226, 172] := by decide +kernel
theorem dX11_level_98 : decode cX11_level 98 = .ok (.ireturn, 1) := dz_172 (n := 96) (r := 2) hz_X11_level_96 rfl
theorem dX11_level_99 : decode cX11_level 99 = .ok (.ldc 226, 2) := dz_18 (n := 96) (r := 3) hz_X11_level_96 rfl rfl
theorem dX11_level_101 : decode cX11_level 101 = .ok (.ireturn, 1) := dz_172 (n := 96) (r := 5) hz_X11_level_96 rfl
theorem hz_X11_both_0 : (cX11_both.data.toList.drop 0).take 40 = [42, 182, 0, 251, 27, 28, 182, 1, 20, 172] := by decide +kernel
theorem dX11_both_0 : decode cX11_both 0 = .ok (.aload_n 0, 1) := dz_42 (n := 0) (r := 0) hz_X11_both_0 rfl
theorem dX11_both_1 : decode cX11_both 1 = .ok (.invokevirtual 251, 3) := dz_182 (n := 0) (r := 1) hz_X11_both_0 rfl rfl
theorem dX11_both_4 : decode cX11_both 4 = .ok (.iload_n 1, 1) := dz_27 (n := 0) (r := 4) hz_X11_both_0 rfl
theorem dX11_both_5 : decode cX11_both 5 = .ok (.iload_n 2, 1) := dz_28 (n := 0) (r := 5) hz_X11_both_0 rfl
theorem dX11_both_6 : decode cX11_both 6 = .ok (.invokevirtual 276, 3) := dz_182 (n := 0) (r := 6) hz_X11_both_0 rfl rfl
theorem dX11_both_9 : decode cX11_both 9 = .ok (.ireturn, 1) := dz_172 (n := 0) (r := 9) hz_X11_both_0 rfl
theorem hz_X11_broken_0 : (cX11_broken.data.toList.drop 0).take 40 = [42, 182, 1, 23, 27, 182, 1, 27, 172] := by decide +kernel
theorem dX11_broken_0 : decode cX11_broken 0 = .ok (.aload_n 0, 1) := dz_42 (n := 0) (r := 0) hz_X11_broken_0 rfl
theorem dX11_broken_1 : decode cX11_broken 1 = .ok (.invokevirtual 279, 3) := dz_182 (n := 0) (r := 1) hz_X11_broken_0 rfl rfl
theorem dX11_broken_4 : decode cX11_broken 4 = .ok (.iload_n 1, 1) := dz_27 (n := 0) (r := 4) hz_X11_broken_0 rfl
theorem dX11_broken_5 : decode cX11_broken 5 = .ok (.invokevirtual 283, 3) := dz_182 (n := 0) (r := 5) hz_X11_broken_0 rfl rfl
theorem dX11_broken_8 : decode cX11_broken 8 = .ok (.ireturn, 1) := dz_172 (n := 0) (r := 8) hz_X11_broken_0 rfl
theorem hz_X11_ground_0 : (cX11_ground.data.toList.drop 0).take 40 = [42, 182, 0, 251, 77, 44, 180, 0, 255, 154, 0, 6, 18, 226, 172, 44, 3, 182, 1, 5, 62, 27, 170, 0, 0, 0, 0, 65, 0, 0, 0, 0, 0, 0, 0, 3, 0, 0, 0, 30] := by decide +kernel
theorem dX11_ground_0 : decode cX11_ground 0 = .ok (.aload_n 0, 1) := dz_42 (n := 0) (r := 0) hz_X11_ground_0 rfl
theorem dX11_ground_1 : decode cX11_ground 1 = .ok (.invokevirtual 251, 3) := dz_182 (n := 0) (r := 1) hz_X11_ground_0 rfl rfl
theorem dX11_ground_4 : decode cX11_ground 4 = .ok (.astore_n 2, 1) := dz_77 (n := 0) (r := 4) hz_X11_ground_0 rfl
theorem dX11_ground_5 : decode cX11_ground 5 = .ok (.aload_n 2, 1) := dz_44 (n := 0) (r := 5) hz_X11_ground_0 rfl
theorem dX11_ground_6 : decode cX11_ground 6 = .ok (.getfield 255, 3) := dz_180 (n := 0) (r := 6) hz_X11_ground_0 rfl rfl
theorem dX11_ground_9 : decode cX11_ground 9 = .ok (.ifCond .ne 6, 3) := dz_154 (n := 0) (r := 9) hz_X11_ground_0 rfl (by decide +kernel)
theorem dX11_ground_12 : decode cX11_ground 12 = .ok (.ldc 226, 2) := dz_18 (n := 0) (r := 12) hz_X11_ground_0 rfl rfl
theorem dX11_ground_14 : decode cX11_ground 14 = .ok (.ireturn, 1) := dz_172 (n := 0) (r := 14) hz_X11_ground_0 rfl
theorem dX11_ground_15 : decode cX11_ground 15 = .ok (.aload_n 2, 1) := dz_44 (n := 0) (r := 15) hz_X11_ground_0 rfl
theorem dX11_ground_16 : decode cX11_ground 16 = .ok (.iconst 0, 1) := dz_3 (n := 0) (r := 16) hz_X11_ground_0 rfl
theorem dX11_ground_17 : decode cX11_ground 17 = .ok (.invokevirtual 261, 3) := dz_182 (n := 0) (r := 17) hz_X11_ground_0 rfl rfl
theorem dX11_ground_20 : decode cX11_ground 20 = .ok (.istore_n 3, 1) := dz_62 (n := 0) (r := 20) hz_X11_ground_0 rfl
theorem dX11_ground_21 : decode cX11_ground 21 = .ok (.iload_n 1, 1) := dz_27 (n := 0) (r := 21) hz_X11_ground_0 rfl
theorem dX11_ground_22 : decode cX11_ground 22 = .ok (.tableswitch 65 0 3 #[30, 32, 38, 44], 30) := by decide +kernel
theorem hz_X11_ground_32 : (cX11_ground.data.toList.drop 32).take 40 = [0, 0, 0, 3, 0, 0, 0, 30, 0, 0, 0, 32, 0, 0, 0, 38, 0, 0, 0, 44, 29, 172, 44, 29, 182, 1, 8, 172, 44, 29, 182, 1, 11, 172, 44, 180, 0, 255, 4, 164] := by decide +kernel
theorem dX11_ground_52 : decode cX11_ground 52 = .ok (.iload_n 3, 1) := dz_29 (n := 32) (r := 20) hz_X11_ground_32 rfl
theorem dX11_ground_53 : decode cX11_ground 53 = .ok (.ireturn, 1) := dz_172 (n := 32) (r := 21) hz_X11_ground_32 rfl
theorem dX11_ground_54 : decode cX11_ground 54 = .ok (.aload_n 2, 1) := dz_44 (n := 32) (r := 22) hz_X11_ground_32 rfl
theorem dX11_ground_55 : decode cX11_ground 55 = .ok (.iload_n 3, 1) := dz_29 (n := 32) (r := 23) hz_X11_ground_32 rfl
theorem dX11_ground_56 : decode cX11_ground 56 = .ok (.invokevirtual 264, 3) := dz_182 (n := 32) (r := 24) hz_X11_ground_32 rfl rfl
theorem dX11_ground_59 : decode cX11_ground 59 = .ok (.ireturn, 1) := dz_172 (n := 32) (r := 27) hz_X11_ground_32 rfl
theorem dX11_ground_60 : decode cX11_ground 60 = .ok (.aload_n 2, 1) := dz_44 (n := 32) (r := 28) hz_X11_ground_32 rfl
theorem dX11_ground_61 : decode cX11_ground 61 = .ok (.iload_n 3, 1) := dz_29 (n := 32) (r := 29) hz_X11_ground_32 rfl
theorem dX11_ground_62 : decode cX11_ground 62 = .ok (.invokevirtual 267, 3) := dz_182 (n := 32) (r := 30) hz_X11_ground_32 rfl rfl
theorem hz_X11_ground_64 : (cX11_ground.data.toList.drop 64).take 40 = [11, 172, 44, 180, 0, 255, 4, 164, 0, 13, 44, 4, 182, 1, 5, 29, 100, 167, 0, 5, 16, 254, 172, 18, 226, 172] := by decide +kernel
theorem dX11_ground_65 : decode cX11_ground 65 = .ok (.ireturn, 1) := dz_172 (n := 64) (r := 1) hz_X11_ground_64 rfl
theorem dX11_ground_66 : decode cX11_ground 66 = .ok (.aload_n 2, 1) := dz_44 (n := 64) (r := 2) hz_X11_ground_64 rfl
theorem dX11_ground_67 : decode cX11_ground 67 = .ok (.getfield 255, 3) := dz_180 (n := 64) (r := 3) hz_X11_ground_64 rfl rfl
theorem dX11_ground_70 : decode cX11_ground 70 = .ok (.iconst 1, 1) := dz_4 (n := 64) (r := 6) hz_X11_ground_64 rfl
theorem dX11_ground_71 : decode cX11_ground 71 = .ok (.if_icmp .le 13, 3) := dz_164 (n := 64) (r := 7) hz_X11_ground_64 rfl (by decide +kernel)
theorem dX11_ground_74 : decode cX11_ground 74 = .ok (.aload_n 2, 1) := dz_44 (n := 64) (r := 10) hz_X11_ground_64 rfl
theorem dX11_ground_75 : decode cX11_ground 75 = .ok (.iconst 1, 1) := dz_4 (n := 64) (r := 11) hz_X11_ground_64 rfl
theorem dX11_ground_76 : decode cX11_ground 76 = .ok (.invokevirtual 261, 3) := dz_182 (n := 64) (r := 12) hz_X11_ground_64 rfl rfl
theorem dX11_ground_79 : decode cX11_ground 79 = .ok (.iload_n 3, 1) := dz_29 (n := 64) (r := 15) hz_X11_ground_64 rfl
theorem dX11_ground_80 : decode cX11_ground 80 = .ok (.isub, 1) := dz_100 (n := 64) (r := 16) hz_X11_ground_64 rfl
theorem dX11_ground_81 : decode cX11_ground 81 = .ok (.goto 5, 3) := dz_167 (n := 64) (r := 17) hz_X11_ground_64 rfl (by decide +kernel)
theorem dX11_ground_84 : decode cX11_ground 84 = .ok (.bipush (-2), 2) := dz_16 (n := 64) (r := 20) hz_X11_ground_64 rfl rfl
theorem dX11_ground_86 : decode cX11_ground 86 = .ok (.ireturn, 1) := dz_172 (n := 64) (r := 22) hz_X11_ground_64 rfl
theorem dX11_ground_87 : decode cX11_ground 87 = .ok (.ldc 226, 2) := dz_18 (n := 64) (r := 23) hz_X11_ground_64 rfl rfl
theorem dX11_ground_89 : decode cX11_ground 89 = .ok (.ireturn, 1) := dz_172 (n := 64) (r := 25) hz_X11_ground_64 rfl
theorem hz_X11_pair_0 : (cX11_pair.data.toList.drop 0).take 40 = [42, 180, 0, 24, 27, 182, 0, 176, 153, 0, 25, 42, 180, 0, 24, 28, 182, 0, 176, 153, 0, 14, 42, 182, 0, 251, 29, 182, 1, 2, 154, 0, 6, 18, 226, 172, 42, 180, 0, 62] := by decide +kernel
theorem dX11_pair_0 : decode cX11_pair 0 = .ok (.aload_n 0, 1) := dz_42 (n := 0) (r := 0) hz_X11_pair_0 rfl
theorem dX11_pair_1 : decode cX11_pair 1 = .ok (.getfield 24, 3) := dz_180 (n := 0) (r := 1) hz_X11_pair_0 rfl rfl
theorem dX11_pair_4 : decode cX11_pair 4 = .ok (.iload_n 1, 1) := dz_27 (n := 0) (r := 4) hz_X11_pair_0 rfl
theorem dX11_pair_5 : decode cX11_pair 5 = .ok (.invokevirtual 176, 3) := dz_182 (n := 0) (r := 5) hz_X11_pair_0 rfl rfl
theorem dX11_pair_8 : decode cX11_pair 8 = .ok (.ifCond .eq 25, 3) := dz_153 (n := 0) (r := 8) hz_X11_pair_0 rfl (by decide +kernel)
theorem dX11_pair_11 : decode cX11_pair 11 = .ok (.aload_n 0, 1) := dz_42 (n := 0) (r := 11) hz_X11_pair_0 rfl
theorem dX11_pair_12 : decode cX11_pair 12 = .ok (.getfield 24, 3) := dz_180 (n := 0) (r := 12) hz_X11_pair_0 rfl rfl
theorem dX11_pair_15 : decode cX11_pair 15 = .ok (.iload_n 2, 1) := dz_28 (n := 0) (r := 15) hz_X11_pair_0 rfl
theorem dX11_pair_16 : decode cX11_pair 16 = .ok (.invokevirtual 176, 3) := dz_182 (n := 0) (r := 16) hz_X11_pair_0 rfl rfl
theorem dX11_pair_19 : decode cX11_pair 19 = .ok (.ifCond .eq 14, 3) := dz_153 (n := 0) (r := 19) hz_X11_pair_0 rfl (by decide +kernel)
theorem dX11_pair_22 : decode cX11_pair 22 = .ok (.aload_n 0, 1) := dz_42 (n := 0) (r := 22) hz_X11_pair_0 rfl
theorem dX11_pair_23 : decode cX11_pair 23 = .ok (.invokevirtual 251, 3) := dz_182 (n := 0) (r := 23) hz_X11_pair_0 rfl rfl
theorem dX11_pair_26 : decode cX11_pair 26 = .ok (.iload_n 3, 1) := dz_29 (n := 0) (r := 26) hz_X11_pair_0 rfl
theorem dX11_pair_27 : decode cX11_pair 27 = .ok (.invokevirtual 258, 3) := dz_182 (n := 0) (r := 27) hz_X11_pair_0 rfl rfl
theorem dX11_pair_30 : decode cX11_pair 30 = .ok (.ifCond .ne 6, 3) := dz_154 (n := 0) (r := 30) hz_X11_pair_0 rfl (by decide +kernel)
theorem hz_X11_pair_32 : (cX11_pair.data.toList.drop 32).take 40 = [6, 18, 226, 172, 42, 180, 0, 62, 29, 182, 1, 5, 54, 5, 42, 27, 28, 21, 5, 182, 1, 28, 54, 6, 42, 180, 0, 62, 21, 5, 182, 1, 8, 54, 7, 5, 21, 6, 104, 21] := by decide +kernel
theorem dX11_pair_33 : decode cX11_pair 33 = .ok (.ldc 226, 2) := dz_18 (n := 32) (r := 1) hz_X11_pair_32 rfl rfl
theorem dX11_pair_35 : decode cX11_pair 35 = .ok (.ireturn, 1) := dz_172 (n := 32) (r := 3) hz_X11_pair_32 rfl
theorem dX11_pair_36 : decode cX11_pair 36 = .ok (.aload_n 0, 1) := dz_42 (n := 32) (r := 4) hz_X11_pair_32 rfl
theorem dX11_pair_37 : decode cX11_pair 37 = .ok (.getfield 62, 3) := dz_180 (n := 32) (r := 5) hz_X11_pair_32 rfl rfl
theorem dX11_pair_40 : decode cX11_pair 40 = .ok (.iload_n 3, 1) := dz_29 (n := 32) (r := 8) hz_X11_pair_32 rfl
theorem dX11_pair_41 : decode cX11_pair 41 = .ok (.invokevirtual 261, 3) := dz_182 (n := 32) (r := 9) hz_X11_pair_32 rfl rfl
theorem dX11_pair_44 : decode cX11_pair 44 = .ok (.istore 5, 2) := dz_54 (n := 32) (r := 12) hz_X11_pair_32 rfl rfl
theorem dX11_pair_46 : decode cX11_pair 46 = .ok (.aload_n 0, 1) := dz_42 (n := 32) (r := 14) hz_X11_pair_32 rfl
theorem dX11_pair_47 : decode cX11_pair 47 = .ok (.iload_n 1, 1) := dz_27 (n := 32) (r := 15) hz_X11_pair_32 rfl
theorem dX11_pair_48 : decode cX11_pair 48 = .ok (.iload_n 2, 1) := dz_28 (n := 32) (r := 16) hz_X11_pair_32 rfl
theorem dX11_pair_49 : decode cX11_pair 49 = .ok (.iload 5, 2) := dz_21 (n := 32) (r := 17) hz_X11_pair_32 rfl rfl
theorem dX11_pair_51 : decode cX11_pair 51 = .ok (.invokevirtual 284, 3) := dz_182 (n := 32) (r := 19) hz_X11_pair_32 rfl rfl
theorem dX11_pair_54 : decode cX11_pair 54 = .ok (.istore 6, 2) := dz_54 (n := 32) (r := 22) hz_X11_pair_32 rfl rfl
theorem dX11_pair_56 : decode cX11_pair 56 = .ok (.aload_n 0, 1) := dz_42 (n := 32) (r := 24) hz_X11_pair_32 rfl
theorem dX11_pair_57 : decode cX11_pair 57 = .ok (.getfield 62, 3) := dz_180 (n := 32) (r := 25) hz_X11_pair_32 rfl rfl
theorem dX11_pair_60 : decode cX11_pair 60 = .ok (.iload 5, 2) := dz_21 (n := 32) (r := 28) hz_X11_pair_32 rfl rfl
theorem dX11_pair_62 : decode cX11_pair 62 = .ok (.invokevirtual 264, 3) := dz_182 (n := 32) (r := 30) hz_X11_pair_32 rfl rfl
theorem hz_X11_pair_64 : (cX11_pair.data.toList.drop 64).take 40 = [8, 54, 7, 5, 21, 6, 104, 21, 7, 100, 21, 7, 21, 4, 184, 1, 32, 172] := by decide +kernel
theorem dX11_pair_65 : decode cX11_pair 65 = .ok (.istore 7, 2) := dz_54 (n := 64) (r := 1) hz_X11_pair_64 rfl rfl
theorem dX11_pair_67 : decode cX11_pair 67 = .ok (.iconst 2, 1) := dz_5 (n := 64) (r := 3) hz_X11_pair_64 rfl
theorem dX11_pair_68 : decode cX11_pair 68 = .ok (.iload 6, 2) := dz_21 (n := 64) (r := 4) hz_X11_pair_64 rfl rfl
theorem dX11_pair_70 : decode cX11_pair 70 = .ok (.imul, 1) := dz_104 (n := 64) (r := 6) hz_X11_pair_64 rfl
theorem dX11_pair_71 : decode cX11_pair 71 = .ok (.iload 7, 2) := dz_21 (n := 64) (r := 7) hz_X11_pair_64 rfl rfl
theorem dX11_pair_73 : decode cX11_pair 73 = .ok (.isub, 1) := dz_100 (n := 64) (r := 9) hz_X11_pair_64 rfl
theorem dX11_pair_74 : decode cX11_pair 74 = .ok (.iload 7, 2) := dz_21 (n := 64) (r := 10) hz_X11_pair_64 rfl rfl
theorem dX11_pair_76 : decode cX11_pair 76 = .ok (.iload 4, 2) := dz_21 (n := 64) (r := 12) hz_X11_pair_64 rfl rfl
theorem dX11_pair_78 : decode cX11_pair 78 = .ok (.invokestatic 288, 3) := dz_184 (n := 64) (r := 14) hz_X11_pair_64 rfl rfl
theorem dX11_pair_81 : decode cX11_pair 81 = .ok (.ireturn, 1) := dz_172 (n := 64) (r := 17) hz_X11_pair_64 rfl
theorem hz_X11_countAlike_0 : (cX11_countAlike.data.toList.drop 0).take 40 = [42, 180, 0, 24, 182, 1, 35, 54, 4, 3, 54, 5, 3, 54, 6, 21, 6, 21, 4, 162, 0, 52, 42, 180, 0, 31, 21, 6, 182, 1, 39, 153, 0, 34, 42, 180, 0, 52, 21, 6] := by decide +kernel
theorem dX11_countAlike_0 : decode cX11_countAlike 0 = .ok (.aload_n 0, 1) := dz_42 (n := 0) (r := 0) hz_X11_countAlike_0 rfl
theorem dX11_countAlike_1 : decode cX11_countAlike 1 = .ok (.getfield 24, 3) := dz_180 (n := 0) (r := 1) hz_X11_countAlike_0 rfl rfl
theorem dX11_countAlike_4 : decode cX11_countAlike 4 = .ok (.invokevirtual 291, 3) := dz_182 (n := 0) (r := 4) hz_X11_countAlike_0 rfl rfl
theorem dX11_countAlike_7 : decode cX11_countAlike 7 = .ok (.istore 4, 2) := dz_54 (n := 0) (r := 7) hz_X11_countAlike_0 rfl rfl
theorem dX11_countAlike_9 : decode cX11_countAlike 9 = .ok (.iconst 0, 1) := dz_3 (n := 0) (r := 9) hz_X11_countAlike_0 rfl
theorem dX11_countAlike_10 : decode cX11_countAlike 10 = .ok (.istore 5, 2) := dz_54 (n := 0) (r := 10) hz_X11_countAlike_0 rfl rfl
theorem dX11_countAlike_12 : decode cX11_countAlike 12 = .ok (.iconst 0, 1) := dz_3 (n := 0) (r := 12) hz_X11_countAlike_0 rfl
theorem dX11_countAlike_13 : decode cX11_countAlike 13 = .ok (.istore 6, 2) := dz_54 (n := 0) (r := 13) hz_X11_countAlike_0 rfl rfl
theorem dX11_countAlike_15 : decode cX11_countAlike 15 = .ok (.iload 6, 2) := dz_21 (n := 0) (r := 15) hz_X11_countAlike_0 rfl rfl
theorem dX11_countAlike_17 : decode cX11_countAlike 17 = .ok (.iload 4, 2) := dz_21 (n := 0) (r := 17) hz_X11_countAlike_0 rfl rfl
theorem dX11_countAlike_19 : decode cX11_countAlike 19 = .ok (.if_icmp .ge 52, 3) := dz_162 (n := 0) (r := 19) hz_X11_countAlike_0 rfl (by decide +kernel)
theorem dX11_countAlike_22 : decode cX11_countAlike 22 = .ok (.aload_n 0, 1) := dz_42 (n := 0) (r := 22) hz_X11_countAlike_0 rfl
theorem dX11_countAlike_23 : decode cX11_countAlike 23 = .ok (.getfield 31, 3) := dz_180 (n := 0) (r := 23) hz_X11_countAlike_0 rfl rfl
theorem dX11_countAlike_26 : decode cX11_countAlike 26 = .ok (.iload 6, 2) := dz_21 (n := 0) (r := 26) hz_X11_countAlike_0 rfl rfl
theorem dX11_countAlike_28 : decode cX11_countAlike 28 = .ok (.invokevirtual 295, 3) := dz_182 (n := 0) (r := 28) hz_X11_countAlike_0 rfl rfl
theorem dX11_countAlike_31 : decode cX11_countAlike 31 = .ok (.ifCond .eq 34, 3) := dz_153 (n := 0) (r := 31) hz_X11_countAlike_0 rfl (by decide +kernel)
theorem hz_X11_countAlike_32 : (cX11_countAlike.data.toList.drop 32).take 40 = [0, 34, 42, 180, 0, 52, 21, 6, 182, 1, 42, 29, 160, 0, 21, 21, 6, 27, 184, 0, 236, 21, 6, 28, 184, 0, 236, 160, 0, 6, 132, 5, 1, 132, 6, 1, 167, 255, 203, 21] := by decide +kernel
theorem dX11_countAlike_34 : decode cX11_countAlike 34 = .ok (.aload_n 0, 1) := dz_42 (n := 32) (r := 2) hz_X11_countAlike_32 rfl
theorem dX11_countAlike_35 : decode cX11_countAlike 35 = .ok (.getfield 52, 3) := dz_180 (n := 32) (r := 3) hz_X11_countAlike_32 rfl rfl
theorem dX11_countAlike_38 : decode cX11_countAlike 38 = .ok (.iload 6, 2) := dz_21 (n := 32) (r := 6) hz_X11_countAlike_32 rfl rfl
theorem dX11_countAlike_40 : decode cX11_countAlike 40 = .ok (.invokevirtual 298, 3) := dz_182 (n := 32) (r := 8) hz_X11_countAlike_32 rfl rfl
theorem dX11_countAlike_43 : decode cX11_countAlike 43 = .ok (.iload_n 3, 1) := dz_29 (n := 32) (r := 11) hz_X11_countAlike_32 rfl
theorem dX11_countAlike_44 : decode cX11_countAlike 44 = .ok (.if_icmp .ne 21, 3) := dz_160 (n := 32) (r := 12) hz_X11_countAlike_32 rfl (by decide +kernel)
theorem dX11_countAlike_47 : decode cX11_countAlike 47 = .ok (.iload 6, 2) := dz_21 (n := 32) (r := 15) hz_X11_countAlike_32 rfl rfl
theorem dX11_countAlike_49 : decode cX11_countAlike 49 = .ok (.iload_n 1, 1) := dz_27 (n := 32) (r := 17) hz_X11_countAlike_32 rfl
theorem dX11_countAlike_50 : decode cX11_countAlike 50 = .ok (.invokestatic 236, 3) := dz_184 (n := 32) (r := 18) hz_X11_countAlike_32 rfl rfl
theorem dX11_countAlike_53 : decode cX11_countAlike 53 = .ok (.iload 6, 2) := dz_21 (n := 32) (r := 21) hz_X11_countAlike_32 rfl rfl
theorem dX11_countAlike_55 : decode cX11_countAlike 55 = .ok (.iload_n 2, 1) := dz_28 (n := 32) (r := 23) hz_X11_countAlike_32 rfl
theorem dX11_countAlike_56 : decode cX11_countAlike 56 = .ok (.invokestatic 236, 3) := dz_184 (n := 32) (r := 24) hz_X11_countAlike_32 rfl rfl
theorem dX11_countAlike_59 : decode cX11_countAlike 59 = .ok (.if_icmp .ne 6, 3) := dz_160 (n := 32) (r := 27) hz_X11_countAlike_32 rfl (by decide +kernel)
theorem dX11_countAlike_62 : decode cX11_countAlike 62 = .ok (.iinc 5 1, 3) := dz_132 (n := 32) (r := 30) hz_X11_countAlike_32 rfl rfl rfl
theorem hz_X11_countAlike_64 : (cX11_countAlike.data.toList.drop 64).take 40 = [1, 132, 6, 1, 167, 255, 203, 21, 5, 172] := by decide +kernel
theorem dX11_countAlike_65 : decode cX11_countAlike 65 = .ok (.iinc 6 1, 3) := dz_132 (n := 64) (r := 1) hz_X11_countAlike_64 rfl rfl rfl
theorem dX11_countAlike_68 : decode cX11_countAlike 68 = .ok (.goto (-53), 3) := dz_167 (n := 64) (r := 4) hz_X11_countAlike_64 rfl (by decide +kernel)
theorem dX11_countAlike_71 : decode cX11_countAlike 71 = .ok (.iload 5, 2) := dz_21 (n := 64) (r := 7) hz_X11_countAlike_64 rfl rfl
theorem dX11_countAlike_73 : decode cX11_countAlike 73 = .ok (.ireturn, 1) := dz_172 (n := 64) (r := 9) hz_X11_countAlike_64 rfl
theorem hz_X11_mean_0 : (cX11_mean.data.toList.drop 0).take 40 = [42, 182, 0, 251, 78, 45, 27, 182, 1, 2, 154, 0, 6, 18, 226, 172, 45, 27, 182, 1, 5, 54, 4, 45, 21, 4, 182, 1, 45, 45, 21, 4, 182, 1, 8, 28, 184, 1, 32, 172] := by decide +kernel
theorem dX11_mean_0 : decode cX11_mean 0 = .ok (.aload_n 0, 1) := dz_42 (n := 0) (r := 0) hz_X11_mean_0 rfl
theorem dX11_mean_1 : decode cX11_mean 1 = .ok (.invokevirtual 251, 3) := dz_182 (n := 0) (r := 1) hz_X11_mean_0 rfl rfl
theorem dX11_mean_4 : decode cX11_mean 4 = .ok (.astore_n 3, 1) := dz_78 (n := 0) (r := 4) hz_X11_mean_0 rfl
theorem dX11_mean_5 : decode cX11_mean 5 = .ok (.aload_n 3, 1) := dz_45 (n := 0) (r := 5) hz_X11_mean_0 rfl
theorem dX11_mean_6 : decode cX11_mean 6 = .ok (.iload_n 1, 1) := dz_27 (n := 0) (r := 6) hz_X11_mean_0 rfl
theorem dX11_mean_7 : decode cX11_mean 7 = .ok (.invokevirtual 258, 3) := dz_182 (n := 0) (r := 7) hz_X11_mean_0 rfl rfl
theorem dX11_mean_10 : decode cX11_mean 10 = .ok (.ifCond .ne 6, 3) := dz_154 (n := 0) (r := 10) hz_X11_mean_0 rfl (by decide +kernel)
theorem dX11_mean_13 : decode cX11_mean 13 = .ok (.ldc 226, 2) := dz_18 (n := 0) (r := 13) hz_X11_mean_0 rfl rfl
theorem dX11_mean_15 : decode cX11_mean 15 = .ok (.ireturn, 1) := dz_172 (n := 0) (r := 15) hz_X11_mean_0 rfl
theorem dX11_mean_16 : decode cX11_mean 16 = .ok (.aload_n 3, 1) := dz_45 (n := 0) (r := 16) hz_X11_mean_0 rfl
theorem dX11_mean_17 : decode cX11_mean 17 = .ok (.iload_n 1, 1) := dz_27 (n := 0) (r := 17) hz_X11_mean_0 rfl
theorem dX11_mean_18 : decode cX11_mean 18 = .ok (.invokevirtual 261, 3) := dz_182 (n := 0) (r := 18) hz_X11_mean_0 rfl rfl
theorem dX11_mean_21 : decode cX11_mean 21 = .ok (.istore 4, 2) := dz_54 (n := 0) (r := 21) hz_X11_mean_0 rfl rfl
theorem dX11_mean_23 : decode cX11_mean 23 = .ok (.aload_n 3, 1) := dz_45 (n := 0) (r := 23) hz_X11_mean_0 rfl
theorem dX11_mean_24 : decode cX11_mean 24 = .ok (.iload 4, 2) := dz_21 (n := 0) (r := 24) hz_X11_mean_0 rfl rfl
theorem dX11_mean_26 : decode cX11_mean 26 = .ok (.invokevirtual 301, 3) := dz_182 (n := 0) (r := 26) hz_X11_mean_0 rfl rfl
theorem dX11_mean_29 : decode cX11_mean 29 = .ok (.aload_n 3, 1) := dz_45 (n := 0) (r := 29) hz_X11_mean_0 rfl
theorem dX11_mean_30 : decode cX11_mean 30 = .ok (.iload 4, 2) := dz_21 (n := 0) (r := 30) hz_X11_mean_0 rfl rfl
theorem hz_X11_mean_32 : (cX11_mean.data.toList.drop 32).take 40 = [182, 1, 8, 28, 184, 1, 32, 172] := by decide +kernel
theorem dX11_mean_32 : decode cX11_mean 32 = .ok (.invokevirtual 264, 3) := dz_182 (n := 32) (r := 0) hz_X11_mean_32 rfl rfl
theorem dX11_mean_35 : decode cX11_mean 35 = .ok (.iload_n 2, 1) := dz_28 (n := 32) (r := 3) hz_X11_mean_32 rfl
theorem dX11_mean_36 : decode cX11_mean 36 = .ok (.invokestatic 288, 3) := dz_184 (n := 32) (r := 4) hz_X11_mean_32 rfl rfl
theorem dX11_mean_39 : decode cX11_mean 39 = .ok (.ireturn, 1) := dz_172 (n := 32) (r := 7) hz_X11_mean_32 rfl
theorem hz_X11_value_0 : (cX11_value.data.toList.drop 0).take 40 = [27, 155, 0, 10, 27, 19, 1, 48, 161, 0, 5, 2, 172, 42, 182, 0, 251, 77, 44, 180, 0, 255, 154, 0, 5, 3, 172, 9, 66, 10, 55, 5, 44, 3, 182, 1, 5, 54, 7, 21] := by decide +kernel
theorem dX11_value_0 : decode cX11_value 0 = .ok (.iload_n 1, 1) := dz_27 (n := 0) (r := 0) hz_X11_value_0 rfl
theorem dX11_value_1 : decode cX11_value 1 = .ok (.ifCond .lt 10, 3) := dz_155 (n := 0) (r := 1) hz_X11_value_0 rfl (by decide +kernel)
theorem dX11_value_4 : decode cX11_value 4 = .ok (.iload_n 1, 1) := dz_27 (n := 0) (r := 4) hz_X11_value_0 rfl
theorem dX11_value_5 : decode cX11_value 5 = .ok (.ldc_w 304, 3) := dz_19 (n := 0) (r := 5) hz_X11_value_0 rfl rfl
theorem dX11_value_8 : decode cX11_value 8 = .ok (.if_icmp .lt 5, 3) := dz_161 (n := 0) (r := 8) hz_X11_value_0 rfl (by decide +kernel)
theorem dX11_value_11 : decode cX11_value 11 = .ok (.iconst (-1), 1) := dz_2 (n := 0) (r := 11) hz_X11_value_0 rfl
theorem dX11_value_12 : decode cX11_value 12 = .ok (.ireturn, 1) := dz_172 (n := 0) (r := 12) hz_X11_value_0 rfl
theorem dX11_value_13 : decode cX11_value 13 = .ok (.aload_n 0, 1) := dz_42 (n := 0) (r := 13) hz_X11_value_0 rfl
theorem dX11_value_14 : decode cX11_value 14 = .ok (.invokevirtual 251, 3) := dz_182 (n := 0) (r := 14) hz_X11_value_0 rfl rfl
theorem dX11_value_17 : decode cX11_value 17 = .ok (.astore_n 2, 1) := dz_77 (n := 0) (r := 17) hz_X11_value_0 rfl
theorem dX11_value_18 : decode cX11_value 18 = .ok (.aload_n 2, 1) := dz_44 (n := 0) (r := 18) hz_X11_value_0 rfl
theorem dX11_value_19 : decode cX11_value 19 = .ok (.getfield 255, 3) := dz_180 (n := 0) (r := 19) hz_X11_value_0 rfl rfl
theorem dX11_value_22 : decode cX11_value 22 = .ok (.ifCond .ne 5, 3) := dz_154 (n := 0) (r := 22) hz_X11_value_0 rfl (by decide +kernel)
theorem dX11_value_25 : decode cX11_value 25 = .ok (.iconst 0, 1) := dz_3 (n := 0) (r := 25) hz_X11_value_0 rfl
theorem dX11_value_26 : decode cX11_value 26 = .ok (.ireturn, 1) := dz_172 (n := 0) (r := 26) hz_X11_value_0 rfl
theorem dX11_value_27 : decode cX11_value 27 = .ok (.lconst 0, 1) := dz_9 (n := 0) (r := 27) hz_X11_value_0 rfl
theorem dX11_value_28 : decode cX11_value 28 = .ok (.lstore_n 3, 1) := dz_66 (n := 0) (r := 28) hz_X11_value_0 rfl
theorem dX11_value_29 : decode cX11_value 29 = .ok (.lconst 1, 1) := dz_10 (n := 0) (r := 29) hz_X11_value_0 rfl
theorem dX11_value_30 : decode cX11_value 30 = .ok (.lstore 5, 2) := dz_55 (n := 0) (r := 30) hz_X11_value_0 rfl rfl
theorem hz_X11_value_32 : (cX11_value.data.toList.drop 32).take 40 = [44, 3, 182, 1, 5, 54, 7, 21, 7, 17, 0, 144, 163, 0, 37, 33, 44, 21, 7, 182, 1, 8, 133, 22, 5, 105, 97, 20, 1, 49, 113, 66, 22, 5, 27, 133, 105, 20, 1, 49] := by decide +kernel
theorem dX11_value_32 : decode cX11_value 32 = .ok (.aload_n 2, 1) := dz_44 (n := 32) (r := 0) hz_X11_value_32 rfl
theorem dX11_value_33 : decode cX11_value 33 = .ok (.iconst 0, 1) := dz_3 (n := 32) (r := 1) hz_X11_value_32 rfl
theorem dX11_value_34 : decode cX11_value 34 = .ok (.invokevirtual 261, 3) := dz_182 (n := 32) (r := 2) hz_X11_value_32 rfl rfl
theorem dX11_value_37 : decode cX11_value 37 = .ok (.istore 7, 2) := dz_54 (n := 32) (r := 5) hz_X11_value_32 rfl rfl
theorem dX11_value_39 : decode cX11_value 39 = .ok (.iload 7, 2) := dz_21 (n := 32) (r := 7) hz_X11_value_32 rfl rfl
theorem dX11_value_41 : decode cX11_value 41 = .ok (.sipush 144, 3) := dz_17 (n := 32) (r := 9) hz_X11_value_32 rfl (by decide +kernel)
theorem dX11_value_44 : decode cX11_value 44 = .ok (.if_icmp .gt 37, 3) := dz_163 (n := 32) (r := 12) hz_X11_value_32 rfl (by decide +kernel)
theorem dX11_value_47 : decode cX11_value 47 = .ok (.lload_n 3, 1) := dz_33 (n := 32) (r := 15) hz_X11_value_32 rfl
theorem dX11_value_48 : decode cX11_value 48 = .ok (.aload_n 2, 1) := dz_44 (n := 32) (r := 16) hz_X11_value_32 rfl
theorem dX11_value_49 : decode cX11_value 49 = .ok (.iload 7, 2) := dz_21 (n := 32) (r := 17) hz_X11_value_32 rfl rfl
theorem dX11_value_51 : decode cX11_value 51 = .ok (.invokevirtual 264, 3) := dz_182 (n := 32) (r := 19) hz_X11_value_32 rfl rfl
theorem dX11_value_54 : decode cX11_value 54 = .ok (.i2l, 1) := dz_133 (n := 32) (r := 22) hz_X11_value_32 rfl
theorem dX11_value_55 : decode cX11_value 55 = .ok (.lload 5, 2) := dz_22 (n := 32) (r := 23) hz_X11_value_32 rfl rfl
theorem dX11_value_57 : decode cX11_value 57 = .ok (.lmul, 1) := dz_105 (n := 32) (r := 25) hz_X11_value_32 rfl
theorem dX11_value_58 : decode cX11_value 58 = .ok (.ladd, 1) := dz_97 (n := 32) (r := 26) hz_X11_value_32 rfl
theorem dX11_value_59 : decode cX11_value 59 = .ok (.ldc2_w 305, 3) := dz_20 (n := 32) (r := 27) hz_X11_value_32 rfl rfl
theorem dX11_value_62 : decode cX11_value 62 = .ok (.lrem, 1) := dz_113 (n := 32) (r := 30) hz_X11_value_32 rfl
theorem dX11_value_63 : decode cX11_value 63 = .ok (.lstore_n 3, 1) := dz_66 (n := 32) (r := 31) hz_X11_value_32 rfl
theorem hz_X11_value_64 : (cX11_value.data.toList.drop 64).take 40 = [22, 5, 27, 133, 105, 20, 1, 49, 113, 55, 5, 132, 7, 1, 167, 255, 217, 33, 136, 172] := by decide +kernel
theorem dX11_value_64 : decode cX11_value 64 = .ok (.lload 5, 2) := dz_22 (n := 64) (r := 0) hz_X11_value_64 rfl rfl
theorem dX11_value_66 : decode cX11_value 66 = .ok (.iload_n 1, 1) := dz_27 (n := 64) (r := 2) hz_X11_value_64 rfl
theorem dX11_value_67 : decode cX11_value 67 = .ok (.i2l, 1) := dz_133 (n := 64) (r := 3) hz_X11_value_64 rfl
theorem dX11_value_68 : decode cX11_value 68 = .ok (.lmul, 1) := dz_105 (n := 64) (r := 4) hz_X11_value_64 rfl
theorem dX11_value_69 : decode cX11_value 69 = .ok (.ldc2_w 305, 3) := dz_20 (n := 64) (r := 5) hz_X11_value_64 rfl rfl
theorem dX11_value_72 : decode cX11_value 72 = .ok (.lrem, 1) := dz_113 (n := 64) (r := 8) hz_X11_value_64 rfl
theorem dX11_value_73 : decode cX11_value 73 = .ok (.lstore 5, 2) := dz_55 (n := 64) (r := 9) hz_X11_value_64 rfl rfl
theorem dX11_value_75 : decode cX11_value 75 = .ok (.iinc 7 1, 3) := dz_132 (n := 64) (r := 11) hz_X11_value_64 rfl rfl rfl
theorem dX11_value_78 : decode cX11_value 78 = .ok (.goto (-39), 3) := dz_167 (n := 64) (r := 14) hz_X11_value_64 rfl (by decide +kernel)
theorem dX11_value_81 : decode cX11_value 81 = .ok (.lload_n 3, 1) := dz_33 (n := 64) (r := 17) hz_X11_value_64 rfl
theorem dX11_value_82 : decode cX11_value 82 = .ok (.l2i, 1) := dz_136 (n := 64) (r := 18) hz_X11_value_64 rfl
theorem dX11_value_83 : decode cX11_value 83 = .ok (.ireturn, 1) := dz_172 (n := 64) (r := 19) hz_X11_value_64 rfl
theorem hz_X11_joined_0 : (cX11_joined.data.toList.drop 0).take 40 = [42, 27, 182, 1, 51, 58, 4, 25, 4, 198, 0, 11, 25, 4, 180, 0, 150, 154, 0, 7, 20, 1, 55, 173, 42, 25, 4, 182, 1, 57, 28, 2, 160, 0, 9, 42, 182, 1, 61, 133] := by decide +kernel
theorem dX11_joined_0 : decode cX11_joined 0 = .ok (.aload_n 0, 1) := dz_42 (n := 0) (r := 0) hz_X11_joined_0 rfl
theorem dX11_joined_1 : decode cX11_joined 1 = .ok (.iload_n 1, 1) := dz_27 (n := 0) (r := 1) hz_X11_joined_0 rfl
theorem dX11_joined_2 : decode cX11_joined 2 = .ok (.invokevirtual 307, 3) := dz_182 (n := 0) (r := 2) hz_X11_joined_0 rfl rfl
theorem dX11_joined_5 : decode cX11_joined 5 = .ok (.astore 4, 2) := dz_58 (n := 0) (r := 5) hz_X11_joined_0 rfl rfl
theorem dX11_joined_7 : decode cX11_joined 7 = .ok (.aload 4, 2) := dz_25 (n := 0) (r := 7) hz_X11_joined_0 rfl rfl
theorem dX11_joined_9 : decode cX11_joined 9 = .ok (.ifnull 11, 3) := dz_198 (n := 0) (r := 9) hz_X11_joined_0 rfl (by decide +kernel)
theorem dX11_joined_12 : decode cX11_joined 12 = .ok (.aload 4, 2) := dz_25 (n := 0) (r := 12) hz_X11_joined_0 rfl rfl
theorem dX11_joined_14 : decode cX11_joined 14 = .ok (.getfield 150, 3) := dz_180 (n := 0) (r := 14) hz_X11_joined_0 rfl rfl
theorem dX11_joined_17 : decode cX11_joined 17 = .ok (.ifCond .ne 7, 3) := dz_154 (n := 0) (r := 17) hz_X11_joined_0 rfl (by decide +kernel)
theorem dX11_joined_20 : decode cX11_joined 20 = .ok (.ldc2_w 311, 3) := dz_20 (n := 0) (r := 20) hz_X11_joined_0 rfl rfl
theorem dX11_joined_23 : decode cX11_joined 23 = .ok (.lreturn, 1) := dz_173 (n := 0) (r := 23) hz_X11_joined_0 rfl
theorem dX11_joined_24 : decode cX11_joined 24 = .ok (.aload_n 0, 1) := dz_42 (n := 0) (r := 24) hz_X11_joined_0 rfl
theorem dX11_joined_25 : decode cX11_joined 25 = .ok (.aload 4, 2) := dz_25 (n := 0) (r := 25) hz_X11_joined_0 rfl rfl
theorem dX11_joined_27 : decode cX11_joined 27 = .ok (.invokevirtual 313, 3) := dz_182 (n := 0) (r := 27) hz_X11_joined_0 rfl rfl
theorem dX11_joined_30 : decode cX11_joined 30 = .ok (.iload_n 2, 1) := dz_28 (n := 0) (r := 30) hz_X11_joined_0 rfl
theorem dX11_joined_31 : decode cX11_joined 31 = .ok (.iconst (-1), 1) := dz_2 (n := 0) (r := 31) hz_X11_joined_0 rfl
theorem hz_X11_joined_32 : (cX11_joined.data.toList.drop 32).take 40 = [160, 0, 9, 42, 182, 1, 61, 133, 173, 42, 28, 182, 1, 64, 54, 5, 21, 5, 155, 0, 13, 21, 5, 42, 180, 0, 87, 190, 161, 0, 7, 20, 1, 55, 173, 29, 171, 0, 0, 0] := by decide +kernel
theorem dX11_joined_32 : decode cX11_joined 32 = .ok (.if_icmp .ne 9, 3) := dz_160 (n := 32) (r := 0) hz_X11_joined_32 rfl (by decide +kernel)
theorem dX11_joined_35 : decode cX11_joined 35 = .ok (.aload_n 0, 1) := dz_42 (n := 32) (r := 3) hz_X11_joined_32 rfl
theorem dX11_joined_36 : decode cX11_joined 36 = .ok (.invokevirtual 317, 3) := dz_182 (n := 32) (r := 4) hz_X11_joined_32 rfl rfl
theorem dX11_joined_39 : decode cX11_joined 39 = .ok (.i2l, 1) := dz_133 (n := 32) (r := 7) hz_X11_joined_32 rfl
theorem dX11_joined_40 : decode cX11_joined 40 = .ok (.lreturn, 1) := dz_173 (n := 32) (r := 8) hz_X11_joined_32 rfl
theorem dX11_joined_41 : decode cX11_joined 41 = .ok (.aload_n 0, 1) := dz_42 (n := 32) (r := 9) hz_X11_joined_32 rfl
theorem dX11_joined_42 : decode cX11_joined 42 = .ok (.iload_n 2, 1) := dz_28 (n := 32) (r := 10) hz_X11_joined_32 rfl
theorem dX11_joined_43 : decode cX11_joined 43 = .ok (.invokevirtual 320, 3) := dz_182 (n := 32) (r := 11) hz_X11_joined_32 rfl rfl
theorem dX11_joined_46 : decode cX11_joined 46 = .ok (.istore 5, 2) := dz_54 (n := 32) (r := 14) hz_X11_joined_32 rfl rfl
theorem dX11_joined_48 : decode cX11_joined 48 = .ok (.iload 5, 2) := dz_21 (n := 32) (r := 16) hz_X11_joined_32 rfl rfl
theorem dX11_joined_50 : decode cX11_joined 50 = .ok (.ifCond .lt 13, 3) := dz_155 (n := 32) (r := 18) hz_X11_joined_32 rfl (by decide +kernel)
theorem dX11_joined_53 : decode cX11_joined 53 = .ok (.iload 5, 2) := dz_21 (n := 32) (r := 21) hz_X11_joined_32 rfl rfl
theorem dX11_joined_55 : decode cX11_joined 55 = .ok (.aload_n 0, 1) := dz_42 (n := 32) (r := 23) hz_X11_joined_32 rfl
theorem dX11_joined_56 : decode cX11_joined 56 = .ok (.getfield 87, 3) := dz_180 (n := 32) (r := 24) hz_X11_joined_32 rfl rfl
theorem dX11_joined_59 : decode cX11_joined 59 = .ok (.arraylength, 1) := dz_190 (n := 32) (r := 27) hz_X11_joined_32 rfl
theorem dX11_joined_60 : decode cX11_joined 60 = .ok (.if_icmp .lt 7, 3) := dz_161 (n := 32) (r := 28) hz_X11_joined_32 rfl (by decide +kernel)
theorem dX11_joined_63 : decode cX11_joined 63 = .ok (.ldc2_w 311, 3) := dz_20 (n := 32) (r := 31) hz_X11_joined_32 rfl rfl
theorem hz_X11_joined_64 : (cX11_joined.data.toList.drop 64).take 40 = [1, 55, 173, 29, 171, 0, 0, 0, 0, 0, 0, 44, 0, 0, 0, 2, 0, 0, 0, 0, 0, 0, 0, 28, 0, 0, 0, 1, 0, 0, 0, 36, 21, 5, 17, 1, 32, 100, 133, 173] := by decide +kernel
theorem dX11_joined_66 : decode cX11_joined 66 = .ok (.lreturn, 1) := dz_173 (n := 64) (r := 2) hz_X11_joined_64 rfl
theorem dX11_joined_67 : decode cX11_joined 67 = .ok (.iload_n 3, 1) := dz_29 (n := 64) (r := 3) hz_X11_joined_64 rfl
theorem dX11_joined_68 : decode cX11_joined 68 = .ok (.lookupswitch 44 #[(0, 28), (1, 36)], 28) := by decide +kernel
theorem hz_X11_joined_96 : (cX11_joined.data.toList.drop 96).take 40 = [21, 5, 17, 1, 32, 100, 133, 173, 42, 180, 0, 87, 21, 5, 47, 173, 20, 1, 55, 173] := by decide +kernel
theorem dX11_joined_96 : decode cX11_joined 96 = .ok (.iload 5, 2) := dz_21 (n := 96) (r := 0) hz_X11_joined_96 rfl rfl
theorem dX11_joined_98 : decode cX11_joined 98 = .ok (.sipush 288, 3) := dz_17 (n := 96) (r := 2) hz_X11_joined_96 rfl (by decide +kernel)
theorem dX11_joined_101 : decode cX11_joined 101 = .ok (.isub, 1) := dz_100 (n := 96) (r := 5) hz_X11_joined_96 rfl
theorem dX11_joined_102 : decode cX11_joined 102 = .ok (.i2l, 1) := dz_133 (n := 96) (r := 6) hz_X11_joined_96 rfl
theorem dX11_joined_103 : decode cX11_joined 103 = .ok (.lreturn, 1) := dz_173 (n := 96) (r := 7) hz_X11_joined_96 rfl
theorem dX11_joined_104 : decode cX11_joined 104 = .ok (.aload_n 0, 1) := dz_42 (n := 96) (r := 8) hz_X11_joined_96 rfl
theorem dX11_joined_105 : decode cX11_joined 105 = .ok (.getfield 87, 3) := dz_180 (n := 96) (r := 9) hz_X11_joined_96 rfl rfl
theorem dX11_joined_108 : decode cX11_joined 108 = .ok (.iload 5, 2) := dz_21 (n := 96) (r := 12) hz_X11_joined_96 rfl rfl
theorem dX11_joined_110 : decode cX11_joined 110 = .ok (.laload, 1) := dz_47 (n := 96) (r := 14) hz_X11_joined_96 rfl
theorem dX11_joined_111 : decode cX11_joined 111 = .ok (.lreturn, 1) := dz_173 (n := 96) (r := 15) hz_X11_joined_96 rfl
theorem dX11_joined_112 : decode cX11_joined 112 = .ok (.ldc2_w 311, 3) := dz_20 (n := 96) (r := 16) hz_X11_joined_96 rfl rfl
theorem dX11_joined_115 : decode cX11_joined 115 = .ok (.lreturn, 1) := dz_173 (n := 96) (r := 19) hz_X11_joined_96 rfl
theorem hz_X11_joinWays_0 : (cX11_joinWays.data.toList.drop 0).take 40 = [42, 182, 0, 251, 180, 1, 67, 77, 42, 43, 182, 1, 70, 78, 42, 180, 0, 87, 9, 184, 1, 74, 3, 54, 4, 21, 4, 44, 190, 162, 0, 69, 3, 54, 5, 44, 21, 4, 46, 153] := by decide +kernel
theorem dX11_joinWays_0 : decode cX11_joinWays 0 = .ok (.aload_n 0, 1) := dz_42 (n := 0) (r := 0) hz_X11_joinWays_0 rfl
theorem dX11_joinWays_1 : decode cX11_joinWays 1 = .ok (.invokevirtual 251, 3) := dz_182 (n := 0) (r := 1) hz_X11_joinWays_0 rfl rfl
theorem dX11_joinWays_4 : decode cX11_joinWays 4 = .ok (.getfield 323, 3) := dz_180 (n := 0) (r := 4) hz_X11_joinWays_0 rfl rfl
theorem dX11_joinWays_7 : decode cX11_joinWays 7 = .ok (.astore_n 2, 1) := dz_77 (n := 0) (r := 7) hz_X11_joinWays_0 rfl
theorem dX11_joinWays_8 : decode cX11_joinWays 8 = .ok (.aload_n 0, 1) := dz_42 (n := 0) (r := 8) hz_X11_joinWays_0 rfl
theorem dX11_joinWays_9 : decode cX11_joinWays 9 = .ok (.aload_n 1, 1) := dz_43 (n := 0) (r := 9) hz_X11_joinWays_0 rfl
theorem dX11_joinWays_10 : decode cX11_joinWays 10 = .ok (.invokevirtual 326, 3) := dz_182 (n := 0) (r := 10) hz_X11_joinWays_0 rfl rfl
theorem dX11_joinWays_13 : decode cX11_joinWays 13 = .ok (.astore_n 3, 1) := dz_78 (n := 0) (r := 13) hz_X11_joinWays_0 rfl
theorem dX11_joinWays_14 : decode cX11_joinWays 14 = .ok (.aload_n 0, 1) := dz_42 (n := 0) (r := 14) hz_X11_joinWays_0 rfl
theorem dX11_joinWays_15 : decode cX11_joinWays 15 = .ok (.getfield 87, 3) := dz_180 (n := 0) (r := 15) hz_X11_joinWays_0 rfl rfl
theorem dX11_joinWays_18 : decode cX11_joinWays 18 = .ok (.lconst 0, 1) := dz_9 (n := 0) (r := 18) hz_X11_joinWays_0 rfl
theorem dX11_joinWays_19 : decode cX11_joinWays 19 = .ok (.invokestatic 330, 3) := dz_184 (n := 0) (r := 19) hz_X11_joinWays_0 rfl rfl
theorem dX11_joinWays_22 : decode cX11_joinWays 22 = .ok (.iconst 0, 1) := dz_3 (n := 0) (r := 22) hz_X11_joinWays_0 rfl
theorem dX11_joinWays_23 : decode cX11_joinWays 23 = .ok (.istore 4, 2) := dz_54 (n := 0) (r := 23) hz_X11_joinWays_0 rfl rfl
theorem dX11_joinWays_25 : decode cX11_joinWays 25 = .ok (.iload 4, 2) := dz_21 (n := 0) (r := 25) hz_X11_joinWays_0 rfl rfl
theorem dX11_joinWays_27 : decode cX11_joinWays 27 = .ok (.aload_n 2, 1) := dz_44 (n := 0) (r := 27) hz_X11_joinWays_0 rfl
theorem dX11_joinWays_28 : decode cX11_joinWays 28 = .ok (.arraylength, 1) := dz_190 (n := 0) (r := 28) hz_X11_joinWays_0 rfl
theorem dX11_joinWays_29 : decode cX11_joinWays 29 = .ok (.if_icmp .ge 69, 3) := dz_162 (n := 0) (r := 29) hz_X11_joinWays_0 rfl (by decide +kernel)
theorem hz_X11_joinWays_32 : (cX11_joinWays.data.toList.drop 32).take 40 = [3, 54, 5, 44, 21, 4, 46, 153, 0, 53, 21, 5, 45, 190, 162, 0, 46, 21, 4, 21, 5, 96, 42, 180, 0, 87, 190, 162, 0, 33, 42, 180, 0, 87, 21, 4, 21, 5, 96, 92] := by decide +kernel
theorem dX11_joinWays_32 : decode cX11_joinWays 32 = .ok (.iconst 0, 1) := dz_3 (n := 32) (r := 0) hz_X11_joinWays_32 rfl
theorem dX11_joinWays_33 : decode cX11_joinWays 33 = .ok (.istore 5, 2) := dz_54 (n := 32) (r := 1) hz_X11_joinWays_32 rfl rfl
theorem dX11_joinWays_35 : decode cX11_joinWays 35 = .ok (.aload_n 2, 1) := dz_44 (n := 32) (r := 3) hz_X11_joinWays_32 rfl
theorem dX11_joinWays_36 : decode cX11_joinWays 36 = .ok (.iload 4, 2) := dz_21 (n := 32) (r := 4) hz_X11_joinWays_32 rfl rfl
theorem dX11_joinWays_38 : decode cX11_joinWays 38 = .ok (.iaload, 1) := dz_46 (n := 32) (r := 6) hz_X11_joinWays_32 rfl
theorem dX11_joinWays_39 : decode cX11_joinWays 39 = .ok (.ifCond .eq 53, 3) := dz_153 (n := 32) (r := 7) hz_X11_joinWays_32 rfl (by decide +kernel)
theorem dX11_joinWays_42 : decode cX11_joinWays 42 = .ok (.iload 5, 2) := dz_21 (n := 32) (r := 10) hz_X11_joinWays_32 rfl rfl
theorem dX11_joinWays_44 : decode cX11_joinWays 44 = .ok (.aload_n 3, 1) := dz_45 (n := 32) (r := 12) hz_X11_joinWays_32 rfl
theorem dX11_joinWays_45 : decode cX11_joinWays 45 = .ok (.arraylength, 1) := dz_190 (n := 32) (r := 13) hz_X11_joinWays_32 rfl
theorem dX11_joinWays_46 : decode cX11_joinWays 46 = .ok (.if_icmp .ge 46, 3) := dz_162 (n := 32) (r := 14) hz_X11_joinWays_32 rfl (by decide +kernel)
theorem dX11_joinWays_49 : decode cX11_joinWays 49 = .ok (.iload 4, 2) := dz_21 (n := 32) (r := 17) hz_X11_joinWays_32 rfl rfl
theorem dX11_joinWays_51 : decode cX11_joinWays 51 = .ok (.iload 5, 2) := dz_21 (n := 32) (r := 19) hz_X11_joinWays_32 rfl rfl
theorem dX11_joinWays_53 : decode cX11_joinWays 53 = .ok (.iadd, 1) := dz_96 (n := 32) (r := 21) hz_X11_joinWays_32 rfl
theorem dX11_joinWays_54 : decode cX11_joinWays 54 = .ok (.aload_n 0, 1) := dz_42 (n := 32) (r := 22) hz_X11_joinWays_32 rfl
theorem dX11_joinWays_55 : decode cX11_joinWays 55 = .ok (.getfield 87, 3) := dz_180 (n := 32) (r := 23) hz_X11_joinWays_32 rfl rfl
theorem dX11_joinWays_58 : decode cX11_joinWays 58 = .ok (.arraylength, 1) := dz_190 (n := 32) (r := 26) hz_X11_joinWays_32 rfl
theorem dX11_joinWays_59 : decode cX11_joinWays 59 = .ok (.if_icmp .ge 33, 3) := dz_162 (n := 32) (r := 27) hz_X11_joinWays_32 rfl (by decide +kernel)
theorem dX11_joinWays_62 : decode cX11_joinWays 62 = .ok (.aload_n 0, 1) := dz_42 (n := 32) (r := 30) hz_X11_joinWays_32 rfl
theorem dX11_joinWays_63 : decode cX11_joinWays 63 = .ok (.getfield 87, 3) := dz_180 (n := 32) (r := 31) hz_X11_joinWays_32 rfl rfl
theorem hz_X11_joinWays_64 : (cX11_joinWays.data.toList.drop 64).take 40 = [0, 87, 21, 4, 21, 5, 96, 92, 47, 44, 21, 4, 46, 133, 45, 21, 5, 46, 133, 105, 97, 80, 132, 5, 1, 167, 255, 202, 132, 4, 1, 167, 255, 186, 177] := by decide +kernel
theorem dX11_joinWays_66 : decode cX11_joinWays 66 = .ok (.iload 4, 2) := dz_21 (n := 64) (r := 2) hz_X11_joinWays_64 rfl rfl
theorem dX11_joinWays_68 : decode cX11_joinWays 68 = .ok (.iload 5, 2) := dz_21 (n := 64) (r := 4) hz_X11_joinWays_64 rfl rfl
theorem dX11_joinWays_70 : decode cX11_joinWays 70 = .ok (.iadd, 1) := dz_96 (n := 64) (r := 6) hz_X11_joinWays_64 rfl
theorem dX11_joinWays_71 : decode cX11_joinWays 71 = .ok (.dup2, 1) := dz_92 (n := 64) (r := 7) hz_X11_joinWays_64 rfl
theorem dX11_joinWays_72 : decode cX11_joinWays 72 = .ok (.laload, 1) := dz_47 (n := 64) (r := 8) hz_X11_joinWays_64 rfl
theorem dX11_joinWays_73 : decode cX11_joinWays 73 = .ok (.aload_n 2, 1) := dz_44 (n := 64) (r := 9) hz_X11_joinWays_64 rfl
theorem dX11_joinWays_74 : decode cX11_joinWays 74 = .ok (.iload 4, 2) := dz_21 (n := 64) (r := 10) hz_X11_joinWays_64 rfl rfl
theorem dX11_joinWays_76 : decode cX11_joinWays 76 = .ok (.iaload, 1) := dz_46 (n := 64) (r := 12) hz_X11_joinWays_64 rfl
theorem dX11_joinWays_77 : decode cX11_joinWays 77 = .ok (.i2l, 1) := dz_133 (n := 64) (r := 13) hz_X11_joinWays_64 rfl
theorem dX11_joinWays_78 : decode cX11_joinWays 78 = .ok (.aload_n 3, 1) := dz_45 (n := 64) (r := 14) hz_X11_joinWays_64 rfl
theorem dX11_joinWays_79 : decode cX11_joinWays 79 = .ok (.iload 5, 2) := dz_21 (n := 64) (r := 15) hz_X11_joinWays_64 rfl rfl
theorem dX11_joinWays_81 : decode cX11_joinWays 81 = .ok (.iaload, 1) := dz_46 (n := 64) (r := 17) hz_X11_joinWays_64 rfl
theorem dX11_joinWays_82 : decode cX11_joinWays 82 = .ok (.i2l, 1) := dz_133 (n := 64) (r := 18) hz_X11_joinWays_64 rfl
theorem dX11_joinWays_83 : decode cX11_joinWays 83 = .ok (.lmul, 1) := dz_105 (n := 64) (r := 19) hz_X11_joinWays_64 rfl
theorem dX11_joinWays_84 : decode cX11_joinWays 84 = .ok (.ladd, 1) := dz_97 (n := 64) (r := 20) hz_X11_joinWays_64 rfl
theorem dX11_joinWays_85 : decode cX11_joinWays 85 = .ok (.lastore, 1) := dz_80 (n := 64) (r := 21) hz_X11_joinWays_64 rfl
theorem dX11_joinWays_86 : decode cX11_joinWays 86 = .ok (.iinc 5 1, 3) := dz_132 (n := 64) (r := 22) hz_X11_joinWays_64 rfl rfl rfl
theorem dX11_joinWays_89 : decode cX11_joinWays 89 = .ok (.goto (-54), 3) := dz_167 (n := 64) (r := 25) hz_X11_joinWays_64 rfl (by decide +kernel)
theorem dX11_joinWays_92 : decode cX11_joinWays 92 = .ok (.iinc 4 1, 3) := dz_132 (n := 64) (r := 28) hz_X11_joinWays_64 rfl rfl rfl
theorem dX11_joinWays_95 : decode cX11_joinWays 95 = .ok (.goto (-70), 3) := dz_167 (n := 64) (r := 31) hz_X11_joinWays_64 rfl (by decide +kernel)
theorem hz_X11_joinWays_96 : (cX11_joinWays.data.toList.drop 96).take 40 = [255, 186, 177] := by decide +kernel
theorem dX11_joinWays_98 : decode cX11_joinWays 98 = .ok (.return_, 1) := dz_177 (n := 96) (r := 2) hz_X11_joinWays_96 rfl
theorem hz_X11_heldWays_0 : (cX11_heldWays.data.toList.drop 0).take 40 = [43, 180, 1, 80, 154, 0, 56, 42, 180, 0, 56, 42, 180, 0, 24, 43, 180, 1, 83, 180, 1, 84, 43, 180, 1, 83, 180, 1, 87, 42, 180, 0, 24, 180, 0, 197, 182, 1, 90, 42] := by decide +kernel
theorem dX11_heldWays_0 : decode cX11_heldWays 0 = .ok (.aload_n 1, 1) := dz_43 (n := 0) (r := 0) hz_X11_heldWays_0 rfl
theorem dX11_heldWays_1 : decode cX11_heldWays 1 = .ok (.getfield 336, 3) := dz_180 (n := 0) (r := 1) hz_X11_heldWays_0 rfl rfl
theorem dX11_heldWays_4 : decode cX11_heldWays 4 = .ok (.ifCond .ne 56, 3) := dz_154 (n := 0) (r := 4) hz_X11_heldWays_0 rfl (by decide +kernel)
theorem dX11_heldWays_7 : decode cX11_heldWays 7 = .ok (.aload_n 0, 1) := dz_42 (n := 0) (r := 7) hz_X11_heldWays_0 rfl
theorem dX11_heldWays_8 : decode cX11_heldWays 8 = .ok (.getfield 56, 3) := dz_180 (n := 0) (r := 8) hz_X11_heldWays_0 rfl rfl
theorem dX11_heldWays_11 : decode cX11_heldWays 11 = .ok (.aload_n 0, 1) := dz_42 (n := 0) (r := 11) hz_X11_heldWays_0 rfl
theorem dX11_heldWays_12 : decode cX11_heldWays 12 = .ok (.getfield 24, 3) := dz_180 (n := 0) (r := 12) hz_X11_heldWays_0 rfl rfl
theorem dX11_heldWays_15 : decode cX11_heldWays 15 = .ok (.aload_n 1, 1) := dz_43 (n := 0) (r := 15) hz_X11_heldWays_0 rfl
theorem dX11_heldWays_16 : decode cX11_heldWays 16 = .ok (.getfield 339, 3) := dz_180 (n := 0) (r := 16) hz_X11_heldWays_0 rfl rfl
theorem dX11_heldWays_19 : decode cX11_heldWays 19 = .ok (.getfield 340, 3) := dz_180 (n := 0) (r := 19) hz_X11_heldWays_0 rfl rfl
theorem dX11_heldWays_22 : decode cX11_heldWays 22 = .ok (.aload_n 1, 1) := dz_43 (n := 0) (r := 22) hz_X11_heldWays_0 rfl
theorem dX11_heldWays_23 : decode cX11_heldWays 23 = .ok (.getfield 339, 3) := dz_180 (n := 0) (r := 23) hz_X11_heldWays_0 rfl rfl
theorem dX11_heldWays_26 : decode cX11_heldWays 26 = .ok (.getfield 343, 3) := dz_180 (n := 0) (r := 26) hz_X11_heldWays_0 rfl rfl
theorem dX11_heldWays_29 : decode cX11_heldWays 29 = .ok (.aload_n 0, 1) := dz_42 (n := 0) (r := 29) hz_X11_heldWays_0 rfl
theorem dX11_heldWays_30 : decode cX11_heldWays 30 = .ok (.getfield 24, 3) := dz_180 (n := 0) (r := 30) hz_X11_heldWays_0 rfl rfl
theorem hz_X11_heldWays_32 : (cX11_heldWays.data.toList.drop 32).take 40 = [24, 180, 0, 197, 182, 1, 90, 42, 43, 180, 1, 93, 42, 180, 0, 56, 43, 180, 1, 83, 182, 1, 94, 43, 4, 181, 1, 80, 43, 180, 1, 93, 176] := by decide +kernel
theorem dX11_heldWays_33 : decode cX11_heldWays 33 = .ok (.getfield 197, 3) := dz_180 (n := 32) (r := 1) hz_X11_heldWays_32 rfl rfl
theorem dX11_heldWays_36 : decode cX11_heldWays 36 = .ok (.invokevirtual 346, 3) := dz_182 (n := 32) (r := 4) hz_X11_heldWays_32 rfl rfl
theorem dX11_heldWays_39 : decode cX11_heldWays 39 = .ok (.aload_n 0, 1) := dz_42 (n := 32) (r := 7) hz_X11_heldWays_32 rfl
theorem dX11_heldWays_40 : decode cX11_heldWays 40 = .ok (.aload_n 1, 1) := dz_43 (n := 32) (r := 8) hz_X11_heldWays_32 rfl
theorem dX11_heldWays_41 : decode cX11_heldWays 41 = .ok (.getfield 349, 3) := dz_180 (n := 32) (r := 9) hz_X11_heldWays_32 rfl rfl
theorem dX11_heldWays_44 : decode cX11_heldWays 44 = .ok (.aload_n 0, 1) := dz_42 (n := 32) (r := 12) hz_X11_heldWays_32 rfl
theorem dX11_heldWays_45 : decode cX11_heldWays 45 = .ok (.getfield 56, 3) := dz_180 (n := 32) (r := 13) hz_X11_heldWays_32 rfl rfl
theorem dX11_heldWays_48 : decode cX11_heldWays 48 = .ok (.aload_n 1, 1) := dz_43 (n := 32) (r := 16) hz_X11_heldWays_32 rfl
theorem dX11_heldWays_49 : decode cX11_heldWays 49 = .ok (.getfield 339, 3) := dz_180 (n := 32) (r := 17) hz_X11_heldWays_32 rfl rfl
theorem dX11_heldWays_52 : decode cX11_heldWays 52 = .ok (.invokevirtual 350, 3) := dz_182 (n := 32) (r := 20) hz_X11_heldWays_32 rfl rfl
theorem dX11_heldWays_55 : decode cX11_heldWays 55 = .ok (.aload_n 1, 1) := dz_43 (n := 32) (r := 23) hz_X11_heldWays_32 rfl
theorem dX11_heldWays_56 : decode cX11_heldWays 56 = .ok (.iconst 1, 1) := dz_4 (n := 32) (r := 24) hz_X11_heldWays_32 rfl
theorem dX11_heldWays_57 : decode cX11_heldWays 57 = .ok (.putfield 336, 3) := dz_181 (n := 32) (r := 25) hz_X11_heldWays_32 rfl rfl
theorem dX11_heldWays_60 : decode cX11_heldWays 60 = .ok (.aload_n 1, 1) := dz_43 (n := 32) (r := 28) hz_X11_heldWays_32 rfl
theorem dX11_heldWays_61 : decode cX11_heldWays 61 = .ok (.getfield 349, 3) := dz_180 (n := 32) (r := 29) hz_X11_heldWays_32 rfl rfl
theorem hz_X11_heldWays_64 : (cX11_heldWays.data.toList.drop 64).take 40 = [176] := by decide +kernel
theorem dX11_heldWays_64 : decode cX11_heldWays 64 = .ok (.areturn, 1) := dz_176 (n := 64) (r := 0) hz_X11_heldWays_64 rfl
theorem hz_X11_countWays_0 : (cX11_countWays.data.toList.drop 0).take 40 = [42, 180, 0, 24, 182, 1, 35, 54, 4, 43, 3, 184, 1, 98, 3, 54, 5, 21, 5, 21, 4, 162, 0, 50, 44, 21, 5, 182, 1, 42, 17, 0, 144, 96, 54, 6, 45, 21, 5, 182] := by decide +kernel
theorem dX11_countWays_0 : decode cX11_countWays 0 = .ok (.aload_n 0, 1) := dz_42 (n := 0) (r := 0) hz_X11_countWays_0 rfl
theorem dX11_countWays_1 : decode cX11_countWays 1 = .ok (.getfield 24, 3) := dz_180 (n := 0) (r := 1) hz_X11_countWays_0 rfl rfl
theorem dX11_countWays_4 : decode cX11_countWays 4 = .ok (.invokevirtual 291, 3) := dz_182 (n := 0) (r := 4) hz_X11_countWays_0 rfl rfl
theorem dX11_countWays_7 : decode cX11_countWays 7 = .ok (.istore 4, 2) := dz_54 (n := 0) (r := 7) hz_X11_countWays_0 rfl rfl
theorem dX11_countWays_9 : decode cX11_countWays 9 = .ok (.aload_n 1, 1) := dz_43 (n := 0) (r := 9) hz_X11_countWays_0 rfl
theorem dX11_countWays_10 : decode cX11_countWays 10 = .ok (.iconst 0, 1) := dz_3 (n := 0) (r := 10) hz_X11_countWays_0 rfl
theorem dX11_countWays_11 : decode cX11_countWays 11 = .ok (.invokestatic 354, 3) := dz_184 (n := 0) (r := 11) hz_X11_countWays_0 rfl rfl
theorem dX11_countWays_14 : decode cX11_countWays 14 = .ok (.iconst 0, 1) := dz_3 (n := 0) (r := 14) hz_X11_countWays_0 rfl
theorem dX11_countWays_15 : decode cX11_countWays 15 = .ok (.istore 5, 2) := dz_54 (n := 0) (r := 15) hz_X11_countWays_0 rfl rfl
theorem dX11_countWays_17 : decode cX11_countWays 17 = .ok (.iload 5, 2) := dz_21 (n := 0) (r := 17) hz_X11_countWays_0 rfl rfl
theorem dX11_countWays_19 : decode cX11_countWays 19 = .ok (.iload 4, 2) := dz_21 (n := 0) (r := 19) hz_X11_countWays_0 rfl rfl
theorem dX11_countWays_21 : decode cX11_countWays 21 = .ok (.if_icmp .ge 50, 3) := dz_162 (n := 0) (r := 21) hz_X11_countWays_0 rfl (by decide +kernel)
theorem dX11_countWays_24 : decode cX11_countWays 24 = .ok (.aload_n 2, 1) := dz_44 (n := 0) (r := 24) hz_X11_countWays_0 rfl
theorem dX11_countWays_25 : decode cX11_countWays 25 = .ok (.iload 5, 2) := dz_21 (n := 0) (r := 25) hz_X11_countWays_0 rfl rfl
theorem dX11_countWays_27 : decode cX11_countWays 27 = .ok (.invokevirtual 298, 3) := dz_182 (n := 0) (r := 27) hz_X11_countWays_0 rfl rfl
theorem dX11_countWays_30 : decode cX11_countWays 30 = .ok (.sipush 144, 3) := dz_17 (n := 0) (r := 30) hz_X11_countWays_0 rfl (by decide +kernel)
theorem hz_X11_countWays_32 : (cX11_countWays.data.toList.drop 32).take 40 = [144, 96, 54, 6, 45, 21, 5, 182, 1, 39, 153, 0, 23, 21, 6, 155, 0, 18, 21, 6, 43, 190, 162, 0, 11, 43, 21, 6, 92, 46, 4, 96, 79, 132, 5, 1, 167, 255, 205, 177] := by decide +kernel
theorem dX11_countWays_33 : decode cX11_countWays 33 = .ok (.iadd, 1) := dz_96 (n := 32) (r := 1) hz_X11_countWays_32 rfl
theorem dX11_countWays_34 : decode cX11_countWays 34 = .ok (.istore 6, 2) := dz_54 (n := 32) (r := 2) hz_X11_countWays_32 rfl rfl
theorem dX11_countWays_36 : decode cX11_countWays 36 = .ok (.aload_n 3, 1) := dz_45 (n := 32) (r := 4) hz_X11_countWays_32 rfl
theorem dX11_countWays_37 : decode cX11_countWays 37 = .ok (.iload 5, 2) := dz_21 (n := 32) (r := 5) hz_X11_countWays_32 rfl rfl
theorem dX11_countWays_39 : decode cX11_countWays 39 = .ok (.invokevirtual 295, 3) := dz_182 (n := 32) (r := 7) hz_X11_countWays_32 rfl rfl
theorem dX11_countWays_42 : decode cX11_countWays 42 = .ok (.ifCond .eq 23, 3) := dz_153 (n := 32) (r := 10) hz_X11_countWays_32 rfl (by decide +kernel)
theorem dX11_countWays_45 : decode cX11_countWays 45 = .ok (.iload 6, 2) := dz_21 (n := 32) (r := 13) hz_X11_countWays_32 rfl rfl
theorem dX11_countWays_47 : decode cX11_countWays 47 = .ok (.ifCond .lt 18, 3) := dz_155 (n := 32) (r := 15) hz_X11_countWays_32 rfl (by decide +kernel)
theorem dX11_countWays_50 : decode cX11_countWays 50 = .ok (.iload 6, 2) := dz_21 (n := 32) (r := 18) hz_X11_countWays_32 rfl rfl
theorem dX11_countWays_52 : decode cX11_countWays 52 = .ok (.aload_n 1, 1) := dz_43 (n := 32) (r := 20) hz_X11_countWays_32 rfl
theorem dX11_countWays_53 : decode cX11_countWays 53 = .ok (.arraylength, 1) := dz_190 (n := 32) (r := 21) hz_X11_countWays_32 rfl
theorem dX11_countWays_54 : decode cX11_countWays 54 = .ok (.if_icmp .ge 11, 3) := dz_162 (n := 32) (r := 22) hz_X11_countWays_32 rfl (by decide +kernel)
theorem dX11_countWays_57 : decode cX11_countWays 57 = .ok (.aload_n 1, 1) := dz_43 (n := 32) (r := 25) hz_X11_countWays_32 rfl
theorem dX11_countWays_58 : decode cX11_countWays 58 = .ok (.iload 6, 2) := dz_21 (n := 32) (r := 26) hz_X11_countWays_32 rfl rfl
theorem dX11_countWays_60 : decode cX11_countWays 60 = .ok (.dup2, 1) := dz_92 (n := 32) (r := 28) hz_X11_countWays_32 rfl
theorem dX11_countWays_61 : decode cX11_countWays 61 = .ok (.iaload, 1) := dz_46 (n := 32) (r := 29) hz_X11_countWays_32 rfl
theorem dX11_countWays_62 : decode cX11_countWays 62 = .ok (.iconst 1, 1) := dz_4 (n := 32) (r := 30) hz_X11_countWays_32 rfl
theorem dX11_countWays_63 : decode cX11_countWays 63 = .ok (.iadd, 1) := dz_96 (n := 32) (r := 31) hz_X11_countWays_32 rfl
theorem hz_X11_countWays_64 : (cX11_countWays.data.toList.drop 64).take 40 = [79, 132, 5, 1, 167, 255, 205, 177] := by decide +kernel
theorem dX11_countWays_64 : decode cX11_countWays 64 = .ok (.iastore, 1) := dz_79 (n := 64) (r := 0) hz_X11_countWays_64 rfl
theorem dX11_countWays_65 : decode cX11_countWays 65 = .ok (.iinc 5 1, 3) := dz_132 (n := 64) (r := 1) hz_X11_countWays_64 rfl rfl rfl
theorem dX11_countWays_68 : decode cX11_countWays 68 = .ok (.goto (-51), 3) := dz_167 (n := 64) (r := 4) hz_X11_countWays_64 rfl (by decide +kernel)
theorem dX11_countWays_71 : decode cX11_countWays 71 = .ok (.return_, 1) := dz_177 (n := 64) (r := 7) hz_X11_countWays_64 rfl
theorem hz_X11_countJoinedLevels_0 : (cX11_countJoinedLevels.data.toList.drop 0).take 40 = [3, 60, 3, 61, 28, 42, 180, 0, 87, 190, 162, 0, 23, 42, 180, 0, 87, 28, 47, 9, 148, 153, 0, 6, 132, 1, 1, 132, 2, 1, 167, 255, 230, 27, 172] := by decide +kernel
theorem dX11_countJoinedLevels_0 : decode cX11_countJoinedLevels 0 = .ok (.iconst 0, 1) := dz_3 (n := 0) (r := 0) hz_X11_countJoinedLevels_0 rfl
theorem dX11_countJoinedLevels_1 : decode cX11_countJoinedLevels 1 = .ok (.istore_n 1, 1) := dz_60 (n := 0) (r := 1) hz_X11_countJoinedLevels_0 rfl
theorem dX11_countJoinedLevels_2 : decode cX11_countJoinedLevels 2 = .ok (.iconst 0, 1) := dz_3 (n := 0) (r := 2) hz_X11_countJoinedLevels_0 rfl
theorem dX11_countJoinedLevels_3 : decode cX11_countJoinedLevels 3 = .ok (.istore_n 2, 1) := dz_61 (n := 0) (r := 3) hz_X11_countJoinedLevels_0 rfl
theorem dX11_countJoinedLevels_4 : decode cX11_countJoinedLevels 4 = .ok (.iload_n 2, 1) := dz_28 (n := 0) (r := 4) hz_X11_countJoinedLevels_0 rfl
theorem dX11_countJoinedLevels_5 : decode cX11_countJoinedLevels 5 = .ok (.aload_n 0, 1) := dz_42 (n := 0) (r := 5) hz_X11_countJoinedLevels_0 rfl
theorem dX11_countJoinedLevels_6 : decode cX11_countJoinedLevels 6 = .ok (.getfield 87, 3) := dz_180 (n := 0) (r := 6) hz_X11_countJoinedLevels_0 rfl rfl
theorem dX11_countJoinedLevels_9 : decode cX11_countJoinedLevels 9 = .ok (.arraylength, 1) := dz_190 (n := 0) (r := 9) hz_X11_countJoinedLevels_0 rfl
theorem dX11_countJoinedLevels_10 : decode cX11_countJoinedLevels 10 = .ok (.if_icmp .ge 23, 3) := dz_162 (n := 0) (r := 10) hz_X11_countJoinedLevels_0 rfl (by decide +kernel)
theorem dX11_countJoinedLevels_13 : decode cX11_countJoinedLevels 13 = .ok (.aload_n 0, 1) := dz_42 (n := 0) (r := 13) hz_X11_countJoinedLevels_0 rfl
theorem dX11_countJoinedLevels_14 : decode cX11_countJoinedLevels 14 = .ok (.getfield 87, 3) := dz_180 (n := 0) (r := 14) hz_X11_countJoinedLevels_0 rfl rfl
theorem dX11_countJoinedLevels_17 : decode cX11_countJoinedLevels 17 = .ok (.iload_n 2, 1) := dz_28 (n := 0) (r := 17) hz_X11_countJoinedLevels_0 rfl
theorem dX11_countJoinedLevels_18 : decode cX11_countJoinedLevels 18 = .ok (.laload, 1) := dz_47 (n := 0) (r := 18) hz_X11_countJoinedLevels_0 rfl
theorem dX11_countJoinedLevels_19 : decode cX11_countJoinedLevels 19 = .ok (.lconst 0, 1) := dz_9 (n := 0) (r := 19) hz_X11_countJoinedLevels_0 rfl
theorem dX11_countJoinedLevels_20 : decode cX11_countJoinedLevels 20 = .ok (.lcmp, 1) := dz_148 (n := 0) (r := 20) hz_X11_countJoinedLevels_0 rfl
theorem dX11_countJoinedLevels_21 : decode cX11_countJoinedLevels 21 = .ok (.ifCond .eq 6, 3) := dz_153 (n := 0) (r := 21) hz_X11_countJoinedLevels_0 rfl (by decide +kernel)
theorem dX11_countJoinedLevels_24 : decode cX11_countJoinedLevels 24 = .ok (.iinc 1 1, 3) := dz_132 (n := 0) (r := 24) hz_X11_countJoinedLevels_0 rfl rfl rfl
theorem dX11_countJoinedLevels_27 : decode cX11_countJoinedLevels 27 = .ok (.iinc 2 1, 3) := dz_132 (n := 0) (r := 27) hz_X11_countJoinedLevels_0 rfl rfl rfl
theorem dX11_countJoinedLevels_30 : decode cX11_countJoinedLevels 30 = .ok (.goto (-26), 3) := dz_167 (n := 0) (r := 30) hz_X11_countJoinedLevels_0 rfl (by decide +kernel)
theorem hz_X11_countJoinedLevels_32 : (cX11_countJoinedLevels.data.toList.drop 32).take 40 = [230, 27, 172] := by decide +kernel
theorem dX11_countJoinedLevels_33 : decode cX11_countJoinedLevels 33 = .ok (.iload_n 1, 1) := dz_27 (n := 32) (r := 1) hz_X11_countJoinedLevels_32 rfl
theorem dX11_countJoinedLevels_34 : decode cX11_countJoinedLevels 34 = .ok (.ireturn, 1) := dz_172 (n := 32) (r := 2) hz_X11_countJoinedLevels_32 rfl
theorem hz_X11_joinedLevelAt_0 : (cX11_joinedLevelAt.data.toList.drop 0).take 40 = [3, 61, 3, 62, 29, 42, 180, 0, 87, 190, 162, 0, 30, 42, 180, 0, 87, 29, 47, 9, 148, 153, 0, 13, 28, 27, 160, 0, 5, 29, 172, 132, 2, 1, 132, 3, 1, 167, 255, 223] := by decide +kernel
theorem dX11_joinedLevelAt_0 : decode cX11_joinedLevelAt 0 = .ok (.iconst 0, 1) := dz_3 (n := 0) (r := 0) hz_X11_joinedLevelAt_0 rfl
theorem dX11_joinedLevelAt_1 : decode cX11_joinedLevelAt 1 = .ok (.istore_n 2, 1) := dz_61 (n := 0) (r := 1) hz_X11_joinedLevelAt_0 rfl
theorem dX11_joinedLevelAt_2 : decode cX11_joinedLevelAt 2 = .ok (.iconst 0, 1) := dz_3 (n := 0) (r := 2) hz_X11_joinedLevelAt_0 rfl
theorem dX11_joinedLevelAt_3 : decode cX11_joinedLevelAt 3 = .ok (.istore_n 3, 1) := dz_62 (n := 0) (r := 3) hz_X11_joinedLevelAt_0 rfl
theorem dX11_joinedLevelAt_4 : decode cX11_joinedLevelAt 4 = .ok (.iload_n 3, 1) := dz_29 (n := 0) (r := 4) hz_X11_joinedLevelAt_0 rfl
theorem dX11_joinedLevelAt_5 : decode cX11_joinedLevelAt 5 = .ok (.aload_n 0, 1) := dz_42 (n := 0) (r := 5) hz_X11_joinedLevelAt_0 rfl
theorem dX11_joinedLevelAt_6 : decode cX11_joinedLevelAt 6 = .ok (.getfield 87, 3) := dz_180 (n := 0) (r := 6) hz_X11_joinedLevelAt_0 rfl rfl
theorem dX11_joinedLevelAt_9 : decode cX11_joinedLevelAt 9 = .ok (.arraylength, 1) := dz_190 (n := 0) (r := 9) hz_X11_joinedLevelAt_0 rfl
theorem dX11_joinedLevelAt_10 : decode cX11_joinedLevelAt 10 = .ok (.if_icmp .ge 30, 3) := dz_162 (n := 0) (r := 10) hz_X11_joinedLevelAt_0 rfl (by decide +kernel)
theorem dX11_joinedLevelAt_13 : decode cX11_joinedLevelAt 13 = .ok (.aload_n 0, 1) := dz_42 (n := 0) (r := 13) hz_X11_joinedLevelAt_0 rfl
theorem dX11_joinedLevelAt_14 : decode cX11_joinedLevelAt 14 = .ok (.getfield 87, 3) := dz_180 (n := 0) (r := 14) hz_X11_joinedLevelAt_0 rfl rfl
theorem dX11_joinedLevelAt_17 : decode cX11_joinedLevelAt 17 = .ok (.iload_n 3, 1) := dz_29 (n := 0) (r := 17) hz_X11_joinedLevelAt_0 rfl
theorem dX11_joinedLevelAt_18 : decode cX11_joinedLevelAt 18 = .ok (.laload, 1) := dz_47 (n := 0) (r := 18) hz_X11_joinedLevelAt_0 rfl
theorem dX11_joinedLevelAt_19 : decode cX11_joinedLevelAt 19 = .ok (.lconst 0, 1) := dz_9 (n := 0) (r := 19) hz_X11_joinedLevelAt_0 rfl
theorem dX11_joinedLevelAt_20 : decode cX11_joinedLevelAt 20 = .ok (.lcmp, 1) := dz_148 (n := 0) (r := 20) hz_X11_joinedLevelAt_0 rfl
theorem dX11_joinedLevelAt_21 : decode cX11_joinedLevelAt 21 = .ok (.ifCond .eq 13, 3) := dz_153 (n := 0) (r := 21) hz_X11_joinedLevelAt_0 rfl (by decide +kernel)
theorem dX11_joinedLevelAt_24 : decode cX11_joinedLevelAt 24 = .ok (.iload_n 2, 1) := dz_28 (n := 0) (r := 24) hz_X11_joinedLevelAt_0 rfl
theorem dX11_joinedLevelAt_25 : decode cX11_joinedLevelAt 25 = .ok (.iload_n 1, 1) := dz_27 (n := 0) (r := 25) hz_X11_joinedLevelAt_0 rfl
theorem dX11_joinedLevelAt_26 : decode cX11_joinedLevelAt 26 = .ok (.if_icmp .ne 5, 3) := dz_160 (n := 0) (r := 26) hz_X11_joinedLevelAt_0 rfl (by decide +kernel)
theorem dX11_joinedLevelAt_29 : decode cX11_joinedLevelAt 29 = .ok (.iload_n 3, 1) := dz_29 (n := 0) (r := 29) hz_X11_joinedLevelAt_0 rfl
theorem dX11_joinedLevelAt_30 : decode cX11_joinedLevelAt 30 = .ok (.ireturn, 1) := dz_172 (n := 0) (r := 30) hz_X11_joinedLevelAt_0 rfl
theorem dX11_joinedLevelAt_31 : decode cX11_joinedLevelAt 31 = .ok (.iinc 2 1, 3) := dz_132 (n := 0) (r := 31) hz_X11_joinedLevelAt_0 rfl rfl rfl
theorem hz_X11_joinedLevelAt_32 : (cX11_joinedLevelAt.data.toList.drop 32).take 40 = [2, 1, 132, 3, 1, 167, 255, 223, 2, 172] := by decide +kernel
theorem dX11_joinedLevelAt_34 : decode cX11_joinedLevelAt 34 = .ok (.iinc 3 1, 3) := dz_132 (n := 32) (r := 2) hz_X11_joinedLevelAt_32 rfl rfl rfl
theorem dX11_joinedLevelAt_37 : decode cX11_joinedLevelAt 37 = .ok (.goto (-33), 3) := dz_167 (n := 32) (r := 5) hz_X11_joinedLevelAt_32 rfl (by decide +kernel)
theorem dX11_joinedLevelAt_40 : decode cX11_joinedLevelAt 40 = .ok (.iconst (-1), 1) := dz_2 (n := 32) (r := 8) hz_X11_joinedLevelAt_32 rfl
theorem dX11_joinedLevelAt_41 : decode cX11_joinedLevelAt 41 = .ok (.ireturn, 1) := dz_172 (n := 32) (r := 9) hz_X11_joinedLevelAt_32 rfl
theorem hz_X11_stuck_0 : (cX11_stuck.data.toList.drop 0).take 40 = [42, 182, 0, 251, 77, 44, 180, 0, 255, 154, 0, 5, 3, 172, 44, 3, 182, 1, 5, 62, 42, 180, 0, 24, 182, 1, 35, 54, 4, 3, 54, 5, 3, 54, 6, 21, 6, 21, 4, 162] := by decide +kernel
theorem dX11_stuck_0 : decode cX11_stuck 0 = .ok (.aload_n 0, 1) := dz_42 (n := 0) (r := 0) hz_X11_stuck_0 rfl
theorem dX11_stuck_1 : decode cX11_stuck 1 = .ok (.invokevirtual 251, 3) := dz_182 (n := 0) (r := 1) hz_X11_stuck_0 rfl rfl
theorem dX11_stuck_4 : decode cX11_stuck 4 = .ok (.astore_n 2, 1) := dz_77 (n := 0) (r := 4) hz_X11_stuck_0 rfl
theorem dX11_stuck_5 : decode cX11_stuck 5 = .ok (.aload_n 2, 1) := dz_44 (n := 0) (r := 5) hz_X11_stuck_0 rfl
theorem dX11_stuck_6 : decode cX11_stuck 6 = .ok (.getfield 255, 3) := dz_180 (n := 0) (r := 6) hz_X11_stuck_0 rfl rfl
theorem dX11_stuck_9 : decode cX11_stuck 9 = .ok (.ifCond .ne 5, 3) := dz_154 (n := 0) (r := 9) hz_X11_stuck_0 rfl (by decide +kernel)
theorem dX11_stuck_12 : decode cX11_stuck 12 = .ok (.iconst 0, 1) := dz_3 (n := 0) (r := 12) hz_X11_stuck_0 rfl
theorem dX11_stuck_13 : decode cX11_stuck 13 = .ok (.ireturn, 1) := dz_172 (n := 0) (r := 13) hz_X11_stuck_0 rfl
theorem dX11_stuck_14 : decode cX11_stuck 14 = .ok (.aload_n 2, 1) := dz_44 (n := 0) (r := 14) hz_X11_stuck_0 rfl
theorem dX11_stuck_15 : decode cX11_stuck 15 = .ok (.iconst 0, 1) := dz_3 (n := 0) (r := 15) hz_X11_stuck_0 rfl
theorem dX11_stuck_16 : decode cX11_stuck 16 = .ok (.invokevirtual 261, 3) := dz_182 (n := 0) (r := 16) hz_X11_stuck_0 rfl rfl
theorem dX11_stuck_19 : decode cX11_stuck 19 = .ok (.istore_n 3, 1) := dz_62 (n := 0) (r := 19) hz_X11_stuck_0 rfl
theorem dX11_stuck_20 : decode cX11_stuck 20 = .ok (.aload_n 0, 1) := dz_42 (n := 0) (r := 20) hz_X11_stuck_0 rfl
theorem dX11_stuck_21 : decode cX11_stuck 21 = .ok (.getfield 24, 3) := dz_180 (n := 0) (r := 21) hz_X11_stuck_0 rfl rfl
theorem dX11_stuck_24 : decode cX11_stuck 24 = .ok (.invokevirtual 291, 3) := dz_182 (n := 0) (r := 24) hz_X11_stuck_0 rfl rfl
theorem dX11_stuck_27 : decode cX11_stuck 27 = .ok (.istore 4, 2) := dz_54 (n := 0) (r := 27) hz_X11_stuck_0 rfl rfl
theorem dX11_stuck_29 : decode cX11_stuck 29 = .ok (.iconst 0, 1) := dz_3 (n := 0) (r := 29) hz_X11_stuck_0 rfl
theorem dX11_stuck_30 : decode cX11_stuck 30 = .ok (.istore 5, 2) := dz_54 (n := 0) (r := 30) hz_X11_stuck_0 rfl rfl
theorem hz_X11_stuck_32 : (cX11_stuck.data.toList.drop 32).take 40 = [3, 54, 6, 21, 6, 21, 4, 162, 0, 74, 42, 180, 0, 31, 21, 6, 182, 1, 39, 153, 0, 24, 27, 153, 0, 16, 42, 180, 0, 52, 21, 6, 182, 1, 42, 29, 159, 0, 7, 4] := by decide +kernel
theorem dX11_stuck_32 : decode cX11_stuck 32 = .ok (.iconst 0, 1) := dz_3 (n := 32) (r := 0) hz_X11_stuck_32 rfl
theorem dX11_stuck_33 : decode cX11_stuck 33 = .ok (.istore 6, 2) := dz_54 (n := 32) (r := 1) hz_X11_stuck_32 rfl rfl
theorem dX11_stuck_35 : decode cX11_stuck 35 = .ok (.iload 6, 2) := dz_21 (n := 32) (r := 3) hz_X11_stuck_32 rfl rfl
theorem dX11_stuck_37 : decode cX11_stuck 37 = .ok (.iload 4, 2) := dz_21 (n := 32) (r := 5) hz_X11_stuck_32 rfl rfl
theorem dX11_stuck_39 : decode cX11_stuck 39 = .ok (.if_icmp .ge 74, 3) := dz_162 (n := 32) (r := 7) hz_X11_stuck_32 rfl (by decide +kernel)
theorem dX11_stuck_42 : decode cX11_stuck 42 = .ok (.aload_n 0, 1) := dz_42 (n := 32) (r := 10) hz_X11_stuck_32 rfl
theorem dX11_stuck_43 : decode cX11_stuck 43 = .ok (.getfield 31, 3) := dz_180 (n := 32) (r := 11) hz_X11_stuck_32 rfl rfl
theorem dX11_stuck_46 : decode cX11_stuck 46 = .ok (.iload 6, 2) := dz_21 (n := 32) (r := 14) hz_X11_stuck_32 rfl rfl
theorem dX11_stuck_48 : decode cX11_stuck 48 = .ok (.invokevirtual 295, 3) := dz_182 (n := 32) (r := 16) hz_X11_stuck_32 rfl rfl
theorem dX11_stuck_51 : decode cX11_stuck 51 = .ok (.ifCond .eq 24, 3) := dz_153 (n := 32) (r := 19) hz_X11_stuck_32 rfl (by decide +kernel)
theorem dX11_stuck_54 : decode cX11_stuck 54 = .ok (.iload_n 1, 1) := dz_27 (n := 32) (r := 22) hz_X11_stuck_32 rfl
theorem dX11_stuck_55 : decode cX11_stuck 55 = .ok (.ifCond .eq 16, 3) := dz_153 (n := 32) (r := 23) hz_X11_stuck_32 rfl (by decide +kernel)
theorem dX11_stuck_58 : decode cX11_stuck 58 = .ok (.aload_n 0, 1) := dz_42 (n := 32) (r := 26) hz_X11_stuck_32 rfl
theorem dX11_stuck_59 : decode cX11_stuck 59 = .ok (.getfield 52, 3) := dz_180 (n := 32) (r := 27) hz_X11_stuck_32 rfl rfl
theorem dX11_stuck_62 : decode cX11_stuck 62 = .ok (.iload 6, 2) := dz_21 (n := 32) (r := 30) hz_X11_stuck_32 rfl rfl
theorem hz_X11_stuck_64 : (cX11_stuck.data.toList.drop 64).take 40 = [182, 1, 42, 29, 159, 0, 7, 4, 167, 0, 4, 3, 54, 7, 21, 7, 153, 0, 27, 42, 180, 0, 52, 21, 6, 42, 180, 0, 31, 180, 0, 191, 21, 4, 182, 1, 101, 153, 0, 6] := by decide +kernel
theorem dX11_stuck_64 : decode cX11_stuck 64 = .ok (.invokevirtual 298, 3) := dz_182 (n := 64) (r := 0) hz_X11_stuck_64 rfl rfl
theorem dX11_stuck_67 : decode cX11_stuck 67 = .ok (.iload_n 3, 1) := dz_29 (n := 64) (r := 3) hz_X11_stuck_64 rfl
theorem dX11_stuck_68 : decode cX11_stuck 68 = .ok (.if_icmp .eq 7, 3) := dz_159 (n := 64) (r := 4) hz_X11_stuck_64 rfl (by decide +kernel)
theorem dX11_stuck_71 : decode cX11_stuck 71 = .ok (.iconst 1, 1) := dz_4 (n := 64) (r := 7) hz_X11_stuck_64 rfl
theorem dX11_stuck_72 : decode cX11_stuck 72 = .ok (.goto 4, 3) := dz_167 (n := 64) (r := 8) hz_X11_stuck_64 rfl (by decide +kernel)
theorem dX11_stuck_75 : decode cX11_stuck 75 = .ok (.iconst 0, 1) := dz_3 (n := 64) (r := 11) hz_X11_stuck_64 rfl
theorem dX11_stuck_76 : decode cX11_stuck 76 = .ok (.istore 7, 2) := dz_54 (n := 64) (r := 12) hz_X11_stuck_64 rfl rfl
theorem dX11_stuck_78 : decode cX11_stuck 78 = .ok (.iload 7, 2) := dz_21 (n := 64) (r := 14) hz_X11_stuck_64 rfl rfl
theorem dX11_stuck_80 : decode cX11_stuck 80 = .ok (.ifCond .eq 27, 3) := dz_153 (n := 64) (r := 16) hz_X11_stuck_64 rfl (by decide +kernel)
theorem dX11_stuck_83 : decode cX11_stuck 83 = .ok (.aload_n 0, 1) := dz_42 (n := 64) (r := 19) hz_X11_stuck_64 rfl
theorem dX11_stuck_84 : decode cX11_stuck 84 = .ok (.getfield 52, 3) := dz_180 (n := 64) (r := 20) hz_X11_stuck_64 rfl rfl
theorem dX11_stuck_87 : decode cX11_stuck 87 = .ok (.iload 6, 2) := dz_21 (n := 64) (r := 23) hz_X11_stuck_64 rfl rfl
theorem dX11_stuck_89 : decode cX11_stuck 89 = .ok (.aload_n 0, 1) := dz_42 (n := 64) (r := 25) hz_X11_stuck_64 rfl
theorem dX11_stuck_90 : decode cX11_stuck 90 = .ok (.getfield 31, 3) := dz_180 (n := 64) (r := 26) hz_X11_stuck_64 rfl rfl
theorem dX11_stuck_93 : decode cX11_stuck 93 = .ok (.getfield 191, 3) := dz_180 (n := 64) (r := 29) hz_X11_stuck_64 rfl rfl
theorem hz_X11_stuck_96 : (cX11_stuck.data.toList.drop 96).take 40 = [21, 4, 182, 1, 101, 153, 0, 6, 132, 5, 1, 132, 6, 1, 167, 255, 181, 21, 5, 172] := by decide +kernel
theorem dX11_stuck_96 : decode cX11_stuck 96 = .ok (.iload 4, 2) := dz_21 (n := 96) (r := 0) hz_X11_stuck_96 rfl rfl
theorem dX11_stuck_98 : decode cX11_stuck 98 = .ok (.invokevirtual 357, 3) := dz_182 (n := 96) (r := 2) hz_X11_stuck_96 rfl rfl
theorem dX11_stuck_101 : decode cX11_stuck 101 = .ok (.ifCond .eq 6, 3) := dz_153 (n := 96) (r := 5) hz_X11_stuck_96 rfl (by decide +kernel)
theorem dX11_stuck_104 : decode cX11_stuck 104 = .ok (.iinc 5 1, 3) := dz_132 (n := 96) (r := 8) hz_X11_stuck_96 rfl rfl rfl
theorem dX11_stuck_107 : decode cX11_stuck 107 = .ok (.iinc 6 1, 3) := dz_132 (n := 96) (r := 11) hz_X11_stuck_96 rfl rfl rfl
theorem dX11_stuck_110 : decode cX11_stuck 110 = .ok (.goto (-75), 3) := dz_167 (n := 96) (r := 14) hz_X11_stuck_96 rfl (by decide +kernel)
theorem dX11_stuck_113 : decode cX11_stuck 113 = .ok (.iload 5, 2) := dz_21 (n := 96) (r := 17) hz_X11_stuck_96 rfl rfl
theorem dX11_stuck_115 : decode cX11_stuck 115 = .ok (.ireturn, 1) := dz_172 (n := 96) (r := 19) hz_X11_stuck_96 rfl
theorem hz_X11_rows_0 : (cX11_rows.data.toList.drop 0).take 40 = [27, 155, 0, 31, 27, 42, 180, 0, 24, 180, 1, 105, 162, 0, 20, 28, 155, 0, 16, 28, 4, 42, 180, 0, 24, 180, 1, 106, 120, 161, 0, 5, 2, 172, 42, 27, 182, 1, 107, 58] := by decide +kernel
theorem dX11_rows_0 : decode cX11_rows 0 = .ok (.iload_n 1, 1) := dz_27 (n := 0) (r := 0) hz_X11_rows_0 rfl
theorem dX11_rows_1 : decode cX11_rows 1 = .ok (.ifCond .lt 31, 3) := dz_155 (n := 0) (r := 1) hz_X11_rows_0 rfl (by decide +kernel)
theorem dX11_rows_4 : decode cX11_rows 4 = .ok (.iload_n 1, 1) := dz_27 (n := 0) (r := 4) hz_X11_rows_0 rfl
theorem dX11_rows_5 : decode cX11_rows 5 = .ok (.aload_n 0, 1) := dz_42 (n := 0) (r := 5) hz_X11_rows_0 rfl
theorem dX11_rows_6 : decode cX11_rows 6 = .ok (.getfield 24, 3) := dz_180 (n := 0) (r := 6) hz_X11_rows_0 rfl rfl
theorem dX11_rows_9 : decode cX11_rows 9 = .ok (.getfield 361, 3) := dz_180 (n := 0) (r := 9) hz_X11_rows_0 rfl rfl
theorem dX11_rows_12 : decode cX11_rows 12 = .ok (.if_icmp .ge 20, 3) := dz_162 (n := 0) (r := 12) hz_X11_rows_0 rfl (by decide +kernel)
theorem dX11_rows_15 : decode cX11_rows 15 = .ok (.iload_n 2, 1) := dz_28 (n := 0) (r := 15) hz_X11_rows_0 rfl
theorem dX11_rows_16 : decode cX11_rows 16 = .ok (.ifCond .lt 16, 3) := dz_155 (n := 0) (r := 16) hz_X11_rows_0 rfl (by decide +kernel)
theorem dX11_rows_19 : decode cX11_rows 19 = .ok (.iload_n 2, 1) := dz_28 (n := 0) (r := 19) hz_X11_rows_0 rfl
theorem dX11_rows_20 : decode cX11_rows 20 = .ok (.iconst 1, 1) := dz_4 (n := 0) (r := 20) hz_X11_rows_0 rfl
theorem dX11_rows_21 : decode cX11_rows 21 = .ok (.aload_n 0, 1) := dz_42 (n := 0) (r := 21) hz_X11_rows_0 rfl
theorem dX11_rows_22 : decode cX11_rows 22 = .ok (.getfield 24, 3) := dz_180 (n := 0) (r := 22) hz_X11_rows_0 rfl rfl
theorem dX11_rows_25 : decode cX11_rows 25 = .ok (.getfield 362, 3) := dz_180 (n := 0) (r := 25) hz_X11_rows_0 rfl rfl
theorem dX11_rows_28 : decode cX11_rows 28 = .ok (.ishl, 1) := dz_120 (n := 0) (r := 28) hz_X11_rows_0 rfl
theorem dX11_rows_29 : decode cX11_rows 29 = .ok (.if_icmp .lt 5, 3) := dz_161 (n := 0) (r := 29) hz_X11_rows_0 rfl (by decide +kernel)
theorem hz_X11_rows_32 : (cX11_rows.data.toList.drop 32).take 40 = [2, 172, 42, 27, 182, 1, 107, 58, 4, 27, 42, 180, 0, 24, 180, 1, 106, 104, 54, 5, 4, 21, 5, 42, 180, 0, 24, 180, 1, 106, 96, 120, 4, 100, 54, 6, 28, 21, 5, 120] := by decide +kernel
theorem dX11_rows_32 : decode cX11_rows 32 = .ok (.iconst (-1), 1) := dz_2 (n := 32) (r := 0) hz_X11_rows_32 rfl
theorem dX11_rows_33 : decode cX11_rows 33 = .ok (.ireturn, 1) := dz_172 (n := 32) (r := 1) hz_X11_rows_32 rfl
theorem dX11_rows_34 : decode cX11_rows 34 = .ok (.aload_n 0, 1) := dz_42 (n := 32) (r := 2) hz_X11_rows_32 rfl
theorem dX11_rows_35 : decode cX11_rows 35 = .ok (.iload_n 1, 1) := dz_27 (n := 32) (r := 3) hz_X11_rows_32 rfl
theorem dX11_rows_36 : decode cX11_rows 36 = .ok (.invokevirtual 363, 3) := dz_182 (n := 32) (r := 4) hz_X11_rows_32 rfl rfl
theorem dX11_rows_39 : decode cX11_rows 39 = .ok (.astore 4, 2) := dz_58 (n := 32) (r := 7) hz_X11_rows_32 rfl rfl
theorem dX11_rows_41 : decode cX11_rows 41 = .ok (.iload_n 1, 1) := dz_27 (n := 32) (r := 9) hz_X11_rows_32 rfl
theorem dX11_rows_42 : decode cX11_rows 42 = .ok (.aload_n 0, 1) := dz_42 (n := 32) (r := 10) hz_X11_rows_32 rfl
theorem dX11_rows_43 : decode cX11_rows 43 = .ok (.getfield 24, 3) := dz_180 (n := 32) (r := 11) hz_X11_rows_32 rfl rfl
theorem dX11_rows_46 : decode cX11_rows 46 = .ok (.getfield 362, 3) := dz_180 (n := 32) (r := 14) hz_X11_rows_32 rfl rfl
theorem dX11_rows_49 : decode cX11_rows 49 = .ok (.imul, 1) := dz_104 (n := 32) (r := 17) hz_X11_rows_32 rfl
theorem dX11_rows_50 : decode cX11_rows 50 = .ok (.istore 5, 2) := dz_54 (n := 32) (r := 18) hz_X11_rows_32 rfl rfl
theorem dX11_rows_52 : decode cX11_rows 52 = .ok (.iconst 1, 1) := dz_4 (n := 32) (r := 20) hz_X11_rows_32 rfl
theorem dX11_rows_53 : decode cX11_rows 53 = .ok (.iload 5, 2) := dz_21 (n := 32) (r := 21) hz_X11_rows_32 rfl rfl
theorem dX11_rows_55 : decode cX11_rows 55 = .ok (.aload_n 0, 1) := dz_42 (n := 32) (r := 23) hz_X11_rows_32 rfl
theorem dX11_rows_56 : decode cX11_rows 56 = .ok (.getfield 24, 3) := dz_180 (n := 32) (r := 24) hz_X11_rows_32 rfl rfl
theorem dX11_rows_59 : decode cX11_rows 59 = .ok (.getfield 362, 3) := dz_180 (n := 32) (r := 27) hz_X11_rows_32 rfl rfl
theorem dX11_rows_62 : decode cX11_rows 62 = .ok (.iadd, 1) := dz_96 (n := 32) (r := 30) hz_X11_rows_32 rfl
theorem dX11_rows_63 : decode cX11_rows 63 = .ok (.ishl, 1) := dz_120 (n := 32) (r := 31) hz_X11_rows_32 rfl
theorem hz_X11_rows_64 : (cX11_rows.data.toList.drop 64).take 40 = [4, 100, 54, 6, 28, 21, 5, 120, 54, 7, 21, 7, 4, 21, 5, 120, 96, 54, 8, 3, 54, 9, 21, 7, 54, 10, 21, 10, 21, 8, 162, 0, 46, 21, 10, 42, 180, 0, 31, 180] := by decide +kernel
theorem dX11_rows_64 : decode cX11_rows 64 = .ok (.iconst 1, 1) := dz_4 (n := 64) (r := 0) hz_X11_rows_64 rfl
theorem dX11_rows_65 : decode cX11_rows 65 = .ok (.isub, 1) := dz_100 (n := 64) (r := 1) hz_X11_rows_64 rfl
theorem dX11_rows_66 : decode cX11_rows 66 = .ok (.istore 6, 2) := dz_54 (n := 64) (r := 2) hz_X11_rows_64 rfl rfl
theorem dX11_rows_68 : decode cX11_rows 68 = .ok (.iload_n 2, 1) := dz_28 (n := 64) (r := 4) hz_X11_rows_64 rfl
theorem dX11_rows_69 : decode cX11_rows 69 = .ok (.iload 5, 2) := dz_21 (n := 64) (r := 5) hz_X11_rows_64 rfl rfl
theorem dX11_rows_71 : decode cX11_rows 71 = .ok (.ishl, 1) := dz_120 (n := 64) (r := 7) hz_X11_rows_64 rfl
theorem dX11_rows_72 : decode cX11_rows 72 = .ok (.istore 7, 2) := dz_54 (n := 64) (r := 8) hz_X11_rows_64 rfl rfl
theorem dX11_rows_74 : decode cX11_rows 74 = .ok (.iload 7, 2) := dz_21 (n := 64) (r := 10) hz_X11_rows_64 rfl rfl
theorem dX11_rows_76 : decode cX11_rows 76 = .ok (.iconst 1, 1) := dz_4 (n := 64) (r := 12) hz_X11_rows_64 rfl
theorem dX11_rows_77 : decode cX11_rows 77 = .ok (.iload 5, 2) := dz_21 (n := 64) (r := 13) hz_X11_rows_64 rfl rfl
theorem dX11_rows_79 : decode cX11_rows 79 = .ok (.ishl, 1) := dz_120 (n := 64) (r := 15) hz_X11_rows_64 rfl
theorem dX11_rows_80 : decode cX11_rows 80 = .ok (.iadd, 1) := dz_96 (n := 64) (r := 16) hz_X11_rows_64 rfl
theorem dX11_rows_81 : decode cX11_rows 81 = .ok (.istore 8, 2) := dz_54 (n := 64) (r := 17) hz_X11_rows_64 rfl rfl
theorem dX11_rows_83 : decode cX11_rows 83 = .ok (.iconst 0, 1) := dz_3 (n := 64) (r := 19) hz_X11_rows_64 rfl
theorem dX11_rows_84 : decode cX11_rows 84 = .ok (.istore 9, 2) := dz_54 (n := 64) (r := 20) hz_X11_rows_64 rfl rfl
theorem dX11_rows_86 : decode cX11_rows 86 = .ok (.iload 7, 2) := dz_21 (n := 64) (r := 22) hz_X11_rows_64 rfl rfl
theorem dX11_rows_88 : decode cX11_rows 88 = .ok (.istore 10, 2) := dz_54 (n := 64) (r := 24) hz_X11_rows_64 rfl rfl
theorem dX11_rows_90 : decode cX11_rows 90 = .ok (.iload 10, 2) := dz_21 (n := 64) (r := 26) hz_X11_rows_64 rfl rfl
theorem dX11_rows_92 : decode cX11_rows 92 = .ok (.iload 8, 2) := dz_21 (n := 64) (r := 28) hz_X11_rows_64 rfl rfl
theorem dX11_rows_94 : decode cX11_rows 94 = .ok (.if_icmp .ge 46, 3) := dz_162 (n := 64) (r := 30) hz_X11_rows_64 rfl (by decide +kernel)
theorem hz_X11_rows_96 : (cX11_rows.data.toList.drop 96).take 40 = [46, 21, 10, 42, 180, 0, 31, 180, 0, 191, 126, 42, 180, 0, 31, 180, 0, 141, 21, 6, 126, 160, 0, 17, 25, 4, 21, 10, 182, 1, 42, 29, 160, 0, 6, 132, 9, 1, 132, 10] := by decide +kernel
theorem dX11_rows_97 : decode cX11_rows 97 = .ok (.iload 10, 2) := dz_21 (n := 96) (r := 1) hz_X11_rows_96 rfl rfl
theorem dX11_rows_99 : decode cX11_rows 99 = .ok (.aload_n 0, 1) := dz_42 (n := 96) (r := 3) hz_X11_rows_96 rfl
theorem dX11_rows_100 : decode cX11_rows 100 = .ok (.getfield 31, 3) := dz_180 (n := 96) (r := 4) hz_X11_rows_96 rfl rfl
theorem dX11_rows_103 : decode cX11_rows 103 = .ok (.getfield 191, 3) := dz_180 (n := 96) (r := 7) hz_X11_rows_96 rfl rfl
theorem dX11_rows_106 : decode cX11_rows 106 = .ok (.iand, 1) := dz_126 (n := 96) (r := 10) hz_X11_rows_96 rfl
theorem dX11_rows_107 : decode cX11_rows 107 = .ok (.aload_n 0, 1) := dz_42 (n := 96) (r := 11) hz_X11_rows_96 rfl
theorem dX11_rows_108 : decode cX11_rows 108 = .ok (.getfield 31, 3) := dz_180 (n := 96) (r := 12) hz_X11_rows_96 rfl rfl
theorem dX11_rows_111 : decode cX11_rows 111 = .ok (.getfield 141, 3) := dz_180 (n := 96) (r := 15) hz_X11_rows_96 rfl rfl
theorem dX11_rows_114 : decode cX11_rows 114 = .ok (.iload 6, 2) := dz_21 (n := 96) (r := 18) hz_X11_rows_96 rfl rfl
theorem dX11_rows_116 : decode cX11_rows 116 = .ok (.iand, 1) := dz_126 (n := 96) (r := 20) hz_X11_rows_96 rfl
theorem dX11_rows_117 : decode cX11_rows 117 = .ok (.if_icmp .ne 17, 3) := dz_160 (n := 96) (r := 21) hz_X11_rows_96 rfl (by decide +kernel)
theorem dX11_rows_120 : decode cX11_rows 120 = .ok (.aload 4, 2) := dz_25 (n := 96) (r := 24) hz_X11_rows_96 rfl rfl
theorem dX11_rows_122 : decode cX11_rows 122 = .ok (.iload 10, 2) := dz_21 (n := 96) (r := 26) hz_X11_rows_96 rfl rfl
theorem dX11_rows_124 : decode cX11_rows 124 = .ok (.invokevirtual 298, 3) := dz_182 (n := 96) (r := 28) hz_X11_rows_96 rfl rfl
theorem dX11_rows_127 : decode cX11_rows 127 = .ok (.iload_n 3, 1) := dz_29 (n := 96) (r := 31) hz_X11_rows_96 rfl
theorem hz_X11_rows_128 : (cX11_rows.data.toList.drop 128).take 40 = [160, 0, 6, 132, 9, 1, 132, 10, 1, 167, 255, 209, 21, 9, 172] := by decide +kernel
theorem dX11_rows_128 : decode cX11_rows 128 = .ok (.if_icmp .ne 6, 3) := dz_160 (n := 128) (r := 0) hz_X11_rows_128 rfl (by decide +kernel)
theorem dX11_rows_131 : decode cX11_rows 131 = .ok (.iinc 9 1, 3) := dz_132 (n := 128) (r := 3) hz_X11_rows_128 rfl rfl rfl
theorem dX11_rows_134 : decode cX11_rows 134 = .ok (.iinc 10 1, 3) := dz_132 (n := 128) (r := 6) hz_X11_rows_128 rfl rfl rfl
theorem dX11_rows_137 : decode cX11_rows 137 = .ok (.goto (-47), 3) := dz_167 (n := 128) (r := 9) hz_X11_rows_128 rfl (by decide +kernel)
theorem dX11_rows_140 : decode cX11_rows 140 = .ok (.iload 9, 2) := dz_21 (n := 128) (r := 12) hz_X11_rows_128 rfl rfl
theorem dX11_rows_142 : decode cX11_rows 142 = .ok (.ireturn, 1) := dz_172 (n := 128) (r := 14) hz_X11_rows_128 rfl
theorem hz_X11_energiesOfRows_0 : (cX11_energiesOfRows.data.toList.drop 0).take 40 = [27, 42, 180, 0, 24, 180, 1, 105, 4, 100, 160, 0, 8, 42, 182, 1, 111, 176, 42, 180, 0, 56, 42, 180, 0, 24, 42, 180, 0, 31, 180, 1, 84, 42, 180, 0, 31, 180, 1, 87] := by decide +kernel
theorem dX11_energiesOfRows_0 : decode cX11_energiesOfRows 0 = .ok (.iload_n 1, 1) := dz_27 (n := 0) (r := 0) hz_X11_energiesOfRows_0 rfl
theorem dX11_energiesOfRows_1 : decode cX11_energiesOfRows 1 = .ok (.aload_n 0, 1) := dz_42 (n := 0) (r := 1) hz_X11_energiesOfRows_0 rfl
theorem dX11_energiesOfRows_2 : decode cX11_energiesOfRows 2 = .ok (.getfield 24, 3) := dz_180 (n := 0) (r := 2) hz_X11_energiesOfRows_0 rfl rfl
theorem dX11_energiesOfRows_5 : decode cX11_energiesOfRows 5 = .ok (.getfield 361, 3) := dz_180 (n := 0) (r := 5) hz_X11_energiesOfRows_0 rfl rfl
theorem dX11_energiesOfRows_8 : decode cX11_energiesOfRows 8 = .ok (.iconst 1, 1) := dz_4 (n := 0) (r := 8) hz_X11_energiesOfRows_0 rfl
theorem dX11_energiesOfRows_9 : decode cX11_energiesOfRows 9 = .ok (.isub, 1) := dz_100 (n := 0) (r := 9) hz_X11_energiesOfRows_0 rfl
theorem dX11_energiesOfRows_10 : decode cX11_energiesOfRows 10 = .ok (.if_icmp .ne 8, 3) := dz_160 (n := 0) (r := 10) hz_X11_energiesOfRows_0 rfl (by decide +kernel)
theorem dX11_energiesOfRows_13 : decode cX11_energiesOfRows 13 = .ok (.aload_n 0, 1) := dz_42 (n := 0) (r := 13) hz_X11_energiesOfRows_0 rfl
theorem dX11_energiesOfRows_14 : decode cX11_energiesOfRows 14 = .ok (.invokevirtual 367, 3) := dz_182 (n := 0) (r := 14) hz_X11_energiesOfRows_0 rfl rfl
theorem dX11_energiesOfRows_17 : decode cX11_energiesOfRows 17 = .ok (.areturn, 1) := dz_176 (n := 0) (r := 17) hz_X11_energiesOfRows_0 rfl
theorem dX11_energiesOfRows_18 : decode cX11_energiesOfRows 18 = .ok (.aload_n 0, 1) := dz_42 (n := 0) (r := 18) hz_X11_energiesOfRows_0 rfl
theorem dX11_energiesOfRows_19 : decode cX11_energiesOfRows 19 = .ok (.getfield 56, 3) := dz_180 (n := 0) (r := 19) hz_X11_energiesOfRows_0 rfl rfl
theorem dX11_energiesOfRows_22 : decode cX11_energiesOfRows 22 = .ok (.aload_n 0, 1) := dz_42 (n := 0) (r := 22) hz_X11_energiesOfRows_0 rfl
theorem dX11_energiesOfRows_23 : decode cX11_energiesOfRows 23 = .ok (.getfield 24, 3) := dz_180 (n := 0) (r := 23) hz_X11_energiesOfRows_0 rfl rfl
theorem dX11_energiesOfRows_26 : decode cX11_energiesOfRows 26 = .ok (.aload_n 0, 1) := dz_42 (n := 0) (r := 26) hz_X11_energiesOfRows_0 rfl
theorem dX11_energiesOfRows_27 : decode cX11_energiesOfRows 27 = .ok (.getfield 31, 3) := dz_180 (n := 0) (r := 27) hz_X11_energiesOfRows_0 rfl rfl
theorem dX11_energiesOfRows_30 : decode cX11_energiesOfRows 30 = .ok (.getfield 340, 3) := dz_180 (n := 0) (r := 30) hz_X11_energiesOfRows_0 rfl rfl
theorem hz_X11_energiesOfRows_32 : (cX11_energiesOfRows.data.toList.drop 32).take 40 = [84, 42, 180, 0, 31, 180, 1, 87, 27, 4, 96, 42, 180, 0, 24, 180, 1, 106, 104, 182, 1, 90, 42, 180, 0, 56, 176] := by decide +kernel
theorem dX11_energiesOfRows_33 : decode cX11_energiesOfRows 33 = .ok (.aload_n 0, 1) := dz_42 (n := 32) (r := 1) hz_X11_energiesOfRows_32 rfl
theorem dX11_energiesOfRows_34 : decode cX11_energiesOfRows 34 = .ok (.getfield 31, 3) := dz_180 (n := 32) (r := 2) hz_X11_energiesOfRows_32 rfl rfl
theorem dX11_energiesOfRows_37 : decode cX11_energiesOfRows 37 = .ok (.getfield 343, 3) := dz_180 (n := 32) (r := 5) hz_X11_energiesOfRows_32 rfl rfl
theorem dX11_energiesOfRows_40 : decode cX11_energiesOfRows 40 = .ok (.iload_n 1, 1) := dz_27 (n := 32) (r := 8) hz_X11_energiesOfRows_32 rfl
theorem dX11_energiesOfRows_41 : decode cX11_energiesOfRows 41 = .ok (.iconst 1, 1) := dz_4 (n := 32) (r := 9) hz_X11_energiesOfRows_32 rfl
theorem dX11_energiesOfRows_42 : decode cX11_energiesOfRows 42 = .ok (.iadd, 1) := dz_96 (n := 32) (r := 10) hz_X11_energiesOfRows_32 rfl
theorem dX11_energiesOfRows_43 : decode cX11_energiesOfRows 43 = .ok (.aload_n 0, 1) := dz_42 (n := 32) (r := 11) hz_X11_energiesOfRows_32 rfl
theorem dX11_energiesOfRows_44 : decode cX11_energiesOfRows 44 = .ok (.getfield 24, 3) := dz_180 (n := 32) (r := 12) hz_X11_energiesOfRows_32 rfl rfl
theorem dX11_energiesOfRows_47 : decode cX11_energiesOfRows 47 = .ok (.getfield 362, 3) := dz_180 (n := 32) (r := 15) hz_X11_energiesOfRows_32 rfl rfl
theorem dX11_energiesOfRows_50 : decode cX11_energiesOfRows 50 = .ok (.imul, 1) := dz_104 (n := 32) (r := 18) hz_X11_energiesOfRows_32 rfl
theorem dX11_energiesOfRows_51 : decode cX11_energiesOfRows 51 = .ok (.invokevirtual 346, 3) := dz_182 (n := 32) (r := 19) hz_X11_energiesOfRows_32 rfl rfl
theorem dX11_energiesOfRows_54 : decode cX11_energiesOfRows 54 = .ok (.aload_n 0, 1) := dz_42 (n := 32) (r := 22) hz_X11_energiesOfRows_32 rfl
theorem dX11_energiesOfRows_55 : decode cX11_energiesOfRows 55 = .ok (.getfield 56, 3) := dz_180 (n := 32) (r := 23) hz_X11_energiesOfRows_32 rfl rfl
theorem dX11_energiesOfRows_58 : decode cX11_energiesOfRows 58 = .ok (.areturn, 1) := dz_176 (n := 32) (r := 26) hz_X11_energiesOfRows_32 rfl
theorem hz_X11_overlap_0 : (cX11_overlap.data.toList.drop 0).take 40 = [42, 182, 0, 251, 77, 44, 180, 0, 255, 154, 0, 5, 3, 172, 44, 44, 3, 182, 1, 5, 182, 1, 8, 17, 1, 0, 164, 0, 6, 16, 254, 172, 42, 44, 3, 182, 1, 5, 182, 1] := by decide +kernel
theorem dX11_overlap_0 : decode cX11_overlap 0 = .ok (.aload_n 0, 1) := dz_42 (n := 0) (r := 0) hz_X11_overlap_0 rfl
theorem dX11_overlap_1 : decode cX11_overlap 1 = .ok (.invokevirtual 251, 3) := dz_182 (n := 0) (r := 1) hz_X11_overlap_0 rfl rfl
theorem dX11_overlap_4 : decode cX11_overlap 4 = .ok (.astore_n 2, 1) := dz_77 (n := 0) (r := 4) hz_X11_overlap_0 rfl
theorem dX11_overlap_5 : decode cX11_overlap 5 = .ok (.aload_n 2, 1) := dz_44 (n := 0) (r := 5) hz_X11_overlap_0 rfl
theorem dX11_overlap_6 : decode cX11_overlap 6 = .ok (.getfield 255, 3) := dz_180 (n := 0) (r := 6) hz_X11_overlap_0 rfl rfl
theorem dX11_overlap_9 : decode cX11_overlap 9 = .ok (.ifCond .ne 5, 3) := dz_154 (n := 0) (r := 9) hz_X11_overlap_0 rfl (by decide +kernel)
theorem dX11_overlap_12 : decode cX11_overlap 12 = .ok (.iconst 0, 1) := dz_3 (n := 0) (r := 12) hz_X11_overlap_0 rfl
theorem dX11_overlap_13 : decode cX11_overlap 13 = .ok (.ireturn, 1) := dz_172 (n := 0) (r := 13) hz_X11_overlap_0 rfl
theorem dX11_overlap_14 : decode cX11_overlap 14 = .ok (.aload_n 2, 1) := dz_44 (n := 0) (r := 14) hz_X11_overlap_0 rfl
theorem dX11_overlap_15 : decode cX11_overlap 15 = .ok (.aload_n 2, 1) := dz_44 (n := 0) (r := 15) hz_X11_overlap_0 rfl
theorem dX11_overlap_16 : decode cX11_overlap 16 = .ok (.iconst 0, 1) := dz_3 (n := 0) (r := 16) hz_X11_overlap_0 rfl
theorem dX11_overlap_17 : decode cX11_overlap 17 = .ok (.invokevirtual 261, 3) := dz_182 (n := 0) (r := 17) hz_X11_overlap_0 rfl rfl
theorem dX11_overlap_20 : decode cX11_overlap 20 = .ok (.invokevirtual 264, 3) := dz_182 (n := 0) (r := 20) hz_X11_overlap_0 rfl rfl
theorem dX11_overlap_23 : decode cX11_overlap 23 = .ok (.sipush 256, 3) := dz_17 (n := 0) (r := 23) hz_X11_overlap_0 rfl (by decide +kernel)
theorem dX11_overlap_26 : decode cX11_overlap 26 = .ok (.if_icmp .le 6, 3) := dz_164 (n := 0) (r := 26) hz_X11_overlap_0 rfl (by decide +kernel)
theorem dX11_overlap_29 : decode cX11_overlap 29 = .ok (.bipush (-2), 2) := dz_16 (n := 0) (r := 29) hz_X11_overlap_0 rfl rfl
theorem dX11_overlap_31 : decode cX11_overlap 31 = .ok (.ireturn, 1) := dz_172 (n := 0) (r := 31) hz_X11_overlap_0 rfl
theorem hz_X11_overlap_32 : (cX11_overlap.data.toList.drop 32).take 40 = [42, 44, 3, 182, 1, 5, 182, 1, 115, 62, 3, 54, 4, 3, 54, 5, 21, 5, 29, 162, 0, 60, 21, 5, 42, 180, 0, 91, 190, 162, 0, 50, 3, 54, 6, 21, 6, 21, 5, 162] := by decide +kernel
theorem dX11_overlap_32 : decode cX11_overlap 32 = .ok (.aload_n 0, 1) := dz_42 (n := 32) (r := 0) hz_X11_overlap_32 rfl
theorem dX11_overlap_33 : decode cX11_overlap 33 = .ok (.aload_n 2, 1) := dz_44 (n := 32) (r := 1) hz_X11_overlap_32 rfl
theorem dX11_overlap_34 : decode cX11_overlap 34 = .ok (.iconst 0, 1) := dz_3 (n := 32) (r := 2) hz_X11_overlap_32 rfl
theorem dX11_overlap_35 : decode cX11_overlap 35 = .ok (.invokevirtual 261, 3) := dz_182 (n := 32) (r := 3) hz_X11_overlap_32 rfl rfl
theorem dX11_overlap_38 : decode cX11_overlap 38 = .ok (.invokevirtual 371, 3) := dz_182 (n := 32) (r := 6) hz_X11_overlap_32 rfl rfl
theorem dX11_overlap_41 : decode cX11_overlap 41 = .ok (.istore_n 3, 1) := dz_62 (n := 32) (r := 9) hz_X11_overlap_32 rfl
theorem dX11_overlap_42 : decode cX11_overlap 42 = .ok (.iconst 0, 1) := dz_3 (n := 32) (r := 10) hz_X11_overlap_32 rfl
theorem dX11_overlap_43 : decode cX11_overlap 43 = .ok (.istore 4, 2) := dz_54 (n := 32) (r := 11) hz_X11_overlap_32 rfl rfl
theorem dX11_overlap_45 : decode cX11_overlap 45 = .ok (.iconst 0, 1) := dz_3 (n := 32) (r := 13) hz_X11_overlap_32 rfl
theorem dX11_overlap_46 : decode cX11_overlap 46 = .ok (.istore 5, 2) := dz_54 (n := 32) (r := 14) hz_X11_overlap_32 rfl rfl
theorem dX11_overlap_48 : decode cX11_overlap 48 = .ok (.iload 5, 2) := dz_21 (n := 32) (r := 16) hz_X11_overlap_32 rfl rfl
theorem dX11_overlap_50 : decode cX11_overlap 50 = .ok (.iload_n 3, 1) := dz_29 (n := 32) (r := 18) hz_X11_overlap_32 rfl
theorem dX11_overlap_51 : decode cX11_overlap 51 = .ok (.if_icmp .ge 60, 3) := dz_162 (n := 32) (r := 19) hz_X11_overlap_32 rfl (by decide +kernel)
theorem dX11_overlap_54 : decode cX11_overlap 54 = .ok (.iload 5, 2) := dz_21 (n := 32) (r := 22) hz_X11_overlap_32 rfl rfl
theorem dX11_overlap_56 : decode cX11_overlap 56 = .ok (.aload_n 0, 1) := dz_42 (n := 32) (r := 24) hz_X11_overlap_32 rfl
theorem dX11_overlap_57 : decode cX11_overlap 57 = .ok (.getfield 91, 3) := dz_180 (n := 32) (r := 25) hz_X11_overlap_32 rfl rfl
theorem dX11_overlap_60 : decode cX11_overlap 60 = .ok (.arraylength, 1) := dz_190 (n := 32) (r := 28) hz_X11_overlap_32 rfl
theorem dX11_overlap_61 : decode cX11_overlap 61 = .ok (.if_icmp .ge 50, 3) := dz_162 (n := 32) (r := 29) hz_X11_overlap_32 rfl (by decide +kernel)
theorem hz_X11_overlap_64 : (cX11_overlap.data.toList.drop 64).take 40 = [3, 54, 6, 21, 6, 21, 5, 162, 0, 34, 42, 180, 0, 91, 21, 5, 46, 42, 180, 0, 91, 21, 6, 46, 130, 184, 1, 118, 27, 160, 0, 6, 132, 4, 1, 132, 6, 1, 167, 255] := by decide +kernel
theorem dX11_overlap_64 : decode cX11_overlap 64 = .ok (.iconst 0, 1) := dz_3 (n := 64) (r := 0) hz_X11_overlap_64 rfl
theorem dX11_overlap_65 : decode cX11_overlap 65 = .ok (.istore 6, 2) := dz_54 (n := 64) (r := 1) hz_X11_overlap_64 rfl rfl
theorem dX11_overlap_67 : decode cX11_overlap 67 = .ok (.iload 6, 2) := dz_21 (n := 64) (r := 3) hz_X11_overlap_64 rfl rfl
theorem dX11_overlap_69 : decode cX11_overlap 69 = .ok (.iload 5, 2) := dz_21 (n := 64) (r := 5) hz_X11_overlap_64 rfl rfl
theorem dX11_overlap_71 : decode cX11_overlap 71 = .ok (.if_icmp .ge 34, 3) := dz_162 (n := 64) (r := 7) hz_X11_overlap_64 rfl (by decide +kernel)
theorem dX11_overlap_74 : decode cX11_overlap 74 = .ok (.aload_n 0, 1) := dz_42 (n := 64) (r := 10) hz_X11_overlap_64 rfl
theorem dX11_overlap_75 : decode cX11_overlap 75 = .ok (.getfield 91, 3) := dz_180 (n := 64) (r := 11) hz_X11_overlap_64 rfl rfl
theorem dX11_overlap_78 : decode cX11_overlap 78 = .ok (.iload 5, 2) := dz_21 (n := 64) (r := 14) hz_X11_overlap_64 rfl rfl
theorem dX11_overlap_80 : decode cX11_overlap 80 = .ok (.iaload, 1) := dz_46 (n := 64) (r := 16) hz_X11_overlap_64 rfl
theorem dX11_overlap_81 : decode cX11_overlap 81 = .ok (.aload_n 0, 1) := dz_42 (n := 64) (r := 17) hz_X11_overlap_64 rfl
theorem dX11_overlap_82 : decode cX11_overlap 82 = .ok (.getfield 91, 3) := dz_180 (n := 64) (r := 18) hz_X11_overlap_64 rfl rfl
theorem dX11_overlap_85 : decode cX11_overlap 85 = .ok (.iload 6, 2) := dz_21 (n := 64) (r := 21) hz_X11_overlap_64 rfl rfl
theorem dX11_overlap_87 : decode cX11_overlap 87 = .ok (.iaload, 1) := dz_46 (n := 64) (r := 23) hz_X11_overlap_64 rfl
theorem dX11_overlap_88 : decode cX11_overlap 88 = .ok (.ixor, 1) := dz_130 (n := 64) (r := 24) hz_X11_overlap_64 rfl
theorem dX11_overlap_89 : decode cX11_overlap 89 = .ok (.invokestatic 374, 3) := dz_184 (n := 64) (r := 25) hz_X11_overlap_64 rfl rfl
theorem dX11_overlap_92 : decode cX11_overlap 92 = .ok (.iload_n 1, 1) := dz_27 (n := 64) (r := 28) hz_X11_overlap_64 rfl
theorem dX11_overlap_93 : decode cX11_overlap 93 = .ok (.if_icmp .ne 6, 3) := dz_160 (n := 64) (r := 29) hz_X11_overlap_64 rfl (by decide +kernel)
theorem hz_X11_overlap_96 : (cX11_overlap.data.toList.drop 96).take 40 = [132, 4, 1, 132, 6, 1, 167, 255, 221, 132, 5, 1, 167, 255, 196, 21, 4, 172] := by decide +kernel
theorem dX11_overlap_96 : decode cX11_overlap 96 = .ok (.iinc 4 1, 3) := dz_132 (n := 96) (r := 0) hz_X11_overlap_96 rfl rfl rfl
theorem dX11_overlap_99 : decode cX11_overlap 99 = .ok (.iinc 6 1, 3) := dz_132 (n := 96) (r := 3) hz_X11_overlap_96 rfl rfl rfl
theorem dX11_overlap_102 : decode cX11_overlap 102 = .ok (.goto (-35), 3) := dz_167 (n := 96) (r := 6) hz_X11_overlap_96 rfl (by decide +kernel)
theorem dX11_overlap_105 : decode cX11_overlap 105 = .ok (.iinc 5 1, 3) := dz_132 (n := 96) (r := 9) hz_X11_overlap_96 rfl rfl rfl
theorem dX11_overlap_108 : decode cX11_overlap 108 = .ok (.goto (-60), 3) := dz_167 (n := 96) (r := 12) hz_X11_overlap_96 rfl (by decide +kernel)
theorem dX11_overlap_111 : decode cX11_overlap 111 = .ok (.iload 4, 2) := dz_21 (n := 96) (r := 15) hz_X11_overlap_96 rfl rfl
theorem dX11_overlap_113 : decode cX11_overlap 113 = .ok (.ireturn, 1) := dz_172 (n := 96) (r := 17) hz_X11_overlap_96 rfl
theorem hz_X11_listGround_0 : (cX11_listGround.data.toList.drop 0).take 40 = [42, 180, 0, 24, 182, 1, 35, 61, 3, 62, 3, 54, 4, 21, 4, 28, 162, 0, 54, 29, 42, 180, 0, 91, 190, 162, 0, 45, 42, 180, 0, 31, 21, 4, 182, 1, 39, 153, 0, 27] := by decide +kernel
theorem dX11_listGround_0 : decode cX11_listGround 0 = .ok (.aload_n 0, 1) := dz_42 (n := 0) (r := 0) hz_X11_listGround_0 rfl
theorem dX11_listGround_1 : decode cX11_listGround 1 = .ok (.getfield 24, 3) := dz_180 (n := 0) (r := 1) hz_X11_listGround_0 rfl rfl
theorem dX11_listGround_4 : decode cX11_listGround 4 = .ok (.invokevirtual 291, 3) := dz_182 (n := 0) (r := 4) hz_X11_listGround_0 rfl rfl
theorem dX11_listGround_7 : decode cX11_listGround 7 = .ok (.istore_n 2, 1) := dz_61 (n := 0) (r := 7) hz_X11_listGround_0 rfl
theorem dX11_listGround_8 : decode cX11_listGround 8 = .ok (.iconst 0, 1) := dz_3 (n := 0) (r := 8) hz_X11_listGround_0 rfl
theorem dX11_listGround_9 : decode cX11_listGround 9 = .ok (.istore_n 3, 1) := dz_62 (n := 0) (r := 9) hz_X11_listGround_0 rfl
theorem dX11_listGround_10 : decode cX11_listGround 10 = .ok (.iconst 0, 1) := dz_3 (n := 0) (r := 10) hz_X11_listGround_0 rfl
theorem dX11_listGround_11 : decode cX11_listGround 11 = .ok (.istore 4, 2) := dz_54 (n := 0) (r := 11) hz_X11_listGround_0 rfl rfl
theorem dX11_listGround_13 : decode cX11_listGround 13 = .ok (.iload 4, 2) := dz_21 (n := 0) (r := 13) hz_X11_listGround_0 rfl rfl
theorem dX11_listGround_15 : decode cX11_listGround 15 = .ok (.iload_n 2, 1) := dz_28 (n := 0) (r := 15) hz_X11_listGround_0 rfl
theorem dX11_listGround_16 : decode cX11_listGround 16 = .ok (.if_icmp .ge 54, 3) := dz_162 (n := 0) (r := 16) hz_X11_listGround_0 rfl (by decide +kernel)
theorem dX11_listGround_19 : decode cX11_listGround 19 = .ok (.iload_n 3, 1) := dz_29 (n := 0) (r := 19) hz_X11_listGround_0 rfl
theorem dX11_listGround_20 : decode cX11_listGround 20 = .ok (.aload_n 0, 1) := dz_42 (n := 0) (r := 20) hz_X11_listGround_0 rfl
theorem dX11_listGround_21 : decode cX11_listGround 21 = .ok (.getfield 91, 3) := dz_180 (n := 0) (r := 21) hz_X11_listGround_0 rfl rfl
theorem dX11_listGround_24 : decode cX11_listGround 24 = .ok (.arraylength, 1) := dz_190 (n := 0) (r := 24) hz_X11_listGround_0 rfl
theorem dX11_listGround_25 : decode cX11_listGround 25 = .ok (.if_icmp .ge 45, 3) := dz_162 (n := 0) (r := 25) hz_X11_listGround_0 rfl (by decide +kernel)
theorem dX11_listGround_28 : decode cX11_listGround 28 = .ok (.aload_n 0, 1) := dz_42 (n := 0) (r := 28) hz_X11_listGround_0 rfl
theorem dX11_listGround_29 : decode cX11_listGround 29 = .ok (.getfield 31, 3) := dz_180 (n := 0) (r := 29) hz_X11_listGround_0 rfl rfl
theorem hz_X11_listGround_32 : (cX11_listGround.data.toList.drop 32).take 40 = [21, 4, 182, 1, 39, 153, 0, 27, 42, 180, 0, 52, 21, 4, 182, 1, 42, 27, 160, 0, 14, 42, 180, 0, 91, 29, 21, 4, 79, 132, 3, 1, 132, 4, 1, 167, 255, 202, 29, 172] := by decide +kernel
theorem dX11_listGround_32 : decode cX11_listGround 32 = .ok (.iload 4, 2) := dz_21 (n := 32) (r := 0) hz_X11_listGround_32 rfl rfl
theorem dX11_listGround_34 : decode cX11_listGround 34 = .ok (.invokevirtual 295, 3) := dz_182 (n := 32) (r := 2) hz_X11_listGround_32 rfl rfl
theorem dX11_listGround_37 : decode cX11_listGround 37 = .ok (.ifCond .eq 27, 3) := dz_153 (n := 32) (r := 5) hz_X11_listGround_32 rfl (by decide +kernel)
theorem dX11_listGround_40 : decode cX11_listGround 40 = .ok (.aload_n 0, 1) := dz_42 (n := 32) (r := 8) hz_X11_listGround_32 rfl
theorem dX11_listGround_41 : decode cX11_listGround 41 = .ok (.getfield 52, 3) := dz_180 (n := 32) (r := 9) hz_X11_listGround_32 rfl rfl
theorem dX11_listGround_44 : decode cX11_listGround 44 = .ok (.iload 4, 2) := dz_21 (n := 32) (r := 12) hz_X11_listGround_32 rfl rfl
theorem dX11_listGround_46 : decode cX11_listGround 46 = .ok (.invokevirtual 298, 3) := dz_182 (n := 32) (r := 14) hz_X11_listGround_32 rfl rfl
theorem dX11_listGround_49 : decode cX11_listGround 49 = .ok (.iload_n 1, 1) := dz_27 (n := 32) (r := 17) hz_X11_listGround_32 rfl
theorem dX11_listGround_50 : decode cX11_listGround 50 = .ok (.if_icmp .ne 14, 3) := dz_160 (n := 32) (r := 18) hz_X11_listGround_32 rfl (by decide +kernel)
theorem dX11_listGround_53 : decode cX11_listGround 53 = .ok (.aload_n 0, 1) := dz_42 (n := 32) (r := 21) hz_X11_listGround_32 rfl
theorem dX11_listGround_54 : decode cX11_listGround 54 = .ok (.getfield 91, 3) := dz_180 (n := 32) (r := 22) hz_X11_listGround_32 rfl rfl
theorem dX11_listGround_57 : decode cX11_listGround 57 = .ok (.iload_n 3, 1) := dz_29 (n := 32) (r := 25) hz_X11_listGround_32 rfl
theorem dX11_listGround_58 : decode cX11_listGround 58 = .ok (.iload 4, 2) := dz_21 (n := 32) (r := 26) hz_X11_listGround_32 rfl rfl
theorem dX11_listGround_60 : decode cX11_listGround 60 = .ok (.iastore, 1) := dz_79 (n := 32) (r := 28) hz_X11_listGround_32 rfl
theorem dX11_listGround_61 : decode cX11_listGround 61 = .ok (.iinc 3 1, 3) := dz_132 (n := 32) (r := 29) hz_X11_listGround_32 rfl rfl rfl
theorem hz_X11_listGround_64 : (cX11_listGround.data.toList.drop 64).take 40 = [132, 4, 1, 167, 255, 202, 29, 172] := by decide +kernel
theorem dX11_listGround_64 : decode cX11_listGround 64 = .ok (.iinc 4 1, 3) := dz_132 (n := 64) (r := 0) hz_X11_listGround_64 rfl rfl rfl
theorem dX11_listGround_67 : decode cX11_listGround 67 = .ok (.goto (-54), 3) := dz_167 (n := 64) (r := 3) hz_X11_listGround_64 rfl (by decide +kernel)
theorem dX11_listGround_70 : decode cX11_listGround 70 = .ok (.iload_n 3, 1) := dz_29 (n := 64) (r := 6) hz_X11_listGround_64 rfl
theorem dX11_listGround_71 : decode cX11_listGround 71 = .ok (.ireturn, 1) := dz_172 (n := 64) (r := 7) hz_X11_listGround_64 rfl
theorem hz_X11_stiff_0 : (cX11_stiff.data.toList.drop 0).take 40 = [42, 180, 0, 24, 27, 182, 0, 176, 153, 0, 19, 42, 180, 0, 24, 28, 182, 0, 176, 153, 0, 8, 27, 28, 160, 0, 6, 18, 226, 172, 42, 182, 1, 111, 87, 42, 180, 0, 24, 182] := by decide +kernel
theorem dX11_stiff_0 : decode cX11_stiff 0 = .ok (.aload_n 0, 1) := dz_42 (n := 0) (r := 0) hz_X11_stiff_0 rfl
theorem dX11_stiff_1 : decode cX11_stiff 1 = .ok (.getfield 24, 3) := dz_180 (n := 0) (r := 1) hz_X11_stiff_0 rfl rfl
theorem dX11_stiff_4 : decode cX11_stiff 4 = .ok (.iload_n 1, 1) := dz_27 (n := 0) (r := 4) hz_X11_stiff_0 rfl
theorem dX11_stiff_5 : decode cX11_stiff 5 = .ok (.invokevirtual 176, 3) := dz_182 (n := 0) (r := 5) hz_X11_stiff_0 rfl rfl
theorem dX11_stiff_8 : decode cX11_stiff 8 = .ok (.ifCond .eq 19, 3) := dz_153 (n := 0) (r := 8) hz_X11_stiff_0 rfl (by decide +kernel)
theorem dX11_stiff_11 : decode cX11_stiff 11 = .ok (.aload_n 0, 1) := dz_42 (n := 0) (r := 11) hz_X11_stiff_0 rfl
theorem dX11_stiff_12 : decode cX11_stiff 12 = .ok (.getfield 24, 3) := dz_180 (n := 0) (r := 12) hz_X11_stiff_0 rfl rfl
theorem dX11_stiff_15 : decode cX11_stiff 15 = .ok (.iload_n 2, 1) := dz_28 (n := 0) (r := 15) hz_X11_stiff_0 rfl
theorem dX11_stiff_16 : decode cX11_stiff 16 = .ok (.invokevirtual 176, 3) := dz_182 (n := 0) (r := 16) hz_X11_stiff_0 rfl rfl
theorem dX11_stiff_19 : decode cX11_stiff 19 = .ok (.ifCond .eq 8, 3) := dz_153 (n := 0) (r := 19) hz_X11_stiff_0 rfl (by decide +kernel)
theorem dX11_stiff_22 : decode cX11_stiff 22 = .ok (.iload_n 1, 1) := dz_27 (n := 0) (r := 22) hz_X11_stiff_0 rfl
theorem dX11_stiff_23 : decode cX11_stiff 23 = .ok (.iload_n 2, 1) := dz_28 (n := 0) (r := 23) hz_X11_stiff_0 rfl
theorem dX11_stiff_24 : decode cX11_stiff 24 = .ok (.if_icmp .ne 6, 3) := dz_160 (n := 0) (r := 24) hz_X11_stiff_0 rfl (by decide +kernel)
theorem dX11_stiff_27 : decode cX11_stiff 27 = .ok (.ldc 226, 2) := dz_18 (n := 0) (r := 27) hz_X11_stiff_0 rfl rfl
theorem dX11_stiff_29 : decode cX11_stiff 29 = .ok (.ireturn, 1) := dz_172 (n := 0) (r := 29) hz_X11_stiff_0 rfl
theorem dX11_stiff_30 : decode cX11_stiff 30 = .ok (.aload_n 0, 1) := dz_42 (n := 0) (r := 30) hz_X11_stiff_0 rfl
theorem dX11_stiff_31 : decode cX11_stiff 31 = .ok (.invokevirtual 367, 3) := dz_182 (n := 0) (r := 31) hz_X11_stiff_0 rfl rfl
theorem hz_X11_stiff_32 : (cX11_stiff.data.toList.drop 32).take 40 = [1, 111, 87, 42, 180, 0, 24, 182, 1, 35, 62, 17, 0, 145, 54, 4, 17, 0, 145, 54, 5, 3, 54, 6, 21, 6, 29, 162, 0, 71, 42, 180, 0, 31, 21, 6, 182, 1, 39, 153] := by decide +kernel
theorem dX11_stiff_34 : decode cX11_stiff 34 = .ok (.pop, 1) := dz_87 (n := 32) (r := 2) hz_X11_stiff_32 rfl
theorem dX11_stiff_35 : decode cX11_stiff 35 = .ok (.aload_n 0, 1) := dz_42 (n := 32) (r := 3) hz_X11_stiff_32 rfl
theorem dX11_stiff_36 : decode cX11_stiff 36 = .ok (.getfield 24, 3) := dz_180 (n := 32) (r := 4) hz_X11_stiff_32 rfl rfl
theorem dX11_stiff_39 : decode cX11_stiff 39 = .ok (.invokevirtual 291, 3) := dz_182 (n := 32) (r := 7) hz_X11_stiff_32 rfl rfl
theorem dX11_stiff_42 : decode cX11_stiff 42 = .ok (.istore_n 3, 1) := dz_62 (n := 32) (r := 10) hz_X11_stiff_32 rfl
theorem dX11_stiff_43 : decode cX11_stiff 43 = .ok (.sipush 145, 3) := dz_17 (n := 32) (r := 11) hz_X11_stiff_32 rfl (by decide +kernel)
theorem dX11_stiff_46 : decode cX11_stiff 46 = .ok (.istore 4, 2) := dz_54 (n := 32) (r := 14) hz_X11_stiff_32 rfl rfl
theorem dX11_stiff_48 : decode cX11_stiff 48 = .ok (.sipush 145, 3) := dz_17 (n := 32) (r := 16) hz_X11_stiff_32 rfl (by decide +kernel)
theorem dX11_stiff_51 : decode cX11_stiff 51 = .ok (.istore 5, 2) := dz_54 (n := 32) (r := 19) hz_X11_stiff_32 rfl rfl
theorem dX11_stiff_53 : decode cX11_stiff 53 = .ok (.iconst 0, 1) := dz_3 (n := 32) (r := 21) hz_X11_stiff_32 rfl
theorem dX11_stiff_54 : decode cX11_stiff 54 = .ok (.istore 6, 2) := dz_54 (n := 32) (r := 22) hz_X11_stiff_32 rfl rfl
theorem dX11_stiff_56 : decode cX11_stiff 56 = .ok (.iload 6, 2) := dz_21 (n := 32) (r := 24) hz_X11_stiff_32 rfl rfl
theorem dX11_stiff_58 : decode cX11_stiff 58 = .ok (.iload_n 3, 1) := dz_29 (n := 32) (r := 26) hz_X11_stiff_32 rfl
theorem dX11_stiff_59 : decode cX11_stiff 59 = .ok (.if_icmp .ge 71, 3) := dz_162 (n := 32) (r := 27) hz_X11_stiff_32 rfl (by decide +kernel)
theorem dX11_stiff_62 : decode cX11_stiff 62 = .ok (.aload_n 0, 1) := dz_42 (n := 32) (r := 30) hz_X11_stiff_32 rfl
theorem dX11_stiff_63 : decode cX11_stiff 63 = .ok (.getfield 31, 3) := dz_180 (n := 32) (r := 31) hz_X11_stiff_32 rfl rfl
theorem hz_X11_stiff_64 : (cX11_stiff.data.toList.drop 64).take 40 = [0, 31, 21, 6, 182, 1, 39, 153, 0, 53, 21, 6, 27, 184, 0, 236, 21, 6, 28, 184, 0, 236, 160, 0, 22, 21, 5, 42, 180, 0, 52, 21, 6, 182, 1, 42, 184, 1, 123, 54] := by decide +kernel
theorem dX11_stiff_66 : decode cX11_stiff 66 = .ok (.iload 6, 2) := dz_21 (n := 64) (r := 2) hz_X11_stiff_64 rfl rfl
theorem dX11_stiff_68 : decode cX11_stiff 68 = .ok (.invokevirtual 295, 3) := dz_182 (n := 64) (r := 4) hz_X11_stiff_64 rfl rfl
theorem dX11_stiff_71 : decode cX11_stiff 71 = .ok (.ifCond .eq 53, 3) := dz_153 (n := 64) (r := 7) hz_X11_stiff_64 rfl (by decide +kernel)
theorem dX11_stiff_74 : decode cX11_stiff 74 = .ok (.iload 6, 2) := dz_21 (n := 64) (r := 10) hz_X11_stiff_64 rfl rfl
theorem dX11_stiff_76 : decode cX11_stiff 76 = .ok (.iload_n 1, 1) := dz_27 (n := 64) (r := 12) hz_X11_stiff_64 rfl
theorem dX11_stiff_77 : decode cX11_stiff 77 = .ok (.invokestatic 236, 3) := dz_184 (n := 64) (r := 13) hz_X11_stiff_64 rfl rfl
theorem dX11_stiff_80 : decode cX11_stiff 80 = .ok (.iload 6, 2) := dz_21 (n := 64) (r := 16) hz_X11_stiff_64 rfl rfl
theorem dX11_stiff_82 : decode cX11_stiff 82 = .ok (.iload_n 2, 1) := dz_28 (n := 64) (r := 18) hz_X11_stiff_64 rfl
theorem dX11_stiff_83 : decode cX11_stiff 83 = .ok (.invokestatic 236, 3) := dz_184 (n := 64) (r := 19) hz_X11_stiff_64 rfl rfl
theorem dX11_stiff_86 : decode cX11_stiff 86 = .ok (.if_icmp .ne 22, 3) := dz_160 (n := 64) (r := 22) hz_X11_stiff_64 rfl (by decide +kernel)
theorem dX11_stiff_89 : decode cX11_stiff 89 = .ok (.iload 5, 2) := dz_21 (n := 64) (r := 25) hz_X11_stiff_64 rfl rfl
theorem dX11_stiff_91 : decode cX11_stiff 91 = .ok (.aload_n 0, 1) := dz_42 (n := 64) (r := 27) hz_X11_stiff_64 rfl
theorem dX11_stiff_92 : decode cX11_stiff 92 = .ok (.getfield 52, 3) := dz_180 (n := 64) (r := 28) hz_X11_stiff_64 rfl rfl
theorem dX11_stiff_95 : decode cX11_stiff 95 = .ok (.iload 6, 2) := dz_21 (n := 64) (r := 31) hz_X11_stiff_64 rfl rfl
theorem hz_X11_stiff_96 : (cX11_stiff.data.toList.drop 96).take 40 = [6, 182, 1, 42, 184, 1, 123, 54, 5, 167, 0, 19, 21, 4, 42, 180, 0, 52, 21, 6, 182, 1, 42, 184, 1, 123, 54, 4, 132, 6, 1, 167, 255, 185, 21, 5, 17, 0, 145, 159] := by decide +kernel
theorem dX11_stiff_97 : decode cX11_stiff 97 = .ok (.invokevirtual 298, 3) := dz_182 (n := 96) (r := 1) hz_X11_stiff_96 rfl rfl
theorem dX11_stiff_100 : decode cX11_stiff 100 = .ok (.invokestatic 379, 3) := dz_184 (n := 96) (r := 4) hz_X11_stiff_96 rfl rfl
theorem dX11_stiff_103 : decode cX11_stiff 103 = .ok (.istore 5, 2) := dz_54 (n := 96) (r := 7) hz_X11_stiff_96 rfl rfl
theorem dX11_stiff_105 : decode cX11_stiff 105 = .ok (.goto 19, 3) := dz_167 (n := 96) (r := 9) hz_X11_stiff_96 rfl (by decide +kernel)
theorem dX11_stiff_108 : decode cX11_stiff 108 = .ok (.iload 4, 2) := dz_21 (n := 96) (r := 12) hz_X11_stiff_96 rfl rfl
theorem dX11_stiff_110 : decode cX11_stiff 110 = .ok (.aload_n 0, 1) := dz_42 (n := 96) (r := 14) hz_X11_stiff_96 rfl
theorem dX11_stiff_111 : decode cX11_stiff 111 = .ok (.getfield 52, 3) := dz_180 (n := 96) (r := 15) hz_X11_stiff_96 rfl rfl
theorem dX11_stiff_114 : decode cX11_stiff 114 = .ok (.iload 6, 2) := dz_21 (n := 96) (r := 18) hz_X11_stiff_96 rfl rfl
theorem dX11_stiff_116 : decode cX11_stiff 116 = .ok (.invokevirtual 298, 3) := dz_182 (n := 96) (r := 20) hz_X11_stiff_96 rfl rfl
theorem dX11_stiff_119 : decode cX11_stiff 119 = .ok (.invokestatic 379, 3) := dz_184 (n := 96) (r := 23) hz_X11_stiff_96 rfl rfl
theorem dX11_stiff_122 : decode cX11_stiff 122 = .ok (.istore 4, 2) := dz_54 (n := 96) (r := 26) hz_X11_stiff_96 rfl rfl
theorem dX11_stiff_124 : decode cX11_stiff 124 = .ok (.iinc 6 1, 3) := dz_132 (n := 96) (r := 28) hz_X11_stiff_96 rfl rfl rfl
theorem dX11_stiff_127 : decode cX11_stiff 127 = .ok (.goto (-71), 3) := dz_167 (n := 96) (r := 31) hz_X11_stiff_96 rfl (by decide +kernel)
theorem hz_X11_stiff_128 : (cX11_stiff.data.toList.drop 128).take 40 = [255, 185, 21, 5, 17, 0, 145, 159, 0, 11, 21, 4, 17, 0, 145, 160, 0, 7, 4, 167, 0, 4, 3, 54, 6, 21, 6, 153, 0, 8, 18, 226, 167, 0, 8, 21, 4, 21, 5, 100] := by decide +kernel
theorem dX11_stiff_130 : decode cX11_stiff 130 = .ok (.iload 5, 2) := dz_21 (n := 128) (r := 2) hz_X11_stiff_128 rfl rfl
theorem dX11_stiff_132 : decode cX11_stiff 132 = .ok (.sipush 145, 3) := dz_17 (n := 128) (r := 4) hz_X11_stiff_128 rfl (by decide +kernel)
theorem dX11_stiff_135 : decode cX11_stiff 135 = .ok (.if_icmp .eq 11, 3) := dz_159 (n := 128) (r := 7) hz_X11_stiff_128 rfl (by decide +kernel)
theorem dX11_stiff_138 : decode cX11_stiff 138 = .ok (.iload 4, 2) := dz_21 (n := 128) (r := 10) hz_X11_stiff_128 rfl rfl
theorem dX11_stiff_140 : decode cX11_stiff 140 = .ok (.sipush 145, 3) := dz_17 (n := 128) (r := 12) hz_X11_stiff_128 rfl (by decide +kernel)
theorem dX11_stiff_143 : decode cX11_stiff 143 = .ok (.if_icmp .ne 7, 3) := dz_160 (n := 128) (r := 15) hz_X11_stiff_128 rfl (by decide +kernel)
theorem dX11_stiff_146 : decode cX11_stiff 146 = .ok (.iconst 1, 1) := dz_4 (n := 128) (r := 18) hz_X11_stiff_128 rfl
theorem dX11_stiff_147 : decode cX11_stiff 147 = .ok (.goto 4, 3) := dz_167 (n := 128) (r := 19) hz_X11_stiff_128 rfl (by decide +kernel)
theorem dX11_stiff_150 : decode cX11_stiff 150 = .ok (.iconst 0, 1) := dz_3 (n := 128) (r := 22) hz_X11_stiff_128 rfl
theorem dX11_stiff_151 : decode cX11_stiff 151 = .ok (.istore 6, 2) := dz_54 (n := 128) (r := 23) hz_X11_stiff_128 rfl rfl
theorem dX11_stiff_153 : decode cX11_stiff 153 = .ok (.iload 6, 2) := dz_21 (n := 128) (r := 25) hz_X11_stiff_128 rfl rfl
theorem dX11_stiff_155 : decode cX11_stiff 155 = .ok (.ifCond .eq 8, 3) := dz_153 (n := 128) (r := 27) hz_X11_stiff_128 rfl (by decide +kernel)
theorem dX11_stiff_158 : decode cX11_stiff 158 = .ok (.ldc 226, 2) := dz_18 (n := 128) (r := 30) hz_X11_stiff_128 rfl rfl
theorem hz_X11_stiff_160 : (cX11_stiff.data.toList.drop 160).take 40 = [167, 0, 8, 21, 4, 21, 5, 100, 172] := by decide +kernel
theorem dX11_stiff_160 : decode cX11_stiff 160 = .ok (.goto 8, 3) := dz_167 (n := 160) (r := 0) hz_X11_stiff_160 rfl (by decide +kernel)
theorem dX11_stiff_163 : decode cX11_stiff 163 = .ok (.iload 4, 2) := dz_21 (n := 160) (r := 3) hz_X11_stiff_160 rfl rfl
theorem dX11_stiff_165 : decode cX11_stiff 165 = .ok (.iload 5, 2) := dz_21 (n := 160) (r := 5) hz_X11_stiff_160 rfl rfl
theorem dX11_stiff_167 : decode cX11_stiff 167 = .ok (.isub, 1) := dz_100 (n := 160) (r := 7) hz_X11_stiff_160 rfl
theorem dX11_stiff_168 : decode cX11_stiff 168 = .ok (.ireturn, 1) := dz_172 (n := 160) (r := 8) hz_X11_stiff_160 rfl
theorem hz_X11_state_0 : (cX11_state.data.toList.drop 0).take 40 = [42, 27, 182, 1, 128, 154, 0, 6, 18, 226, 172, 28, 170, 0, 0, 0, 0, 0, 0, 156, 0, 0, 0, 0, 0, 0, 0, 5, 0, 0, 0, 40, 0, 0, 0, 53, 0, 0, 0, 66] := by decide +kernel
theorem dX11_state_0 : decode cX11_state 0 = .ok (.aload_n 0, 1) := dz_42 (n := 0) (r := 0) hz_X11_state_0 rfl
theorem dX11_state_1 : decode cX11_state 1 = .ok (.iload_n 1, 1) := dz_27 (n := 0) (r := 1) hz_X11_state_0 rfl
theorem dX11_state_2 : decode cX11_state 2 = .ok (.invokevirtual 384, 3) := dz_182 (n := 0) (r := 2) hz_X11_state_0 rfl rfl
theorem dX11_state_5 : decode cX11_state 5 = .ok (.ifCond .ne 6, 3) := dz_154 (n := 0) (r := 5) hz_X11_state_0 rfl (by decide +kernel)
theorem dX11_state_8 : decode cX11_state 8 = .ok (.ldc 226, 2) := dz_18 (n := 0) (r := 8) hz_X11_state_0 rfl rfl
theorem dX11_state_10 : decode cX11_state 10 = .ok (.ireturn, 1) := dz_172 (n := 0) (r := 10) hz_X11_state_0 rfl
theorem dX11_state_11 : decode cX11_state 11 = .ok (.iload_n 2, 1) := dz_28 (n := 0) (r := 11) hz_X11_state_0 rfl
theorem dX11_state_12 : decode cX11_state 12 = .ok (.tableswitch 156 0 5 #[40, 53, 66, 88, 112, 136], 40) := by decide +kernel
theorem hz_X11_state_32 : (cX11_state.data.toList.drop 32).take 40 = [0, 0, 0, 53, 0, 0, 0, 66, 0, 0, 0, 88, 0, 0, 0, 112, 0, 0, 0, 136, 42, 180, 0, 24, 42, 180, 0, 31, 27, 182, 1, 131, 172, 42, 180, 0, 24, 42, 180, 0] := by decide +kernel
theorem dX11_state_52 : decode cX11_state 52 = .ok (.aload_n 0, 1) := dz_42 (n := 32) (r := 20) hz_X11_state_32 rfl
theorem dX11_state_53 : decode cX11_state 53 = .ok (.getfield 24, 3) := dz_180 (n := 32) (r := 21) hz_X11_state_32 rfl rfl
theorem dX11_state_56 : decode cX11_state 56 = .ok (.aload_n 0, 1) := dz_42 (n := 32) (r := 24) hz_X11_state_32 rfl
theorem dX11_state_57 : decode cX11_state 57 = .ok (.getfield 31, 3) := dz_180 (n := 32) (r := 25) hz_X11_state_32 rfl rfl
theorem dX11_state_60 : decode cX11_state 60 = .ok (.iload_n 1, 1) := dz_27 (n := 32) (r := 28) hz_X11_state_32 rfl
theorem dX11_state_61 : decode cX11_state 61 = .ok (.invokevirtual 387, 3) := dz_182 (n := 32) (r := 29) hz_X11_state_32 rfl rfl
theorem hz_X11_state_64 : (cX11_state.data.toList.drop 64).take 40 = [172, 42, 180, 0, 24, 42, 180, 0, 31, 27, 182, 1, 133, 172, 42, 180, 0, 24, 42, 180, 0, 31, 27, 182, 1, 136, 2, 160, 0, 7, 4, 167, 0, 4, 3, 172, 42, 180, 0, 83] := by decide +kernel
theorem dX11_state_64 : decode cX11_state 64 = .ok (.ireturn, 1) := dz_172 (n := 64) (r := 0) hz_X11_state_64 rfl
theorem dX11_state_65 : decode cX11_state 65 = .ok (.aload_n 0, 1) := dz_42 (n := 64) (r := 1) hz_X11_state_64 rfl
theorem dX11_state_66 : decode cX11_state 66 = .ok (.getfield 24, 3) := dz_180 (n := 64) (r := 2) hz_X11_state_64 rfl rfl
theorem dX11_state_69 : decode cX11_state 69 = .ok (.aload_n 0, 1) := dz_42 (n := 64) (r := 5) hz_X11_state_64 rfl
theorem dX11_state_70 : decode cX11_state 70 = .ok (.getfield 31, 3) := dz_180 (n := 64) (r := 6) hz_X11_state_64 rfl rfl
theorem dX11_state_73 : decode cX11_state 73 = .ok (.iload_n 1, 1) := dz_27 (n := 64) (r := 9) hz_X11_state_64 rfl
theorem dX11_state_74 : decode cX11_state 74 = .ok (.invokevirtual 389, 3) := dz_182 (n := 64) (r := 10) hz_X11_state_64 rfl rfl
theorem dX11_state_77 : decode cX11_state 77 = .ok (.ireturn, 1) := dz_172 (n := 64) (r := 13) hz_X11_state_64 rfl
theorem dX11_state_78 : decode cX11_state 78 = .ok (.aload_n 0, 1) := dz_42 (n := 64) (r := 14) hz_X11_state_64 rfl
theorem dX11_state_79 : decode cX11_state 79 = .ok (.getfield 24, 3) := dz_180 (n := 64) (r := 15) hz_X11_state_64 rfl rfl
theorem dX11_state_82 : decode cX11_state 82 = .ok (.aload_n 0, 1) := dz_42 (n := 64) (r := 18) hz_X11_state_64 rfl
theorem dX11_state_83 : decode cX11_state 83 = .ok (.getfield 31, 3) := dz_180 (n := 64) (r := 19) hz_X11_state_64 rfl rfl
theorem dX11_state_86 : decode cX11_state 86 = .ok (.iload_n 1, 1) := dz_27 (n := 64) (r := 22) hz_X11_state_64 rfl
theorem dX11_state_87 : decode cX11_state 87 = .ok (.invokevirtual 392, 3) := dz_182 (n := 64) (r := 23) hz_X11_state_64 rfl rfl
theorem dX11_state_90 : decode cX11_state 90 = .ok (.iconst (-1), 1) := dz_2 (n := 64) (r := 26) hz_X11_state_64 rfl
theorem dX11_state_91 : decode cX11_state 91 = .ok (.if_icmp .ne 7, 3) := dz_160 (n := 64) (r := 27) hz_X11_state_64 rfl (by decide +kernel)
theorem dX11_state_94 : decode cX11_state 94 = .ok (.iconst 1, 1) := dz_4 (n := 64) (r := 30) hz_X11_state_64 rfl
theorem dX11_state_95 : decode cX11_state 95 = .ok (.goto 4, 3) := dz_167 (n := 64) (r := 31) hz_X11_state_64 rfl (by decide +kernel)
theorem hz_X11_state_96 : (cX11_state.data.toList.drop 96).take 40 = [0, 4, 3, 172, 42, 180, 0, 83, 42, 180, 0, 24, 42, 180, 0, 31, 27, 182, 0, 214, 42, 180, 0, 83, 180, 0, 221, 172, 42, 180, 0, 83, 42, 180, 0, 24, 42, 180, 0, 31] := by decide +kernel
theorem dX11_state_98 : decode cX11_state 98 = .ok (.iconst 0, 1) := dz_3 (n := 96) (r := 2) hz_X11_state_96 rfl
theorem dX11_state_99 : decode cX11_state 99 = .ok (.ireturn, 1) := dz_172 (n := 96) (r := 3) hz_X11_state_96 rfl
theorem dX11_state_100 : decode cX11_state 100 = .ok (.aload_n 0, 1) := dz_42 (n := 96) (r := 4) hz_X11_state_96 rfl
theorem dX11_state_101 : decode cX11_state 101 = .ok (.getfield 83, 3) := dz_180 (n := 96) (r := 5) hz_X11_state_96 rfl rfl
theorem dX11_state_104 : decode cX11_state 104 = .ok (.aload_n 0, 1) := dz_42 (n := 96) (r := 8) hz_X11_state_96 rfl
theorem dX11_state_105 : decode cX11_state 105 = .ok (.getfield 24, 3) := dz_180 (n := 96) (r := 9) hz_X11_state_96 rfl rfl
theorem dX11_state_108 : decode cX11_state 108 = .ok (.aload_n 0, 1) := dz_42 (n := 96) (r := 12) hz_X11_state_96 rfl
theorem dX11_state_109 : decode cX11_state 109 = .ok (.getfield 31, 3) := dz_180 (n := 96) (r := 13) hz_X11_state_96 rfl rfl
theorem dX11_state_112 : decode cX11_state 112 = .ok (.iload_n 1, 1) := dz_27 (n := 96) (r := 16) hz_X11_state_96 rfl
theorem dX11_state_113 : decode cX11_state 113 = .ok (.invokevirtual 214, 3) := dz_182 (n := 96) (r := 17) hz_X11_state_96 rfl rfl
theorem dX11_state_116 : decode cX11_state 116 = .ok (.aload_n 0, 1) := dz_42 (n := 96) (r := 20) hz_X11_state_96 rfl
theorem dX11_state_117 : decode cX11_state 117 = .ok (.getfield 83, 3) := dz_180 (n := 96) (r := 21) hz_X11_state_96 rfl rfl
theorem dX11_state_120 : decode cX11_state 120 = .ok (.getfield 221, 3) := dz_180 (n := 96) (r := 24) hz_X11_state_96 rfl rfl
theorem dX11_state_123 : decode cX11_state 123 = .ok (.ireturn, 1) := dz_172 (n := 96) (r := 27) hz_X11_state_96 rfl
theorem dX11_state_124 : decode cX11_state 124 = .ok (.aload_n 0, 1) := dz_42 (n := 96) (r := 28) hz_X11_state_96 rfl
theorem dX11_state_125 : decode cX11_state 125 = .ok (.getfield 83, 3) := dz_180 (n := 96) (r := 29) hz_X11_state_96 rfl rfl
theorem hz_X11_state_128 : (cX11_state.data.toList.drop 128).take 40 = [42, 180, 0, 24, 42, 180, 0, 31, 27, 182, 0, 214, 42, 180, 0, 83, 180, 0, 218, 172, 42, 182, 0, 251, 42, 180, 0, 24, 42, 180, 0, 31, 27, 182, 1, 131, 182, 1, 139, 172] := by decide +kernel
theorem dX11_state_128 : decode cX11_state 128 = .ok (.aload_n 0, 1) := dz_42 (n := 128) (r := 0) hz_X11_state_128 rfl
theorem dX11_state_129 : decode cX11_state 129 = .ok (.getfield 24, 3) := dz_180 (n := 128) (r := 1) hz_X11_state_128 rfl rfl
theorem dX11_state_132 : decode cX11_state 132 = .ok (.aload_n 0, 1) := dz_42 (n := 128) (r := 4) hz_X11_state_128 rfl
theorem dX11_state_133 : decode cX11_state 133 = .ok (.getfield 31, 3) := dz_180 (n := 128) (r := 5) hz_X11_state_128 rfl rfl
theorem dX11_state_136 : decode cX11_state 136 = .ok (.iload_n 1, 1) := dz_27 (n := 128) (r := 8) hz_X11_state_128 rfl
theorem dX11_state_137 : decode cX11_state 137 = .ok (.invokevirtual 214, 3) := dz_182 (n := 128) (r := 9) hz_X11_state_128 rfl rfl
theorem dX11_state_140 : decode cX11_state 140 = .ok (.aload_n 0, 1) := dz_42 (n := 128) (r := 12) hz_X11_state_128 rfl
theorem dX11_state_141 : decode cX11_state 141 = .ok (.getfield 83, 3) := dz_180 (n := 128) (r := 13) hz_X11_state_128 rfl rfl
theorem dX11_state_144 : decode cX11_state 144 = .ok (.getfield 218, 3) := dz_180 (n := 128) (r := 16) hz_X11_state_128 rfl rfl
theorem dX11_state_147 : decode cX11_state 147 = .ok (.ireturn, 1) := dz_172 (n := 128) (r := 19) hz_X11_state_128 rfl
theorem dX11_state_148 : decode cX11_state 148 = .ok (.aload_n 0, 1) := dz_42 (n := 128) (r := 20) hz_X11_state_128 rfl
theorem dX11_state_149 : decode cX11_state 149 = .ok (.invokevirtual 251, 3) := dz_182 (n := 128) (r := 21) hz_X11_state_128 rfl rfl
theorem dX11_state_152 : decode cX11_state 152 = .ok (.aload_n 0, 1) := dz_42 (n := 128) (r := 24) hz_X11_state_128 rfl
theorem dX11_state_153 : decode cX11_state 153 = .ok (.getfield 24, 3) := dz_180 (n := 128) (r := 25) hz_X11_state_128 rfl rfl
theorem dX11_state_156 : decode cX11_state 156 = .ok (.aload_n 0, 1) := dz_42 (n := 128) (r := 28) hz_X11_state_128 rfl
theorem dX11_state_157 : decode cX11_state 157 = .ok (.getfield 31, 3) := dz_180 (n := 128) (r := 29) hz_X11_state_128 rfl rfl
theorem hz_X11_state_160 : (cX11_state.data.toList.drop 160).take 40 = [27, 182, 1, 131, 182, 1, 139, 172, 18, 226, 172] := by decide +kernel
theorem dX11_state_160 : decode cX11_state 160 = .ok (.iload_n 1, 1) := dz_27 (n := 160) (r := 0) hz_X11_state_160 rfl
theorem dX11_state_161 : decode cX11_state 161 = .ok (.invokevirtual 387, 3) := dz_182 (n := 160) (r := 1) hz_X11_state_160 rfl rfl
theorem dX11_state_164 : decode cX11_state 164 = .ok (.invokevirtual 395, 3) := dz_182 (n := 160) (r := 4) hz_X11_state_160 rfl rfl
theorem dX11_state_167 : decode cX11_state 167 = .ok (.ireturn, 1) := dz_172 (n := 160) (r := 7) hz_X11_state_160 rfl
theorem dX11_state_168 : decode cX11_state 168 = .ok (.ldc 226, 2) := dz_18 (n := 160) (r := 8) hz_X11_state_160 rfl rfl
theorem dX11_state_170 : decode cX11_state 170 = .ok (.ireturn, 1) := dz_172 (n := 160) (r := 10) hz_X11_state_160 rfl
theorem hz_X11_nearest_0 : (cX11_nearest.data.toList.drop 0).take 40 = [42, 27, 182, 1, 128, 153, 0, 12, 28, 155, 0, 8, 28, 4, 164, 0, 6, 18, 226, 172, 42, 27, 182, 1, 142, 62, 28, 154, 0, 7, 29, 167, 0, 9, 29, 27, 130, 184, 1, 118] := by decide +kernel
theorem dX11_nearest_0 : decode cX11_nearest 0 = .ok (.aload_n 0, 1) := dz_42 (n := 0) (r := 0) hz_X11_nearest_0 rfl
theorem dX11_nearest_1 : decode cX11_nearest 1 = .ok (.iload_n 1, 1) := dz_27 (n := 0) (r := 1) hz_X11_nearest_0 rfl
theorem dX11_nearest_2 : decode cX11_nearest 2 = .ok (.invokevirtual 384, 3) := dz_182 (n := 0) (r := 2) hz_X11_nearest_0 rfl rfl
theorem dX11_nearest_5 : decode cX11_nearest 5 = .ok (.ifCond .eq 12, 3) := dz_153 (n := 0) (r := 5) hz_X11_nearest_0 rfl (by decide +kernel)
theorem dX11_nearest_8 : decode cX11_nearest 8 = .ok (.iload_n 2, 1) := dz_28 (n := 0) (r := 8) hz_X11_nearest_0 rfl
theorem dX11_nearest_9 : decode cX11_nearest 9 = .ok (.ifCond .lt 8, 3) := dz_155 (n := 0) (r := 9) hz_X11_nearest_0 rfl (by decide +kernel)
theorem dX11_nearest_12 : decode cX11_nearest 12 = .ok (.iload_n 2, 1) := dz_28 (n := 0) (r := 12) hz_X11_nearest_0 rfl
theorem dX11_nearest_13 : decode cX11_nearest 13 = .ok (.iconst 1, 1) := dz_4 (n := 0) (r := 13) hz_X11_nearest_0 rfl
theorem dX11_nearest_14 : decode cX11_nearest 14 = .ok (.if_icmp .le 6, 3) := dz_164 (n := 0) (r := 14) hz_X11_nearest_0 rfl (by decide +kernel)
theorem dX11_nearest_17 : decode cX11_nearest 17 = .ok (.ldc 226, 2) := dz_18 (n := 0) (r := 17) hz_X11_nearest_0 rfl rfl
theorem dX11_nearest_19 : decode cX11_nearest 19 = .ok (.ireturn, 1) := dz_172 (n := 0) (r := 19) hz_X11_nearest_0 rfl
theorem dX11_nearest_20 : decode cX11_nearest 20 = .ok (.aload_n 0, 1) := dz_42 (n := 0) (r := 20) hz_X11_nearest_0 rfl
theorem dX11_nearest_21 : decode cX11_nearest 21 = .ok (.iload_n 1, 1) := dz_27 (n := 0) (r := 21) hz_X11_nearest_0 rfl
theorem dX11_nearest_22 : decode cX11_nearest 22 = .ok (.invokevirtual 398, 3) := dz_182 (n := 0) (r := 22) hz_X11_nearest_0 rfl rfl
theorem dX11_nearest_25 : decode cX11_nearest 25 = .ok (.istore_n 3, 1) := dz_62 (n := 0) (r := 25) hz_X11_nearest_0 rfl
theorem dX11_nearest_26 : decode cX11_nearest 26 = .ok (.iload_n 2, 1) := dz_28 (n := 0) (r := 26) hz_X11_nearest_0 rfl
theorem dX11_nearest_27 : decode cX11_nearest 27 = .ok (.ifCond .ne 7, 3) := dz_154 (n := 0) (r := 27) hz_X11_nearest_0 rfl (by decide +kernel)
theorem dX11_nearest_30 : decode cX11_nearest 30 = .ok (.iload_n 3, 1) := dz_29 (n := 0) (r := 30) hz_X11_nearest_0 rfl
theorem dX11_nearest_31 : decode cX11_nearest 31 = .ok (.goto 9, 3) := dz_167 (n := 0) (r := 31) hz_X11_nearest_0 rfl (by decide +kernel)
theorem hz_X11_nearest_32 : (cX11_nearest.data.toList.drop 32).take 40 = [0, 9, 29, 27, 130, 184, 1, 118, 172] := by decide +kernel
theorem dX11_nearest_34 : decode cX11_nearest 34 = .ok (.iload_n 3, 1) := dz_29 (n := 32) (r := 2) hz_X11_nearest_32 rfl
theorem dX11_nearest_35 : decode cX11_nearest 35 = .ok (.iload_n 1, 1) := dz_27 (n := 32) (r := 3) hz_X11_nearest_32 rfl
theorem dX11_nearest_36 : decode cX11_nearest 36 = .ok (.ixor, 1) := dz_130 (n := 32) (r := 4) hz_X11_nearest_32 rfl
theorem dX11_nearest_37 : decode cX11_nearest 37 = .ok (.invokestatic 374, 3) := dz_184 (n := 32) (r := 5) hz_X11_nearest_32 rfl rfl
theorem dX11_nearest_40 : decode cX11_nearest 40 = .ok (.ireturn, 1) := dz_172 (n := 32) (r := 8) hz_X11_nearest_32 rfl
theorem hz_X11_nearestGround_0 : (cX11_nearestGround.data.toList.drop 0).take 40 = [42, 182, 0, 251, 77, 44, 3, 182, 1, 5, 62, 42, 180, 0, 24, 182, 1, 35, 54, 4, 44, 29, 182, 1, 11, 54, 5, 3, 54, 6, 21, 6, 21, 4, 162, 0, 55, 42, 180, 0] := by decide +kernel
theorem dX11_nearestGround_0 : decode cX11_nearestGround 0 = .ok (.aload_n 0, 1) := dz_42 (n := 0) (r := 0) hz_X11_nearestGround_0 rfl
theorem dX11_nearestGround_1 : decode cX11_nearestGround 1 = .ok (.invokevirtual 251, 3) := dz_182 (n := 0) (r := 1) hz_X11_nearestGround_0 rfl rfl
theorem dX11_nearestGround_4 : decode cX11_nearestGround 4 = .ok (.astore_n 2, 1) := dz_77 (n := 0) (r := 4) hz_X11_nearestGround_0 rfl
theorem dX11_nearestGround_5 : decode cX11_nearestGround 5 = .ok (.aload_n 2, 1) := dz_44 (n := 0) (r := 5) hz_X11_nearestGround_0 rfl
theorem dX11_nearestGround_6 : decode cX11_nearestGround 6 = .ok (.iconst 0, 1) := dz_3 (n := 0) (r := 6) hz_X11_nearestGround_0 rfl
theorem dX11_nearestGround_7 : decode cX11_nearestGround 7 = .ok (.invokevirtual 261, 3) := dz_182 (n := 0) (r := 7) hz_X11_nearestGround_0 rfl rfl
theorem dX11_nearestGround_10 : decode cX11_nearestGround 10 = .ok (.istore_n 3, 1) := dz_62 (n := 0) (r := 10) hz_X11_nearestGround_0 rfl
theorem dX11_nearestGround_11 : decode cX11_nearestGround 11 = .ok (.aload_n 0, 1) := dz_42 (n := 0) (r := 11) hz_X11_nearestGround_0 rfl
theorem dX11_nearestGround_12 : decode cX11_nearestGround 12 = .ok (.getfield 24, 3) := dz_180 (n := 0) (r := 12) hz_X11_nearestGround_0 rfl rfl
theorem dX11_nearestGround_15 : decode cX11_nearestGround 15 = .ok (.invokevirtual 291, 3) := dz_182 (n := 0) (r := 15) hz_X11_nearestGround_0 rfl rfl
theorem dX11_nearestGround_18 : decode cX11_nearestGround 18 = .ok (.istore 4, 2) := dz_54 (n := 0) (r := 18) hz_X11_nearestGround_0 rfl rfl
theorem dX11_nearestGround_20 : decode cX11_nearestGround 20 = .ok (.aload_n 2, 1) := dz_44 (n := 0) (r := 20) hz_X11_nearestGround_0 rfl
theorem dX11_nearestGround_21 : decode cX11_nearestGround 21 = .ok (.iload_n 3, 1) := dz_29 (n := 0) (r := 21) hz_X11_nearestGround_0 rfl
theorem dX11_nearestGround_22 : decode cX11_nearestGround 22 = .ok (.invokevirtual 267, 3) := dz_182 (n := 0) (r := 22) hz_X11_nearestGround_0 rfl rfl
theorem dX11_nearestGround_25 : decode cX11_nearestGround 25 = .ok (.istore 5, 2) := dz_54 (n := 0) (r := 25) hz_X11_nearestGround_0 rfl rfl
theorem dX11_nearestGround_27 : decode cX11_nearestGround 27 = .ok (.iconst 0, 1) := dz_3 (n := 0) (r := 27) hz_X11_nearestGround_0 rfl
theorem dX11_nearestGround_28 : decode cX11_nearestGround 28 = .ok (.istore 6, 2) := dz_54 (n := 0) (r := 28) hz_X11_nearestGround_0 rfl rfl
theorem dX11_nearestGround_30 : decode cX11_nearestGround 30 = .ok (.iload 6, 2) := dz_21 (n := 0) (r := 30) hz_X11_nearestGround_0 rfl rfl
theorem hz_X11_nearestGround_32 : (cX11_nearestGround.data.toList.drop 32).take 40 = [21, 4, 162, 0, 55, 42, 180, 0, 31, 21, 6, 182, 1, 39, 153, 0, 37, 42, 180, 0, 52, 21, 6, 182, 1, 42, 29, 160, 0, 24, 21, 6, 27, 130, 184, 1, 118, 21, 5, 27] := by decide +kernel
theorem dX11_nearestGround_32 : decode cX11_nearestGround 32 = .ok (.iload 4, 2) := dz_21 (n := 32) (r := 0) hz_X11_nearestGround_32 rfl rfl
theorem dX11_nearestGround_34 : decode cX11_nearestGround 34 = .ok (.if_icmp .ge 55, 3) := dz_162 (n := 32) (r := 2) hz_X11_nearestGround_32 rfl (by decide +kernel)
theorem dX11_nearestGround_37 : decode cX11_nearestGround 37 = .ok (.aload_n 0, 1) := dz_42 (n := 32) (r := 5) hz_X11_nearestGround_32 rfl
theorem dX11_nearestGround_38 : decode cX11_nearestGround 38 = .ok (.getfield 31, 3) := dz_180 (n := 32) (r := 6) hz_X11_nearestGround_32 rfl rfl
theorem dX11_nearestGround_41 : decode cX11_nearestGround 41 = .ok (.iload 6, 2) := dz_21 (n := 32) (r := 9) hz_X11_nearestGround_32 rfl rfl
theorem dX11_nearestGround_43 : decode cX11_nearestGround 43 = .ok (.invokevirtual 295, 3) := dz_182 (n := 32) (r := 11) hz_X11_nearestGround_32 rfl rfl
theorem dX11_nearestGround_46 : decode cX11_nearestGround 46 = .ok (.ifCond .eq 37, 3) := dz_153 (n := 32) (r := 14) hz_X11_nearestGround_32 rfl (by decide +kernel)
theorem dX11_nearestGround_49 : decode cX11_nearestGround 49 = .ok (.aload_n 0, 1) := dz_42 (n := 32) (r := 17) hz_X11_nearestGround_32 rfl
theorem dX11_nearestGround_50 : decode cX11_nearestGround 50 = .ok (.getfield 52, 3) := dz_180 (n := 32) (r := 18) hz_X11_nearestGround_32 rfl rfl
theorem dX11_nearestGround_53 : decode cX11_nearestGround 53 = .ok (.iload 6, 2) := dz_21 (n := 32) (r := 21) hz_X11_nearestGround_32 rfl rfl
theorem dX11_nearestGround_55 : decode cX11_nearestGround 55 = .ok (.invokevirtual 298, 3) := dz_182 (n := 32) (r := 23) hz_X11_nearestGround_32 rfl rfl
theorem dX11_nearestGround_58 : decode cX11_nearestGround 58 = .ok (.iload_n 3, 1) := dz_29 (n := 32) (r := 26) hz_X11_nearestGround_32 rfl
theorem dX11_nearestGround_59 : decode cX11_nearestGround 59 = .ok (.if_icmp .ne 24, 3) := dz_160 (n := 32) (r := 27) hz_X11_nearestGround_32 rfl (by decide +kernel)
theorem dX11_nearestGround_62 : decode cX11_nearestGround 62 = .ok (.iload 6, 2) := dz_21 (n := 32) (r := 30) hz_X11_nearestGround_32 rfl rfl
theorem hz_X11_nearestGround_64 : (cX11_nearestGround.data.toList.drop 64).take 40 = [27, 130, 184, 1, 118, 21, 5, 27, 130, 184, 1, 118, 162, 0, 7, 21, 6, 54, 5, 132, 6, 1, 167, 255, 200, 21, 5, 172] := by decide +kernel
theorem dX11_nearestGround_64 : decode cX11_nearestGround 64 = .ok (.iload_n 1, 1) := dz_27 (n := 64) (r := 0) hz_X11_nearestGround_64 rfl
theorem dX11_nearestGround_65 : decode cX11_nearestGround 65 = .ok (.ixor, 1) := dz_130 (n := 64) (r := 1) hz_X11_nearestGround_64 rfl
theorem dX11_nearestGround_66 : decode cX11_nearestGround 66 = .ok (.invokestatic 374, 3) := dz_184 (n := 64) (r := 2) hz_X11_nearestGround_64 rfl rfl
theorem dX11_nearestGround_69 : decode cX11_nearestGround 69 = .ok (.iload 5, 2) := dz_21 (n := 64) (r := 5) hz_X11_nearestGround_64 rfl rfl
theorem dX11_nearestGround_71 : decode cX11_nearestGround 71 = .ok (.iload_n 1, 1) := dz_27 (n := 64) (r := 7) hz_X11_nearestGround_64 rfl
theorem dX11_nearestGround_72 : decode cX11_nearestGround 72 = .ok (.ixor, 1) := dz_130 (n := 64) (r := 8) hz_X11_nearestGround_64 rfl
theorem dX11_nearestGround_73 : decode cX11_nearestGround 73 = .ok (.invokestatic 374, 3) := dz_184 (n := 64) (r := 9) hz_X11_nearestGround_64 rfl rfl
theorem dX11_nearestGround_76 : decode cX11_nearestGround 76 = .ok (.if_icmp .ge 7, 3) := dz_162 (n := 64) (r := 12) hz_X11_nearestGround_64 rfl (by decide +kernel)
theorem dX11_nearestGround_79 : decode cX11_nearestGround 79 = .ok (.iload 6, 2) := dz_21 (n := 64) (r := 15) hz_X11_nearestGround_64 rfl rfl
theorem dX11_nearestGround_81 : decode cX11_nearestGround 81 = .ok (.istore 5, 2) := dz_54 (n := 64) (r := 17) hz_X11_nearestGround_64 rfl rfl
theorem dX11_nearestGround_83 : decode cX11_nearestGround 83 = .ok (.iinc 6 1, 3) := dz_132 (n := 64) (r := 19) hz_X11_nearestGround_64 rfl rfl rfl
theorem dX11_nearestGround_86 : decode cX11_nearestGround 86 = .ok (.goto (-56), 3) := dz_167 (n := 64) (r := 22) hz_X11_nearestGround_64 rfl (by decide +kernel)
theorem dX11_nearestGround_89 : decode cX11_nearestGround 89 = .ok (.iload 5, 2) := dz_21 (n := 64) (r := 25) hz_X11_nearestGround_64 rfl rfl
theorem dX11_nearestGround_91 : decode cX11_nearestGround 91 = .ok (.ireturn, 1) := dz_172 (n := 64) (r := 27) hz_X11_nearestGround_64 rfl
theorem hz_X11_wander_0 : (cX11_wander.data.toList.drop 0).take 40 = [27, 155, 0, 30, 27, 17, 0, 200, 163, 0, 23, 28, 155, 0, 19, 28, 16, 100, 163, 0, 13, 42, 180, 0, 24, 180, 0, 197, 154, 0, 6, 18, 226, 172, 42, 180, 0, 83, 42, 180] := by decide +kernel
theorem dX11_wander_0 : decode cX11_wander 0 = .ok (.iload_n 1, 1) := dz_27 (n := 0) (r := 0) hz_X11_wander_0 rfl
theorem dX11_wander_1 : decode cX11_wander 1 = .ok (.ifCond .lt 30, 3) := dz_155 (n := 0) (r := 1) hz_X11_wander_0 rfl (by decide +kernel)
theorem dX11_wander_4 : decode cX11_wander 4 = .ok (.iload_n 1, 1) := dz_27 (n := 0) (r := 4) hz_X11_wander_0 rfl
theorem dX11_wander_5 : decode cX11_wander 5 = .ok (.sipush 200, 3) := dz_17 (n := 0) (r := 5) hz_X11_wander_0 rfl (by decide +kernel)
theorem dX11_wander_8 : decode cX11_wander 8 = .ok (.if_icmp .gt 23, 3) := dz_163 (n := 0) (r := 8) hz_X11_wander_0 rfl (by decide +kernel)
theorem dX11_wander_11 : decode cX11_wander 11 = .ok (.iload_n 2, 1) := dz_28 (n := 0) (r := 11) hz_X11_wander_0 rfl
theorem dX11_wander_12 : decode cX11_wander 12 = .ok (.ifCond .lt 19, 3) := dz_155 (n := 0) (r := 12) hz_X11_wander_0 rfl (by decide +kernel)
theorem dX11_wander_15 : decode cX11_wander 15 = .ok (.iload_n 2, 1) := dz_28 (n := 0) (r := 15) hz_X11_wander_0 rfl
theorem dX11_wander_16 : decode cX11_wander 16 = .ok (.bipush 100, 2) := dz_16 (n := 0) (r := 16) hz_X11_wander_0 rfl rfl
theorem dX11_wander_18 : decode cX11_wander 18 = .ok (.if_icmp .gt 13, 3) := dz_163 (n := 0) (r := 18) hz_X11_wander_0 rfl (by decide +kernel)
theorem dX11_wander_21 : decode cX11_wander 21 = .ok (.aload_n 0, 1) := dz_42 (n := 0) (r := 21) hz_X11_wander_0 rfl
theorem dX11_wander_22 : decode cX11_wander 22 = .ok (.getfield 24, 3) := dz_180 (n := 0) (r := 22) hz_X11_wander_0 rfl rfl
theorem dX11_wander_25 : decode cX11_wander 25 = .ok (.getfield 197, 3) := dz_180 (n := 0) (r := 25) hz_X11_wander_0 rfl rfl
theorem dX11_wander_28 : decode cX11_wander 28 = .ok (.ifCond .ne 6, 3) := dz_154 (n := 0) (r := 28) hz_X11_wander_0 rfl (by decide +kernel)
theorem dX11_wander_31 : decode cX11_wander 31 = .ok (.ldc 226, 2) := dz_18 (n := 0) (r := 31) hz_X11_wander_0 rfl rfl
theorem hz_X11_wander_32 : (cX11_wander.data.toList.drop 32).take 40 = [226, 172, 42, 180, 0, 83, 42, 180, 0, 24, 42, 180, 0, 31, 27, 28, 182, 1, 145, 29, 170, 0, 0, 0, 0, 0, 0, 52, 0, 0, 0, 0, 0, 0, 0, 2, 0, 0, 0, 28] := by decide +kernel
theorem dX11_wander_33 : decode cX11_wander 33 = .ok (.ireturn, 1) := dz_172 (n := 32) (r := 1) hz_X11_wander_32 rfl
theorem dX11_wander_34 : decode cX11_wander 34 = .ok (.aload_n 0, 1) := dz_42 (n := 32) (r := 2) hz_X11_wander_32 rfl
theorem dX11_wander_35 : decode cX11_wander 35 = .ok (.getfield 83, 3) := dz_180 (n := 32) (r := 3) hz_X11_wander_32 rfl rfl
theorem dX11_wander_38 : decode cX11_wander 38 = .ok (.aload_n 0, 1) := dz_42 (n := 32) (r := 6) hz_X11_wander_32 rfl
theorem dX11_wander_39 : decode cX11_wander 39 = .ok (.getfield 24, 3) := dz_180 (n := 32) (r := 7) hz_X11_wander_32 rfl rfl
theorem dX11_wander_42 : decode cX11_wander 42 = .ok (.aload_n 0, 1) := dz_42 (n := 32) (r := 10) hz_X11_wander_32 rfl
theorem dX11_wander_43 : decode cX11_wander 43 = .ok (.getfield 31, 3) := dz_180 (n := 32) (r := 11) hz_X11_wander_32 rfl rfl
theorem dX11_wander_46 : decode cX11_wander 46 = .ok (.iload_n 1, 1) := dz_27 (n := 32) (r := 14) hz_X11_wander_32 rfl
theorem dX11_wander_47 : decode cX11_wander 47 = .ok (.iload_n 2, 1) := dz_28 (n := 32) (r := 15) hz_X11_wander_32 rfl
theorem dX11_wander_48 : decode cX11_wander 48 = .ok (.invokevirtual 401, 3) := dz_182 (n := 32) (r := 16) hz_X11_wander_32 rfl rfl
theorem dX11_wander_51 : decode cX11_wander 51 = .ok (.iload_n 3, 1) := dz_29 (n := 32) (r := 19) hz_X11_wander_32 rfl
theorem dX11_wander_52 : decode cX11_wander 52 = .ok (.tableswitch 52 0 2 #[28, 36, 44], 28) := by decide +kernel
theorem hz_X11_wander_64 : (cX11_wander.data.toList.drop 64).take 40 = [0, 0, 0, 2, 0, 0, 0, 28, 0, 0, 0, 36, 0, 0, 0, 44, 42, 180, 0, 83, 180, 0, 221, 172, 42, 180, 0, 83, 180, 1, 149, 172, 42, 180, 0, 83, 180, 0, 218, 172] := by decide +kernel
theorem dX11_wander_80 : decode cX11_wander 80 = .ok (.aload_n 0, 1) := dz_42 (n := 64) (r := 16) hz_X11_wander_64 rfl
theorem dX11_wander_81 : decode cX11_wander 81 = .ok (.getfield 83, 3) := dz_180 (n := 64) (r := 17) hz_X11_wander_64 rfl rfl
theorem dX11_wander_84 : decode cX11_wander 84 = .ok (.getfield 221, 3) := dz_180 (n := 64) (r := 20) hz_X11_wander_64 rfl rfl
theorem dX11_wander_87 : decode cX11_wander 87 = .ok (.ireturn, 1) := dz_172 (n := 64) (r := 23) hz_X11_wander_64 rfl
theorem dX11_wander_88 : decode cX11_wander 88 = .ok (.aload_n 0, 1) := dz_42 (n := 64) (r := 24) hz_X11_wander_64 rfl
theorem dX11_wander_89 : decode cX11_wander 89 = .ok (.getfield 83, 3) := dz_180 (n := 64) (r := 25) hz_X11_wander_64 rfl rfl
theorem dX11_wander_92 : decode cX11_wander 92 = .ok (.getfield 405, 3) := dz_180 (n := 64) (r := 28) hz_X11_wander_64 rfl rfl
theorem dX11_wander_95 : decode cX11_wander 95 = .ok (.ireturn, 1) := dz_172 (n := 64) (r := 31) hz_X11_wander_64 rfl
theorem hz_X11_wander_96 : (cX11_wander.data.toList.drop 96).take 40 = [42, 180, 0, 83, 180, 0, 218, 172, 18, 226, 172] := by decide +kernel
theorem dX11_wander_96 : decode cX11_wander 96 = .ok (.aload_n 0, 1) := dz_42 (n := 96) (r := 0) hz_X11_wander_96 rfl
theorem dX11_wander_97 : decode cX11_wander 97 = .ok (.getfield 83, 3) := dz_180 (n := 96) (r := 1) hz_X11_wander_96 rfl rfl
theorem dX11_wander_100 : decode cX11_wander 100 = .ok (.getfield 218, 3) := dz_180 (n := 96) (r := 4) hz_X11_wander_96 rfl rfl
theorem dX11_wander_103 : decode cX11_wander 103 = .ok (.ireturn, 1) := dz_172 (n := 96) (r := 7) hz_X11_wander_96 rfl
theorem dX11_wander_104 : decode cX11_wander 104 = .ok (.ldc 226, 2) := dz_18 (n := 96) (r := 8) hz_X11_wander_96 rfl rfl
theorem dX11_wander_106 : decode cX11_wander 106 = .ok (.ireturn, 1) := dz_172 (n := 96) (r := 10) hz_X11_wander_96 rfl
theorem hz_X11_basin_0 : (cX11_basin.data.toList.drop 0).take 40 = [42, 182, 1, 152, 153, 0, 11, 42, 27, 182, 1, 128, 154, 0, 6, 18, 226, 172, 42, 182, 1, 156, 27, 182, 1, 160, 172] := by decide +kernel
theorem dX11_basin_0 : decode cX11_basin 0 = .ok (.aload_n 0, 1) := dz_42 (n := 0) (r := 0) hz_X11_basin_0 rfl
theorem dX11_basin_1 : decode cX11_basin 1 = .ok (.invokevirtual 408, 3) := dz_182 (n := 0) (r := 1) hz_X11_basin_0 rfl rfl
theorem dX11_basin_4 : decode cX11_basin 4 = .ok (.ifCond .eq 11, 3) := dz_153 (n := 0) (r := 4) hz_X11_basin_0 rfl (by decide +kernel)
theorem dX11_basin_7 : decode cX11_basin 7 = .ok (.aload_n 0, 1) := dz_42 (n := 0) (r := 7) hz_X11_basin_0 rfl
theorem dX11_basin_8 : decode cX11_basin 8 = .ok (.iload_n 1, 1) := dz_27 (n := 0) (r := 8) hz_X11_basin_0 rfl
theorem dX11_basin_9 : decode cX11_basin 9 = .ok (.invokevirtual 384, 3) := dz_182 (n := 0) (r := 9) hz_X11_basin_0 rfl rfl
theorem dX11_basin_12 : decode cX11_basin 12 = .ok (.ifCond .ne 6, 3) := dz_154 (n := 0) (r := 12) hz_X11_basin_0 rfl (by decide +kernel)
theorem dX11_basin_15 : decode cX11_basin 15 = .ok (.ldc 226, 2) := dz_18 (n := 0) (r := 15) hz_X11_basin_0 rfl rfl
theorem dX11_basin_17 : decode cX11_basin 17 = .ok (.ireturn, 1) := dz_172 (n := 0) (r := 17) hz_X11_basin_0 rfl
theorem dX11_basin_18 : decode cX11_basin 18 = .ok (.aload_n 0, 1) := dz_42 (n := 0) (r := 18) hz_X11_basin_0 rfl
theorem dX11_basin_19 : decode cX11_basin 19 = .ok (.invokevirtual 412, 3) := dz_182 (n := 0) (r := 19) hz_X11_basin_0 rfl rfl
theorem dX11_basin_22 : decode cX11_basin 22 = .ok (.iload_n 1, 1) := dz_27 (n := 0) (r := 22) hz_X11_basin_0 rfl
theorem dX11_basin_23 : decode cX11_basin 23 = .ok (.invokevirtual 416, 3) := dz_182 (n := 0) (r := 23) hz_X11_basin_0 rfl rfl
theorem dX11_basin_26 : decode cX11_basin 26 = .ok (.ireturn, 1) := dz_172 (n := 0) (r := 26) hz_X11_basin_0 rfl
theorem hz_X11_hill_0 : (cX11_hill.data.toList.drop 0).take 40 = [42, 182, 1, 152, 153, 0, 11, 42, 27, 182, 1, 128, 154, 0, 6, 18, 226, 172, 42, 182, 1, 156, 77, 44, 27, 44, 182, 1, 163, 4, 182, 1, 166, 172] := by decide +kernel
theorem dX11_hill_0 : decode cX11_hill 0 = .ok (.aload_n 0, 1) := dz_42 (n := 0) (r := 0) hz_X11_hill_0 rfl
theorem dX11_hill_1 : decode cX11_hill 1 = .ok (.invokevirtual 408, 3) := dz_182 (n := 0) (r := 1) hz_X11_hill_0 rfl rfl
theorem dX11_hill_4 : decode cX11_hill 4 = .ok (.ifCond .eq 11, 3) := dz_153 (n := 0) (r := 4) hz_X11_hill_0 rfl (by decide +kernel)
theorem dX11_hill_7 : decode cX11_hill 7 = .ok (.aload_n 0, 1) := dz_42 (n := 0) (r := 7) hz_X11_hill_0 rfl
theorem dX11_hill_8 : decode cX11_hill 8 = .ok (.iload_n 1, 1) := dz_27 (n := 0) (r := 8) hz_X11_hill_0 rfl
theorem dX11_hill_9 : decode cX11_hill 9 = .ok (.invokevirtual 384, 3) := dz_182 (n := 0) (r := 9) hz_X11_hill_0 rfl rfl
theorem dX11_hill_12 : decode cX11_hill 12 = .ok (.ifCond .ne 6, 3) := dz_154 (n := 0) (r := 12) hz_X11_hill_0 rfl (by decide +kernel)
theorem dX11_hill_15 : decode cX11_hill 15 = .ok (.ldc 226, 2) := dz_18 (n := 0) (r := 15) hz_X11_hill_0 rfl rfl
theorem dX11_hill_17 : decode cX11_hill 17 = .ok (.ireturn, 1) := dz_172 (n := 0) (r := 17) hz_X11_hill_0 rfl
theorem dX11_hill_18 : decode cX11_hill 18 = .ok (.aload_n 0, 1) := dz_42 (n := 0) (r := 18) hz_X11_hill_0 rfl
theorem dX11_hill_19 : decode cX11_hill 19 = .ok (.invokevirtual 412, 3) := dz_182 (n := 0) (r := 19) hz_X11_hill_0 rfl rfl
theorem dX11_hill_22 : decode cX11_hill 22 = .ok (.astore_n 2, 1) := dz_77 (n := 0) (r := 22) hz_X11_hill_0 rfl
theorem dX11_hill_23 : decode cX11_hill 23 = .ok (.aload_n 2, 1) := dz_44 (n := 0) (r := 23) hz_X11_hill_0 rfl
theorem dX11_hill_24 : decode cX11_hill 24 = .ok (.iload_n 1, 1) := dz_27 (n := 0) (r := 24) hz_X11_hill_0 rfl
theorem dX11_hill_25 : decode cX11_hill 25 = .ok (.aload_n 2, 1) := dz_44 (n := 0) (r := 25) hz_X11_hill_0 rfl
theorem dX11_hill_26 : decode cX11_hill 26 = .ok (.invokevirtual 419, 3) := dz_182 (n := 0) (r := 26) hz_X11_hill_0 rfl rfl
theorem dX11_hill_29 : decode cX11_hill 29 = .ok (.iconst 1, 1) := dz_4 (n := 0) (r := 29) hz_X11_hill_0 rfl
theorem dX11_hill_30 : decode cX11_hill 30 = .ok (.invokevirtual 422, 3) := dz_182 (n := 0) (r := 30) hz_X11_hill_0 rfl rfl
theorem hz_X11_hill_32 : (cX11_hill.data.toList.drop 32).take 40 = [166, 172] := by decide +kernel
theorem dX11_hill_33 : decode cX11_hill 33 = .ok (.ireturn, 1) := dz_172 (n := 32) (r := 1) hz_X11_hill_32 rfl
theorem hz_X11_pass_0 : (cX11_pass.data.toList.drop 0).take 40 = [42, 182, 1, 152, 153, 0, 19, 42, 27, 182, 1, 128, 153, 0, 11, 42, 28, 182, 1, 128, 154, 0, 6, 18, 226, 172, 42, 182, 1, 156, 27, 28, 3, 182, 1, 166, 172] := by decide +kernel
theorem dX11_pass_0 : decode cX11_pass 0 = .ok (.aload_n 0, 1) := dz_42 (n := 0) (r := 0) hz_X11_pass_0 rfl
theorem dX11_pass_1 : decode cX11_pass 1 = .ok (.invokevirtual 408, 3) := dz_182 (n := 0) (r := 1) hz_X11_pass_0 rfl rfl
theorem dX11_pass_4 : decode cX11_pass 4 = .ok (.ifCond .eq 19, 3) := dz_153 (n := 0) (r := 4) hz_X11_pass_0 rfl (by decide +kernel)
theorem dX11_pass_7 : decode cX11_pass 7 = .ok (.aload_n 0, 1) := dz_42 (n := 0) (r := 7) hz_X11_pass_0 rfl
theorem dX11_pass_8 : decode cX11_pass 8 = .ok (.iload_n 1, 1) := dz_27 (n := 0) (r := 8) hz_X11_pass_0 rfl
theorem dX11_pass_9 : decode cX11_pass 9 = .ok (.invokevirtual 384, 3) := dz_182 (n := 0) (r := 9) hz_X11_pass_0 rfl rfl
theorem dX11_pass_12 : decode cX11_pass 12 = .ok (.ifCond .eq 11, 3) := dz_153 (n := 0) (r := 12) hz_X11_pass_0 rfl (by decide +kernel)
theorem dX11_pass_15 : decode cX11_pass 15 = .ok (.aload_n 0, 1) := dz_42 (n := 0) (r := 15) hz_X11_pass_0 rfl
theorem dX11_pass_16 : decode cX11_pass 16 = .ok (.iload_n 2, 1) := dz_28 (n := 0) (r := 16) hz_X11_pass_0 rfl
theorem dX11_pass_17 : decode cX11_pass 17 = .ok (.invokevirtual 384, 3) := dz_182 (n := 0) (r := 17) hz_X11_pass_0 rfl rfl
theorem dX11_pass_20 : decode cX11_pass 20 = .ok (.ifCond .ne 6, 3) := dz_154 (n := 0) (r := 20) hz_X11_pass_0 rfl (by decide +kernel)
theorem dX11_pass_23 : decode cX11_pass 23 = .ok (.ldc 226, 2) := dz_18 (n := 0) (r := 23) hz_X11_pass_0 rfl rfl
theorem dX11_pass_25 : decode cX11_pass 25 = .ok (.ireturn, 1) := dz_172 (n := 0) (r := 25) hz_X11_pass_0 rfl
theorem dX11_pass_26 : decode cX11_pass 26 = .ok (.aload_n 0, 1) := dz_42 (n := 0) (r := 26) hz_X11_pass_0 rfl
theorem dX11_pass_27 : decode cX11_pass 27 = .ok (.invokevirtual 412, 3) := dz_182 (n := 0) (r := 27) hz_X11_pass_0 rfl rfl
theorem dX11_pass_30 : decode cX11_pass 30 = .ok (.iload_n 1, 1) := dz_27 (n := 0) (r := 30) hz_X11_pass_0 rfl
theorem dX11_pass_31 : decode cX11_pass 31 = .ok (.iload_n 2, 1) := dz_28 (n := 0) (r := 31) hz_X11_pass_0 rfl
theorem hz_X11_pass_32 : (cX11_pass.data.toList.drop 32).take 40 = [3, 182, 1, 166, 172] := by decide +kernel
theorem dX11_pass_32 : decode cX11_pass 32 = .ok (.iconst 0, 1) := dz_3 (n := 32) (r := 0) hz_X11_pass_32 rfl
theorem dX11_pass_33 : decode cX11_pass 33 = .ok (.invokevirtual 422, 3) := dz_182 (n := 32) (r := 1) hz_X11_pass_32 rfl rfl
theorem dX11_pass_36 : decode cX11_pass 36 = .ok (.ireturn, 1) := dz_172 (n := 32) (r := 4) hz_X11_pass_32 rfl
theorem hz_X11_lakes_0 : (cX11_lakes.data.toList.drop 0).take 40 = [42, 182, 1, 152, 154, 0, 6, 18, 226, 172, 42, 182, 1, 156, 27, 182, 1, 170, 172] := by decide +kernel
theorem dX11_lakes_0 : decode cX11_lakes 0 = .ok (.aload_n 0, 1) := dz_42 (n := 0) (r := 0) hz_X11_lakes_0 rfl
theorem dX11_lakes_1 : decode cX11_lakes 1 = .ok (.invokevirtual 408, 3) := dz_182 (n := 0) (r := 1) hz_X11_lakes_0 rfl rfl
theorem dX11_lakes_4 : decode cX11_lakes 4 = .ok (.ifCond .ne 6, 3) := dz_154 (n := 0) (r := 4) hz_X11_lakes_0 rfl (by decide +kernel)
theorem dX11_lakes_7 : decode cX11_lakes 7 = .ok (.ldc 226, 2) := dz_18 (n := 0) (r := 7) hz_X11_lakes_0 rfl rfl
theorem dX11_lakes_9 : decode cX11_lakes 9 = .ok (.ireturn, 1) := dz_172 (n := 0) (r := 9) hz_X11_lakes_0 rfl
theorem dX11_lakes_10 : decode cX11_lakes 10 = .ok (.aload_n 0, 1) := dz_42 (n := 0) (r := 10) hz_X11_lakes_0 rfl
theorem dX11_lakes_11 : decode cX11_lakes 11 = .ok (.invokevirtual 412, 3) := dz_182 (n := 0) (r := 11) hz_X11_lakes_0 rfl rfl
theorem dX11_lakes_14 : decode cX11_lakes 14 = .ok (.iload_n 1, 1) := dz_27 (n := 0) (r := 14) hz_X11_lakes_0 rfl
theorem dX11_lakes_15 : decode cX11_lakes 15 = .ok (.invokevirtual 426, 3) := dz_182 (n := 0) (r := 15) hz_X11_lakes_0 rfl rfl
theorem dX11_lakes_18 : decode cX11_lakes 18 = .ok (.ireturn, 1) := dz_172 (n := 0) (r := 18) hz_X11_lakes_0 rfl
theorem hz_X11_down_0 : (cX11_down.data.toList.drop 0).take 40 = [42, 182, 1, 152, 153, 0, 11, 42, 27, 182, 1, 128, 154, 0, 7, 20, 1, 55, 173, 42, 182, 1, 156, 27, 182, 1, 173, 173] := by decide +kernel
theorem dX11_down_0 : decode cX11_down 0 = .ok (.aload_n 0, 1) := dz_42 (n := 0) (r := 0) hz_X11_down_0 rfl
theorem dX11_down_1 : decode cX11_down 1 = .ok (.invokevirtual 408, 3) := dz_182 (n := 0) (r := 1) hz_X11_down_0 rfl rfl
theorem dX11_down_4 : decode cX11_down 4 = .ok (.ifCond .eq 11, 3) := dz_153 (n := 0) (r := 4) hz_X11_down_0 rfl (by decide +kernel)
theorem dX11_down_7 : decode cX11_down 7 = .ok (.aload_n 0, 1) := dz_42 (n := 0) (r := 7) hz_X11_down_0 rfl
theorem dX11_down_8 : decode cX11_down 8 = .ok (.iload_n 1, 1) := dz_27 (n := 0) (r := 8) hz_X11_down_0 rfl
theorem dX11_down_9 : decode cX11_down 9 = .ok (.invokevirtual 384, 3) := dz_182 (n := 0) (r := 9) hz_X11_down_0 rfl rfl
theorem dX11_down_12 : decode cX11_down 12 = .ok (.ifCond .ne 7, 3) := dz_154 (n := 0) (r := 12) hz_X11_down_0 rfl (by decide +kernel)
theorem dX11_down_15 : decode cX11_down 15 = .ok (.ldc2_w 311, 3) := dz_20 (n := 0) (r := 15) hz_X11_down_0 rfl rfl
theorem dX11_down_18 : decode cX11_down 18 = .ok (.lreturn, 1) := dz_173 (n := 0) (r := 18) hz_X11_down_0 rfl
theorem dX11_down_19 : decode cX11_down 19 = .ok (.aload_n 0, 1) := dz_42 (n := 0) (r := 19) hz_X11_down_0 rfl
