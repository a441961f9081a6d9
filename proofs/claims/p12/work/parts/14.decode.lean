theorem dX12_meansOne_210 : decode cX12_meansOne 210 = .ok (.aload_n 0, 1) := dz_42 (n := 192) (r := 18) hz_X12_meansOne_192 rfl
theorem dX12_meansOne_211 : decode cX12_meansOne 211 = .ok (.getfield 43, 3) := dz_180 (n := 192) (r := 19) hz_X12_meansOne_192 rfl rfl
theorem dX12_meansOne_214 : decode cX12_meansOne 214 = .ok (.iload_n 2, 1) := dz_28 (n := 192) (r := 22) hz_X12_meansOne_192 rfl
theorem dX12_meansOne_215 : decode cX12_meansOne 215 = .ok (.bipush 26, 2) := dz_16 (n := 192) (r := 23) hz_X12_meansOne_192 rfl rfl
theorem dX12_meansOne_217 : decode cX12_meansOne 217 = .ok (.if_icmp .ne 8, 3) := dz_160 (n := 192) (r := 25) hz_X12_meansOne_192 rfl (by decide +kernel)
theorem dX12_meansOne_220 : decode cX12_meansOne 220 = .ok (.bipush 32, 2) := dz_16 (n := 192) (r := 28) hz_X12_meansOne_192 rfl rfl
theorem dX12_meansOne_222 : decode cX12_meansOne 222 = .ok (.goto 14, 3) := dz_167 (n := 192) (r := 30) hz_X12_meansOne_192 rfl (by decide +kernel)
theorem hz_X12_meansOne_224 : (cX12_meansOne.data.toList.drop 224).take 40 = [14, 21, 5, 153, 0, 8, 16, 16, 167, 0, 4, 3, 29, 96, 21, 6, 79, 177] := by decide +kernel
theorem dX12_meansOne_225 : decode cX12_meansOne 225 = .ok (.iload 5, 2) := dz_21 (n := 224) (r := 1) hz_X12_meansOne_224 rfl rfl
theorem dX12_meansOne_227 : decode cX12_meansOne 227 = .ok (.ifCond .eq 8, 3) := dz_153 (n := 224) (r := 3) hz_X12_meansOne_224 rfl (by decide +kernel)
theorem dX12_meansOne_230 : decode cX12_meansOne 230 = .ok (.bipush 16, 2) := dz_16 (n := 224) (r := 6) hz_X12_meansOne_224 rfl rfl
theorem dX12_meansOne_232 : decode cX12_meansOne 232 = .ok (.goto 4, 3) := dz_167 (n := 224) (r := 8) hz_X12_meansOne_224 rfl (by decide +kernel)
theorem dX12_meansOne_235 : decode cX12_meansOne 235 = .ok (.iconst 0, 1) := dz_3 (n := 224) (r := 11) hz_X12_meansOne_224 rfl
theorem dX12_meansOne_236 : decode cX12_meansOne 236 = .ok (.iload_n 3, 1) := dz_29 (n := 224) (r := 12) hz_X12_meansOne_224 rfl
theorem dX12_meansOne_237 : decode cX12_meansOne 237 = .ok (.iadd, 1) := dz_96 (n := 224) (r := 13) hz_X12_meansOne_224 rfl
theorem dX12_meansOne_238 : decode cX12_meansOne 238 = .ok (.iload 6, 2) := dz_21 (n := 224) (r := 14) hz_X12_meansOne_224 rfl rfl
theorem dX12_meansOne_240 : decode cX12_meansOne 240 = .ok (.iastore, 1) := dz_79 (n := 224) (r := 16) hz_X12_meansOne_224 rfl
theorem dX12_meansOne_241 : decode cX12_meansOne 241 = .ok (.return_, 1) := dz_177 (n := 224) (r := 17) hz_X12_meansOne_224 rfl
theorem hz_X12_in_0 : (cX12_in.data.toList.drop 0).take 40 = [26, 27, 161, 0, 12, 26, 28, 163, 0, 7, 4, 167, 0, 4, 3, 172] := by decide +kernel
theorem dX12_in_0 : decode cX12_in 0 = .ok (.iload_n 0, 1) := dz_26 (n := 0) (r := 0) hz_X12_in_0 rfl
theorem dX12_in_1 : decode cX12_in 1 = .ok (.iload_n 1, 1) := dz_27 (n := 0) (r := 1) hz_X12_in_0 rfl
theorem dX12_in_2 : decode cX12_in 2 = .ok (.if_icmp .lt 12, 3) := dz_161 (n := 0) (r := 2) hz_X12_in_0 rfl (by decide +kernel)
theorem dX12_in_5 : decode cX12_in 5 = .ok (.iload_n 0, 1) := dz_26 (n := 0) (r := 5) hz_X12_in_0 rfl
theorem dX12_in_6 : decode cX12_in 6 = .ok (.iload_n 2, 1) := dz_28 (n := 0) (r := 6) hz_X12_in_0 rfl
theorem dX12_in_7 : decode cX12_in 7 = .ok (.if_icmp .gt 7, 3) := dz_163 (n := 0) (r := 7) hz_X12_in_0 rfl (by decide +kernel)
theorem dX12_in_10 : decode cX12_in 10 = .ok (.iconst 1, 1) := dz_4 (n := 0) (r := 10) hz_X12_in_0 rfl
theorem dX12_in_11 : decode cX12_in 11 = .ok (.goto 4, 3) := dz_167 (n := 0) (r := 11) hz_X12_in_0 rfl (by decide +kernel)
theorem dX12_in_14 : decode cX12_in 14 = .ok (.iconst 0, 1) := dz_3 (n := 0) (r := 14) hz_X12_in_0 rfl
theorem dX12_in_15 : decode cX12_in 15 = .ok (.ireturn, 1) := dz_172 (n := 0) (r := 15) hz_X12_in_0 rfl
theorem hz_X12_has_0 : (cX12_has.data.toList.drop 0).take 40 = [26, 27, 122, 4, 126, 4, 160, 0, 7, 4, 167, 0, 4, 3, 172] := by decide +kernel
theorem dX12_has_0 : decode cX12_has 0 = .ok (.iload_n 0, 1) := dz_26 (n := 0) (r := 0) hz_X12_has_0 rfl
theorem dX12_has_1 : decode cX12_has 1 = .ok (.iload_n 1, 1) := dz_27 (n := 0) (r := 1) hz_X12_has_0 rfl
theorem dX12_has_2 : decode cX12_has 2 = .ok (.ishr, 1) := dz_122 (n := 0) (r := 2) hz_X12_has_0 rfl
theorem dX12_has_3 : decode cX12_has 3 = .ok (.iconst 1, 1) := dz_4 (n := 0) (r := 3) hz_X12_has_0 rfl
theorem dX12_has_4 : decode cX12_has 4 = .ok (.iand, 1) := dz_126 (n := 0) (r := 4) hz_X12_has_0 rfl
theorem dX12_has_5 : decode cX12_has 5 = .ok (.iconst 1, 1) := dz_4 (n := 0) (r := 5) hz_X12_has_0 rfl
theorem dX12_has_6 : decode cX12_has 6 = .ok (.if_icmp .ne 7, 3) := dz_160 (n := 0) (r := 6) hz_X12_has_0 rfl (by decide +kernel)
theorem dX12_has_9 : decode cX12_has 9 = .ok (.iconst 1, 1) := dz_4 (n := 0) (r := 9) hz_X12_has_0 rfl
theorem dX12_has_10 : decode cX12_has 10 = .ok (.goto 4, 3) := dz_167 (n := 0) (r := 10) hz_X12_has_0 rfl (by decide +kernel)
theorem dX12_has_13 : decode cX12_has 13 = .ok (.iconst 0, 1) := dz_3 (n := 0) (r := 13) hz_X12_has_0 rfl
theorem dX12_has_14 : decode cX12_has 14 = .ok (.ireturn, 1) := dz_172 (n := 0) (r := 14) hz_X12_has_0 rfl
theorem hz_X12_bitsOf_0 : (cX12_bitsOf.data.toList.drop 0).take 40 = [3, 60, 26, 61, 28, 158, 0, 16, 27, 28, 4, 126, 96, 60, 28, 4, 122, 61, 167, 255, 242, 27, 172] := by decide +kernel
theorem dX12_bitsOf_0 : decode cX12_bitsOf 0 = .ok (.iconst 0, 1) := dz_3 (n := 0) (r := 0) hz_X12_bitsOf_0 rfl
theorem dX12_bitsOf_1 : decode cX12_bitsOf 1 = .ok (.istore_n 1, 1) := dz_60 (n := 0) (r := 1) hz_X12_bitsOf_0 rfl
theorem dX12_bitsOf_2 : decode cX12_bitsOf 2 = .ok (.iload_n 0, 1) := dz_26 (n := 0) (r := 2) hz_X12_bitsOf_0 rfl
theorem dX12_bitsOf_3 : decode cX12_bitsOf 3 = .ok (.istore_n 2, 1) := dz_61 (n := 0) (r := 3) hz_X12_bitsOf_0 rfl
theorem dX12_bitsOf_4 : decode cX12_bitsOf 4 = .ok (.iload_n 2, 1) := dz_28 (n := 0) (r := 4) hz_X12_bitsOf_0 rfl
theorem dX12_bitsOf_5 : decode cX12_bitsOf 5 = .ok (.ifCond .le 16, 3) := dz_158 (n := 0) (r := 5) hz_X12_bitsOf_0 rfl (by decide +kernel)
theorem dX12_bitsOf_8 : decode cX12_bitsOf 8 = .ok (.iload_n 1, 1) := dz_27 (n := 0) (r := 8) hz_X12_bitsOf_0 rfl
theorem dX12_bitsOf_9 : decode cX12_bitsOf 9 = .ok (.iload_n 2, 1) := dz_28 (n := 0) (r := 9) hz_X12_bitsOf_0 rfl
theorem dX12_bitsOf_10 : decode cX12_bitsOf 10 = .ok (.iconst 1, 1) := dz_4 (n := 0) (r := 10) hz_X12_bitsOf_0 rfl
theorem dX12_bitsOf_11 : decode cX12_bitsOf 11 = .ok (.iand, 1) := dz_126 (n := 0) (r := 11) hz_X12_bitsOf_0 rfl
theorem dX12_bitsOf_12 : decode cX12_bitsOf 12 = .ok (.iadd, 1) := dz_96 (n := 0) (r := 12) hz_X12_bitsOf_0 rfl
theorem dX12_bitsOf_13 : decode cX12_bitsOf 13 = .ok (.istore_n 1, 1) := dz_60 (n := 0) (r := 13) hz_X12_bitsOf_0 rfl
theorem dX12_bitsOf_14 : decode cX12_bitsOf 14 = .ok (.iload_n 2, 1) := dz_28 (n := 0) (r := 14) hz_X12_bitsOf_0 rfl
theorem dX12_bitsOf_15 : decode cX12_bitsOf 15 = .ok (.iconst 1, 1) := dz_4 (n := 0) (r := 15) hz_X12_bitsOf_0 rfl
theorem dX12_bitsOf_16 : decode cX12_bitsOf 16 = .ok (.ishr, 1) := dz_122 (n := 0) (r := 16) hz_X12_bitsOf_0 rfl
theorem dX12_bitsOf_17 : decode cX12_bitsOf 17 = .ok (.istore_n 2, 1) := dz_61 (n := 0) (r := 17) hz_X12_bitsOf_0 rfl
theorem dX12_bitsOf_18 : decode cX12_bitsOf 18 = .ok (.goto (-14), 3) := dz_167 (n := 0) (r := 18) hz_X12_bitsOf_0 rfl (by decide +kernel)
theorem dX12_bitsOf_21 : decode cX12_bitsOf 21 = .ok (.iload_n 1, 1) := dz_27 (n := 0) (r := 21) hz_X12_bitsOf_0 rfl
theorem dX12_bitsOf_22 : decode cX12_bitsOf 22 = .ok (.ireturn, 1) := dz_172 (n := 0) (r := 22) hz_X12_bitsOf_0 rfl
theorem hz_X12_leads_0 : (cX12_leads.data.toList.drop 0).take 40 = [26, 28, 108, 54, 5, 26, 28, 112, 54, 6, 27, 153, 0, 34, 21, 5, 4, 96, 29, 162, 0, 9, 26, 28, 96, 167, 0, 19, 21, 4, 153, 0, 13, 29, 5, 164, 0, 8, 21, 6] := by decide +kernel
theorem dX12_leads_0 : decode cX12_leads 0 = .ok (.iload_n 0, 1) := dz_26 (n := 0) (r := 0) hz_X12_leads_0 rfl
theorem dX12_leads_1 : decode cX12_leads 1 = .ok (.iload_n 2, 1) := dz_28 (n := 0) (r := 1) hz_X12_leads_0 rfl
theorem dX12_leads_2 : decode cX12_leads 2 = .ok (.idiv, 1) := dz_108 (n := 0) (r := 2) hz_X12_leads_0 rfl
theorem dX12_leads_3 : decode cX12_leads 3 = .ok (.istore 5, 2) := dz_54 (n := 0) (r := 3) hz_X12_leads_0 rfl rfl
theorem dX12_leads_5 : decode cX12_leads 5 = .ok (.iload_n 0, 1) := dz_26 (n := 0) (r := 5) hz_X12_leads_0 rfl
theorem dX12_leads_6 : decode cX12_leads 6 = .ok (.iload_n 2, 1) := dz_28 (n := 0) (r := 6) hz_X12_leads_0 rfl
theorem dX12_leads_7 : decode cX12_leads 7 = .ok (.irem, 1) := dz_112 (n := 0) (r := 7) hz_X12_leads_0 rfl
theorem dX12_leads_8 : decode cX12_leads 8 = .ok (.istore 6, 2) := dz_54 (n := 0) (r := 8) hz_X12_leads_0 rfl rfl
theorem dX12_leads_10 : decode cX12_leads 10 = .ok (.iload_n 1, 1) := dz_27 (n := 0) (r := 10) hz_X12_leads_0 rfl
theorem dX12_leads_11 : decode cX12_leads 11 = .ok (.ifCond .eq 34, 3) := dz_153 (n := 0) (r := 11) hz_X12_leads_0 rfl (by decide +kernel)
theorem dX12_leads_14 : decode cX12_leads 14 = .ok (.iload 5, 2) := dz_21 (n := 0) (r := 14) hz_X12_leads_0 rfl rfl
theorem dX12_leads_16 : decode cX12_leads 16 = .ok (.iconst 1, 1) := dz_4 (n := 0) (r := 16) hz_X12_leads_0 rfl
theorem dX12_leads_17 : decode cX12_leads 17 = .ok (.iadd, 1) := dz_96 (n := 0) (r := 17) hz_X12_leads_0 rfl
theorem dX12_leads_18 : decode cX12_leads 18 = .ok (.iload_n 3, 1) := dz_29 (n := 0) (r := 18) hz_X12_leads_0 rfl
theorem dX12_leads_19 : decode cX12_leads 19 = .ok (.if_icmp .ge 9, 3) := dz_162 (n := 0) (r := 19) hz_X12_leads_0 rfl (by decide +kernel)
theorem dX12_leads_22 : decode cX12_leads 22 = .ok (.iload_n 0, 1) := dz_26 (n := 0) (r := 22) hz_X12_leads_0 rfl
theorem dX12_leads_23 : decode cX12_leads 23 = .ok (.iload_n 2, 1) := dz_28 (n := 0) (r := 23) hz_X12_leads_0 rfl
theorem dX12_leads_24 : decode cX12_leads 24 = .ok (.iadd, 1) := dz_96 (n := 0) (r := 24) hz_X12_leads_0 rfl
theorem dX12_leads_25 : decode cX12_leads 25 = .ok (.goto 19, 3) := dz_167 (n := 0) (r := 25) hz_X12_leads_0 rfl (by decide +kernel)
theorem dX12_leads_28 : decode cX12_leads 28 = .ok (.iload 4, 2) := dz_21 (n := 0) (r := 28) hz_X12_leads_0 rfl rfl
theorem dX12_leads_30 : decode cX12_leads 30 = .ok (.ifCond .eq 13, 3) := dz_153 (n := 0) (r := 30) hz_X12_leads_0 rfl (by decide +kernel)
theorem hz_X12_leads_32 : (cX12_leads.data.toList.drop 32).take 40 = [13, 29, 5, 164, 0, 8, 21, 6, 167, 0, 4, 2, 172, 21, 6, 4, 96, 28, 162, 0, 9, 26, 4, 96, 167, 0, 21, 21, 4, 153, 0, 15, 28, 5, 164, 0, 10, 28, 21, 5] := by decide +kernel
theorem dX12_leads_33 : decode cX12_leads 33 = .ok (.iload_n 3, 1) := dz_29 (n := 32) (r := 1) hz_X12_leads_32 rfl
theorem dX12_leads_34 : decode cX12_leads 34 = .ok (.iconst 2, 1) := dz_5 (n := 32) (r := 2) hz_X12_leads_32 rfl
theorem dX12_leads_35 : decode cX12_leads 35 = .ok (.if_icmp .le 8, 3) := dz_164 (n := 32) (r := 3) hz_X12_leads_32 rfl (by decide +kernel)
theorem dX12_leads_38 : decode cX12_leads 38 = .ok (.iload 6, 2) := dz_21 (n := 32) (r := 6) hz_X12_leads_32 rfl rfl
theorem dX12_leads_40 : decode cX12_leads 40 = .ok (.goto 4, 3) := dz_167 (n := 32) (r := 8) hz_X12_leads_32 rfl (by decide +kernel)
theorem dX12_leads_43 : decode cX12_leads 43 = .ok (.iconst (-1), 1) := dz_2 (n := 32) (r := 11) hz_X12_leads_32 rfl
theorem dX12_leads_44 : decode cX12_leads 44 = .ok (.ireturn, 1) := dz_172 (n := 32) (r := 12) hz_X12_leads_32 rfl
theorem dX12_leads_45 : decode cX12_leads 45 = .ok (.iload 6, 2) := dz_21 (n := 32) (r := 13) hz_X12_leads_32 rfl rfl
theorem dX12_leads_47 : decode cX12_leads 47 = .ok (.iconst 1, 1) := dz_4 (n := 32) (r := 15) hz_X12_leads_32 rfl
theorem dX12_leads_48 : decode cX12_leads 48 = .ok (.iadd, 1) := dz_96 (n := 32) (r := 16) hz_X12_leads_32 rfl
theorem dX12_leads_49 : decode cX12_leads 49 = .ok (.iload_n 2, 1) := dz_28 (n := 32) (r := 17) hz_X12_leads_32 rfl
theorem dX12_leads_50 : decode cX12_leads 50 = .ok (.if_icmp .ge 9, 3) := dz_162 (n := 32) (r := 18) hz_X12_leads_32 rfl (by decide +kernel)
theorem dX12_leads_53 : decode cX12_leads 53 = .ok (.iload_n 0, 1) := dz_26 (n := 32) (r := 21) hz_X12_leads_32 rfl
theorem dX12_leads_54 : decode cX12_leads 54 = .ok (.iconst 1, 1) := dz_4 (n := 32) (r := 22) hz_X12_leads_32 rfl
theorem dX12_leads_55 : decode cX12_leads 55 = .ok (.iadd, 1) := dz_96 (n := 32) (r := 23) hz_X12_leads_32 rfl
theorem dX12_leads_56 : decode cX12_leads 56 = .ok (.goto 21, 3) := dz_167 (n := 32) (r := 24) hz_X12_leads_32 rfl (by decide +kernel)
theorem dX12_leads_59 : decode cX12_leads 59 = .ok (.iload 4, 2) := dz_21 (n := 32) (r := 27) hz_X12_leads_32 rfl rfl
theorem dX12_leads_61 : decode cX12_leads 61 = .ok (.ifCond .eq 15, 3) := dz_153 (n := 32) (r := 29) hz_X12_leads_32 rfl (by decide +kernel)
theorem hz_X12_leads_64 : (cX12_leads.data.toList.drop 64).take 40 = [28, 5, 164, 0, 10, 28, 21, 5, 104, 167, 0, 4, 2, 172] := by decide +kernel
theorem dX12_leads_64 : decode cX12_leads 64 = .ok (.iload_n 2, 1) := dz_28 (n := 64) (r := 0) hz_X12_leads_64 rfl
theorem dX12_leads_65 : decode cX12_leads 65 = .ok (.iconst 2, 1) := dz_5 (n := 64) (r := 1) hz_X12_leads_64 rfl
theorem dX12_leads_66 : decode cX12_leads 66 = .ok (.if_icmp .le 10, 3) := dz_164 (n := 64) (r := 2) hz_X12_leads_64 rfl (by decide +kernel)
theorem dX12_leads_69 : decode cX12_leads 69 = .ok (.iload_n 2, 1) := dz_28 (n := 64) (r := 5) hz_X12_leads_64 rfl
theorem dX12_leads_70 : decode cX12_leads 70 = .ok (.iload 5, 2) := dz_21 (n := 64) (r := 6) hz_X12_leads_64 rfl rfl
theorem dX12_leads_72 : decode cX12_leads 72 = .ok (.imul, 1) := dz_104 (n := 64) (r := 8) hz_X12_leads_64 rfl
theorem dX12_leads_73 : decode cX12_leads 73 = .ok (.goto 4, 3) := dz_167 (n := 64) (r := 9) hz_X12_leads_64 rfl (by decide +kernel)
theorem dX12_leads_76 : decode cX12_leads 76 = .ok (.iconst (-1), 1) := dz_2 (n := 64) (r := 12) hz_X12_leads_64 rfl
theorem dX12_leads_77 : decode cX12_leads 77 = .ok (.ireturn, 1) := dz_172 (n := 64) (r := 13) hz_X12_leads_64 rfl
theorem hz_X12_sites_0 : (cX12_sites.data.toList.drop 0).take 40 = [42, 180, 0, 171, 42, 180, 0, 177, 104, 172] := by decide +kernel
theorem dX12_sites_0 : decode cX12_sites 0 = .ok (.aload_n 0, 1) := dz_42 (n := 0) (r := 0) hz_X12_sites_0 rfl
theorem dX12_sites_1 : decode cX12_sites 1 = .ok (.getfield 171, 3) := dz_180 (n := 0) (r := 1) hz_X12_sites_0 rfl rfl
theorem dX12_sites_4 : decode cX12_sites 4 = .ok (.aload_n 0, 1) := dz_42 (n := 0) (r := 4) hz_X12_sites_0 rfl
theorem dX12_sites_5 : decode cX12_sites 5 = .ok (.getfield 177, 3) := dz_180 (n := 0) (r := 5) hz_X12_sites_0 rfl rfl
theorem dX12_sites_8 : decode cX12_sites 8 = .ok (.imul, 1) := dz_104 (n := 0) (r := 8) hz_X12_sites_0 rfl
theorem dX12_sites_9 : decode cX12_sites 9 = .ok (.ireturn, 1) := dz_172 (n := 0) (r := 9) hz_X12_sites_0 rfl
theorem hz_X12_isSite_0 : (cX12_isSite.data.toList.drop 0).take 40 = [27, 3, 42, 182, 0, 193, 4, 100, 184, 0, 213, 172] := by decide +kernel
theorem dX12_isSite_0 : decode cX12_isSite 0 = .ok (.iload_n 1, 1) := dz_27 (n := 0) (r := 0) hz_X12_isSite_0 rfl
theorem dX12_isSite_1 : decode cX12_isSite 1 = .ok (.iconst 0, 1) := dz_3 (n := 0) (r := 1) hz_X12_isSite_0 rfl
theorem dX12_isSite_2 : decode cX12_isSite 2 = .ok (.aload_n 0, 1) := dz_42 (n := 0) (r := 2) hz_X12_isSite_0 rfl
theorem dX12_isSite_3 : decode cX12_isSite 3 = .ok (.invokevirtual 193, 3) := dz_182 (n := 0) (r := 3) hz_X12_isSite_0 rfl rfl
theorem dX12_isSite_6 : decode cX12_isSite 6 = .ok (.iconst 1, 1) := dz_4 (n := 0) (r := 6) hz_X12_isSite_0 rfl
theorem dX12_isSite_7 : decode cX12_isSite 7 = .ok (.isub, 1) := dz_100 (n := 0) (r := 7) hz_X12_isSite_0 rfl
theorem dX12_isSite_8 : decode cX12_isSite 8 = .ok (.invokestatic 213, 3) := dz_184 (n := 0) (r := 8) hz_X12_isSite_0 rfl rfl
theorem dX12_isSite_11 : decode cX12_isSite 11 = .ok (.ireturn, 1) := dz_172 (n := 0) (r := 11) hz_X12_isSite_0 rfl
theorem hz_X12_tieTo_0 : (cX12_tieTo.data.toList.drop 0).take 40 = [27, 28, 42, 180, 0, 171, 42, 180, 0, 177, 28, 153, 0, 10, 42, 180, 0, 190, 167, 0, 7, 42, 180, 0, 184, 184, 0, 226, 172] := by decide +kernel
theorem dX12_tieTo_0 : decode cX12_tieTo 0 = .ok (.iload_n 1, 1) := dz_27 (n := 0) (r := 0) hz_X12_tieTo_0 rfl
theorem dX12_tieTo_1 : decode cX12_tieTo 1 = .ok (.iload_n 2, 1) := dz_28 (n := 0) (r := 1) hz_X12_tieTo_0 rfl
theorem dX12_tieTo_2 : decode cX12_tieTo 2 = .ok (.aload_n 0, 1) := dz_42 (n := 0) (r := 2) hz_X12_tieTo_0 rfl
theorem dX12_tieTo_3 : decode cX12_tieTo 3 = .ok (.getfield 171, 3) := dz_180 (n := 0) (r := 3) hz_X12_tieTo_0 rfl rfl
theorem dX12_tieTo_6 : decode cX12_tieTo 6 = .ok (.aload_n 0, 1) := dz_42 (n := 0) (r := 6) hz_X12_tieTo_0 rfl
theorem dX12_tieTo_7 : decode cX12_tieTo 7 = .ok (.getfield 177, 3) := dz_180 (n := 0) (r := 7) hz_X12_tieTo_0 rfl rfl
theorem dX12_tieTo_10 : decode cX12_tieTo 10 = .ok (.iload_n 2, 1) := dz_28 (n := 0) (r := 10) hz_X12_tieTo_0 rfl
theorem dX12_tieTo_11 : decode cX12_tieTo 11 = .ok (.ifCond .eq 10, 3) := dz_153 (n := 0) (r := 11) hz_X12_tieTo_0 rfl (by decide +kernel)
theorem dX12_tieTo_14 : decode cX12_tieTo 14 = .ok (.aload_n 0, 1) := dz_42 (n := 0) (r := 14) hz_X12_tieTo_0 rfl
theorem dX12_tieTo_15 : decode cX12_tieTo 15 = .ok (.getfield 190, 3) := dz_180 (n := 0) (r := 15) hz_X12_tieTo_0 rfl rfl
theorem dX12_tieTo_18 : decode cX12_tieTo 18 = .ok (.goto 7, 3) := dz_167 (n := 0) (r := 18) hz_X12_tieTo_0 rfl (by decide +kernel)
theorem dX12_tieTo_21 : decode cX12_tieTo 21 = .ok (.aload_n 0, 1) := dz_42 (n := 0) (r := 21) hz_X12_tieTo_0 rfl
theorem dX12_tieTo_22 : decode cX12_tieTo 22 = .ok (.getfield 184, 3) := dz_180 (n := 0) (r := 22) hz_X12_tieTo_0 rfl rfl
theorem dX12_tieTo_25 : decode cX12_tieTo 25 = .ok (.invokestatic 226, 3) := dz_184 (n := 0) (r := 25) hz_X12_tieTo_0 rfl rfl
theorem dX12_tieTo_28 : decode cX12_tieTo 28 = .ok (.ireturn, 1) := dz_172 (n := 0) (r := 28) hz_X12_tieTo_0 rfl
theorem hz_X12_jOf_0 : (cX12_jOf.data.toList.drop 0).take 40 = [42, 28, 153, 0, 8, 16, 16, 167, 0, 4, 3, 27, 96, 46, 172] := by decide +kernel
theorem dX12_jOf_0 : decode cX12_jOf 0 = .ok (.aload_n 0, 1) := dz_42 (n := 0) (r := 0) hz_X12_jOf_0 rfl
theorem dX12_jOf_1 : decode cX12_jOf 1 = .ok (.iload_n 2, 1) := dz_28 (n := 0) (r := 1) hz_X12_jOf_0 rfl
theorem dX12_jOf_2 : decode cX12_jOf 2 = .ok (.ifCond .eq 8, 3) := dz_153 (n := 0) (r := 2) hz_X12_jOf_0 rfl (by decide +kernel)
theorem dX12_jOf_5 : decode cX12_jOf 5 = .ok (.bipush 16, 2) := dz_16 (n := 0) (r := 5) hz_X12_jOf_0 rfl rfl
theorem dX12_jOf_7 : decode cX12_jOf 7 = .ok (.goto 4, 3) := dz_167 (n := 0) (r := 7) hz_X12_jOf_0 rfl (by decide +kernel)
theorem dX12_jOf_10 : decode cX12_jOf 10 = .ok (.iconst 0, 1) := dz_3 (n := 0) (r := 10) hz_X12_jOf_0 rfl
theorem dX12_jOf_11 : decode cX12_jOf 11 = .ok (.iload_n 1, 1) := dz_27 (n := 0) (r := 11) hz_X12_jOf_0 rfl
theorem dX12_jOf_12 : decode cX12_jOf 12 = .ok (.iadd, 1) := dz_96 (n := 0) (r := 12) hz_X12_jOf_0 rfl
theorem dX12_jOf_13 : decode cX12_jOf 13 = .ok (.iaload, 1) := dz_46 (n := 0) (r := 13) hz_X12_jOf_0 rfl
theorem dX12_jOf_14 : decode cX12_jOf 14 = .ok (.ireturn, 1) := dz_172 (n := 0) (r := 14) hz_X12_jOf_0 rfl
theorem hz_X12_marks_0 : (cX12_marks.data.toList.drop 0).take 40 = [42, 180, 0, 197, 16, 40, 160, 0, 26, 42, 42, 180, 0, 230, 4, 96, 16, 40, 112, 181, 0, 230, 42, 89, 180, 0, 197, 4, 100, 181, 0, 197, 16, 66, 42, 180, 0, 230, 42, 180] := by decide +kernel
theorem dX12_marks_0 : decode cX12_marks 0 = .ok (.aload_n 0, 1) := dz_42 (n := 0) (r := 0) hz_X12_marks_0 rfl
theorem dX12_marks_1 : decode cX12_marks 1 = .ok (.getfield 197, 3) := dz_180 (n := 0) (r := 1) hz_X12_marks_0 rfl rfl
theorem dX12_marks_4 : decode cX12_marks 4 = .ok (.bipush 40, 2) := dz_16 (n := 0) (r := 4) hz_X12_marks_0 rfl rfl
theorem dX12_marks_6 : decode cX12_marks 6 = .ok (.if_icmp .ne 26, 3) := dz_160 (n := 0) (r := 6) hz_X12_marks_0 rfl (by decide +kernel)
theorem dX12_marks_9 : decode cX12_marks 9 = .ok (.aload_n 0, 1) := dz_42 (n := 0) (r := 9) hz_X12_marks_0 rfl
theorem dX12_marks_10 : decode cX12_marks 10 = .ok (.aload_n 0, 1) := dz_42 (n := 0) (r := 10) hz_X12_marks_0 rfl
theorem dX12_marks_11 : decode cX12_marks 11 = .ok (.getfield 230, 3) := dz_180 (n := 0) (r := 11) hz_X12_marks_0 rfl rfl
theorem dX12_marks_14 : decode cX12_marks 14 = .ok (.iconst 1, 1) := dz_4 (n := 0) (r := 14) hz_X12_marks_0 rfl
theorem dX12_marks_15 : decode cX12_marks 15 = .ok (.iadd, 1) := dz_96 (n := 0) (r := 15) hz_X12_marks_0 rfl
theorem dX12_marks_16 : decode cX12_marks 16 = .ok (.bipush 40, 2) := dz_16 (n := 0) (r := 16) hz_X12_marks_0 rfl rfl
theorem dX12_marks_18 : decode cX12_marks 18 = .ok (.irem, 1) := dz_112 (n := 0) (r := 18) hz_X12_marks_0 rfl
theorem dX12_marks_19 : decode cX12_marks 19 = .ok (.putfield 230, 3) := dz_181 (n := 0) (r := 19) hz_X12_marks_0 rfl rfl
theorem dX12_marks_22 : decode cX12_marks 22 = .ok (.aload_n 0, 1) := dz_42 (n := 0) (r := 22) hz_X12_marks_0 rfl
theorem dX12_marks_23 : decode cX12_marks 23 = .ok (.dup, 1) := dz_89 (n := 0) (r := 23) hz_X12_marks_0 rfl
theorem dX12_marks_24 : decode cX12_marks 24 = .ok (.getfield 197, 3) := dz_180 (n := 0) (r := 24) hz_X12_marks_0 rfl rfl
theorem dX12_marks_27 : decode cX12_marks 27 = .ok (.iconst 1, 1) := dz_4 (n := 0) (r := 27) hz_X12_marks_0 rfl
theorem dX12_marks_28 : decode cX12_marks 28 = .ok (.isub, 1) := dz_100 (n := 0) (r := 28) hz_X12_marks_0 rfl
theorem dX12_marks_29 : decode cX12_marks 29 = .ok (.putfield 197, 3) := dz_181 (n := 0) (r := 29) hz_X12_marks_0 rfl rfl
theorem hz_X12_marks_32 : (cX12_marks.data.toList.drop 32).take 40 = [16, 66, 42, 180, 0, 230, 42, 180, 0, 197, 96, 16, 40, 112, 104, 60, 3, 61, 28, 16, 66, 162, 0, 23, 42, 180, 0, 46, 27, 28, 96, 42, 180, 0, 40, 28, 46, 79, 132, 2] := by decide +kernel
theorem dX12_marks_32 : decode cX12_marks 32 = .ok (.bipush 66, 2) := dz_16 (n := 32) (r := 0) hz_X12_marks_32 rfl rfl
theorem dX12_marks_34 : decode cX12_marks 34 = .ok (.aload_n 0, 1) := dz_42 (n := 32) (r := 2) hz_X12_marks_32 rfl
theorem dX12_marks_35 : decode cX12_marks 35 = .ok (.getfield 230, 3) := dz_180 (n := 32) (r := 3) hz_X12_marks_32 rfl rfl
theorem dX12_marks_38 : decode cX12_marks 38 = .ok (.aload_n 0, 1) := dz_42 (n := 32) (r := 6) hz_X12_marks_32 rfl
theorem dX12_marks_39 : decode cX12_marks 39 = .ok (.getfield 197, 3) := dz_180 (n := 32) (r := 7) hz_X12_marks_32 rfl rfl
theorem dX12_marks_42 : decode cX12_marks 42 = .ok (.iadd, 1) := dz_96 (n := 32) (r := 10) hz_X12_marks_32 rfl
theorem dX12_marks_43 : decode cX12_marks 43 = .ok (.bipush 40, 2) := dz_16 (n := 32) (r := 11) hz_X12_marks_32 rfl rfl
theorem dX12_marks_45 : decode cX12_marks 45 = .ok (.irem, 1) := dz_112 (n := 32) (r := 13) hz_X12_marks_32 rfl
theorem dX12_marks_46 : decode cX12_marks 46 = .ok (.imul, 1) := dz_104 (n := 32) (r := 14) hz_X12_marks_32 rfl
theorem dX12_marks_47 : decode cX12_marks 47 = .ok (.istore_n 1, 1) := dz_60 (n := 32) (r := 15) hz_X12_marks_32 rfl
theorem dX12_marks_48 : decode cX12_marks 48 = .ok (.iconst 0, 1) := dz_3 (n := 32) (r := 16) hz_X12_marks_32 rfl
theorem dX12_marks_49 : decode cX12_marks 49 = .ok (.istore_n 2, 1) := dz_61 (n := 32) (r := 17) hz_X12_marks_32 rfl
theorem dX12_marks_50 : decode cX12_marks 50 = .ok (.iload_n 2, 1) := dz_28 (n := 32) (r := 18) hz_X12_marks_32 rfl
theorem dX12_marks_51 : decode cX12_marks 51 = .ok (.bipush 66, 2) := dz_16 (n := 32) (r := 19) hz_X12_marks_32 rfl rfl
theorem dX12_marks_53 : decode cX12_marks 53 = .ok (.if_icmp .ge 23, 3) := dz_162 (n := 32) (r := 21) hz_X12_marks_32 rfl (by decide +kernel)
theorem dX12_marks_56 : decode cX12_marks 56 = .ok (.aload_n 0, 1) := dz_42 (n := 32) (r := 24) hz_X12_marks_32 rfl
theorem dX12_marks_57 : decode cX12_marks 57 = .ok (.getfield 46, 3) := dz_180 (n := 32) (r := 25) hz_X12_marks_32 rfl rfl
theorem dX12_marks_60 : decode cX12_marks 60 = .ok (.iload_n 1, 1) := dz_27 (n := 32) (r := 28) hz_X12_marks_32 rfl
theorem dX12_marks_61 : decode cX12_marks 61 = .ok (.iload_n 2, 1) := dz_28 (n := 32) (r := 29) hz_X12_marks_32 rfl
theorem dX12_marks_62 : decode cX12_marks 62 = .ok (.iadd, 1) := dz_96 (n := 32) (r := 30) hz_X12_marks_32 rfl
theorem dX12_marks_63 : decode cX12_marks 63 = .ok (.aload_n 0, 1) := dz_42 (n := 32) (r := 31) hz_X12_marks_32 rfl
theorem hz_X12_marks_64 : (cX12_marks.data.toList.drop 64).take 40 = [180, 0, 40, 28, 46, 79, 132, 2, 1, 167, 255, 233, 42, 89, 180, 0, 197, 4, 96, 181, 0, 197, 177] := by decide +kernel
theorem dX12_marks_64 : decode cX12_marks 64 = .ok (.getfield 40, 3) := dz_180 (n := 64) (r := 0) hz_X12_marks_64 rfl rfl
theorem dX12_marks_67 : decode cX12_marks 67 = .ok (.iload_n 2, 1) := dz_28 (n := 64) (r := 3) hz_X12_marks_64 rfl
theorem dX12_marks_68 : decode cX12_marks 68 = .ok (.iaload, 1) := dz_46 (n := 64) (r := 4) hz_X12_marks_64 rfl
theorem dX12_marks_69 : decode cX12_marks 69 = .ok (.iastore, 1) := dz_79 (n := 64) (r := 5) hz_X12_marks_64 rfl
theorem dX12_marks_70 : decode cX12_marks 70 = .ok (.iinc 2 1, 3) := dz_132 (n := 64) (r := 6) hz_X12_marks_64 rfl rfl rfl
theorem dX12_marks_73 : decode cX12_marks 73 = .ok (.goto (-23), 3) := dz_167 (n := 64) (r := 9) hz_X12_marks_64 rfl (by decide +kernel)
theorem dX12_marks_76 : decode cX12_marks 76 = .ok (.aload_n 0, 1) := dz_42 (n := 64) (r := 12) hz_X12_marks_64 rfl
theorem dX12_marks_77 : decode cX12_marks 77 = .ok (.dup, 1) := dz_89 (n := 64) (r := 13) hz_X12_marks_64 rfl
theorem dX12_marks_78 : decode cX12_marks 78 = .ok (.getfield 197, 3) := dz_180 (n := 64) (r := 14) hz_X12_marks_64 rfl rfl
theorem dX12_marks_81 : decode cX12_marks 81 = .ok (.iconst 1, 1) := dz_4 (n := 64) (r := 17) hz_X12_marks_64 rfl
theorem dX12_marks_82 : decode cX12_marks 82 = .ok (.iadd, 1) := dz_96 (n := 64) (r := 18) hz_X12_marks_64 rfl
theorem dX12_marks_83 : decode cX12_marks 83 = .ok (.putfield 197, 3) := dz_181 (n := 64) (r := 19) hz_X12_marks_64 rfl rfl
theorem dX12_marks_86 : decode cX12_marks 86 = .ok (.return_, 1) := dz_177 (n := 64) (r := 22) hz_X12_marks_64 rfl
theorem hz_X12_tie_0 : (cX12_tie.data.toList.drop 0).take 40 = [42, 27, 182, 0, 233, 153, 0, 35, 29, 16, 253, 6, 184, 0, 213, 153, 0, 25, 42, 27, 28, 182, 0, 236, 155, 0, 16, 42, 180, 0, 40, 27, 28, 184, 0, 240, 29, 160, 0, 5] := by decide +kernel
theorem dX12_tie_0 : decode cX12_tie 0 = .ok (.aload_n 0, 1) := dz_42 (n := 0) (r := 0) hz_X12_tie_0 rfl
theorem dX12_tie_1 : decode cX12_tie 1 = .ok (.iload_n 1, 1) := dz_27 (n := 0) (r := 1) hz_X12_tie_0 rfl
theorem dX12_tie_2 : decode cX12_tie 2 = .ok (.invokevirtual 233, 3) := dz_182 (n := 0) (r := 2) hz_X12_tie_0 rfl rfl
theorem dX12_tie_5 : decode cX12_tie 5 = .ok (.ifCond .eq 35, 3) := dz_153 (n := 0) (r := 5) hz_X12_tie_0 rfl (by decide +kernel)
theorem dX12_tie_8 : decode cX12_tie 8 = .ok (.iload_n 3, 1) := dz_29 (n := 0) (r := 8) hz_X12_tie_0 rfl
theorem dX12_tie_9 : decode cX12_tie 9 = .ok (.bipush (-3), 2) := dz_16 (n := 0) (r := 9) hz_X12_tie_0 rfl rfl
theorem dX12_tie_11 : decode cX12_tie 11 = .ok (.iconst 3, 1) := dz_6 (n := 0) (r := 11) hz_X12_tie_0 rfl
theorem dX12_tie_12 : decode cX12_tie 12 = .ok (.invokestatic 213, 3) := dz_184 (n := 0) (r := 12) hz_X12_tie_0 rfl rfl
theorem dX12_tie_15 : decode cX12_tie 15 = .ok (.ifCond .eq 25, 3) := dz_153 (n := 0) (r := 15) hz_X12_tie_0 rfl (by decide +kernel)
theorem dX12_tie_18 : decode cX12_tie 18 = .ok (.aload_n 0, 1) := dz_42 (n := 0) (r := 18) hz_X12_tie_0 rfl
theorem dX12_tie_19 : decode cX12_tie 19 = .ok (.iload_n 1, 1) := dz_27 (n := 0) (r := 19) hz_X12_tie_0 rfl
theorem dX12_tie_20 : decode cX12_tie 20 = .ok (.iload_n 2, 1) := dz_28 (n := 0) (r := 20) hz_X12_tie_0 rfl
theorem dX12_tie_21 : decode cX12_tie 21 = .ok (.invokevirtual 236, 3) := dz_182 (n := 0) (r := 21) hz_X12_tie_0 rfl rfl
theorem dX12_tie_24 : decode cX12_tie 24 = .ok (.ifCond .lt 16, 3) := dz_155 (n := 0) (r := 24) hz_X12_tie_0 rfl (by decide +kernel)
theorem dX12_tie_27 : decode cX12_tie 27 = .ok (.aload_n 0, 1) := dz_42 (n := 0) (r := 27) hz_X12_tie_0 rfl
theorem dX12_tie_28 : decode cX12_tie 28 = .ok (.getfield 40, 3) := dz_180 (n := 0) (r := 28) hz_X12_tie_0 rfl rfl
theorem dX12_tie_31 : decode cX12_tie 31 = .ok (.iload_n 1, 1) := dz_27 (n := 0) (r := 31) hz_X12_tie_0 rfl
theorem hz_X12_tie_32 : (cX12_tie.data.toList.drop 32).take 40 = [28, 184, 0, 240, 29, 160, 0, 5, 3, 172, 42, 182, 0, 244, 42, 180, 0, 40, 28, 153, 0, 8, 16, 16, 167, 0, 4, 3, 27, 96, 29, 79, 42, 3, 181, 0, 200, 4, 172] := by decide +kernel
theorem dX12_tie_32 : decode cX12_tie 32 = .ok (.iload_n 2, 1) := dz_28 (n := 32) (r := 0) hz_X12_tie_32 rfl
theorem dX12_tie_33 : decode cX12_tie 33 = .ok (.invokestatic 240, 3) := dz_184 (n := 32) (r := 1) hz_X12_tie_32 rfl rfl
theorem dX12_tie_36 : decode cX12_tie 36 = .ok (.iload_n 3, 1) := dz_29 (n := 32) (r := 4) hz_X12_tie_32 rfl
theorem dX12_tie_37 : decode cX12_tie 37 = .ok (.if_icmp .ne 5, 3) := dz_160 (n := 32) (r := 5) hz_X12_tie_32 rfl (by decide +kernel)
theorem dX12_tie_40 : decode cX12_tie 40 = .ok (.iconst 0, 1) := dz_3 (n := 32) (r := 8) hz_X12_tie_32 rfl
theorem dX12_tie_41 : decode cX12_tie 41 = .ok (.ireturn, 1) := dz_172 (n := 32) (r := 9) hz_X12_tie_32 rfl
theorem dX12_tie_42 : decode cX12_tie 42 = .ok (.aload_n 0, 1) := dz_42 (n := 32) (r := 10) hz_X12_tie_32 rfl
theorem dX12_tie_43 : decode cX12_tie 43 = .ok (.invokevirtual 244, 3) := dz_182 (n := 32) (r := 11) hz_X12_tie_32 rfl rfl
theorem dX12_tie_46 : decode cX12_tie 46 = .ok (.aload_n 0, 1) := dz_42 (n := 32) (r := 14) hz_X12_tie_32 rfl
theorem dX12_tie_47 : decode cX12_tie 47 = .ok (.getfield 40, 3) := dz_180 (n := 32) (r := 15) hz_X12_tie_32 rfl rfl
theorem dX12_tie_50 : decode cX12_tie 50 = .ok (.iload_n 2, 1) := dz_28 (n := 32) (r := 18) hz_X12_tie_32 rfl
theorem dX12_tie_51 : decode cX12_tie 51 = .ok (.ifCond .eq 8, 3) := dz_153 (n := 32) (r := 19) hz_X12_tie_32 rfl (by decide +kernel)
theorem dX12_tie_54 : decode cX12_tie 54 = .ok (.bipush 16, 2) := dz_16 (n := 32) (r := 22) hz_X12_tie_32 rfl rfl
theorem dX12_tie_56 : decode cX12_tie 56 = .ok (.goto 4, 3) := dz_167 (n := 32) (r := 24) hz_X12_tie_32 rfl (by decide +kernel)
theorem dX12_tie_59 : decode cX12_tie 59 = .ok (.iconst 0, 1) := dz_3 (n := 32) (r := 27) hz_X12_tie_32 rfl
theorem dX12_tie_60 : decode cX12_tie 60 = .ok (.iload_n 1, 1) := dz_27 (n := 32) (r := 28) hz_X12_tie_32 rfl
theorem dX12_tie_61 : decode cX12_tie 61 = .ok (.iadd, 1) := dz_96 (n := 32) (r := 29) hz_X12_tie_32 rfl
theorem dX12_tie_62 : decode cX12_tie 62 = .ok (.iload_n 3, 1) := dz_29 (n := 32) (r := 30) hz_X12_tie_32 rfl
theorem dX12_tie_63 : decode cX12_tie 63 = .ok (.iastore, 1) := dz_79 (n := 32) (r := 31) hz_X12_tie_32 rfl
theorem hz_X12_tie_64 : (cX12_tie.data.toList.drop 64).take 40 = [42, 3, 181, 0, 200, 4, 172] := by decide +kernel
theorem dX12_tie_64 : decode cX12_tie 64 = .ok (.aload_n 0, 1) := dz_42 (n := 64) (r := 0) hz_X12_tie_64 rfl
theorem dX12_tie_65 : decode cX12_tie 65 = .ok (.iconst 0, 1) := dz_3 (n := 64) (r := 1) hz_X12_tie_64 rfl
theorem dX12_tie_66 : decode cX12_tie 66 = .ok (.putfield 200, 3) := dz_181 (n := 64) (r := 2) hz_X12_tie_64 rfl rfl
theorem dX12_tie_69 : decode cX12_tie 69 = .ok (.iconst 1, 1) := dz_4 (n := 64) (r := 5) hz_X12_tie_64 rfl
theorem dX12_tie_70 : decode cX12_tie 70 = .ok (.ireturn, 1) := dz_172 (n := 64) (r := 6) hz_X12_tie_64 rfl
theorem hz_X12_pull_0 : (cX12_pull.data.toList.drop 0).take 40 = [42, 27, 182, 0, 233, 153, 0, 26, 28, 16, 253, 6, 184, 0, 213, 153, 0, 16, 42, 180, 0, 40, 16, 32, 27, 96, 46, 28, 160, 0, 5, 3, 172, 42, 182, 0, 244, 42, 180, 0] := by decide +kernel
theorem dX12_pull_0 : decode cX12_pull 0 = .ok (.aload_n 0, 1) := dz_42 (n := 0) (r := 0) hz_X12_pull_0 rfl
theorem dX12_pull_1 : decode cX12_pull 1 = .ok (.iload_n 1, 1) := dz_27 (n := 0) (r := 1) hz_X12_pull_0 rfl
theorem dX12_pull_2 : decode cX12_pull 2 = .ok (.invokevirtual 233, 3) := dz_182 (n := 0) (r := 2) hz_X12_pull_0 rfl rfl
theorem dX12_pull_5 : decode cX12_pull 5 = .ok (.ifCond .eq 26, 3) := dz_153 (n := 0) (r := 5) hz_X12_pull_0 rfl (by decide +kernel)
theorem dX12_pull_8 : decode cX12_pull 8 = .ok (.iload_n 2, 1) := dz_28 (n := 0) (r := 8) hz_X12_pull_0 rfl
theorem dX12_pull_9 : decode cX12_pull 9 = .ok (.bipush (-3), 2) := dz_16 (n := 0) (r := 9) hz_X12_pull_0 rfl rfl
theorem dX12_pull_11 : decode cX12_pull 11 = .ok (.iconst 3, 1) := dz_6 (n := 0) (r := 11) hz_X12_pull_0 rfl
theorem dX12_pull_12 : decode cX12_pull 12 = .ok (.invokestatic 213, 3) := dz_184 (n := 0) (r := 12) hz_X12_pull_0 rfl rfl
theorem dX12_pull_15 : decode cX12_pull 15 = .ok (.ifCond .eq 16, 3) := dz_153 (n := 0) (r := 15) hz_X12_pull_0 rfl (by decide +kernel)
theorem dX12_pull_18 : decode cX12_pull 18 = .ok (.aload_n 0, 1) := dz_42 (n := 0) (r := 18) hz_X12_pull_0 rfl
theorem dX12_pull_19 : decode cX12_pull 19 = .ok (.getfield 40, 3) := dz_180 (n := 0) (r := 19) hz_X12_pull_0 rfl rfl
theorem dX12_pull_22 : decode cX12_pull 22 = .ok (.bipush 32, 2) := dz_16 (n := 0) (r := 22) hz_X12_pull_0 rfl rfl
theorem dX12_pull_24 : decode cX12_pull 24 = .ok (.iload_n 1, 1) := dz_27 (n := 0) (r := 24) hz_X12_pull_0 rfl
theorem dX12_pull_25 : decode cX12_pull 25 = .ok (.iadd, 1) := dz_96 (n := 0) (r := 25) hz_X12_pull_0 rfl
theorem dX12_pull_26 : decode cX12_pull 26 = .ok (.iaload, 1) := dz_46 (n := 0) (r := 26) hz_X12_pull_0 rfl
theorem dX12_pull_27 : decode cX12_pull 27 = .ok (.iload_n 2, 1) := dz_28 (n := 0) (r := 27) hz_X12_pull_0 rfl
theorem dX12_pull_28 : decode cX12_pull 28 = .ok (.if_icmp .ne 5, 3) := dz_160 (n := 0) (r := 28) hz_X12_pull_0 rfl (by decide +kernel)
theorem dX12_pull_31 : decode cX12_pull 31 = .ok (.iconst 0, 1) := dz_3 (n := 0) (r := 31) hz_X12_pull_0 rfl
theorem hz_X12_pull_32 : (cX12_pull.data.toList.drop 32).take 40 = [172, 42, 182, 0, 244, 42, 180, 0, 40, 16, 32, 27, 96, 28, 79, 42, 3, 181, 0, 200, 4, 172] := by decide +kernel
theorem dX12_pull_32 : decode cX12_pull 32 = .ok (.ireturn, 1) := dz_172 (n := 32) (r := 0) hz_X12_pull_32 rfl
theorem dX12_pull_33 : decode cX12_pull 33 = .ok (.aload_n 0, 1) := dz_42 (n := 32) (r := 1) hz_X12_pull_32 rfl
theorem dX12_pull_34 : decode cX12_pull 34 = .ok (.invokevirtual 244, 3) := dz_182 (n := 32) (r := 2) hz_X12_pull_32 rfl rfl
theorem dX12_pull_37 : decode cX12_pull 37 = .ok (.aload_n 0, 1) := dz_42 (n := 32) (r := 5) hz_X12_pull_32 rfl
theorem dX12_pull_38 : decode cX12_pull 38 = .ok (.getfield 40, 3) := dz_180 (n := 32) (r := 6) hz_X12_pull_32 rfl rfl
theorem dX12_pull_41 : decode cX12_pull 41 = .ok (.bipush 32, 2) := dz_16 (n := 32) (r := 9) hz_X12_pull_32 rfl rfl
theorem dX12_pull_43 : decode cX12_pull 43 = .ok (.iload_n 1, 1) := dz_27 (n := 32) (r := 11) hz_X12_pull_32 rfl
theorem dX12_pull_44 : decode cX12_pull 44 = .ok (.iadd, 1) := dz_96 (n := 32) (r := 12) hz_X12_pull_32 rfl
theorem dX12_pull_45 : decode cX12_pull 45 = .ok (.iload_n 2, 1) := dz_28 (n := 32) (r := 13) hz_X12_pull_32 rfl
theorem dX12_pull_46 : decode cX12_pull 46 = .ok (.iastore, 1) := dz_79 (n := 32) (r := 14) hz_X12_pull_32 rfl
theorem dX12_pull_47 : decode cX12_pull 47 = .ok (.aload_n 0, 1) := dz_42 (n := 32) (r := 15) hz_X12_pull_32 rfl
theorem dX12_pull_48 : decode cX12_pull 48 = .ok (.iconst 0, 1) := dz_3 (n := 32) (r := 16) hz_X12_pull_32 rfl
theorem dX12_pull_49 : decode cX12_pull 49 = .ok (.putfield 200, 3) := dz_181 (n := 32) (r := 17) hz_X12_pull_32 rfl rfl
theorem dX12_pull_52 : decode cX12_pull 52 = .ok (.iconst 1, 1) := dz_4 (n := 32) (r := 20) hz_X12_pull_32 rfl
theorem dX12_pull_53 : decode cX12_pull 53 = .ok (.ireturn, 1) := dz_172 (n := 32) (r := 21) hz_X12_pull_32 rfl
theorem hz_X12_pin_0 : (cX12_pin.data.toList.drop 0).take 40 = [42, 27, 182, 0, 233, 153, 0, 25, 28, 3, 5, 184, 0, 213, 153, 0, 16, 42, 180, 0, 40, 16, 48, 27, 96, 46, 28, 160, 0, 5, 3, 172, 42, 182, 0, 244, 42, 180, 0, 40] := by decide +kernel
theorem dX12_pin_0 : decode cX12_pin 0 = .ok (.aload_n 0, 1) := dz_42 (n := 0) (r := 0) hz_X12_pin_0 rfl
theorem dX12_pin_1 : decode cX12_pin 1 = .ok (.iload_n 1, 1) := dz_27 (n := 0) (r := 1) hz_X12_pin_0 rfl
theorem dX12_pin_2 : decode cX12_pin 2 = .ok (.invokevirtual 233, 3) := dz_182 (n := 0) (r := 2) hz_X12_pin_0 rfl rfl
theorem dX12_pin_5 : decode cX12_pin 5 = .ok (.ifCond .eq 25, 3) := dz_153 (n := 0) (r := 5) hz_X12_pin_0 rfl (by decide +kernel)
theorem dX12_pin_8 : decode cX12_pin 8 = .ok (.iload_n 2, 1) := dz_28 (n := 0) (r := 8) hz_X12_pin_0 rfl
theorem dX12_pin_9 : decode cX12_pin 9 = .ok (.iconst 0, 1) := dz_3 (n := 0) (r := 9) hz_X12_pin_0 rfl
theorem dX12_pin_10 : decode cX12_pin 10 = .ok (.iconst 2, 1) := dz_5 (n := 0) (r := 10) hz_X12_pin_0 rfl
theorem dX12_pin_11 : decode cX12_pin 11 = .ok (.invokestatic 213, 3) := dz_184 (n := 0) (r := 11) hz_X12_pin_0 rfl rfl
theorem dX12_pin_14 : decode cX12_pin 14 = .ok (.ifCond .eq 16, 3) := dz_153 (n := 0) (r := 14) hz_X12_pin_0 rfl (by decide +kernel)
theorem dX12_pin_17 : decode cX12_pin 17 = .ok (.aload_n 0, 1) := dz_42 (n := 0) (r := 17) hz_X12_pin_0 rfl
theorem dX12_pin_18 : decode cX12_pin 18 = .ok (.getfield 40, 3) := dz_180 (n := 0) (r := 18) hz_X12_pin_0 rfl rfl
theorem dX12_pin_21 : decode cX12_pin 21 = .ok (.bipush 48, 2) := dz_16 (n := 0) (r := 21) hz_X12_pin_0 rfl rfl
theorem dX12_pin_23 : decode cX12_pin 23 = .ok (.iload_n 1, 1) := dz_27 (n := 0) (r := 23) hz_X12_pin_0 rfl
theorem dX12_pin_24 : decode cX12_pin 24 = .ok (.iadd, 1) := dz_96 (n := 0) (r := 24) hz_X12_pin_0 rfl
theorem dX12_pin_25 : decode cX12_pin 25 = .ok (.iaload, 1) := dz_46 (n := 0) (r := 25) hz_X12_pin_0 rfl
theorem dX12_pin_26 : decode cX12_pin 26 = .ok (.iload_n 2, 1) := dz_28 (n := 0) (r := 26) hz_X12_pin_0 rfl
theorem dX12_pin_27 : decode cX12_pin 27 = .ok (.if_icmp .ne 5, 3) := dz_160 (n := 0) (r := 27) hz_X12_pin_0 rfl (by decide +kernel)
theorem dX12_pin_30 : decode cX12_pin 30 = .ok (.iconst 0, 1) := dz_3 (n := 0) (r := 30) hz_X12_pin_0 rfl
theorem dX12_pin_31 : decode cX12_pin 31 = .ok (.ireturn, 1) := dz_172 (n := 0) (r := 31) hz_X12_pin_0 rfl
theorem hz_X12_pin_32 : (cX12_pin.data.toList.drop 32).take 40 = [42, 182, 0, 244, 42, 180, 0, 40, 16, 48, 27, 96, 28, 79, 28, 4, 160, 0, 16, 42, 180, 0, 40, 16, 64, 92, 46, 4, 27, 120, 128, 79, 28, 5, 160, 0, 18, 42, 180, 0] := by decide +kernel
theorem dX12_pin_32 : decode cX12_pin 32 = .ok (.aload_n 0, 1) := dz_42 (n := 32) (r := 0) hz_X12_pin_32 rfl
theorem dX12_pin_33 : decode cX12_pin 33 = .ok (.invokevirtual 244, 3) := dz_182 (n := 32) (r := 1) hz_X12_pin_32 rfl rfl
theorem dX12_pin_36 : decode cX12_pin 36 = .ok (.aload_n 0, 1) := dz_42 (n := 32) (r := 4) hz_X12_pin_32 rfl
theorem dX12_pin_37 : decode cX12_pin 37 = .ok (.getfield 40, 3) := dz_180 (n := 32) (r := 5) hz_X12_pin_32 rfl rfl
theorem dX12_pin_40 : decode cX12_pin 40 = .ok (.bipush 48, 2) := dz_16 (n := 32) (r := 8) hz_X12_pin_32 rfl rfl
theorem dX12_pin_42 : decode cX12_pin 42 = .ok (.iload_n 1, 1) := dz_27 (n := 32) (r := 10) hz_X12_pin_32 rfl
theorem dX12_pin_43 : decode cX12_pin 43 = .ok (.iadd, 1) := dz_96 (n := 32) (r := 11) hz_X12_pin_32 rfl
theorem dX12_pin_44 : decode cX12_pin 44 = .ok (.iload_n 2, 1) := dz_28 (n := 32) (r := 12) hz_X12_pin_32 rfl
theorem dX12_pin_45 : decode cX12_pin 45 = .ok (.iastore, 1) := dz_79 (n := 32) (r := 13) hz_X12_pin_32 rfl
theorem dX12_pin_46 : decode cX12_pin 46 = .ok (.iload_n 2, 1) := dz_28 (n := 32) (r := 14) hz_X12_pin_32 rfl
theorem dX12_pin_47 : decode cX12_pin 47 = .ok (.iconst 1, 1) := dz_4 (n := 32) (r := 15) hz_X12_pin_32 rfl
theorem dX12_pin_48 : decode cX12_pin 48 = .ok (.if_icmp .ne 16, 3) := dz_160 (n := 32) (r := 16) hz_X12_pin_32 rfl (by decide +kernel)
theorem dX12_pin_51 : decode cX12_pin 51 = .ok (.aload_n 0, 1) := dz_42 (n := 32) (r := 19) hz_X12_pin_32 rfl
theorem dX12_pin_52 : decode cX12_pin 52 = .ok (.getfield 40, 3) := dz_180 (n := 32) (r := 20) hz_X12_pin_32 rfl rfl
theorem dX12_pin_55 : decode cX12_pin 55 = .ok (.bipush 64, 2) := dz_16 (n := 32) (r := 23) hz_X12_pin_32 rfl rfl
theorem dX12_pin_57 : decode cX12_pin 57 = .ok (.dup2, 1) := dz_92 (n := 32) (r := 25) hz_X12_pin_32 rfl
theorem dX12_pin_58 : decode cX12_pin 58 = .ok (.iaload, 1) := dz_46 (n := 32) (r := 26) hz_X12_pin_32 rfl
theorem dX12_pin_59 : decode cX12_pin 59 = .ok (.iconst 1, 1) := dz_4 (n := 32) (r := 27) hz_X12_pin_32 rfl
theorem dX12_pin_60 : decode cX12_pin 60 = .ok (.iload_n 1, 1) := dz_27 (n := 32) (r := 28) hz_X12_pin_32 rfl
theorem dX12_pin_61 : decode cX12_pin 61 = .ok (.ishl, 1) := dz_120 (n := 32) (r := 29) hz_X12_pin_32 rfl
theorem dX12_pin_62 : decode cX12_pin 62 = .ok (.ior, 1) := dz_128 (n := 32) (r := 30) hz_X12_pin_32 rfl
theorem dX12_pin_63 : decode cX12_pin 63 = .ok (.iastore, 1) := dz_79 (n := 32) (r := 31) hz_X12_pin_32 rfl
theorem hz_X12_pin_64 : (cX12_pin.data.toList.drop 64).take 40 = [28, 5, 160, 0, 18, 42, 180, 0, 40, 16, 64, 92, 46, 4, 27, 120, 2, 130, 126, 79, 42, 3, 181, 0, 200, 4, 172] := by decide +kernel
theorem dX12_pin_64 : decode cX12_pin 64 = .ok (.iload_n 2, 1) := dz_28 (n := 64) (r := 0) hz_X12_pin_64 rfl
theorem dX12_pin_65 : decode cX12_pin 65 = .ok (.iconst 2, 1) := dz_5 (n := 64) (r := 1) hz_X12_pin_64 rfl
theorem dX12_pin_66 : decode cX12_pin 66 = .ok (.if_icmp .ne 18, 3) := dz_160 (n := 64) (r := 2) hz_X12_pin_64 rfl (by decide +kernel)
theorem dX12_pin_69 : decode cX12_pin 69 = .ok (.aload_n 0, 1) := dz_42 (n := 64) (r := 5) hz_X12_pin_64 rfl
theorem dX12_pin_70 : decode cX12_pin 70 = .ok (.getfield 40, 3) := dz_180 (n := 64) (r := 6) hz_X12_pin_64 rfl rfl
theorem dX12_pin_73 : decode cX12_pin 73 = .ok (.bipush 64, 2) := dz_16 (n := 64) (r := 9) hz_X12_pin_64 rfl rfl
theorem dX12_pin_75 : decode cX12_pin 75 = .ok (.dup2, 1) := dz_92 (n := 64) (r := 11) hz_X12_pin_64 rfl
theorem dX12_pin_76 : decode cX12_pin 76 = .ok (.iaload, 1) := dz_46 (n := 64) (r := 12) hz_X12_pin_64 rfl
theorem dX12_pin_77 : decode cX12_pin 77 = .ok (.iconst 1, 1) := dz_4 (n := 64) (r := 13) hz_X12_pin_64 rfl
theorem dX12_pin_78 : decode cX12_pin 78 = .ok (.iload_n 1, 1) := dz_27 (n := 64) (r := 14) hz_X12_pin_64 rfl
theorem dX12_pin_79 : decode cX12_pin 79 = .ok (.ishl, 1) := dz_120 (n := 64) (r := 15) hz_X12_pin_64 rfl
theorem dX12_pin_80 : decode cX12_pin 80 = .ok (.iconst (-1), 1) := dz_2 (n := 64) (r := 16) hz_X12_pin_64 rfl
theorem dX12_pin_81 : decode cX12_pin 81 = .ok (.ixor, 1) := dz_130 (n := 64) (r := 17) hz_X12_pin_64 rfl
theorem dX12_pin_82 : decode cX12_pin 82 = .ok (.iand, 1) := dz_126 (n := 64) (r := 18) hz_X12_pin_64 rfl
theorem dX12_pin_83 : decode cX12_pin 83 = .ok (.iastore, 1) := dz_79 (n := 64) (r := 19) hz_X12_pin_64 rfl
theorem dX12_pin_84 : decode cX12_pin 84 = .ok (.aload_n 0, 1) := dz_42 (n := 64) (r := 20) hz_X12_pin_64 rfl
theorem dX12_pin_85 : decode cX12_pin 85 = .ok (.iconst 0, 1) := dz_3 (n := 64) (r := 21) hz_X12_pin_64 rfl
theorem dX12_pin_86 : decode cX12_pin 86 = .ok (.putfield 200, 3) := dz_181 (n := 64) (r := 22) hz_X12_pin_64 rfl rfl
theorem dX12_pin_89 : decode cX12_pin 89 = .ok (.iconst 1, 1) := dz_4 (n := 64) (r := 25) hz_X12_pin_64 rfl
theorem dX12_pin_90 : decode cX12_pin 90 = .ok (.ireturn, 1) := dz_172 (n := 64) (r := 26) hz_X12_pin_64 rfl
theorem hz_X12_nextOf_0 : (cX12_nextOf.data.toList.drop 0).take 40 = [30, 20, 0, 247, 105, 20, 0, 249, 97, 20, 0, 251, 113, 173] := by decide +kernel
theorem dX12_nextOf_0 : decode cX12_nextOf 0 = .ok (.lload_n 0, 1) := dz_30 (n := 0) (r := 0) hz_X12_nextOf_0 rfl
theorem dX12_nextOf_1 : decode cX12_nextOf 1 = .ok (.ldc2_w 247, 3) := dz_20 (n := 0) (r := 1) hz_X12_nextOf_0 rfl rfl
theorem dX12_nextOf_4 : decode cX12_nextOf 4 = .ok (.lmul, 1) := dz_105 (n := 0) (r := 4) hz_X12_nextOf_0 rfl
theorem dX12_nextOf_5 : decode cX12_nextOf 5 = .ok (.ldc2_w 249, 3) := dz_20 (n := 0) (r := 5) hz_X12_nextOf_0 rfl rfl
theorem dX12_nextOf_8 : decode cX12_nextOf 8 = .ok (.ladd, 1) := dz_97 (n := 0) (r := 8) hz_X12_nextOf_0 rfl
theorem dX12_nextOf_9 : decode cX12_nextOf 9 = .ok (.ldc2_w 251, 3) := dz_20 (n := 0) (r := 9) hz_X12_nextOf_0 rfl rfl
theorem dX12_nextOf_12 : decode cX12_nextOf 12 = .ok (.lrem, 1) := dz_113 (n := 0) (r := 12) hz_X12_nextOf_0 rfl
theorem dX12_nextOf_13 : decode cX12_nextOf 13 = .ok (.lreturn, 1) := dz_173 (n := 0) (r := 13) hz_X12_nextOf_0 rfl
theorem hz_X12_glass_0 : (cX12_glass.data.toList.drop 0).take 40 = [27, 3, 17, 39, 15, 184, 0, 213, 153, 0, 10, 42, 182, 0, 193, 154, 0, 5, 3, 172, 42, 182, 0, 244, 27, 133, 65, 3, 54, 4, 21, 4, 5, 42, 182, 0, 193, 104, 162, 0] := by decide +kernel
theorem dX12_glass_0 : decode cX12_glass 0 = .ok (.iload_n 1, 1) := dz_27 (n := 0) (r := 0) hz_X12_glass_0 rfl
theorem dX12_glass_1 : decode cX12_glass 1 = .ok (.iconst 0, 1) := dz_3 (n := 0) (r := 1) hz_X12_glass_0 rfl
theorem dX12_glass_2 : decode cX12_glass 2 = .ok (.sipush 9999, 3) := dz_17 (n := 0) (r := 2) hz_X12_glass_0 rfl (by decide +kernel)
theorem dX12_glass_5 : decode cX12_glass 5 = .ok (.invokestatic 213, 3) := dz_184 (n := 0) (r := 5) hz_X12_glass_0 rfl rfl
theorem dX12_glass_8 : decode cX12_glass 8 = .ok (.ifCond .eq 10, 3) := dz_153 (n := 0) (r := 8) hz_X12_glass_0 rfl (by decide +kernel)
theorem dX12_glass_11 : decode cX12_glass 11 = .ok (.aload_n 0, 1) := dz_42 (n := 0) (r := 11) hz_X12_glass_0 rfl
theorem dX12_glass_12 : decode cX12_glass 12 = .ok (.invokevirtual 193, 3) := dz_182 (n := 0) (r := 12) hz_X12_glass_0 rfl rfl
theorem dX12_glass_15 : decode cX12_glass 15 = .ok (.ifCond .ne 5, 3) := dz_154 (n := 0) (r := 15) hz_X12_glass_0 rfl (by decide +kernel)
theorem dX12_glass_18 : decode cX12_glass 18 = .ok (.iconst 0, 1) := dz_3 (n := 0) (r := 18) hz_X12_glass_0 rfl
theorem dX12_glass_19 : decode cX12_glass 19 = .ok (.ireturn, 1) := dz_172 (n := 0) (r := 19) hz_X12_glass_0 rfl
theorem dX12_glass_20 : decode cX12_glass 20 = .ok (.aload_n 0, 1) := dz_42 (n := 0) (r := 20) hz_X12_glass_0 rfl
theorem dX12_glass_21 : decode cX12_glass 21 = .ok (.invokevirtual 244, 3) := dz_182 (n := 0) (r := 21) hz_X12_glass_0 rfl rfl
theorem dX12_glass_24 : decode cX12_glass 24 = .ok (.iload_n 1, 1) := dz_27 (n := 0) (r := 24) hz_X12_glass_0 rfl
theorem dX12_glass_25 : decode cX12_glass 25 = .ok (.i2l, 1) := dz_133 (n := 0) (r := 25) hz_X12_glass_0 rfl
theorem dX12_glass_26 : decode cX12_glass 26 = .ok (.lstore_n 2, 1) := dz_65 (n := 0) (r := 26) hz_X12_glass_0 rfl
theorem dX12_glass_27 : decode cX12_glass 27 = .ok (.iconst 0, 1) := dz_3 (n := 0) (r := 27) hz_X12_glass_0 rfl
theorem dX12_glass_28 : decode cX12_glass 28 = .ok (.istore 4, 2) := dz_54 (n := 0) (r := 28) hz_X12_glass_0 rfl rfl
theorem dX12_glass_30 : decode cX12_glass 30 = .ok (.iload 4, 2) := dz_21 (n := 0) (r := 30) hz_X12_glass_0 rfl rfl
theorem hz_X12_glass_32 : (cX12_glass.data.toList.drop 32).take 40 = [5, 42, 182, 0, 193, 104, 162, 0, 101, 21, 4, 42, 182, 0, 193, 161, 0, 7, 4, 167, 0, 4, 3, 54, 5, 21, 5, 153, 0, 13, 21, 4, 42, 182, 0, 193, 100, 167, 0, 5] := by decide +kernel
theorem dX12_glass_32 : decode cX12_glass 32 = .ok (.iconst 2, 1) := dz_5 (n := 32) (r := 0) hz_X12_glass_32 rfl
theorem dX12_glass_33 : decode cX12_glass 33 = .ok (.aload_n 0, 1) := dz_42 (n := 32) (r := 1) hz_X12_glass_32 rfl
theorem dX12_glass_34 : decode cX12_glass 34 = .ok (.invokevirtual 193, 3) := dz_182 (n := 32) (r := 2) hz_X12_glass_32 rfl rfl
theorem dX12_glass_37 : decode cX12_glass 37 = .ok (.imul, 1) := dz_104 (n := 32) (r := 5) hz_X12_glass_32 rfl
theorem dX12_glass_38 : decode cX12_glass 38 = .ok (.if_icmp .ge 101, 3) := dz_162 (n := 32) (r := 6) hz_X12_glass_32 rfl (by decide +kernel)
theorem dX12_glass_41 : decode cX12_glass 41 = .ok (.iload 4, 2) := dz_21 (n := 32) (r := 9) hz_X12_glass_32 rfl rfl
theorem dX12_glass_43 : decode cX12_glass 43 = .ok (.aload_n 0, 1) := dz_42 (n := 32) (r := 11) hz_X12_glass_32 rfl
theorem dX12_glass_44 : decode cX12_glass 44 = .ok (.invokevirtual 193, 3) := dz_182 (n := 32) (r := 12) hz_X12_glass_32 rfl rfl
theorem dX12_glass_47 : decode cX12_glass 47 = .ok (.if_icmp .lt 7, 3) := dz_161 (n := 32) (r := 15) hz_X12_glass_32 rfl (by decide +kernel)
theorem dX12_glass_50 : decode cX12_glass 50 = .ok (.iconst 1, 1) := dz_4 (n := 32) (r := 18) hz_X12_glass_32 rfl
theorem dX12_glass_51 : decode cX12_glass 51 = .ok (.goto 4, 3) := dz_167 (n := 32) (r := 19) hz_X12_glass_32 rfl (by decide +kernel)
theorem dX12_glass_54 : decode cX12_glass 54 = .ok (.iconst 0, 1) := dz_3 (n := 32) (r := 22) hz_X12_glass_32 rfl
theorem dX12_glass_55 : decode cX12_glass 55 = .ok (.istore 5, 2) := dz_54 (n := 32) (r := 23) hz_X12_glass_32 rfl rfl
theorem dX12_glass_57 : decode cX12_glass 57 = .ok (.iload 5, 2) := dz_21 (n := 32) (r := 25) hz_X12_glass_32 rfl rfl
theorem dX12_glass_59 : decode cX12_glass 59 = .ok (.ifCond .eq 13, 3) := dz_153 (n := 32) (r := 27) hz_X12_glass_32 rfl (by decide +kernel)
theorem dX12_glass_62 : decode cX12_glass 62 = .ok (.iload 4, 2) := dz_21 (n := 32) (r := 30) hz_X12_glass_32 rfl rfl
theorem hz_X12_glass_64 : (cX12_glass.data.toList.drop 64).take 40 = [42, 182, 0, 193, 100, 167, 0, 5, 21, 4, 54, 6, 42, 21, 6, 21, 5, 182, 0, 236, 156, 0, 6, 167, 0, 46, 32, 184, 0, 253, 65, 42, 180, 0, 40, 21, 5, 153, 0, 8] := by decide +kernel
theorem dX12_glass_64 : decode cX12_glass 64 = .ok (.aload_n 0, 1) := dz_42 (n := 64) (r := 0) hz_X12_glass_64 rfl
theorem dX12_glass_65 : decode cX12_glass 65 = .ok (.invokevirtual 193, 3) := dz_182 (n := 64) (r := 1) hz_X12_glass_64 rfl rfl
theorem dX12_glass_68 : decode cX12_glass 68 = .ok (.isub, 1) := dz_100 (n := 64) (r := 4) hz_X12_glass_64 rfl
theorem dX12_glass_69 : decode cX12_glass 69 = .ok (.goto 5, 3) := dz_167 (n := 64) (r := 5) hz_X12_glass_64 rfl (by decide +kernel)
theorem dX12_glass_72 : decode cX12_glass 72 = .ok (.iload 4, 2) := dz_21 (n := 64) (r := 8) hz_X12_glass_64 rfl rfl
theorem dX12_glass_74 : decode cX12_glass 74 = .ok (.istore 6, 2) := dz_54 (n := 64) (r := 10) hz_X12_glass_64 rfl rfl
theorem dX12_glass_76 : decode cX12_glass 76 = .ok (.aload_n 0, 1) := dz_42 (n := 64) (r := 12) hz_X12_glass_64 rfl
theorem dX12_glass_77 : decode cX12_glass 77 = .ok (.iload 6, 2) := dz_21 (n := 64) (r := 13) hz_X12_glass_64 rfl rfl
theorem dX12_glass_79 : decode cX12_glass 79 = .ok (.iload 5, 2) := dz_21 (n := 64) (r := 15) hz_X12_glass_64 rfl rfl
theorem dX12_glass_81 : decode cX12_glass 81 = .ok (.invokevirtual 236, 3) := dz_182 (n := 64) (r := 17) hz_X12_glass_64 rfl rfl
theorem dX12_glass_84 : decode cX12_glass 84 = .ok (.ifCond .ge 6, 3) := dz_156 (n := 64) (r := 20) hz_X12_glass_64 rfl (by decide +kernel)
theorem dX12_glass_87 : decode cX12_glass 87 = .ok (.goto 46, 3) := dz_167 (n := 64) (r := 23) hz_X12_glass_64 rfl (by decide +kernel)
theorem dX12_glass_90 : decode cX12_glass 90 = .ok (.lload_n 2, 1) := dz_32 (n := 64) (r := 26) hz_X12_glass_64 rfl
theorem dX12_glass_91 : decode cX12_glass 91 = .ok (.invokestatic 253, 3) := dz_184 (n := 64) (r := 27) hz_X12_glass_64 rfl rfl
theorem dX12_glass_94 : decode cX12_glass 94 = .ok (.lstore_n 2, 1) := dz_65 (n := 64) (r := 30) hz_X12_glass_64 rfl
theorem dX12_glass_95 : decode cX12_glass 95 = .ok (.aload_n 0, 1) := dz_42 (n := 64) (r := 31) hz_X12_glass_64 rfl
theorem hz_X12_glass_96 : (cX12_glass.data.toList.drop 96).take 40 = [180, 0, 40, 21, 5, 153, 0, 8, 16, 16, 167, 0, 4, 3, 21, 6, 96, 32, 20, 1, 1, 109, 20, 1, 3, 113, 10, 148, 154, 0, 7, 4, 167, 0, 4, 2, 79, 132, 4, 1] := by decide +kernel
theorem dX12_glass_96 : decode cX12_glass 96 = .ok (.getfield 40, 3) := dz_180 (n := 96) (r := 0) hz_X12_glass_96 rfl rfl
theorem dX12_glass_99 : decode cX12_glass 99 = .ok (.iload 5, 2) := dz_21 (n := 96) (r := 3) hz_X12_glass_96 rfl rfl
theorem dX12_glass_101 : decode cX12_glass 101 = .ok (.ifCond .eq 8, 3) := dz_153 (n := 96) (r := 5) hz_X12_glass_96 rfl (by decide +kernel)
theorem dX12_glass_104 : decode cX12_glass 104 = .ok (.bipush 16, 2) := dz_16 (n := 96) (r := 8) hz_X12_glass_96 rfl rfl
theorem dX12_glass_106 : decode cX12_glass 106 = .ok (.goto 4, 3) := dz_167 (n := 96) (r := 10) hz_X12_glass_96 rfl (by decide +kernel)
theorem dX12_glass_109 : decode cX12_glass 109 = .ok (.iconst 0, 1) := dz_3 (n := 96) (r := 13) hz_X12_glass_96 rfl
theorem dX12_glass_110 : decode cX12_glass 110 = .ok (.iload 6, 2) := dz_21 (n := 96) (r := 14) hz_X12_glass_96 rfl rfl
theorem dX12_glass_112 : decode cX12_glass 112 = .ok (.iadd, 1) := dz_96 (n := 96) (r := 16) hz_X12_glass_96 rfl
theorem dX12_glass_113 : decode cX12_glass 113 = .ok (.lload_n 2, 1) := dz_32 (n := 96) (r := 17) hz_X12_glass_96 rfl
theorem dX12_glass_114 : decode cX12_glass 114 = .ok (.ldc2_w 257, 3) := dz_20 (n := 96) (r := 18) hz_X12_glass_96 rfl rfl
theorem dX12_glass_117 : decode cX12_glass 117 = .ok (.ldiv, 1) := dz_109 (n := 96) (r := 21) hz_X12_glass_96 rfl
theorem dX12_glass_118 : decode cX12_glass 118 = .ok (.ldc2_w 259, 3) := dz_20 (n := 96) (r := 22) hz_X12_glass_96 rfl rfl
theorem dX12_glass_121 : decode cX12_glass 121 = .ok (.lrem, 1) := dz_113 (n := 96) (r := 25) hz_X12_glass_96 rfl
theorem dX12_glass_122 : decode cX12_glass 122 = .ok (.lconst 1, 1) := dz_10 (n := 96) (r := 26) hz_X12_glass_96 rfl
theorem dX12_glass_123 : decode cX12_glass 123 = .ok (.lcmp, 1) := dz_148 (n := 96) (r := 27) hz_X12_glass_96 rfl
theorem dX12_glass_124 : decode cX12_glass 124 = .ok (.ifCond .ne 7, 3) := dz_154 (n := 96) (r := 28) hz_X12_glass_96 rfl (by decide +kernel)
theorem dX12_glass_127 : decode cX12_glass 127 = .ok (.iconst 1, 1) := dz_4 (n := 96) (r := 31) hz_X12_glass_96 rfl
theorem hz_X12_glass_128 : (cX12_glass.data.toList.drop 128).take 40 = [167, 0, 4, 2, 79, 132, 4, 1, 167, 255, 150, 42, 3, 181, 0, 200, 4, 172] := by decide +kernel
theorem dX12_glass_128 : decode cX12_glass 128 = .ok (.goto 4, 3) := dz_167 (n := 128) (r := 0) hz_X12_glass_128 rfl (by decide +kernel)
theorem dX12_glass_131 : decode cX12_glass 131 = .ok (.iconst (-1), 1) := dz_2 (n := 128) (r := 3) hz_X12_glass_128 rfl
theorem dX12_glass_132 : decode cX12_glass 132 = .ok (.iastore, 1) := dz_79 (n := 128) (r := 4) hz_X12_glass_128 rfl
theorem dX12_glass_133 : decode cX12_glass 133 = .ok (.iinc 4 1, 3) := dz_132 (n := 128) (r := 5) hz_X12_glass_128 rfl rfl rfl
theorem dX12_glass_136 : decode cX12_glass 136 = .ok (.goto (-106), 3) := dz_167 (n := 128) (r := 8) hz_X12_glass_128 rfl (by decide +kernel)
theorem dX12_glass_139 : decode cX12_glass 139 = .ok (.aload_n 0, 1) := dz_42 (n := 128) (r := 11) hz_X12_glass_128 rfl
theorem dX12_glass_140 : decode cX12_glass 140 = .ok (.iconst 0, 1) := dz_3 (n := 128) (r := 12) hz_X12_glass_128 rfl
theorem dX12_glass_141 : decode cX12_glass 141 = .ok (.putfield 200, 3) := dz_181 (n := 128) (r := 13) hz_X12_glass_128 rfl rfl
theorem dX12_glass_144 : decode cX12_glass 144 = .ok (.iconst 1, 1) := dz_4 (n := 128) (r := 16) hz_X12_glass_128 rfl
theorem dX12_glass_145 : decode cX12_glass 145 = .ok (.ireturn, 1) := dz_172 (n := 128) (r := 17) hz_X12_glass_128 rfl
theorem hz_X12_turn_0 : (cX12_turn.data.toList.drop 0).take 40 = [42, 27, 182, 0, 233, 153, 0, 15, 42, 180, 0, 40, 16, 48, 27, 96, 46, 158, 0, 5, 3, 172, 42, 182, 0, 244, 42, 180, 0, 40, 16, 64, 92, 46, 4, 27, 120, 130, 79, 4] := by decide +kernel
theorem dX12_turn_0 : decode cX12_turn 0 = .ok (.aload_n 0, 1) := dz_42 (n := 0) (r := 0) hz_X12_turn_0 rfl
theorem dX12_turn_1 : decode cX12_turn 1 = .ok (.iload_n 1, 1) := dz_27 (n := 0) (r := 1) hz_X12_turn_0 rfl
theorem dX12_turn_2 : decode cX12_turn 2 = .ok (.invokevirtual 233, 3) := dz_182 (n := 0) (r := 2) hz_X12_turn_0 rfl rfl
theorem dX12_turn_5 : decode cX12_turn 5 = .ok (.ifCond .eq 15, 3) := dz_153 (n := 0) (r := 5) hz_X12_turn_0 rfl (by decide +kernel)
theorem dX12_turn_8 : decode cX12_turn 8 = .ok (.aload_n 0, 1) := dz_42 (n := 0) (r := 8) hz_X12_turn_0 rfl
theorem dX12_turn_9 : decode cX12_turn 9 = .ok (.getfield 40, 3) := dz_180 (n := 0) (r := 9) hz_X12_turn_0 rfl rfl
theorem dX12_turn_12 : decode cX12_turn 12 = .ok (.bipush 48, 2) := dz_16 (n := 0) (r := 12) hz_X12_turn_0 rfl rfl
theorem dX12_turn_14 : decode cX12_turn 14 = .ok (.iload_n 1, 1) := dz_27 (n := 0) (r := 14) hz_X12_turn_0 rfl
theorem dX12_turn_15 : decode cX12_turn 15 = .ok (.iadd, 1) := dz_96 (n := 0) (r := 15) hz_X12_turn_0 rfl
theorem dX12_turn_16 : decode cX12_turn 16 = .ok (.iaload, 1) := dz_46 (n := 0) (r := 16) hz_X12_turn_0 rfl
theorem dX12_turn_17 : decode cX12_turn 17 = .ok (.ifCond .le 5, 3) := dz_158 (n := 0) (r := 17) hz_X12_turn_0 rfl (by decide +kernel)
theorem dX12_turn_20 : decode cX12_turn 20 = .ok (.iconst 0, 1) := dz_3 (n := 0) (r := 20) hz_X12_turn_0 rfl
theorem dX12_turn_21 : decode cX12_turn 21 = .ok (.ireturn, 1) := dz_172 (n := 0) (r := 21) hz_X12_turn_0 rfl
theorem dX12_turn_22 : decode cX12_turn 22 = .ok (.aload_n 0, 1) := dz_42 (n := 0) (r := 22) hz_X12_turn_0 rfl
theorem dX12_turn_23 : decode cX12_turn 23 = .ok (.invokevirtual 244, 3) := dz_182 (n := 0) (r := 23) hz_X12_turn_0 rfl rfl
theorem dX12_turn_26 : decode cX12_turn 26 = .ok (.aload_n 0, 1) := dz_42 (n := 0) (r := 26) hz_X12_turn_0 rfl
theorem dX12_turn_27 : decode cX12_turn 27 = .ok (.getfield 40, 3) := dz_180 (n := 0) (r := 27) hz_X12_turn_0 rfl rfl
theorem dX12_turn_30 : decode cX12_turn 30 = .ok (.bipush 64, 2) := dz_16 (n := 0) (r := 30) hz_X12_turn_0 rfl rfl
theorem hz_X12_turn_32 : (cX12_turn.data.toList.drop 32).take 40 = [92, 46, 4, 27, 120, 130, 79, 4, 172] := by decide +kernel
theorem dX12_turn_32 : decode cX12_turn 32 = .ok (.dup2, 1) := dz_92 (n := 32) (r := 0) hz_X12_turn_32 rfl
theorem dX12_turn_33 : decode cX12_turn 33 = .ok (.iaload, 1) := dz_46 (n := 32) (r := 1) hz_X12_turn_32 rfl
theorem dX12_turn_34 : decode cX12_turn 34 = .ok (.iconst 1, 1) := dz_4 (n := 32) (r := 2) hz_X12_turn_32 rfl
theorem dX12_turn_35 : decode cX12_turn 35 = .ok (.iload_n 1, 1) := dz_27 (n := 32) (r := 3) hz_X12_turn_32 rfl
theorem dX12_turn_36 : decode cX12_turn 36 = .ok (.ishl, 1) := dz_120 (n := 32) (r := 4) hz_X12_turn_32 rfl
theorem dX12_turn_37 : decode cX12_turn 37 = .ok (.ixor, 1) := dz_130 (n := 32) (r := 5) hz_X12_turn_32 rfl
theorem dX12_turn_38 : decode cX12_turn 38 = .ok (.iastore, 1) := dz_79 (n := 32) (r := 6) hz_X12_turn_32 rfl
theorem dX12_turn_39 : decode cX12_turn 39 = .ok (.iconst 1, 1) := dz_4 (n := 32) (r := 7) hz_X12_turn_32 rfl
theorem dX12_turn_40 : decode cX12_turn 40 = .ok (.ireturn, 1) := dz_172 (n := 32) (r := 8) hz_X12_turn_32 rfl
theorem hz_X12_fall_0 : (cX12_fall.data.toList.drop 0).take 40 = [42, 182, 0, 193, 154, 0, 5, 2, 172, 42, 182, 1, 5, 42, 42, 180, 0, 40, 16, 64, 46, 182, 1, 8, 60, 27, 154, 0, 5, 3, 172, 42, 182, 0, 244, 42, 180, 0, 40, 16] := by decide +kernel
theorem dX12_fall_0 : decode cX12_fall 0 = .ok (.aload_n 0, 1) := dz_42 (n := 0) (r := 0) hz_X12_fall_0 rfl
theorem dX12_fall_1 : decode cX12_fall 1 = .ok (.invokevirtual 193, 3) := dz_182 (n := 0) (r := 1) hz_X12_fall_0 rfl rfl
theorem dX12_fall_4 : decode cX12_fall 4 = .ok (.ifCond .ne 5, 3) := dz_154 (n := 0) (r := 4) hz_X12_fall_0 rfl (by decide +kernel)
theorem dX12_fall_7 : decode cX12_fall 7 = .ok (.iconst (-1), 1) := dz_2 (n := 0) (r := 7) hz_X12_fall_0 rfl
theorem dX12_fall_8 : decode cX12_fall 8 = .ok (.ireturn, 1) := dz_172 (n := 0) (r := 8) hz_X12_fall_0 rfl
theorem dX12_fall_9 : decode cX12_fall 9 = .ok (.aload_n 0, 1) := dz_42 (n := 0) (r := 9) hz_X12_fall_0 rfl
theorem dX12_fall_10 : decode cX12_fall 10 = .ok (.invokevirtual 261, 3) := dz_182 (n := 0) (r := 10) hz_X12_fall_0 rfl rfl
theorem dX12_fall_13 : decode cX12_fall 13 = .ok (.aload_n 0, 1) := dz_42 (n := 0) (r := 13) hz_X12_fall_0 rfl
theorem dX12_fall_14 : decode cX12_fall 14 = .ok (.aload_n 0, 1) := dz_42 (n := 0) (r := 14) hz_X12_fall_0 rfl
theorem dX12_fall_15 : decode cX12_fall 15 = .ok (.getfield 40, 3) := dz_180 (n := 0) (r := 15) hz_X12_fall_0 rfl rfl
theorem dX12_fall_18 : decode cX12_fall 18 = .ok (.bipush 64, 2) := dz_16 (n := 0) (r := 18) hz_X12_fall_0 rfl rfl
theorem dX12_fall_20 : decode cX12_fall 20 = .ok (.iaload, 1) := dz_46 (n := 0) (r := 20) hz_X12_fall_0 rfl
theorem dX12_fall_21 : decode cX12_fall 21 = .ok (.invokevirtual 264, 3) := dz_182 (n := 0) (r := 21) hz_X12_fall_0 rfl rfl
theorem dX12_fall_24 : decode cX12_fall 24 = .ok (.istore_n 1, 1) := dz_60 (n := 0) (r := 24) hz_X12_fall_0 rfl
theorem dX12_fall_25 : decode cX12_fall 25 = .ok (.iload_n 1, 1) := dz_27 (n := 0) (r := 25) hz_X12_fall_0 rfl
theorem dX12_fall_26 : decode cX12_fall 26 = .ok (.ifCond .ne 5, 3) := dz_154 (n := 0) (r := 26) hz_X12_fall_0 rfl (by decide +kernel)
theorem dX12_fall_29 : decode cX12_fall 29 = .ok (.iconst 0, 1) := dz_3 (n := 0) (r := 29) hz_X12_fall_0 rfl
theorem dX12_fall_30 : decode cX12_fall 30 = .ok (.ireturn, 1) := dz_172 (n := 0) (r := 30) hz_X12_fall_0 rfl
theorem dX12_fall_31 : decode cX12_fall 31 = .ok (.aload_n 0, 1) := dz_42 (n := 0) (r := 31) hz_X12_fall_0 rfl
theorem hz_X12_fall_32 : (cX12_fall.data.toList.drop 32).take 40 = [182, 0, 244, 42, 180, 0, 40, 16, 64, 42, 42, 180, 0, 40, 16, 64, 46, 182, 1, 11, 79, 27, 172] := by decide +kernel
theorem dX12_fall_32 : decode cX12_fall 32 = .ok (.invokevirtual 244, 3) := dz_182 (n := 32) (r := 0) hz_X12_fall_32 rfl rfl
theorem dX12_fall_35 : decode cX12_fall 35 = .ok (.aload_n 0, 1) := dz_42 (n := 32) (r := 3) hz_X12_fall_32 rfl
theorem dX12_fall_36 : decode cX12_fall 36 = .ok (.getfield 40, 3) := dz_180 (n := 32) (r := 4) hz_X12_fall_32 rfl rfl
theorem dX12_fall_39 : decode cX12_fall 39 = .ok (.bipush 64, 2) := dz_16 (n := 32) (r := 7) hz_X12_fall_32 rfl rfl
theorem dX12_fall_41 : decode cX12_fall 41 = .ok (.aload_n 0, 1) := dz_42 (n := 32) (r := 9) hz_X12_fall_32 rfl
theorem dX12_fall_42 : decode cX12_fall 42 = .ok (.aload_n 0, 1) := dz_42 (n := 32) (r := 10) hz_X12_fall_32 rfl
theorem dX12_fall_43 : decode cX12_fall 43 = .ok (.getfield 40, 3) := dz_180 (n := 32) (r := 11) hz_X12_fall_32 rfl rfl
theorem dX12_fall_46 : decode cX12_fall 46 = .ok (.bipush 64, 2) := dz_16 (n := 32) (r := 14) hz_X12_fall_32 rfl rfl
theorem dX12_fall_48 : decode cX12_fall 48 = .ok (.iaload, 1) := dz_46 (n := 32) (r := 16) hz_X12_fall_32 rfl
theorem dX12_fall_49 : decode cX12_fall 49 = .ok (.invokevirtual 267, 3) := dz_182 (n := 32) (r := 17) hz_X12_fall_32 rfl rfl
theorem dX12_fall_52 : decode cX12_fall 52 = .ok (.iastore, 1) := dz_79 (n := 32) (r := 20) hz_X12_fall_32 rfl
theorem dX12_fall_53 : decode cX12_fall 53 = .ok (.iload_n 1, 1) := dz_27 (n := 32) (r := 21) hz_X12_fall_32 rfl
theorem dX12_fall_54 : decode cX12_fall 54 = .ok (.ireturn, 1) := dz_172 (n := 32) (r := 22) hz_X12_fall_32 rfl
theorem hz_X12_undo_0 : (cX12_undo.data.toList.drop 0).take 40 = [42, 180, 0, 197, 154, 0, 5, 3, 172, 42, 89, 180, 0, 197, 4, 100, 181, 0, 197, 16, 66, 42, 180, 0, 230, 42, 180, 0, 197, 96, 16, 40, 112, 104, 60, 3, 61, 28, 16, 66] := by decide +kernel
theorem dX12_undo_0 : decode cX12_undo 0 = .ok (.aload_n 0, 1) := dz_42 (n := 0) (r := 0) hz_X12_undo_0 rfl
theorem dX12_undo_1 : decode cX12_undo 1 = .ok (.getfield 197, 3) := dz_180 (n := 0) (r := 1) hz_X12_undo_0 rfl rfl
theorem dX12_undo_4 : decode cX12_undo 4 = .ok (.ifCond .ne 5, 3) := dz_154 (n := 0) (r := 4) hz_X12_undo_0 rfl (by decide +kernel)
theorem dX12_undo_7 : decode cX12_undo 7 = .ok (.iconst 0, 1) := dz_3 (n := 0) (r := 7) hz_X12_undo_0 rfl
theorem dX12_undo_8 : decode cX12_undo 8 = .ok (.ireturn, 1) := dz_172 (n := 0) (r := 8) hz_X12_undo_0 rfl
theorem dX12_undo_9 : decode cX12_undo 9 = .ok (.aload_n 0, 1) := dz_42 (n := 0) (r := 9) hz_X12_undo_0 rfl
theorem dX12_undo_10 : decode cX12_undo 10 = .ok (.dup, 1) := dz_89 (n := 0) (r := 10) hz_X12_undo_0 rfl
theorem dX12_undo_11 : decode cX12_undo 11 = .ok (.getfield 197, 3) := dz_180 (n := 0) (r := 11) hz_X12_undo_0 rfl rfl
theorem dX12_undo_14 : decode cX12_undo 14 = .ok (.iconst 1, 1) := dz_4 (n := 0) (r := 14) hz_X12_undo_0 rfl
theorem dX12_undo_15 : decode cX12_undo 15 = .ok (.isub, 1) := dz_100 (n := 0) (r := 15) hz_X12_undo_0 rfl
theorem dX12_undo_16 : decode cX12_undo 16 = .ok (.putfield 197, 3) := dz_181 (n := 0) (r := 16) hz_X12_undo_0 rfl rfl
theorem dX12_undo_19 : decode cX12_undo 19 = .ok (.bipush 66, 2) := dz_16 (n := 0) (r := 19) hz_X12_undo_0 rfl rfl
theorem dX12_undo_21 : decode cX12_undo 21 = .ok (.aload_n 0, 1) := dz_42 (n := 0) (r := 21) hz_X12_undo_0 rfl
theorem dX12_undo_22 : decode cX12_undo 22 = .ok (.getfield 230, 3) := dz_180 (n := 0) (r := 22) hz_X12_undo_0 rfl rfl
theorem dX12_undo_25 : decode cX12_undo 25 = .ok (.aload_n 0, 1) := dz_42 (n := 0) (r := 25) hz_X12_undo_0 rfl
theorem dX12_undo_26 : decode cX12_undo 26 = .ok (.getfield 197, 3) := dz_180 (n := 0) (r := 26) hz_X12_undo_0 rfl rfl
theorem dX12_undo_29 : decode cX12_undo 29 = .ok (.iadd, 1) := dz_96 (n := 0) (r := 29) hz_X12_undo_0 rfl
theorem dX12_undo_30 : decode cX12_undo 30 = .ok (.bipush 40, 2) := dz_16 (n := 0) (r := 30) hz_X12_undo_0 rfl rfl
theorem hz_X12_undo_32 : (cX12_undo.data.toList.drop 32).take 40 = [112, 104, 60, 3, 61, 28, 16, 66, 162, 0, 23, 42, 180, 0, 40, 28, 42, 180, 0, 46, 27, 28, 96, 46, 79, 132, 2, 1, 167, 255, 233, 42, 3, 181, 0, 200, 4, 172] := by decide +kernel
theorem dX12_undo_32 : decode cX12_undo 32 = .ok (.irem, 1) := dz_112 (n := 32) (r := 0) hz_X12_undo_32 rfl
theorem dX12_undo_33 : decode cX12_undo 33 = .ok (.imul, 1) := dz_104 (n := 32) (r := 1) hz_X12_undo_32 rfl
theorem dX12_undo_34 : decode cX12_undo 34 = .ok (.istore_n 1, 1) := dz_60 (n := 32) (r := 2) hz_X12_undo_32 rfl
theorem dX12_undo_35 : decode cX12_undo 35 = .ok (.iconst 0, 1) := dz_3 (n := 32) (r := 3) hz_X12_undo_32 rfl
theorem dX12_undo_36 : decode cX12_undo 36 = .ok (.istore_n 2, 1) := dz_61 (n := 32) (r := 4) hz_X12_undo_32 rfl
theorem dX12_undo_37 : decode cX12_undo 37 = .ok (.iload_n 2, 1) := dz_28 (n := 32) (r := 5) hz_X12_undo_32 rfl
theorem dX12_undo_38 : decode cX12_undo 38 = .ok (.bipush 66, 2) := dz_16 (n := 32) (r := 6) hz_X12_undo_32 rfl rfl
theorem dX12_undo_40 : decode cX12_undo 40 = .ok (.if_icmp .ge 23, 3) := dz_162 (n := 32) (r := 8) hz_X12_undo_32 rfl (by decide +kernel)
theorem dX12_undo_43 : decode cX12_undo 43 = .ok (.aload_n 0, 1) := dz_42 (n := 32) (r := 11) hz_X12_undo_32 rfl
theorem dX12_undo_44 : decode cX12_undo 44 = .ok (.getfield 40, 3) := dz_180 (n := 32) (r := 12) hz_X12_undo_32 rfl rfl
theorem dX12_undo_47 : decode cX12_undo 47 = .ok (.iload_n 2, 1) := dz_28 (n := 32) (r := 15) hz_X12_undo_32 rfl
theorem dX12_undo_48 : decode cX12_undo 48 = .ok (.aload_n 0, 1) := dz_42 (n := 32) (r := 16) hz_X12_undo_32 rfl
theorem dX12_undo_49 : decode cX12_undo 49 = .ok (.getfield 46, 3) := dz_180 (n := 32) (r := 17) hz_X12_undo_32 rfl rfl
theorem dX12_undo_52 : decode cX12_undo 52 = .ok (.iload_n 1, 1) := dz_27 (n := 32) (r := 20) hz_X12_undo_32 rfl
theorem dX12_undo_53 : decode cX12_undo 53 = .ok (.iload_n 2, 1) := dz_28 (n := 32) (r := 21) hz_X12_undo_32 rfl
theorem dX12_undo_54 : decode cX12_undo 54 = .ok (.iadd, 1) := dz_96 (n := 32) (r := 22) hz_X12_undo_32 rfl
theorem dX12_undo_55 : decode cX12_undo 55 = .ok (.iaload, 1) := dz_46 (n := 32) (r := 23) hz_X12_undo_32 rfl
theorem dX12_undo_56 : decode cX12_undo 56 = .ok (.iastore, 1) := dz_79 (n := 32) (r := 24) hz_X12_undo_32 rfl
theorem dX12_undo_57 : decode cX12_undo 57 = .ok (.iinc 2 1, 3) := dz_132 (n := 32) (r := 25) hz_X12_undo_32 rfl rfl rfl
theorem dX12_undo_60 : decode cX12_undo 60 = .ok (.goto (-23), 3) := dz_167 (n := 32) (r := 28) hz_X12_undo_32 rfl (by decide +kernel)
theorem dX12_undo_63 : decode cX12_undo 63 = .ok (.aload_n 0, 1) := dz_42 (n := 32) (r := 31) hz_X12_undo_32 rfl
theorem hz_X12_undo_64 : (cX12_undo.data.toList.drop 64).take 40 = [3, 181, 0, 200, 4, 172] := by decide +kernel
theorem dX12_undo_64 : decode cX12_undo 64 = .ok (.iconst 0, 1) := dz_3 (n := 64) (r := 0) hz_X12_undo_64 rfl
theorem dX12_undo_65 : decode cX12_undo 65 = .ok (.putfield 200, 3) := dz_181 (n := 64) (r := 1) hz_X12_undo_64 rfl rfl
theorem dX12_undo_68 : decode cX12_undo 68 = .ok (.iconst 1, 1) := dz_4 (n := 64) (r := 4) hz_X12_undo_64 rfl
theorem dX12_undo_69 : decode cX12_undo 69 = .ok (.ireturn, 1) := dz_172 (n := 64) (r := 5) hz_X12_undo_64 rfl
theorem hz_X12_hold_0 : (cX12_hold.data.toList.drop 0).take 40 = [27, 3, 5, 184, 0, 213, 154, 0, 5, 3, 172, 3, 61, 28, 16, 66, 162, 0, 26, 42, 180, 0, 49, 16, 66, 27, 104, 28, 96, 42, 180, 0, 40, 28, 46, 79, 132, 2, 1, 167] := by decide +kernel
theorem dX12_hold_0 : decode cX12_hold 0 = .ok (.iload_n 1, 1) := dz_27 (n := 0) (r := 0) hz_X12_hold_0 rfl
theorem dX12_hold_1 : decode cX12_hold 1 = .ok (.iconst 0, 1) := dz_3 (n := 0) (r := 1) hz_X12_hold_0 rfl
theorem dX12_hold_2 : decode cX12_hold 2 = .ok (.iconst 2, 1) := dz_5 (n := 0) (r := 2) hz_X12_hold_0 rfl
theorem dX12_hold_3 : decode cX12_hold 3 = .ok (.invokestatic 213, 3) := dz_184 (n := 0) (r := 3) hz_X12_hold_0 rfl rfl
theorem dX12_hold_6 : decode cX12_hold 6 = .ok (.ifCond .ne 5, 3) := dz_154 (n := 0) (r := 6) hz_X12_hold_0 rfl (by decide +kernel)
theorem dX12_hold_9 : decode cX12_hold 9 = .ok (.iconst 0, 1) := dz_3 (n := 0) (r := 9) hz_X12_hold_0 rfl
theorem dX12_hold_10 : decode cX12_hold 10 = .ok (.ireturn, 1) := dz_172 (n := 0) (r := 10) hz_X12_hold_0 rfl
theorem dX12_hold_11 : decode cX12_hold 11 = .ok (.iconst 0, 1) := dz_3 (n := 0) (r := 11) hz_X12_hold_0 rfl
theorem dX12_hold_12 : decode cX12_hold 12 = .ok (.istore_n 2, 1) := dz_61 (n := 0) (r := 12) hz_X12_hold_0 rfl
theorem dX12_hold_13 : decode cX12_hold 13 = .ok (.iload_n 2, 1) := dz_28 (n := 0) (r := 13) hz_X12_hold_0 rfl
theorem dX12_hold_14 : decode cX12_hold 14 = .ok (.bipush 66, 2) := dz_16 (n := 0) (r := 14) hz_X12_hold_0 rfl rfl
theorem dX12_hold_16 : decode cX12_hold 16 = .ok (.if_icmp .ge 26, 3) := dz_162 (n := 0) (r := 16) hz_X12_hold_0 rfl (by decide +kernel)
theorem dX12_hold_19 : decode cX12_hold 19 = .ok (.aload_n 0, 1) := dz_42 (n := 0) (r := 19) hz_X12_hold_0 rfl
theorem dX12_hold_20 : decode cX12_hold 20 = .ok (.getfield 49, 3) := dz_180 (n := 0) (r := 20) hz_X12_hold_0 rfl rfl
theorem dX12_hold_23 : decode cX12_hold 23 = .ok (.bipush 66, 2) := dz_16 (n := 0) (r := 23) hz_X12_hold_0 rfl rfl
theorem dX12_hold_25 : decode cX12_hold 25 = .ok (.iload_n 1, 1) := dz_27 (n := 0) (r := 25) hz_X12_hold_0 rfl
theorem dX12_hold_26 : decode cX12_hold 26 = .ok (.imul, 1) := dz_104 (n := 0) (r := 26) hz_X12_hold_0 rfl
theorem dX12_hold_27 : decode cX12_hold 27 = .ok (.iload_n 2, 1) := dz_28 (n := 0) (r := 27) hz_X12_hold_0 rfl
theorem dX12_hold_28 : decode cX12_hold 28 = .ok (.iadd, 1) := dz_96 (n := 0) (r := 28) hz_X12_hold_0 rfl
theorem dX12_hold_29 : decode cX12_hold 29 = .ok (.aload_n 0, 1) := dz_42 (n := 0) (r := 29) hz_X12_hold_0 rfl
theorem dX12_hold_30 : decode cX12_hold 30 = .ok (.getfield 40, 3) := dz_180 (n := 0) (r := 30) hz_X12_hold_0 rfl rfl
theorem hz_X12_hold_32 : (cX12_hold.data.toList.drop 32).take 40 = [40, 28, 46, 79, 132, 2, 1, 167, 255, 230, 42, 180, 0, 52, 27, 4, 84, 4, 172] := by decide +kernel
theorem dX12_hold_33 : decode cX12_hold 33 = .ok (.iload_n 2, 1) := dz_28 (n := 32) (r := 1) hz_X12_hold_32 rfl
theorem dX12_hold_34 : decode cX12_hold 34 = .ok (.iaload, 1) := dz_46 (n := 32) (r := 2) hz_X12_hold_32 rfl
theorem dX12_hold_35 : decode cX12_hold 35 = .ok (.iastore, 1) := dz_79 (n := 32) (r := 3) hz_X12_hold_32 rfl
theorem dX12_hold_36 : decode cX12_hold 36 = .ok (.iinc 2 1, 3) := dz_132 (n := 32) (r := 4) hz_X12_hold_32 rfl rfl rfl
theorem dX12_hold_39 : decode cX12_hold 39 = .ok (.goto (-26), 3) := dz_167 (n := 32) (r := 7) hz_X12_hold_32 rfl (by decide +kernel)
theorem dX12_hold_42 : decode cX12_hold 42 = .ok (.aload_n 0, 1) := dz_42 (n := 32) (r := 10) hz_X12_hold_32 rfl
theorem dX12_hold_43 : decode cX12_hold 43 = .ok (.getfield 52, 3) := dz_180 (n := 32) (r := 11) hz_X12_hold_32 rfl rfl
theorem dX12_hold_46 : decode cX12_hold 46 = .ok (.iload_n 1, 1) := dz_27 (n := 32) (r := 14) hz_X12_hold_32 rfl
theorem dX12_hold_47 : decode cX12_hold 47 = .ok (.iconst 1, 1) := dz_4 (n := 32) (r := 15) hz_X12_hold_32 rfl
theorem dX12_hold_48 : decode cX12_hold 48 = .ok (.bastore, 1) := dz_84 (n := 32) (r := 16) hz_X12_hold_32 rfl
theorem dX12_hold_49 : decode cX12_hold 49 = .ok (.iconst 1, 1) := dz_4 (n := 32) (r := 17) hz_X12_hold_32 rfl
theorem dX12_hold_50 : decode cX12_hold 50 = .ok (.ireturn, 1) := dz_172 (n := 32) (r := 18) hz_X12_hold_32 rfl
theorem hz_X12_restore_0 : (cX12_restore.data.toList.drop 0).take 40 = [27, 3, 5, 184, 0, 213, 153, 0, 12, 42, 180, 0, 52, 27, 51, 154, 0, 5, 3, 172, 3, 61, 28, 16, 66, 162, 0, 26, 42, 180, 0, 40, 28, 42, 180, 0, 49, 16, 66, 27] := by decide +kernel
theorem dX12_restore_0 : decode cX12_restore 0 = .ok (.iload_n 1, 1) := dz_27 (n := 0) (r := 0) hz_X12_restore_0 rfl
theorem dX12_restore_1 : decode cX12_restore 1 = .ok (.iconst 0, 1) := dz_3 (n := 0) (r := 1) hz_X12_restore_0 rfl
theorem dX12_restore_2 : decode cX12_restore 2 = .ok (.iconst 2, 1) := dz_5 (n := 0) (r := 2) hz_X12_restore_0 rfl
theorem dX12_restore_3 : decode cX12_restore 3 = .ok (.invokestatic 213, 3) := dz_184 (n := 0) (r := 3) hz_X12_restore_0 rfl rfl
theorem dX12_restore_6 : decode cX12_restore 6 = .ok (.ifCond .eq 12, 3) := dz_153 (n := 0) (r := 6) hz_X12_restore_0 rfl (by decide +kernel)
theorem dX12_restore_9 : decode cX12_restore 9 = .ok (.aload_n 0, 1) := dz_42 (n := 0) (r := 9) hz_X12_restore_0 rfl
theorem dX12_restore_10 : decode cX12_restore 10 = .ok (.getfield 52, 3) := dz_180 (n := 0) (r := 10) hz_X12_restore_0 rfl rfl
theorem dX12_restore_13 : decode cX12_restore 13 = .ok (.iload_n 1, 1) := dz_27 (n := 0) (r := 13) hz_X12_restore_0 rfl
theorem dX12_restore_14 : decode cX12_restore 14 = .ok (.baload, 1) := dz_51 (n := 0) (r := 14) hz_X12_restore_0 rfl
theorem dX12_restore_15 : decode cX12_restore 15 = .ok (.ifCond .ne 5, 3) := dz_154 (n := 0) (r := 15) hz_X12_restore_0 rfl (by decide +kernel)
theorem dX12_restore_18 : decode cX12_restore 18 = .ok (.iconst 0, 1) := dz_3 (n := 0) (r := 18) hz_X12_restore_0 rfl
theorem dX12_restore_19 : decode cX12_restore 19 = .ok (.ireturn, 1) := dz_172 (n := 0) (r := 19) hz_X12_restore_0 rfl
theorem dX12_restore_20 : decode cX12_restore 20 = .ok (.iconst 0, 1) := dz_3 (n := 0) (r := 20) hz_X12_restore_0 rfl
theorem dX12_restore_21 : decode cX12_restore 21 = .ok (.istore_n 2, 1) := dz_61 (n := 0) (r := 21) hz_X12_restore_0 rfl
theorem dX12_restore_22 : decode cX12_restore 22 = .ok (.iload_n 2, 1) := dz_28 (n := 0) (r := 22) hz_X12_restore_0 rfl
theorem dX12_restore_23 : decode cX12_restore 23 = .ok (.bipush 66, 2) := dz_16 (n := 0) (r := 23) hz_X12_restore_0 rfl rfl
theorem dX12_restore_25 : decode cX12_restore 25 = .ok (.if_icmp .ge 26, 3) := dz_162 (n := 0) (r := 25) hz_X12_restore_0 rfl (by decide +kernel)
theorem dX12_restore_28 : decode cX12_restore 28 = .ok (.aload_n 0, 1) := dz_42 (n := 0) (r := 28) hz_X12_restore_0 rfl
theorem dX12_restore_29 : decode cX12_restore 29 = .ok (.getfield 40, 3) := dz_180 (n := 0) (r := 29) hz_X12_restore_0 rfl rfl
theorem hz_X12_restore_32 : (cX12_restore.data.toList.drop 32).take 40 = [28, 42, 180, 0, 49, 16, 66, 27, 104, 28, 96, 46, 79, 132, 2, 1, 167, 255, 230, 42, 3, 181, 0, 197, 42, 3, 181, 0, 200, 4, 172] := by decide +kernel
theorem dX12_restore_32 : decode cX12_restore 32 = .ok (.iload_n 2, 1) := dz_28 (n := 32) (r := 0) hz_X12_restore_32 rfl
theorem dX12_restore_33 : decode cX12_restore 33 = .ok (.aload_n 0, 1) := dz_42 (n := 32) (r := 1) hz_X12_restore_32 rfl
theorem dX12_restore_34 : decode cX12_restore 34 = .ok (.getfield 49, 3) := dz_180 (n := 32) (r := 2) hz_X12_restore_32 rfl rfl
theorem dX12_restore_37 : decode cX12_restore 37 = .ok (.bipush 66, 2) := dz_16 (n := 32) (r := 5) hz_X12_restore_32 rfl rfl
theorem dX12_restore_39 : decode cX12_restore 39 = .ok (.iload_n 1, 1) := dz_27 (n := 32) (r := 7) hz_X12_restore_32 rfl
theorem dX12_restore_40 : decode cX12_restore 40 = .ok (.imul, 1) := dz_104 (n := 32) (r := 8) hz_X12_restore_32 rfl
theorem dX12_restore_41 : decode cX12_restore 41 = .ok (.iload_n 2, 1) := dz_28 (n := 32) (r := 9) hz_X12_restore_32 rfl
theorem dX12_restore_42 : decode cX12_restore 42 = .ok (.iadd, 1) := dz_96 (n := 32) (r := 10) hz_X12_restore_32 rfl
theorem dX12_restore_43 : decode cX12_restore 43 = .ok (.iaload, 1) := dz_46 (n := 32) (r := 11) hz_X12_restore_32 rfl
theorem dX12_restore_44 : decode cX12_restore 44 = .ok (.iastore, 1) := dz_79 (n := 32) (r := 12) hz_X12_restore_32 rfl
theorem dX12_restore_45 : decode cX12_restore 45 = .ok (.iinc 2 1, 3) := dz_132 (n := 32) (r := 13) hz_X12_restore_32 rfl rfl rfl
theorem dX12_restore_48 : decode cX12_restore 48 = .ok (.goto (-26), 3) := dz_167 (n := 32) (r := 16) hz_X12_restore_32 rfl (by decide +kernel)
theorem dX12_restore_51 : decode cX12_restore 51 = .ok (.aload_n 0, 1) := dz_42 (n := 32) (r := 19) hz_X12_restore_32 rfl
theorem dX12_restore_52 : decode cX12_restore 52 = .ok (.iconst 0, 1) := dz_3 (n := 32) (r := 20) hz_X12_restore_32 rfl
theorem dX12_restore_53 : decode cX12_restore 53 = .ok (.putfield 197, 3) := dz_181 (n := 32) (r := 21) hz_X12_restore_32 rfl rfl
theorem dX12_restore_56 : decode cX12_restore 56 = .ok (.aload_n 0, 1) := dz_42 (n := 32) (r := 24) hz_X12_restore_32 rfl
theorem dX12_restore_57 : decode cX12_restore 57 = .ok (.iconst 0, 1) := dz_3 (n := 32) (r := 25) hz_X12_restore_32 rfl
theorem dX12_restore_58 : decode cX12_restore 58 = .ok (.putfield 200, 3) := dz_181 (n := 32) (r := 26) hz_X12_restore_32 rfl rfl
theorem dX12_restore_61 : decode cX12_restore 61 = .ok (.iconst 1, 1) := dz_4 (n := 32) (r := 29) hz_X12_restore_32 rfl
theorem dX12_restore_62 : decode cX12_restore 62 = .ok (.ireturn, 1) := dz_172 (n := 32) (r := 30) hz_X12_restore_32 rfl
theorem hz_X12_energy_0 : (cX12_energy.data.toList.drop 0).take 40 = [3, 54, 4, 3, 54, 5, 21, 5, 42, 180, 0, 171, 29, 104, 162, 0, 169, 28, 21, 5, 122, 4, 126, 54, 6, 21, 4, 21, 6, 4, 160, 0, 14, 43, 16, 32, 21, 5, 96, 46] := by decide +kernel
theorem dX12_energy_0 : decode cX12_energy 0 = .ok (.iconst 0, 1) := dz_3 (n := 0) (r := 0) hz_X12_energy_0 rfl
theorem dX12_energy_1 : decode cX12_energy 1 = .ok (.istore 4, 2) := dz_54 (n := 0) (r := 1) hz_X12_energy_0 rfl rfl
theorem dX12_energy_3 : decode cX12_energy 3 = .ok (.iconst 0, 1) := dz_3 (n := 0) (r := 3) hz_X12_energy_0 rfl
theorem dX12_energy_4 : decode cX12_energy 4 = .ok (.istore 5, 2) := dz_54 (n := 0) (r := 4) hz_X12_energy_0 rfl rfl
theorem dX12_energy_6 : decode cX12_energy 6 = .ok (.iload 5, 2) := dz_21 (n := 0) (r := 6) hz_X12_energy_0 rfl rfl
theorem dX12_energy_8 : decode cX12_energy 8 = .ok (.aload_n 0, 1) := dz_42 (n := 0) (r := 8) hz_X12_energy_0 rfl
theorem dX12_energy_9 : decode cX12_energy 9 = .ok (.getfield 171, 3) := dz_180 (n := 0) (r := 9) hz_X12_energy_0 rfl rfl
theorem dX12_energy_12 : decode cX12_energy 12 = .ok (.iload_n 3, 1) := dz_29 (n := 0) (r := 12) hz_X12_energy_0 rfl
theorem dX12_energy_13 : decode cX12_energy 13 = .ok (.imul, 1) := dz_104 (n := 0) (r := 13) hz_X12_energy_0 rfl
theorem dX12_energy_14 : decode cX12_energy 14 = .ok (.if_icmp .ge 169, 3) := dz_162 (n := 0) (r := 14) hz_X12_energy_0 rfl (by decide +kernel)
theorem dX12_energy_17 : decode cX12_energy 17 = .ok (.iload_n 2, 1) := dz_28 (n := 0) (r := 17) hz_X12_energy_0 rfl
theorem dX12_energy_18 : decode cX12_energy 18 = .ok (.iload 5, 2) := dz_21 (n := 0) (r := 18) hz_X12_energy_0 rfl rfl
theorem dX12_energy_20 : decode cX12_energy 20 = .ok (.ishr, 1) := dz_122 (n := 0) (r := 20) hz_X12_energy_0 rfl
theorem dX12_energy_21 : decode cX12_energy 21 = .ok (.iconst 1, 1) := dz_4 (n := 0) (r := 21) hz_X12_energy_0 rfl
theorem dX12_energy_22 : decode cX12_energy 22 = .ok (.iand, 1) := dz_126 (n := 0) (r := 22) hz_X12_energy_0 rfl
theorem dX12_energy_23 : decode cX12_energy 23 = .ok (.istore 6, 2) := dz_54 (n := 0) (r := 23) hz_X12_energy_0 rfl rfl
theorem dX12_energy_25 : decode cX12_energy 25 = .ok (.iload 4, 2) := dz_21 (n := 0) (r := 25) hz_X12_energy_0 rfl rfl
theorem dX12_energy_27 : decode cX12_energy 27 = .ok (.iload 6, 2) := dz_21 (n := 0) (r := 27) hz_X12_energy_0 rfl rfl
theorem dX12_energy_29 : decode cX12_energy 29 = .ok (.iconst 1, 1) := dz_4 (n := 0) (r := 29) hz_X12_energy_0 rfl
theorem dX12_energy_30 : decode cX12_energy 30 = .ok (.if_icmp .ne 14, 3) := dz_160 (n := 0) (r := 30) hz_X12_energy_0 rfl (by decide +kernel)
theorem hz_X12_energy_32 : (cX12_energy.data.toList.drop 32).take 40 = [14, 43, 16, 32, 21, 5, 96, 46, 116, 167, 0, 10, 43, 16, 32, 21, 5, 96, 46, 96, 54, 4, 42, 21, 5, 3, 182, 0, 236, 54, 7, 21, 7, 155, 0, 35, 21, 4, 28, 21] := by decide +kernel
theorem dX12_energy_33 : decode cX12_energy 33 = .ok (.aload_n 1, 1) := dz_43 (n := 32) (r := 1) hz_X12_energy_32 rfl
theorem dX12_energy_34 : decode cX12_energy 34 = .ok (.bipush 32, 2) := dz_16 (n := 32) (r := 2) hz_X12_energy_32 rfl rfl
theorem dX12_energy_36 : decode cX12_energy 36 = .ok (.iload 5, 2) := dz_21 (n := 32) (r := 4) hz_X12_energy_32 rfl rfl
theorem dX12_energy_38 : decode cX12_energy 38 = .ok (.iadd, 1) := dz_96 (n := 32) (r := 6) hz_X12_energy_32 rfl
theorem dX12_energy_39 : decode cX12_energy 39 = .ok (.iaload, 1) := dz_46 (n := 32) (r := 7) hz_X12_energy_32 rfl
theorem dX12_energy_40 : decode cX12_energy 40 = .ok (.ineg, 1) := dz_116 (n := 32) (r := 8) hz_X12_energy_32 rfl
theorem dX12_energy_41 : decode cX12_energy 41 = .ok (.goto 10, 3) := dz_167 (n := 32) (r := 9) hz_X12_energy_32 rfl (by decide +kernel)
theorem dX12_energy_44 : decode cX12_energy 44 = .ok (.aload_n 1, 1) := dz_43 (n := 32) (r := 12) hz_X12_energy_32 rfl
theorem dX12_energy_45 : decode cX12_energy 45 = .ok (.bipush 32, 2) := dz_16 (n := 32) (r := 13) hz_X12_energy_32 rfl rfl
theorem dX12_energy_47 : decode cX12_energy 47 = .ok (.iload 5, 2) := dz_21 (n := 32) (r := 15) hz_X12_energy_32 rfl rfl
theorem dX12_energy_49 : decode cX12_energy 49 = .ok (.iadd, 1) := dz_96 (n := 32) (r := 17) hz_X12_energy_32 rfl
theorem dX12_energy_50 : decode cX12_energy 50 = .ok (.iaload, 1) := dz_46 (n := 32) (r := 18) hz_X12_energy_32 rfl
theorem dX12_energy_51 : decode cX12_energy 51 = .ok (.iadd, 1) := dz_96 (n := 32) (r := 19) hz_X12_energy_32 rfl
theorem dX12_energy_52 : decode cX12_energy 52 = .ok (.istore 4, 2) := dz_54 (n := 32) (r := 20) hz_X12_energy_32 rfl rfl
theorem dX12_energy_54 : decode cX12_energy 54 = .ok (.aload_n 0, 1) := dz_42 (n := 32) (r := 22) hz_X12_energy_32 rfl
theorem dX12_energy_55 : decode cX12_energy 55 = .ok (.iload 5, 2) := dz_21 (n := 32) (r := 23) hz_X12_energy_32 rfl rfl
theorem dX12_energy_57 : decode cX12_energy 57 = .ok (.iconst 0, 1) := dz_3 (n := 32) (r := 25) hz_X12_energy_32 rfl
theorem dX12_energy_58 : decode cX12_energy 58 = .ok (.invokevirtual 236, 3) := dz_182 (n := 32) (r := 26) hz_X12_energy_32 rfl rfl
theorem dX12_energy_61 : decode cX12_energy 61 = .ok (.istore 7, 2) := dz_54 (n := 32) (r := 29) hz_X12_energy_32 rfl rfl
theorem dX12_energy_63 : decode cX12_energy 63 = .ok (.iload 7, 2) := dz_21 (n := 32) (r := 31) hz_X12_energy_32 rfl rfl
theorem hz_X12_energy_64 : (cX12_energy.data.toList.drop 64).take 40 = [7, 155, 0, 35, 21, 4, 28, 21, 7, 122, 4, 126, 21, 6, 160, 0, 13, 43, 3, 21, 5, 96, 46, 116, 167, 0, 9, 43, 3, 21, 5, 96, 46, 96, 54, 4, 42, 21, 5, 4] := by decide +kernel
theorem dX12_energy_65 : decode cX12_energy 65 = .ok (.ifCond .lt 35, 3) := dz_155 (n := 64) (r := 1) hz_X12_energy_64 rfl (by decide +kernel)
theorem dX12_energy_68 : decode cX12_energy 68 = .ok (.iload 4, 2) := dz_21 (n := 64) (r := 4) hz_X12_energy_64 rfl rfl
theorem dX12_energy_70 : decode cX12_energy 70 = .ok (.iload_n 2, 1) := dz_28 (n := 64) (r := 6) hz_X12_energy_64 rfl
theorem dX12_energy_71 : decode cX12_energy 71 = .ok (.iload 7, 2) := dz_21 (n := 64) (r := 7) hz_X12_energy_64 rfl rfl
theorem dX12_energy_73 : decode cX12_energy 73 = .ok (.ishr, 1) := dz_122 (n := 64) (r := 9) hz_X12_energy_64 rfl
theorem dX12_energy_74 : decode cX12_energy 74 = .ok (.iconst 1, 1) := dz_4 (n := 64) (r := 10) hz_X12_energy_64 rfl
theorem dX12_energy_75 : decode cX12_energy 75 = .ok (.iand, 1) := dz_126 (n := 64) (r := 11) hz_X12_energy_64 rfl
theorem dX12_energy_76 : decode cX12_energy 76 = .ok (.iload 6, 2) := dz_21 (n := 64) (r := 12) hz_X12_energy_64 rfl rfl
theorem dX12_energy_78 : decode cX12_energy 78 = .ok (.if_icmp .ne 13, 3) := dz_160 (n := 64) (r := 14) hz_X12_energy_64 rfl (by decide +kernel)
theorem dX12_energy_81 : decode cX12_energy 81 = .ok (.aload_n 1, 1) := dz_43 (n := 64) (r := 17) hz_X12_energy_64 rfl
theorem dX12_energy_82 : decode cX12_energy 82 = .ok (.iconst 0, 1) := dz_3 (n := 64) (r := 18) hz_X12_energy_64 rfl
theorem dX12_energy_83 : decode cX12_energy 83 = .ok (.iload 5, 2) := dz_21 (n := 64) (r := 19) hz_X12_energy_64 rfl rfl
theorem dX12_energy_85 : decode cX12_energy 85 = .ok (.iadd, 1) := dz_96 (n := 64) (r := 21) hz_X12_energy_64 rfl
theorem dX12_energy_86 : decode cX12_energy 86 = .ok (.iaload, 1) := dz_46 (n := 64) (r := 22) hz_X12_energy_64 rfl
theorem dX12_energy_87 : decode cX12_energy 87 = .ok (.ineg, 1) := dz_116 (n := 64) (r := 23) hz_X12_energy_64 rfl
theorem dX12_energy_88 : decode cX12_energy 88 = .ok (.goto 9, 3) := dz_167 (n := 64) (r := 24) hz_X12_energy_64 rfl (by decide +kernel)
theorem dX12_energy_91 : decode cX12_energy 91 = .ok (.aload_n 1, 1) := dz_43 (n := 64) (r := 27) hz_X12_energy_64 rfl
theorem dX12_energy_92 : decode cX12_energy 92 = .ok (.iconst 0, 1) := dz_3 (n := 64) (r := 28) hz_X12_energy_64 rfl
theorem dX12_energy_93 : decode cX12_energy 93 = .ok (.iload 5, 2) := dz_21 (n := 64) (r := 29) hz_X12_energy_64 rfl rfl
theorem dX12_energy_95 : decode cX12_energy 95 = .ok (.iadd, 1) := dz_96 (n := 64) (r := 31) hz_X12_energy_64 rfl
theorem hz_X12_energy_96 : (cX12_energy.data.toList.drop 96).take 40 = [46, 96, 54, 4, 42, 21, 5, 4, 182, 0, 236, 54, 7, 21, 7, 155, 0, 66, 21, 7, 21, 5, 164, 0, 17, 21, 7, 42, 180, 0, 171, 29, 104, 162, 0, 48, 167, 0, 11, 29] := by decide +kernel
theorem dX12_energy_96 : decode cX12_energy 96 = .ok (.iaload, 1) := dz_46 (n := 96) (r := 0) hz_X12_energy_96 rfl
theorem dX12_energy_97 : decode cX12_energy 97 = .ok (.iadd, 1) := dz_96 (n := 96) (r := 1) hz_X12_energy_96 rfl
theorem dX12_energy_98 : decode cX12_energy 98 = .ok (.istore 4, 2) := dz_54 (n := 96) (r := 2) hz_X12_energy_96 rfl rfl
theorem dX12_energy_100 : decode cX12_energy 100 = .ok (.aload_n 0, 1) := dz_42 (n := 96) (r := 4) hz_X12_energy_96 rfl
theorem dX12_energy_101 : decode cX12_energy 101 = .ok (.iload 5, 2) := dz_21 (n := 96) (r := 5) hz_X12_energy_96 rfl rfl
theorem dX12_energy_103 : decode cX12_energy 103 = .ok (.iconst 1, 1) := dz_4 (n := 96) (r := 7) hz_X12_energy_96 rfl
theorem dX12_energy_104 : decode cX12_energy 104 = .ok (.invokevirtual 236, 3) := dz_182 (n := 96) (r := 8) hz_X12_energy_96 rfl rfl
theorem dX12_energy_107 : decode cX12_energy 107 = .ok (.istore 7, 2) := dz_54 (n := 96) (r := 11) hz_X12_energy_96 rfl rfl
theorem dX12_energy_109 : decode cX12_energy 109 = .ok (.iload 7, 2) := dz_21 (n := 96) (r := 13) hz_X12_energy_96 rfl rfl
theorem dX12_energy_111 : decode cX12_energy 111 = .ok (.ifCond .lt 66, 3) := dz_155 (n := 96) (r := 15) hz_X12_energy_96 rfl (by decide +kernel)
theorem dX12_energy_114 : decode cX12_energy 114 = .ok (.iload 7, 2) := dz_21 (n := 96) (r := 18) hz_X12_energy_96 rfl rfl
theorem dX12_energy_116 : decode cX12_energy 116 = .ok (.iload 5, 2) := dz_21 (n := 96) (r := 20) hz_X12_energy_96 rfl rfl
theorem dX12_energy_118 : decode cX12_energy 118 = .ok (.if_icmp .le 17, 3) := dz_164 (n := 96) (r := 22) hz_X12_energy_96 rfl (by decide +kernel)
theorem dX12_energy_121 : decode cX12_energy 121 = .ok (.iload 7, 2) := dz_21 (n := 96) (r := 25) hz_X12_energy_96 rfl rfl
theorem dX12_energy_123 : decode cX12_energy 123 = .ok (.aload_n 0, 1) := dz_42 (n := 96) (r := 27) hz_X12_energy_96 rfl
theorem dX12_energy_124 : decode cX12_energy 124 = .ok (.getfield 171, 3) := dz_180 (n := 96) (r := 28) hz_X12_energy_96 rfl rfl
theorem dX12_energy_127 : decode cX12_energy 127 = .ok (.iload_n 3, 1) := dz_29 (n := 96) (r := 31) hz_X12_energy_96 rfl
theorem hz_X12_energy_128 : (cX12_energy.data.toList.drop 128).take 40 = [104, 162, 0, 48, 167, 0, 11, 29, 42, 180, 0, 177, 160, 0, 37, 21, 4, 28, 21, 7, 122, 4, 126, 21, 6, 160, 0, 14, 43, 16, 16, 21, 5, 96, 46, 116, 167, 0, 10, 43] := by decide +kernel
theorem dX12_energy_128 : decode cX12_energy 128 = .ok (.imul, 1) := dz_104 (n := 128) (r := 0) hz_X12_energy_128 rfl
theorem dX12_energy_129 : decode cX12_energy 129 = .ok (.if_icmp .ge 48, 3) := dz_162 (n := 128) (r := 1) hz_X12_energy_128 rfl (by decide +kernel)
theorem dX12_energy_132 : decode cX12_energy 132 = .ok (.goto 11, 3) := dz_167 (n := 128) (r := 4) hz_X12_energy_128 rfl (by decide +kernel)
theorem dX12_energy_135 : decode cX12_energy 135 = .ok (.iload_n 3, 1) := dz_29 (n := 128) (r := 7) hz_X12_energy_128 rfl
theorem dX12_energy_136 : decode cX12_energy 136 = .ok (.aload_n 0, 1) := dz_42 (n := 128) (r := 8) hz_X12_energy_128 rfl
theorem dX12_energy_137 : decode cX12_energy 137 = .ok (.getfield 177, 3) := dz_180 (n := 128) (r := 9) hz_X12_energy_128 rfl rfl
theorem dX12_energy_140 : decode cX12_energy 140 = .ok (.if_icmp .ne 37, 3) := dz_160 (n := 128) (r := 12) hz_X12_energy_128 rfl (by decide +kernel)
theorem dX12_energy_143 : decode cX12_energy 143 = .ok (.iload 4, 2) := dz_21 (n := 128) (r := 15) hz_X12_energy_128 rfl rfl
theorem dX12_energy_145 : decode cX12_energy 145 = .ok (.iload_n 2, 1) := dz_28 (n := 128) (r := 17) hz_X12_energy_128 rfl
theorem dX12_energy_146 : decode cX12_energy 146 = .ok (.iload 7, 2) := dz_21 (n := 128) (r := 18) hz_X12_energy_128 rfl rfl
theorem dX12_energy_148 : decode cX12_energy 148 = .ok (.ishr, 1) := dz_122 (n := 128) (r := 20) hz_X12_energy_128 rfl
theorem dX12_energy_149 : decode cX12_energy 149 = .ok (.iconst 1, 1) := dz_4 (n := 128) (r := 21) hz_X12_energy_128 rfl
theorem dX12_energy_150 : decode cX12_energy 150 = .ok (.iand, 1) := dz_126 (n := 128) (r := 22) hz_X12_energy_128 rfl
theorem dX12_energy_151 : decode cX12_energy 151 = .ok (.iload 6, 2) := dz_21 (n := 128) (r := 23) hz_X12_energy_128 rfl rfl
theorem dX12_energy_153 : decode cX12_energy 153 = .ok (.if_icmp .ne 14, 3) := dz_160 (n := 128) (r := 25) hz_X12_energy_128 rfl (by decide +kernel)
theorem dX12_energy_156 : decode cX12_energy 156 = .ok (.aload_n 1, 1) := dz_43 (n := 128) (r := 28) hz_X12_energy_128 rfl
theorem dX12_energy_157 : decode cX12_energy 157 = .ok (.bipush 16, 2) := dz_16 (n := 128) (r := 29) hz_X12_energy_128 rfl rfl
theorem dX12_energy_159 : decode cX12_energy 159 = .ok (.iload 5, 2) := dz_21 (n := 128) (r := 31) hz_X12_energy_128 rfl rfl
theorem hz_X12_energy_160 : (cX12_energy.data.toList.drop 160).take 40 = [5, 96, 46, 116, 167, 0, 10, 43, 16, 16, 21, 5, 96, 46, 96, 54, 4, 132, 5, 1, 167, 255, 82, 21, 4, 172] := by decide +kernel
theorem dX12_energy_161 : decode cX12_energy 161 = .ok (.iadd, 1) := dz_96 (n := 160) (r := 1) hz_X12_energy_160 rfl
theorem dX12_energy_162 : decode cX12_energy 162 = .ok (.iaload, 1) := dz_46 (n := 160) (r := 2) hz_X12_energy_160 rfl
theorem dX12_energy_163 : decode cX12_energy 163 = .ok (.ineg, 1) := dz_116 (n := 160) (r := 3) hz_X12_energy_160 rfl
theorem dX12_energy_164 : decode cX12_energy 164 = .ok (.goto 10, 3) := dz_167 (n := 160) (r := 4) hz_X12_energy_160 rfl (by decide +kernel)
theorem dX12_energy_167 : decode cX12_energy 167 = .ok (.aload_n 1, 1) := dz_43 (n := 160) (r := 7) hz_X12_energy_160 rfl
theorem dX12_energy_168 : decode cX12_energy 168 = .ok (.bipush 16, 2) := dz_16 (n := 160) (r := 8) hz_X12_energy_160 rfl rfl
theorem dX12_energy_170 : decode cX12_energy 170 = .ok (.iload 5, 2) := dz_21 (n := 160) (r := 10) hz_X12_energy_160 rfl rfl
theorem dX12_energy_172 : decode cX12_energy 172 = .ok (.iadd, 1) := dz_96 (n := 160) (r := 12) hz_X12_energy_160 rfl
theorem dX12_energy_173 : decode cX12_energy 173 = .ok (.iaload, 1) := dz_46 (n := 160) (r := 13) hz_X12_energy_160 rfl
theorem dX12_energy_174 : decode cX12_energy 174 = .ok (.iadd, 1) := dz_96 (n := 160) (r := 14) hz_X12_energy_160 rfl
theorem dX12_energy_175 : decode cX12_energy 175 = .ok (.istore 4, 2) := dz_54 (n := 160) (r := 15) hz_X12_energy_160 rfl rfl
theorem dX12_energy_177 : decode cX12_energy 177 = .ok (.iinc 5 1, 3) := dz_132 (n := 160) (r := 17) hz_X12_energy_160 rfl rfl rfl
theorem dX12_energy_180 : decode cX12_energy 180 = .ok (.goto (-174), 3) := dz_167 (n := 160) (r := 20) hz_X12_energy_160 rfl (by decide +kernel)
theorem dX12_energy_183 : decode cX12_energy 183 = .ok (.iload 4, 2) := dz_21 (n := 160) (r := 23) hz_X12_energy_160 rfl rfl
theorem dX12_energy_185 : decode cX12_energy 185 = .ok (.ireturn, 1) := dz_172 (n := 160) (r := 25) hz_X12_energy_160 rfl
theorem hz_X12_isLawfulBy_0 : (cX12_isLawfulBy.data.toList.drop 0).take 40 = [3, 62, 29, 28, 162, 0, 36, 42, 16, 48, 29, 96, 46, 158, 0, 21, 27, 29, 122, 4, 126, 5, 42, 16, 48, 29, 96, 46, 100, 159, 0, 5, 3, 172, 132, 3, 1, 167, 255, 221] := by decide +kernel
theorem dX12_isLawfulBy_0 : decode cX12_isLawfulBy 0 = .ok (.iconst 0, 1) := dz_3 (n := 0) (r := 0) hz_X12_isLawfulBy_0 rfl
theorem dX12_isLawfulBy_1 : decode cX12_isLawfulBy 1 = .ok (.istore_n 3, 1) := dz_62 (n := 0) (r := 1) hz_X12_isLawfulBy_0 rfl
theorem dX12_isLawfulBy_2 : decode cX12_isLawfulBy 2 = .ok (.iload_n 3, 1) := dz_29 (n := 0) (r := 2) hz_X12_isLawfulBy_0 rfl
theorem dX12_isLawfulBy_3 : decode cX12_isLawfulBy 3 = .ok (.iload_n 2, 1) := dz_28 (n := 0) (r := 3) hz_X12_isLawfulBy_0 rfl
theorem dX12_isLawfulBy_4 : decode cX12_isLawfulBy 4 = .ok (.if_icmp .ge 36, 3) := dz_162 (n := 0) (r := 4) hz_X12_isLawfulBy_0 rfl (by decide +kernel)
theorem dX12_isLawfulBy_7 : decode cX12_isLawfulBy 7 = .ok (.aload_n 0, 1) := dz_42 (n := 0) (r := 7) hz_X12_isLawfulBy_0 rfl
theorem dX12_isLawfulBy_8 : decode cX12_isLawfulBy 8 = .ok (.bipush 48, 2) := dz_16 (n := 0) (r := 8) hz_X12_isLawfulBy_0 rfl rfl
theorem dX12_isLawfulBy_10 : decode cX12_isLawfulBy 10 = .ok (.iload_n 3, 1) := dz_29 (n := 0) (r := 10) hz_X12_isLawfulBy_0 rfl
theorem dX12_isLawfulBy_11 : decode cX12_isLawfulBy 11 = .ok (.iadd, 1) := dz_96 (n := 0) (r := 11) hz_X12_isLawfulBy_0 rfl
theorem dX12_isLawfulBy_12 : decode cX12_isLawfulBy 12 = .ok (.iaload, 1) := dz_46 (n := 0) (r := 12) hz_X12_isLawfulBy_0 rfl
theorem dX12_isLawfulBy_13 : decode cX12_isLawfulBy 13 = .ok (.ifCond .le 21, 3) := dz_158 (n := 0) (r := 13) hz_X12_isLawfulBy_0 rfl (by decide +kernel)
theorem dX12_isLawfulBy_16 : decode cX12_isLawfulBy 16 = .ok (.iload_n 1, 1) := dz_27 (n := 0) (r := 16) hz_X12_isLawfulBy_0 rfl
theorem dX12_isLawfulBy_17 : decode cX12_isLawfulBy 17 = .ok (.iload_n 3, 1) := dz_29 (n := 0) (r := 17) hz_X12_isLawfulBy_0 rfl
theorem dX12_isLawfulBy_18 : decode cX12_isLawfulBy 18 = .ok (.ishr, 1) := dz_122 (n := 0) (r := 18) hz_X12_isLawfulBy_0 rfl
theorem dX12_isLawfulBy_19 : decode cX12_isLawfulBy 19 = .ok (.iconst 1, 1) := dz_4 (n := 0) (r := 19) hz_X12_isLawfulBy_0 rfl
theorem dX12_isLawfulBy_20 : decode cX12_isLawfulBy 20 = .ok (.iand, 1) := dz_126 (n := 0) (r := 20) hz_X12_isLawfulBy_0 rfl
theorem dX12_isLawfulBy_21 : decode cX12_isLawfulBy 21 = .ok (.iconst 2, 1) := dz_5 (n := 0) (r := 21) hz_X12_isLawfulBy_0 rfl
theorem dX12_isLawfulBy_22 : decode cX12_isLawfulBy 22 = .ok (.aload_n 0, 1) := dz_42 (n := 0) (r := 22) hz_X12_isLawfulBy_0 rfl
theorem dX12_isLawfulBy_23 : decode cX12_isLawfulBy 23 = .ok (.bipush 48, 2) := dz_16 (n := 0) (r := 23) hz_X12_isLawfulBy_0 rfl rfl
theorem dX12_isLawfulBy_25 : decode cX12_isLawfulBy 25 = .ok (.iload_n 3, 1) := dz_29 (n := 0) (r := 25) hz_X12_isLawfulBy_0 rfl
theorem dX12_isLawfulBy_26 : decode cX12_isLawfulBy 26 = .ok (.iadd, 1) := dz_96 (n := 0) (r := 26) hz_X12_isLawfulBy_0 rfl
theorem dX12_isLawfulBy_27 : decode cX12_isLawfulBy 27 = .ok (.iaload, 1) := dz_46 (n := 0) (r := 27) hz_X12_isLawfulBy_0 rfl
theorem dX12_isLawfulBy_28 : decode cX12_isLawfulBy 28 = .ok (.isub, 1) := dz_100 (n := 0) (r := 28) hz_X12_isLawfulBy_0 rfl
theorem dX12_isLawfulBy_29 : decode cX12_isLawfulBy 29 = .ok (.if_icmp .eq 5, 3) := dz_159 (n := 0) (r := 29) hz_X12_isLawfulBy_0 rfl (by decide +kernel)
theorem hz_X12_isLawfulBy_32 : (cX12_isLawfulBy.data.toList.drop 32).take 40 = [3, 172, 132, 3, 1, 167, 255, 221, 4, 172] := by decide +kernel
theorem dX12_isLawfulBy_32 : decode cX12_isLawfulBy 32 = .ok (.iconst 0, 1) := dz_3 (n := 32) (r := 0) hz_X12_isLawfulBy_32 rfl
theorem dX12_isLawfulBy_33 : decode cX12_isLawfulBy 33 = .ok (.ireturn, 1) := dz_172 (n := 32) (r := 1) hz_X12_isLawfulBy_32 rfl
theorem dX12_isLawfulBy_34 : decode cX12_isLawfulBy 34 = .ok (.iinc 3 1, 3) := dz_132 (n := 32) (r := 2) hz_X12_isLawfulBy_32 rfl rfl rfl
theorem dX12_isLawfulBy_37 : decode cX12_isLawfulBy 37 = .ok (.goto (-35), 3) := dz_167 (n := 32) (r := 5) hz_X12_isLawfulBy_32 rfl (by decide +kernel)
theorem dX12_isLawfulBy_40 : decode cX12_isLawfulBy 40 = .ok (.iconst 1, 1) := dz_4 (n := 32) (r := 8) hz_X12_isLawfulBy_32 rfl
theorem dX12_isLawfulBy_41 : decode cX12_isLawfulBy 41 = .ok (.ireturn, 1) := dz_172 (n := 32) (r := 9) hz_X12_isLawfulBy_32 rfl
theorem hz_X12_states_0 : (cX12_states.data.toList.drop 0).take 40 = [42, 182, 0, 193, 154, 0, 7, 3, 167, 0, 9, 4, 42, 182, 0, 193, 120, 172] := by decide +kernel
theorem dX12_states_0 : decode cX12_states 0 = .ok (.aload_n 0, 1) := dz_42 (n := 0) (r := 0) hz_X12_states_0 rfl
theorem dX12_states_1 : decode cX12_states 1 = .ok (.invokevirtual 193, 3) := dz_182 (n := 0) (r := 1) hz_X12_states_0 rfl rfl
theorem dX12_states_4 : decode cX12_states 4 = .ok (.ifCond .ne 7, 3) := dz_154 (n := 0) (r := 4) hz_X12_states_0 rfl (by decide +kernel)
theorem dX12_states_7 : decode cX12_states 7 = .ok (.iconst 0, 1) := dz_3 (n := 0) (r := 7) hz_X12_states_0 rfl
theorem dX12_states_8 : decode cX12_states 8 = .ok (.goto 9, 3) := dz_167 (n := 0) (r := 8) hz_X12_states_0 rfl (by decide +kernel)
theorem dX12_states_11 : decode cX12_states 11 = .ok (.iconst 1, 1) := dz_4 (n := 0) (r := 11) hz_X12_states_0 rfl
theorem dX12_states_12 : decode cX12_states 12 = .ok (.aload_n 0, 1) := dz_42 (n := 0) (r := 12) hz_X12_states_0 rfl
theorem dX12_states_13 : decode cX12_states 13 = .ok (.invokevirtual 193, 3) := dz_182 (n := 0) (r := 13) hz_X12_states_0 rfl rfl
theorem dX12_states_16 : decode cX12_states 16 = .ok (.ishl, 1) := dz_120 (n := 0) (r := 16) hz_X12_states_0 rfl
theorem dX12_states_17 : decode cX12_states 17 = .ok (.ireturn, 1) := dz_172 (n := 0) (r := 17) hz_X12_states_0 rfl
theorem hz_X12_isLawful_0 : (cX12_isLawful.data.toList.drop 0).take 40 = [27, 3, 42, 182, 1, 14, 4, 100, 184, 0, 213, 153, 0, 22, 42, 180, 0, 40, 27, 42, 182, 0, 193, 184, 1, 17, 153, 0, 7, 4, 167, 0, 4, 3, 172] := by decide +kernel
theorem dX12_isLawful_0 : decode cX12_isLawful 0 = .ok (.iload_n 1, 1) := dz_27 (n := 0) (r := 0) hz_X12_isLawful_0 rfl
theorem dX12_isLawful_1 : decode cX12_isLawful 1 = .ok (.iconst 0, 1) := dz_3 (n := 0) (r := 1) hz_X12_isLawful_0 rfl
theorem dX12_isLawful_2 : decode cX12_isLawful 2 = .ok (.aload_n 0, 1) := dz_42 (n := 0) (r := 2) hz_X12_isLawful_0 rfl
theorem dX12_isLawful_3 : decode cX12_isLawful 3 = .ok (.invokevirtual 270, 3) := dz_182 (n := 0) (r := 3) hz_X12_isLawful_0 rfl rfl
theorem dX12_isLawful_6 : decode cX12_isLawful 6 = .ok (.iconst 1, 1) := dz_4 (n := 0) (r := 6) hz_X12_isLawful_0 rfl
theorem dX12_isLawful_7 : decode cX12_isLawful 7 = .ok (.isub, 1) := dz_100 (n := 0) (r := 7) hz_X12_isLawful_0 rfl
theorem dX12_isLawful_8 : decode cX12_isLawful 8 = .ok (.invokestatic 213, 3) := dz_184 (n := 0) (r := 8) hz_X12_isLawful_0 rfl rfl
theorem dX12_isLawful_11 : decode cX12_isLawful 11 = .ok (.ifCond .eq 22, 3) := dz_153 (n := 0) (r := 11) hz_X12_isLawful_0 rfl (by decide +kernel)
theorem dX12_isLawful_14 : decode cX12_isLawful 14 = .ok (.aload_n 0, 1) := dz_42 (n := 0) (r := 14) hz_X12_isLawful_0 rfl
theorem dX12_isLawful_15 : decode cX12_isLawful 15 = .ok (.getfield 40, 3) := dz_180 (n := 0) (r := 15) hz_X12_isLawful_0 rfl rfl
theorem dX12_isLawful_18 : decode cX12_isLawful 18 = .ok (.iload_n 1, 1) := dz_27 (n := 0) (r := 18) hz_X12_isLawful_0 rfl
theorem dX12_isLawful_19 : decode cX12_isLawful 19 = .ok (.aload_n 0, 1) := dz_42 (n := 0) (r := 19) hz_X12_isLawful_0 rfl
theorem dX12_isLawful_20 : decode cX12_isLawful 20 = .ok (.invokevirtual 193, 3) := dz_182 (n := 0) (r := 20) hz_X12_isLawful_0 rfl rfl
theorem dX12_isLawful_23 : decode cX12_isLawful 23 = .ok (.invokestatic 273, 3) := dz_184 (n := 0) (r := 23) hz_X12_isLawful_0 rfl rfl
theorem dX12_isLawful_26 : decode cX12_isLawful 26 = .ok (.ifCond .eq 7, 3) := dz_153 (n := 0) (r := 26) hz_X12_isLawful_0 rfl (by decide +kernel)
theorem dX12_isLawful_29 : decode cX12_isLawful 29 = .ok (.iconst 1, 1) := dz_4 (n := 0) (r := 29) hz_X12_isLawful_0 rfl
theorem dX12_isLawful_30 : decode cX12_isLawful 30 = .ok (.goto 4, 3) := dz_167 (n := 0) (r := 30) hz_X12_isLawful_0 rfl (by decide +kernel)
theorem hz_X12_isLawful_32 : (cX12_isLawful.data.toList.drop 32).take 40 = [4, 3, 172] := by decide +kernel
theorem dX12_isLawful_33 : decode cX12_isLawful 33 = .ok (.iconst 0, 1) := dz_3 (n := 32) (r := 1) hz_X12_isLawful_32 rfl
theorem dX12_isLawful_34 : decode cX12_isLawful 34 = .ok (.ireturn, 1) := dz_172 (n := 32) (r := 2) hz_X12_isLawful_32 rfl
theorem hz_X12_laysMany_0 : (cX12_laysMany.data.toList.drop 0).take 40 = [3, 62, 29, 17, 1, 45, 162, 0, 13, 44, 29, 3, 79, 132, 3, 1, 167, 255, 242, 3, 62, 29, 42, 182, 1, 14, 162, 0, 41, 43, 29, 42, 182, 0, 193, 184, 1, 17, 153, 0] := by decide +kernel
theorem dX12_laysMany_0 : decode cX12_laysMany 0 = .ok (.iconst 0, 1) := dz_3 (n := 0) (r := 0) hz_X12_laysMany_0 rfl
theorem dX12_laysMany_1 : decode cX12_laysMany 1 = .ok (.istore_n 3, 1) := dz_62 (n := 0) (r := 1) hz_X12_laysMany_0 rfl
theorem dX12_laysMany_2 : decode cX12_laysMany 2 = .ok (.iload_n 3, 1) := dz_29 (n := 0) (r := 2) hz_X12_laysMany_0 rfl
theorem dX12_laysMany_3 : decode cX12_laysMany 3 = .ok (.sipush 301, 3) := dz_17 (n := 0) (r := 3) hz_X12_laysMany_0 rfl (by decide +kernel)
theorem dX12_laysMany_6 : decode cX12_laysMany 6 = .ok (.if_icmp .ge 13, 3) := dz_162 (n := 0) (r := 6) hz_X12_laysMany_0 rfl (by decide +kernel)
theorem dX12_laysMany_9 : decode cX12_laysMany 9 = .ok (.aload_n 2, 1) := dz_44 (n := 0) (r := 9) hz_X12_laysMany_0 rfl
theorem dX12_laysMany_10 : decode cX12_laysMany 10 = .ok (.iload_n 3, 1) := dz_29 (n := 0) (r := 10) hz_X12_laysMany_0 rfl
theorem dX12_laysMany_11 : decode cX12_laysMany 11 = .ok (.iconst 0, 1) := dz_3 (n := 0) (r := 11) hz_X12_laysMany_0 rfl
theorem dX12_laysMany_12 : decode cX12_laysMany 12 = .ok (.iastore, 1) := dz_79 (n := 0) (r := 12) hz_X12_laysMany_0 rfl
theorem dX12_laysMany_13 : decode cX12_laysMany 13 = .ok (.iinc 3 1, 3) := dz_132 (n := 0) (r := 13) hz_X12_laysMany_0 rfl rfl rfl
theorem dX12_laysMany_16 : decode cX12_laysMany 16 = .ok (.goto (-14), 3) := dz_167 (n := 0) (r := 16) hz_X12_laysMany_0 rfl (by decide +kernel)
theorem dX12_laysMany_19 : decode cX12_laysMany 19 = .ok (.iconst 0, 1) := dz_3 (n := 0) (r := 19) hz_X12_laysMany_0 rfl
theorem dX12_laysMany_20 : decode cX12_laysMany 20 = .ok (.istore_n 3, 1) := dz_62 (n := 0) (r := 20) hz_X12_laysMany_0 rfl
theorem dX12_laysMany_21 : decode cX12_laysMany 21 = .ok (.iload_n 3, 1) := dz_29 (n := 0) (r := 21) hz_X12_laysMany_0 rfl
theorem dX12_laysMany_22 : decode cX12_laysMany 22 = .ok (.aload_n 0, 1) := dz_42 (n := 0) (r := 22) hz_X12_laysMany_0 rfl
theorem dX12_laysMany_23 : decode cX12_laysMany 23 = .ok (.invokevirtual 270, 3) := dz_182 (n := 0) (r := 23) hz_X12_laysMany_0 rfl rfl
theorem dX12_laysMany_26 : decode cX12_laysMany 26 = .ok (.if_icmp .ge 41, 3) := dz_162 (n := 0) (r := 26) hz_X12_laysMany_0 rfl (by decide +kernel)
theorem dX12_laysMany_29 : decode cX12_laysMany 29 = .ok (.aload_n 1, 1) := dz_43 (n := 0) (r := 29) hz_X12_laysMany_0 rfl
theorem dX12_laysMany_30 : decode cX12_laysMany 30 = .ok (.iload_n 3, 1) := dz_29 (n := 0) (r := 30) hz_X12_laysMany_0 rfl
theorem dX12_laysMany_31 : decode cX12_laysMany 31 = .ok (.aload_n 0, 1) := dz_42 (n := 0) (r := 31) hz_X12_laysMany_0 rfl
theorem hz_X12_laysMany_32 : (cX12_laysMany.data.toList.drop 32).take 40 = [182, 0, 193, 184, 1, 17, 153, 0, 23, 44, 17, 0, 150, 42, 43, 29, 42, 180, 0, 177, 182, 1, 21, 96, 92, 46, 4, 96, 79, 132, 3, 1, 167, 255, 213, 177] := by decide +kernel
theorem dX12_laysMany_32 : decode cX12_laysMany 32 = .ok (.invokevirtual 193, 3) := dz_182 (n := 32) (r := 0) hz_X12_laysMany_32 rfl rfl
theorem dX12_laysMany_35 : decode cX12_laysMany 35 = .ok (.invokestatic 273, 3) := dz_184 (n := 32) (r := 3) hz_X12_laysMany_32 rfl rfl
theorem dX12_laysMany_38 : decode cX12_laysMany 38 = .ok (.ifCond .eq 23, 3) := dz_153 (n := 32) (r := 6) hz_X12_laysMany_32 rfl (by decide +kernel)
theorem dX12_laysMany_41 : decode cX12_laysMany 41 = .ok (.aload_n 2, 1) := dz_44 (n := 32) (r := 9) hz_X12_laysMany_32 rfl
theorem dX12_laysMany_42 : decode cX12_laysMany 42 = .ok (.sipush 150, 3) := dz_17 (n := 32) (r := 10) hz_X12_laysMany_32 rfl (by decide +kernel)
theorem dX12_laysMany_45 : decode cX12_laysMany 45 = .ok (.aload_n 0, 1) := dz_42 (n := 32) (r := 13) hz_X12_laysMany_32 rfl
theorem dX12_laysMany_46 : decode cX12_laysMany 46 = .ok (.aload_n 1, 1) := dz_43 (n := 32) (r := 14) hz_X12_laysMany_32 rfl
theorem dX12_laysMany_47 : decode cX12_laysMany 47 = .ok (.iload_n 3, 1) := dz_29 (n := 32) (r := 15) hz_X12_laysMany_32 rfl
theorem dX12_laysMany_48 : decode cX12_laysMany 48 = .ok (.aload_n 0, 1) := dz_42 (n := 32) (r := 16) hz_X12_laysMany_32 rfl
theorem dX12_laysMany_49 : decode cX12_laysMany 49 = .ok (.getfield 177, 3) := dz_180 (n := 32) (r := 17) hz_X12_laysMany_32 rfl rfl
theorem dX12_laysMany_52 : decode cX12_laysMany 52 = .ok (.invokevirtual 277, 3) := dz_182 (n := 32) (r := 20) hz_X12_laysMany_32 rfl rfl
theorem dX12_laysMany_55 : decode cX12_laysMany 55 = .ok (.iadd, 1) := dz_96 (n := 32) (r := 23) hz_X12_laysMany_32 rfl
theorem dX12_laysMany_56 : decode cX12_laysMany 56 = .ok (.dup2, 1) := dz_92 (n := 32) (r := 24) hz_X12_laysMany_32 rfl
theorem dX12_laysMany_57 : decode cX12_laysMany 57 = .ok (.iaload, 1) := dz_46 (n := 32) (r := 25) hz_X12_laysMany_32 rfl
theorem dX12_laysMany_58 : decode cX12_laysMany 58 = .ok (.iconst 1, 1) := dz_4 (n := 32) (r := 26) hz_X12_laysMany_32 rfl
theorem dX12_laysMany_59 : decode cX12_laysMany 59 = .ok (.iadd, 1) := dz_96 (n := 32) (r := 27) hz_X12_laysMany_32 rfl
theorem dX12_laysMany_60 : decode cX12_laysMany 60 = .ok (.iastore, 1) := dz_79 (n := 32) (r := 28) hz_X12_laysMany_32 rfl
theorem dX12_laysMany_61 : decode cX12_laysMany 61 = .ok (.iinc 3 1, 3) := dz_132 (n := 32) (r := 29) hz_X12_laysMany_32 rfl rfl rfl
theorem hz_X12_laysMany_64 : (cX12_laysMany.data.toList.drop 64).take 40 = [167, 255, 213, 177] := by decide +kernel
theorem dX12_laysMany_64 : decode cX12_laysMany 64 = .ok (.goto (-43), 3) := dz_167 (n := 64) (r := 0) hz_X12_laysMany_64 rfl (by decide +kernel)
theorem dX12_laysMany_67 : decode cX12_laysMany 67 = .ok (.return_, 1) := dz_177 (n := 64) (r := 3) hz_X12_laysMany_64 rfl
theorem hz_X12_knows_0 : (cX12_knows.data.toList.drop 0).take 40 = [42, 180, 0, 200, 153, 0, 4, 177, 42, 4, 181, 0, 200, 3, 60, 27, 17, 1, 45, 162, 0, 16, 42, 180, 0, 60, 27, 3, 79, 132, 1, 1, 167, 255, 239, 3, 60, 27, 42, 182] := by decide +kernel
theorem dX12_knows_0 : decode cX12_knows 0 = .ok (.aload_n 0, 1) := dz_42 (n := 0) (r := 0) hz_X12_knows_0 rfl
theorem dX12_knows_1 : decode cX12_knows 1 = .ok (.getfield 200, 3) := dz_180 (n := 0) (r := 1) hz_X12_knows_0 rfl rfl
theorem dX12_knows_4 : decode cX12_knows 4 = .ok (.ifCond .eq 4, 3) := dz_153 (n := 0) (r := 4) hz_X12_knows_0 rfl (by decide +kernel)
theorem dX12_knows_7 : decode cX12_knows 7 = .ok (.return_, 1) := dz_177 (n := 0) (r := 7) hz_X12_knows_0 rfl
theorem dX12_knows_8 : decode cX12_knows 8 = .ok (.aload_n 0, 1) := dz_42 (n := 0) (r := 8) hz_X12_knows_0 rfl
theorem dX12_knows_9 : decode cX12_knows 9 = .ok (.iconst 1, 1) := dz_4 (n := 0) (r := 9) hz_X12_knows_0 rfl
theorem dX12_knows_10 : decode cX12_knows 10 = .ok (.putfield 200, 3) := dz_181 (n := 0) (r := 10) hz_X12_knows_0 rfl rfl
theorem dX12_knows_13 : decode cX12_knows 13 = .ok (.iconst 0, 1) := dz_3 (n := 0) (r := 13) hz_X12_knows_0 rfl
theorem dX12_knows_14 : decode cX12_knows 14 = .ok (.istore_n 1, 1) := dz_60 (n := 0) (r := 14) hz_X12_knows_0 rfl
theorem dX12_knows_15 : decode cX12_knows 15 = .ok (.iload_n 1, 1) := dz_27 (n := 0) (r := 15) hz_X12_knows_0 rfl
theorem dX12_knows_16 : decode cX12_knows 16 = .ok (.sipush 301, 3) := dz_17 (n := 0) (r := 16) hz_X12_knows_0 rfl (by decide +kernel)
theorem dX12_knows_19 : decode cX12_knows 19 = .ok (.if_icmp .ge 16, 3) := dz_162 (n := 0) (r := 19) hz_X12_knows_0 rfl (by decide +kernel)
theorem dX12_knows_22 : decode cX12_knows 22 = .ok (.aload_n 0, 1) := dz_42 (n := 0) (r := 22) hz_X12_knows_0 rfl
theorem dX12_knows_23 : decode cX12_knows 23 = .ok (.getfield 60, 3) := dz_180 (n := 0) (r := 23) hz_X12_knows_0 rfl rfl
theorem dX12_knows_26 : decode cX12_knows 26 = .ok (.iload_n 1, 1) := dz_27 (n := 0) (r := 26) hz_X12_knows_0 rfl
theorem dX12_knows_27 : decode cX12_knows 27 = .ok (.iconst 0, 1) := dz_3 (n := 0) (r := 27) hz_X12_knows_0 rfl
theorem dX12_knows_28 : decode cX12_knows 28 = .ok (.iastore, 1) := dz_79 (n := 0) (r := 28) hz_X12_knows_0 rfl
theorem dX12_knows_29 : decode cX12_knows 29 = .ok (.iinc 1 1, 3) := dz_132 (n := 0) (r := 29) hz_X12_knows_0 rfl rfl rfl
theorem hz_X12_knows_32 : (cX12_knows.data.toList.drop 32).take 40 = [167, 255, 239, 3, 60, 27, 42, 182, 1, 14, 162, 0, 73, 42, 180, 0, 57, 27, 42, 27, 182, 1, 25, 153, 0, 19, 42, 42, 180, 0, 40, 27, 42, 180, 0, 177, 182, 1, 21, 167] := by decide +kernel
theorem dX12_knows_32 : decode cX12_knows 32 = .ok (.goto (-17), 3) := dz_167 (n := 32) (r := 0) hz_X12_knows_32 rfl (by decide +kernel)
theorem dX12_knows_35 : decode cX12_knows 35 = .ok (.iconst 0, 1) := dz_3 (n := 32) (r := 3) hz_X12_knows_32 rfl
theorem dX12_knows_36 : decode cX12_knows 36 = .ok (.istore_n 1, 1) := dz_60 (n := 32) (r := 4) hz_X12_knows_32 rfl
theorem dX12_knows_37 : decode cX12_knows 37 = .ok (.iload_n 1, 1) := dz_27 (n := 32) (r := 5) hz_X12_knows_32 rfl
theorem dX12_knows_38 : decode cX12_knows 38 = .ok (.aload_n 0, 1) := dz_42 (n := 32) (r := 6) hz_X12_knows_32 rfl
theorem dX12_knows_39 : decode cX12_knows 39 = .ok (.invokevirtual 270, 3) := dz_182 (n := 32) (r := 7) hz_X12_knows_32 rfl rfl
theorem dX12_knows_42 : decode cX12_knows 42 = .ok (.if_icmp .ge 73, 3) := dz_162 (n := 32) (r := 10) hz_X12_knows_32 rfl (by decide +kernel)
theorem dX12_knows_45 : decode cX12_knows 45 = .ok (.aload_n 0, 1) := dz_42 (n := 32) (r := 13) hz_X12_knows_32 rfl
theorem dX12_knows_46 : decode cX12_knows 46 = .ok (.getfield 57, 3) := dz_180 (n := 32) (r := 14) hz_X12_knows_32 rfl rfl
theorem dX12_knows_49 : decode cX12_knows 49 = .ok (.iload_n 1, 1) := dz_27 (n := 32) (r := 17) hz_X12_knows_32 rfl
theorem dX12_knows_50 : decode cX12_knows 50 = .ok (.aload_n 0, 1) := dz_42 (n := 32) (r := 18) hz_X12_knows_32 rfl
theorem dX12_knows_51 : decode cX12_knows 51 = .ok (.iload_n 1, 1) := dz_27 (n := 32) (r := 19) hz_X12_knows_32 rfl
theorem dX12_knows_52 : decode cX12_knows 52 = .ok (.invokevirtual 281, 3) := dz_182 (n := 32) (r := 20) hz_X12_knows_32 rfl rfl
theorem dX12_knows_55 : decode cX12_knows 55 = .ok (.ifCond .eq 19, 3) := dz_153 (n := 32) (r := 23) hz_X12_knows_32 rfl (by decide +kernel)
theorem dX12_knows_58 : decode cX12_knows 58 = .ok (.aload_n 0, 1) := dz_42 (n := 32) (r := 26) hz_X12_knows_32 rfl
theorem dX12_knows_59 : decode cX12_knows 59 = .ok (.aload_n 0, 1) := dz_42 (n := 32) (r := 27) hz_X12_knows_32 rfl
theorem dX12_knows_60 : decode cX12_knows 60 = .ok (.getfield 40, 3) := dz_180 (n := 32) (r := 28) hz_X12_knows_32 rfl rfl
theorem dX12_knows_63 : decode cX12_knows 63 = .ok (.iload_n 1, 1) := dz_27 (n := 32) (r := 31) hz_X12_knows_32 rfl
theorem hz_X12_knows_64 : (cX12_knows.data.toList.drop 64).take 40 = [42, 180, 0, 177, 182, 1, 21, 167, 0, 6, 19, 1, 28, 79, 42, 180, 0, 57, 27, 46, 19, 1, 28, 162, 0, 22, 42, 180, 0, 60, 17, 0, 150, 42, 180, 0, 57, 27, 46, 96] := by decide +kernel
theorem dX12_knows_64 : decode cX12_knows 64 = .ok (.aload_n 0, 1) := dz_42 (n := 64) (r := 0) hz_X12_knows_64 rfl
theorem dX12_knows_65 : decode cX12_knows 65 = .ok (.getfield 177, 3) := dz_180 (n := 64) (r := 1) hz_X12_knows_64 rfl rfl
theorem dX12_knows_68 : decode cX12_knows 68 = .ok (.invokevirtual 277, 3) := dz_182 (n := 64) (r := 4) hz_X12_knows_64 rfl rfl
theorem dX12_knows_71 : decode cX12_knows 71 = .ok (.goto 6, 3) := dz_167 (n := 64) (r := 7) hz_X12_knows_64 rfl (by decide +kernel)
theorem dX12_knows_74 : decode cX12_knows 74 = .ok (.ldc_w 284, 3) := dz_19 (n := 64) (r := 10) hz_X12_knows_64 rfl rfl
theorem dX12_knows_77 : decode cX12_knows 77 = .ok (.iastore, 1) := dz_79 (n := 64) (r := 13) hz_X12_knows_64 rfl
theorem dX12_knows_78 : decode cX12_knows 78 = .ok (.aload_n 0, 1) := dz_42 (n := 64) (r := 14) hz_X12_knows_64 rfl
theorem dX12_knows_79 : decode cX12_knows 79 = .ok (.getfield 57, 3) := dz_180 (n := 64) (r := 15) hz_X12_knows_64 rfl rfl
theorem dX12_knows_82 : decode cX12_knows 82 = .ok (.iload_n 1, 1) := dz_27 (n := 64) (r := 18) hz_X12_knows_64 rfl
theorem dX12_knows_83 : decode cX12_knows 83 = .ok (.iaload, 1) := dz_46 (n := 64) (r := 19) hz_X12_knows_64 rfl
theorem dX12_knows_84 : decode cX12_knows 84 = .ok (.ldc_w 284, 3) := dz_19 (n := 64) (r := 20) hz_X12_knows_64 rfl rfl
theorem dX12_knows_87 : decode cX12_knows 87 = .ok (.if_icmp .ge 22, 3) := dz_162 (n := 64) (r := 23) hz_X12_knows_64 rfl (by decide +kernel)
theorem dX12_knows_90 : decode cX12_knows 90 = .ok (.aload_n 0, 1) := dz_42 (n := 64) (r := 26) hz_X12_knows_64 rfl
theorem dX12_knows_91 : decode cX12_knows 91 = .ok (.getfield 60, 3) := dz_180 (n := 64) (r := 27) hz_X12_knows_64 rfl rfl
theorem dX12_knows_94 : decode cX12_knows 94 = .ok (.sipush 150, 3) := dz_17 (n := 64) (r := 30) hz_X12_knows_64 rfl (by decide +kernel)
theorem hz_X12_knows_96 : (cX12_knows.data.toList.drop 96).take 40 = [150, 42, 180, 0, 57, 27, 46, 96, 92, 46, 4, 96, 79, 132, 1, 1, 167, 255, 181, 42, 3, 181, 1, 29, 3, 60, 27, 17, 1, 45, 162, 0, 45, 42, 180, 0, 60, 27, 46, 154] := by decide +kernel
theorem dX12_knows_97 : decode cX12_knows 97 = .ok (.aload_n 0, 1) := dz_42 (n := 96) (r := 1) hz_X12_knows_96 rfl
theorem dX12_knows_98 : decode cX12_knows 98 = .ok (.getfield 57, 3) := dz_180 (n := 96) (r := 2) hz_X12_knows_96 rfl rfl
theorem dX12_knows_101 : decode cX12_knows 101 = .ok (.iload_n 1, 1) := dz_27 (n := 96) (r := 5) hz_X12_knows_96 rfl
theorem dX12_knows_102 : decode cX12_knows 102 = .ok (.iaload, 1) := dz_46 (n := 96) (r := 6) hz_X12_knows_96 rfl
theorem dX12_knows_103 : decode cX12_knows 103 = .ok (.iadd, 1) := dz_96 (n := 96) (r := 7) hz_X12_knows_96 rfl
theorem dX12_knows_104 : decode cX12_knows 104 = .ok (.dup2, 1) := dz_92 (n := 96) (r := 8) hz_X12_knows_96 rfl
theorem dX12_knows_105 : decode cX12_knows 105 = .ok (.iaload, 1) := dz_46 (n := 96) (r := 9) hz_X12_knows_96 rfl
theorem dX12_knows_106 : decode cX12_knows 106 = .ok (.iconst 1, 1) := dz_4 (n := 96) (r := 10) hz_X12_knows_96 rfl
theorem dX12_knows_107 : decode cX12_knows 107 = .ok (.iadd, 1) := dz_96 (n := 96) (r := 11) hz_X12_knows_96 rfl
theorem dX12_knows_108 : decode cX12_knows 108 = .ok (.iastore, 1) := dz_79 (n := 96) (r := 12) hz_X12_knows_96 rfl
theorem dX12_knows_109 : decode cX12_knows 109 = .ok (.iinc 1 1, 3) := dz_132 (n := 96) (r := 13) hz_X12_knows_96 rfl rfl rfl
theorem dX12_knows_112 : decode cX12_knows 112 = .ok (.goto (-75), 3) := dz_167 (n := 96) (r := 16) hz_X12_knows_96 rfl (by decide +kernel)
theorem dX12_knows_115 : decode cX12_knows 115 = .ok (.aload_n 0, 1) := dz_42 (n := 96) (r := 19) hz_X12_knows_96 rfl
theorem dX12_knows_116 : decode cX12_knows 116 = .ok (.iconst 0, 1) := dz_3 (n := 96) (r := 20) hz_X12_knows_96 rfl
theorem dX12_knows_117 : decode cX12_knows 117 = .ok (.putfield 285, 3) := dz_181 (n := 96) (r := 21) hz_X12_knows_96 rfl rfl
theorem dX12_knows_120 : decode cX12_knows 120 = .ok (.iconst 0, 1) := dz_3 (n := 96) (r := 24) hz_X12_knows_96 rfl
theorem dX12_knows_121 : decode cX12_knows 121 = .ok (.istore_n 1, 1) := dz_60 (n := 96) (r := 25) hz_X12_knows_96 rfl
theorem dX12_knows_122 : decode cX12_knows 122 = .ok (.iload_n 1, 1) := dz_27 (n := 96) (r := 26) hz_X12_knows_96 rfl
theorem dX12_knows_123 : decode cX12_knows 123 = .ok (.sipush 301, 3) := dz_17 (n := 96) (r := 27) hz_X12_knows_96 rfl (by decide +kernel)
theorem dX12_knows_126 : decode cX12_knows 126 = .ok (.if_icmp .ge 45, 3) := dz_162 (n := 96) (r := 30) hz_X12_knows_96 rfl (by decide +kernel)
theorem hz_X12_knows_128 : (cX12_knows.data.toList.drop 128).take 40 = [45, 42, 180, 0, 60, 27, 46, 154, 0, 6, 167, 0, 27, 42, 180, 0, 63, 42, 180, 1, 29, 27, 17, 0, 150, 100, 79, 42, 89, 180, 1, 29, 4, 96, 181, 1, 29, 132, 1, 1] := by decide +kernel
theorem dX12_knows_129 : decode cX12_knows 129 = .ok (.aload_n 0, 1) := dz_42 (n := 128) (r := 1) hz_X12_knows_128 rfl
theorem dX12_knows_130 : decode cX12_knows 130 = .ok (.getfield 60, 3) := dz_180 (n := 128) (r := 2) hz_X12_knows_128 rfl rfl
theorem dX12_knows_133 : decode cX12_knows 133 = .ok (.iload_n 1, 1) := dz_27 (n := 128) (r := 5) hz_X12_knows_128 rfl
theorem dX12_knows_134 : decode cX12_knows 134 = .ok (.iaload, 1) := dz_46 (n := 128) (r := 6) hz_X12_knows_128 rfl
theorem dX12_knows_135 : decode cX12_knows 135 = .ok (.ifCond .ne 6, 3) := dz_154 (n := 128) (r := 7) hz_X12_knows_128 rfl (by decide +kernel)
theorem dX12_knows_138 : decode cX12_knows 138 = .ok (.goto 27, 3) := dz_167 (n := 128) (r := 10) hz_X12_knows_128 rfl (by decide +kernel)
theorem dX12_knows_141 : decode cX12_knows 141 = .ok (.aload_n 0, 1) := dz_42 (n := 128) (r := 13) hz_X12_knows_128 rfl
theorem dX12_knows_142 : decode cX12_knows 142 = .ok (.getfield 63, 3) := dz_180 (n := 128) (r := 14) hz_X12_knows_128 rfl rfl
theorem dX12_knows_145 : decode cX12_knows 145 = .ok (.aload_n 0, 1) := dz_42 (n := 128) (r := 17) hz_X12_knows_128 rfl
theorem dX12_knows_146 : decode cX12_knows 146 = .ok (.getfield 285, 3) := dz_180 (n := 128) (r := 18) hz_X12_knows_128 rfl rfl
theorem dX12_knows_149 : decode cX12_knows 149 = .ok (.iload_n 1, 1) := dz_27 (n := 128) (r := 21) hz_X12_knows_128 rfl
theorem dX12_knows_150 : decode cX12_knows 150 = .ok (.sipush 150, 3) := dz_17 (n := 128) (r := 22) hz_X12_knows_128 rfl (by decide +kernel)
theorem dX12_knows_153 : decode cX12_knows 153 = .ok (.isub, 1) := dz_100 (n := 128) (r := 25) hz_X12_knows_128 rfl
theorem dX12_knows_154 : decode cX12_knows 154 = .ok (.iastore, 1) := dz_79 (n := 128) (r := 26) hz_X12_knows_128 rfl
theorem dX12_knows_155 : decode cX12_knows 155 = .ok (.aload_n 0, 1) := dz_42 (n := 128) (r := 27) hz_X12_knows_128 rfl
theorem dX12_knows_156 : decode cX12_knows 156 = .ok (.dup, 1) := dz_89 (n := 128) (r := 28) hz_X12_knows_128 rfl
theorem dX12_knows_157 : decode cX12_knows 157 = .ok (.getfield 285, 3) := dz_180 (n := 128) (r := 29) hz_X12_knows_128 rfl rfl
theorem hz_X12_knows_160 : (cX12_knows.data.toList.drop 160).take 40 = [4, 96, 181, 1, 29, 132, 1, 1, 167, 255, 210, 177] := by decide +kernel
theorem dX12_knows_160 : decode cX12_knows 160 = .ok (.iconst 1, 1) := dz_4 (n := 160) (r := 0) hz_X12_knows_160 rfl
theorem dX12_knows_161 : decode cX12_knows 161 = .ok (.iadd, 1) := dz_96 (n := 160) (r := 1) hz_X12_knows_160 rfl
theorem dX12_knows_162 : decode cX12_knows 162 = .ok (.putfield 285, 3) := dz_181 (n := 160) (r := 2) hz_X12_knows_160 rfl rfl
theorem dX12_knows_165 : decode cX12_knows 165 = .ok (.iinc 1 1, 3) := dz_132 (n := 160) (r := 5) hz_X12_knows_160 rfl rfl rfl
theorem dX12_knows_168 : decode cX12_knows 168 = .ok (.goto (-46), 3) := dz_167 (n := 160) (r := 8) hz_X12_knows_160 rfl (by decide +kernel)
theorem dX12_knows_171 : decode cX12_knows 171 = .ok (.return_, 1) := dz_177 (n := 160) (r := 11) hz_X12_knows_160 rfl
theorem hz_X12_costOf_0 : (cX12_costOf.data.toList.drop 0).take 40 = [42, 42, 180, 0, 40, 27, 4, 28, 120, 130, 42, 180, 0, 177, 182, 1, 21, 42, 42, 180, 0, 40, 27, 42, 180, 0, 177, 182, 1, 21, 100, 172] := by decide +kernel
theorem dX12_costOf_0 : decode cX12_costOf 0 = .ok (.aload_n 0, 1) := dz_42 (n := 0) (r := 0) hz_X12_costOf_0 rfl
theorem dX12_costOf_1 : decode cX12_costOf 1 = .ok (.aload_n 0, 1) := dz_42 (n := 0) (r := 1) hz_X12_costOf_0 rfl
theorem dX12_costOf_2 : decode cX12_costOf 2 = .ok (.getfield 40, 3) := dz_180 (n := 0) (r := 2) hz_X12_costOf_0 rfl rfl
theorem dX12_costOf_5 : decode cX12_costOf 5 = .ok (.iload_n 1, 1) := dz_27 (n := 0) (r := 5) hz_X12_costOf_0 rfl
theorem dX12_costOf_6 : decode cX12_costOf 6 = .ok (.iconst 1, 1) := dz_4 (n := 0) (r := 6) hz_X12_costOf_0 rfl
theorem dX12_costOf_7 : decode cX12_costOf 7 = .ok (.iload_n 2, 1) := dz_28 (n := 0) (r := 7) hz_X12_costOf_0 rfl
theorem dX12_costOf_8 : decode cX12_costOf 8 = .ok (.ishl, 1) := dz_120 (n := 0) (r := 8) hz_X12_costOf_0 rfl
theorem dX12_costOf_9 : decode cX12_costOf 9 = .ok (.ixor, 1) := dz_130 (n := 0) (r := 9) hz_X12_costOf_0 rfl
theorem dX12_costOf_10 : decode cX12_costOf 10 = .ok (.aload_n 0, 1) := dz_42 (n := 0) (r := 10) hz_X12_costOf_0 rfl
theorem dX12_costOf_11 : decode cX12_costOf 11 = .ok (.getfield 177, 3) := dz_180 (n := 0) (r := 11) hz_X12_costOf_0 rfl rfl
theorem dX12_costOf_14 : decode cX12_costOf 14 = .ok (.invokevirtual 277, 3) := dz_182 (n := 0) (r := 14) hz_X12_costOf_0 rfl rfl
theorem dX12_costOf_17 : decode cX12_costOf 17 = .ok (.aload_n 0, 1) := dz_42 (n := 0) (r := 17) hz_X12_costOf_0 rfl
theorem dX12_costOf_18 : decode cX12_costOf 18 = .ok (.aload_n 0, 1) := dz_42 (n := 0) (r := 18) hz_X12_costOf_0 rfl
theorem dX12_costOf_19 : decode cX12_costOf 19 = .ok (.getfield 40, 3) := dz_180 (n := 0) (r := 19) hz_X12_costOf_0 rfl rfl
theorem dX12_costOf_22 : decode cX12_costOf 22 = .ok (.iload_n 1, 1) := dz_27 (n := 0) (r := 22) hz_X12_costOf_0 rfl
theorem dX12_costOf_23 : decode cX12_costOf 23 = .ok (.aload_n 0, 1) := dz_42 (n := 0) (r := 23) hz_X12_costOf_0 rfl
theorem dX12_costOf_24 : decode cX12_costOf 24 = .ok (.getfield 177, 3) := dz_180 (n := 0) (r := 24) hz_X12_costOf_0 rfl rfl
theorem dX12_costOf_27 : decode cX12_costOf 27 = .ok (.invokevirtual 277, 3) := dz_182 (n := 0) (r := 27) hz_X12_costOf_0 rfl rfl
theorem dX12_costOf_30 : decode cX12_costOf 30 = .ok (.isub, 1) := dz_100 (n := 0) (r := 30) hz_X12_costOf_0 rfl
theorem dX12_costOf_31 : decode cX12_costOf 31 = .ok (.ireturn, 1) := dz_172 (n := 0) (r := 31) hz_X12_costOf_0 rfl
theorem hz_X12_site_0 : (cX12_site.data.toList.drop 0).take 40 = [42, 27, 182, 0, 233, 154, 0, 7, 19, 1, 32, 172, 28, 170, 0, 0, 0, 0, 0, 153, 0, 0, 0, 0, 0, 0, 0, 7, 0, 0, 0, 47, 0, 0, 0, 54, 0, 0, 0, 61] := by decide +kernel
theorem dX12_site_0 : decode cX12_site 0 = .ok (.aload_n 0, 1) := dz_42 (n := 0) (r := 0) hz_X12_site_0 rfl
theorem dX12_site_1 : decode cX12_site 1 = .ok (.iload_n 1, 1) := dz_27 (n := 0) (r := 1) hz_X12_site_0 rfl
theorem dX12_site_2 : decode cX12_site 2 = .ok (.invokevirtual 233, 3) := dz_182 (n := 0) (r := 2) hz_X12_site_0 rfl rfl
theorem dX12_site_5 : decode cX12_site 5 = .ok (.ifCond .ne 7, 3) := dz_154 (n := 0) (r := 5) hz_X12_site_0 rfl (by decide +kernel)
theorem dX12_site_8 : decode cX12_site 8 = .ok (.ldc_w 288, 3) := dz_19 (n := 0) (r := 8) hz_X12_site_0 rfl rfl
theorem dX12_site_11 : decode cX12_site 11 = .ok (.ireturn, 1) := dz_172 (n := 0) (r := 11) hz_X12_site_0 rfl
theorem dX12_site_12 : decode cX12_site 12 = .ok (.iload_n 2, 1) := dz_28 (n := 0) (r := 12) hz_X12_site_0 rfl
theorem dX12_site_13 : decode cX12_site 13 = .ok (.tableswitch 153 0 7 #[47, 54, 61, 71, 81, 104, 128, 140], 47) := by decide +kernel
theorem hz_X12_site_32 : (cX12_site.data.toList.drop 32).take 40 = [0, 0, 0, 54, 0, 0, 0, 61, 0, 0, 0, 71, 0, 0, 0, 81, 0, 0, 0, 104, 0, 0, 0, 128, 0, 0, 0, 140, 27, 42, 180, 0, 171, 108, 172, 27, 42, 180, 0, 171] := by decide +kernel
theorem dX12_site_60 : decode cX12_site 60 = .ok (.iload_n 1, 1) := dz_27 (n := 32) (r := 28) hz_X12_site_32 rfl
theorem dX12_site_61 : decode cX12_site 61 = .ok (.aload_n 0, 1) := dz_42 (n := 32) (r := 29) hz_X12_site_32 rfl
theorem dX12_site_62 : decode cX12_site 62 = .ok (.getfield 171, 3) := dz_180 (n := 32) (r := 30) hz_X12_site_32 rfl rfl
theorem hz_X12_site_64 : (cX12_site.data.toList.drop 64).take 40 = [171, 108, 172, 27, 42, 180, 0, 171, 112, 172, 42, 180, 0, 40, 16, 32, 27, 96, 46, 172, 42, 180, 0, 40, 16, 48, 27, 96, 46, 172, 42, 27, 3, 182, 0, 236, 156, 0, 8, 16] := by decide +kernel
theorem dX12_site_65 : decode cX12_site 65 = .ok (.idiv, 1) := dz_108 (n := 64) (r := 1) hz_X12_site_64 rfl
theorem dX12_site_66 : decode cX12_site 66 = .ok (.ireturn, 1) := dz_172 (n := 64) (r := 2) hz_X12_site_64 rfl
theorem dX12_site_67 : decode cX12_site 67 = .ok (.iload_n 1, 1) := dz_27 (n := 64) (r := 3) hz_X12_site_64 rfl
theorem dX12_site_68 : decode cX12_site 68 = .ok (.aload_n 0, 1) := dz_42 (n := 64) (r := 4) hz_X12_site_64 rfl
theorem dX12_site_69 : decode cX12_site 69 = .ok (.getfield 171, 3) := dz_180 (n := 64) (r := 5) hz_X12_site_64 rfl rfl
theorem dX12_site_72 : decode cX12_site 72 = .ok (.irem, 1) := dz_112 (n := 64) (r := 8) hz_X12_site_64 rfl
theorem dX12_site_73 : decode cX12_site 73 = .ok (.ireturn, 1) := dz_172 (n := 64) (r := 9) hz_X12_site_64 rfl
theorem dX12_site_74 : decode cX12_site 74 = .ok (.aload_n 0, 1) := dz_42 (n := 64) (r := 10) hz_X12_site_64 rfl
theorem dX12_site_75 : decode cX12_site 75 = .ok (.getfield 40, 3) := dz_180 (n := 64) (r := 11) hz_X12_site_64 rfl rfl
theorem dX12_site_78 : decode cX12_site 78 = .ok (.bipush 32, 2) := dz_16 (n := 64) (r := 14) hz_X12_site_64 rfl rfl
theorem dX12_site_80 : decode cX12_site 80 = .ok (.iload_n 1, 1) := dz_27 (n := 64) (r := 16) hz_X12_site_64 rfl
theorem dX12_site_81 : decode cX12_site 81 = .ok (.iadd, 1) := dz_96 (n := 64) (r := 17) hz_X12_site_64 rfl
theorem dX12_site_82 : decode cX12_site 82 = .ok (.iaload, 1) := dz_46 (n := 64) (r := 18) hz_X12_site_64 rfl
theorem dX12_site_83 : decode cX12_site 83 = .ok (.ireturn, 1) := dz_172 (n := 64) (r := 19) hz_X12_site_64 rfl
theorem dX12_site_84 : decode cX12_site 84 = .ok (.aload_n 0, 1) := dz_42 (n := 64) (r := 20) hz_X12_site_64 rfl
theorem dX12_site_85 : decode cX12_site 85 = .ok (.getfield 40, 3) := dz_180 (n := 64) (r := 21) hz_X12_site_64 rfl rfl
theorem dX12_site_88 : decode cX12_site 88 = .ok (.bipush 48, 2) := dz_16 (n := 64) (r := 24) hz_X12_site_64 rfl rfl
theorem dX12_site_90 : decode cX12_site 90 = .ok (.iload_n 1, 1) := dz_27 (n := 64) (r := 26) hz_X12_site_64 rfl
theorem dX12_site_91 : decode cX12_site 91 = .ok (.iadd, 1) := dz_96 (n := 64) (r := 27) hz_X12_site_64 rfl
theorem dX12_site_92 : decode cX12_site 92 = .ok (.iaload, 1) := dz_46 (n := 64) (r := 28) hz_X12_site_64 rfl
theorem dX12_site_93 : decode cX12_site 93 = .ok (.ireturn, 1) := dz_172 (n := 64) (r := 29) hz_X12_site_64 rfl
theorem dX12_site_94 : decode cX12_site 94 = .ok (.aload_n 0, 1) := dz_42 (n := 64) (r := 30) hz_X12_site_64 rfl
theorem dX12_site_95 : decode cX12_site 95 = .ok (.iload_n 1, 1) := dz_27 (n := 64) (r := 31) hz_X12_site_64 rfl
theorem hz_X12_site_96 : (cX12_site.data.toList.drop 96).take 40 = [3, 182, 0, 236, 156, 0, 8, 16, 100, 167, 0, 11, 42, 180, 0, 40, 3, 27, 96, 46, 172, 42, 27, 4, 182, 0, 236, 156, 0, 8, 16, 100, 167, 0, 12, 42, 180, 0, 40, 16] := by decide +kernel
theorem dX12_site_96 : decode cX12_site 96 = .ok (.iconst 0, 1) := dz_3 (n := 96) (r := 0) hz_X12_site_96 rfl
theorem dX12_site_97 : decode cX12_site 97 = .ok (.invokevirtual 236, 3) := dz_182 (n := 96) (r := 1) hz_X12_site_96 rfl rfl
theorem dX12_site_100 : decode cX12_site 100 = .ok (.ifCond .ge 8, 3) := dz_156 (n := 96) (r := 4) hz_X12_site_96 rfl (by decide +kernel)
theorem dX12_site_103 : decode cX12_site 103 = .ok (.bipush 100, 2) := dz_16 (n := 96) (r := 7) hz_X12_site_96 rfl rfl
theorem dX12_site_105 : decode cX12_site 105 = .ok (.goto 11, 3) := dz_167 (n := 96) (r := 9) hz_X12_site_96 rfl (by decide +kernel)
theorem dX12_site_108 : decode cX12_site 108 = .ok (.aload_n 0, 1) := dz_42 (n := 96) (r := 12) hz_X12_site_96 rfl
theorem dX12_site_109 : decode cX12_site 109 = .ok (.getfield 40, 3) := dz_180 (n := 96) (r := 13) hz_X12_site_96 rfl rfl
theorem dX12_site_112 : decode cX12_site 112 = .ok (.iconst 0, 1) := dz_3 (n := 96) (r := 16) hz_X12_site_96 rfl
theorem dX12_site_113 : decode cX12_site 113 = .ok (.iload_n 1, 1) := dz_27 (n := 96) (r := 17) hz_X12_site_96 rfl
theorem dX12_site_114 : decode cX12_site 114 = .ok (.iadd, 1) := dz_96 (n := 96) (r := 18) hz_X12_site_96 rfl
theorem dX12_site_115 : decode cX12_site 115 = .ok (.iaload, 1) := dz_46 (n := 96) (r := 19) hz_X12_site_96 rfl
theorem dX12_site_116 : decode cX12_site 116 = .ok (.ireturn, 1) := dz_172 (n := 96) (r := 20) hz_X12_site_96 rfl
theorem dX12_site_117 : decode cX12_site 117 = .ok (.aload_n 0, 1) := dz_42 (n := 96) (r := 21) hz_X12_site_96 rfl
theorem dX12_site_118 : decode cX12_site 118 = .ok (.iload_n 1, 1) := dz_27 (n := 96) (r := 22) hz_X12_site_96 rfl
theorem dX12_site_119 : decode cX12_site 119 = .ok (.iconst 1, 1) := dz_4 (n := 96) (r := 23) hz_X12_site_96 rfl
theorem dX12_site_120 : decode cX12_site 120 = .ok (.invokevirtual 236, 3) := dz_182 (n := 96) (r := 24) hz_X12_site_96 rfl rfl
theorem dX12_site_123 : decode cX12_site 123 = .ok (.ifCond .ge 8, 3) := dz_156 (n := 96) (r := 27) hz_X12_site_96 rfl (by decide +kernel)
theorem dX12_site_126 : decode cX12_site 126 = .ok (.bipush 100, 2) := dz_16 (n := 96) (r := 30) hz_X12_site_96 rfl rfl
theorem hz_X12_site_128 : (cX12_site.data.toList.drop 128).take 40 = [167, 0, 12, 42, 180, 0, 40, 16, 16, 27, 96, 46, 172, 42, 180, 0, 40, 16, 64, 46, 27, 122, 4, 126, 172, 42, 42, 180, 0, 40, 16, 64, 46, 27, 182, 1, 33, 172, 19, 1] := by decide +kernel
theorem dX12_site_128 : decode cX12_site 128 = .ok (.goto 12, 3) := dz_167 (n := 128) (r := 0) hz_X12_site_128 rfl (by decide +kernel)
theorem dX12_site_131 : decode cX12_site 131 = .ok (.aload_n 0, 1) := dz_42 (n := 128) (r := 3) hz_X12_site_128 rfl
theorem dX12_site_132 : decode cX12_site 132 = .ok (.getfield 40, 3) := dz_180 (n := 128) (r := 4) hz_X12_site_128 rfl rfl
theorem dX12_site_135 : decode cX12_site 135 = .ok (.bipush 16, 2) := dz_16 (n := 128) (r := 7) hz_X12_site_128 rfl rfl
theorem dX12_site_137 : decode cX12_site 137 = .ok (.iload_n 1, 1) := dz_27 (n := 128) (r := 9) hz_X12_site_128 rfl
theorem dX12_site_138 : decode cX12_site 138 = .ok (.iadd, 1) := dz_96 (n := 128) (r := 10) hz_X12_site_128 rfl
theorem dX12_site_139 : decode cX12_site 139 = .ok (.iaload, 1) := dz_46 (n := 128) (r := 11) hz_X12_site_128 rfl
theorem dX12_site_140 : decode cX12_site 140 = .ok (.ireturn, 1) := dz_172 (n := 128) (r := 12) hz_X12_site_128 rfl
theorem dX12_site_141 : decode cX12_site 141 = .ok (.aload_n 0, 1) := dz_42 (n := 128) (r := 13) hz_X12_site_128 rfl
theorem dX12_site_142 : decode cX12_site 142 = .ok (.getfield 40, 3) := dz_180 (n := 128) (r := 14) hz_X12_site_128 rfl rfl
theorem dX12_site_145 : decode cX12_site 145 = .ok (.bipush 64, 2) := dz_16 (n := 128) (r := 17) hz_X12_site_128 rfl rfl
theorem dX12_site_147 : decode cX12_site 147 = .ok (.iaload, 1) := dz_46 (n := 128) (r := 19) hz_X12_site_128 rfl
theorem dX12_site_148 : decode cX12_site 148 = .ok (.iload_n 1, 1) := dz_27 (n := 128) (r := 20) hz_X12_site_128 rfl
theorem dX12_site_149 : decode cX12_site 149 = .ok (.ishr, 1) := dz_122 (n := 128) (r := 21) hz_X12_site_128 rfl
theorem dX12_site_150 : decode cX12_site 150 = .ok (.iconst 1, 1) := dz_4 (n := 128) (r := 22) hz_X12_site_128 rfl
theorem dX12_site_151 : decode cX12_site 151 = .ok (.iand, 1) := dz_126 (n := 128) (r := 23) hz_X12_site_128 rfl
theorem dX12_site_152 : decode cX12_site 152 = .ok (.ireturn, 1) := dz_172 (n := 128) (r := 24) hz_X12_site_128 rfl
theorem dX12_site_153 : decode cX12_site 153 = .ok (.aload_n 0, 1) := dz_42 (n := 128) (r := 25) hz_X12_site_128 rfl
theorem dX12_site_154 : decode cX12_site 154 = .ok (.aload_n 0, 1) := dz_42 (n := 128) (r := 26) hz_X12_site_128 rfl
theorem dX12_site_155 : decode cX12_site 155 = .ok (.getfield 40, 3) := dz_180 (n := 128) (r := 27) hz_X12_site_128 rfl rfl
theorem dX12_site_158 : decode cX12_site 158 = .ok (.bipush 64, 2) := dz_16 (n := 128) (r := 30) hz_X12_site_128 rfl rfl
theorem hz_X12_site_160 : (cX12_site.data.toList.drop 160).take 40 = [46, 27, 182, 1, 33, 172, 19, 1, 32, 172] := by decide +kernel
theorem dX12_site_160 : decode cX12_site 160 = .ok (.iaload, 1) := dz_46 (n := 160) (r := 0) hz_X12_site_160 rfl
theorem dX12_site_161 : decode cX12_site 161 = .ok (.iload_n 1, 1) := dz_27 (n := 160) (r := 1) hz_X12_site_160 rfl
theorem dX12_site_162 : decode cX12_site 162 = .ok (.invokevirtual 289, 3) := dz_182 (n := 160) (r := 2) hz_X12_site_160 rfl rfl
theorem dX12_site_165 : decode cX12_site 165 = .ok (.ireturn, 1) := dz_172 (n := 160) (r := 5) hz_X12_site_160 rfl
theorem dX12_site_166 : decode cX12_site 166 = .ok (.ldc_w 288, 3) := dz_19 (n := 160) (r := 6) hz_X12_site_160 rfl rfl
theorem dX12_site_169 : decode cX12_site 169 = .ok (.ireturn, 1) := dz_172 (n := 160) (r := 9) hz_X12_site_160 rfl
theorem hz_X12_leastOf_0 : (cX12_leastOf.data.toList.drop 0).take 40 = [3, 61, 42, 180, 0, 57, 28, 46, 27, 159, 0, 9, 132, 2, 1, 167, 255, 243, 28, 172] := by decide +kernel
theorem dX12_leastOf_0 : decode cX12_leastOf 0 = .ok (.iconst 0, 1) := dz_3 (n := 0) (r := 0) hz_X12_leastOf_0 rfl
theorem dX12_leastOf_1 : decode cX12_leastOf 1 = .ok (.istore_n 2, 1) := dz_61 (n := 0) (r := 1) hz_X12_leastOf_0 rfl
theorem dX12_leastOf_2 : decode cX12_leastOf 2 = .ok (.aload_n 0, 1) := dz_42 (n := 0) (r := 2) hz_X12_leastOf_0 rfl
theorem dX12_leastOf_3 : decode cX12_leastOf 3 = .ok (.getfield 57, 3) := dz_180 (n := 0) (r := 3) hz_X12_leastOf_0 rfl rfl
theorem dX12_leastOf_6 : decode cX12_leastOf 6 = .ok (.iload_n 2, 1) := dz_28 (n := 0) (r := 6) hz_X12_leastOf_0 rfl
theorem dX12_leastOf_7 : decode cX12_leastOf 7 = .ok (.iaload, 1) := dz_46 (n := 0) (r := 7) hz_X12_leastOf_0 rfl
theorem dX12_leastOf_8 : decode cX12_leastOf 8 = .ok (.iload_n 1, 1) := dz_27 (n := 0) (r := 8) hz_X12_leastOf_0 rfl
theorem dX12_leastOf_9 : decode cX12_leastOf 9 = .ok (.if_icmp .eq 9, 3) := dz_159 (n := 0) (r := 9) hz_X12_leastOf_0 rfl (by decide +kernel)
theorem dX12_leastOf_12 : decode cX12_leastOf 12 = .ok (.iinc 2 1, 3) := dz_132 (n := 0) (r := 12) hz_X12_leastOf_0 rfl rfl rfl
theorem dX12_leastOf_15 : decode cX12_leastOf 15 = .ok (.goto (-13), 3) := dz_167 (n := 0) (r := 15) hz_X12_leastOf_0 rfl (by decide +kernel)
theorem dX12_leastOf_18 : decode cX12_leastOf 18 = .ok (.iload_n 2, 1) := dz_28 (n := 0) (r := 18) hz_X12_leastOf_0 rfl
theorem dX12_leastOf_19 : decode cX12_leastOf 19 = .ok (.ireturn, 1) := dz_172 (n := 0) (r := 19) hz_X12_leastOf_0 rfl
theorem hz_X12_upsOf_0 : (cX12_upsOf.data.toList.drop 0).take 40 = [19, 1, 28, 62, 3, 54, 4, 21, 4, 42, 182, 1, 14, 162, 0, 39, 42, 180, 0, 57, 21, 4, 46, 27, 160, 0, 22, 28, 21, 4, 184, 1, 36, 104, 29, 162, 0, 11, 28, 21] := by decide +kernel
theorem dX12_upsOf_0 : decode cX12_upsOf 0 = .ok (.ldc_w 284, 3) := dz_19 (n := 0) (r := 0) hz_X12_upsOf_0 rfl rfl
theorem dX12_upsOf_3 : decode cX12_upsOf 3 = .ok (.istore_n 3, 1) := dz_62 (n := 0) (r := 3) hz_X12_upsOf_0 rfl
theorem dX12_upsOf_4 : decode cX12_upsOf 4 = .ok (.iconst 0, 1) := dz_3 (n := 0) (r := 4) hz_X12_upsOf_0 rfl
theorem dX12_upsOf_5 : decode cX12_upsOf 5 = .ok (.istore 4, 2) := dz_54 (n := 0) (r := 5) hz_X12_upsOf_0 rfl rfl
theorem dX12_upsOf_7 : decode cX12_upsOf 7 = .ok (.iload 4, 2) := dz_21 (n := 0) (r := 7) hz_X12_upsOf_0 rfl rfl
theorem dX12_upsOf_9 : decode cX12_upsOf 9 = .ok (.aload_n 0, 1) := dz_42 (n := 0) (r := 9) hz_X12_upsOf_0 rfl
theorem dX12_upsOf_10 : decode cX12_upsOf 10 = .ok (.invokevirtual 270, 3) := dz_182 (n := 0) (r := 10) hz_X12_upsOf_0 rfl rfl
theorem dX12_upsOf_13 : decode cX12_upsOf 13 = .ok (.if_icmp .ge 39, 3) := dz_162 (n := 0) (r := 13) hz_X12_upsOf_0 rfl (by decide +kernel)
theorem dX12_upsOf_16 : decode cX12_upsOf 16 = .ok (.aload_n 0, 1) := dz_42 (n := 0) (r := 16) hz_X12_upsOf_0 rfl
theorem dX12_upsOf_17 : decode cX12_upsOf 17 = .ok (.getfield 57, 3) := dz_180 (n := 0) (r := 17) hz_X12_upsOf_0 rfl rfl
theorem dX12_upsOf_20 : decode cX12_upsOf 20 = .ok (.iload 4, 2) := dz_21 (n := 0) (r := 20) hz_X12_upsOf_0 rfl rfl
theorem dX12_upsOf_22 : decode cX12_upsOf 22 = .ok (.iaload, 1) := dz_46 (n := 0) (r := 22) hz_X12_upsOf_0 rfl
theorem dX12_upsOf_23 : decode cX12_upsOf 23 = .ok (.iload_n 1, 1) := dz_27 (n := 0) (r := 23) hz_X12_upsOf_0 rfl
theorem dX12_upsOf_24 : decode cX12_upsOf 24 = .ok (.if_icmp .ne 22, 3) := dz_160 (n := 0) (r := 24) hz_X12_upsOf_0 rfl (by decide +kernel)
theorem dX12_upsOf_27 : decode cX12_upsOf 27 = .ok (.iload_n 2, 1) := dz_28 (n := 0) (r := 27) hz_X12_upsOf_0 rfl
theorem dX12_upsOf_28 : decode cX12_upsOf 28 = .ok (.iload 4, 2) := dz_21 (n := 0) (r := 28) hz_X12_upsOf_0 rfl rfl
theorem dX12_upsOf_30 : decode cX12_upsOf 30 = .ok (.invokestatic 292, 3) := dz_184 (n := 0) (r := 30) hz_X12_upsOf_0 rfl rfl
theorem hz_X12_upsOf_32 : (cX12_upsOf.data.toList.drop 32).take 40 = [36, 104, 29, 162, 0, 11, 28, 21, 4, 184, 1, 36, 104, 62, 132, 4, 1, 167, 255, 214, 28, 29, 104, 172] := by decide +kernel
theorem dX12_upsOf_33 : decode cX12_upsOf 33 = .ok (.imul, 1) := dz_104 (n := 32) (r := 1) hz_X12_upsOf_32 rfl
theorem dX12_upsOf_34 : decode cX12_upsOf 34 = .ok (.iload_n 3, 1) := dz_29 (n := 32) (r := 2) hz_X12_upsOf_32 rfl
theorem dX12_upsOf_35 : decode cX12_upsOf 35 = .ok (.if_icmp .ge 11, 3) := dz_162 (n := 32) (r := 3) hz_X12_upsOf_32 rfl (by decide +kernel)
theorem dX12_upsOf_38 : decode cX12_upsOf 38 = .ok (.iload_n 2, 1) := dz_28 (n := 32) (r := 6) hz_X12_upsOf_32 rfl
theorem dX12_upsOf_39 : decode cX12_upsOf 39 = .ok (.iload 4, 2) := dz_21 (n := 32) (r := 7) hz_X12_upsOf_32 rfl rfl
theorem dX12_upsOf_41 : decode cX12_upsOf 41 = .ok (.invokestatic 292, 3) := dz_184 (n := 32) (r := 9) hz_X12_upsOf_32 rfl rfl
theorem dX12_upsOf_44 : decode cX12_upsOf 44 = .ok (.imul, 1) := dz_104 (n := 32) (r := 12) hz_X12_upsOf_32 rfl
theorem dX12_upsOf_45 : decode cX12_upsOf 45 = .ok (.istore_n 3, 1) := dz_62 (n := 32) (r := 13) hz_X12_upsOf_32 rfl
theorem dX12_upsOf_46 : decode cX12_upsOf 46 = .ok (.iinc 4 1, 3) := dz_132 (n := 32) (r := 14) hz_X12_upsOf_32 rfl rfl rfl
theorem dX12_upsOf_49 : decode cX12_upsOf 49 = .ok (.goto (-42), 3) := dz_167 (n := 32) (r := 17) hz_X12_upsOf_32 rfl (by decide +kernel)
theorem dX12_upsOf_52 : decode cX12_upsOf 52 = .ok (.iload_n 2, 1) := dz_28 (n := 32) (r := 20) hz_X12_upsOf_32 rfl
theorem dX12_upsOf_53 : decode cX12_upsOf 53 = .ok (.iload_n 3, 1) := dz_29 (n := 32) (r := 21) hz_X12_upsOf_32 rfl
theorem dX12_upsOf_54 : decode cX12_upsOf 54 = .ok (.imul, 1) := dz_104 (n := 32) (r := 22) hz_X12_upsOf_32 rfl
theorem dX12_upsOf_55 : decode cX12_upsOf 55 = .ok (.ireturn, 1) := dz_172 (n := 32) (r := 23) hz_X12_upsOf_32 rfl
theorem hz_X12_level_0 : (cX12_level.data.toList.drop 0).take 40 = [42, 182, 1, 5, 27, 2, 160, 0, 8, 42, 180, 1, 29, 172, 27, 3, 42, 180, 1, 29, 4, 100, 184, 0, 213, 154, 0, 7, 19, 1, 32, 172, 28, 170, 0, 0, 0, 0, 0, 93] := by decide +kernel
theorem dX12_level_0 : decode cX12_level 0 = .ok (.aload_n 0, 1) := dz_42 (n := 0) (r := 0) hz_X12_level_0 rfl
theorem dX12_level_1 : decode cX12_level 1 = .ok (.invokevirtual 261, 3) := dz_182 (n := 0) (r := 1) hz_X12_level_0 rfl rfl
theorem dX12_level_4 : decode cX12_level 4 = .ok (.iload_n 1, 1) := dz_27 (n := 0) (r := 4) hz_X12_level_0 rfl
theorem dX12_level_5 : decode cX12_level 5 = .ok (.iconst (-1), 1) := dz_2 (n := 0) (r := 5) hz_X12_level_0 rfl
theorem dX12_level_6 : decode cX12_level 6 = .ok (.if_icmp .ne 8, 3) := dz_160 (n := 0) (r := 6) hz_X12_level_0 rfl (by decide +kernel)
theorem dX12_level_9 : decode cX12_level 9 = .ok (.aload_n 0, 1) := dz_42 (n := 0) (r := 9) hz_X12_level_0 rfl
theorem dX12_level_10 : decode cX12_level 10 = .ok (.getfield 285, 3) := dz_180 (n := 0) (r := 10) hz_X12_level_0 rfl rfl
theorem dX12_level_13 : decode cX12_level 13 = .ok (.ireturn, 1) := dz_172 (n := 0) (r := 13) hz_X12_level_0 rfl
theorem dX12_level_14 : decode cX12_level 14 = .ok (.iload_n 1, 1) := dz_27 (n := 0) (r := 14) hz_X12_level_0 rfl
theorem dX12_level_15 : decode cX12_level 15 = .ok (.iconst 0, 1) := dz_3 (n := 0) (r := 15) hz_X12_level_0 rfl
theorem dX12_level_16 : decode cX12_level 16 = .ok (.aload_n 0, 1) := dz_42 (n := 0) (r := 16) hz_X12_level_0 rfl
theorem dX12_level_17 : decode cX12_level 17 = .ok (.getfield 285, 3) := dz_180 (n := 0) (r := 17) hz_X12_level_0 rfl rfl
theorem dX12_level_20 : decode cX12_level 20 = .ok (.iconst 1, 1) := dz_4 (n := 0) (r := 20) hz_X12_level_0 rfl
theorem dX12_level_21 : decode cX12_level 21 = .ok (.isub, 1) := dz_100 (n := 0) (r := 21) hz_X12_level_0 rfl
theorem dX12_level_22 : decode cX12_level 22 = .ok (.invokestatic 213, 3) := dz_184 (n := 0) (r := 22) hz_X12_level_0 rfl rfl
theorem dX12_level_25 : decode cX12_level 25 = .ok (.ifCond .ne 7, 3) := dz_154 (n := 0) (r := 25) hz_X12_level_0 rfl (by decide +kernel)
theorem dX12_level_28 : decode cX12_level 28 = .ok (.ldc_w 288, 3) := dz_19 (n := 0) (r := 28) hz_X12_level_0 rfl rfl
theorem dX12_level_31 : decode cX12_level 31 = .ok (.ireturn, 1) := dz_172 (n := 0) (r := 31) hz_X12_level_0 rfl
theorem hz_X12_level_32 : (cX12_level.data.toList.drop 32).take 40 = [28, 170, 0, 0, 0, 0, 0, 93, 0, 0, 0, 0, 0, 0, 0, 4, 0, 0, 0, 35, 0, 0, 0, 42, 0, 0, 0, 58, 0, 0, 0, 69, 0, 0, 0, 81, 42, 180, 0, 63] := by decide +kernel
theorem dX12_level_32 : decode cX12_level 32 = .ok (.iload_n 2, 1) := dz_28 (n := 32) (r := 0) hz_X12_level_32 rfl
theorem dX12_level_33 : decode cX12_level 33 = .ok (.tableswitch 93 0 4 #[35, 42, 58, 69, 81], 35) := by decide +kernel
theorem hz_X12_level_64 : (cX12_level.data.toList.drop 64).take 40 = [0, 0, 0, 81, 42, 180, 0, 63, 27, 46, 172, 42, 180, 0, 60, 17, 0, 150, 42, 180, 0, 63, 27, 46, 96, 46, 172, 42, 42, 180, 0, 63, 27, 46, 182, 1, 39, 172, 42, 42] := by decide +kernel
theorem dX12_level_68 : decode cX12_level 68 = .ok (.aload_n 0, 1) := dz_42 (n := 64) (r := 4) hz_X12_level_64 rfl
theorem dX12_level_69 : decode cX12_level 69 = .ok (.getfield 63, 3) := dz_180 (n := 64) (r := 5) hz_X12_level_64 rfl rfl
theorem dX12_level_72 : decode cX12_level 72 = .ok (.iload_n 1, 1) := dz_27 (n := 64) (r := 8) hz_X12_level_64 rfl
theorem dX12_level_73 : decode cX12_level 73 = .ok (.iaload, 1) := dz_46 (n := 64) (r := 9) hz_X12_level_64 rfl
theorem dX12_level_74 : decode cX12_level 74 = .ok (.ireturn, 1) := dz_172 (n := 64) (r := 10) hz_X12_level_64 rfl
theorem dX12_level_75 : decode cX12_level 75 = .ok (.aload_n 0, 1) := dz_42 (n := 64) (r := 11) hz_X12_level_64 rfl
theorem dX12_level_76 : decode cX12_level 76 = .ok (.getfield 60, 3) := dz_180 (n := 64) (r := 12) hz_X12_level_64 rfl rfl
theorem dX12_level_79 : decode cX12_level 79 = .ok (.sipush 150, 3) := dz_17 (n := 64) (r := 15) hz_X12_level_64 rfl (by decide +kernel)
theorem dX12_level_82 : decode cX12_level 82 = .ok (.aload_n 0, 1) := dz_42 (n := 64) (r := 18) hz_X12_level_64 rfl
theorem dX12_level_83 : decode cX12_level 83 = .ok (.getfield 63, 3) := dz_180 (n := 64) (r := 19) hz_X12_level_64 rfl rfl
theorem dX12_level_86 : decode cX12_level 86 = .ok (.iload_n 1, 1) := dz_27 (n := 64) (r := 22) hz_X12_level_64 rfl
theorem dX12_level_87 : decode cX12_level 87 = .ok (.iaload, 1) := dz_46 (n := 64) (r := 23) hz_X12_level_64 rfl
theorem dX12_level_88 : decode cX12_level 88 = .ok (.iadd, 1) := dz_96 (n := 64) (r := 24) hz_X12_level_64 rfl
theorem dX12_level_89 : decode cX12_level 89 = .ok (.iaload, 1) := dz_46 (n := 64) (r := 25) hz_X12_level_64 rfl
theorem dX12_level_90 : decode cX12_level 90 = .ok (.ireturn, 1) := dz_172 (n := 64) (r := 26) hz_X12_level_64 rfl
theorem dX12_level_91 : decode cX12_level 91 = .ok (.aload_n 0, 1) := dz_42 (n := 64) (r := 27) hz_X12_level_64 rfl
theorem dX12_level_92 : decode cX12_level 92 = .ok (.aload_n 0, 1) := dz_42 (n := 64) (r := 28) hz_X12_level_64 rfl
theorem dX12_level_93 : decode cX12_level 93 = .ok (.getfield 63, 3) := dz_180 (n := 64) (r := 29) hz_X12_level_64 rfl rfl
theorem hz_X12_level_96 : (cX12_level.data.toList.drop 96).take 40 = [27, 46, 182, 1, 39, 172, 42, 42, 180, 0, 63, 27, 46, 4, 182, 1, 42, 172, 42, 42, 180, 0, 63, 27, 46, 2, 182, 1, 42, 172, 19, 1, 32, 172] := by decide +kernel
theorem dX12_level_96 : decode cX12_level 96 = .ok (.iload_n 1, 1) := dz_27 (n := 96) (r := 0) hz_X12_level_96 rfl
theorem dX12_level_97 : decode cX12_level 97 = .ok (.iaload, 1) := dz_46 (n := 96) (r := 1) hz_X12_level_96 rfl
theorem dX12_level_98 : decode cX12_level 98 = .ok (.invokevirtual 295, 3) := dz_182 (n := 96) (r := 2) hz_X12_level_96 rfl rfl
theorem dX12_level_101 : decode cX12_level 101 = .ok (.ireturn, 1) := dz_172 (n := 96) (r := 5) hz_X12_level_96 rfl
theorem dX12_level_102 : decode cX12_level 102 = .ok (.aload_n 0, 1) := dz_42 (n := 96) (r := 6) hz_X12_level_96 rfl
theorem dX12_level_103 : decode cX12_level 103 = .ok (.aload_n 0, 1) := dz_42 (n := 96) (r := 7) hz_X12_level_96 rfl
theorem dX12_level_104 : decode cX12_level 104 = .ok (.getfield 63, 3) := dz_180 (n := 96) (r := 8) hz_X12_level_96 rfl rfl
theorem dX12_level_107 : decode cX12_level 107 = .ok (.iload_n 1, 1) := dz_27 (n := 96) (r := 11) hz_X12_level_96 rfl
theorem dX12_level_108 : decode cX12_level 108 = .ok (.iaload, 1) := dz_46 (n := 96) (r := 12) hz_X12_level_96 rfl
theorem dX12_level_109 : decode cX12_level 109 = .ok (.iconst 1, 1) := dz_4 (n := 96) (r := 13) hz_X12_level_96 rfl
theorem dX12_level_110 : decode cX12_level 110 = .ok (.invokevirtual 298, 3) := dz_182 (n := 96) (r := 14) hz_X12_level_96 rfl rfl
theorem dX12_level_113 : decode cX12_level 113 = .ok (.ireturn, 1) := dz_172 (n := 96) (r := 17) hz_X12_level_96 rfl
theorem dX12_level_114 : decode cX12_level 114 = .ok (.aload_n 0, 1) := dz_42 (n := 96) (r := 18) hz_X12_level_96 rfl
theorem dX12_level_115 : decode cX12_level 115 = .ok (.aload_n 0, 1) := dz_42 (n := 96) (r := 19) hz_X12_level_96 rfl
theorem dX12_level_116 : decode cX12_level 116 = .ok (.getfield 63, 3) := dz_180 (n := 96) (r := 20) hz_X12_level_96 rfl rfl
theorem dX12_level_119 : decode cX12_level 119 = .ok (.iload_n 1, 1) := dz_27 (n := 96) (r := 23) hz_X12_level_96 rfl
theorem dX12_level_120 : decode cX12_level 120 = .ok (.iaload, 1) := dz_46 (n := 96) (r := 24) hz_X12_level_96 rfl
theorem dX12_level_121 : decode cX12_level 121 = .ok (.iconst (-1), 1) := dz_2 (n := 96) (r := 25) hz_X12_level_96 rfl
theorem dX12_level_122 : decode cX12_level 122 = .ok (.invokevirtual 298, 3) := dz_182 (n := 96) (r := 26) hz_X12_level_96 rfl rfl
theorem dX12_level_125 : decode cX12_level 125 = .ok (.ireturn, 1) := dz_172 (n := 96) (r := 29) hz_X12_level_96 rfl
theorem dX12_level_126 : decode cX12_level 126 = .ok (.ldc_w 288, 3) := dz_19 (n := 96) (r := 30) hz_X12_level_96 rfl rfl
theorem hz_X12_level_128 : (cX12_level.data.toList.drop 128).take 40 = [32, 172] := by decide +kernel
theorem dX12_level_129 : decode cX12_level 129 = .ok (.ireturn, 1) := dz_172 (n := 128) (r := 1) hz_X12_level_128 rfl
theorem hz_X12_both_0 : (cX12_both.data.toList.drop 0).take 40 = [42, 182, 1, 5, 3, 62, 3, 54, 4, 21, 4, 42, 182, 1, 14, 162, 0, 45, 42, 180, 0, 57, 21, 4, 46, 19, 1, 28, 162, 0, 26, 42, 180, 0, 57, 21, 4, 46, 27, 160] := by decide +kernel
theorem dX12_both_0 : decode cX12_both 0 = .ok (.aload_n 0, 1) := dz_42 (n := 0) (r := 0) hz_X12_both_0 rfl
theorem dX12_both_1 : decode cX12_both 1 = .ok (.invokevirtual 261, 3) := dz_182 (n := 0) (r := 1) hz_X12_both_0 rfl rfl
theorem dX12_both_4 : decode cX12_both 4 = .ok (.iconst 0, 1) := dz_3 (n := 0) (r := 4) hz_X12_both_0 rfl
theorem dX12_both_5 : decode cX12_both 5 = .ok (.istore_n 3, 1) := dz_62 (n := 0) (r := 5) hz_X12_both_0 rfl
theorem dX12_both_6 : decode cX12_both 6 = .ok (.iconst 0, 1) := dz_3 (n := 0) (r := 6) hz_X12_both_0 rfl
theorem dX12_both_7 : decode cX12_both 7 = .ok (.istore 4, 2) := dz_54 (n := 0) (r := 7) hz_X12_both_0 rfl rfl
theorem dX12_both_9 : decode cX12_both 9 = .ok (.iload 4, 2) := dz_21 (n := 0) (r := 9) hz_X12_both_0 rfl rfl
theorem dX12_both_11 : decode cX12_both 11 = .ok (.aload_n 0, 1) := dz_42 (n := 0) (r := 11) hz_X12_both_0 rfl
theorem dX12_both_12 : decode cX12_both 12 = .ok (.invokevirtual 270, 3) := dz_182 (n := 0) (r := 12) hz_X12_both_0 rfl rfl
theorem dX12_both_15 : decode cX12_both 15 = .ok (.if_icmp .ge 45, 3) := dz_162 (n := 0) (r := 15) hz_X12_both_0 rfl (by decide +kernel)
theorem dX12_both_18 : decode cX12_both 18 = .ok (.aload_n 0, 1) := dz_42 (n := 0) (r := 18) hz_X12_both_0 rfl
theorem dX12_both_19 : decode cX12_both 19 = .ok (.getfield 57, 3) := dz_180 (n := 0) (r := 19) hz_X12_both_0 rfl rfl
theorem dX12_both_22 : decode cX12_both 22 = .ok (.iload 4, 2) := dz_21 (n := 0) (r := 22) hz_X12_both_0 rfl rfl
theorem dX12_both_24 : decode cX12_both 24 = .ok (.iaload, 1) := dz_46 (n := 0) (r := 24) hz_X12_both_0 rfl
theorem dX12_both_25 : decode cX12_both 25 = .ok (.ldc_w 284, 3) := dz_19 (n := 0) (r := 25) hz_X12_both_0 rfl rfl
theorem dX12_both_28 : decode cX12_both 28 = .ok (.if_icmp .ge 26, 3) := dz_162 (n := 0) (r := 28) hz_X12_both_0 rfl (by decide +kernel)
theorem dX12_both_31 : decode cX12_both 31 = .ok (.aload_n 0, 1) := dz_42 (n := 0) (r := 31) hz_X12_both_0 rfl
theorem hz_X12_both_32 : (cX12_both.data.toList.drop 32).take 40 = [180, 0, 57, 21, 4, 46, 27, 160, 0, 15, 21, 4, 184, 1, 36, 28, 160, 0, 6, 132, 3, 1, 132, 4, 1, 167, 255, 208, 29, 172] := by decide +kernel
theorem dX12_both_32 : decode cX12_both 32 = .ok (.getfield 57, 3) := dz_180 (n := 32) (r := 0) hz_X12_both_32 rfl rfl
theorem dX12_both_35 : decode cX12_both 35 = .ok (.iload 4, 2) := dz_21 (n := 32) (r := 3) hz_X12_both_32 rfl rfl
theorem dX12_both_37 : decode cX12_both 37 = .ok (.iaload, 1) := dz_46 (n := 32) (r := 5) hz_X12_both_32 rfl
theorem dX12_both_38 : decode cX12_both 38 = .ok (.iload_n 1, 1) := dz_27 (n := 32) (r := 6) hz_X12_both_32 rfl
theorem dX12_both_39 : decode cX12_both 39 = .ok (.if_icmp .ne 15, 3) := dz_160 (n := 32) (r := 7) hz_X12_both_32 rfl (by decide +kernel)
theorem dX12_both_42 : decode cX12_both 42 = .ok (.iload 4, 2) := dz_21 (n := 32) (r := 10) hz_X12_both_32 rfl rfl
theorem dX12_both_44 : decode cX12_both 44 = .ok (.invokestatic 292, 3) := dz_184 (n := 32) (r := 12) hz_X12_both_32 rfl rfl
theorem dX12_both_47 : decode cX12_both 47 = .ok (.iload_n 2, 1) := dz_28 (n := 32) (r := 15) hz_X12_both_32 rfl
theorem dX12_both_48 : decode cX12_both 48 = .ok (.if_icmp .ne 6, 3) := dz_160 (n := 32) (r := 16) hz_X12_both_32 rfl (by decide +kernel)
theorem dX12_both_51 : decode cX12_both 51 = .ok (.iinc 3 1, 3) := dz_132 (n := 32) (r := 19) hz_X12_both_32 rfl rfl rfl
theorem dX12_both_54 : decode cX12_both 54 = .ok (.iinc 4 1, 3) := dz_132 (n := 32) (r := 22) hz_X12_both_32 rfl rfl rfl
theorem dX12_both_57 : decode cX12_both 57 = .ok (.goto (-48), 3) := dz_167 (n := 32) (r := 25) hz_X12_both_32 rfl (by decide +kernel)
theorem dX12_both_60 : decode cX12_both 60 = .ok (.iload_n 3, 1) := dz_29 (n := 32) (r := 28) hz_X12_both_32 rfl
theorem dX12_both_61 : decode cX12_both 61 = .ok (.ireturn, 1) := dz_172 (n := 32) (r := 29) hz_X12_both_32 rfl
theorem hz_X12_brokenOf_0 : (cX12_brokenOf.data.toList.drop 0).take 40 = [3, 61, 3, 62, 29, 5, 42, 182, 0, 193, 104, 162, 0, 100, 29, 5, 108, 54, 4, 29, 5, 112, 4, 160, 0, 7, 4, 167, 0, 4, 3, 54, 5, 42, 21, 4, 21, 5, 182, 0] := by decide +kernel
theorem dX12_brokenOf_0 : decode cX12_brokenOf 0 = .ok (.iconst 0, 1) := dz_3 (n := 0) (r := 0) hz_X12_brokenOf_0 rfl
theorem dX12_brokenOf_1 : decode cX12_brokenOf 1 = .ok (.istore_n 2, 1) := dz_61 (n := 0) (r := 1) hz_X12_brokenOf_0 rfl
theorem dX12_brokenOf_2 : decode cX12_brokenOf 2 = .ok (.iconst 0, 1) := dz_3 (n := 0) (r := 2) hz_X12_brokenOf_0 rfl
theorem dX12_brokenOf_3 : decode cX12_brokenOf 3 = .ok (.istore_n 3, 1) := dz_62 (n := 0) (r := 3) hz_X12_brokenOf_0 rfl
theorem dX12_brokenOf_4 : decode cX12_brokenOf 4 = .ok (.iload_n 3, 1) := dz_29 (n := 0) (r := 4) hz_X12_brokenOf_0 rfl
theorem dX12_brokenOf_5 : decode cX12_brokenOf 5 = .ok (.iconst 2, 1) := dz_5 (n := 0) (r := 5) hz_X12_brokenOf_0 rfl
theorem dX12_brokenOf_6 : decode cX12_brokenOf 6 = .ok (.aload_n 0, 1) := dz_42 (n := 0) (r := 6) hz_X12_brokenOf_0 rfl
theorem dX12_brokenOf_7 : decode cX12_brokenOf 7 = .ok (.invokevirtual 193, 3) := dz_182 (n := 0) (r := 7) hz_X12_brokenOf_0 rfl rfl
theorem dX12_brokenOf_10 : decode cX12_brokenOf 10 = .ok (.imul, 1) := dz_104 (n := 0) (r := 10) hz_X12_brokenOf_0 rfl
theorem dX12_brokenOf_11 : decode cX12_brokenOf 11 = .ok (.if_icmp .ge 100, 3) := dz_162 (n := 0) (r := 11) hz_X12_brokenOf_0 rfl (by decide +kernel)
theorem dX12_brokenOf_14 : decode cX12_brokenOf 14 = .ok (.iload_n 3, 1) := dz_29 (n := 0) (r := 14) hz_X12_brokenOf_0 rfl
theorem dX12_brokenOf_15 : decode cX12_brokenOf 15 = .ok (.iconst 2, 1) := dz_5 (n := 0) (r := 15) hz_X12_brokenOf_0 rfl
theorem dX12_brokenOf_16 : decode cX12_brokenOf 16 = .ok (.idiv, 1) := dz_108 (n := 0) (r := 16) hz_X12_brokenOf_0 rfl
theorem dX12_brokenOf_17 : decode cX12_brokenOf 17 = .ok (.istore 4, 2) := dz_54 (n := 0) (r := 17) hz_X12_brokenOf_0 rfl rfl
theorem dX12_brokenOf_19 : decode cX12_brokenOf 19 = .ok (.iload_n 3, 1) := dz_29 (n := 0) (r := 19) hz_X12_brokenOf_0 rfl
theorem dX12_brokenOf_20 : decode cX12_brokenOf 20 = .ok (.iconst 2, 1) := dz_5 (n := 0) (r := 20) hz_X12_brokenOf_0 rfl
theorem dX12_brokenOf_21 : decode cX12_brokenOf 21 = .ok (.irem, 1) := dz_112 (n := 0) (r := 21) hz_X12_brokenOf_0 rfl
theorem dX12_brokenOf_22 : decode cX12_brokenOf 22 = .ok (.iconst 1, 1) := dz_4 (n := 0) (r := 22) hz_X12_brokenOf_0 rfl
theorem dX12_brokenOf_23 : decode cX12_brokenOf 23 = .ok (.if_icmp .ne 7, 3) := dz_160 (n := 0) (r := 23) hz_X12_brokenOf_0 rfl (by decide +kernel)
theorem dX12_brokenOf_26 : decode cX12_brokenOf 26 = .ok (.iconst 1, 1) := dz_4 (n := 0) (r := 26) hz_X12_brokenOf_0 rfl
theorem dX12_brokenOf_27 : decode cX12_brokenOf 27 = .ok (.goto 4, 3) := dz_167 (n := 0) (r := 27) hz_X12_brokenOf_0 rfl (by decide +kernel)
theorem dX12_brokenOf_30 : decode cX12_brokenOf 30 = .ok (.iconst 0, 1) := dz_3 (n := 0) (r := 30) hz_X12_brokenOf_0 rfl
theorem dX12_brokenOf_31 : decode cX12_brokenOf 31 = .ok (.istore 5, 2) := dz_54 (n := 0) (r := 31) hz_X12_brokenOf_0 rfl rfl
theorem hz_X12_brokenOf_32 : (cX12_brokenOf.data.toList.drop 32).take 40 = [5, 42, 21, 4, 21, 5, 182, 0, 236, 54, 6, 42, 180, 0, 40, 21, 4, 21, 5, 184, 0, 240, 54, 7, 21, 6, 155, 0, 47, 21, 7, 154, 0, 6, 167, 0, 39, 27, 21, 4] := by decide +kernel
theorem dX12_brokenOf_33 : decode cX12_brokenOf 33 = .ok (.aload_n 0, 1) := dz_42 (n := 32) (r := 1) hz_X12_brokenOf_32 rfl
theorem dX12_brokenOf_34 : decode cX12_brokenOf 34 = .ok (.iload 4, 2) := dz_21 (n := 32) (r := 2) hz_X12_brokenOf_32 rfl rfl
theorem dX12_brokenOf_36 : decode cX12_brokenOf 36 = .ok (.iload 5, 2) := dz_21 (n := 32) (r := 4) hz_X12_brokenOf_32 rfl rfl
theorem dX12_brokenOf_38 : decode cX12_brokenOf 38 = .ok (.invokevirtual 236, 3) := dz_182 (n := 32) (r := 6) hz_X12_brokenOf_32 rfl rfl
theorem dX12_brokenOf_41 : decode cX12_brokenOf 41 = .ok (.istore 6, 2) := dz_54 (n := 32) (r := 9) hz_X12_brokenOf_32 rfl rfl
theorem dX12_brokenOf_43 : decode cX12_brokenOf 43 = .ok (.aload_n 0, 1) := dz_42 (n := 32) (r := 11) hz_X12_brokenOf_32 rfl
theorem dX12_brokenOf_44 : decode cX12_brokenOf 44 = .ok (.getfield 40, 3) := dz_180 (n := 32) (r := 12) hz_X12_brokenOf_32 rfl rfl
theorem dX12_brokenOf_47 : decode cX12_brokenOf 47 = .ok (.iload 4, 2) := dz_21 (n := 32) (r := 15) hz_X12_brokenOf_32 rfl rfl
theorem dX12_brokenOf_49 : decode cX12_brokenOf 49 = .ok (.iload 5, 2) := dz_21 (n := 32) (r := 17) hz_X12_brokenOf_32 rfl rfl
theorem dX12_brokenOf_51 : decode cX12_brokenOf 51 = .ok (.invokestatic 240, 3) := dz_184 (n := 32) (r := 19) hz_X12_brokenOf_32 rfl rfl
theorem dX12_brokenOf_54 : decode cX12_brokenOf 54 = .ok (.istore 7, 2) := dz_54 (n := 32) (r := 22) hz_X12_brokenOf_32 rfl rfl
theorem dX12_brokenOf_56 : decode cX12_brokenOf 56 = .ok (.iload 6, 2) := dz_21 (n := 32) (r := 24) hz_X12_brokenOf_32 rfl rfl
theorem dX12_brokenOf_58 : decode cX12_brokenOf 58 = .ok (.ifCond .lt 47, 3) := dz_155 (n := 32) (r := 26) hz_X12_brokenOf_32 rfl (by decide +kernel)
theorem dX12_brokenOf_61 : decode cX12_brokenOf 61 = .ok (.iload 7, 2) := dz_21 (n := 32) (r := 29) hz_X12_brokenOf_32 rfl rfl
theorem dX12_brokenOf_63 : decode cX12_brokenOf 63 = .ok (.ifCond .ne 6, 3) := dz_154 (n := 32) (r := 31) hz_X12_brokenOf_32 rfl (by decide +kernel)
theorem hz_X12_brokenOf_64 : (cX12_brokenOf.data.toList.drop 64).take 40 = [0, 6, 167, 0, 39, 27, 21, 4, 184, 1, 45, 27, 21, 6, 184, 1, 45, 160, 0, 7, 4, 167, 0, 4, 3, 21, 7, 156, 0, 7, 4, 167, 0, 4, 3, 160, 0, 6, 132, 2] := by decide +kernel
theorem dX12_brokenOf_66 : decode cX12_brokenOf 66 = .ok (.goto 39, 3) := dz_167 (n := 64) (r := 2) hz_X12_brokenOf_64 rfl (by decide +kernel)
theorem dX12_brokenOf_69 : decode cX12_brokenOf 69 = .ok (.iload_n 1, 1) := dz_27 (n := 64) (r := 5) hz_X12_brokenOf_64 rfl
theorem dX12_brokenOf_70 : decode cX12_brokenOf 70 = .ok (.iload 4, 2) := dz_21 (n := 64) (r := 6) hz_X12_brokenOf_64 rfl rfl
theorem dX12_brokenOf_72 : decode cX12_brokenOf 72 = .ok (.invokestatic 301, 3) := dz_184 (n := 64) (r := 8) hz_X12_brokenOf_64 rfl rfl
theorem dX12_brokenOf_75 : decode cX12_brokenOf 75 = .ok (.iload_n 1, 1) := dz_27 (n := 64) (r := 11) hz_X12_brokenOf_64 rfl
theorem dX12_brokenOf_76 : decode cX12_brokenOf 76 = .ok (.iload 6, 2) := dz_21 (n := 64) (r := 12) hz_X12_brokenOf_64 rfl rfl
theorem dX12_brokenOf_78 : decode cX12_brokenOf 78 = .ok (.invokestatic 301, 3) := dz_184 (n := 64) (r := 14) hz_X12_brokenOf_64 rfl rfl
theorem dX12_brokenOf_81 : decode cX12_brokenOf 81 = .ok (.if_icmp .ne 7, 3) := dz_160 (n := 64) (r := 17) hz_X12_brokenOf_64 rfl (by decide +kernel)
theorem dX12_brokenOf_84 : decode cX12_brokenOf 84 = .ok (.iconst 1, 1) := dz_4 (n := 64) (r := 20) hz_X12_brokenOf_64 rfl
theorem dX12_brokenOf_85 : decode cX12_brokenOf 85 = .ok (.goto 4, 3) := dz_167 (n := 64) (r := 21) hz_X12_brokenOf_64 rfl (by decide +kernel)
theorem dX12_brokenOf_88 : decode cX12_brokenOf 88 = .ok (.iconst 0, 1) := dz_3 (n := 64) (r := 24) hz_X12_brokenOf_64 rfl
theorem dX12_brokenOf_89 : decode cX12_brokenOf 89 = .ok (.iload 7, 2) := dz_21 (n := 64) (r := 25) hz_X12_brokenOf_64 rfl rfl
theorem dX12_brokenOf_91 : decode cX12_brokenOf 91 = .ok (.ifCond .ge 7, 3) := dz_156 (n := 64) (r := 27) hz_X12_brokenOf_64 rfl (by decide +kernel)
theorem dX12_brokenOf_94 : decode cX12_brokenOf 94 = .ok (.iconst 1, 1) := dz_4 (n := 64) (r := 30) hz_X12_brokenOf_64 rfl
theorem dX12_brokenOf_95 : decode cX12_brokenOf 95 = .ok (.goto 4, 3) := dz_167 (n := 64) (r := 31) hz_X12_brokenOf_64 rfl (by decide +kernel)
theorem hz_X12_brokenOf_96 : (cX12_brokenOf.data.toList.drop 96).take 40 = [0, 4, 3, 160, 0, 6, 132, 2, 1, 132, 3, 1, 167, 255, 152, 28, 172] := by decide +kernel
theorem dX12_brokenOf_98 : decode cX12_brokenOf 98 = .ok (.iconst 0, 1) := dz_3 (n := 96) (r := 2) hz_X12_brokenOf_96 rfl
theorem dX12_brokenOf_99 : decode cX12_brokenOf 99 = .ok (.if_icmp .ne 6, 3) := dz_160 (n := 96) (r := 3) hz_X12_brokenOf_96 rfl (by decide +kernel)
theorem dX12_brokenOf_102 : decode cX12_brokenOf 102 = .ok (.iinc 2 1, 3) := dz_132 (n := 96) (r := 6) hz_X12_brokenOf_96 rfl rfl rfl
theorem dX12_brokenOf_105 : decode cX12_brokenOf 105 = .ok (.iinc 3 1, 3) := dz_132 (n := 96) (r := 9) hz_X12_brokenOf_96 rfl rfl rfl
theorem dX12_brokenOf_108 : decode cX12_brokenOf 108 = .ok (.goto (-104), 3) := dz_167 (n := 96) (r := 12) hz_X12_brokenOf_96 rfl (by decide +kernel)
theorem dX12_brokenOf_111 : decode cX12_brokenOf 111 = .ok (.iload_n 2, 1) := dz_28 (n := 96) (r := 15) hz_X12_brokenOf_96 rfl
theorem dX12_brokenOf_112 : decode cX12_brokenOf 112 = .ok (.ireturn, 1) := dz_172 (n := 96) (r := 16) hz_X12_brokenOf_96 rfl
theorem hz_X12_broken_0 : (cX12_broken.data.toList.drop 0).take 40 = [42, 182, 1, 5, 3, 61, 3, 62, 29, 42, 182, 1, 14, 162, 0, 33, 42, 180, 0, 57, 29, 46, 19, 1, 28, 162, 0, 15, 42, 29, 182, 1, 49, 27, 160, 0, 6, 132, 2, 1] := by decide +kernel
theorem dX12_broken_0 : decode cX12_broken 0 = .ok (.aload_n 0, 1) := dz_42 (n := 0) (r := 0) hz_X12_broken_0 rfl
theorem dX12_broken_1 : decode cX12_broken 1 = .ok (.invokevirtual 261, 3) := dz_182 (n := 0) (r := 1) hz_X12_broken_0 rfl rfl
theorem dX12_broken_4 : decode cX12_broken 4 = .ok (.iconst 0, 1) := dz_3 (n := 0) (r := 4) hz_X12_broken_0 rfl
theorem dX12_broken_5 : decode cX12_broken 5 = .ok (.istore_n 2, 1) := dz_61 (n := 0) (r := 5) hz_X12_broken_0 rfl
theorem dX12_broken_6 : decode cX12_broken 6 = .ok (.iconst 0, 1) := dz_3 (n := 0) (r := 6) hz_X12_broken_0 rfl
theorem dX12_broken_7 : decode cX12_broken 7 = .ok (.istore_n 3, 1) := dz_62 (n := 0) (r := 7) hz_X12_broken_0 rfl
theorem dX12_broken_8 : decode cX12_broken 8 = .ok (.iload_n 3, 1) := dz_29 (n := 0) (r := 8) hz_X12_broken_0 rfl
theorem dX12_broken_9 : decode cX12_broken 9 = .ok (.aload_n 0, 1) := dz_42 (n := 0) (r := 9) hz_X12_broken_0 rfl
theorem dX12_broken_10 : decode cX12_broken 10 = .ok (.invokevirtual 270, 3) := dz_182 (n := 0) (r := 10) hz_X12_broken_0 rfl rfl
theorem dX12_broken_13 : decode cX12_broken 13 = .ok (.if_icmp .ge 33, 3) := dz_162 (n := 0) (r := 13) hz_X12_broken_0 rfl (by decide +kernel)
theorem dX12_broken_16 : decode cX12_broken 16 = .ok (.aload_n 0, 1) := dz_42 (n := 0) (r := 16) hz_X12_broken_0 rfl
theorem dX12_broken_17 : decode cX12_broken 17 = .ok (.getfield 57, 3) := dz_180 (n := 0) (r := 17) hz_X12_broken_0 rfl rfl
theorem dX12_broken_20 : decode cX12_broken 20 = .ok (.iload_n 3, 1) := dz_29 (n := 0) (r := 20) hz_X12_broken_0 rfl
theorem dX12_broken_21 : decode cX12_broken 21 = .ok (.iaload, 1) := dz_46 (n := 0) (r := 21) hz_X12_broken_0 rfl
theorem dX12_broken_22 : decode cX12_broken 22 = .ok (.ldc_w 284, 3) := dz_19 (n := 0) (r := 22) hz_X12_broken_0 rfl rfl
theorem dX12_broken_25 : decode cX12_broken 25 = .ok (.if_icmp .ge 15, 3) := dz_162 (n := 0) (r := 25) hz_X12_broken_0 rfl (by decide +kernel)
theorem dX12_broken_28 : decode cX12_broken 28 = .ok (.aload_n 0, 1) := dz_42 (n := 0) (r := 28) hz_X12_broken_0 rfl
theorem dX12_broken_29 : decode cX12_broken 29 = .ok (.iload_n 3, 1) := dz_29 (n := 0) (r := 29) hz_X12_broken_0 rfl
theorem dX12_broken_30 : decode cX12_broken 30 = .ok (.invokevirtual 305, 3) := dz_182 (n := 0) (r := 30) hz_X12_broken_0 rfl rfl
theorem hz_X12_broken_32 : (cX12_broken.data.toList.drop 32).take 40 = [49, 27, 160, 0, 6, 132, 2, 1, 132, 3, 1, 167, 255, 221, 28, 172] := by decide +kernel
theorem dX12_broken_33 : decode cX12_broken 33 = .ok (.iload_n 1, 1) := dz_27 (n := 32) (r := 1) hz_X12_broken_32 rfl
theorem dX12_broken_34 : decode cX12_broken 34 = .ok (.if_icmp .ne 6, 3) := dz_160 (n := 32) (r := 2) hz_X12_broken_32 rfl (by decide +kernel)
theorem dX12_broken_37 : decode cX12_broken 37 = .ok (.iinc 2 1, 3) := dz_132 (n := 32) (r := 5) hz_X12_broken_32 rfl rfl rfl
theorem dX12_broken_40 : decode cX12_broken 40 = .ok (.iinc 3 1, 3) := dz_132 (n := 32) (r := 8) hz_X12_broken_32 rfl rfl rfl
theorem dX12_broken_43 : decode cX12_broken 43 = .ok (.goto (-35), 3) := dz_167 (n := 32) (r := 11) hz_X12_broken_32 rfl (by decide +kernel)
theorem dX12_broken_46 : decode cX12_broken 46 = .ok (.iload_n 2, 1) := dz_28 (n := 32) (r := 14) hz_X12_broken_32 rfl
theorem dX12_broken_47 : decode cX12_broken 47 = .ok (.ireturn, 1) := dz_172 (n := 32) (r := 15) hz_X12_broken_32 rfl
theorem hz_X12_ground_0 : (cX12_ground.data.toList.drop 0).take 40 = [42, 182, 1, 5, 42, 180, 1, 29, 154, 0, 7, 19, 1, 32, 172, 27, 170, 0, 0, 0, 0, 0, 0, 93, 0, 0, 0, 0, 0, 0, 0, 3, 0, 0, 0, 32, 0, 0, 0, 39] := by decide +kernel
theorem dX12_ground_0 : decode cX12_ground 0 = .ok (.aload_n 0, 1) := dz_42 (n := 0) (r := 0) hz_X12_ground_0 rfl
theorem dX12_ground_1 : decode cX12_ground 1 = .ok (.invokevirtual 261, 3) := dz_182 (n := 0) (r := 1) hz_X12_ground_0 rfl rfl
theorem dX12_ground_4 : decode cX12_ground 4 = .ok (.aload_n 0, 1) := dz_42 (n := 0) (r := 4) hz_X12_ground_0 rfl
theorem dX12_ground_5 : decode cX12_ground 5 = .ok (.getfield 285, 3) := dz_180 (n := 0) (r := 5) hz_X12_ground_0 rfl rfl
theorem dX12_ground_8 : decode cX12_ground 8 = .ok (.ifCond .ne 7, 3) := dz_154 (n := 0) (r := 8) hz_X12_ground_0 rfl (by decide +kernel)
theorem dX12_ground_11 : decode cX12_ground 11 = .ok (.ldc_w 288, 3) := dz_19 (n := 0) (r := 11) hz_X12_ground_0 rfl rfl
theorem dX12_ground_14 : decode cX12_ground 14 = .ok (.ireturn, 1) := dz_172 (n := 0) (r := 14) hz_X12_ground_0 rfl
theorem dX12_ground_15 : decode cX12_ground 15 = .ok (.iload_n 1, 1) := dz_27 (n := 0) (r := 15) hz_X12_ground_0 rfl
theorem dX12_ground_16 : decode cX12_ground 16 = .ok (.tableswitch 93 0 3 #[32, 39, 55, 66], 32) := by decide +kernel
theorem hz_X12_ground_32 : (cX12_ground.data.toList.drop 32).take 40 = [0, 0, 0, 32, 0, 0, 0, 39, 0, 0, 0, 55, 0, 0, 0, 66, 42, 180, 0, 63, 3, 46, 172, 42, 180, 0, 60, 17, 0, 150, 42, 180, 0, 63, 3, 46, 96, 46, 172, 42] := by decide +kernel
theorem dX12_ground_48 : decode cX12_ground 48 = .ok (.aload_n 0, 1) := dz_42 (n := 32) (r := 16) hz_X12_ground_32 rfl
theorem dX12_ground_49 : decode cX12_ground 49 = .ok (.getfield 63, 3) := dz_180 (n := 32) (r := 17) hz_X12_ground_32 rfl rfl
theorem dX12_ground_52 : decode cX12_ground 52 = .ok (.iconst 0, 1) := dz_3 (n := 32) (r := 20) hz_X12_ground_32 rfl
theorem dX12_ground_53 : decode cX12_ground 53 = .ok (.iaload, 1) := dz_46 (n := 32) (r := 21) hz_X12_ground_32 rfl
theorem dX12_ground_54 : decode cX12_ground 54 = .ok (.ireturn, 1) := dz_172 (n := 32) (r := 22) hz_X12_ground_32 rfl
theorem dX12_ground_55 : decode cX12_ground 55 = .ok (.aload_n 0, 1) := dz_42 (n := 32) (r := 23) hz_X12_ground_32 rfl
theorem dX12_ground_56 : decode cX12_ground 56 = .ok (.getfield 60, 3) := dz_180 (n := 32) (r := 24) hz_X12_ground_32 rfl rfl
theorem dX12_ground_59 : decode cX12_ground 59 = .ok (.sipush 150, 3) := dz_17 (n := 32) (r := 27) hz_X12_ground_32 rfl (by decide +kernel)
theorem dX12_ground_62 : decode cX12_ground 62 = .ok (.aload_n 0, 1) := dz_42 (n := 32) (r := 30) hz_X12_ground_32 rfl
theorem dX12_ground_63 : decode cX12_ground 63 = .ok (.getfield 63, 3) := dz_180 (n := 32) (r := 31) hz_X12_ground_32 rfl rfl
theorem hz_X12_ground_64 : (cX12_ground.data.toList.drop 64).take 40 = [0, 63, 3, 46, 96, 46, 172, 42, 42, 180, 0, 63, 3, 46, 182, 1, 39, 172, 42, 180, 1, 29, 4, 160, 0, 8, 16, 254, 167, 0, 16, 42, 180, 0, 63, 4, 46, 42, 180, 0] := by decide +kernel
theorem dX12_ground_66 : decode cX12_ground 66 = .ok (.iconst 0, 1) := dz_3 (n := 64) (r := 2) hz_X12_ground_64 rfl
theorem dX12_ground_67 : decode cX12_ground 67 = .ok (.iaload, 1) := dz_46 (n := 64) (r := 3) hz_X12_ground_64 rfl
theorem dX12_ground_68 : decode cX12_ground 68 = .ok (.iadd, 1) := dz_96 (n := 64) (r := 4) hz_X12_ground_64 rfl
theorem dX12_ground_69 : decode cX12_ground 69 = .ok (.iaload, 1) := dz_46 (n := 64) (r := 5) hz_X12_ground_64 rfl
theorem dX12_ground_70 : decode cX12_ground 70 = .ok (.ireturn, 1) := dz_172 (n := 64) (r := 6) hz_X12_ground_64 rfl
theorem dX12_ground_71 : decode cX12_ground 71 = .ok (.aload_n 0, 1) := dz_42 (n := 64) (r := 7) hz_X12_ground_64 rfl
theorem dX12_ground_72 : decode cX12_ground 72 = .ok (.aload_n 0, 1) := dz_42 (n := 64) (r := 8) hz_X12_ground_64 rfl
theorem dX12_ground_73 : decode cX12_ground 73 = .ok (.getfield 63, 3) := dz_180 (n := 64) (r := 9) hz_X12_ground_64 rfl rfl
theorem dX12_ground_76 : decode cX12_ground 76 = .ok (.iconst 0, 1) := dz_3 (n := 64) (r := 12) hz_X12_ground_64 rfl
theorem dX12_ground_77 : decode cX12_ground 77 = .ok (.iaload, 1) := dz_46 (n := 64) (r := 13) hz_X12_ground_64 rfl
theorem dX12_ground_78 : decode cX12_ground 78 = .ok (.invokevirtual 295, 3) := dz_182 (n := 64) (r := 14) hz_X12_ground_64 rfl rfl
theorem dX12_ground_81 : decode cX12_ground 81 = .ok (.ireturn, 1) := dz_172 (n := 64) (r := 17) hz_X12_ground_64 rfl
theorem dX12_ground_82 : decode cX12_ground 82 = .ok (.aload_n 0, 1) := dz_42 (n := 64) (r := 18) hz_X12_ground_64 rfl
theorem dX12_ground_83 : decode cX12_ground 83 = .ok (.getfield 285, 3) := dz_180 (n := 64) (r := 19) hz_X12_ground_64 rfl rfl
theorem dX12_ground_86 : decode cX12_ground 86 = .ok (.iconst 1, 1) := dz_4 (n := 64) (r := 22) hz_X12_ground_64 rfl
theorem dX12_ground_87 : decode cX12_ground 87 = .ok (.if_icmp .ne 8, 3) := dz_160 (n := 64) (r := 23) hz_X12_ground_64 rfl (by decide +kernel)
theorem dX12_ground_90 : decode cX12_ground 90 = .ok (.bipush (-2), 2) := dz_16 (n := 64) (r := 26) hz_X12_ground_64 rfl rfl
theorem dX12_ground_92 : decode cX12_ground 92 = .ok (.goto 16, 3) := dz_167 (n := 64) (r := 28) hz_X12_ground_64 rfl (by decide +kernel)
theorem dX12_ground_95 : decode cX12_ground 95 = .ok (.aload_n 0, 1) := dz_42 (n := 64) (r := 31) hz_X12_ground_64 rfl
theorem hz_X12_ground_96 : (cX12_ground.data.toList.drop 96).take 40 = [180, 0, 63, 4, 46, 42, 180, 0, 63, 3, 46, 100, 172, 19, 1, 32, 172] := by decide +kernel
theorem dX12_ground_96 : decode cX12_ground 96 = .ok (.getfield 63, 3) := dz_180 (n := 96) (r := 0) hz_X12_ground_96 rfl rfl
theorem dX12_ground_99 : decode cX12_ground 99 = .ok (.iconst 1, 1) := dz_4 (n := 96) (r := 3) hz_X12_ground_96 rfl
theorem dX12_ground_100 : decode cX12_ground 100 = .ok (.iaload, 1) := dz_46 (n := 96) (r := 4) hz_X12_ground_96 rfl
theorem dX12_ground_101 : decode cX12_ground 101 = .ok (.aload_n 0, 1) := dz_42 (n := 96) (r := 5) hz_X12_ground_96 rfl
theorem dX12_ground_102 : decode cX12_ground 102 = .ok (.getfield 63, 3) := dz_180 (n := 96) (r := 6) hz_X12_ground_96 rfl rfl
theorem dX12_ground_105 : decode cX12_ground 105 = .ok (.iconst 0, 1) := dz_3 (n := 96) (r := 9) hz_X12_ground_96 rfl
theorem dX12_ground_106 : decode cX12_ground 106 = .ok (.iaload, 1) := dz_46 (n := 96) (r := 10) hz_X12_ground_96 rfl
theorem dX12_ground_107 : decode cX12_ground 107 = .ok (.isub, 1) := dz_100 (n := 96) (r := 11) hz_X12_ground_96 rfl
theorem dX12_ground_108 : decode cX12_ground 108 = .ok (.ireturn, 1) := dz_172 (n := 96) (r := 12) hz_X12_ground_96 rfl
theorem dX12_ground_109 : decode cX12_ground 109 = .ok (.ldc_w 288, 3) := dz_19 (n := 96) (r := 13) hz_X12_ground_96 rfl rfl
theorem dX12_ground_112 : decode cX12_ground 112 = .ok (.ireturn, 1) := dz_172 (n := 96) (r := 16) hz_X12_ground_96 rfl
theorem hz_X12_part_0 : (cX12_part.data.toList.drop 0).take 40 = [26, 156, 0, 8, 26, 116, 167, 0, 4, 26, 62, 27, 54, 4, 21, 4, 158, 0, 19, 29, 21, 4, 112, 54, 5, 21, 4, 62, 21, 5, 54, 4, 167, 255, 238, 28, 154, 0, 7, 26] := by decide +kernel
theorem dX12_part_0 : decode cX12_part 0 = .ok (.iload_n 0, 1) := dz_26 (n := 0) (r := 0) hz_X12_part_0 rfl
theorem dX12_part_1 : decode cX12_part 1 = .ok (.ifCond .ge 8, 3) := dz_156 (n := 0) (r := 1) hz_X12_part_0 rfl (by decide +kernel)
theorem dX12_part_4 : decode cX12_part 4 = .ok (.iload_n 0, 1) := dz_26 (n := 0) (r := 4) hz_X12_part_0 rfl
theorem dX12_part_5 : decode cX12_part 5 = .ok (.ineg, 1) := dz_116 (n := 0) (r := 5) hz_X12_part_0 rfl
theorem dX12_part_6 : decode cX12_part 6 = .ok (.goto 4, 3) := dz_167 (n := 0) (r := 6) hz_X12_part_0 rfl (by decide +kernel)
theorem dX12_part_9 : decode cX12_part 9 = .ok (.iload_n 0, 1) := dz_26 (n := 0) (r := 9) hz_X12_part_0 rfl
theorem dX12_part_10 : decode cX12_part 10 = .ok (.istore_n 3, 1) := dz_62 (n := 0) (r := 10) hz_X12_part_0 rfl
theorem dX12_part_11 : decode cX12_part 11 = .ok (.iload_n 1, 1) := dz_27 (n := 0) (r := 11) hz_X12_part_0 rfl
theorem dX12_part_12 : decode cX12_part 12 = .ok (.istore 4, 2) := dz_54 (n := 0) (r := 12) hz_X12_part_0 rfl rfl
theorem dX12_part_14 : decode cX12_part 14 = .ok (.iload 4, 2) := dz_21 (n := 0) (r := 14) hz_X12_part_0 rfl rfl
theorem dX12_part_16 : decode cX12_part 16 = .ok (.ifCond .le 19, 3) := dz_158 (n := 0) (r := 16) hz_X12_part_0 rfl (by decide +kernel)
theorem dX12_part_19 : decode cX12_part 19 = .ok (.iload_n 3, 1) := dz_29 (n := 0) (r := 19) hz_X12_part_0 rfl
theorem dX12_part_20 : decode cX12_part 20 = .ok (.iload 4, 2) := dz_21 (n := 0) (r := 20) hz_X12_part_0 rfl rfl
theorem dX12_part_22 : decode cX12_part 22 = .ok (.irem, 1) := dz_112 (n := 0) (r := 22) hz_X12_part_0 rfl
theorem dX12_part_23 : decode cX12_part 23 = .ok (.istore 5, 2) := dz_54 (n := 0) (r := 23) hz_X12_part_0 rfl rfl
theorem dX12_part_25 : decode cX12_part 25 = .ok (.iload 4, 2) := dz_21 (n := 0) (r := 25) hz_X12_part_0 rfl rfl
theorem dX12_part_27 : decode cX12_part 27 = .ok (.istore_n 3, 1) := dz_62 (n := 0) (r := 27) hz_X12_part_0 rfl
theorem dX12_part_28 : decode cX12_part 28 = .ok (.iload 5, 2) := dz_21 (n := 0) (r := 28) hz_X12_part_0 rfl rfl
theorem dX12_part_30 : decode cX12_part 30 = .ok (.istore 4, 2) := dz_54 (n := 0) (r := 30) hz_X12_part_0 rfl rfl
theorem hz_X12_part_32 : (cX12_part.data.toList.drop 32).take 40 = [167, 255, 238, 28, 154, 0, 7, 26, 167, 0, 4, 27, 29, 108, 172] := by decide +kernel
theorem dX12_part_32 : decode cX12_part 32 = .ok (.goto (-18), 3) := dz_167 (n := 32) (r := 0) hz_X12_part_32 rfl (by decide +kernel)
theorem dX12_part_35 : decode cX12_part 35 = .ok (.iload_n 2, 1) := dz_28 (n := 32) (r := 3) hz_X12_part_32 rfl
theorem dX12_part_36 : decode cX12_part 36 = .ok (.ifCond .ne 7, 3) := dz_154 (n := 32) (r := 4) hz_X12_part_32 rfl (by decide +kernel)
theorem dX12_part_39 : decode cX12_part 39 = .ok (.iload_n 0, 1) := dz_26 (n := 32) (r := 7) hz_X12_part_32 rfl
theorem dX12_part_40 : decode cX12_part 40 = .ok (.goto 4, 3) := dz_167 (n := 32) (r := 8) hz_X12_part_32 rfl (by decide +kernel)
theorem dX12_part_43 : decode cX12_part 43 = .ok (.iload_n 1, 1) := dz_27 (n := 32) (r := 11) hz_X12_part_32 rfl
theorem dX12_part_44 : decode cX12_part 44 = .ok (.iload_n 3, 1) := dz_29 (n := 32) (r := 12) hz_X12_part_32 rfl
theorem dX12_part_45 : decode cX12_part 45 = .ok (.idiv, 1) := dz_108 (n := 32) (r := 13) hz_X12_part_32 rfl
theorem dX12_part_46 : decode cX12_part 46 = .ok (.ireturn, 1) := dz_172 (n := 32) (r := 14) hz_X12_part_32 rfl
theorem hz_X12_pair_0 : (cX12_pair.data.toList.drop 0).take 40 = [42, 182, 1, 5, 42, 27, 182, 0, 233, 153, 0, 35, 42, 28, 182, 0, 233, 153, 0, 27, 29, 3, 42, 180, 1, 29, 4, 100, 184, 0, 213, 153, 0, 13, 21, 4, 3, 4, 184, 0] := by decide +kernel
theorem dX12_pair_0 : decode cX12_pair 0 = .ok (.aload_n 0, 1) := dz_42 (n := 0) (r := 0) hz_X12_pair_0 rfl
theorem dX12_pair_1 : decode cX12_pair 1 = .ok (.invokevirtual 261, 3) := dz_182 (n := 0) (r := 1) hz_X12_pair_0 rfl rfl
theorem dX12_pair_4 : decode cX12_pair 4 = .ok (.aload_n 0, 1) := dz_42 (n := 0) (r := 4) hz_X12_pair_0 rfl
theorem dX12_pair_5 : decode cX12_pair 5 = .ok (.iload_n 1, 1) := dz_27 (n := 0) (r := 5) hz_X12_pair_0 rfl
theorem dX12_pair_6 : decode cX12_pair 6 = .ok (.invokevirtual 233, 3) := dz_182 (n := 0) (r := 6) hz_X12_pair_0 rfl rfl
theorem dX12_pair_9 : decode cX12_pair 9 = .ok (.ifCond .eq 35, 3) := dz_153 (n := 0) (r := 9) hz_X12_pair_0 rfl (by decide +kernel)
theorem dX12_pair_12 : decode cX12_pair 12 = .ok (.aload_n 0, 1) := dz_42 (n := 0) (r := 12) hz_X12_pair_0 rfl
theorem dX12_pair_13 : decode cX12_pair 13 = .ok (.iload_n 2, 1) := dz_28 (n := 0) (r := 13) hz_X12_pair_0 rfl
theorem dX12_pair_14 : decode cX12_pair 14 = .ok (.invokevirtual 233, 3) := dz_182 (n := 0) (r := 14) hz_X12_pair_0 rfl rfl
theorem dX12_pair_17 : decode cX12_pair 17 = .ok (.ifCond .eq 27, 3) := dz_153 (n := 0) (r := 17) hz_X12_pair_0 rfl (by decide +kernel)
theorem dX12_pair_20 : decode cX12_pair 20 = .ok (.iload_n 3, 1) := dz_29 (n := 0) (r := 20) hz_X12_pair_0 rfl
theorem dX12_pair_21 : decode cX12_pair 21 = .ok (.iconst 0, 1) := dz_3 (n := 0) (r := 21) hz_X12_pair_0 rfl
theorem dX12_pair_22 : decode cX12_pair 22 = .ok (.aload_n 0, 1) := dz_42 (n := 0) (r := 22) hz_X12_pair_0 rfl
theorem dX12_pair_23 : decode cX12_pair 23 = .ok (.getfield 285, 3) := dz_180 (n := 0) (r := 23) hz_X12_pair_0 rfl rfl
theorem dX12_pair_26 : decode cX12_pair 26 = .ok (.iconst 1, 1) := dz_4 (n := 0) (r := 26) hz_X12_pair_0 rfl
theorem dX12_pair_27 : decode cX12_pair 27 = .ok (.isub, 1) := dz_100 (n := 0) (r := 27) hz_X12_pair_0 rfl
theorem dX12_pair_28 : decode cX12_pair 28 = .ok (.invokestatic 213, 3) := dz_184 (n := 0) (r := 28) hz_X12_pair_0 rfl rfl
theorem dX12_pair_31 : decode cX12_pair 31 = .ok (.ifCond .eq 13, 3) := dz_153 (n := 0) (r := 31) hz_X12_pair_0 rfl (by decide +kernel)
theorem hz_X12_pair_32 : (cX12_pair.data.toList.drop 32).take 40 = [0, 13, 21, 4, 3, 4, 184, 0, 213, 154, 0, 7, 19, 1, 32, 172, 3, 54, 5, 3, 54, 6, 21, 6, 42, 182, 1, 14, 162, 0, 50, 42, 180, 0, 57, 21, 6, 46, 42, 180] := by decide +kernel
theorem dX12_pair_34 : decode cX12_pair 34 = .ok (.iload 4, 2) := dz_21 (n := 32) (r := 2) hz_X12_pair_32 rfl rfl
theorem dX12_pair_36 : decode cX12_pair 36 = .ok (.iconst 0, 1) := dz_3 (n := 32) (r := 4) hz_X12_pair_32 rfl
theorem dX12_pair_37 : decode cX12_pair 37 = .ok (.iconst 1, 1) := dz_4 (n := 32) (r := 5) hz_X12_pair_32 rfl
theorem dX12_pair_38 : decode cX12_pair 38 = .ok (.invokestatic 213, 3) := dz_184 (n := 32) (r := 6) hz_X12_pair_32 rfl rfl
theorem dX12_pair_41 : decode cX12_pair 41 = .ok (.ifCond .ne 7, 3) := dz_154 (n := 32) (r := 9) hz_X12_pair_32 rfl (by decide +kernel)
theorem dX12_pair_44 : decode cX12_pair 44 = .ok (.ldc_w 288, 3) := dz_19 (n := 32) (r := 12) hz_X12_pair_32 rfl rfl
theorem dX12_pair_47 : decode cX12_pair 47 = .ok (.ireturn, 1) := dz_172 (n := 32) (r := 15) hz_X12_pair_32 rfl
theorem dX12_pair_48 : decode cX12_pair 48 = .ok (.iconst 0, 1) := dz_3 (n := 32) (r := 16) hz_X12_pair_32 rfl
theorem dX12_pair_49 : decode cX12_pair 49 = .ok (.istore 5, 2) := dz_54 (n := 32) (r := 17) hz_X12_pair_32 rfl rfl
theorem dX12_pair_51 : decode cX12_pair 51 = .ok (.iconst 0, 1) := dz_3 (n := 32) (r := 19) hz_X12_pair_32 rfl
theorem dX12_pair_52 : decode cX12_pair 52 = .ok (.istore 6, 2) := dz_54 (n := 32) (r := 20) hz_X12_pair_32 rfl rfl
theorem dX12_pair_54 : decode cX12_pair 54 = .ok (.iload 6, 2) := dz_21 (n := 32) (r := 22) hz_X12_pair_32 rfl rfl
theorem dX12_pair_56 : decode cX12_pair 56 = .ok (.aload_n 0, 1) := dz_42 (n := 32) (r := 24) hz_X12_pair_32 rfl
theorem dX12_pair_57 : decode cX12_pair 57 = .ok (.invokevirtual 270, 3) := dz_182 (n := 32) (r := 25) hz_X12_pair_32 rfl rfl
theorem dX12_pair_60 : decode cX12_pair 60 = .ok (.if_icmp .ge 50, 3) := dz_162 (n := 32) (r := 28) hz_X12_pair_32 rfl (by decide +kernel)
theorem dX12_pair_63 : decode cX12_pair 63 = .ok (.aload_n 0, 1) := dz_42 (n := 32) (r := 31) hz_X12_pair_32 rfl
theorem hz_X12_pair_64 : (cX12_pair.data.toList.drop 64).take 40 = [180, 0, 57, 21, 6, 46, 42, 180, 0, 63, 29, 46, 160, 0, 28, 21, 5, 21, 6, 27, 184, 1, 45, 21, 6, 28, 184, 1, 45, 160, 0, 7, 4, 167, 0, 4, 2, 96, 54, 5] := by decide +kernel
theorem dX12_pair_64 : decode cX12_pair 64 = .ok (.getfield 57, 3) := dz_180 (n := 64) (r := 0) hz_X12_pair_64 rfl rfl
theorem dX12_pair_67 : decode cX12_pair 67 = .ok (.iload 6, 2) := dz_21 (n := 64) (r := 3) hz_X12_pair_64 rfl rfl
theorem dX12_pair_69 : decode cX12_pair 69 = .ok (.iaload, 1) := dz_46 (n := 64) (r := 5) hz_X12_pair_64 rfl
theorem dX12_pair_70 : decode cX12_pair 70 = .ok (.aload_n 0, 1) := dz_42 (n := 64) (r := 6) hz_X12_pair_64 rfl
theorem dX12_pair_71 : decode cX12_pair 71 = .ok (.getfield 63, 3) := dz_180 (n := 64) (r := 7) hz_X12_pair_64 rfl rfl
theorem dX12_pair_74 : decode cX12_pair 74 = .ok (.iload_n 3, 1) := dz_29 (n := 64) (r := 10) hz_X12_pair_64 rfl
theorem dX12_pair_75 : decode cX12_pair 75 = .ok (.iaload, 1) := dz_46 (n := 64) (r := 11) hz_X12_pair_64 rfl
theorem dX12_pair_76 : decode cX12_pair 76 = .ok (.if_icmp .ne 28, 3) := dz_160 (n := 64) (r := 12) hz_X12_pair_64 rfl (by decide +kernel)
theorem dX12_pair_79 : decode cX12_pair 79 = .ok (.iload 5, 2) := dz_21 (n := 64) (r := 15) hz_X12_pair_64 rfl rfl
theorem dX12_pair_81 : decode cX12_pair 81 = .ok (.iload 6, 2) := dz_21 (n := 64) (r := 17) hz_X12_pair_64 rfl rfl
theorem dX12_pair_83 : decode cX12_pair 83 = .ok (.iload_n 1, 1) := dz_27 (n := 64) (r := 19) hz_X12_pair_64 rfl
theorem dX12_pair_84 : decode cX12_pair 84 = .ok (.invokestatic 301, 3) := dz_184 (n := 64) (r := 20) hz_X12_pair_64 rfl rfl
theorem dX12_pair_87 : decode cX12_pair 87 = .ok (.iload 6, 2) := dz_21 (n := 64) (r := 23) hz_X12_pair_64 rfl rfl
theorem dX12_pair_89 : decode cX12_pair 89 = .ok (.iload_n 2, 1) := dz_28 (n := 64) (r := 25) hz_X12_pair_64 rfl
theorem dX12_pair_90 : decode cX12_pair 90 = .ok (.invokestatic 301, 3) := dz_184 (n := 64) (r := 26) hz_X12_pair_64 rfl rfl
theorem dX12_pair_93 : decode cX12_pair 93 = .ok (.if_icmp .ne 7, 3) := dz_160 (n := 64) (r := 29) hz_X12_pair_64 rfl (by decide +kernel)
theorem hz_X12_pair_96 : (cX12_pair.data.toList.drop 96).take 40 = [4, 167, 0, 4, 2, 96, 54, 5, 132, 6, 1, 167, 255, 203, 21, 5, 42, 180, 0, 60, 17, 0, 150, 42, 180, 0, 63, 29, 46, 96, 46, 21, 4, 184, 1, 52, 172] := by decide +kernel
theorem dX12_pair_96 : decode cX12_pair 96 = .ok (.iconst 1, 1) := dz_4 (n := 96) (r := 0) hz_X12_pair_96 rfl
theorem dX12_pair_97 : decode cX12_pair 97 = .ok (.goto 4, 3) := dz_167 (n := 96) (r := 1) hz_X12_pair_96 rfl (by decide +kernel)
theorem dX12_pair_100 : decode cX12_pair 100 = .ok (.iconst (-1), 1) := dz_2 (n := 96) (r := 4) hz_X12_pair_96 rfl
theorem dX12_pair_101 : decode cX12_pair 101 = .ok (.iadd, 1) := dz_96 (n := 96) (r := 5) hz_X12_pair_96 rfl
theorem dX12_pair_102 : decode cX12_pair 102 = .ok (.istore 5, 2) := dz_54 (n := 96) (r := 6) hz_X12_pair_96 rfl rfl
theorem dX12_pair_104 : decode cX12_pair 104 = .ok (.iinc 6 1, 3) := dz_132 (n := 96) (r := 8) hz_X12_pair_96 rfl rfl rfl
theorem dX12_pair_107 : decode cX12_pair 107 = .ok (.goto (-53), 3) := dz_167 (n := 96) (r := 11) hz_X12_pair_96 rfl (by decide +kernel)
theorem dX12_pair_110 : decode cX12_pair 110 = .ok (.iload 5, 2) := dz_21 (n := 96) (r := 14) hz_X12_pair_96 rfl rfl
theorem dX12_pair_112 : decode cX12_pair 112 = .ok (.aload_n 0, 1) := dz_42 (n := 96) (r := 16) hz_X12_pair_96 rfl
theorem dX12_pair_113 : decode cX12_pair 113 = .ok (.getfield 60, 3) := dz_180 (n := 96) (r := 17) hz_X12_pair_96 rfl rfl
theorem dX12_pair_116 : decode cX12_pair 116 = .ok (.sipush 150, 3) := dz_17 (n := 96) (r := 20) hz_X12_pair_96 rfl (by decide +kernel)
theorem dX12_pair_119 : decode cX12_pair 119 = .ok (.aload_n 0, 1) := dz_42 (n := 96) (r := 23) hz_X12_pair_96 rfl
theorem dX12_pair_120 : decode cX12_pair 120 = .ok (.getfield 63, 3) := dz_180 (n := 96) (r := 24) hz_X12_pair_96 rfl rfl
theorem dX12_pair_123 : decode cX12_pair 123 = .ok (.iload_n 3, 1) := dz_29 (n := 96) (r := 27) hz_X12_pair_96 rfl
theorem dX12_pair_124 : decode cX12_pair 124 = .ok (.iaload, 1) := dz_46 (n := 96) (r := 28) hz_X12_pair_96 rfl
theorem dX12_pair_125 : decode cX12_pair 125 = .ok (.iadd, 1) := dz_96 (n := 96) (r := 29) hz_X12_pair_96 rfl
theorem dX12_pair_126 : decode cX12_pair 126 = .ok (.iaload, 1) := dz_46 (n := 96) (r := 30) hz_X12_pair_96 rfl
theorem dX12_pair_127 : decode cX12_pair 127 = .ok (.iload 4, 2) := dz_21 (n := 96) (r := 31) hz_X12_pair_96 rfl rfl
theorem hz_X12_pair_128 : (cX12_pair.data.toList.drop 128).take 40 = [4, 184, 1, 52, 172] := by decide +kernel
theorem dX12_pair_129 : decode cX12_pair 129 = .ok (.invokestatic 308, 3) := dz_184 (n := 128) (r := 1) hz_X12_pair_128 rfl rfl
theorem dX12_pair_132 : decode cX12_pair 132 = .ok (.ireturn, 1) := dz_172 (n := 128) (r := 4) hz_X12_pair_128 rfl
theorem hz_X12_mean_0 : (cX12_mean.data.toList.drop 0).take 40 = [42, 182, 1, 5, 27, 3, 42, 180, 1, 29, 4, 100, 184, 0, 213, 153, 0, 12, 28, 3, 4, 184, 0, 213, 154, 0, 7, 19, 1, 32, 172, 3, 62, 3, 54, 4, 21, 4, 42, 182] := by decide +kernel
theorem dX12_mean_0 : decode cX12_mean 0 = .ok (.aload_n 0, 1) := dz_42 (n := 0) (r := 0) hz_X12_mean_0 rfl
theorem dX12_mean_1 : decode cX12_mean 1 = .ok (.invokevirtual 261, 3) := dz_182 (n := 0) (r := 1) hz_X12_mean_0 rfl rfl
theorem dX12_mean_4 : decode cX12_mean 4 = .ok (.iload_n 1, 1) := dz_27 (n := 0) (r := 4) hz_X12_mean_0 rfl
theorem dX12_mean_5 : decode cX12_mean 5 = .ok (.iconst 0, 1) := dz_3 (n := 0) (r := 5) hz_X12_mean_0 rfl
theorem dX12_mean_6 : decode cX12_mean 6 = .ok (.aload_n 0, 1) := dz_42 (n := 0) (r := 6) hz_X12_mean_0 rfl
theorem dX12_mean_7 : decode cX12_mean 7 = .ok (.getfield 285, 3) := dz_180 (n := 0) (r := 7) hz_X12_mean_0 rfl rfl
theorem dX12_mean_10 : decode cX12_mean 10 = .ok (.iconst 1, 1) := dz_4 (n := 0) (r := 10) hz_X12_mean_0 rfl
theorem dX12_mean_11 : decode cX12_mean 11 = .ok (.isub, 1) := dz_100 (n := 0) (r := 11) hz_X12_mean_0 rfl
theorem dX12_mean_12 : decode cX12_mean 12 = .ok (.invokestatic 213, 3) := dz_184 (n := 0) (r := 12) hz_X12_mean_0 rfl rfl
theorem dX12_mean_15 : decode cX12_mean 15 = .ok (.ifCond .eq 12, 3) := dz_153 (n := 0) (r := 15) hz_X12_mean_0 rfl (by decide +kernel)
theorem dX12_mean_18 : decode cX12_mean 18 = .ok (.iload_n 2, 1) := dz_28 (n := 0) (r := 18) hz_X12_mean_0 rfl
theorem dX12_mean_19 : decode cX12_mean 19 = .ok (.iconst 0, 1) := dz_3 (n := 0) (r := 19) hz_X12_mean_0 rfl
theorem dX12_mean_20 : decode cX12_mean 20 = .ok (.iconst 1, 1) := dz_4 (n := 0) (r := 20) hz_X12_mean_0 rfl
theorem dX12_mean_21 : decode cX12_mean 21 = .ok (.invokestatic 213, 3) := dz_184 (n := 0) (r := 21) hz_X12_mean_0 rfl rfl
theorem dX12_mean_24 : decode cX12_mean 24 = .ok (.ifCond .ne 7, 3) := dz_154 (n := 0) (r := 24) hz_X12_mean_0 rfl (by decide +kernel)
theorem dX12_mean_27 : decode cX12_mean 27 = .ok (.ldc_w 288, 3) := dz_19 (n := 0) (r := 27) hz_X12_mean_0 rfl rfl
theorem dX12_mean_30 : decode cX12_mean 30 = .ok (.ireturn, 1) := dz_172 (n := 0) (r := 30) hz_X12_mean_0 rfl
theorem dX12_mean_31 : decode cX12_mean 31 = .ok (.iconst 0, 1) := dz_3 (n := 0) (r := 31) hz_X12_mean_0 rfl
theorem hz_X12_mean_32 : (cX12_mean.data.toList.drop 32).take 40 = [62, 3, 54, 4, 21, 4, 42, 182, 1, 14, 162, 0, 33, 42, 180, 0, 57, 21, 4, 46, 42, 180, 0, 63, 27, 46, 160, 0, 11, 29, 21, 4, 184, 1, 36, 96, 62, 132, 4, 1] := by decide +kernel
theorem dX12_mean_32 : decode cX12_mean 32 = .ok (.istore_n 3, 1) := dz_62 (n := 32) (r := 0) hz_X12_mean_32 rfl
theorem dX12_mean_33 : decode cX12_mean 33 = .ok (.iconst 0, 1) := dz_3 (n := 32) (r := 1) hz_X12_mean_32 rfl
theorem dX12_mean_34 : decode cX12_mean 34 = .ok (.istore 4, 2) := dz_54 (n := 32) (r := 2) hz_X12_mean_32 rfl rfl
theorem dX12_mean_36 : decode cX12_mean 36 = .ok (.iload 4, 2) := dz_21 (n := 32) (r := 4) hz_X12_mean_32 rfl rfl
theorem dX12_mean_38 : decode cX12_mean 38 = .ok (.aload_n 0, 1) := dz_42 (n := 32) (r := 6) hz_X12_mean_32 rfl
theorem dX12_mean_39 : decode cX12_mean 39 = .ok (.invokevirtual 270, 3) := dz_182 (n := 32) (r := 7) hz_X12_mean_32 rfl rfl
theorem dX12_mean_42 : decode cX12_mean 42 = .ok (.if_icmp .ge 33, 3) := dz_162 (n := 32) (r := 10) hz_X12_mean_32 rfl (by decide +kernel)
theorem dX12_mean_45 : decode cX12_mean 45 = .ok (.aload_n 0, 1) := dz_42 (n := 32) (r := 13) hz_X12_mean_32 rfl
theorem dX12_mean_46 : decode cX12_mean 46 = .ok (.getfield 57, 3) := dz_180 (n := 32) (r := 14) hz_X12_mean_32 rfl rfl
theorem dX12_mean_49 : decode cX12_mean 49 = .ok (.iload 4, 2) := dz_21 (n := 32) (r := 17) hz_X12_mean_32 rfl rfl
theorem dX12_mean_51 : decode cX12_mean 51 = .ok (.iaload, 1) := dz_46 (n := 32) (r := 19) hz_X12_mean_32 rfl
theorem dX12_mean_52 : decode cX12_mean 52 = .ok (.aload_n 0, 1) := dz_42 (n := 32) (r := 20) hz_X12_mean_32 rfl
theorem dX12_mean_53 : decode cX12_mean 53 = .ok (.getfield 63, 3) := dz_180 (n := 32) (r := 21) hz_X12_mean_32 rfl rfl
theorem dX12_mean_56 : decode cX12_mean 56 = .ok (.iload_n 1, 1) := dz_27 (n := 32) (r := 24) hz_X12_mean_32 rfl
theorem dX12_mean_57 : decode cX12_mean 57 = .ok (.iaload, 1) := dz_46 (n := 32) (r := 25) hz_X12_mean_32 rfl
theorem dX12_mean_58 : decode cX12_mean 58 = .ok (.if_icmp .ne 11, 3) := dz_160 (n := 32) (r := 26) hz_X12_mean_32 rfl (by decide +kernel)
theorem dX12_mean_61 : decode cX12_mean 61 = .ok (.iload_n 3, 1) := dz_29 (n := 32) (r := 29) hz_X12_mean_32 rfl
theorem dX12_mean_62 : decode cX12_mean 62 = .ok (.iload 4, 2) := dz_21 (n := 32) (r := 30) hz_X12_mean_32 rfl rfl
theorem hz_X12_mean_64 : (cX12_mean.data.toList.drop 64).take 40 = [184, 1, 36, 96, 62, 132, 4, 1, 167, 255, 220, 29, 42, 180, 0, 60, 17, 0, 150, 42, 180, 0, 63, 27, 46, 96, 46, 28, 184, 1, 52, 172] := by decide +kernel
theorem dX12_mean_64 : decode cX12_mean 64 = .ok (.invokestatic 292, 3) := dz_184 (n := 64) (r := 0) hz_X12_mean_64 rfl rfl
theorem dX12_mean_67 : decode cX12_mean 67 = .ok (.iadd, 1) := dz_96 (n := 64) (r := 3) hz_X12_mean_64 rfl
theorem dX12_mean_68 : decode cX12_mean 68 = .ok (.istore_n 3, 1) := dz_62 (n := 64) (r := 4) hz_X12_mean_64 rfl
theorem dX12_mean_69 : decode cX12_mean 69 = .ok (.iinc 4 1, 3) := dz_132 (n := 64) (r := 5) hz_X12_mean_64 rfl rfl rfl
theorem dX12_mean_72 : decode cX12_mean 72 = .ok (.goto (-36), 3) := dz_167 (n := 64) (r := 8) hz_X12_mean_64 rfl (by decide +kernel)
theorem dX12_mean_75 : decode cX12_mean 75 = .ok (.iload_n 3, 1) := dz_29 (n := 64) (r := 11) hz_X12_mean_64 rfl
theorem dX12_mean_76 : decode cX12_mean 76 = .ok (.aload_n 0, 1) := dz_42 (n := 64) (r := 12) hz_X12_mean_64 rfl
theorem dX12_mean_77 : decode cX12_mean 77 = .ok (.getfield 60, 3) := dz_180 (n := 64) (r := 13) hz_X12_mean_64 rfl rfl
theorem dX12_mean_80 : decode cX12_mean 80 = .ok (.sipush 150, 3) := dz_17 (n := 64) (r := 16) hz_X12_mean_64 rfl (by decide +kernel)
theorem dX12_mean_83 : decode cX12_mean 83 = .ok (.aload_n 0, 1) := dz_42 (n := 64) (r := 19) hz_X12_mean_64 rfl
theorem dX12_mean_84 : decode cX12_mean 84 = .ok (.getfield 63, 3) := dz_180 (n := 64) (r := 20) hz_X12_mean_64 rfl rfl
theorem dX12_mean_87 : decode cX12_mean 87 = .ok (.iload_n 1, 1) := dz_27 (n := 64) (r := 23) hz_X12_mean_64 rfl
theorem dX12_mean_88 : decode cX12_mean 88 = .ok (.iaload, 1) := dz_46 (n := 64) (r := 24) hz_X12_mean_64 rfl
theorem dX12_mean_89 : decode cX12_mean 89 = .ok (.iadd, 1) := dz_96 (n := 64) (r := 25) hz_X12_mean_64 rfl
theorem dX12_mean_90 : decode cX12_mean 90 = .ok (.iaload, 1) := dz_46 (n := 64) (r := 26) hz_X12_mean_64 rfl
theorem dX12_mean_91 : decode cX12_mean 91 = .ok (.iload_n 2, 1) := dz_28 (n := 64) (r := 27) hz_X12_mean_64 rfl
theorem dX12_mean_92 : decode cX12_mean 92 = .ok (.invokestatic 308, 3) := dz_184 (n := 64) (r := 28) hz_X12_mean_64 rfl rfl
theorem dX12_mean_95 : decode cX12_mean 95 = .ok (.ireturn, 1) := dz_172 (n := 64) (r := 31) hz_X12_mean_64 rfl
theorem hz_X12_value_0 : (cX12_value.data.toList.drop 0).take 40 = [27, 3, 19, 1, 56, 184, 0, 213, 154, 0, 5, 2, 172, 42, 182, 1, 5, 9, 65, 10, 55, 4, 3, 54, 6, 42, 180, 1, 29, 154, 0, 7, 3, 167, 0, 9, 42, 180, 0, 63] := by decide +kernel
theorem dX12_value_0 : decode cX12_value 0 = .ok (.iload_n 1, 1) := dz_27 (n := 0) (r := 0) hz_X12_value_0 rfl
theorem dX12_value_1 : decode cX12_value 1 = .ok (.iconst 0, 1) := dz_3 (n := 0) (r := 1) hz_X12_value_0 rfl
theorem dX12_value_2 : decode cX12_value 2 = .ok (.ldc_w 312, 3) := dz_19 (n := 0) (r := 2) hz_X12_value_0 rfl rfl
theorem dX12_value_5 : decode cX12_value 5 = .ok (.invokestatic 213, 3) := dz_184 (n := 0) (r := 5) hz_X12_value_0 rfl rfl
theorem dX12_value_8 : decode cX12_value 8 = .ok (.ifCond .ne 5, 3) := dz_154 (n := 0) (r := 8) hz_X12_value_0 rfl (by decide +kernel)
theorem dX12_value_11 : decode cX12_value 11 = .ok (.iconst (-1), 1) := dz_2 (n := 0) (r := 11) hz_X12_value_0 rfl
theorem dX12_value_12 : decode cX12_value 12 = .ok (.ireturn, 1) := dz_172 (n := 0) (r := 12) hz_X12_value_0 rfl
theorem dX12_value_13 : decode cX12_value 13 = .ok (.aload_n 0, 1) := dz_42 (n := 0) (r := 13) hz_X12_value_0 rfl
theorem dX12_value_14 : decode cX12_value 14 = .ok (.invokevirtual 261, 3) := dz_182 (n := 0) (r := 14) hz_X12_value_0 rfl rfl
theorem dX12_value_17 : decode cX12_value 17 = .ok (.lconst 0, 1) := dz_9 (n := 0) (r := 17) hz_X12_value_0 rfl
theorem dX12_value_18 : decode cX12_value 18 = .ok (.lstore_n 2, 1) := dz_65 (n := 0) (r := 18) hz_X12_value_0 rfl
theorem dX12_value_19 : decode cX12_value 19 = .ok (.lconst 1, 1) := dz_10 (n := 0) (r := 19) hz_X12_value_0 rfl
theorem dX12_value_20 : decode cX12_value 20 = .ok (.lstore 4, 2) := dz_55 (n := 0) (r := 20) hz_X12_value_0 rfl rfl
theorem dX12_value_22 : decode cX12_value 22 = .ok (.iconst 0, 1) := dz_3 (n := 0) (r := 22) hz_X12_value_0 rfl
theorem dX12_value_23 : decode cX12_value 23 = .ok (.istore 6, 2) := dz_54 (n := 0) (r := 23) hz_X12_value_0 rfl rfl
theorem dX12_value_25 : decode cX12_value 25 = .ok (.aload_n 0, 1) := dz_42 (n := 0) (r := 25) hz_X12_value_0 rfl
theorem dX12_value_26 : decode cX12_value 26 = .ok (.getfield 285, 3) := dz_180 (n := 0) (r := 26) hz_X12_value_0 rfl rfl
theorem dX12_value_29 : decode cX12_value 29 = .ok (.ifCond .ne 7, 3) := dz_154 (n := 0) (r := 29) hz_X12_value_0 rfl (by decide +kernel)
theorem hz_X12_value_32 : (cX12_value.data.toList.drop 32).take 40 = [3, 167, 0, 9, 42, 180, 0, 63, 3, 46, 54, 7, 21, 6, 42, 180, 1, 29, 162, 0, 57, 21, 7, 42, 180, 0, 63, 21, 6, 46, 160, 0, 28, 32, 22, 4, 42, 180, 0, 60] := by decide +kernel
theorem dX12_value_32 : decode cX12_value 32 = .ok (.iconst 0, 1) := dz_3 (n := 32) (r := 0) hz_X12_value_32 rfl
theorem dX12_value_33 : decode cX12_value 33 = .ok (.goto 9, 3) := dz_167 (n := 32) (r := 1) hz_X12_value_32 rfl (by decide +kernel)
theorem dX12_value_36 : decode cX12_value 36 = .ok (.aload_n 0, 1) := dz_42 (n := 32) (r := 4) hz_X12_value_32 rfl
theorem dX12_value_37 : decode cX12_value 37 = .ok (.getfield 63, 3) := dz_180 (n := 32) (r := 5) hz_X12_value_32 rfl rfl
theorem dX12_value_40 : decode cX12_value 40 = .ok (.iconst 0, 1) := dz_3 (n := 32) (r := 8) hz_X12_value_32 rfl
theorem dX12_value_41 : decode cX12_value 41 = .ok (.iaload, 1) := dz_46 (n := 32) (r := 9) hz_X12_value_32 rfl
theorem dX12_value_42 : decode cX12_value 42 = .ok (.istore 7, 2) := dz_54 (n := 32) (r := 10) hz_X12_value_32 rfl rfl
theorem dX12_value_44 : decode cX12_value 44 = .ok (.iload 6, 2) := dz_21 (n := 32) (r := 12) hz_X12_value_32 rfl rfl
theorem dX12_value_46 : decode cX12_value 46 = .ok (.aload_n 0, 1) := dz_42 (n := 32) (r := 14) hz_X12_value_32 rfl
theorem dX12_value_47 : decode cX12_value 47 = .ok (.getfield 285, 3) := dz_180 (n := 32) (r := 15) hz_X12_value_32 rfl rfl
theorem dX12_value_50 : decode cX12_value 50 = .ok (.if_icmp .ge 57, 3) := dz_162 (n := 32) (r := 18) hz_X12_value_32 rfl (by decide +kernel)
theorem dX12_value_53 : decode cX12_value 53 = .ok (.iload 7, 2) := dz_21 (n := 32) (r := 21) hz_X12_value_32 rfl rfl
theorem dX12_value_55 : decode cX12_value 55 = .ok (.aload_n 0, 1) := dz_42 (n := 32) (r := 23) hz_X12_value_32 rfl
theorem dX12_value_56 : decode cX12_value 56 = .ok (.getfield 63, 3) := dz_180 (n := 32) (r := 24) hz_X12_value_32 rfl rfl
theorem dX12_value_59 : decode cX12_value 59 = .ok (.iload 6, 2) := dz_21 (n := 32) (r := 27) hz_X12_value_32 rfl rfl
theorem dX12_value_61 : decode cX12_value 61 = .ok (.iaload, 1) := dz_46 (n := 32) (r := 29) hz_X12_value_32 rfl
theorem dX12_value_62 : decode cX12_value 62 = .ok (.if_icmp .ne 28, 3) := dz_160 (n := 32) (r := 30) hz_X12_value_32 rfl (by decide +kernel)
theorem hz_X12_value_64 : (cX12_value.data.toList.drop 64).take 40 = [28, 32, 22, 4, 42, 180, 0, 60, 17, 0, 150, 21, 7, 96, 46, 133, 105, 97, 20, 1, 57, 113, 65, 132, 6, 1, 22, 4, 27, 133, 105, 20, 1, 57, 113, 55, 4, 132, 7, 1] := by decide +kernel
theorem dX12_value_65 : decode cX12_value 65 = .ok (.lload_n 2, 1) := dz_32 (n := 64) (r := 1) hz_X12_value_64 rfl
theorem dX12_value_66 : decode cX12_value 66 = .ok (.lload 4, 2) := dz_22 (n := 64) (r := 2) hz_X12_value_64 rfl rfl
theorem dX12_value_68 : decode cX12_value 68 = .ok (.aload_n 0, 1) := dz_42 (n := 64) (r := 4) hz_X12_value_64 rfl
theorem dX12_value_69 : decode cX12_value 69 = .ok (.getfield 60, 3) := dz_180 (n := 64) (r := 5) hz_X12_value_64 rfl rfl
theorem dX12_value_72 : decode cX12_value 72 = .ok (.sipush 150, 3) := dz_17 (n := 64) (r := 8) hz_X12_value_64 rfl (by decide +kernel)
theorem dX12_value_75 : decode cX12_value 75 = .ok (.iload 7, 2) := dz_21 (n := 64) (r := 11) hz_X12_value_64 rfl rfl
theorem dX12_value_77 : decode cX12_value 77 = .ok (.iadd, 1) := dz_96 (n := 64) (r := 13) hz_X12_value_64 rfl
theorem dX12_value_78 : decode cX12_value 78 = .ok (.iaload, 1) := dz_46 (n := 64) (r := 14) hz_X12_value_64 rfl
theorem dX12_value_79 : decode cX12_value 79 = .ok (.i2l, 1) := dz_133 (n := 64) (r := 15) hz_X12_value_64 rfl
theorem dX12_value_80 : decode cX12_value 80 = .ok (.lmul, 1) := dz_105 (n := 64) (r := 16) hz_X12_value_64 rfl
theorem dX12_value_81 : decode cX12_value 81 = .ok (.ladd, 1) := dz_97 (n := 64) (r := 17) hz_X12_value_64 rfl
theorem dX12_value_82 : decode cX12_value 82 = .ok (.ldc2_w 313, 3) := dz_20 (n := 64) (r := 18) hz_X12_value_64 rfl rfl
theorem dX12_value_85 : decode cX12_value 85 = .ok (.lrem, 1) := dz_113 (n := 64) (r := 21) hz_X12_value_64 rfl
theorem dX12_value_86 : decode cX12_value 86 = .ok (.lstore_n 2, 1) := dz_65 (n := 64) (r := 22) hz_X12_value_64 rfl
theorem dX12_value_87 : decode cX12_value 87 = .ok (.iinc 6 1, 3) := dz_132 (n := 64) (r := 23) hz_X12_value_64 rfl rfl rfl
theorem dX12_value_90 : decode cX12_value 90 = .ok (.lload 4, 2) := dz_22 (n := 64) (r := 26) hz_X12_value_64 rfl rfl
theorem dX12_value_92 : decode cX12_value 92 = .ok (.iload_n 1, 1) := dz_27 (n := 64) (r := 28) hz_X12_value_64 rfl
theorem dX12_value_93 : decode cX12_value 93 = .ok (.i2l, 1) := dz_133 (n := 64) (r := 29) hz_X12_value_64 rfl
theorem dX12_value_94 : decode cX12_value 94 = .ok (.lmul, 1) := dz_105 (n := 64) (r := 30) hz_X12_value_64 rfl
theorem dX12_value_95 : decode cX12_value 95 = .ok (.ldc2_w 313, 3) := dz_20 (n := 64) (r := 31) hz_X12_value_64 rfl rfl
theorem hz_X12_value_96 : (cX12_value.data.toList.drop 96).take 40 = [1, 57, 113, 55, 4, 132, 7, 1, 167, 255, 196, 32, 136, 172] := by decide +kernel
theorem dX12_value_98 : decode cX12_value 98 = .ok (.lrem, 1) := dz_113 (n := 96) (r := 2) hz_X12_value_96 rfl
theorem dX12_value_99 : decode cX12_value 99 = .ok (.lstore 4, 2) := dz_55 (n := 96) (r := 3) hz_X12_value_96 rfl rfl
theorem dX12_value_101 : decode cX12_value 101 = .ok (.iinc 7 1, 3) := dz_132 (n := 96) (r := 5) hz_X12_value_96 rfl rfl rfl
theorem dX12_value_104 : decode cX12_value 104 = .ok (.goto (-60), 3) := dz_167 (n := 96) (r := 8) hz_X12_value_96 rfl (by decide +kernel)
theorem dX12_value_107 : decode cX12_value 107 = .ok (.lload_n 2, 1) := dz_32 (n := 96) (r := 11) hz_X12_value_96 rfl
theorem dX12_value_108 : decode cX12_value 108 = .ok (.l2i, 1) := dz_136 (n := 96) (r := 12) hz_X12_value_96 rfl
theorem dX12_value_109 : decode cX12_value 109 = .ok (.ireturn, 1) := dz_172 (n := 96) (r := 13) hz_X12_value_96 rfl
theorem hz_X12_joined_0 : (cX12_joined.data.toList.drop 0).take 40 = [27, 3, 5, 184, 0, 213, 153, 0, 12, 42, 180, 0, 52, 27, 51, 154, 0, 7, 20, 1, 59, 173, 42, 182, 1, 5, 3, 54, 4, 21, 4, 16, 66, 162, 0, 28, 42, 180, 0, 66] := by decide +kernel
theorem dX12_joined_0 : decode cX12_joined 0 = .ok (.iload_n 1, 1) := dz_27 (n := 0) (r := 0) hz_X12_joined_0 rfl
theorem dX12_joined_1 : decode cX12_joined 1 = .ok (.iconst 0, 1) := dz_3 (n := 0) (r := 1) hz_X12_joined_0 rfl
theorem dX12_joined_2 : decode cX12_joined 2 = .ok (.iconst 2, 1) := dz_5 (n := 0) (r := 2) hz_X12_joined_0 rfl
theorem dX12_joined_3 : decode cX12_joined 3 = .ok (.invokestatic 213, 3) := dz_184 (n := 0) (r := 3) hz_X12_joined_0 rfl rfl
theorem dX12_joined_6 : decode cX12_joined 6 = .ok (.ifCond .eq 12, 3) := dz_153 (n := 0) (r := 6) hz_X12_joined_0 rfl (by decide +kernel)
theorem dX12_joined_9 : decode cX12_joined 9 = .ok (.aload_n 0, 1) := dz_42 (n := 0) (r := 9) hz_X12_joined_0 rfl
theorem dX12_joined_10 : decode cX12_joined 10 = .ok (.getfield 52, 3) := dz_180 (n := 0) (r := 10) hz_X12_joined_0 rfl rfl
theorem dX12_joined_13 : decode cX12_joined 13 = .ok (.iload_n 1, 1) := dz_27 (n := 0) (r := 13) hz_X12_joined_0 rfl
theorem dX12_joined_14 : decode cX12_joined 14 = .ok (.baload, 1) := dz_51 (n := 0) (r := 14) hz_X12_joined_0 rfl
theorem dX12_joined_15 : decode cX12_joined 15 = .ok (.ifCond .ne 7, 3) := dz_154 (n := 0) (r := 15) hz_X12_joined_0 rfl (by decide +kernel)
theorem dX12_joined_18 : decode cX12_joined 18 = .ok (.ldc2_w 315, 3) := dz_20 (n := 0) (r := 18) hz_X12_joined_0 rfl rfl
theorem dX12_joined_21 : decode cX12_joined 21 = .ok (.lreturn, 1) := dz_173 (n := 0) (r := 21) hz_X12_joined_0 rfl
theorem dX12_joined_22 : decode cX12_joined 22 = .ok (.aload_n 0, 1) := dz_42 (n := 0) (r := 22) hz_X12_joined_0 rfl
theorem dX12_joined_23 : decode cX12_joined 23 = .ok (.invokevirtual 261, 3) := dz_182 (n := 0) (r := 23) hz_X12_joined_0 rfl rfl
theorem dX12_joined_26 : decode cX12_joined 26 = .ok (.iconst 0, 1) := dz_3 (n := 0) (r := 26) hz_X12_joined_0 rfl
theorem dX12_joined_27 : decode cX12_joined 27 = .ok (.istore 4, 2) := dz_54 (n := 0) (r := 27) hz_X12_joined_0 rfl rfl
theorem dX12_joined_29 : decode cX12_joined 29 = .ok (.iload 4, 2) := dz_21 (n := 0) (r := 29) hz_X12_joined_0 rfl rfl
theorem dX12_joined_31 : decode cX12_joined 31 = .ok (.bipush 66, 2) := dz_16 (n := 0) (r := 31) hz_X12_joined_0 rfl rfl
theorem hz_X12_joined_32 : (cX12_joined.data.toList.drop 32).take 40 = [66, 162, 0, 28, 42, 180, 0, 66, 21, 4, 42, 180, 0, 49, 16, 66, 27, 104, 21, 4, 96, 46, 79, 132, 4, 1, 167, 255, 227, 42, 42, 180, 0, 66, 42, 180, 0, 69, 182, 1] := by decide +kernel
theorem dX12_joined_33 : decode cX12_joined 33 = .ok (.if_icmp .ge 28, 3) := dz_162 (n := 32) (r := 1) hz_X12_joined_32 rfl (by decide +kernel)
theorem dX12_joined_36 : decode cX12_joined 36 = .ok (.aload_n 0, 1) := dz_42 (n := 32) (r := 4) hz_X12_joined_32 rfl
theorem dX12_joined_37 : decode cX12_joined 37 = .ok (.getfield 66, 3) := dz_180 (n := 32) (r := 5) hz_X12_joined_32 rfl rfl
theorem dX12_joined_40 : decode cX12_joined 40 = .ok (.iload 4, 2) := dz_21 (n := 32) (r := 8) hz_X12_joined_32 rfl rfl
theorem dX12_joined_42 : decode cX12_joined 42 = .ok (.aload_n 0, 1) := dz_42 (n := 32) (r := 10) hz_X12_joined_32 rfl
theorem dX12_joined_43 : decode cX12_joined 43 = .ok (.getfield 49, 3) := dz_180 (n := 32) (r := 11) hz_X12_joined_32 rfl rfl
theorem dX12_joined_46 : decode cX12_joined 46 = .ok (.bipush 66, 2) := dz_16 (n := 32) (r := 14) hz_X12_joined_32 rfl rfl
theorem dX12_joined_48 : decode cX12_joined 48 = .ok (.iload_n 1, 1) := dz_27 (n := 32) (r := 16) hz_X12_joined_32 rfl
theorem dX12_joined_49 : decode cX12_joined 49 = .ok (.imul, 1) := dz_104 (n := 32) (r := 17) hz_X12_joined_32 rfl
theorem dX12_joined_50 : decode cX12_joined 50 = .ok (.iload 4, 2) := dz_21 (n := 32) (r := 18) hz_X12_joined_32 rfl rfl
theorem dX12_joined_52 : decode cX12_joined 52 = .ok (.iadd, 1) := dz_96 (n := 32) (r := 20) hz_X12_joined_32 rfl
theorem dX12_joined_53 : decode cX12_joined 53 = .ok (.iaload, 1) := dz_46 (n := 32) (r := 21) hz_X12_joined_32 rfl
theorem dX12_joined_54 : decode cX12_joined 54 = .ok (.iastore, 1) := dz_79 (n := 32) (r := 22) hz_X12_joined_32 rfl
theorem dX12_joined_55 : decode cX12_joined 55 = .ok (.iinc 4 1, 3) := dz_132 (n := 32) (r := 23) hz_X12_joined_32 rfl rfl rfl
theorem dX12_joined_58 : decode cX12_joined 58 = .ok (.goto (-29), 3) := dz_167 (n := 32) (r := 26) hz_X12_joined_32 rfl (by decide +kernel)
theorem dX12_joined_61 : decode cX12_joined 61 = .ok (.aload_n 0, 1) := dz_42 (n := 32) (r := 29) hz_X12_joined_32 rfl
theorem dX12_joined_62 : decode cX12_joined 62 = .ok (.aload_n 0, 1) := dz_42 (n := 32) (r := 30) hz_X12_joined_32 rfl
theorem dX12_joined_63 : decode cX12_joined 63 = .ok (.getfield 66, 3) := dz_180 (n := 32) (r := 31) hz_X12_joined_32 rfl rfl
theorem hz_X12_joined_64 : (cX12_joined.data.toList.drop 64).take 40 = [0, 66, 42, 180, 0, 69, 182, 1, 61, 3, 54, 4, 21, 4, 17, 2, 89, 162, 0, 17, 42, 180, 0, 72, 21, 4, 9, 80, 132, 4, 1, 167, 255, 237, 3, 54, 4, 21, 4, 17] := by decide +kernel
theorem dX12_joined_66 : decode cX12_joined 66 = .ok (.aload_n 0, 1) := dz_42 (n := 64) (r := 2) hz_X12_joined_64 rfl
theorem dX12_joined_67 : decode cX12_joined 67 = .ok (.getfield 69, 3) := dz_180 (n := 64) (r := 3) hz_X12_joined_64 rfl rfl
theorem dX12_joined_70 : decode cX12_joined 70 = .ok (.invokevirtual 317, 3) := dz_182 (n := 64) (r := 6) hz_X12_joined_64 rfl rfl
theorem dX12_joined_73 : decode cX12_joined 73 = .ok (.iconst 0, 1) := dz_3 (n := 64) (r := 9) hz_X12_joined_64 rfl
theorem dX12_joined_74 : decode cX12_joined 74 = .ok (.istore 4, 2) := dz_54 (n := 64) (r := 10) hz_X12_joined_64 rfl rfl
theorem dX12_joined_76 : decode cX12_joined 76 = .ok (.iload 4, 2) := dz_21 (n := 64) (r := 12) hz_X12_joined_64 rfl rfl
theorem dX12_joined_78 : decode cX12_joined 78 = .ok (.sipush 601, 3) := dz_17 (n := 64) (r := 14) hz_X12_joined_64 rfl (by decide +kernel)
theorem dX12_joined_81 : decode cX12_joined 81 = .ok (.if_icmp .ge 17, 3) := dz_162 (n := 64) (r := 17) hz_X12_joined_64 rfl (by decide +kernel)
theorem dX12_joined_84 : decode cX12_joined 84 = .ok (.aload_n 0, 1) := dz_42 (n := 64) (r := 20) hz_X12_joined_64 rfl
theorem dX12_joined_85 : decode cX12_joined 85 = .ok (.getfield 72, 3) := dz_180 (n := 64) (r := 21) hz_X12_joined_64 rfl rfl
theorem dX12_joined_88 : decode cX12_joined 88 = .ok (.iload 4, 2) := dz_21 (n := 64) (r := 24) hz_X12_joined_64 rfl rfl
theorem dX12_joined_90 : decode cX12_joined 90 = .ok (.lconst 0, 1) := dz_9 (n := 64) (r := 26) hz_X12_joined_64 rfl
theorem dX12_joined_91 : decode cX12_joined 91 = .ok (.lastore, 1) := dz_80 (n := 64) (r := 27) hz_X12_joined_64 rfl
theorem dX12_joined_92 : decode cX12_joined 92 = .ok (.iinc 4 1, 3) := dz_132 (n := 64) (r := 28) hz_X12_joined_64 rfl rfl rfl
theorem dX12_joined_95 : decode cX12_joined 95 = .ok (.goto (-19), 3) := dz_167 (n := 64) (r := 31) hz_X12_joined_64 rfl (by decide +kernel)
theorem hz_X12_joined_96 : (cX12_joined.data.toList.drop 96).take 40 = [255, 237, 3, 54, 4, 21, 4, 17, 1, 45, 162, 0, 66, 3, 54, 5, 21, 5, 17, 1, 45, 162, 0, 49, 42, 180, 0, 60, 21, 4, 46, 158, 0, 39, 42, 180, 0, 72, 21, 4] := by decide +kernel
theorem dX12_joined_98 : decode cX12_joined 98 = .ok (.iconst 0, 1) := dz_3 (n := 96) (r := 2) hz_X12_joined_96 rfl
theorem dX12_joined_99 : decode cX12_joined 99 = .ok (.istore 4, 2) := dz_54 (n := 96) (r := 3) hz_X12_joined_96 rfl rfl
theorem dX12_joined_101 : decode cX12_joined 101 = .ok (.iload 4, 2) := dz_21 (n := 96) (r := 5) hz_X12_joined_96 rfl rfl
theorem dX12_joined_103 : decode cX12_joined 103 = .ok (.sipush 301, 3) := dz_17 (n := 96) (r := 7) hz_X12_joined_96 rfl (by decide +kernel)
theorem dX12_joined_106 : decode cX12_joined 106 = .ok (.if_icmp .ge 66, 3) := dz_162 (n := 96) (r := 10) hz_X12_joined_96 rfl (by decide +kernel)
theorem dX12_joined_109 : decode cX12_joined 109 = .ok (.iconst 0, 1) := dz_3 (n := 96) (r := 13) hz_X12_joined_96 rfl
theorem dX12_joined_110 : decode cX12_joined 110 = .ok (.istore 5, 2) := dz_54 (n := 96) (r := 14) hz_X12_joined_96 rfl rfl
theorem dX12_joined_112 : decode cX12_joined 112 = .ok (.iload 5, 2) := dz_21 (n := 96) (r := 16) hz_X12_joined_96 rfl rfl
theorem dX12_joined_114 : decode cX12_joined 114 = .ok (.sipush 301, 3) := dz_17 (n := 96) (r := 18) hz_X12_joined_96 rfl (by decide +kernel)
theorem dX12_joined_117 : decode cX12_joined 117 = .ok (.if_icmp .ge 49, 3) := dz_162 (n := 96) (r := 21) hz_X12_joined_96 rfl (by decide +kernel)
theorem dX12_joined_120 : decode cX12_joined 120 = .ok (.aload_n 0, 1) := dz_42 (n := 96) (r := 24) hz_X12_joined_96 rfl
theorem dX12_joined_121 : decode cX12_joined 121 = .ok (.getfield 60, 3) := dz_180 (n := 96) (r := 25) hz_X12_joined_96 rfl rfl
theorem dX12_joined_124 : decode cX12_joined 124 = .ok (.iload 4, 2) := dz_21 (n := 96) (r := 28) hz_X12_joined_96 rfl rfl
theorem dX12_joined_126 : decode cX12_joined 126 = .ok (.iaload, 1) := dz_46 (n := 96) (r := 30) hz_X12_joined_96 rfl
theorem dX12_joined_127 : decode cX12_joined 127 = .ok (.ifCond .le 39, 3) := dz_158 (n := 96) (r := 31) hz_X12_joined_96 rfl (by decide +kernel)
theorem hz_X12_joined_128 : (cX12_joined.data.toList.drop 128).take 40 = [0, 39, 42, 180, 0, 72, 21, 4, 21, 5, 96, 92, 47, 42, 180, 0, 60, 21, 4, 46, 133, 42, 180, 0, 69, 21, 5, 46, 133, 105, 97, 80, 132, 5, 1, 167, 255, 205, 132, 4] := by decide +kernel
theorem dX12_joined_130 : decode cX12_joined 130 = .ok (.aload_n 0, 1) := dz_42 (n := 128) (r := 2) hz_X12_joined_128 rfl
theorem dX12_joined_131 : decode cX12_joined 131 = .ok (.getfield 72, 3) := dz_180 (n := 128) (r := 3) hz_X12_joined_128 rfl rfl
theorem dX12_joined_134 : decode cX12_joined 134 = .ok (.iload 4, 2) := dz_21 (n := 128) (r := 6) hz_X12_joined_128 rfl rfl
theorem dX12_joined_136 : decode cX12_joined 136 = .ok (.iload 5, 2) := dz_21 (n := 128) (r := 8) hz_X12_joined_128 rfl rfl
theorem dX12_joined_138 : decode cX12_joined 138 = .ok (.iadd, 1) := dz_96 (n := 128) (r := 10) hz_X12_joined_128 rfl
theorem dX12_joined_139 : decode cX12_joined 139 = .ok (.dup2, 1) := dz_92 (n := 128) (r := 11) hz_X12_joined_128 rfl
theorem dX12_joined_140 : decode cX12_joined 140 = .ok (.laload, 1) := dz_47 (n := 128) (r := 12) hz_X12_joined_128 rfl
theorem dX12_joined_141 : decode cX12_joined 141 = .ok (.aload_n 0, 1) := dz_42 (n := 128) (r := 13) hz_X12_joined_128 rfl
theorem dX12_joined_142 : decode cX12_joined 142 = .ok (.getfield 60, 3) := dz_180 (n := 128) (r := 14) hz_X12_joined_128 rfl rfl
theorem dX12_joined_145 : decode cX12_joined 145 = .ok (.iload 4, 2) := dz_21 (n := 128) (r := 17) hz_X12_joined_128 rfl rfl
theorem dX12_joined_147 : decode cX12_joined 147 = .ok (.iaload, 1) := dz_46 (n := 128) (r := 19) hz_X12_joined_128 rfl
theorem dX12_joined_148 : decode cX12_joined 148 = .ok (.i2l, 1) := dz_133 (n := 128) (r := 20) hz_X12_joined_128 rfl
theorem dX12_joined_149 : decode cX12_joined 149 = .ok (.aload_n 0, 1) := dz_42 (n := 128) (r := 21) hz_X12_joined_128 rfl
theorem dX12_joined_150 : decode cX12_joined 150 = .ok (.getfield 69, 3) := dz_180 (n := 128) (r := 22) hz_X12_joined_128 rfl rfl
theorem dX12_joined_153 : decode cX12_joined 153 = .ok (.iload 5, 2) := dz_21 (n := 128) (r := 25) hz_X12_joined_128 rfl rfl
theorem dX12_joined_155 : decode cX12_joined 155 = .ok (.iaload, 1) := dz_46 (n := 128) (r := 27) hz_X12_joined_128 rfl
theorem dX12_joined_156 : decode cX12_joined 156 = .ok (.i2l, 1) := dz_133 (n := 128) (r := 28) hz_X12_joined_128 rfl
theorem dX12_joined_157 : decode cX12_joined 157 = .ok (.lmul, 1) := dz_105 (n := 128) (r := 29) hz_X12_joined_128 rfl
theorem dX12_joined_158 : decode cX12_joined 158 = .ok (.ladd, 1) := dz_97 (n := 128) (r := 30) hz_X12_joined_128 rfl
theorem dX12_joined_159 : decode cX12_joined 159 = .ok (.lastore, 1) := dz_80 (n := 128) (r := 31) hz_X12_joined_128 rfl
theorem hz_X12_joined_160 : (cX12_joined.data.toList.drop 160).take 40 = [132, 5, 1, 167, 255, 205, 132, 4, 1, 167, 255, 188, 3, 54, 4, 3, 54, 5, 21, 5, 17, 2, 89, 162, 0, 66, 42, 180, 0, 72, 21, 5, 47, 9, 148, 154, 0, 6, 167, 0] := by decide +kernel
theorem dX12_joined_160 : decode cX12_joined 160 = .ok (.iinc 5 1, 3) := dz_132 (n := 160) (r := 0) hz_X12_joined_160 rfl rfl rfl
theorem dX12_joined_163 : decode cX12_joined 163 = .ok (.goto (-51), 3) := dz_167 (n := 160) (r := 3) hz_X12_joined_160 rfl (by decide +kernel)
theorem dX12_joined_166 : decode cX12_joined 166 = .ok (.iinc 4 1, 3) := dz_132 (n := 160) (r := 6) hz_X12_joined_160 rfl rfl rfl
theorem dX12_joined_169 : decode cX12_joined 169 = .ok (.goto (-68), 3) := dz_167 (n := 160) (r := 9) hz_X12_joined_160 rfl (by decide +kernel)
theorem dX12_joined_172 : decode cX12_joined 172 = .ok (.iconst 0, 1) := dz_3 (n := 160) (r := 12) hz_X12_joined_160 rfl
theorem dX12_joined_173 : decode cX12_joined 173 = .ok (.istore 4, 2) := dz_54 (n := 160) (r := 13) hz_X12_joined_160 rfl rfl
theorem dX12_joined_175 : decode cX12_joined 175 = .ok (.iconst 0, 1) := dz_3 (n := 160) (r := 15) hz_X12_joined_160 rfl
theorem dX12_joined_176 : decode cX12_joined 176 = .ok (.istore 5, 2) := dz_54 (n := 160) (r := 16) hz_X12_joined_160 rfl rfl
theorem dX12_joined_178 : decode cX12_joined 178 = .ok (.iload 5, 2) := dz_21 (n := 160) (r := 18) hz_X12_joined_160 rfl rfl
theorem dX12_joined_180 : decode cX12_joined 180 = .ok (.sipush 601, 3) := dz_17 (n := 160) (r := 20) hz_X12_joined_160 rfl (by decide +kernel)
theorem dX12_joined_183 : decode cX12_joined 183 = .ok (.if_icmp .ge 66, 3) := dz_162 (n := 160) (r := 23) hz_X12_joined_160 rfl (by decide +kernel)
theorem dX12_joined_186 : decode cX12_joined 186 = .ok (.aload_n 0, 1) := dz_42 (n := 160) (r := 26) hz_X12_joined_160 rfl
theorem dX12_joined_187 : decode cX12_joined 187 = .ok (.getfield 72, 3) := dz_180 (n := 160) (r := 27) hz_X12_joined_160 rfl rfl
theorem dX12_joined_190 : decode cX12_joined 190 = .ok (.iload 5, 2) := dz_21 (n := 160) (r := 30) hz_X12_joined_160 rfl rfl
theorem hz_X12_joined_192 : (cX12_joined.data.toList.drop 192).take 40 = [47, 9, 148, 154, 0, 6, 167, 0, 45, 21, 4, 28, 160, 0, 36, 29, 154, 0, 13, 21, 5, 17, 1, 44, 100, 133, 167, 0, 21, 29, 4, 160, 0, 13, 42, 180, 0, 72, 21, 5] := by decide +kernel
theorem dX12_joined_192 : decode cX12_joined 192 = .ok (.laload, 1) := dz_47 (n := 192) (r := 0) hz_X12_joined_192 rfl
theorem dX12_joined_193 : decode cX12_joined 193 = .ok (.lconst 0, 1) := dz_9 (n := 192) (r := 1) hz_X12_joined_192 rfl
theorem dX12_joined_194 : decode cX12_joined 194 = .ok (.lcmp, 1) := dz_148 (n := 192) (r := 2) hz_X12_joined_192 rfl
theorem dX12_joined_195 : decode cX12_joined 195 = .ok (.ifCond .ne 6, 3) := dz_154 (n := 192) (r := 3) hz_X12_joined_192 rfl (by decide +kernel)
theorem dX12_joined_198 : decode cX12_joined 198 = .ok (.goto 45, 3) := dz_167 (n := 192) (r := 6) hz_X12_joined_192 rfl (by decide +kernel)
theorem dX12_joined_201 : decode cX12_joined 201 = .ok (.iload 4, 2) := dz_21 (n := 192) (r := 9) hz_X12_joined_192 rfl rfl
theorem dX12_joined_203 : decode cX12_joined 203 = .ok (.iload_n 2, 1) := dz_28 (n := 192) (r := 11) hz_X12_joined_192 rfl
theorem dX12_joined_204 : decode cX12_joined 204 = .ok (.if_icmp .ne 36, 3) := dz_160 (n := 192) (r := 12) hz_X12_joined_192 rfl (by decide +kernel)
theorem dX12_joined_207 : decode cX12_joined 207 = .ok (.iload_n 3, 1) := dz_29 (n := 192) (r := 15) hz_X12_joined_192 rfl
theorem dX12_joined_208 : decode cX12_joined 208 = .ok (.ifCond .ne 13, 3) := dz_154 (n := 192) (r := 16) hz_X12_joined_192 rfl (by decide +kernel)
theorem dX12_joined_211 : decode cX12_joined 211 = .ok (.iload 5, 2) := dz_21 (n := 192) (r := 19) hz_X12_joined_192 rfl rfl
theorem dX12_joined_213 : decode cX12_joined 213 = .ok (.sipush 300, 3) := dz_17 (n := 192) (r := 21) hz_X12_joined_192 rfl (by decide +kernel)
theorem dX12_joined_216 : decode cX12_joined 216 = .ok (.isub, 1) := dz_100 (n := 192) (r := 24) hz_X12_joined_192 rfl
theorem dX12_joined_217 : decode cX12_joined 217 = .ok (.i2l, 1) := dz_133 (n := 192) (r := 25) hz_X12_joined_192 rfl
theorem dX12_joined_218 : decode cX12_joined 218 = .ok (.goto 21, 3) := dz_167 (n := 192) (r := 26) hz_X12_joined_192 rfl (by decide +kernel)
theorem dX12_joined_221 : decode cX12_joined 221 = .ok (.iload_n 3, 1) := dz_29 (n := 192) (r := 29) hz_X12_joined_192 rfl
theorem dX12_joined_222 : decode cX12_joined 222 = .ok (.iconst 1, 1) := dz_4 (n := 192) (r := 30) hz_X12_joined_192 rfl
theorem dX12_joined_223 : decode cX12_joined 223 = .ok (.if_icmp .ne 13, 3) := dz_160 (n := 192) (r := 31) hz_X12_joined_192 rfl (by decide +kernel)
theorem hz_X12_joined_224 : (cX12_joined.data.toList.drop 224).take 40 = [0, 13, 42, 180, 0, 72, 21, 5, 47, 167, 0, 6, 20, 1, 59, 173, 132, 4, 1, 132, 5, 1, 167, 255, 188, 28, 2, 160, 0, 9, 21, 4, 133, 167, 0, 6, 20, 1, 59, 173] := by decide +kernel
theorem dX12_joined_226 : decode cX12_joined 226 = .ok (.aload_n 0, 1) := dz_42 (n := 224) (r := 2) hz_X12_joined_224 rfl
theorem dX12_joined_227 : decode cX12_joined 227 = .ok (.getfield 72, 3) := dz_180 (n := 224) (r := 3) hz_X12_joined_224 rfl rfl
theorem dX12_joined_230 : decode cX12_joined 230 = .ok (.iload 5, 2) := dz_21 (n := 224) (r := 6) hz_X12_joined_224 rfl rfl
theorem dX12_joined_232 : decode cX12_joined 232 = .ok (.laload, 1) := dz_47 (n := 224) (r := 8) hz_X12_joined_224 rfl
theorem dX12_joined_233 : decode cX12_joined 233 = .ok (.goto 6, 3) := dz_167 (n := 224) (r := 9) hz_X12_joined_224 rfl (by decide +kernel)
theorem dX12_joined_236 : decode cX12_joined 236 = .ok (.ldc2_w 315, 3) := dz_20 (n := 224) (r := 12) hz_X12_joined_224 rfl rfl
theorem dX12_joined_239 : decode cX12_joined 239 = .ok (.lreturn, 1) := dz_173 (n := 224) (r := 15) hz_X12_joined_224 rfl
theorem dX12_joined_240 : decode cX12_joined 240 = .ok (.iinc 4 1, 3) := dz_132 (n := 224) (r := 16) hz_X12_joined_224 rfl rfl rfl
theorem dX12_joined_243 : decode cX12_joined 243 = .ok (.iinc 5 1, 3) := dz_132 (n := 224) (r := 19) hz_X12_joined_224 rfl rfl rfl
theorem dX12_joined_246 : decode cX12_joined 246 = .ok (.goto (-68), 3) := dz_167 (n := 224) (r := 22) hz_X12_joined_224 rfl (by decide +kernel)
theorem dX12_joined_249 : decode cX12_joined 249 = .ok (.iload_n 2, 1) := dz_28 (n := 224) (r := 25) hz_X12_joined_224 rfl
theorem dX12_joined_250 : decode cX12_joined 250 = .ok (.iconst (-1), 1) := dz_2 (n := 224) (r := 26) hz_X12_joined_224 rfl
theorem dX12_joined_251 : decode cX12_joined 251 = .ok (.if_icmp .ne 9, 3) := dz_160 (n := 224) (r := 27) hz_X12_joined_224 rfl (by decide +kernel)
theorem dX12_joined_254 : decode cX12_joined 254 = .ok (.iload 4, 2) := dz_21 (n := 224) (r := 30) hz_X12_joined_224 rfl rfl
theorem hz_X12_joined_256 : (cX12_joined.data.toList.drop 256).take 40 = [133, 167, 0, 6, 20, 1, 59, 173] := by decide +kernel
theorem dX12_joined_256 : decode cX12_joined 256 = .ok (.i2l, 1) := dz_133 (n := 256) (r := 0) hz_X12_joined_256 rfl
theorem dX12_joined_257 : decode cX12_joined 257 = .ok (.goto 6, 3) := dz_167 (n := 256) (r := 1) hz_X12_joined_256 rfl (by decide +kernel)
theorem dX12_joined_260 : decode cX12_joined 260 = .ok (.ldc2_w 315, 3) := dz_20 (n := 256) (r := 4) hz_X12_joined_256 rfl rfl
theorem dX12_joined_263 : decode cX12_joined 263 = .ok (.lreturn, 1) := dz_173 (n := 256) (r := 7) hz_X12_joined_256 rfl
theorem hz_X12_steepest_0 : (cX12_steepest.data.toList.drop 0).take 40 = [2, 61, 42, 180, 0, 57, 27, 46, 62, 3, 54, 4, 21, 4, 42, 182, 0, 193, 162, 0, 37, 42, 180, 0, 57, 27, 4, 21, 4, 120, 130, 46, 54, 5, 21, 5, 29, 161, 0, 6] := by decide +kernel
theorem dX12_steepest_0 : decode cX12_steepest 0 = .ok (.iconst (-1), 1) := dz_2 (n := 0) (r := 0) hz_X12_steepest_0 rfl
theorem dX12_steepest_1 : decode cX12_steepest 1 = .ok (.istore_n 2, 1) := dz_61 (n := 0) (r := 1) hz_X12_steepest_0 rfl
theorem dX12_steepest_2 : decode cX12_steepest 2 = .ok (.aload_n 0, 1) := dz_42 (n := 0) (r := 2) hz_X12_steepest_0 rfl
theorem dX12_steepest_3 : decode cX12_steepest 3 = .ok (.getfield 57, 3) := dz_180 (n := 0) (r := 3) hz_X12_steepest_0 rfl rfl
theorem dX12_steepest_6 : decode cX12_steepest 6 = .ok (.iload_n 1, 1) := dz_27 (n := 0) (r := 6) hz_X12_steepest_0 rfl
theorem dX12_steepest_7 : decode cX12_steepest 7 = .ok (.iaload, 1) := dz_46 (n := 0) (r := 7) hz_X12_steepest_0 rfl
theorem dX12_steepest_8 : decode cX12_steepest 8 = .ok (.istore_n 3, 1) := dz_62 (n := 0) (r := 8) hz_X12_steepest_0 rfl
theorem dX12_steepest_9 : decode cX12_steepest 9 = .ok (.iconst 0, 1) := dz_3 (n := 0) (r := 9) hz_X12_steepest_0 rfl
theorem dX12_steepest_10 : decode cX12_steepest 10 = .ok (.istore 4, 2) := dz_54 (n := 0) (r := 10) hz_X12_steepest_0 rfl rfl
theorem dX12_steepest_12 : decode cX12_steepest 12 = .ok (.iload 4, 2) := dz_21 (n := 0) (r := 12) hz_X12_steepest_0 rfl rfl
theorem dX12_steepest_14 : decode cX12_steepest 14 = .ok (.aload_n 0, 1) := dz_42 (n := 0) (r := 14) hz_X12_steepest_0 rfl
theorem dX12_steepest_15 : decode cX12_steepest 15 = .ok (.invokevirtual 193, 3) := dz_182 (n := 0) (r := 15) hz_X12_steepest_0 rfl rfl
theorem dX12_steepest_18 : decode cX12_steepest 18 = .ok (.if_icmp .ge 37, 3) := dz_162 (n := 0) (r := 18) hz_X12_steepest_0 rfl (by decide +kernel)
theorem dX12_steepest_21 : decode cX12_steepest 21 = .ok (.aload_n 0, 1) := dz_42 (n := 0) (r := 21) hz_X12_steepest_0 rfl
theorem dX12_steepest_22 : decode cX12_steepest 22 = .ok (.getfield 57, 3) := dz_180 (n := 0) (r := 22) hz_X12_steepest_0 rfl rfl
theorem dX12_steepest_25 : decode cX12_steepest 25 = .ok (.iload_n 1, 1) := dz_27 (n := 0) (r := 25) hz_X12_steepest_0 rfl
theorem dX12_steepest_26 : decode cX12_steepest 26 = .ok (.iconst 1, 1) := dz_4 (n := 0) (r := 26) hz_X12_steepest_0 rfl
theorem dX12_steepest_27 : decode cX12_steepest 27 = .ok (.iload 4, 2) := dz_21 (n := 0) (r := 27) hz_X12_steepest_0 rfl rfl
theorem dX12_steepest_29 : decode cX12_steepest 29 = .ok (.ishl, 1) := dz_120 (n := 0) (r := 29) hz_X12_steepest_0 rfl
theorem dX12_steepest_30 : decode cX12_steepest 30 = .ok (.ixor, 1) := dz_130 (n := 0) (r := 30) hz_X12_steepest_0 rfl
theorem dX12_steepest_31 : decode cX12_steepest 31 = .ok (.iaload, 1) := dz_46 (n := 0) (r := 31) hz_X12_steepest_0 rfl
theorem hz_X12_steepest_32 : (cX12_steepest.data.toList.drop 32).take 40 = [54, 5, 21, 5, 29, 161, 0, 6, 167, 0, 9, 21, 4, 61, 21, 5, 62, 132, 4, 1, 167, 255, 216, 28, 172] := by decide +kernel
theorem dX12_steepest_32 : decode cX12_steepest 32 = .ok (.istore 5, 2) := dz_54 (n := 32) (r := 0) hz_X12_steepest_32 rfl rfl
theorem dX12_steepest_34 : decode cX12_steepest 34 = .ok (.iload 5, 2) := dz_21 (n := 32) (r := 2) hz_X12_steepest_32 rfl rfl
theorem dX12_steepest_36 : decode cX12_steepest 36 = .ok (.iload_n 3, 1) := dz_29 (n := 32) (r := 4) hz_X12_steepest_32 rfl
theorem dX12_steepest_37 : decode cX12_steepest 37 = .ok (.if_icmp .lt 6, 3) := dz_161 (n := 32) (r := 5) hz_X12_steepest_32 rfl (by decide +kernel)
theorem dX12_steepest_40 : decode cX12_steepest 40 = .ok (.goto 9, 3) := dz_167 (n := 32) (r := 8) hz_X12_steepest_32 rfl (by decide +kernel)
theorem dX12_steepest_43 : decode cX12_steepest 43 = .ok (.iload 4, 2) := dz_21 (n := 32) (r := 11) hz_X12_steepest_32 rfl rfl
theorem dX12_steepest_45 : decode cX12_steepest 45 = .ok (.istore_n 2, 1) := dz_61 (n := 32) (r := 13) hz_X12_steepest_32 rfl
theorem dX12_steepest_46 : decode cX12_steepest 46 = .ok (.iload 5, 2) := dz_21 (n := 32) (r := 14) hz_X12_steepest_32 rfl rfl
theorem dX12_steepest_48 : decode cX12_steepest 48 = .ok (.istore_n 3, 1) := dz_62 (n := 32) (r := 16) hz_X12_steepest_32 rfl
theorem dX12_steepest_49 : decode cX12_steepest 49 = .ok (.iinc 4 1, 3) := dz_132 (n := 32) (r := 17) hz_X12_steepest_32 rfl rfl rfl
theorem dX12_steepest_52 : decode cX12_steepest 52 = .ok (.goto (-40), 3) := dz_167 (n := 32) (r := 20) hz_X12_steepest_32 rfl (by decide +kernel)
theorem dX12_steepest_55 : decode cX12_steepest 55 = .ok (.iload_n 2, 1) := dz_28 (n := 32) (r := 23) hz_X12_steepest_32 rfl
theorem dX12_steepest_56 : decode cX12_steepest 56 = .ok (.ireturn, 1) := dz_172 (n := 32) (r := 24) hz_X12_steepest_32 rfl
theorem hz_X12_fallEnd_0 : (cX12_fallEnd.data.toList.drop 0).take 40 = [27, 61, 42, 28, 182, 1, 65, 62, 29, 155, 0, 18, 28, 4, 29, 120, 130, 61, 42, 28, 182, 1, 65, 62, 167, 255, 240, 28, 172] := by decide +kernel
theorem dX12_fallEnd_0 : decode cX12_fallEnd 0 = .ok (.iload_n 1, 1) := dz_27 (n := 0) (r := 0) hz_X12_fallEnd_0 rfl
theorem dX12_fallEnd_1 : decode cX12_fallEnd 1 = .ok (.istore_n 2, 1) := dz_61 (n := 0) (r := 1) hz_X12_fallEnd_0 rfl
theorem dX12_fallEnd_2 : decode cX12_fallEnd 2 = .ok (.aload_n 0, 1) := dz_42 (n := 0) (r := 2) hz_X12_fallEnd_0 rfl
theorem dX12_fallEnd_3 : decode cX12_fallEnd 3 = .ok (.iload_n 2, 1) := dz_28 (n := 0) (r := 3) hz_X12_fallEnd_0 rfl
theorem dX12_fallEnd_4 : decode cX12_fallEnd 4 = .ok (.invokevirtual 321, 3) := dz_182 (n := 0) (r := 4) hz_X12_fallEnd_0 rfl rfl
theorem dX12_fallEnd_7 : decode cX12_fallEnd 7 = .ok (.istore_n 3, 1) := dz_62 (n := 0) (r := 7) hz_X12_fallEnd_0 rfl
theorem dX12_fallEnd_8 : decode cX12_fallEnd 8 = .ok (.iload_n 3, 1) := dz_29 (n := 0) (r := 8) hz_X12_fallEnd_0 rfl
theorem dX12_fallEnd_9 : decode cX12_fallEnd 9 = .ok (.ifCond .lt 18, 3) := dz_155 (n := 0) (r := 9) hz_X12_fallEnd_0 rfl (by decide +kernel)
theorem dX12_fallEnd_12 : decode cX12_fallEnd 12 = .ok (.iload_n 2, 1) := dz_28 (n := 0) (r := 12) hz_X12_fallEnd_0 rfl
theorem dX12_fallEnd_13 : decode cX12_fallEnd 13 = .ok (.iconst 1, 1) := dz_4 (n := 0) (r := 13) hz_X12_fallEnd_0 rfl
theorem dX12_fallEnd_14 : decode cX12_fallEnd 14 = .ok (.iload_n 3, 1) := dz_29 (n := 0) (r := 14) hz_X12_fallEnd_0 rfl
theorem dX12_fallEnd_15 : decode cX12_fallEnd 15 = .ok (.ishl, 1) := dz_120 (n := 0) (r := 15) hz_X12_fallEnd_0 rfl
theorem dX12_fallEnd_16 : decode cX12_fallEnd 16 = .ok (.ixor, 1) := dz_130 (n := 0) (r := 16) hz_X12_fallEnd_0 rfl
theorem dX12_fallEnd_17 : decode cX12_fallEnd 17 = .ok (.istore_n 2, 1) := dz_61 (n := 0) (r := 17) hz_X12_fallEnd_0 rfl
theorem dX12_fallEnd_18 : decode cX12_fallEnd 18 = .ok (.aload_n 0, 1) := dz_42 (n := 0) (r := 18) hz_X12_fallEnd_0 rfl
theorem dX12_fallEnd_19 : decode cX12_fallEnd 19 = .ok (.iload_n 2, 1) := dz_28 (n := 0) (r := 19) hz_X12_fallEnd_0 rfl
theorem dX12_fallEnd_20 : decode cX12_fallEnd 20 = .ok (.invokevirtual 321, 3) := dz_182 (n := 0) (r := 20) hz_X12_fallEnd_0 rfl rfl
theorem dX12_fallEnd_23 : decode cX12_fallEnd 23 = .ok (.istore_n 3, 1) := dz_62 (n := 0) (r := 23) hz_X12_fallEnd_0 rfl
theorem dX12_fallEnd_24 : decode cX12_fallEnd 24 = .ok (.goto (-16), 3) := dz_167 (n := 0) (r := 24) hz_X12_fallEnd_0 rfl (by decide +kernel)
theorem dX12_fallEnd_27 : decode cX12_fallEnd 27 = .ok (.iload_n 2, 1) := dz_28 (n := 0) (r := 27) hz_X12_fallEnd_0 rfl
theorem dX12_fallEnd_28 : decode cX12_fallEnd 28 = .ok (.ireturn, 1) := dz_172 (n := 0) (r := 28) hz_X12_fallEnd_0 rfl
theorem hz_X12_fallTurns_0 : (cX12_fallTurns.data.toList.drop 0).take 40 = [27, 61, 3, 62, 42, 28, 182, 1, 65, 54, 4, 21, 4, 155, 0, 23, 28, 4, 21, 4, 120, 130, 61, 132, 3, 1, 42, 28, 182, 1, 65, 54, 4, 167, 255, 234, 29, 172] := by decide +kernel
theorem dX12_fallTurns_0 : decode cX12_fallTurns 0 = .ok (.iload_n 1, 1) := dz_27 (n := 0) (r := 0) hz_X12_fallTurns_0 rfl
theorem dX12_fallTurns_1 : decode cX12_fallTurns 1 = .ok (.istore_n 2, 1) := dz_61 (n := 0) (r := 1) hz_X12_fallTurns_0 rfl
theorem dX12_fallTurns_2 : decode cX12_fallTurns 2 = .ok (.iconst 0, 1) := dz_3 (n := 0) (r := 2) hz_X12_fallTurns_0 rfl
theorem dX12_fallTurns_3 : decode cX12_fallTurns 3 = .ok (.istore_n 3, 1) := dz_62 (n := 0) (r := 3) hz_X12_fallTurns_0 rfl
theorem dX12_fallTurns_4 : decode cX12_fallTurns 4 = .ok (.aload_n 0, 1) := dz_42 (n := 0) (r := 4) hz_X12_fallTurns_0 rfl
theorem dX12_fallTurns_5 : decode cX12_fallTurns 5 = .ok (.iload_n 2, 1) := dz_28 (n := 0) (r := 5) hz_X12_fallTurns_0 rfl
theorem dX12_fallTurns_6 : decode cX12_fallTurns 6 = .ok (.invokevirtual 321, 3) := dz_182 (n := 0) (r := 6) hz_X12_fallTurns_0 rfl rfl
theorem dX12_fallTurns_9 : decode cX12_fallTurns 9 = .ok (.istore 4, 2) := dz_54 (n := 0) (r := 9) hz_X12_fallTurns_0 rfl rfl
theorem dX12_fallTurns_11 : decode cX12_fallTurns 11 = .ok (.iload 4, 2) := dz_21 (n := 0) (r := 11) hz_X12_fallTurns_0 rfl rfl
theorem dX12_fallTurns_13 : decode cX12_fallTurns 13 = .ok (.ifCond .lt 23, 3) := dz_155 (n := 0) (r := 13) hz_X12_fallTurns_0 rfl (by decide +kernel)
theorem dX12_fallTurns_16 : decode cX12_fallTurns 16 = .ok (.iload_n 2, 1) := dz_28 (n := 0) (r := 16) hz_X12_fallTurns_0 rfl
theorem dX12_fallTurns_17 : decode cX12_fallTurns 17 = .ok (.iconst 1, 1) := dz_4 (n := 0) (r := 17) hz_X12_fallTurns_0 rfl
theorem dX12_fallTurns_18 : decode cX12_fallTurns 18 = .ok (.iload 4, 2) := dz_21 (n := 0) (r := 18) hz_X12_fallTurns_0 rfl rfl
theorem dX12_fallTurns_20 : decode cX12_fallTurns 20 = .ok (.ishl, 1) := dz_120 (n := 0) (r := 20) hz_X12_fallTurns_0 rfl
theorem dX12_fallTurns_21 : decode cX12_fallTurns 21 = .ok (.ixor, 1) := dz_130 (n := 0) (r := 21) hz_X12_fallTurns_0 rfl
theorem dX12_fallTurns_22 : decode cX12_fallTurns 22 = .ok (.istore_n 2, 1) := dz_61 (n := 0) (r := 22) hz_X12_fallTurns_0 rfl
theorem dX12_fallTurns_23 : decode cX12_fallTurns 23 = .ok (.iinc 3 1, 3) := dz_132 (n := 0) (r := 23) hz_X12_fallTurns_0 rfl rfl rfl
theorem dX12_fallTurns_26 : decode cX12_fallTurns 26 = .ok (.aload_n 0, 1) := dz_42 (n := 0) (r := 26) hz_X12_fallTurns_0 rfl
theorem dX12_fallTurns_27 : decode cX12_fallTurns 27 = .ok (.iload_n 2, 1) := dz_28 (n := 0) (r := 27) hz_X12_fallTurns_0 rfl
theorem dX12_fallTurns_28 : decode cX12_fallTurns 28 = .ok (.invokevirtual 321, 3) := dz_182 (n := 0) (r := 28) hz_X12_fallTurns_0 rfl rfl
theorem dX12_fallTurns_31 : decode cX12_fallTurns 31 = .ok (.istore 4, 2) := dz_54 (n := 0) (r := 31) hz_X12_fallTurns_0 rfl rfl
theorem hz_X12_fallTurns_32 : (cX12_fallTurns.data.toList.drop 32).take 40 = [4, 167, 255, 234, 29, 172] := by decide +kernel
theorem dX12_fallTurns_33 : decode cX12_fallTurns 33 = .ok (.goto (-22), 3) := dz_167 (n := 32) (r := 1) hz_X12_fallTurns_32 rfl (by decide +kernel)
theorem dX12_fallTurns_36 : decode cX12_fallTurns 36 = .ok (.iload_n 3, 1) := dz_29 (n := 32) (r := 4) hz_X12_fallTurns_32 rfl
theorem dX12_fallTurns_37 : decode cX12_fallTurns 37 = .ok (.ireturn, 1) := dz_172 (n := 32) (r := 5) hz_X12_fallTurns_32 rfl
theorem hz_X12_levelOf_0 : (cX12_levelOf.data.toList.drop 0).take 40 = [3, 61, 42, 180, 0, 63, 28, 46, 42, 180, 0, 57, 27, 46, 159, 0, 9, 132, 2, 1, 167, 255, 238, 28, 172] := by decide +kernel
theorem dX12_levelOf_0 : decode cX12_levelOf 0 = .ok (.iconst 0, 1) := dz_3 (n := 0) (r := 0) hz_X12_levelOf_0 rfl
theorem dX12_levelOf_1 : decode cX12_levelOf 1 = .ok (.istore_n 2, 1) := dz_61 (n := 0) (r := 1) hz_X12_levelOf_0 rfl
theorem dX12_levelOf_2 : decode cX12_levelOf 2 = .ok (.aload_n 0, 1) := dz_42 (n := 0) (r := 2) hz_X12_levelOf_0 rfl
theorem dX12_levelOf_3 : decode cX12_levelOf 3 = .ok (.getfield 63, 3) := dz_180 (n := 0) (r := 3) hz_X12_levelOf_0 rfl rfl
theorem dX12_levelOf_6 : decode cX12_levelOf 6 = .ok (.iload_n 2, 1) := dz_28 (n := 0) (r := 6) hz_X12_levelOf_0 rfl
theorem dX12_levelOf_7 : decode cX12_levelOf 7 = .ok (.iaload, 1) := dz_46 (n := 0) (r := 7) hz_X12_levelOf_0 rfl
theorem dX12_levelOf_8 : decode cX12_levelOf 8 = .ok (.aload_n 0, 1) := dz_42 (n := 0) (r := 8) hz_X12_levelOf_0 rfl
theorem dX12_levelOf_9 : decode cX12_levelOf 9 = .ok (.getfield 57, 3) := dz_180 (n := 0) (r := 9) hz_X12_levelOf_0 rfl rfl
theorem dX12_levelOf_12 : decode cX12_levelOf 12 = .ok (.iload_n 1, 1) := dz_27 (n := 0) (r := 12) hz_X12_levelOf_0 rfl
theorem dX12_levelOf_13 : decode cX12_levelOf 13 = .ok (.iaload, 1) := dz_46 (n := 0) (r := 13) hz_X12_levelOf_0 rfl
