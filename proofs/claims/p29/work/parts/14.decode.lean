section
theorem dX12_meansOne_210 : decode cX12_meansOne 210 = .ok (.aload_n 0, 1) := dz_42 (n := 192) (r := 18) hz_X12_meansOne_192 rfl
theorem dX12_meansOne_211 : decode cX12_meansOne 211 = .ok (.getfield 43, 3) := dz_180 (n := 192) (r := 19) hz_X12_meansOne_192 rfl rfl
theorem dX12_meansOne_214 : decode cX12_meansOne 214 = .ok (.iload_n 2, 1) := dz_28 (n := 192) (r := 22) hz_X12_meansOne_192 rfl
theorem dX12_meansOne_215 : decode cX12_meansOne 215 = .ok (.bipush 26, 2) := dz_16 (n := 192) (r := 23) hz_X12_meansOne_192 rfl rfl
theorem dX12_meansOne_217 : decode cX12_meansOne 217 = .ok (.if_icmp .ne 8, 3) := dz_160 (n := 192) (r := 25) hz_X12_meansOne_192 rfl (by decide +kernel)
theorem dX12_meansOne_220 : decode cX12_meansOne 220 = .ok (.bipush 32, 2) := dz_16 (n := 192) (r := 28) hz_X12_meansOne_192 rfl rfl
theorem dX12_meansOne_222 : decode cX12_meansOne 222 = .ok (.goto 14, 3) := dz_167 (n := 192) (r := 30) hz_X12_meansOne_192 rfl (by decide +kernel)
theorem hz_X12_meansOne_224 : (cX12_meansOne.data.toList.drop 224).take 40 = [14, 21, 5, 153, 0, 8, 16, 16, 167, 0, 4, 3, 29, 96, 21, 6, 79, 177] := by decide +kernel
theorem dX12_meansOne_225 : decode cX12_meansOne 225 = .ok (.iload 5, 2) := dz_21 (n := 224) (r := 1) hz_X12_meansOne_224 rfl rfl
theorem dX12_meansOne_227 : decode cX12_meansOne 227 = .ok (.ifCond .eq 8, 3) := dz_153 (n := 224) (r := 3) hz_X12_meansOne_224 rfl (by decide +kernel)
theorem dX12_meansOne_230 : decode cX12_meansOne 230 = .ok (.bipush 16, 2) := dz_16 (n := 224) (r := 6) hz_X12_meansOne_224 rfl rfl
theorem dX12_meansOne_232 : decode cX12_meansOne 232 = .ok (.goto 4, 3) := dz_167 (n := 224) (r := 8) hz_X12_meansOne_224 rfl (by decide +kernel)
theorem dX12_meansOne_235 : decode cX12_meansOne 235 = .ok (.iconst 0, 1) := dz_3 (n := 224) (r := 11) hz_X12_meansOne_224 rfl
theorem dX12_meansOne_236 : decode cX12_meansOne 236 = .ok (.iload_n 3, 1) := dz_29 (n := 224) (r := 12) hz_X12_meansOne_224 rfl
theorem dX12_meansOne_237 : decode cX12_meansOne 237 = .ok (.iadd, 1) := dz_96 (n := 224) (r := 13) hz_X12_meansOne_224 rfl
theorem dX12_meansOne_238 : decode cX12_meansOne 238 = .ok (.iload 6, 2) := dz_21 (n := 224) (r := 14) hz_X12_meansOne_224 rfl rfl
theorem dX12_meansOne_240 : decode cX12_meansOne 240 = .ok (.iastore, 1) := dz_79 (n := 224) (r := 16) hz_X12_meansOne_224 rfl
theorem dX12_meansOne_241 : decode cX12_meansOne 241 = .ok (.return_, 1) := dz_177 (n := 224) (r := 17) hz_X12_meansOne_224 rfl
theorem hz_X12_in_0 : (cX12_in.data.toList.drop 0).take 40 = [26, 27, 161, 0, 12, 26, 28, 163, 0, 7, 4, 167, 0, 4, 3, 172] := by decide +kernel
theorem dX12_in_0 : decode cX12_in 0 = .ok (.iload_n 0, 1) := dz_26 (n := 0) (r := 0) hz_X12_in_0 rfl
theorem dX12_in_1 : decode cX12_in 1 = .ok (.iload_n 1, 1) := dz_27 (n := 0) (r := 1) hz_X12_in_0 rfl
theorem dX12_in_2 : decode cX12_in 2 = .ok (.if_icmp .lt 12, 3) := dz_161 (n := 0) (r := 2) hz_X12_in_0 rfl (by decide +kernel)
theorem dX12_in_5 : decode cX12_in 5 = .ok (.iload_n 0, 1) := dz_26 (n := 0) (r := 5) hz_X12_in_0 rfl
theorem dX12_in_6 : decode cX12_in 6 = .ok (.iload_n 2, 1) := dz_28 (n := 0) (r := 6) hz_X12_in_0 rfl
theorem dX12_in_7 : decode cX12_in 7 = .ok (.if_icmp .gt 7, 3) := dz_163 (n := 0) (r := 7) hz_X12_in_0 rfl (by decide +kernel)
theorem dX12_in_10 : decode cX12_in 10 = .ok (.iconst 1, 1) := dz_4 (n := 0) (r := 10) hz_X12_in_0 rfl
theorem dX12_in_11 : decode cX12_in 11 = .ok (.goto 4, 3) := dz_167 (n := 0) (r := 11) hz_X12_in_0 rfl (by decide +kernel)
theorem dX12_in_14 : decode cX12_in 14 = .ok (.iconst 0, 1) := dz_3 (n := 0) (r := 14) hz_X12_in_0 rfl
theorem dX12_in_15 : decode cX12_in 15 = .ok (.ireturn, 1) := dz_172 (n := 0) (r := 15) hz_X12_in_0 rfl
theorem hz_X12_has_0 : (cX12_has.data.toList.drop 0).take 40 = [26, 27, 122, 4, 126, 4, 160, 0, 7, 4, 167, 0, 4, 3, 172] := by decide +kernel
theorem dX12_has_0 : decode cX12_has 0 = .ok (.iload_n 0, 1) := dz_26 (n := 0) (r := 0) hz_X12_has_0 rfl
theorem dX12_has_1 : decode cX12_has 1 = .ok (.iload_n 1, 1) := dz_27 (n := 0) (r := 1) hz_X12_has_0 rfl
theorem dX12_has_2 : decode cX12_has 2 = .ok (.ishr, 1) := dz_122 (n := 0) (r := 2) hz_X12_has_0 rfl
theorem dX12_has_3 : decode cX12_has 3 = .ok (.iconst 1, 1) := dz_4 (n := 0) (r := 3) hz_X12_has_0 rfl
theorem dX12_has_4 : decode cX12_has 4 = .ok (.iand, 1) := dz_126 (n := 0) (r := 4) hz_X12_has_0 rfl
theorem dX12_has_5 : decode cX12_has 5 = .ok (.iconst 1, 1) := dz_4 (n := 0) (r := 5) hz_X12_has_0 rfl
theorem dX12_has_6 : decode cX12_has 6 = .ok (.if_icmp .ne 7, 3) := dz_160 (n := 0) (r := 6) hz_X12_has_0 rfl (by decide +kernel)
theorem dX12_has_9 : decode cX12_has 9 = .ok (.iconst 1, 1) := dz_4 (n := 0) (r := 9) hz_X12_has_0 rfl
theorem dX12_has_10 : decode cX12_has 10 = .ok (.goto 4, 3) := dz_167 (n := 0) (r := 10) hz_X12_has_0 rfl (by decide +kernel)
theorem dX12_has_13 : decode cX12_has 13 = .ok (.iconst 0, 1) := dz_3 (n := 0) (r := 13) hz_X12_has_0 rfl
theorem dX12_has_14 : decode cX12_has 14 = .ok (.ireturn, 1) := dz_172 (n := 0) (r := 14) hz_X12_has_0 rfl
theorem hz_X12_bitsOf_0 : (cX12_bitsOf.data.toList.drop 0).take 40 = [3, 60, 26, 61, 28, 158, 0, 16, 27, 28, 4, 126, 96, 60, 28, 4, 122, 61, 167, 255, 242, 27, 172] := by decide +kernel
theorem dX12_bitsOf_0 : decode cX12_bitsOf 0 = .ok (.iconst 0, 1) := dz_3 (n := 0) (r := 0) hz_X12_bitsOf_0 rfl
theorem dX12_bitsOf_1 : decode cX12_bitsOf 1 = .ok (.istore_n 1, 1) := dz_60 (n := 0) (r := 1) hz_X12_bitsOf_0 rfl
theorem dX12_bitsOf_2 : decode cX12_bitsOf 2 = .ok (.iload_n 0, 1) := dz_26 (n := 0) (r := 2) hz_X12_bitsOf_0 rfl
theorem dX12_bitsOf_3 : decode cX12_bitsOf 3 = .ok (.istore_n 2, 1) := dz_61 (n := 0) (r := 3) hz_X12_bitsOf_0 rfl
theorem dX12_bitsOf_4 : decode cX12_bitsOf 4 = .ok (.iload_n 2, 1) := dz_28 (n := 0) (r := 4) hz_X12_bitsOf_0 rfl
theorem dX12_bitsOf_5 : decode cX12_bitsOf 5 = .ok (.ifCond .le 16, 3) := dz_158 (n := 0) (r := 5) hz_X12_bitsOf_0 rfl (by decide +kernel)
theorem dX12_bitsOf_8 : decode cX12_bitsOf 8 = .ok (.iload_n 1, 1) := dz_27 (n := 0) (r := 8) hz_X12_bitsOf_0 rfl
theorem dX12_bitsOf_9 : decode cX12_bitsOf 9 = .ok (.iload_n 2, 1) := dz_28 (n := 0) (r := 9) hz_X12_bitsOf_0 rfl
theorem dX12_bitsOf_10 : decode cX12_bitsOf 10 = .ok (.iconst 1, 1) := dz_4 (n := 0) (r := 10) hz_X12_bitsOf_0 rfl
theorem dX12_bitsOf_11 : decode cX12_bitsOf 11 = .ok (.iand, 1) := dz_126 (n := 0) (r := 11) hz_X12_bitsOf_0 rfl
theorem dX12_bitsOf_12 : decode cX12_bitsOf 12 = .ok (.iadd, 1) := dz_96 (n := 0) (r := 12) hz_X12_bitsOf_0 rfl
theorem dX12_bitsOf_13 : decode cX12_bitsOf 13 = .ok (.istore_n 1, 1) := dz_60 (n := 0) (r := 13) hz_X12_bitsOf_0 rfl
theorem dX12_bitsOf_14 : decode cX12_bitsOf 14 = .ok (.iload_n 2, 1) := dz_28 (n := 0) (r := 14) hz_X12_bitsOf_0 rfl
theorem dX12_bitsOf_15 : decode cX12_bitsOf 15 = .ok (.iconst 1, 1) := dz_4 (n := 0) (r := 15) hz_X12_bitsOf_0 rfl
theorem dX12_bitsOf_16 : decode cX12_bitsOf 16 = .ok (.ishr, 1) := dz_122 (n := 0) (r := 16) hz_X12_bitsOf_0 rfl
theorem dX12_bitsOf_17 : decode cX12_bitsOf 17 = .ok (.istore_n 2, 1) := dz_61 (n := 0) (r := 17) hz_X12_bitsOf_0 rfl
theorem dX12_bitsOf_18 : decode cX12_bitsOf 18 = .ok (.goto (-14), 3) := dz_167 (n := 0) (r := 18) hz_X12_bitsOf_0 rfl (by decide +kernel)
theorem dX12_bitsOf_21 : decode cX12_bitsOf 21 = .ok (.iload_n 1, 1) := dz_27 (n := 0) (r := 21) hz_X12_bitsOf_0 rfl
theorem dX12_bitsOf_22 : decode cX12_bitsOf 22 = .ok (.ireturn, 1) := dz_172 (n := 0) (r := 22) hz_X12_bitsOf_0 rfl
theorem hz_X12_leads_0 : (cX12_leads.data.toList.drop 0).take 40 = [26, 28, 108, 54, 5, 26, 28, 112, 54, 6, 27, 153, 0, 34, 21, 5, 4, 96, 29, 162, 0, 9, 26, 28, 96, 167, 0, 19, 21, 4, 153, 0, 13, 29, 5, 164, 0, 8, 21, 6] := by decide +kernel
theorem dX12_leads_0 : decode cX12_leads 0 = .ok (.iload_n 0, 1) := dz_26 (n := 0) (r := 0) hz_X12_leads_0 rfl
theorem dX12_leads_1 : decode cX12_leads 1 = .ok (.iload_n 2, 1) := dz_28 (n := 0) (r := 1) hz_X12_leads_0 rfl
theorem dX12_leads_2 : decode cX12_leads 2 = .ok (.idiv, 1) := dz_108 (n := 0) (r := 2) hz_X12_leads_0 rfl
theorem dX12_leads_3 : decode cX12_leads 3 = .ok (.istore 5, 2) := dz_54 (n := 0) (r := 3) hz_X12_leads_0 rfl rfl
theorem dX12_leads_5 : decode cX12_leads 5 = .ok (.iload_n 0, 1) := dz_26 (n := 0) (r := 5) hz_X12_leads_0 rfl
theorem dX12_leads_6 : decode cX12_leads 6 = .ok (.iload_n 2, 1) := dz_28 (n := 0) (r := 6) hz_X12_leads_0 rfl
theorem dX12_leads_7 : decode cX12_leads 7 = .ok (.irem, 1) := dz_112 (n := 0) (r := 7) hz_X12_leads_0 rfl
theorem dX12_leads_8 : decode cX12_leads 8 = .ok (.istore 6, 2) := dz_54 (n := 0) (r := 8) hz_X12_leads_0 rfl rfl
theorem dX12_leads_10 : decode cX12_leads 10 = .ok (.iload_n 1, 1) := dz_27 (n := 0) (r := 10) hz_X12_leads_0 rfl
theorem dX12_leads_11 : decode cX12_leads 11 = .ok (.ifCond .eq 34, 3) := dz_153 (n := 0) (r := 11) hz_X12_leads_0 rfl (by decide +kernel)
theorem dX12_leads_14 : decode cX12_leads 14 = .ok (.iload 5, 2) := dz_21 (n := 0) (r := 14) hz_X12_leads_0 rfl rfl
theorem dX12_leads_16 : decode cX12_leads 16 = .ok (.iconst 1, 1) := dz_4 (n := 0) (r := 16) hz_X12_leads_0 rfl
theorem dX12_leads_17 : decode cX12_leads 17 = .ok (.iadd, 1) := dz_96 (n := 0) (r := 17) hz_X12_leads_0 rfl
theorem dX12_leads_18 : decode cX12_leads 18 = .ok (.iload_n 3, 1) := dz_29 (n := 0) (r := 18) hz_X12_leads_0 rfl
theorem dX12_leads_19 : decode cX12_leads 19 = .ok (.if_icmp .ge 9, 3) := dz_162 (n := 0) (r := 19) hz_X12_leads_0 rfl (by decide +kernel)
theorem dX12_leads_22 : decode cX12_leads 22 = .ok (.iload_n 0, 1) := dz_26 (n := 0) (r := 22) hz_X12_leads_0 rfl
theorem dX12_leads_23 : decode cX12_leads 23 = .ok (.iload_n 2, 1) := dz_28 (n := 0) (r := 23) hz_X12_leads_0 rfl
theorem dX12_leads_24 : decode cX12_leads 24 = .ok (.iadd, 1) := dz_96 (n := 0) (r := 24) hz_X12_leads_0 rfl
theorem dX12_leads_25 : decode cX12_leads 25 = .ok (.goto 19, 3) := dz_167 (n := 0) (r := 25) hz_X12_leads_0 rfl (by decide +kernel)
theorem dX12_leads_28 : decode cX12_leads 28 = .ok (.iload 4, 2) := dz_21 (n := 0) (r := 28) hz_X12_leads_0 rfl rfl
theorem dX12_leads_30 : decode cX12_leads 30 = .ok (.ifCond .eq 13, 3) := dz_153 (n := 0) (r := 30) hz_X12_leads_0 rfl (by decide +kernel)
theorem hz_X12_leads_32 : (cX12_leads.data.toList.drop 32).take 40 = [13, 29, 5, 164, 0, 8, 21, 6, 167, 0, 4, 2, 172, 21, 6, 4, 96, 28, 162, 0, 9, 26, 4, 96, 167, 0, 21, 21, 4, 153, 0, 15, 28, 5, 164, 0, 10, 28, 21, 5] := by decide +kernel
theorem dX12_leads_33 : decode cX12_leads 33 = .ok (.iload_n 3, 1) := dz_29 (n := 32) (r := 1) hz_X12_leads_32 rfl
theorem dX12_leads_34 : decode cX12_leads 34 = .ok (.iconst 2, 1) := dz_5 (n := 32) (r := 2) hz_X12_leads_32 rfl
theorem dX12_leads_35 : decode cX12_leads 35 = .ok (.if_icmp .le 8, 3) := dz_164 (n := 32) (r := 3) hz_X12_leads_32 rfl (by decide +kernel)
theorem dX12_leads_38 : decode cX12_leads 38 = .ok (.iload 6, 2) := dz_21 (n := 32) (r := 6) hz_X12_leads_32 rfl rfl
theorem dX12_leads_40 : decode cX12_leads 40 = .ok (.goto 4, 3) := dz_167 (n := 32) (r := 8) hz_X12_leads_32 rfl (by decide +kernel)
theorem dX12_leads_43 : decode cX12_leads 43 = .ok (.iconst (-1), 1) := dz_2 (n := 32) (r := 11) hz_X12_leads_32 rfl
theorem dX12_leads_44 : decode cX12_leads 44 = .ok (.ireturn, 1) := dz_172 (n := 32) (r := 12) hz_X12_leads_32 rfl
theorem dX12_leads_45 : decode cX12_leads 45 = .ok (.iload 6, 2) := dz_21 (n := 32) (r := 13) hz_X12_leads_32 rfl rfl
theorem dX12_leads_47 : decode cX12_leads 47 = .ok (.iconst 1, 1) := dz_4 (n := 32) (r := 15) hz_X12_leads_32 rfl
theorem dX12_leads_48 : decode cX12_leads 48 = .ok (.iadd, 1) := dz_96 (n := 32) (r := 16) hz_X12_leads_32 rfl
theorem dX12_leads_49 : decode cX12_leads 49 = .ok (.iload_n 2, 1) := dz_28 (n := 32) (r := 17) hz_X12_leads_32 rfl
theorem dX12_leads_50 : decode cX12_leads 50 = .ok (.if_icmp .ge 9, 3) := dz_162 (n := 32) (r := 18) hz_X12_leads_32 rfl (by decide +kernel)
theorem dX12_leads_53 : decode cX12_leads 53 = .ok (.iload_n 0, 1) := dz_26 (n := 32) (r := 21) hz_X12_leads_32 rfl
theorem dX12_leads_54 : decode cX12_leads 54 = .ok (.iconst 1, 1) := dz_4 (n := 32) (r := 22) hz_X12_leads_32 rfl
theorem dX12_leads_55 : decode cX12_leads 55 = .ok (.iadd, 1) := dz_96 (n := 32) (r := 23) hz_X12_leads_32 rfl
theorem dX12_leads_56 : decode cX12_leads 56 = .ok (.goto 21, 3) := dz_167 (n := 32) (r := 24) hz_X12_leads_32 rfl (by decide +kernel)
theorem dX12_leads_59 : decode cX12_leads 59 = .ok (.iload 4, 2) := dz_21 (n := 32) (r := 27) hz_X12_leads_32 rfl rfl
theorem dX12_leads_61 : decode cX12_leads 61 = .ok (.ifCond .eq 15, 3) := dz_153 (n := 32) (r := 29) hz_X12_leads_32 rfl (by decide +kernel)
theorem hz_X12_leads_64 : (cX12_leads.data.toList.drop 64).take 40 = [28, 5, 164, 0, 10, 28, 21, 5, 104, 167, 0, 4, 2, 172] := by decide +kernel
theorem dX12_leads_64 : decode cX12_leads 64 = .ok (.iload_n 2, 1) := dz_28 (n := 64) (r := 0) hz_X12_leads_64 rfl
theorem dX12_leads_65 : decode cX12_leads 65 = .ok (.iconst 2, 1) := dz_5 (n := 64) (r := 1) hz_X12_leads_64 rfl
theorem dX12_leads_66 : decode cX12_leads 66 = .ok (.if_icmp .le 10, 3) := dz_164 (n := 64) (r := 2) hz_X12_leads_64 rfl (by decide +kernel)
theorem dX12_leads_69 : decode cX12_leads 69 = .ok (.iload_n 2, 1) := dz_28 (n := 64) (r := 5) hz_X12_leads_64 rfl
theorem dX12_leads_70 : decode cX12_leads 70 = .ok (.iload 5, 2) := dz_21 (n := 64) (r := 6) hz_X12_leads_64 rfl rfl
theorem dX12_leads_72 : decode cX12_leads 72 = .ok (.imul, 1) := dz_104 (n := 64) (r := 8) hz_X12_leads_64 rfl
theorem dX12_leads_73 : decode cX12_leads 73 = .ok (.goto 4, 3) := dz_167 (n := 64) (r := 9) hz_X12_leads_64 rfl (by decide +kernel)
theorem dX12_leads_76 : decode cX12_leads 76 = .ok (.iconst (-1), 1) := dz_2 (n := 64) (r := 12) hz_X12_leads_64 rfl
theorem dX12_leads_77 : decode cX12_leads 77 = .ok (.ireturn, 1) := dz_172 (n := 64) (r := 13) hz_X12_leads_64 rfl
theorem hz_X12_sites_0 : (cX12_sites.data.toList.drop 0).take 40 = [42, 180, 0, 171, 42, 180, 0, 177, 104, 172] := by decide +kernel
theorem dX12_sites_0 : decode cX12_sites 0 = .ok (.aload_n 0, 1) := dz_42 (n := 0) (r := 0) hz_X12_sites_0 rfl
theorem dX12_sites_1 : decode cX12_sites 1 = .ok (.getfield 171, 3) := dz_180 (n := 0) (r := 1) hz_X12_sites_0 rfl rfl
theorem dX12_sites_4 : decode cX12_sites 4 = .ok (.aload_n 0, 1) := dz_42 (n := 0) (r := 4) hz_X12_sites_0 rfl
theorem dX12_sites_5 : decode cX12_sites 5 = .ok (.getfield 177, 3) := dz_180 (n := 0) (r := 5) hz_X12_sites_0 rfl rfl
theorem dX12_sites_8 : decode cX12_sites 8 = .ok (.imul, 1) := dz_104 (n := 0) (r := 8) hz_X12_sites_0 rfl
theorem dX12_sites_9 : decode cX12_sites 9 = .ok (.ireturn, 1) := dz_172 (n := 0) (r := 9) hz_X12_sites_0 rfl
theorem hz_X12_isSite_0 : (cX12_isSite.data.toList.drop 0).take 40 = [27, 3, 42, 182, 0, 193, 4, 100, 184, 0, 213, 172] := by decide +kernel
theorem dX12_isSite_0 : decode cX12_isSite 0 = .ok (.iload_n 1, 1) := dz_27 (n := 0) (r := 0) hz_X12_isSite_0 rfl
theorem dX12_isSite_1 : decode cX12_isSite 1 = .ok (.iconst 0, 1) := dz_3 (n := 0) (r := 1) hz_X12_isSite_0 rfl
theorem dX12_isSite_2 : decode cX12_isSite 2 = .ok (.aload_n 0, 1) := dz_42 (n := 0) (r := 2) hz_X12_isSite_0 rfl
theorem dX12_isSite_3 : decode cX12_isSite 3 = .ok (.invokevirtual 193, 3) := dz_182 (n := 0) (r := 3) hz_X12_isSite_0 rfl rfl
theorem dX12_isSite_6 : decode cX12_isSite 6 = .ok (.iconst 1, 1) := dz_4 (n := 0) (r := 6) hz_X12_isSite_0 rfl
theorem dX12_isSite_7 : decode cX12_isSite 7 = .ok (.isub, 1) := dz_100 (n := 0) (r := 7) hz_X12_isSite_0 rfl
theorem dX12_isSite_8 : decode cX12_isSite 8 = .ok (.invokestatic 213, 3) := dz_184 (n := 0) (r := 8) hz_X12_isSite_0 rfl rfl
theorem dX12_isSite_11 : decode cX12_isSite 11 = .ok (.ireturn, 1) := dz_172 (n := 0) (r := 11) hz_X12_isSite_0 rfl
theorem hz_X12_tieTo_0 : (cX12_tieTo.data.toList.drop 0).take 40 = [27, 28, 42, 180, 0, 171, 42, 180, 0, 177, 28, 153, 0, 10, 42, 180, 0, 190, 167, 0, 7, 42, 180, 0, 184, 184, 0, 226, 172] := by decide +kernel
theorem dX12_tieTo_0 : decode cX12_tieTo 0 = .ok (.iload_n 1, 1) := dz_27 (n := 0) (r := 0) hz_X12_tieTo_0 rfl
theorem dX12_tieTo_1 : decode cX12_tieTo 1 = .ok (.iload_n 2, 1) := dz_28 (n := 0) (r := 1) hz_X12_tieTo_0 rfl
theorem dX12_tieTo_2 : decode cX12_tieTo 2 = .ok (.aload_n 0, 1) := dz_42 (n := 0) (r := 2) hz_X12_tieTo_0 rfl
theorem dX12_tieTo_3 : decode cX12_tieTo 3 = .ok (.getfield 171, 3) := dz_180 (n := 0) (r := 3) hz_X12_tieTo_0 rfl rfl
theorem dX12_tieTo_6 : decode cX12_tieTo 6 = .ok (.aload_n 0, 1) := dz_42 (n := 0) (r := 6) hz_X12_tieTo_0 rfl
theorem dX12_tieTo_7 : decode cX12_tieTo 7 = .ok (.getfield 177, 3) := dz_180 (n := 0) (r := 7) hz_X12_tieTo_0 rfl rfl
theorem dX12_tieTo_10 : decode cX12_tieTo 10 = .ok (.iload_n 2, 1) := dz_28 (n := 0) (r := 10) hz_X12_tieTo_0 rfl
theorem dX12_tieTo_11 : decode cX12_tieTo 11 = .ok (.ifCond .eq 10, 3) := dz_153 (n := 0) (r := 11) hz_X12_tieTo_0 rfl (by decide +kernel)
theorem dX12_tieTo_14 : decode cX12_tieTo 14 = .ok (.aload_n 0, 1) := dz_42 (n := 0) (r := 14) hz_X12_tieTo_0 rfl
theorem dX12_tieTo_15 : decode cX12_tieTo 15 = .ok (.getfield 190, 3) := dz_180 (n := 0) (r := 15) hz_X12_tieTo_0 rfl rfl
theorem dX12_tieTo_18 : decode cX12_tieTo 18 = .ok (.goto 7, 3) := dz_167 (n := 0) (r := 18) hz_X12_tieTo_0 rfl (by decide +kernel)
theorem dX12_tieTo_21 : decode cX12_tieTo 21 = .ok (.aload_n 0, 1) := dz_42 (n := 0) (r := 21) hz_X12_tieTo_0 rfl
theorem dX12_tieTo_22 : decode cX12_tieTo 22 = .ok (.getfield 184, 3) := dz_180 (n := 0) (r := 22) hz_X12_tieTo_0 rfl rfl
theorem dX12_tieTo_25 : decode cX12_tieTo 25 = .ok (.invokestatic 226, 3) := dz_184 (n := 0) (r := 25) hz_X12_tieTo_0 rfl rfl
theorem dX12_tieTo_28 : decode cX12_tieTo 28 = .ok (.ireturn, 1) := dz_172 (n := 0) (r := 28) hz_X12_tieTo_0 rfl
theorem hz_X12_jOf_0 : (cX12_jOf.data.toList.drop 0).take 40 = [42, 28, 153, 0, 8, 16, 16, 167, 0, 4, 3, 27, 96, 46, 172] := by decide +kernel
theorem dX12_jOf_0 : decode cX12_jOf 0 = .ok (.aload_n 0, 1) := dz_42 (n := 0) (r := 0) hz_X12_jOf_0 rfl
theorem dX12_jOf_1 : decode cX12_jOf 1 = .ok (.iload_n 2, 1) := dz_28 (n := 0) (r := 1) hz_X12_jOf_0 rfl
theorem dX12_jOf_2 : decode cX12_jOf 2 = .ok (.ifCond .eq 8, 3) := dz_153 (n := 0) (r := 2) hz_X12_jOf_0 rfl (by decide +kernel)
theorem dX12_jOf_5 : decode cX12_jOf 5 = .ok (.bipush 16, 2) := dz_16 (n := 0) (r := 5) hz_X12_jOf_0 rfl rfl
theorem dX12_jOf_7 : decode cX12_jOf 7 = .ok (.goto 4, 3) := dz_167 (n := 0) (r := 7) hz_X12_jOf_0 rfl (by decide +kernel)
theorem dX12_jOf_10 : decode cX12_jOf 10 = .ok (.iconst 0, 1) := dz_3 (n := 0) (r := 10) hz_X12_jOf_0 rfl
theorem dX12_jOf_11 : decode cX12_jOf 11 = .ok (.iload_n 1, 1) := dz_27 (n := 0) (r := 11) hz_X12_jOf_0 rfl
theorem dX12_jOf_12 : decode cX12_jOf 12 = .ok (.iadd, 1) := dz_96 (n := 0) (r := 12) hz_X12_jOf_0 rfl
theorem dX12_jOf_13 : decode cX12_jOf 13 = .ok (.iaload, 1) := dz_46 (n := 0) (r := 13) hz_X12_jOf_0 rfl
theorem dX12_jOf_14 : decode cX12_jOf 14 = .ok (.ireturn, 1) := dz_172 (n := 0) (r := 14) hz_X12_jOf_0 rfl
theorem hz_X12_marks_0 : (cX12_marks.data.toList.drop 0).take 40 = [42, 180, 0, 197, 16, 40, 160, 0, 26, 42, 42, 180, 0, 230, 4, 96, 16, 40, 112, 181, 0, 230, 42, 89, 180, 0, 197, 4, 100, 181, 0, 197, 16, 66, 42, 180, 0, 230, 42, 180] := by decide +kernel
theorem dX12_marks_0 : decode cX12_marks 0 = .ok (.aload_n 0, 1) := dz_42 (n := 0) (r := 0) hz_X12_marks_0 rfl
theorem dX12_marks_1 : decode cX12_marks 1 = .ok (.getfield 197, 3) := dz_180 (n := 0) (r := 1) hz_X12_marks_0 rfl rfl
theorem dX12_marks_4 : decode cX12_marks 4 = .ok (.bipush 40, 2) := dz_16 (n := 0) (r := 4) hz_X12_marks_0 rfl rfl
theorem dX12_marks_6 : decode cX12_marks 6 = .ok (.if_icmp .ne 26, 3) := dz_160 (n := 0) (r := 6) hz_X12_marks_0 rfl (by decide +kernel)
theorem dX12_marks_9 : decode cX12_marks 9 = .ok (.aload_n 0, 1) := dz_42 (n := 0) (r := 9) hz_X12_marks_0 rfl
theorem dX12_marks_10 : decode cX12_marks 10 = .ok (.aload_n 0, 1) := dz_42 (n := 0) (r := 10) hz_X12_marks_0 rfl
theorem dX12_marks_11 : decode cX12_marks 11 = .ok (.getfield 230, 3) := dz_180 (n := 0) (r := 11) hz_X12_marks_0 rfl rfl
theorem dX12_marks_14 : decode cX12_marks 14 = .ok (.iconst 1, 1) := dz_4 (n := 0) (r := 14) hz_X12_marks_0 rfl
theorem dX12_marks_15 : decode cX12_marks 15 = .ok (.iadd, 1) := dz_96 (n := 0) (r := 15) hz_X12_marks_0 rfl
theorem dX12_marks_16 : decode cX12_marks 16 = .ok (.bipush 40, 2) := dz_16 (n := 0) (r := 16) hz_X12_marks_0 rfl rfl
theorem dX12_marks_18 : decode cX12_marks 18 = .ok (.irem, 1) := dz_112 (n := 0) (r := 18) hz_X12_marks_0 rfl
theorem dX12_marks_19 : decode cX12_marks 19 = .ok (.putfield 230, 3) := dz_181 (n := 0) (r := 19) hz_X12_marks_0 rfl rfl
theorem dX12_marks_22 : decode cX12_marks 22 = .ok (.aload_n 0, 1) := dz_42 (n := 0) (r := 22) hz_X12_marks_0 rfl
theorem dX12_marks_23 : decode cX12_marks 23 = .ok (.dup, 1) := dz_89 (n := 0) (r := 23) hz_X12_marks_0 rfl
theorem dX12_marks_24 : decode cX12_marks 24 = .ok (.getfield 197, 3) := dz_180 (n := 0) (r := 24) hz_X12_marks_0 rfl rfl
theorem dX12_marks_27 : decode cX12_marks 27 = .ok (.iconst 1, 1) := dz_4 (n := 0) (r := 27) hz_X12_marks_0 rfl
theorem dX12_marks_28 : decode cX12_marks 28 = .ok (.isub, 1) := dz_100 (n := 0) (r := 28) hz_X12_marks_0 rfl
theorem dX12_marks_29 : decode cX12_marks 29 = .ok (.putfield 197, 3) := dz_181 (n := 0) (r := 29) hz_X12_marks_0 rfl rfl
theorem hz_X12_marks_32 : (cX12_marks.data.toList.drop 32).take 40 = [16, 66, 42, 180, 0, 230, 42, 180, 0, 197, 96, 16, 40, 112, 104, 60, 3, 61, 28, 16, 66, 162, 0, 23, 42, 180, 0, 46, 27, 28, 96, 42, 180, 0, 40, 28, 46, 79, 132, 2] := by decide +kernel
theorem dX12_marks_32 : decode cX12_marks 32 = .ok (.bipush 66, 2) := dz_16 (n := 32) (r := 0) hz_X12_marks_32 rfl rfl
theorem dX12_marks_34 : decode cX12_marks 34 = .ok (.aload_n 0, 1) := dz_42 (n := 32) (r := 2) hz_X12_marks_32 rfl
theorem dX12_marks_35 : decode cX12_marks 35 = .ok (.getfield 230, 3) := dz_180 (n := 32) (r := 3) hz_X12_marks_32 rfl rfl
theorem dX12_marks_38 : decode cX12_marks 38 = .ok (.aload_n 0, 1) := dz_42 (n := 32) (r := 6) hz_X12_marks_32 rfl
theorem dX12_marks_39 : decode cX12_marks 39 = .ok (.getfield 197, 3) := dz_180 (n := 32) (r := 7) hz_X12_marks_32 rfl rfl
theorem dX12_marks_42 : decode cX12_marks 42 = .ok (.iadd, 1) := dz_96 (n := 32) (r := 10) hz_X12_marks_32 rfl
theorem dX12_marks_43 : decode cX12_marks 43 = .ok (.bipush 40, 2) := dz_16 (n := 32) (r := 11) hz_X12_marks_32 rfl rfl
theorem dX12_marks_45 : decode cX12_marks 45 = .ok (.irem, 1) := dz_112 (n := 32) (r := 13) hz_X12_marks_32 rfl
theorem dX12_marks_46 : decode cX12_marks 46 = .ok (.imul, 1) := dz_104 (n := 32) (r := 14) hz_X12_marks_32 rfl
theorem dX12_marks_47 : decode cX12_marks 47 = .ok (.istore_n 1, 1) := dz_60 (n := 32) (r := 15) hz_X12_marks_32 rfl
theorem dX12_marks_48 : decode cX12_marks 48 = .ok (.iconst 0, 1) := dz_3 (n := 32) (r := 16) hz_X12_marks_32 rfl
theorem dX12_marks_49 : decode cX12_marks 49 = .ok (.istore_n 2, 1) := dz_61 (n := 32) (r := 17) hz_X12_marks_32 rfl
theorem dX12_marks_50 : decode cX12_marks 50 = .ok (.iload_n 2, 1) := dz_28 (n := 32) (r := 18) hz_X12_marks_32 rfl
theorem dX12_marks_51 : decode cX12_marks 51 = .ok (.bipush 66, 2) := dz_16 (n := 32) (r := 19) hz_X12_marks_32 rfl rfl
theorem dX12_marks_53 : decode cX12_marks 53 = .ok (.if_icmp .ge 23, 3) := dz_162 (n := 32) (r := 21) hz_X12_marks_32 rfl (by decide +kernel)
theorem dX12_marks_56 : decode cX12_marks 56 = .ok (.aload_n 0, 1) := dz_42 (n := 32) (r := 24) hz_X12_marks_32 rfl
theorem dX12_marks_57 : decode cX12_marks 57 = .ok (.getfield 46, 3) := dz_180 (n := 32) (r := 25) hz_X12_marks_32 rfl rfl
theorem dX12_marks_60 : decode cX12_marks 60 = .ok (.iload_n 1, 1) := dz_27 (n := 32) (r := 28) hz_X12_marks_32 rfl
theorem dX12_marks_61 : decode cX12_marks 61 = .ok (.iload_n 2, 1) := dz_28 (n := 32) (r := 29) hz_X12_marks_32 rfl
theorem dX12_marks_62 : decode cX12_marks 62 = .ok (.iadd, 1) := dz_96 (n := 32) (r := 30) hz_X12_marks_32 rfl
theorem dX12_marks_63 : decode cX12_marks 63 = .ok (.aload_n 0, 1) := dz_42 (n := 32) (r := 31) hz_X12_marks_32 rfl
theorem hz_X12_marks_64 : (cX12_marks.data.toList.drop 64).take 40 = [180, 0, 40, 28, 46, 79, 132, 2, 1, 167, 255, 233, 42, 89, 180, 0, 197, 4, 96, 181, 0, 197, 177] := by decide +kernel
theorem dX12_marks_64 : decode cX12_marks 64 = .ok (.getfield 40, 3) := dz_180 (n := 64) (r := 0) hz_X12_marks_64 rfl rfl
theorem dX12_marks_67 : decode cX12_marks 67 = .ok (.iload_n 2, 1) := dz_28 (n := 64) (r := 3) hz_X12_marks_64 rfl
theorem dX12_marks_68 : decode cX12_marks 68 = .ok (.iaload, 1) := dz_46 (n := 64) (r := 4) hz_X12_marks_64 rfl
theorem dX12_marks_69 : decode cX12_marks 69 = .ok (.iastore, 1) := dz_79 (n := 64) (r := 5) hz_X12_marks_64 rfl
theorem dX12_marks_70 : decode cX12_marks 70 = .ok (.iinc 2 1, 3) := dz_132 (n := 64) (r := 6) hz_X12_marks_64 rfl rfl rfl
theorem dX12_marks_73 : decode cX12_marks 73 = .ok (.goto (-23), 3) := dz_167 (n := 64) (r := 9) hz_X12_marks_64 rfl (by decide +kernel)
theorem dX12_marks_76 : decode cX12_marks 76 = .ok (.aload_n 0, 1) := dz_42 (n := 64) (r := 12) hz_X12_marks_64 rfl
theorem dX12_marks_77 : decode cX12_marks 77 = .ok (.dup, 1) := dz_89 (n := 64) (r := 13) hz_X12_marks_64 rfl
theorem dX12_marks_78 : decode cX12_marks 78 = .ok (.getfield 197, 3) := dz_180 (n := 64) (r := 14) hz_X12_marks_64 rfl rfl
theorem dX12_marks_81 : decode cX12_marks 81 = .ok (.iconst 1, 1) := dz_4 (n := 64) (r := 17) hz_X12_marks_64 rfl
theorem dX12_marks_82 : decode cX12_marks 82 = .ok (.iadd, 1) := dz_96 (n := 64) (r := 18) hz_X12_marks_64 rfl
theorem dX12_marks_83 : decode cX12_marks 83 = .ok (.putfield 197, 3) := dz_181 (n := 64) (r := 19) hz_X12_marks_64 rfl rfl
theorem dX12_marks_86 : decode cX12_marks 86 = .ok (.return_, 1) := dz_177 (n := 64) (r := 22) hz_X12_marks_64 rfl
theorem hz_X12_tie_0 : (cX12_tie.data.toList.drop 0).take 40 = [42, 27, 182, 0, 233, 153, 0, 35, 29, 16, 253, 6, 184, 0, 213, 153, 0, 25, 42, 27, 28, 182, 0, 236, 155, 0, 16, 42, 180, 0, 40, 27, 28, 184, 0, 240, 29, 160, 0, 5] := by decide +kernel
theorem dX12_tie_0 : decode cX12_tie 0 = .ok (.aload_n 0, 1) := dz_42 (n := 0) (r := 0) hz_X12_tie_0 rfl
theorem dX12_tie_1 : decode cX12_tie 1 = .ok (.iload_n 1, 1) := dz_27 (n := 0) (r := 1) hz_X12_tie_0 rfl
theorem dX12_tie_2 : decode cX12_tie 2 = .ok (.invokevirtual 233, 3) := dz_182 (n := 0) (r := 2) hz_X12_tie_0 rfl rfl
theorem dX12_tie_5 : decode cX12_tie 5 = .ok (.ifCond .eq 35, 3) := dz_153 (n := 0) (r := 5) hz_X12_tie_0 rfl (by decide +kernel)
theorem dX12_tie_8 : decode cX12_tie 8 = .ok (.iload_n 3, 1) := dz_29 (n := 0) (r := 8) hz_X12_tie_0 rfl
theorem dX12_tie_9 : decode cX12_tie 9 = .ok (.bipush (-3), 2) := dz_16 (n := 0) (r := 9) hz_X12_tie_0 rfl rfl
theorem dX12_tie_11 : decode cX12_tie 11 = .ok (.iconst 3, 1) := dz_6 (n := 0) (r := 11) hz_X12_tie_0 rfl
theorem dX12_tie_12 : decode cX12_tie 12 = .ok (.invokestatic 213, 3) := dz_184 (n := 0) (r := 12) hz_X12_tie_0 rfl rfl
theorem dX12_tie_15 : decode cX12_tie 15 = .ok (.ifCond .eq 25, 3) := dz_153 (n := 0) (r := 15) hz_X12_tie_0 rfl (by decide +kernel)
theorem dX12_tie_18 : decode cX12_tie 18 = .ok (.aload_n 0, 1) := dz_42 (n := 0) (r := 18) hz_X12_tie_0 rfl
theorem dX12_tie_19 : decode cX12_tie 19 = .ok (.iload_n 1, 1) := dz_27 (n := 0) (r := 19) hz_X12_tie_0 rfl
theorem dX12_tie_20 : decode cX12_tie 20 = .ok (.iload_n 2, 1) := dz_28 (n := 0) (r := 20) hz_X12_tie_0 rfl
theorem dX12_tie_21 : decode cX12_tie 21 = .ok (.invokevirtual 236, 3) := dz_182 (n := 0) (r := 21) hz_X12_tie_0 rfl rfl
theorem dX12_tie_24 : decode cX12_tie 24 = .ok (.ifCond .lt 16, 3) := dz_155 (n := 0) (r := 24) hz_X12_tie_0 rfl (by decide +kernel)
theorem dX12_tie_27 : decode cX12_tie 27 = .ok (.aload_n 0, 1) := dz_42 (n := 0) (r := 27) hz_X12_tie_0 rfl
theorem dX12_tie_28 : decode cX12_tie 28 = .ok (.getfield 40, 3) := dz_180 (n := 0) (r := 28) hz_X12_tie_0 rfl rfl
theorem dX12_tie_31 : decode cX12_tie 31 = .ok (.iload_n 1, 1) := dz_27 (n := 0) (r := 31) hz_X12_tie_0 rfl
theorem hz_X12_tie_32 : (cX12_tie.data.toList.drop 32).take 40 = [28, 184, 0, 240, 29, 160, 0, 5, 3, 172, 42, 182, 0, 244, 42, 180, 0, 40, 28, 153, 0, 8, 16, 16, 167, 0, 4, 3, 27, 96, 29, 79, 42, 3, 181, 0, 200, 4, 172] := by decide +kernel
theorem dX12_tie_32 : decode cX12_tie 32 = .ok (.iload_n 2, 1) := dz_28 (n := 32) (r := 0) hz_X12_tie_32 rfl
theorem dX12_tie_33 : decode cX12_tie 33 = .ok (.invokestatic 240, 3) := dz_184 (n := 32) (r := 1) hz_X12_tie_32 rfl rfl
theorem dX12_tie_36 : decode cX12_tie 36 = .ok (.iload_n 3, 1) := dz_29 (n := 32) (r := 4) hz_X12_tie_32 rfl
theorem dX12_tie_37 : decode cX12_tie 37 = .ok (.if_icmp .ne 5, 3) := dz_160 (n := 32) (r := 5) hz_X12_tie_32 rfl (by decide +kernel)
theorem dX12_tie_40 : decode cX12_tie 40 = .ok (.iconst 0, 1) := dz_3 (n := 32) (r := 8) hz_X12_tie_32 rfl
theorem dX12_tie_41 : decode cX12_tie 41 = .ok (.ireturn, 1) := dz_172 (n := 32) (r := 9) hz_X12_tie_32 rfl
theorem dX12_tie_42 : decode cX12_tie 42 = .ok (.aload_n 0, 1) := dz_42 (n := 32) (r := 10) hz_X12_tie_32 rfl
theorem dX12_tie_43 : decode cX12_tie 43 = .ok (.invokevirtual 244, 3) := dz_182 (n := 32) (r := 11) hz_X12_tie_32 rfl rfl
theorem dX12_tie_46 : decode cX12_tie 46 = .ok (.aload_n 0, 1) := dz_42 (n := 32) (r := 14) hz_X12_tie_32 rfl
theorem dX12_tie_47 : decode cX12_tie 47 = .ok (.getfield 40, 3) := dz_180 (n := 32) (r := 15) hz_X12_tie_32 rfl rfl
theorem dX12_tie_50 : decode cX12_tie 50 = .ok (.iload_n 2, 1) := dz_28 (n := 32) (r := 18) hz_X12_tie_32 rfl
theorem dX12_tie_51 : decode cX12_tie 51 = .ok (.ifCond .eq 8, 3) := dz_153 (n := 32) (r := 19) hz_X12_tie_32 rfl (by decide +kernel)
theorem dX12_tie_54 : decode cX12_tie 54 = .ok (.bipush 16, 2) := dz_16 (n := 32) (r := 22) hz_X12_tie_32 rfl rfl
theorem dX12_tie_56 : decode cX12_tie 56 = .ok (.goto 4, 3) := dz_167 (n := 32) (r := 24) hz_X12_tie_32 rfl (by decide +kernel)
theorem dX12_tie_59 : decode cX12_tie 59 = .ok (.iconst 0, 1) := dz_3 (n := 32) (r := 27) hz_X12_tie_32 rfl
theorem dX12_tie_60 : decode cX12_tie 60 = .ok (.iload_n 1, 1) := dz_27 (n := 32) (r := 28) hz_X12_tie_32 rfl
theorem dX12_tie_61 : decode cX12_tie 61 = .ok (.iadd, 1) := dz_96 (n := 32) (r := 29) hz_X12_tie_32 rfl
theorem dX12_tie_62 : decode cX12_tie 62 = .ok (.iload_n 3, 1) := dz_29 (n := 32) (r := 30) hz_X12_tie_32 rfl
theorem dX12_tie_63 : decode cX12_tie 63 = .ok (.iastore, 1) := dz_79 (n := 32) (r := 31) hz_X12_tie_32 rfl
theorem hz_X12_tie_64 : (cX12_tie.data.toList.drop 64).take 40 = [42, 3, 181, 0, 200, 4, 172] := by decide +kernel
theorem dX12_tie_64 : decode cX12_tie 64 = .ok (.aload_n 0, 1) := dz_42 (n := 64) (r := 0) hz_X12_tie_64 rfl
theorem dX12_tie_65 : decode cX12_tie 65 = .ok (.iconst 0, 1) := dz_3 (n := 64) (r := 1) hz_X12_tie_64 rfl
theorem dX12_tie_66 : decode cX12_tie 66 = .ok (.putfield 200, 3) := dz_181 (n := 64) (r := 2) hz_X12_tie_64 rfl rfl
theorem dX12_tie_69 : decode cX12_tie 69 = .ok (.iconst 1, 1) := dz_4 (n := 64) (r := 5) hz_X12_tie_64 rfl
theorem dX12_tie_70 : decode cX12_tie 70 = .ok (.ireturn, 1) := dz_172 (n := 64) (r := 6) hz_X12_tie_64 rfl
theorem hz_X12_pull_0 : (cX12_pull.data.toList.drop 0).take 40 = [42, 27, 182, 0, 233, 153, 0, 26, 28, 16, 253, 6, 184, 0, 213, 153, 0, 16, 42, 180, 0, 40, 16, 32, 27, 96, 46, 28, 160, 0, 5, 3, 172, 42, 182, 0, 244, 42, 180, 0] := by decide +kernel
theorem dX12_pull_0 : decode cX12_pull 0 = .ok (.aload_n 0, 1) := dz_42 (n := 0) (r := 0) hz_X12_pull_0 rfl
theorem dX12_pull_1 : decode cX12_pull 1 = .ok (.iload_n 1, 1) := dz_27 (n := 0) (r := 1) hz_X12_pull_0 rfl
theorem dX12_pull_2 : decode cX12_pull 2 = .ok (.invokevirtual 233, 3) := dz_182 (n := 0) (r := 2) hz_X12_pull_0 rfl rfl
theorem dX12_pull_5 : decode cX12_pull 5 = .ok (.ifCond .eq 26, 3) := dz_153 (n := 0) (r := 5) hz_X12_pull_0 rfl (by decide +kernel)
theorem dX12_pull_8 : decode cX12_pull 8 = .ok (.iload_n 2, 1) := dz_28 (n := 0) (r := 8) hz_X12_pull_0 rfl
theorem dX12_pull_9 : decode cX12_pull 9 = .ok (.bipush (-3), 2) := dz_16 (n := 0) (r := 9) hz_X12_pull_0 rfl rfl
theorem dX12_pull_11 : decode cX12_pull 11 = .ok (.iconst 3, 1) := dz_6 (n := 0) (r := 11) hz_X12_pull_0 rfl
theorem dX12_pull_12 : decode cX12_pull 12 = .ok (.invokestatic 213, 3) := dz_184 (n := 0) (r := 12) hz_X12_pull_0 rfl rfl
theorem dX12_pull_15 : decode cX12_pull 15 = .ok (.ifCond .eq 16, 3) := dz_153 (n := 0) (r := 15) hz_X12_pull_0 rfl (by decide +kernel)
theorem dX12_pull_18 : decode cX12_pull 18 = .ok (.aload_n 0, 1) := dz_42 (n := 0) (r := 18) hz_X12_pull_0 rfl
theorem dX12_pull_19 : decode cX12_pull 19 = .ok (.getfield 40, 3) := dz_180 (n := 0) (r := 19) hz_X12_pull_0 rfl rfl
theorem dX12_pull_22 : decode cX12_pull 22 = .ok (.bipush 32, 2) := dz_16 (n := 0) (r := 22) hz_X12_pull_0 rfl rfl
theorem dX12_pull_24 : decode cX12_pull 24 = .ok (.iload_n 1, 1) := dz_27 (n := 0) (r := 24) hz_X12_pull_0 rfl
theorem dX12_pull_25 : decode cX12_pull 25 = .ok (.iadd, 1) := dz_96 (n := 0) (r := 25) hz_X12_pull_0 rfl
theorem dX12_pull_26 : decode cX12_pull 26 = .ok (.iaload, 1) := dz_46 (n := 0) (r := 26) hz_X12_pull_0 rfl
theorem dX12_pull_27 : decode cX12_pull 27 = .ok (.iload_n 2, 1) := dz_28 (n := 0) (r := 27) hz_X12_pull_0 rfl
theorem dX12_pull_28 : decode cX12_pull 28 = .ok (.if_icmp .ne 5, 3) := dz_160 (n := 0) (r := 28) hz_X12_pull_0 rfl (by decide +kernel)
theorem dX12_pull_31 : decode cX12_pull 31 = .ok (.iconst 0, 1) := dz_3 (n := 0) (r := 31) hz_X12_pull_0 rfl
theorem hz_X12_pull_32 : (cX12_pull.data.toList.drop 32).take 40 = [172, 42, 182, 0, 244, 42, 180, 0, 40, 16, 32, 27, 96, 28, 79, 42, 3, 181, 0, 200, 4, 172] := by decide +kernel
theorem dX12_pull_32 : decode cX12_pull 32 = .ok (.ireturn, 1) := dz_172 (n := 32) (r := 0) hz_X12_pull_32 rfl
theorem dX12_pull_33 : decode cX12_pull 33 = .ok (.aload_n 0, 1) := dz_42 (n := 32) (r := 1) hz_X12_pull_32 rfl
theorem dX12_pull_34 : decode cX12_pull 34 = .ok (.invokevirtual 244, 3) := dz_182 (n := 32) (r := 2) hz_X12_pull_32 rfl rfl
theorem dX12_pull_37 : decode cX12_pull 37 = .ok (.aload_n 0, 1) := dz_42 (n := 32) (r := 5) hz_X12_pull_32 rfl
theorem dX12_pull_38 : decode cX12_pull 38 = .ok (.getfield 40, 3) := dz_180 (n := 32) (r := 6) hz_X12_pull_32 rfl rfl
theorem dX12_pull_41 : decode cX12_pull 41 = .ok (.bipush 32, 2) := dz_16 (n := 32) (r := 9) hz_X12_pull_32 rfl rfl
theorem dX12_pull_43 : decode cX12_pull 43 = .ok (.iload_n 1, 1) := dz_27 (n := 32) (r := 11) hz_X12_pull_32 rfl
theorem dX12_pull_44 : decode cX12_pull 44 = .ok (.iadd, 1) := dz_96 (n := 32) (r := 12) hz_X12_pull_32 rfl
theorem dX12_pull_45 : decode cX12_pull 45 = .ok (.iload_n 2, 1) := dz_28 (n := 32) (r := 13) hz_X12_pull_32 rfl
theorem dX12_pull_46 : decode cX12_pull 46 = .ok (.iastore, 1) := dz_79 (n := 32) (r := 14) hz_X12_pull_32 rfl
theorem dX12_pull_47 : decode cX12_pull 47 = .ok (.aload_n 0, 1) := dz_42 (n := 32) (r := 15) hz_X12_pull_32 rfl
theorem dX12_pull_48 : decode cX12_pull 48 = .ok (.iconst 0, 1) := dz_3 (n := 32) (r := 16) hz_X12_pull_32 rfl
theorem dX12_pull_49 : decode cX12_pull 49 = .ok (.putfield 200, 3) := dz_181 (n := 32) (r := 17) hz_X12_pull_32 rfl rfl
theorem dX12_pull_52 : decode cX12_pull 52 = .ok (.iconst 1, 1) := dz_4 (n := 32) (r := 20) hz_X12_pull_32 rfl
theorem dX12_pull_53 : decode cX12_pull 53 = .ok (.ireturn, 1) := dz_172 (n := 32) (r := 21) hz_X12_pull_32 rfl
theorem hz_X12_pin_0 : (cX12_pin.data.toList.drop 0).take 40 = [42, 27, 182, 0, 233, 153, 0, 25, 28, 3, 5, 184, 0, 213, 153, 0, 16, 42, 180, 0, 40, 16, 48, 27, 96, 46, 28, 160, 0, 5, 3, 172, 42, 182, 0, 244, 42, 180, 0, 40] := by decide +kernel
theorem dX12_pin_0 : decode cX12_pin 0 = .ok (.aload_n 0, 1) := dz_42 (n := 0) (r := 0) hz_X12_pin_0 rfl
theorem dX12_pin_1 : decode cX12_pin 1 = .ok (.iload_n 1, 1) := dz_27 (n := 0) (r := 1) hz_X12_pin_0 rfl
theorem dX12_pin_2 : decode cX12_pin 2 = .ok (.invokevirtual 233, 3) := dz_182 (n := 0) (r := 2) hz_X12_pin_0 rfl rfl
theorem dX12_pin_5 : decode cX12_pin 5 = .ok (.ifCond .eq 25, 3) := dz_153 (n := 0) (r := 5) hz_X12_pin_0 rfl (by decide +kernel)
theorem dX12_pin_8 : decode cX12_pin 8 = .ok (.iload_n 2, 1) := dz_28 (n := 0) (r := 8) hz_X12_pin_0 rfl
theorem dX12_pin_9 : decode cX12_pin 9 = .ok (.iconst 0, 1) := dz_3 (n := 0) (r := 9) hz_X12_pin_0 rfl
theorem dX12_pin_10 : decode cX12_pin 10 = .ok (.iconst 2, 1) := dz_5 (n := 0) (r := 10) hz_X12_pin_0 rfl
theorem dX12_pin_11 : decode cX12_pin 11 = .ok (.invokestatic 213, 3) := dz_184 (n := 0) (r := 11) hz_X12_pin_0 rfl rfl
theorem dX12_pin_14 : decode cX12_pin 14 = .ok (.ifCond .eq 16, 3) := dz_153 (n := 0) (r := 14) hz_X12_pin_0 rfl (by decide +kernel)
theorem dX12_pin_17 : decode cX12_pin 17 = .ok (.aload_n 0, 1) := dz_42 (n := 0) (r := 17) hz_X12_pin_0 rfl
theorem dX12_pin_18 : decode cX12_pin 18 = .ok (.getfield 40, 3) := dz_180 (n := 0) (r := 18) hz_X12_pin_0 rfl rfl
theorem dX12_pin_21 : decode cX12_pin 21 = .ok (.bipush 48, 2) := dz_16 (n := 0) (r := 21) hz_X12_pin_0 rfl rfl
theorem dX12_pin_23 : decode cX12_pin 23 = .ok (.iload_n 1, 1) := dz_27 (n := 0) (r := 23) hz_X12_pin_0 rfl
theorem dX12_pin_24 : decode cX12_pin 24 = .ok (.iadd, 1) := dz_96 (n := 0) (r := 24) hz_X12_pin_0 rfl
theorem dX12_pin_25 : decode cX12_pin 25 = .ok (.iaload, 1) := dz_46 (n := 0) (r := 25) hz_X12_pin_0 rfl
theorem dX12_pin_26 : decode cX12_pin 26 = .ok (.iload_n 2, 1) := dz_28 (n := 0) (r := 26) hz_X12_pin_0 rfl
theorem dX12_pin_27 : decode cX12_pin 27 = .ok (.if_icmp .ne 5, 3) := dz_160 (n := 0) (r := 27) hz_X12_pin_0 rfl (by decide +kernel)
theorem dX12_pin_30 : decode cX12_pin 30 = .ok (.iconst 0, 1) := dz_3 (n := 0) (r := 30) hz_X12_pin_0 rfl
theorem dX12_pin_31 : decode cX12_pin 31 = .ok (.ireturn, 1) := dz_172 (n := 0) (r := 31) hz_X12_pin_0 rfl
theorem hz_X12_pin_32 : (cX12_pin.data.toList.drop 32).take 40 = [42, 182, 0, 244, 42, 180, 0, 40, 16, 48, 27, 96, 28, 79, 28, 4, 160, 0, 16, 42, 180, 0, 40, 16, 64, 92, 46, 4, 27, 120, 128, 79, 28, 5, 160, 0, 18, 42, 180, 0] := by decide +kernel
theorem dX12_pin_32 : decode cX12_pin 32 = .ok (.aload_n 0, 1) := dz_42 (n := 32) (r := 0) hz_X12_pin_32 rfl
theorem dX12_pin_33 : decode cX12_pin 33 = .ok (.invokevirtual 244, 3) := dz_182 (n := 32) (r := 1) hz_X12_pin_32 rfl rfl
theorem dX12_pin_36 : decode cX12_pin 36 = .ok (.aload_n 0, 1) := dz_42 (n := 32) (r := 4) hz_X12_pin_32 rfl
theorem dX12_pin_37 : decode cX12_pin 37 = .ok (.getfield 40, 3) := dz_180 (n := 32) (r := 5) hz_X12_pin_32 rfl rfl
theorem dX12_pin_40 : decode cX12_pin 40 = .ok (.bipush 48, 2) := dz_16 (n := 32) (r := 8) hz_X12_pin_32 rfl rfl
theorem dX12_pin_42 : decode cX12_pin 42 = .ok (.iload_n 1, 1) := dz_27 (n := 32) (r := 10) hz_X12_pin_32 rfl
theorem dX12_pin_43 : decode cX12_pin 43 = .ok (.iadd, 1) := dz_96 (n := 32) (r := 11) hz_X12_pin_32 rfl
theorem dX12_pin_44 : decode cX12_pin 44 = .ok (.iload_n 2, 1) := dz_28 (n := 32) (r := 12) hz_X12_pin_32 rfl
theorem dX12_pin_45 : decode cX12_pin 45 = .ok (.iastore, 1) := dz_79 (n := 32) (r := 13) hz_X12_pin_32 rfl
theorem dX12_pin_46 : decode cX12_pin 46 = .ok (.iload_n 2, 1) := dz_28 (n := 32) (r := 14) hz_X12_pin_32 rfl
theorem dX12_pin_47 : decode cX12_pin 47 = .ok (.iconst 1, 1) := dz_4 (n := 32) (r := 15) hz_X12_pin_32 rfl
theorem dX12_pin_48 : decode cX12_pin 48 = .ok (.if_icmp .ne 16, 3) := dz_160 (n := 32) (r := 16) hz_X12_pin_32 rfl (by decide +kernel)
theorem dX12_pin_51 : decode cX12_pin 51 = .ok (.aload_n 0, 1) := dz_42 (n := 32) (r := 19) hz_X12_pin_32 rfl
theorem dX12_pin_52 : decode cX12_pin 52 = .ok (.getfield 40, 3) := dz_180 (n := 32) (r := 20) hz_X12_pin_32 rfl rfl
theorem dX12_pin_55 : decode cX12_pin 55 = .ok (.bipush 64, 2) := dz_16 (n := 32) (r := 23) hz_X12_pin_32 rfl rfl
theorem dX12_pin_57 : decode cX12_pin 57 = .ok (.dup2, 1) := dz_92 (n := 32) (r := 25) hz_X12_pin_32 rfl
theorem dX12_pin_58 : decode cX12_pin 58 = .ok (.iaload, 1) := dz_46 (n := 32) (r := 26) hz_X12_pin_32 rfl
theorem dX12_pin_59 : decode cX12_pin 59 = .ok (.iconst 1, 1) := dz_4 (n := 32) (r := 27) hz_X12_pin_32 rfl
theorem dX12_pin_60 : decode cX12_pin 60 = .ok (.iload_n 1, 1) := dz_27 (n := 32) (r := 28) hz_X12_pin_32 rfl
theorem dX12_pin_61 : decode cX12_pin 61 = .ok (.ishl, 1) := dz_120 (n := 32) (r := 29) hz_X12_pin_32 rfl
theorem dX12_pin_62 : decode cX12_pin 62 = .ok (.ior, 1) := dz_128 (n := 32) (r := 30) hz_X12_pin_32 rfl
theorem dX12_pin_63 : decode cX12_pin 63 = .ok (.iastore, 1) := dz_79 (n := 32) (r := 31) hz_X12_pin_32 rfl
theorem hz_X12_pin_64 : (cX12_pin.data.toList.drop 64).take 40 = [28, 5, 160, 0, 18, 42, 180, 0, 40, 16, 64, 92, 46, 4, 27, 120, 2, 130, 126, 79, 42, 3, 181, 0, 200, 4, 172] := by decide +kernel
theorem dX12_pin_64 : decode cX12_pin 64 = .ok (.iload_n 2, 1) := dz_28 (n := 64) (r := 0) hz_X12_pin_64 rfl
theorem dX12_pin_65 : decode cX12_pin 65 = .ok (.iconst 2, 1) := dz_5 (n := 64) (r := 1) hz_X12_pin_64 rfl
theorem dX12_pin_66 : decode cX12_pin 66 = .ok (.if_icmp .ne 18, 3) := dz_160 (n := 64) (r := 2) hz_X12_pin_64 rfl (by decide +kernel)
theorem dX12_pin_69 : decode cX12_pin 69 = .ok (.aload_n 0, 1) := dz_42 (n := 64) (r := 5) hz_X12_pin_64 rfl
theorem dX12_pin_70 : decode cX12_pin 70 = .ok (.getfield 40, 3) := dz_180 (n := 64) (r := 6) hz_X12_pin_64 rfl rfl
theorem dX12_pin_73 : decode cX12_pin 73 = .ok (.bipush 64, 2) := dz_16 (n := 64) (r := 9) hz_X12_pin_64 rfl rfl
theorem dX12_pin_75 : decode cX12_pin 75 = .ok (.dup2, 1) := dz_92 (n := 64) (r := 11) hz_X12_pin_64 rfl
theorem dX12_pin_76 : decode cX12_pin 76 = .ok (.iaload, 1) := dz_46 (n := 64) (r := 12) hz_X12_pin_64 rfl
theorem dX12_pin_77 : decode cX12_pin 77 = .ok (.iconst 1, 1) := dz_4 (n := 64) (r := 13) hz_X12_pin_64 rfl
theorem dX12_pin_78 : decode cX12_pin 78 = .ok (.iload_n 1, 1) := dz_27 (n := 64) (r := 14) hz_X12_pin_64 rfl
theorem dX12_pin_79 : decode cX12_pin 79 = .ok (.ishl, 1) := dz_120 (n := 64) (r := 15) hz_X12_pin_64 rfl
theorem dX12_pin_80 : decode cX12_pin 80 = .ok (.iconst (-1), 1) := dz_2 (n := 64) (r := 16) hz_X12_pin_64 rfl
theorem dX12_pin_81 : decode cX12_pin 81 = .ok (.ixor, 1) := dz_130 (n := 64) (r := 17) hz_X12_pin_64 rfl
theorem dX12_pin_82 : decode cX12_pin 82 = .ok (.iand, 1) := dz_126 (n := 64) (r := 18) hz_X12_pin_64 rfl
theorem dX12_pin_83 : decode cX12_pin 83 = .ok (.iastore, 1) := dz_79 (n := 64) (r := 19) hz_X12_pin_64 rfl
theorem dX12_pin_84 : decode cX12_pin 84 = .ok (.aload_n 0, 1) := dz_42 (n := 64) (r := 20) hz_X12_pin_64 rfl
theorem dX12_pin_85 : decode cX12_pin 85 = .ok (.iconst 0, 1) := dz_3 (n := 64) (r := 21) hz_X12_pin_64 rfl
theorem dX12_pin_86 : decode cX12_pin 86 = .ok (.putfield 200, 3) := dz_181 (n := 64) (r := 22) hz_X12_pin_64 rfl rfl
theorem dX12_pin_89 : decode cX12_pin 89 = .ok (.iconst 1, 1) := dz_4 (n := 64) (r := 25) hz_X12_pin_64 rfl
theorem dX12_pin_90 : decode cX12_pin 90 = .ok (.ireturn, 1) := dz_172 (n := 64) (r := 26) hz_X12_pin_64 rfl
theorem hz_X12_nextOf_0 : (cX12_nextOf.data.toList.drop 0).take 40 = [30, 20, 0, 247, 105, 20, 0, 249, 97, 20, 0, 251, 113, 173] := by decide +kernel
theorem dX12_nextOf_0 : decode cX12_nextOf 0 = .ok (.lload_n 0, 1) := dz_30 (n := 0) (r := 0) hz_X12_nextOf_0 rfl
theorem dX12_nextOf_1 : decode cX12_nextOf 1 = .ok (.ldc2_w 247, 3) := dz_20 (n := 0) (r := 1) hz_X12_nextOf_0 rfl rfl
theorem dX12_nextOf_4 : decode cX12_nextOf 4 = .ok (.lmul, 1) := dz_105 (n := 0) (r := 4) hz_X12_nextOf_0 rfl
theorem dX12_nextOf_5 : decode cX12_nextOf 5 = .ok (.ldc2_w 249, 3) := dz_20 (n := 0) (r := 5) hz_X12_nextOf_0 rfl rfl
theorem dX12_nextOf_8 : decode cX12_nextOf 8 = .ok (.ladd, 1) := dz_97 (n := 0) (r := 8) hz_X12_nextOf_0 rfl
theorem dX12_nextOf_9 : decode cX12_nextOf 9 = .ok (.ldc2_w 251, 3) := dz_20 (n := 0) (r := 9) hz_X12_nextOf_0 rfl rfl
theorem dX12_nextOf_12 : decode cX12_nextOf 12 = .ok (.lrem, 1) := dz_113 (n := 0) (r := 12) hz_X12_nextOf_0 rfl
theorem dX12_nextOf_13 : decode cX12_nextOf 13 = .ok (.lreturn, 1) := dz_173 (n := 0) (r := 13) hz_X12_nextOf_0 rfl
theorem hz_X12_glass_0 : (cX12_glass.data.toList.drop 0).take 40 = [27, 3, 17, 39, 15, 184, 0, 213, 153, 0, 10, 42, 182, 0, 193, 154, 0, 5, 3, 172, 42, 182, 0, 244, 27, 133, 65, 3, 54, 4, 21, 4, 5, 42, 182, 0, 193, 104, 162, 0] := by decide +kernel
theorem dX12_glass_0 : decode cX12_glass 0 = .ok (.iload_n 1, 1) := dz_27 (n := 0) (r := 0) hz_X12_glass_0 rfl
theorem dX12_glass_1 : decode cX12_glass 1 = .ok (.iconst 0, 1) := dz_3 (n := 0) (r := 1) hz_X12_glass_0 rfl
theorem dX12_glass_2 : decode cX12_glass 2 = .ok (.sipush 9999, 3) := dz_17 (n := 0) (r := 2) hz_X12_glass_0 rfl (by decide +kernel)
theorem dX12_glass_5 : decode cX12_glass 5 = .ok (.invokestatic 213, 3) := dz_184 (n := 0) (r := 5) hz_X12_glass_0 rfl rfl
theorem dX12_glass_8 : decode cX12_glass 8 = .ok (.ifCond .eq 10, 3) := dz_153 (n := 0) (r := 8) hz_X12_glass_0 rfl (by decide +kernel)
theorem dX12_glass_11 : decode cX12_glass 11 = .ok (.aload_n 0, 1) := dz_42 (n := 0) (r := 11) hz_X12_glass_0 rfl
theorem dX12_glass_12 : decode cX12_glass 12 = .ok (.invokevirtual 193, 3) := dz_182 (n := 0) (r := 12) hz_X12_glass_0 rfl rfl
theorem dX12_glass_15 : decode cX12_glass 15 = .ok (.ifCond .ne 5, 3) := dz_154 (n := 0) (r := 15) hz_X12_glass_0 rfl (by decide +kernel)
theorem dX12_glass_18 : decode cX12_glass 18 = .ok (.iconst 0, 1) := dz_3 (n := 0) (r := 18) hz_X12_glass_0 rfl
theorem dX12_glass_19 : decode cX12_glass 19 = .ok (.ireturn, 1) := dz_172 (n := 0) (r := 19) hz_X12_glass_0 rfl
theorem dX12_glass_20 : decode cX12_glass 20 = .ok (.aload_n 0, 1) := dz_42 (n := 0) (r := 20) hz_X12_glass_0 rfl
theorem dX12_glass_21 : decode cX12_glass 21 = .ok (.invokevirtual 244, 3) := dz_182 (n := 0) (r := 21) hz_X12_glass_0 rfl rfl
theorem dX12_glass_24 : decode cX12_glass 24 = .ok (.iload_n 1, 1) := dz_27 (n := 0) (r := 24) hz_X12_glass_0 rfl
theorem dX12_glass_25 : decode cX12_glass 25 = .ok (.i2l, 1) := dz_133 (n := 0) (r := 25) hz_X12_glass_0 rfl
theorem dX12_glass_26 : decode cX12_glass 26 = .ok (.lstore_n 2, 1) := dz_65 (n := 0) (r := 26) hz_X12_glass_0 rfl
theorem dX12_glass_27 : decode cX12_glass 27 = .ok (.iconst 0, 1) := dz_3 (n := 0) (r := 27) hz_X12_glass_0 rfl
theorem dX12_glass_28 : decode cX12_glass 28 = .ok (.istore 4, 2) := dz_54 (n := 0) (r := 28) hz_X12_glass_0 rfl rfl
theorem dX12_glass_30 : decode cX12_glass 30 = .ok (.iload 4, 2) := dz_21 (n := 0) (r := 30) hz_X12_glass_0 rfl rfl
theorem hz_X12_glass_32 : (cX12_glass.data.toList.drop 32).take 40 = [5, 42, 182, 0, 193, 104, 162, 0, 101, 21, 4, 42, 182, 0, 193, 161, 0, 7, 4, 167, 0, 4, 3, 54, 5, 21, 5, 153, 0, 13, 21, 4, 42, 182, 0, 193, 100, 167, 0, 5] := by decide +kernel
theorem dX12_glass_32 : decode cX12_glass 32 = .ok (.iconst 2, 1) := dz_5 (n := 32) (r := 0) hz_X12_glass_32 rfl
theorem dX12_glass_33 : decode cX12_glass 33 = .ok (.aload_n 0, 1) := dz_42 (n := 32) (r := 1) hz_X12_glass_32 rfl
theorem dX12_glass_34 : decode cX12_glass 34 = .ok (.invokevirtual 193, 3) := dz_182 (n := 32) (r := 2) hz_X12_glass_32 rfl rfl
theorem dX12_glass_37 : decode cX12_glass 37 = .ok (.imul, 1) := dz_104 (n := 32) (r := 5) hz_X12_glass_32 rfl
theorem dX12_glass_38 : decode cX12_glass 38 = .ok (.if_icmp .ge 101, 3) := dz_162 (n := 32) (r := 6) hz_X12_glass_32 rfl (by decide +kernel)
theorem dX12_glass_41 : decode cX12_glass 41 = .ok (.iload 4, 2) := dz_21 (n := 32) (r := 9) hz_X12_glass_32 rfl rfl
theorem dX12_glass_43 : decode cX12_glass 43 = .ok (.aload_n 0, 1) := dz_42 (n := 32) (r := 11) hz_X12_glass_32 rfl
theorem dX12_glass_44 : decode cX12_glass 44 = .ok (.invokevirtual 193, 3) := dz_182 (n := 32) (r := 12) hz_X12_glass_32 rfl rfl
theorem dX12_glass_47 : decode cX12_glass 47 = .ok (.if_icmp .lt 7, 3) := dz_161 (n := 32) (r := 15) hz_X12_glass_32 rfl (by decide +kernel)
theorem dX12_glass_50 : decode cX12_glass 50 = .ok (.iconst 1, 1) := dz_4 (n := 32) (r := 18) hz_X12_glass_32 rfl
theorem dX12_glass_51 : decode cX12_glass 51 = .ok (.goto 4, 3) := dz_167 (n := 32) (r := 19) hz_X12_glass_32 rfl (by decide +kernel)
theorem dX12_glass_54 : decode cX12_glass 54 = .ok (.iconst 0, 1) := dz_3 (n := 32) (r := 22) hz_X12_glass_32 rfl
theorem dX12_glass_55 : decode cX12_glass 55 = .ok (.istore 5, 2) := dz_54 (n := 32) (r := 23) hz_X12_glass_32 rfl rfl
theorem dX12_glass_57 : decode cX12_glass 57 = .ok (.iload 5, 2) := dz_21 (n := 32) (r := 25) hz_X12_glass_32 rfl rfl
theorem dX12_glass_59 : decode cX12_glass 59 = .ok (.ifCond .eq 13, 3) := dz_153 (n := 32) (r := 27) hz_X12_glass_32 rfl (by decide +kernel)
theorem dX12_glass_62 : decode cX12_glass 62 = .ok (.iload 4, 2) := dz_21 (n := 32) (r := 30) hz_X12_glass_32 rfl rfl
theorem hz_X12_glass_64 : (cX12_glass.data.toList.drop 64).take 40 = [42, 182, 0, 193, 100, 167, 0, 5, 21, 4, 54, 6, 42, 21, 6, 21, 5, 182, 0, 236, 156, 0, 6, 167, 0, 46, 32, 184, 0, 253, 65, 42, 180, 0, 40, 21, 5, 153, 0, 8] := by decide +kernel
theorem dX12_glass_64 : decode cX12_glass 64 = .ok (.aload_n 0, 1) := dz_42 (n := 64) (r := 0) hz_X12_glass_64 rfl
theorem dX12_glass_65 : decode cX12_glass 65 = .ok (.invokevirtual 193, 3) := dz_182 (n := 64) (r := 1) hz_X12_glass_64 rfl rfl
theorem dX12_glass_68 : decode cX12_glass 68 = .ok (.isub, 1) := dz_100 (n := 64) (r := 4) hz_X12_glass_64 rfl
theorem dX12_glass_69 : decode cX12_glass 69 = .ok (.goto 5, 3) := dz_167 (n := 64) (r := 5) hz_X12_glass_64 rfl (by decide +kernel)
theorem dX12_glass_72 : decode cX12_glass 72 = .ok (.iload 4, 2) := dz_21 (n := 64) (r := 8) hz_X12_glass_64 rfl rfl
theorem dX12_glass_74 : decode cX12_glass 74 = .ok (.istore 6, 2) := dz_54 (n := 64) (r := 10) hz_X12_glass_64 rfl rfl
theorem dX12_glass_76 : decode cX12_glass 76 = .ok (.aload_n 0, 1) := dz_42 (n := 64) (r := 12) hz_X12_glass_64 rfl
theorem dX12_glass_77 : decode cX12_glass 77 = .ok (.iload 6, 2) := dz_21 (n := 64) (r := 13) hz_X12_glass_64 rfl rfl
theorem dX12_glass_79 : decode cX12_glass 79 = .ok (.iload 5, 2) := dz_21 (n := 64) (r := 15) hz_X12_glass_64 rfl rfl
theorem dX12_glass_81 : decode cX12_glass 81 = .ok (.invokevirtual 236, 3) := dz_182 (n := 64) (r := 17) hz_X12_glass_64 rfl rfl
theorem dX12_glass_84 : decode cX12_glass 84 = .ok (.ifCond .ge 6, 3) := dz_156 (n := 64) (r := 20) hz_X12_glass_64 rfl (by decide +kernel)
theorem dX12_glass_87 : decode cX12_glass 87 = .ok (.goto 46, 3) := dz_167 (n := 64) (r := 23) hz_X12_glass_64 rfl (by decide +kernel)
theorem dX12_glass_90 : decode cX12_glass 90 = .ok (.lload_n 2, 1) := dz_32 (n := 64) (r := 26) hz_X12_glass_64 rfl
theorem dX12_glass_91 : decode cX12_glass 91 = .ok (.invokestatic 253, 3) := dz_184 (n := 64) (r := 27) hz_X12_glass_64 rfl rfl
theorem dX12_glass_94 : decode cX12_glass 94 = .ok (.lstore_n 2, 1) := dz_65 (n := 64) (r := 30) hz_X12_glass_64 rfl
theorem dX12_glass_95 : decode cX12_glass 95 = .ok (.aload_n 0, 1) := dz_42 (n := 64) (r := 31) hz_X12_glass_64 rfl
theorem hz_X12_glass_96 : (cX12_glass.data.toList.drop 96).take 40 = [180, 0, 40, 21, 5, 153, 0, 8, 16, 16, 167, 0, 4, 3, 21, 6, 96, 32, 20, 1, 1, 109, 20, 1, 3, 113, 10, 148, 154, 0, 7, 4, 167, 0, 4, 2, 79, 132, 4, 1] := by decide +kernel
theorem dX12_glass_96 : decode cX12_glass 96 = .ok (.getfield 40, 3) := dz_180 (n := 96) (r := 0) hz_X12_glass_96 rfl rfl
theorem dX12_glass_99 : decode cX12_glass 99 = .ok (.iload 5, 2) := dz_21 (n := 96) (r := 3) hz_X12_glass_96 rfl rfl
theorem dX12_glass_101 : decode cX12_glass 101 = .ok (.ifCond .eq 8, 3) := dz_153 (n := 96) (r := 5) hz_X12_glass_96 rfl (by decide +kernel)
theorem dX12_glass_104 : decode cX12_glass 104 = .ok (.bipush 16, 2) := dz_16 (n := 96) (r := 8) hz_X12_glass_96 rfl rfl
theorem dX12_glass_106 : decode cX12_glass 106 = .ok (.goto 4, 3) := dz_167 (n := 96) (r := 10) hz_X12_glass_96 rfl (by decide +kernel)
theorem dX12_glass_109 : decode cX12_glass 109 = .ok (.iconst 0, 1) := dz_3 (n := 96) (r := 13) hz_X12_glass_96 rfl
theorem dX12_glass_110 : decode cX12_glass 110 = .ok (.iload 6, 2) := dz_21 (n := 96) (r := 14) hz_X12_glass_96 rfl rfl
theorem dX12_glass_112 : decode cX12_glass 112 = .ok (.iadd, 1) := dz_96 (n := 96) (r := 16) hz_X12_glass_96 rfl
theorem dX12_glass_113 : decode cX12_glass 113 = .ok (.lload_n 2, 1) := dz_32 (n := 96) (r := 17) hz_X12_glass_96 rfl
theorem dX12_glass_114 : decode cX12_glass 114 = .ok (.ldc2_w 257, 3) := dz_20 (n := 96) (r := 18) hz_X12_glass_96 rfl rfl
theorem dX12_glass_117 : decode cX12_glass 117 = .ok (.ldiv, 1) := dz_109 (n := 96) (r := 21) hz_X12_glass_96 rfl
theorem dX12_glass_118 : decode cX12_glass 118 = .ok (.ldc2_w 259, 3) := dz_20 (n := 96) (r := 22) hz_X12_glass_96 rfl rfl
theorem dX12_glass_121 : decode cX12_glass 121 = .ok (.lrem, 1) := dz_113 (n := 96) (r := 25) hz_X12_glass_96 rfl
theorem dX12_glass_122 : decode cX12_glass 122 = .ok (.lconst 1, 1) := dz_10 (n := 96) (r := 26) hz_X12_glass_96 rfl
theorem dX12_glass_123 : decode cX12_glass 123 = .ok (.lcmp, 1) := dz_148 (n := 96) (r := 27) hz_X12_glass_96 rfl
theorem dX12_glass_124 : decode cX12_glass 124 = .ok (.ifCond .ne 7, 3) := dz_154 (n := 96) (r := 28) hz_X12_glass_96 rfl (by decide +kernel)
theorem dX12_glass_127 : decode cX12_glass 127 = .ok (.iconst 1, 1) := dz_4 (n := 96) (r := 31) hz_X12_glass_96 rfl
theorem hz_X12_glass_128 : (cX12_glass.data.toList.drop 128).take 40 = [167, 0, 4, 2, 79, 132, 4, 1, 167, 255, 150, 42, 3, 181, 0, 200, 4, 172] := by decide +kernel
theorem dX12_glass_128 : decode cX12_glass 128 = .ok (.goto 4, 3) := dz_167 (n := 128) (r := 0) hz_X12_glass_128 rfl (by decide +kernel)
theorem dX12_glass_131 : decode cX12_glass 131 = .ok (.iconst (-1), 1) := dz_2 (n := 128) (r := 3) hz_X12_glass_128 rfl
theorem dX12_glass_132 : decode cX12_glass 132 = .ok (.iastore, 1) := dz_79 (n := 128) (r := 4) hz_X12_glass_128 rfl
theorem dX12_glass_133 : decode cX12_glass 133 = .ok (.iinc 4 1, 3) := dz_132 (n := 128) (r := 5) hz_X12_glass_128 rfl rfl rfl
theorem dX12_glass_136 : decode cX12_glass 136 = .ok (.goto (-106), 3) := dz_167 (n := 128) (r := 8) hz_X12_glass_128 rfl (by decide +kernel)
theorem dX12_glass_139 : decode cX12_glass 139 = .ok (.aload_n 0, 1) := dz_42 (n := 128) (r := 11) hz_X12_glass_128 rfl
theorem dX12_glass_140 : decode cX12_glass 140 = .ok (.iconst 0, 1) := dz_3 (n := 128) (r := 12) hz_X12_glass_128 rfl
theorem dX12_glass_141 : decode cX12_glass 141 = .ok (.putfield 200, 3) := dz_181 (n := 128) (r := 13) hz_X12_glass_128 rfl rfl
theorem dX12_glass_144 : decode cX12_glass 144 = .ok (.iconst 1, 1) := dz_4 (n := 128) (r := 16) hz_X12_glass_128 rfl
theorem dX12_glass_145 : decode cX12_glass 145 = .ok (.ireturn, 1) := dz_172 (n := 128) (r := 17) hz_X12_glass_128 rfl
theorem hz_X12_turn_0 : (cX12_turn.data.toList.drop 0).take 40 = [42, 27, 182, 0, 233, 153, 0, 15, 42, 180, 0, 40, 16, 48, 27, 96, 46, 158, 0, 5, 3, 172, 42, 182, 0, 244, 42, 180, 0, 40, 16, 64, 92, 46, 4, 27, 120, 130, 79, 4] := by decide +kernel
theorem dX12_turn_0 : decode cX12_turn 0 = .ok (.aload_n 0, 1) := dz_42 (n := 0) (r := 0) hz_X12_turn_0 rfl
theorem dX12_turn_1 : decode cX12_turn 1 = .ok (.iload_n 1, 1) := dz_27 (n := 0) (r := 1) hz_X12_turn_0 rfl
theorem dX12_turn_2 : decode cX12_turn 2 = .ok (.invokevirtual 233, 3) := dz_182 (n := 0) (r := 2) hz_X12_turn_0 rfl rfl
theorem dX12_turn_5 : decode cX12_turn 5 = .ok (.ifCond .eq 15, 3) := dz_153 (n := 0) (r := 5) hz_X12_turn_0 rfl (by decide +kernel)
theorem dX12_turn_8 : decode cX12_turn 8 = .ok (.aload_n 0, 1) := dz_42 (n := 0) (r := 8) hz_X12_turn_0 rfl
theorem dX12_turn_9 : decode cX12_turn 9 = .ok (.getfield 40, 3) := dz_180 (n := 0) (r := 9) hz_X12_turn_0 rfl rfl
theorem dX12_turn_12 : decode cX12_turn 12 = .ok (.bipush 48, 2) := dz_16 (n := 0) (r := 12) hz_X12_turn_0 rfl rfl
theorem dX12_turn_14 : decode cX12_turn 14 = .ok (.iload_n 1, 1) := dz_27 (n := 0) (r := 14) hz_X12_turn_0 rfl
theorem dX12_turn_15 : decode cX12_turn 15 = .ok (.iadd, 1) := dz_96 (n := 0) (r := 15) hz_X12_turn_0 rfl
theorem dX12_turn_16 : decode cX12_turn 16 = .ok (.iaload, 1) := dz_46 (n := 0) (r := 16) hz_X12_turn_0 rfl
theorem dX12_turn_17 : decode cX12_turn 17 = .ok (.ifCond .le 5, 3) := dz_158 (n := 0) (r := 17) hz_X12_turn_0 rfl (by decide +kernel)
theorem dX12_turn_20 : decode cX12_turn 20 = .ok (.iconst 0, 1) := dz_3 (n := 0) (r := 20) hz_X12_turn_0 rfl
theorem dX12_turn_21 : decode cX12_turn 21 = .ok (.ireturn, 1) := dz_172 (n := 0) (r := 21) hz_X12_turn_0 rfl
theorem dX12_turn_22 : decode cX12_turn 22 = .ok (.aload_n 0, 1) := dz_42 (n := 0) (r := 22) hz_X12_turn_0 rfl
theorem dX12_turn_23 : decode cX12_turn 23 = .ok (.invokevirtual 244, 3) := dz_182 (n := 0) (r := 23) hz_X12_turn_0 rfl rfl
theorem dX12_turn_26 : decode cX12_turn 26 = .ok (.aload_n 0, 1) := dz_42 (n := 0) (r := 26) hz_X12_turn_0 rfl
theorem dX12_turn_27 : decode cX12_turn 27 = .ok (.getfield 40, 3) := dz_180 (n := 0) (r := 27) hz_X12_turn_0 rfl rfl
theorem dX12_turn_30 : decode cX12_turn 30 = .ok (.bipush 64, 2) := dz_16 (n := 0) (r := 30) hz_X12_turn_0 rfl rfl
theorem hz_X12_turn_32 : (cX12_turn.data.toList.drop 32).take 40 = [92, 46, 4, 27, 120, 130, 79, 4, 172] := by decide +kernel
theorem dX12_turn_32 : decode cX12_turn 32 = .ok (.dup2, 1) := dz_92 (n := 32) (r := 0) hz_X12_turn_32 rfl
theorem dX12_turn_33 : decode cX12_turn 33 = .ok (.iaload, 1) := dz_46 (n := 32) (r := 1) hz_X12_turn_32 rfl
theorem dX12_turn_34 : decode cX12_turn 34 = .ok (.iconst 1, 1) := dz_4 (n := 32) (r := 2) hz_X12_turn_32 rfl
theorem dX12_turn_35 : decode cX12_turn 35 = .ok (.iload_n 1, 1) := dz_27 (n := 32) (r := 3) hz_X12_turn_32 rfl
theorem dX12_turn_36 : decode cX12_turn 36 = .ok (.ishl, 1) := dz_120 (n := 32) (r := 4) hz_X12_turn_32 rfl
theorem dX12_turn_37 : decode cX12_turn 37 = .ok (.ixor, 1) := dz_130 (n := 32) (r := 5) hz_X12_turn_32 rfl
theorem dX12_turn_38 : decode cX12_turn 38 = .ok (.iastore, 1) := dz_79 (n := 32) (r := 6) hz_X12_turn_32 rfl
theorem dX12_turn_39 : decode cX12_turn 39 = .ok (.iconst 1, 1) := dz_4 (n := 32) (r := 7) hz_X12_turn_32 rfl
theorem dX12_turn_40 : decode cX12_turn 40 = .ok (.ireturn, 1) := dz_172 (n := 32) (r := 8) hz_X12_turn_32 rfl
theorem hz_X12_fall_0 : (cX12_fall.data.toList.drop 0).take 40 = [42, 182, 0, 193, 154, 0, 5, 2, 172, 42, 182, 1, 5, 42, 42, 180, 0, 40, 16, 64, 46, 182, 1, 8, 60, 27, 154, 0, 5, 3, 172, 42, 182, 0, 244, 42, 180, 0, 40, 16] := by decide +kernel
theorem dX12_fall_0 : decode cX12_fall 0 = .ok (.aload_n 0, 1) := dz_42 (n := 0) (r := 0) hz_X12_fall_0 rfl
theorem dX12_fall_1 : decode cX12_fall 1 = .ok (.invokevirtual 193, 3) := dz_182 (n := 0) (r := 1) hz_X12_fall_0 rfl rfl
theorem dX12_fall_4 : decode cX12_fall 4 = .ok (.ifCond .ne 5, 3) := dz_154 (n := 0) (r := 4) hz_X12_fall_0 rfl (by decide +kernel)
theorem dX12_fall_7 : decode cX12_fall 7 = .ok (.iconst (-1), 1) := dz_2 (n := 0) (r := 7) hz_X12_fall_0 rfl
theorem dX12_fall_8 : decode cX12_fall 8 = .ok (.ireturn, 1) := dz_172 (n := 0) (r := 8) hz_X12_fall_0 rfl
theorem dX12_fall_9 : decode cX12_fall 9 = .ok (.aload_n 0, 1) := dz_42 (n := 0) (r := 9) hz_X12_fall_0 rfl
theorem dX12_fall_10 : decode cX12_fall 10 = .ok (.invokevirtual 261, 3) := dz_182 (n := 0) (r := 10) hz_X12_fall_0 rfl rfl
theorem dX12_fall_13 : decode cX12_fall 13 = .ok (.aload_n 0, 1) := dz_42 (n := 0) (r := 13) hz_X12_fall_0 rfl
theorem dX12_fall_14 : decode cX12_fall 14 = .ok (.aload_n 0, 1) := dz_42 (n := 0) (r := 14) hz_X12_fall_0 rfl
theorem dX12_fall_15 : decode cX12_fall 15 = .ok (.getfield 40, 3) := dz_180 (n := 0) (r := 15) hz_X12_fall_0 rfl rfl
theorem dX12_fall_18 : decode cX12_fall 18 = .ok (.bipush 64, 2) := dz_16 (n := 0) (r := 18) hz_X12_fall_0 rfl rfl
theorem dX12_fall_20 : decode cX12_fall 20 = .ok (.iaload, 1) := dz_46 (n := 0) (r := 20) hz_X12_fall_0 rfl
theorem dX12_fall_21 : decode cX12_fall 21 = .ok (.invokevirtual 264, 3) := dz_182 (n := 0) (r := 21) hz_X12_fall_0 rfl rfl
theorem dX12_fall_24 : decode cX12_fall 24 = .ok (.istore_n 1, 1) := dz_60 (n := 0) (r := 24) hz_X12_fall_0 rfl
theorem dX12_fall_25 : decode cX12_fall 25 = .ok (.iload_n 1, 1) := dz_27 (n := 0) (r := 25) hz_X12_fall_0 rfl
theorem dX12_fall_26 : decode cX12_fall 26 = .ok (.ifCond .ne 5, 3) := dz_154 (n := 0) (r := 26) hz_X12_fall_0 rfl (by decide +kernel)
theorem dX12_fall_29 : decode cX12_fall 29 = .ok (.iconst 0, 1) := dz_3 (n := 0) (r := 29) hz_X12_fall_0 rfl
theorem dX12_fall_30 : decode cX12_fall 30 = .ok (.ireturn, 1) := dz_172 (n := 0) (r := 30) hz_X12_fall_0 rfl
theorem dX12_fall_31 : decode cX12_fall 31 = .ok (.aload_n 0, 1) := dz_42 (n := 0) (r := 31) hz_X12_fall_0 rfl
theorem hz_X12_fall_32 : (cX12_fall.data.toList.drop 32).take 40 = [182, 0, 244, 42, 180, 0, 40, 16, 64, 42, 42, 180, 0, 40, 16, 64, 46, 182, 1, 11, 79, 27, 172] := by decide +kernel
theorem dX12_fall_32 : decode cX12_fall 32 = .ok (.invokevirtual 244, 3) := dz_182 (n := 32) (r := 0) hz_X12_fall_32 rfl rfl
theorem dX12_fall_35 : decode cX12_fall 35 = .ok (.aload_n 0, 1) := dz_42 (n := 32) (r := 3) hz_X12_fall_32 rfl
theorem dX12_fall_36 : decode cX12_fall 36 = .ok (.getfield 40, 3) := dz_180 (n := 32) (r := 4) hz_X12_fall_32 rfl rfl
theorem dX12_fall_39 : decode cX12_fall 39 = .ok (.bipush 64, 2) := dz_16 (n := 32) (r := 7) hz_X12_fall_32 rfl rfl
theorem dX12_fall_41 : decode cX12_fall 41 = .ok (.aload_n 0, 1) := dz_42 (n := 32) (r := 9) hz_X12_fall_32 rfl
theorem dX12_fall_42 : decode cX12_fall 42 = .ok (.aload_n 0, 1) := dz_42 (n := 32) (r := 10) hz_X12_fall_32 rfl
theorem dX12_fall_43 : decode cX12_fall 43 = .ok (.getfield 40, 3) := dz_180 (n := 32) (r := 11) hz_X12_fall_32 rfl rfl
theorem dX12_fall_46 : decode cX12_fall 46 = .ok (.bipush 64, 2) := dz_16 (n := 32) (r := 14) hz_X12_fall_32 rfl rfl
theorem dX12_fall_48 : decode cX12_fall 48 = .ok (.iaload, 1) := dz_46 (n := 32) (r := 16) hz_X12_fall_32 rfl
theorem dX12_fall_49 : decode cX12_fall 49 = .ok (.invokevirtual 267, 3) := dz_182 (n := 32) (r := 17) hz_X12_fall_32 rfl rfl
theorem dX12_fall_52 : decode cX12_fall 52 = .ok (.iastore, 1) := dz_79 (n := 32) (r := 20) hz_X12_fall_32 rfl
theorem dX12_fall_53 : decode cX12_fall 53 = .ok (.iload_n 1, 1) := dz_27 (n := 32) (r := 21) hz_X12_fall_32 rfl
theorem dX12_fall_54 : decode cX12_fall 54 = .ok (.ireturn, 1) := dz_172 (n := 32) (r := 22) hz_X12_fall_32 rfl
theorem hz_X12_undo_0 : (cX12_undo.data.toList.drop 0).take 40 = [42, 180, 0, 197, 154, 0, 5, 3, 172, 42, 89, 180, 0, 197, 4, 100, 181, 0, 197, 16, 66, 42, 180, 0, 230, 42, 180, 0, 197, 96, 16, 40, 112, 104, 60, 3, 61, 28, 16, 66] := by decide +kernel
theorem dX12_undo_0 : decode cX12_undo 0 = .ok (.aload_n 0, 1) := dz_42 (n := 0) (r := 0) hz_X12_undo_0 rfl
theorem dX12_undo_1 : decode cX12_undo 1 = .ok (.getfield 197, 3) := dz_180 (n := 0) (r := 1) hz_X12_undo_0 rfl rfl
theorem dX12_undo_4 : decode cX12_undo 4 = .ok (.ifCond .ne 5, 3) := dz_154 (n := 0) (r := 4) hz_X12_undo_0 rfl (by decide +kernel)
theorem dX12_undo_7 : decode cX12_undo 7 = .ok (.iconst 0, 1) := dz_3 (n := 0) (r := 7) hz_X12_undo_0 rfl
theorem dX12_undo_8 : decode cX12_undo 8 = .ok (.ireturn, 1) := dz_172 (n := 0) (r := 8) hz_X12_undo_0 rfl
theorem dX12_undo_9 : decode cX12_undo 9 = .ok (.aload_n 0, 1) := dz_42 (n := 0) (r := 9) hz_X12_undo_0 rfl
theorem dX12_undo_10 : decode cX12_undo 10 = .ok (.dup, 1) := dz_89 (n := 0) (r := 10) hz_X12_undo_0 rfl
theorem dX12_undo_11 : decode cX12_undo 11 = .ok (.getfield 197, 3) := dz_180 (n := 0) (r := 11) hz_X12_undo_0 rfl rfl
theorem dX12_undo_14 : decode cX12_undo 14 = .ok (.iconst 1, 1) := dz_4 (n := 0) (r := 14) hz_X12_undo_0 rfl
theorem dX12_undo_15 : decode cX12_undo 15 = .ok (.isub, 1) := dz_100 (n := 0) (r := 15) hz_X12_undo_0 rfl
theorem dX12_undo_16 : decode cX12_undo 16 = .ok (.putfield 197, 3) := dz_181 (n := 0) (r := 16) hz_X12_undo_0 rfl rfl
theorem dX12_undo_19 : decode cX12_undo 19 = .ok (.bipush 66, 2) := dz_16 (n := 0) (r := 19) hz_X12_undo_0 rfl rfl
theorem dX12_undo_21 : decode cX12_undo 21 = .ok (.aload_n 0, 1) := dz_42 (n := 0) (r := 21) hz_X12_undo_0 rfl
theorem dX12_undo_22 : decode cX12_undo 22 = .ok (.getfield 230, 3) := dz_180 (n := 0) (r := 22) hz_X12_undo_0 rfl rfl
theorem dX12_undo_25 : decode cX12_undo 25 = .ok (.aload_n 0, 1) := dz_42 (n := 0) (r := 25) hz_X12_undo_0 rfl
theorem dX12_undo_26 : decode cX12_undo 26 = .ok (.getfield 197, 3) := dz_180 (n := 0) (r := 26) hz_X12_undo_0 rfl rfl
theorem dX12_undo_29 : decode cX12_undo 29 = .ok (.iadd, 1) := dz_96 (n := 0) (r := 29) hz_X12_undo_0 rfl
theorem dX12_undo_30 : decode cX12_undo 30 = .ok (.bipush 40, 2) := dz_16 (n := 0) (r := 30) hz_X12_undo_0 rfl rfl
theorem hz_X12_undo_32 : (cX12_undo.data.toList.drop 32).take 40 = [112, 104, 60, 3, 61, 28, 16, 66, 162, 0, 23, 42, 180, 0, 40, 28, 42, 180, 0, 46, 27, 28, 96, 46, 79, 132, 2, 1, 167, 255, 233, 42, 3, 181, 0, 200, 4, 172] := by decide +kernel
theorem dX12_undo_32 : decode cX12_undo 32 = .ok (.irem, 1) := dz_112 (n := 32) (r := 0) hz_X12_undo_32 rfl
theorem dX12_undo_33 : decode cX12_undo 33 = .ok (.imul, 1) := dz_104 (n := 32) (r := 1) hz_X12_undo_32 rfl
theorem dX12_undo_34 : decode cX12_undo 34 = .ok (.istore_n 1, 1) := dz_60 (n := 32) (r := 2) hz_X12_undo_32 rfl
theorem dX12_undo_35 : decode cX12_undo 35 = .ok (.iconst 0, 1) := dz_3 (n := 32) (r := 3) hz_X12_undo_32 rfl
theorem dX12_undo_36 : decode cX12_undo 36 = .ok (.istore_n 2, 1) := dz_61 (n := 32) (r := 4) hz_X12_undo_32 rfl
theorem dX12_undo_37 : decode cX12_undo 37 = .ok (.iload_n 2, 1) := dz_28 (n := 32) (r := 5) hz_X12_undo_32 rfl
theorem dX12_undo_38 : decode cX12_undo 38 = .ok (.bipush 66, 2) := dz_16 (n := 32) (r := 6) hz_X12_undo_32 rfl rfl
theorem dX12_undo_40 : decode cX12_undo 40 = .ok (.if_icmp .ge 23, 3) := dz_162 (n := 32) (r := 8) hz_X12_undo_32 rfl (by decide +kernel)
theorem dX12_undo_43 : decode cX12_undo 43 = .ok (.aload_n 0, 1) := dz_42 (n := 32) (r := 11) hz_X12_undo_32 rfl
theorem dX12_undo_44 : decode cX12_undo 44 = .ok (.getfield 40, 3) := dz_180 (n := 32) (r := 12) hz_X12_undo_32 rfl rfl
theorem dX12_undo_47 : decode cX12_undo 47 = .ok (.iload_n 2, 1) := dz_28 (n := 32) (r := 15) hz_X12_undo_32 rfl
theorem dX12_undo_48 : decode cX12_undo 48 = .ok (.aload_n 0, 1) := dz_42 (n := 32) (r := 16) hz_X12_undo_32 rfl
theorem dX12_undo_49 : decode cX12_undo 49 = .ok (.getfield 46, 3) := dz_180 (n := 32) (r := 17) hz_X12_undo_32 rfl rfl
theorem dX12_undo_52 : decode cX12_undo 52 = .ok (.iload_n 1, 1) := dz_27 (n := 32) (r := 20) hz_X12_undo_32 rfl
theorem dX12_undo_53 : decode cX12_undo 53 = .ok (.iload_n 2, 1) := dz_28 (n := 32) (r := 21) hz_X12_undo_32 rfl
theorem dX12_undo_54 : decode cX12_undo 54 = .ok (.iadd, 1) := dz_96 (n := 32) (r := 22) hz_X12_undo_32 rfl
theorem dX12_undo_55 : decode cX12_undo 55 = .ok (.iaload, 1) := dz_46 (n := 32) (r := 23) hz_X12_undo_32 rfl
theorem dX12_undo_56 : decode cX12_undo 56 = .ok (.iastore, 1) := dz_79 (n := 32) (r := 24) hz_X12_undo_32 rfl
theorem dX12_undo_57 : decode cX12_undo 57 = .ok (.iinc 2 1, 3) := dz_132 (n := 32) (r := 25) hz_X12_undo_32 rfl rfl rfl
theorem dX12_undo_60 : decode cX12_undo 60 = .ok (.goto (-23), 3) := dz_167 (n := 32) (r := 28) hz_X12_undo_32 rfl (by decide +kernel)
theorem dX12_undo_63 : decode cX12_undo 63 = .ok (.aload_n 0, 1) := dz_42 (n := 32) (r := 31) hz_X12_undo_32 rfl
theorem hz_X12_undo_64 : (cX12_undo.data.toList.drop 64).take 40 = [3, 181, 0, 200, 4, 172] := by decide +kernel
theorem dX12_undo_64 : decode cX12_undo 64 = .ok (.iconst 0, 1) := dz_3 (n := 64) (r := 0) hz_X12_undo_64 rfl
theorem dX12_undo_65 : decode cX12_undo 65 = .ok (.putfield 200, 3) := dz_181 (n := 64) (r := 1) hz_X12_undo_64 rfl rfl
theorem dX12_undo_68 : decode cX12_undo 68 = .ok (.iconst 1, 1) := dz_4 (n := 64) (r := 4) hz_X12_undo_64 rfl
theorem dX12_undo_69 : decode cX12_undo 69 = .ok (.ireturn, 1) := dz_172 (n := 64) (r := 5) hz_X12_undo_64 rfl
theorem hz_X12_hold_0 : (cX12_hold.data.toList.drop 0).take 40 = [27, 3, 5, 184, 0, 213, 154, 0, 5, 3, 172, 3, 61, 28, 16, 66, 162, 0, 26, 42, 180, 0, 49, 16, 66, 27, 104, 28, 96, 42, 180, 0, 40, 28, 46, 79, 132, 2, 1, 167] := by decide +kernel
theorem dX12_hold_0 : decode cX12_hold 0 = .ok (.iload_n 1, 1) := dz_27 (n := 0) (r := 0) hz_X12_hold_0 rfl
theorem dX12_hold_1 : decode cX12_hold 1 = .ok (.iconst 0, 1) := dz_3 (n := 0) (r := 1) hz_X12_hold_0 rfl
theorem dX12_hold_2 : decode cX12_hold 2 = .ok (.iconst 2, 1) := dz_5 (n := 0) (r := 2) hz_X12_hold_0 rfl
theorem dX12_hold_3 : decode cX12_hold 3 = .ok (.invokestatic 213, 3) := dz_184 (n := 0) (r := 3) hz_X12_hold_0 rfl rfl
theorem dX12_hold_6 : decode cX12_hold 6 = .ok (.ifCond .ne 5, 3) := dz_154 (n := 0) (r := 6) hz_X12_hold_0 rfl (by decide +kernel)
theorem dX12_hold_9 : decode cX12_hold 9 = .ok (.iconst 0, 1) := dz_3 (n := 0) (r := 9) hz_X12_hold_0 rfl
theorem dX12_hold_10 : decode cX12_hold 10 = .ok (.ireturn, 1) := dz_172 (n := 0) (r := 10) hz_X12_hold_0 rfl
theorem dX12_hold_11 : decode cX12_hold 11 = .ok (.iconst 0, 1) := dz_3 (n := 0) (r := 11) hz_X12_hold_0 rfl
theorem dX12_hold_12 : decode cX12_hold 12 = .ok (.istore_n 2, 1) := dz_61 (n := 0) (r := 12) hz_X12_hold_0 rfl
theorem dX12_hold_13 : decode cX12_hold 13 = .ok (.iload_n 2, 1) := dz_28 (n := 0) (r := 13) hz_X12_hold_0 rfl
theorem dX12_hold_14 : decode cX12_hold 14 = .ok (.bipush 66, 2) := dz_16 (n := 0) (r := 14) hz_X12_hold_0 rfl rfl
theorem dX12_hold_16 : decode cX12_hold 16 = .ok (.if_icmp .ge 26, 3) := dz_162 (n := 0) (r := 16) hz_X12_hold_0 rfl (by decide +kernel)
theorem dX12_hold_19 : decode cX12_hold 19 = .ok (.aload_n 0, 1) := dz_42 (n := 0) (r := 19) hz_X12_hold_0 rfl
theorem dX12_hold_20 : decode cX12_hold 20 = .ok (.getfield 49, 3) := dz_180 (n := 0) (r := 20) hz_X12_hold_0 rfl rfl
theorem dX12_hold_23 : decode cX12_hold 23 = .ok (.bipush 66, 2) := dz_16 (n := 0) (r := 23) hz_X12_hold_0 rfl rfl
theorem dX12_hold_25 : decode cX12_hold 25 = .ok (.iload_n 1, 1) := dz_27 (n := 0) (r := 25) hz_X12_hold_0 rfl
theorem dX12_hold_26 : decode cX12_hold 26 = .ok (.imul, 1) := dz_104 (n := 0) (r := 26) hz_X12_hold_0 rfl
theorem dX12_hold_27 : decode cX12_hold 27 = .ok (.iload_n 2, 1) := dz_28 (n := 0) (r := 27) hz_X12_hold_0 rfl
theorem dX12_hold_28 : decode cX12_hold 28 = .ok (.iadd, 1) := dz_96 (n := 0) (r := 28) hz_X12_hold_0 rfl
theorem dX12_hold_29 : decode cX12_hold 29 = .ok (.aload_n 0, 1) := dz_42 (n := 0) (r := 29) hz_X12_hold_0 rfl
theorem dX12_hold_30 : decode cX12_hold 30 = .ok (.getfield 40, 3) := dz_180 (n := 0) (r := 30) hz_X12_hold_0 rfl rfl
theorem hz_X12_hold_32 : (cX12_hold.data.toList.drop 32).take 40 = [40, 28, 46, 79, 132, 2, 1, 167, 255, 230, 42, 180, 0, 52, 27, 4, 84, 4, 172] := by decide +kernel
theorem dX12_hold_33 : decode cX12_hold 33 = .ok (.iload_n 2, 1) := dz_28 (n := 32) (r := 1) hz_X12_hold_32 rfl
theorem dX12_hold_34 : decode cX12_hold 34 = .ok (.iaload, 1) := dz_46 (n := 32) (r := 2) hz_X12_hold_32 rfl
theorem dX12_hold_35 : decode cX12_hold 35 = .ok (.iastore, 1) := dz_79 (n := 32) (r := 3) hz_X12_hold_32 rfl
theorem dX12_hold_36 : decode cX12_hold 36 = .ok (.iinc 2 1, 3) := dz_132 (n := 32) (r := 4) hz_X12_hold_32 rfl rfl rfl
theorem dX12_hold_39 : decode cX12_hold 39 = .ok (.goto (-26), 3) := dz_167 (n := 32) (r := 7) hz_X12_hold_32 rfl (by decide +kernel)
theorem dX12_hold_42 : decode cX12_hold 42 = .ok (.aload_n 0, 1) := dz_42 (n := 32) (r := 10) hz_X12_hold_32 rfl
theorem dX12_hold_43 : decode cX12_hold 43 = .ok (.getfield 52, 3) := dz_180 (n := 32) (r := 11) hz_X12_hold_32 rfl rfl
theorem dX12_hold_46 : decode cX12_hold 46 = .ok (.iload_n 1, 1) := dz_27 (n := 32) (r := 14) hz_X12_hold_32 rfl
theorem dX12_hold_47 : decode cX12_hold 47 = .ok (.iconst 1, 1) := dz_4 (n := 32) (r := 15) hz_X12_hold_32 rfl
theorem dX12_hold_48 : decode cX12_hold 48 = .ok (.bastore, 1) := dz_84 (n := 32) (r := 16) hz_X12_hold_32 rfl
theorem dX12_hold_49 : decode cX12_hold 49 = .ok (.iconst 1, 1) := dz_4 (n := 32) (r := 17) hz_X12_hold_32 rfl
theorem dX12_hold_50 : decode cX12_hold 50 = .ok (.ireturn, 1) := dz_172 (n := 32) (r := 18) hz_X12_hold_32 rfl
theorem hz_X12_restore_0 : (cX12_restore.data.toList.drop 0).take 40 = [27, 3, 5, 184, 0, 213, 153, 0, 12, 42, 180, 0, 52, 27, 51, 154, 0, 5, 3, 172, 3, 61, 28, 16, 66, 162, 0, 26, 42, 180, 0, 40, 28, 42, 180, 0, 49, 16, 66, 27] := by decide +kernel
theorem dX12_restore_0 : decode cX12_restore 0 = .ok (.iload_n 1, 1) := dz_27 (n := 0) (r := 0) hz_X12_restore_0 rfl
theorem dX12_restore_1 : decode cX12_restore 1 = .ok (.iconst 0, 1) := dz_3 (n := 0) (r := 1) hz_X12_restore_0 rfl
theorem dX12_restore_2 : decode cX12_restore 2 = .ok (.iconst 2, 1) := dz_5 (n := 0) (r := 2) hz_X12_restore_0 rfl
theorem dX12_restore_3 : decode cX12_restore 3 = .ok (.invokestatic 213, 3) := dz_184 (n := 0) (r := 3) hz_X12_restore_0 rfl rfl
theorem dX12_restore_6 : decode cX12_restore 6 = .ok (.ifCond .eq 12, 3) := dz_153 (n := 0) (r := 6) hz_X12_restore_0 rfl (by decide +kernel)
theorem dX12_restore_9 : decode cX12_restore 9 = .ok (.aload_n 0, 1) := dz_42 (n := 0) (r := 9) hz_X12_restore_0 rfl
theorem dX12_restore_10 : decode cX12_restore 10 = .ok (.getfield 52, 3) := dz_180 (n := 0) (r := 10) hz_X12_restore_0 rfl rfl
theorem dX12_restore_13 : decode cX12_restore 13 = .ok (.iload_n 1, 1) := dz_27 (n := 0) (r := 13) hz_X12_restore_0 rfl
theorem dX12_restore_14 : decode cX12_restore 14 = .ok (.baload, 1) := dz_51 (n := 0) (r := 14) hz_X12_restore_0 rfl
theorem dX12_restore_15 : decode cX12_restore 15 = .ok (.ifCond .ne 5, 3) := dz_154 (n := 0) (r := 15) hz_X12_restore_0 rfl (by decide +kernel)
theorem dX12_restore_18 : decode cX12_restore 18 = .ok (.iconst 0, 1) := dz_3 (n := 0) (r := 18) hz_X12_restore_0 rfl
theorem dX12_restore_19 : decode cX12_restore 19 = .ok (.ireturn, 1) := dz_172 (n := 0) (r := 19) hz_X12_restore_0 rfl
theorem dX12_restore_20 : decode cX12_restore 20 = .ok (.iconst 0, 1) := dz_3 (n := 0) (r := 20) hz_X12_restore_0 rfl
theorem dX12_restore_21 : decode cX12_restore 21 = .ok (.istore_n 2, 1) := dz_61 (n := 0) (r := 21) hz_X12_restore_0 rfl
theorem dX12_restore_22 : decode cX12_restore 22 = .ok (.iload_n 2, 1) := dz_28 (n := 0) (r := 22) hz_X12_restore_0 rfl
theorem dX12_restore_23 : decode cX12_restore 23 = .ok (.bipush 66, 2) := dz_16 (n := 0) (r := 23) hz_X12_restore_0 rfl rfl
theorem dX12_restore_25 : decode cX12_restore 25 = .ok (.if_icmp .ge 26, 3) := dz_162 (n := 0) (r := 25) hz_X12_restore_0 rfl (by decide +kernel)
theorem dX12_restore_28 : decode cX12_restore 28 = .ok (.aload_n 0, 1) := dz_42 (n := 0) (r := 28) hz_X12_restore_0 rfl
theorem dX12_restore_29 : decode cX12_restore 29 = .ok (.getfield 40, 3) := dz_180 (n := 0) (r := 29) hz_X12_restore_0 rfl rfl
theorem hz_X12_restore_32 : (cX12_restore.data.toList.drop 32).take 40 = [28, 42, 180, 0, 49, 16, 66, 27, 104, 28, 96, 46, 79, 132, 2, 1, 167, 255, 230, 42, 3, 181, 0, 197, 42, 3, 181, 0, 200, 4, 172] := by decide +kernel
theorem dX12_restore_32 : decode cX12_restore 32 = .ok (.iload_n 2, 1) := dz_28 (n := 32) (r := 0) hz_X12_restore_32 rfl
theorem dX12_restore_33 : decode cX12_restore 33 = .ok (.aload_n 0, 1) := dz_42 (n := 32) (r := 1) hz_X12_restore_32 rfl
theorem dX12_restore_34 : decode cX12_restore 34 = .ok (.getfield 49, 3) := dz_180 (n := 32) (r := 2) hz_X12_restore_32 rfl rfl
theorem dX12_restore_37 : decode cX12_restore 37 = .ok (.bipush 66, 2) := dz_16 (n := 32) (r := 5) hz_X12_restore_32 rfl rfl
theorem dX12_restore_39 : decode cX12_restore 39 = .ok (.iload_n 1, 1) := dz_27 (n := 32) (r := 7) hz_X12_restore_32 rfl
theorem dX12_restore_40 : decode cX12_restore 40 = .ok (.imul, 1) := dz_104 (n := 32) (r := 8) hz_X12_restore_32 rfl
theorem dX12_restore_41 : decode cX12_restore 41 = .ok (.iload_n 2, 1) := dz_28 (n := 32) (r := 9) hz_X12_restore_32 rfl
theorem dX12_restore_42 : decode cX12_restore 42 = .ok (.iadd, 1) := dz_96 (n := 32) (r := 10) hz_X12_restore_32 rfl
theorem dX12_restore_43 : decode cX12_restore 43 = .ok (.iaload, 1) := dz_46 (n := 32) (r := 11) hz_X12_restore_32 rfl
theorem dX12_restore_44 : decode cX12_restore 44 = .ok (.iastore, 1) := dz_79 (n := 32) (r := 12) hz_X12_restore_32 rfl
theorem dX12_restore_45 : decode cX12_restore 45 = .ok (.iinc 2 1, 3) := dz_132 (n := 32) (r := 13) hz_X12_restore_32 rfl rfl rfl
theorem dX12_restore_48 : decode cX12_restore 48 = .ok (.goto (-26), 3) := dz_167 (n := 32) (r := 16) hz_X12_restore_32 rfl (by decide +kernel)
theorem dX12_restore_51 : decode cX12_restore 51 = .ok (.aload_n 0, 1) := dz_42 (n := 32) (r := 19) hz_X12_restore_32 rfl
theorem dX12_restore_52 : decode cX12_restore 52 = .ok (.iconst 0, 1) := dz_3 (n := 32) (r := 20) hz_X12_restore_32 rfl
theorem dX12_restore_53 : decode cX12_restore 53 = .ok (.putfield 197, 3) := dz_181 (n := 32) (r := 21) hz_X12_restore_32 rfl rfl
theorem dX12_restore_56 : decode cX12_restore 56 = .ok (.aload_n 0, 1) := dz_42 (n := 32) (r := 24) hz_X12_restore_32 rfl
theorem dX12_restore_57 : decode cX12_restore 57 = .ok (.iconst 0, 1) := dz_3 (n := 32) (r := 25) hz_X12_restore_32 rfl
theorem dX12_restore_58 : decode cX12_restore 58 = .ok (.putfield 200, 3) := dz_181 (n := 32) (r := 26) hz_X12_restore_32 rfl rfl
theorem dX12_restore_61 : decode cX12_restore 61 = .ok (.iconst 1, 1) := dz_4 (n := 32) (r := 29) hz_X12_restore_32 rfl
theorem dX12_restore_62 : decode cX12_restore 62 = .ok (.ireturn, 1) := dz_172 (n := 32) (r := 30) hz_X12_restore_32 rfl
theorem hz_X12_energy_0 : (cX12_energy.data.toList.drop 0).take 40 = [3, 54, 4, 3, 54, 5, 21, 5, 42, 180, 0, 171, 29, 104, 162, 0, 169, 28, 21, 5, 122, 4, 126, 54, 6, 21, 4, 21, 6, 4, 160, 0, 14, 43, 16, 32, 21, 5, 96, 46] := by decide +kernel
theorem dX12_energy_0 : decode cX12_energy 0 = .ok (.iconst 0, 1) := dz_3 (n := 0) (r := 0) hz_X12_energy_0 rfl
theorem dX12_energy_1 : decode cX12_energy 1 = .ok (.istore 4, 2) := dz_54 (n := 0) (r := 1) hz_X12_energy_0 rfl rfl
theorem dX12_energy_3 : decode cX12_energy 3 = .ok (.iconst 0, 1) := dz_3 (n := 0) (r := 3) hz_X12_energy_0 rfl
theorem dX12_energy_4 : decode cX12_energy 4 = .ok (.istore 5, 2) := dz_54 (n := 0) (r := 4) hz_X12_energy_0 rfl rfl
theorem dX12_energy_6 : decode cX12_energy 6 = .ok (.iload 5, 2) := dz_21 (n := 0) (r := 6) hz_X12_energy_0 rfl rfl
theorem dX12_energy_8 : decode cX12_energy 8 = .ok (.aload_n 0, 1) := dz_42 (n := 0) (r := 8) hz_X12_energy_0 rfl
theorem dX12_energy_9 : decode cX12_energy 9 = .ok (.getfield 171, 3) := dz_180 (n := 0) (r := 9) hz_X12_energy_0 rfl rfl
theorem dX12_energy_12 : decode cX12_energy 12 = .ok (.iload_n 3, 1) := dz_29 (n := 0) (r := 12) hz_X12_energy_0 rfl
theorem dX12_energy_13 : decode cX12_energy 13 = .ok (.imul, 1) := dz_104 (n := 0) (r := 13) hz_X12_energy_0 rfl
theorem dX12_energy_14 : decode cX12_energy 14 = .ok (.if_icmp .ge 169, 3) := dz_162 (n := 0) (r := 14) hz_X12_energy_0 rfl (by decide +kernel)
theorem dX12_energy_17 : decode cX12_energy 17 = .ok (.iload_n 2, 1) := dz_28 (n := 0) (r := 17) hz_X12_energy_0 rfl
theorem dX12_energy_18 : decode cX12_energy 18 = .ok (.iload 5, 2) := dz_21 (n := 0) (r := 18) hz_X12_energy_0 rfl rfl
theorem dX12_energy_20 : decode cX12_energy 20 = .ok (.ishr, 1) := dz_122 (n := 0) (r := 20) hz_X12_energy_0 rfl
theorem dX12_energy_21 : decode cX12_energy 21 = .ok (.iconst 1, 1) := dz_4 (n := 0) (r := 21) hz_X12_energy_0 rfl
theorem dX12_energy_22 : decode cX12_energy 22 = .ok (.iand, 1) := dz_126 (n := 0) (r := 22) hz_X12_energy_0 rfl
theorem dX12_energy_23 : decode cX12_energy 23 = .ok (.istore 6, 2) := dz_54 (n := 0) (r := 23) hz_X12_energy_0 rfl rfl
theorem dX12_energy_25 : decode cX12_energy 25 = .ok (.iload 4, 2) := dz_21 (n := 0) (r := 25) hz_X12_energy_0 rfl rfl
theorem dX12_energy_27 : decode cX12_energy 27 = .ok (.iload 6, 2) := dz_21 (n := 0) (r := 27) hz_X12_energy_0 rfl rfl
theorem dX12_energy_29 : decode cX12_energy 29 = .ok (.iconst 1, 1) := dz_4 (n := 0) (r := 29) hz_X12_energy_0 rfl
theorem dX12_energy_30 : decode cX12_energy 30 = .ok (.if_icmp .ne 14, 3) := dz_160 (n := 0) (r := 30) hz_X12_energy_0 rfl (by decide +kernel)
theorem hz_X12_energy_32 : (cX12_energy.data.toList.drop 32).take 40 = [14, 43, 16, 32, 21, 5, 96, 46, 116, 167, 0, 10, 43, 16, 32, 21, 5, 96, 46, 96, 54, 4, 42, 21, 5, 3, 182, 0, 236, 54, 7, 21, 7, 155, 0, 35, 21, 4, 28, 21] := by decide +kernel
theorem dX12_energy_33 : decode cX12_energy 33 = .ok (.aload_n 1, 1) := dz_43 (n := 32) (r := 1) hz_X12_energy_32 rfl
theorem dX12_energy_34 : decode cX12_energy 34 = .ok (.bipush 32, 2) := dz_16 (n := 32) (r := 2) hz_X12_energy_32 rfl rfl
theorem dX12_energy_36 : decode cX12_energy 36 = .ok (.iload 5, 2) := dz_21 (n := 32) (r := 4) hz_X12_energy_32 rfl rfl
theorem dX12_energy_38 : decode cX12_energy 38 = .ok (.iadd, 1) := dz_96 (n := 32) (r := 6) hz_X12_energy_32 rfl
theorem dX12_energy_39 : decode cX12_energy 39 = .ok (.iaload, 1) := dz_46 (n := 32) (r := 7) hz_X12_energy_32 rfl
theorem dX12_energy_40 : decode cX12_energy 40 = .ok (.ineg, 1) := dz_116 (n := 32) (r := 8) hz_X12_energy_32 rfl
theorem dX12_energy_41 : decode cX12_energy 41 = .ok (.goto 10, 3) := dz_167 (n := 32) (r := 9) hz_X12_energy_32 rfl (by decide +kernel)
theorem dX12_energy_44 : decode cX12_energy 44 = .ok (.aload_n 1, 1) := dz_43 (n := 32) (r := 12) hz_X12_energy_32 rfl
theorem dX12_energy_45 : decode cX12_energy 45 = .ok (.bipush 32, 2) := dz_16 (n := 32) (r := 13) hz_X12_energy_32 rfl rfl
theorem dX12_energy_47 : decode cX12_energy 47 = .ok (.iload 5, 2) := dz_21 (n := 32) (r := 15) hz_X12_energy_32 rfl rfl
theorem dX12_energy_49 : decode cX12_energy 49 = .ok (.iadd, 1) := dz_96 (n := 32) (r := 17) hz_X12_energy_32 rfl
theorem dX12_energy_50 : decode cX12_energy 50 = .ok (.iaload, 1) := dz_46 (n := 32) (r := 18) hz_X12_energy_32 rfl
theorem dX12_energy_51 : decode cX12_energy 51 = .ok (.iadd, 1) := dz_96 (n := 32) (r := 19) hz_X12_energy_32 rfl
theorem dX12_energy_52 : decode cX12_energy 52 = .ok (.istore 4, 2) := dz_54 (n := 32) (r := 20) hz_X12_energy_32 rfl rfl
theorem dX12_energy_54 : decode cX12_energy 54 = .ok (.aload_n 0, 1) := dz_42 (n := 32) (r := 22) hz_X12_energy_32 rfl
theorem dX12_energy_55 : decode cX12_energy 55 = .ok (.iload 5, 2) := dz_21 (n := 32) (r := 23) hz_X12_energy_32 rfl rfl
theorem dX12_energy_57 : decode cX12_energy 57 = .ok (.iconst 0, 1) := dz_3 (n := 32) (r := 25) hz_X12_energy_32 rfl
theorem dX12_energy_58 : decode cX12_energy 58 = .ok (.invokevirtual 236, 3) := dz_182 (n := 32) (r := 26) hz_X12_energy_32 rfl rfl
theorem dX12_energy_61 : decode cX12_energy 61 = .ok (.istore 7, 2) := dz_54 (n := 32) (r := 29) hz_X12_energy_32 rfl rfl
theorem dX12_energy_63 : decode cX12_energy 63 = .ok (.iload 7, 2) := dz_21 (n := 32) (r := 31) hz_X12_energy_32 rfl rfl
theorem hz_X12_energy_64 : (cX12_energy.data.toList.drop 64).take 40 = [7, 155, 0, 35, 21, 4, 28, 21, 7, 122, 4, 126, 21, 6, 160, 0, 13, 43, 3, 21, 5, 96, 46, 116, 167, 0, 9, 43, 3, 21, 5, 96, 46, 96, 54, 4, 42, 21, 5, 4] := by decide +kernel
theorem dX12_energy_65 : decode cX12_energy 65 = .ok (.ifCond .lt 35, 3) := dz_155 (n := 64) (r := 1) hz_X12_energy_64 rfl (by decide +kernel)
theorem dX12_energy_68 : decode cX12_energy 68 = .ok (.iload 4, 2) := dz_21 (n := 64) (r := 4) hz_X12_energy_64 rfl rfl
theorem dX12_energy_70 : decode cX12_energy 70 = .ok (.iload_n 2, 1) := dz_28 (n := 64) (r := 6) hz_X12_energy_64 rfl
theorem dX12_energy_71 : decode cX12_energy 71 = .ok (.iload 7, 2) := dz_21 (n := 64) (r := 7) hz_X12_energy_64 rfl rfl
theorem dX12_energy_73 : decode cX12_energy 73 = .ok (.ishr, 1) := dz_122 (n := 64) (r := 9) hz_X12_energy_64 rfl
theorem dX12_energy_74 : decode cX12_energy 74 = .ok (.iconst 1, 1) := dz_4 (n := 64) (r := 10) hz_X12_energy_64 rfl
theorem dX12_energy_75 : decode cX12_energy 75 = .ok (.iand, 1) := dz_126 (n := 64) (r := 11) hz_X12_energy_64 rfl
theorem dX12_energy_76 : decode cX12_energy 76 = .ok (.iload 6, 2) := dz_21 (n := 64) (r := 12) hz_X12_energy_64 rfl rfl
theorem dX12_energy_78 : decode cX12_energy 78 = .ok (.if_icmp .ne 13, 3) := dz_160 (n := 64) (r := 14) hz_X12_energy_64 rfl (by decide +kernel)
theorem dX12_energy_81 : decode cX12_energy 81 = .ok (.aload_n 1, 1) := dz_43 (n := 64) (r := 17) hz_X12_energy_64 rfl
theorem dX12_energy_82 : decode cX12_energy 82 = .ok (.iconst 0, 1) := dz_3 (n := 64) (r := 18) hz_X12_energy_64 rfl
theorem dX12_energy_83 : decode cX12_energy 83 = .ok (.iload 5, 2) := dz_21 (n := 64) (r := 19) hz_X12_energy_64 rfl rfl
theorem dX12_energy_85 : decode cX12_energy 85 = .ok (.iadd, 1) := dz_96 (n := 64) (r := 21) hz_X12_energy_64 rfl
theorem dX12_energy_86 : decode cX12_energy 86 = .ok (.iaload, 1) := dz_46 (n := 64) (r := 22) hz_X12_energy_64 rfl
theorem dX12_energy_87 : decode cX12_energy 87 = .ok (.ineg, 1) := dz_116 (n := 64) (r := 23) hz_X12_energy_64 rfl
theorem dX12_energy_88 : decode cX12_energy 88 = .ok (.goto 9, 3) := dz_167 (n := 64) (r := 24) hz_X12_energy_64 rfl (by decide +kernel)
theorem dX12_energy_91 : decode cX12_energy 91 = .ok (.aload_n 1, 1) := dz_43 (n := 64) (r := 27) hz_X12_energy_64 rfl
theorem dX12_energy_92 : decode cX12_energy 92 = .ok (.iconst 0, 1) := dz_3 (n := 64) (r := 28) hz_X12_energy_64 rfl
theorem dX12_energy_93 : decode cX12_energy 93 = .ok (.iload 5, 2) := dz_21 (n := 64) (r := 29) hz_X12_energy_64 rfl rfl
theorem dX12_energy_95 : decode cX12_energy 95 = .ok (.iadd, 1) := dz_96 (n := 64) (r := 31) hz_X12_energy_64 rfl
theorem hz_X12_energy_96 : (cX12_energy.data.toList.drop 96).take 40 = [46, 96, 54, 4, 42, 21, 5, 4, 182, 0, 236, 54, 7, 21, 7, 155, 0, 66, 21, 7, 21, 5, 164, 0, 17, 21, 7, 42, 180, 0, 171, 29, 104, 162, 0, 48, 167, 0, 11, 29] := by decide +kernel
theorem dX12_energy_96 : decode cX12_energy 96 = .ok (.iaload, 1) := dz_46 (n := 96) (r := 0) hz_X12_energy_96 rfl
theorem dX12_energy_97 : decode cX12_energy 97 = .ok (.iadd, 1) := dz_96 (n := 96) (r := 1) hz_X12_energy_96 rfl
theorem dX12_energy_98 : decode cX12_energy 98 = .ok (.istore 4, 2) := dz_54 (n := 96) (r := 2) hz_X12_energy_96 rfl rfl
theorem dX12_energy_100 : decode cX12_energy 100 = .ok (.aload_n 0, 1) := dz_42 (n := 96) (r := 4) hz_X12_energy_96 rfl
theorem dX12_energy_101 : decode cX12_energy 101 = .ok (.iload 5, 2) := dz_21 (n := 96) (r := 5) hz_X12_energy_96 rfl rfl
theorem dX12_energy_103 : decode cX12_energy 103 = .ok (.iconst 1, 1) := dz_4 (n := 96) (r := 7) hz_X12_energy_96 rfl
theorem dX12_energy_104 : decode cX12_energy 104 = .ok (.invokevirtual 236, 3) := dz_182 (n := 96) (r := 8) hz_X12_energy_96 rfl rfl
theorem dX12_energy_107 : decode cX12_energy 107 = .ok (.istore 7, 2) := dz_54 (n := 96) (r := 11) hz_X12_energy_96 rfl rfl
theorem dX12_energy_109 : decode cX12_energy 109 = .ok (.iload 7, 2) := dz_21 (n := 96) (r := 13) hz_X12_energy_96 rfl rfl
theorem dX12_energy_111 : decode cX12_energy 111 = .ok (.ifCond .lt 66, 3) := dz_155 (n := 96) (r := 15) hz_X12_energy_96 rfl (by decide +kernel)
theorem dX12_energy_114 : decode cX12_energy 114 = .ok (.iload 7, 2) := dz_21 (n := 96) (r := 18) hz_X12_energy_96 rfl rfl
theorem dX12_energy_116 : decode cX12_energy 116 = .ok (.iload 5, 2) := dz_21 (n := 96) (r := 20) hz_X12_energy_96 rfl rfl
theorem dX12_energy_118 : decode cX12_energy 118 = .ok (.if_icmp .le 17, 3) := dz_164 (n := 96) (r := 22) hz_X12_energy_96 rfl (by decide +kernel)
theorem dX12_energy_121 : decode cX12_energy 121 = .ok (.iload 7, 2) := dz_21 (n := 96) (r := 25) hz_X12_energy_96 rfl rfl
theorem dX12_energy_123 : decode cX12_energy 123 = .ok (.aload_n 0, 1) := dz_42 (n := 96) (r := 27) hz_X12_energy_96 rfl
theorem dX12_energy_124 : decode cX12_energy 124 = .ok (.getfield 171, 3) := dz_180 (n := 96) (r := 28) hz_X12_energy_96 rfl rfl
theorem dX12_energy_127 : decode cX12_energy 127 = .ok (.iload_n 3, 1) := dz_29 (n := 96) (r := 31) hz_X12_energy_96 rfl
theorem hz_X12_energy_128 : (cX12_energy.data.toList.drop 128).take 40 = [104, 162, 0, 48, 167, 0, 11, 29, 42, 180, 0, 177, 160, 0, 37, 21, 4, 28, 21, 7, 122, 4, 126, 21, 6, 160, 0, 14, 43, 16, 16, 21, 5, 96, 46, 116, 167, 0, 10, 43] := by decide +kernel
theorem dX12_energy_128 : decode cX12_energy 128 = .ok (.imul, 1) := dz_104 (n := 128) (r := 0) hz_X12_energy_128 rfl
theorem dX12_energy_129 : decode cX12_energy 129 = .ok (.if_icmp .ge 48, 3) := dz_162 (n := 128) (r := 1) hz_X12_energy_128 rfl (by decide +kernel)
theorem dX12_energy_132 : decode cX12_energy 132 = .ok (.goto 11, 3) := dz_167 (n := 128) (r := 4) hz_X12_energy_128 rfl (by decide +kernel)
theorem dX12_energy_135 : decode cX12_energy 135 = .ok (.iload_n 3, 1) := dz_29 (n := 128) (r := 7) hz_X12_energy_128 rfl
theorem dX12_energy_136 : decode cX12_energy 136 = .ok (.aload_n 0, 1) := dz_42 (n := 128) (r := 8) hz_X12_energy_128 rfl
theorem dX12_energy_137 : decode cX12_energy 137 = .ok (.getfield 177, 3) := dz_180 (n := 128) (r := 9) hz_X12_energy_128 rfl rfl
theorem dX12_energy_140 : decode cX12_energy 140 = .ok (.if_icmp .ne 37, 3) := dz_160 (n := 128) (r := 12) hz_X12_energy_128 rfl (by decide +kernel)
theorem dX12_energy_143 : decode cX12_energy 143 = .ok (.iload 4, 2) := dz_21 (n := 128) (r := 15) hz_X12_energy_128 rfl rfl
theorem dX12_energy_145 : decode cX12_energy 145 = .ok (.iload_n 2, 1) := dz_28 (n := 128) (r := 17) hz_X12_energy_128 rfl
theorem dX12_energy_146 : decode cX12_energy 146 = .ok (.iload 7, 2) := dz_21 (n := 128) (r := 18) hz_X12_energy_128 rfl rfl
theorem dX12_energy_148 : decode cX12_energy 148 = .ok (.ishr, 1) := dz_122 (n := 128) (r := 20) hz_X12_energy_128 rfl
theorem dX12_energy_149 : decode cX12_energy 149 = .ok (.iconst 1, 1) := dz_4 (n := 128) (r := 21) hz_X12_energy_128 rfl
theorem dX12_energy_150 : decode cX12_energy 150 = .ok (.iand, 1) := dz_126 (n := 128) (r := 22) hz_X12_energy_128 rfl
theorem dX12_energy_151 : decode cX12_energy 151 = .ok (.iload 6, 2) := dz_21 (n := 128) (r := 23) hz_X12_energy_128 rfl rfl
theorem dX12_energy_153 : decode cX12_energy 153 = .ok (.if_icmp .ne 14, 3) := dz_160 (n := 128) (r := 25) hz_X12_energy_128 rfl (by decide +kernel)
theorem dX12_energy_156 : decode cX12_energy 156 = .ok (.aload_n 1, 1) := dz_43 (n := 128) (r := 28) hz_X12_energy_128 rfl
theorem dX12_energy_157 : decode cX12_energy 157 = .ok (.bipush 16, 2) := dz_16 (n := 128) (r := 29) hz_X12_energy_128 rfl rfl
theorem dX12_energy_159 : decode cX12_energy 159 = .ok (.iload 5, 2) := dz_21 (n := 128) (r := 31) hz_X12_energy_128 rfl rfl
theorem hz_X12_energy_160 : (cX12_energy.data.toList.drop 160).take 40 = [5, 96, 46, 116, 167, 0, 10, 43, 16, 16, 21, 5, 96, 46, 96, 54, 4, 132, 5, 1, 167, 255, 82, 21, 4, 172] := by decide +kernel
theorem dX12_energy_161 : decode cX12_energy 161 = .ok (.iadd, 1) := dz_96 (n := 160) (r := 1) hz_X12_energy_160 rfl
theorem dX12_energy_162 : decode cX12_energy 162 = .ok (.iaload, 1) := dz_46 (n := 160) (r := 2) hz_X12_energy_160 rfl
theorem dX12_energy_163 : decode cX12_energy 163 = .ok (.ineg, 1) := dz_116 (n := 160) (r := 3) hz_X12_energy_160 rfl
theorem dX12_energy_164 : decode cX12_energy 164 = .ok (.goto 10, 3) := dz_167 (n := 160) (r := 4) hz_X12_energy_160 rfl (by decide +kernel)
theorem dX12_energy_167 : decode cX12_energy 167 = .ok (.aload_n 1, 1) := dz_43 (n := 160) (r := 7) hz_X12_energy_160 rfl
theorem dX12_energy_168 : decode cX12_energy 168 = .ok (.bipush 16, 2) := dz_16 (n := 160) (r := 8) hz_X12_energy_160 rfl rfl
theorem dX12_energy_170 : decode cX12_energy 170 = .ok (.iload 5, 2) := dz_21 (n := 160) (r := 10) hz_X12_energy_160 rfl rfl
theorem dX12_energy_172 : decode cX12_energy 172 = .ok (.iadd, 1) := dz_96 (n := 160) (r := 12) hz_X12_energy_160 rfl
theorem dX12_energy_173 : decode cX12_energy 173 = .ok (.iaload, 1) := dz_46 (n := 160) (r := 13) hz_X12_energy_160 rfl
theorem dX12_energy_174 : decode cX12_energy 174 = .ok (.iadd, 1) := dz_96 (n := 160) (r := 14) hz_X12_energy_160 rfl
theorem dX12_energy_175 : decode cX12_energy 175 = .ok (.istore 4, 2) := dz_54 (n := 160) (r := 15) hz_X12_energy_160 rfl rfl
theorem dX12_energy_177 : decode cX12_energy 177 = .ok (.iinc 5 1, 3) := dz_132 (n := 160) (r := 17) hz_X12_energy_160 rfl rfl rfl
theorem dX12_energy_180 : decode cX12_energy 180 = .ok (.goto (-174), 3) := dz_167 (n := 160) (r := 20) hz_X12_energy_160 rfl (by decide +kernel)
theorem dX12_energy_183 : decode cX12_energy 183 = .ok (.iload 4, 2) := dz_21 (n := 160) (r := 23) hz_X12_energy_160 rfl rfl
theorem dX12_energy_185 : decode cX12_energy 185 = .ok (.ireturn, 1) := dz_172 (n := 160) (r := 25) hz_X12_energy_160 rfl
theorem hz_X12_isLawfulBy_0 : (cX12_isLawfulBy.data.toList.drop 0).take 40 = [3, 62, 29, 28, 162, 0, 36, 42, 16, 48, 29, 96, 46, 158, 0, 21, 27, 29, 122, 4, 126, 5, 42, 16, 48, 29, 96, 46, 100, 159, 0, 5, 3, 172, 132, 3, 1, 167, 255, 221] := by decide +kernel
theorem dX12_isLawfulBy_0 : decode cX12_isLawfulBy 0 = .ok (.iconst 0, 1) := dz_3 (n := 0) (r := 0) hz_X12_isLawfulBy_0 rfl
theorem dX12_isLawfulBy_1 : decode cX12_isLawfulBy 1 = .ok (.istore_n 3, 1) := dz_62 (n := 0) (r := 1) hz_X12_isLawfulBy_0 rfl
theorem dX12_isLawfulBy_2 : decode cX12_isLawfulBy 2 = .ok (.iload_n 3, 1) := dz_29 (n := 0) (r := 2) hz_X12_isLawfulBy_0 rfl
theorem dX12_isLawfulBy_3 : decode cX12_isLawfulBy 3 = .ok (.iload_n 2, 1) := dz_28 (n := 0) (r := 3) hz_X12_isLawfulBy_0 rfl
theorem dX12_isLawfulBy_4 : decode cX12_isLawfulBy 4 = .ok (.if_icmp .ge 36, 3) := dz_162 (n := 0) (r := 4) hz_X12_isLawfulBy_0 rfl (by decide +kernel)
theorem dX12_isLawfulBy_7 : decode cX12_isLawfulBy 7 = .ok (.aload_n 0, 1) := dz_42 (n := 0) (r := 7) hz_X12_isLawfulBy_0 rfl
theorem dX12_isLawfulBy_8 : decode cX12_isLawfulBy 8 = .ok (.bipush 48, 2) := dz_16 (n := 0) (r := 8) hz_X12_isLawfulBy_0 rfl rfl
theorem dX12_isLawfulBy_10 : decode cX12_isLawfulBy 10 = .ok (.iload_n 3, 1) := dz_29 (n := 0) (r := 10) hz_X12_isLawfulBy_0 rfl
theorem dX12_isLawfulBy_11 : decode cX12_isLawfulBy 11 = .ok (.iadd, 1) := dz_96 (n := 0) (r := 11) hz_X12_isLawfulBy_0 rfl
theorem dX12_isLawfulBy_12 : decode cX12_isLawfulBy 12 = .ok (.iaload, 1) := dz_46 (n := 0) (r := 12) hz_X12_isLawfulBy_0 rfl
theorem dX12_isLawfulBy_13 : decode cX12_isLawfulBy 13 = .ok (.ifCond .le 21, 3) := dz_158 (n := 0) (r := 13) hz_X12_isLawfulBy_0 rfl (by decide +kernel)
theorem dX12_isLawfulBy_16 : decode cX12_isLawfulBy 16 = .ok (.iload_n 1, 1) := dz_27 (n := 0) (r := 16) hz_X12_isLawfulBy_0 rfl
theorem dX12_isLawfulBy_17 : decode cX12_isLawfulBy 17 = .ok (.iload_n 3, 1) := dz_29 (n := 0) (r := 17) hz_X12_isLawfulBy_0 rfl
theorem dX12_isLawfulBy_18 : decode cX12_isLawfulBy 18 = .ok (.ishr, 1) := dz_122 (n := 0) (r := 18) hz_X12_isLawfulBy_0 rfl
theorem dX12_isLawfulBy_19 : decode cX12_isLawfulBy 19 = .ok (.iconst 1, 1) := dz_4 (n := 0) (r := 19) hz_X12_isLawfulBy_0 rfl
theorem dX12_isLawfulBy_20 : decode cX12_isLawfulBy 20 = .ok (.iand, 1) := dz_126 (n := 0) (r := 20) hz_X12_isLawfulBy_0 rfl
theorem dX12_isLawfulBy_21 : decode cX12_isLawfulBy 21 = .ok (.iconst 2, 1) := dz_5 (n := 0) (r := 21) hz_X12_isLawfulBy_0 rfl
theorem dX12_isLawfulBy_22 : decode cX12_isLawfulBy 22 = .ok (.aload_n 0, 1) := dz_42 (n := 0) (r := 22) hz_X12_isLawfulBy_0 rfl
theorem dX12_isLawfulBy_23 : decode cX12_isLawfulBy 23 = .ok (.bipush 48, 2) := dz_16 (n := 0) (r := 23) hz_X12_isLawfulBy_0 rfl rfl
theorem dX12_isLawfulBy_25 : decode cX12_isLawfulBy 25 = .ok (.iload_n 3, 1) := dz_29 (n := 0) (r := 25) hz_X12_isLawfulBy_0 rfl
theorem dX12_isLawfulBy_26 : decode cX12_isLawfulBy 26 = .ok (.iadd, 1) := dz_96 (n := 0) (r := 26) hz_X12_isLawfulBy_0 rfl
theorem dX12_isLawfulBy_27 : decode cX12_isLawfulBy 27 = .ok (.iaload, 1) := dz_46 (n := 0) (r := 27) hz_X12_isLawfulBy_0 rfl
theorem dX12_isLawfulBy_28 : decode cX12_isLawfulBy 28 = .ok (.isub, 1) := dz_100 (n := 0) (r := 28) hz_X12_isLawfulBy_0 rfl
theorem dX12_isLawfulBy_29 : decode cX12_isLawfulBy 29 = .ok (.if_icmp .eq 5, 3) := dz_159 (n := 0) (r := 29) hz_X12_isLawfulBy_0 rfl (by decide +kernel)
theorem hz_X12_isLawfulBy_32 : (cX12_isLawfulBy.data.toList.drop 32).take 40 = [3, 172, 132, 3, 1, 167, 255, 221, 4, 172] := by decide +kernel
theorem dX12_isLawfulBy_32 : decode cX12_isLawfulBy 32 = .ok (.iconst 0, 1) := dz_3 (n := 32) (r := 0) hz_X12_isLawfulBy_32 rfl
theorem dX12_isLawfulBy_33 : decode cX12_isLawfulBy 33 = .ok (.ireturn, 1) := dz_172 (n := 32) (r := 1) hz_X12_isLawfulBy_32 rfl
theorem dX12_isLawfulBy_34 : decode cX12_isLawfulBy 34 = .ok (.iinc 3 1, 3) := dz_132 (n := 32) (r := 2) hz_X12_isLawfulBy_32 rfl rfl rfl
theorem dX12_isLawfulBy_37 : decode cX12_isLawfulBy 37 = .ok (.goto (-35), 3) := dz_167 (n := 32) (r := 5) hz_X12_isLawfulBy_32 rfl (by decide +kernel)
theorem dX12_isLawfulBy_40 : decode cX12_isLawfulBy 40 = .ok (.iconst 1, 1) := dz_4 (n := 32) (r := 8) hz_X12_isLawfulBy_32 rfl
theorem dX12_isLawfulBy_41 : decode cX12_isLawfulBy 41 = .ok (.ireturn, 1) := dz_172 (n := 32) (r := 9) hz_X12_isLawfulBy_32 rfl
theorem hz_X12_states_0 : (cX12_states.data.toList.drop 0).take 40 = [42, 182, 0, 193, 154, 0, 7, 3, 167, 0, 9, 4, 42, 182, 0, 193, 120, 172] := by decide +kernel
theorem dX12_states_0 : decode cX12_states 0 = .ok (.aload_n 0, 1) := dz_42 (n := 0) (r := 0) hz_X12_states_0 rfl
theorem dX12_states_1 : decode cX12_states 1 = .ok (.invokevirtual 193, 3) := dz_182 (n := 0) (r := 1) hz_X12_states_0 rfl rfl
theorem dX12_states_4 : decode cX12_states 4 = .ok (.ifCond .ne 7, 3) := dz_154 (n := 0) (r := 4) hz_X12_states_0 rfl (by decide +kernel)
theorem dX12_states_7 : decode cX12_states 7 = .ok (.iconst 0, 1) := dz_3 (n := 0) (r := 7) hz_X12_states_0 rfl
theorem dX12_states_8 : decode cX12_states 8 = .ok (.goto 9, 3) := dz_167 (n := 0) (r := 8) hz_X12_states_0 rfl (by decide +kernel)
theorem dX12_states_11 : decode cX12_states 11 = .ok (.iconst 1, 1) := dz_4 (n := 0) (r := 11) hz_X12_states_0 rfl
theorem dX12_states_12 : decode cX12_states 12 = .ok (.aload_n 0, 1) := dz_42 (n := 0) (r := 12) hz_X12_states_0 rfl
theorem dX12_states_13 : decode cX12_states 13 = .ok (.invokevirtual 193, 3) := dz_182 (n := 0) (r := 13) hz_X12_states_0 rfl rfl
theorem dX12_states_16 : decode cX12_states 16 = .ok (.ishl, 1) := dz_120 (n := 0) (r := 16) hz_X12_states_0 rfl
theorem dX12_states_17 : decode cX12_states 17 = .ok (.ireturn, 1) := dz_172 (n := 0) (r := 17) hz_X12_states_0 rfl
theorem hz_X12_isLawful_0 : (cX12_isLawful.data.toList.drop 0).take 40 = [27, 3, 42, 182, 1, 14, 4, 100, 184, 0, 213, 153, 0, 22, 42, 180, 0, 40, 27, 42, 182, 0, 193, 184, 1, 17, 153, 0, 7, 4, 167, 0, 4, 3, 172] := by decide +kernel
theorem dX12_isLawful_0 : decode cX12_isLawful 0 = .ok (.iload_n 1, 1) := dz_27 (n := 0) (r := 0) hz_X12_isLawful_0 rfl
theorem dX12_isLawful_1 : decode cX12_isLawful 1 = .ok (.iconst 0, 1) := dz_3 (n := 0) (r := 1) hz_X12_isLawful_0 rfl
theorem dX12_isLawful_2 : decode cX12_isLawful 2 = .ok (.aload_n 0, 1) := dz_42 (n := 0) (r := 2) hz_X12_isLawful_0 rfl
theorem dX12_isLawful_3 : decode cX12_isLawful 3 = .ok (.invokevirtual 270, 3) := dz_182 (n := 0) (r := 3) hz_X12_isLawful_0 rfl rfl
theorem dX12_isLawful_6 : decode cX12_isLawful 6 = .ok (.iconst 1, 1) := dz_4 (n := 0) (r := 6) hz_X12_isLawful_0 rfl
theorem dX12_isLawful_7 : decode cX12_isLawful 7 = .ok (.isub, 1) := dz_100 (n := 0) (r := 7) hz_X12_isLawful_0 rfl
theorem dX12_isLawful_8 : decode cX12_isLawful 8 = .ok (.invokestatic 213, 3) := dz_184 (n := 0) (r := 8) hz_X12_isLawful_0 rfl rfl
theorem dX12_isLawful_11 : decode cX12_isLawful 11 = .ok (.ifCond .eq 22, 3) := dz_153 (n := 0) (r := 11) hz_X12_isLawful_0 rfl (by decide +kernel)
theorem dX12_isLawful_14 : decode cX12_isLawful 14 = .ok (.aload_n 0, 1) := dz_42 (n := 0) (r := 14) hz_X12_isLawful_0 rfl
theorem dX12_isLawful_15 : decode cX12_isLawful 15 = .ok (.getfield 40, 3) := dz_180 (n := 0) (r := 15) hz_X12_isLawful_0 rfl rfl
theorem dX12_isLawful_18 : decode cX12_isLawful 18 = .ok (.iload_n 1, 1) := dz_27 (n := 0) (r := 18) hz_X12_isLawful_0 rfl
theorem dX12_isLawful_19 : decode cX12_isLawful 19 = .ok (.aload_n 0, 1) := dz_42 (n := 0) (r := 19) hz_X12_isLawful_0 rfl
theorem dX12_isLawful_20 : decode cX12_isLawful 20 = .ok (.invokevirtual 193, 3) := dz_182 (n := 0) (r := 20) hz_X12_isLawful_0 rfl rfl
theorem dX12_isLawful_23 : decode cX12_isLawful 23 = .ok (.invokestatic 273, 3) := dz_184 (n := 0) (r := 23) hz_X12_isLawful_0 rfl rfl
theorem dX12_isLawful_26 : decode cX12_isLawful 26 = .ok (.ifCond .eq 7, 3) := dz_153 (n := 0) (r := 26) hz_X12_isLawful_0 rfl (by decide +kernel)
theorem dX12_isLawful_29 : decode cX12_isLawful 29 = .ok (.iconst 1, 1) := dz_4 (n := 0) (r := 29) hz_X12_isLawful_0 rfl
theorem dX12_isLawful_30 : decode cX12_isLawful 30 = .ok (.goto 4, 3) := dz_167 (n := 0) (r := 30) hz_X12_isLawful_0 rfl (by decide +kernel)
theorem hz_X12_isLawful_32 : (cX12_isLawful.data.toList.drop 32).take 40 = [4, 3, 172] := by decide +kernel
theorem dX12_isLawful_33 : decode cX12_isLawful 33 = .ok (.iconst 0, 1) := dz_3 (n := 32) (r := 1) hz_X12_isLawful_32 rfl
theorem dX12_isLawful_34 : decode cX12_isLawful 34 = .ok (.ireturn, 1) := dz_172 (n := 32) (r := 2) hz_X12_isLawful_32 rfl
theorem hz_X12_laysMany_0 : (cX12_laysMany.data.toList.drop 0).take 40 = [3, 62, 29, 17, 1, 45, 162, 0, 13, 44, 29, 3, 79, 132, 3, 1, 167, 255, 242, 3, 62, 29, 42, 182, 1, 14, 162, 0, 41, 43, 29, 42, 182, 0, 193, 184, 1, 17, 153, 0] := by decide +kernel
theorem dX12_laysMany_0 : decode cX12_laysMany 0 = .ok (.iconst 0, 1) := dz_3 (n := 0) (r := 0) hz_X12_laysMany_0 rfl
theorem dX12_laysMany_1 : decode cX12_laysMany 1 = .ok (.istore_n 3, 1) := dz_62 (n := 0) (r := 1) hz_X12_laysMany_0 rfl
theorem dX12_laysMany_2 : decode cX12_laysMany 2 = .ok (.iload_n 3, 1) := dz_29 (n := 0) (r := 2) hz_X12_laysMany_0 rfl
theorem dX12_laysMany_3 : decode cX12_laysMany 3 = .ok (.sipush 301, 3) := dz_17 (n := 0) (r := 3) hz_X12_laysMany_0 rfl (by decide +kernel)
theorem dX12_laysMany_6 : decode cX12_laysMany 6 = .ok (.if_icmp .ge 13, 3) := dz_162 (n := 0) (r := 6) hz_X12_laysMany_0 rfl (by decide +kernel)
theorem dX12_laysMany_9 : decode cX12_laysMany 9 = .ok (.aload_n 2, 1) := dz_44 (n := 0) (r := 9) hz_X12_laysMany_0 rfl
theorem dX12_laysMany_10 : decode cX12_laysMany 10 = .ok (.iload_n 3, 1) := dz_29 (n := 0) (r := 10) hz_X12_laysMany_0 rfl
theorem dX12_laysMany_11 : decode cX12_laysMany 11 = .ok (.iconst 0, 1) := dz_3 (n := 0) (r := 11) hz_X12_laysMany_0 rfl
theorem dX12_laysMany_12 : decode cX12_laysMany 12 = .ok (.iastore, 1) := dz_79 (n := 0) (r := 12) hz_X12_laysMany_0 rfl
theorem dX12_laysMany_13 : decode cX12_laysMany 13 = .ok (.iinc 3 1, 3) := dz_132 (n := 0) (r := 13) hz_X12_laysMany_0 rfl rfl rfl
theorem dX12_laysMany_16 : decode cX12_laysMany 16 = .ok (.goto (-14), 3) := dz_167 (n := 0) (r := 16) hz_X12_laysMany_0 rfl (by decide +kernel)
theorem dX12_laysMany_19 : decode cX12_laysMany 19 = .ok (.iconst 0, 1) := dz_3 (n := 0) (r := 19) hz_X12_laysMany_0 rfl
theorem dX12_laysMany_20 : decode cX12_laysMany 20 = .ok (.istore_n 3, 1) := dz_62 (n := 0) (r := 20) hz_X12_laysMany_0 rfl
theorem dX12_laysMany_21 : decode cX12_laysMany 21 = .ok (.iload_n 3, 1) := dz_29 (n := 0) (r := 21) hz_X12_laysMany_0 rfl
theorem dX12_laysMany_22 : decode cX12_laysMany 22 = .ok (.aload_n 0, 1) := dz_42 (n := 0) (r := 22) hz_X12_laysMany_0 rfl
theorem dX12_laysMany_23 : decode cX12_laysMany 23 = .ok (.invokevirtual 270, 3) := dz_182 (n := 0) (r := 23) hz_X12_laysMany_0 rfl rfl
theorem dX12_laysMany_26 : decode cX12_laysMany 26 = .ok (.if_icmp .ge 41, 3) := dz_162 (n := 0) (r := 26) hz_X12_laysMany_0 rfl (by decide +kernel)
theorem dX12_laysMany_29 : decode cX12_laysMany 29 = .ok (.aload_n 1, 1) := dz_43 (n := 0) (r := 29) hz_X12_laysMany_0 rfl
theorem dX12_laysMany_30 : decode cX12_laysMany 30 = .ok (.iload_n 3, 1) := dz_29 (n := 0) (r := 30) hz_X12_laysMany_0 rfl
theorem dX12_laysMany_31 : decode cX12_laysMany 31 = .ok (.aload_n 0, 1) := dz_42 (n := 0) (r := 31) hz_X12_laysMany_0 rfl
theorem hz_X12_laysMany_32 : (cX12_laysMany.data.toList.drop 32).take 40 = [182, 0, 193, 184, 1, 17, 153, 0, 23, 44, 17, 0, 150, 42, 43, 29, 42, 180, 0, 177, 182, 1, 21, 96, 92, 46, 4, 96, 79, 132, 3, 1, 167, 255, 213, 177] := by decide +kernel
theorem dX12_laysMany_32 : decode cX12_laysMany 32 = .ok (.invokevirtual 193, 3) := dz_182 (n := 32) (r := 0) hz_X12_laysMany_32 rfl rfl
theorem dX12_laysMany_35 : decode cX12_laysMany 35 = .ok (.invokestatic 273, 3) := dz_184 (n := 32) (r := 3) hz_X12_laysMany_32 rfl rfl
theorem dX12_laysMany_38 : decode cX12_laysMany 38 = .ok (.ifCond .eq 23, 3) := dz_153 (n := 32) (r := 6) hz_X12_laysMany_32 rfl (by decide +kernel)
theorem dX12_laysMany_41 : decode cX12_laysMany 41 = .ok (.aload_n 2, 1) := dz_44 (n := 32) (r := 9) hz_X12_laysMany_32 rfl
theorem dX12_laysMany_42 : decode cX12_laysMany 42 = .ok (.sipush 150, 3) := dz_17 (n := 32) (r := 10) hz_X12_laysMany_32 rfl (by decide +kernel)
theorem dX12_laysMany_45 : decode cX12_laysMany 45 = .ok (.aload_n 0, 1) := dz_42 (n := 32) (r := 13) hz_X12_laysMany_32 rfl
theorem dX12_laysMany_46 : decode cX12_laysMany 46 = .ok (.aload_n 1, 1) := dz_43 (n := 32) (r := 14) hz_X12_laysMany_32 rfl
theorem dX12_laysMany_47 : decode cX12_laysMany 47 = .ok (.iload_n 3, 1) := dz_29 (n := 32) (r := 15) hz_X12_laysMany_32 rfl
theorem dX12_laysMany_48 : decode cX12_laysMany 48 = .ok (.aload_n 0, 1) := dz_42 (n := 32) (r := 16) hz_X12_laysMany_32 rfl
theorem dX12_laysMany_49 : decode cX12_laysMany 49 = .ok (.getfield 177, 3) := dz_180 (n := 32) (r := 17) hz_X12_laysMany_32 rfl rfl
theorem dX12_laysMany_52 : decode cX12_laysMany 52 = .ok (.invokevirtual 277, 3) := dz_182 (n := 32) (r := 20) hz_X12_laysMany_32 rfl rfl
theorem dX12_laysMany_55 : decode cX12_laysMany 55 = .ok (.iadd, 1) := dz_96 (n := 32) (r := 23) hz_X12_laysMany_32 rfl
theorem dX12_laysMany_56 : decode cX12_laysMany 56 = .ok (.dup2, 1) := dz_92 (n := 32) (r := 24) hz_X12_laysMany_32 rfl
theorem dX12_laysMany_57 : decode cX12_laysMany 57 = .ok (.iaload, 1) := dz_46 (n := 32) (r := 25) hz_X12_laysMany_32 rfl
theorem dX12_laysMany_58 : decode cX12_laysMany 58 = .ok (.iconst 1, 1) := dz_4 (n := 32) (r := 26) hz_X12_laysMany_32 rfl
theorem dX12_laysMany_59 : decode cX12_laysMany 59 = .ok (.iadd, 1) := dz_96 (n := 32) (r := 27) hz_X12_laysMany_32 rfl
theorem dX12_laysMany_60 : decode cX12_laysMany 60 = .ok (.iastore, 1) := dz_79 (n := 32) (r := 28) hz_X12_laysMany_32 rfl
theorem dX12_laysMany_61 : decode cX12_laysMany 61 = .ok (.iinc 3 1, 3) := dz_132 (n := 32) (r := 29) hz_X12_laysMany_32 rfl rfl rfl
theorem hz_X12_laysMany_64 : (cX12_laysMany.data.toList.drop 64).take 40 = [167, 255, 213, 177] := by decide +kernel
theorem dX12_laysMany_64 : decode cX12_laysMany 64 = .ok (.goto (-43), 3) := dz_167 (n := 64) (r := 0) hz_X12_laysMany_64 rfl (by decide +kernel)
theorem dX12_laysMany_67 : decode cX12_laysMany 67 = .ok (.return_, 1) := dz_177 (n := 64) (r := 3) hz_X12_laysMany_64 rfl
theorem hz_X12_knows_0 : (cX12_knows.data.toList.drop 0).take 40 = [42, 180, 0, 200, 153, 0, 4, 177, 42, 4, 181, 0, 200, 3, 60, 27, 17, 1, 45, 162, 0, 16, 42, 180, 0, 60, 27, 3, 79, 132, 1, 1, 167, 255, 239, 3, 60, 27, 42, 182] := by decide +kernel
theorem dX12_knows_0 : decode cX12_knows 0 = .ok (.aload_n 0, 1) := dz_42 (n := 0) (r := 0) hz_X12_knows_0 rfl
theorem dX12_knows_1 : decode cX12_knows 1 = .ok (.getfield 200, 3) := dz_180 (n := 0) (r := 1) hz_X12_knows_0 rfl rfl
theorem dX12_knows_4 : decode cX12_knows 4 = .ok (.ifCond .eq 4, 3) := dz_153 (n := 0) (r := 4) hz_X12_knows_0 rfl (by decide +kernel)
theorem dX12_knows_7 : decode cX12_knows 7 = .ok (.return_, 1) := dz_177 (n := 0) (r := 7) hz_X12_knows_0 rfl
theorem dX12_knows_8 : decode cX12_knows 8 = .ok (.aload_n 0, 1) := dz_42 (n := 0) (r := 8) hz_X12_knows_0 rfl
theorem dX12_knows_9 : decode cX12_knows 9 = .ok (.iconst 1, 1) := dz_4 (n := 0) (r := 9) hz_X12_knows_0 rfl
theorem dX12_knows_10 : decode cX12_knows 10 = .ok (.putfield 200, 3) := dz_181 (n := 0) (r := 10) hz_X12_knows_0 rfl rfl
theorem dX12_knows_13 : decode cX12_knows 13 = .ok (.iconst 0, 1) := dz_3 (n := 0) (r := 13) hz_X12_knows_0 rfl
theorem dX12_knows_14 : decode cX12_knows 14 = .ok (.istore_n 1, 1) := dz_60 (n := 0) (r := 14) hz_X12_knows_0 rfl
theorem dX12_knows_15 : decode cX12_knows 15 = .ok (.iload_n 1, 1) := dz_27 (n := 0) (r := 15) hz_X12_knows_0 rfl
theorem dX12_knows_16 : decode cX12_knows 16 = .ok (.sipush 301, 3) := dz_17 (n := 0) (r := 16) hz_X12_knows_0 rfl (by decide +kernel)
theorem dX12_knows_19 : decode cX12_knows 19 = .ok (.if_icmp .ge 16, 3) := dz_162 (n := 0) (r := 19) hz_X12_knows_0 rfl (by decide +kernel)
theorem dX12_knows_22 : decode cX12_knows 22 = .ok (.aload_n 0, 1) := dz_42 (n := 0) (r := 22) hz_X12_knows_0 rfl
theorem dX12_knows_23 : decode cX12_knows 23 = .ok (.getfield 60, 3) := dz_180 (n := 0) (r := 23) hz_X12_knows_0 rfl rfl
theorem dX12_knows_26 : decode cX12_knows 26 = .ok (.iload_n 1, 1) := dz_27 (n := 0) (r := 26) hz_X12_knows_0 rfl
theorem dX12_knows_27 : decode cX12_knows 27 = .ok (.iconst 0, 1) := dz_3 (n := 0) (r := 27) hz_X12_knows_0 rfl
theorem dX12_knows_28 : decode cX12_knows 28 = .ok (.iastore, 1) := dz_79 (n := 0) (r := 28) hz_X12_knows_0 rfl
theorem dX12_knows_29 : decode cX12_knows 29 = .ok (.iinc 1 1, 3) := dz_132 (n := 0) (r := 29) hz_X12_knows_0 rfl rfl rfl
theorem hz_X12_knows_32 : (cX12_knows.data.toList.drop 32).take 40 = [167, 255, 239, 3, 60, 27, 42, 182, 1, 14, 162, 0, 73, 42, 180, 0, 57, 27, 42, 27, 182, 1, 25, 153, 0, 19, 42, 42, 180, 0, 40, 27, 42, 180, 0, 177, 182, 1, 21, 167] := by decide +kernel
theorem dX12_knows_32 : decode cX12_knows 32 = .ok (.goto (-17), 3) := dz_167 (n := 32) (r := 0) hz_X12_knows_32 rfl (by decide +kernel)
theorem dX12_knows_35 : decode cX12_knows 35 = .ok (.iconst 0, 1) := dz_3 (n := 32) (r := 3) hz_X12_knows_32 rfl
theorem dX12_knows_36 : decode cX12_knows 36 = .ok (.istore_n 1, 1) := dz_60 (n := 32) (r := 4) hz_X12_knows_32 rfl
theorem dX12_knows_37 : decode cX12_knows 37 = .ok (.iload_n 1, 1) := dz_27 (n := 32) (r := 5) hz_X12_knows_32 rfl
theorem dX12_knows_38 : decode cX12_knows 38 = .ok (.aload_n 0, 1) := dz_42 (n := 32) (r := 6) hz_X12_knows_32 rfl
theorem dX12_knows_39 : decode cX12_knows 39 = .ok (.invokevirtual 270, 3) := dz_182 (n := 32) (r := 7) hz_X12_knows_32 rfl rfl
theorem dX12_knows_42 : decode cX12_knows 42 = .ok (.if_icmp .ge 73, 3) := dz_162 (n := 32) (r := 10) hz_X12_knows_32 rfl (by decide +kernel)
theorem dX12_knows_45 : decode cX12_knows 45 = .ok (.aload_n 0, 1) := dz_42 (n := 32) (r := 13) hz_X12_knows_32 rfl
theorem dX12_knows_46 : decode cX12_knows 46 = .ok (.getfield 57, 3) := dz_180 (n := 32) (r := 14) hz_X12_knows_32 rfl rfl
theorem dX12_knows_49 : decode cX12_knows 49 = .ok (.iload_n 1, 1) := dz_27 (n := 32) (r := 17) hz_X12_knows_32 rfl
theorem dX12_knows_50 : decode cX12_knows 50 = .ok (.aload_n 0, 1) := dz_42 (n := 32) (r := 18) hz_X12_knows_32 rfl
theorem dX12_knows_51 : decode cX12_knows 51 = .ok (.iload_n 1, 1) := dz_27 (n := 32) (r := 19) hz_X12_knows_32 rfl
theorem dX12_knows_52 : decode cX12_knows 52 = .ok (.invokevirtual 281, 3) := dz_182 (n := 32) (r := 20) hz_X12_knows_32 rfl rfl
theorem dX12_knows_55 : decode cX12_knows 55 = .ok (.ifCond .eq 19, 3) := dz_153 (n := 32) (r := 23) hz_X12_knows_32 rfl (by decide +kernel)
theorem dX12_knows_58 : decode cX12_knows 58 = .ok (.aload_n 0, 1) := dz_42 (n := 32) (r := 26) hz_X12_knows_32 rfl
theorem dX12_knows_59 : decode cX12_knows 59 = .ok (.aload_n 0, 1) := dz_42 (n := 32) (r := 27) hz_X12_knows_32 rfl
theorem dX12_knows_60 : decode cX12_knows 60 = .ok (.getfield 40, 3) := dz_180 (n := 32) (r := 28) hz_X12_knows_32 rfl rfl
theorem dX12_knows_63 : decode cX12_knows 63 = .ok (.iload_n 1, 1) := dz_27 (n := 32) (r := 31) hz_X12_knows_32 rfl
theorem hz_X12_knows_64 : (cX12_knows.data.toList.drop 64).take 40 = [42, 180, 0, 177, 182, 1, 21, 167, 0, 6, 19, 1, 28, 79, 42, 180, 0, 57, 27, 46, 19, 1, 28, 162, 0, 22, 42, 180, 0, 60, 17, 0, 150, 42, 180, 0, 57, 27, 46, 96] := by decide +kernel
theorem dX12_knows_64 : decode cX12_knows 64 = .ok (.aload_n 0, 1) := dz_42 (n := 64) (r := 0) hz_X12_knows_64 rfl
theorem dX12_knows_65 : decode cX12_knows 65 = .ok (.getfield 177, 3) := dz_180 (n := 64) (r := 1) hz_X12_knows_64 rfl rfl
theorem dX12_knows_68 : decode cX12_knows 68 = .ok (.invokevirtual 277, 3) := dz_182 (n := 64) (r := 4) hz_X12_knows_64 rfl rfl
theorem dX12_knows_71 : decode cX12_knows 71 = .ok (.goto 6, 3) := dz_167 (n := 64) (r := 7) hz_X12_knows_64 rfl (by decide +kernel)
theorem dX12_knows_74 : decode cX12_knows 74 = .ok (.ldc_w 284, 3) := dz_19 (n := 64) (r := 10) hz_X12_knows_64 rfl rfl
theorem dX12_knows_77 : decode cX12_knows 77 = .ok (.iastore, 1) := dz_79 (n := 64) (r := 13) hz_X12_knows_64 rfl
theorem dX12_knows_78 : decode cX12_knows 78 = .ok (.aload_n 0, 1) := dz_42 (n := 64) (r := 14) hz_X12_knows_64 rfl
theorem dX12_knows_79 : decode cX12_knows 79 = .ok (.getfield 57, 3) := dz_180 (n := 64) (r := 15) hz_X12_knows_64 rfl rfl
theorem dX12_knows_82 : decode cX12_knows 82 = .ok (.iload_n 1, 1) := dz_27 (n := 64) (r := 18) hz_X12_knows_64 rfl
theorem dX12_knows_83 : decode cX12_knows 83 = .ok (.iaload, 1) := dz_46 (n := 64) (r := 19) hz_X12_knows_64 rfl
theorem dX12_knows_84 : decode cX12_knows 84 = .ok (.ldc_w 284, 3) := dz_19 (n := 64) (r := 20) hz_X12_knows_64 rfl rfl
theorem dX12_knows_87 : decode cX12_knows 87 = .ok (.if_icmp .ge 22, 3) := dz_162 (n := 64) (r := 23) hz_X12_knows_64 rfl (by decide +kernel)
theorem dX12_knows_90 : decode cX12_knows 90 = .ok (.aload_n 0, 1) := dz_42 (n := 64) (r := 26) hz_X12_knows_64 rfl
theorem dX12_knows_91 : decode cX12_knows 91 = .ok (.getfield 60, 3) := dz_180 (n := 64) (r := 27) hz_X12_knows_64 rfl rfl
theorem dX12_knows_94 : decode cX12_knows 94 = .ok (.sipush 150, 3) := dz_17 (n := 64) (r := 30) hz_X12_knows_64 rfl (by decide +kernel)
theorem hz_X12_knows_96 : (cX12_knows.data.toList.drop 96).take 40 = [150, 42, 180, 0, 57, 27, 46, 96, 92, 46, 4, 96, 79, 132, 1, 1, 167, 255, 181, 42, 3, 181, 1, 29, 3, 60, 27, 17, 1, 45, 162, 0, 45, 42, 180, 0, 60, 27, 46, 154] := by decide +kernel
theorem dX12_knows_97 : decode cX12_knows 97 = .ok (.aload_n 0, 1) := dz_42 (n := 96) (r := 1) hz_X12_knows_96 rfl
theorem dX12_knows_98 : decode cX12_knows 98 = .ok (.getfield 57, 3) := dz_180 (n := 96) (r := 2) hz_X12_knows_96 rfl rfl
theorem dX12_knows_101 : decode cX12_knows 101 = .ok (.iload_n 1, 1) := dz_27 (n := 96) (r := 5) hz_X12_knows_96 rfl
theorem dX12_knows_102 : decode cX12_knows 102 = .ok (.iaload, 1) := dz_46 (n := 96) (r := 6) hz_X12_knows_96 rfl
theorem dX12_knows_103 : decode cX12_knows 103 = .ok (.iadd, 1) := dz_96 (n := 96) (r := 7) hz_X12_knows_96 rfl
theorem dX12_knows_104 : decode cX12_knows 104 = .ok (.dup2, 1) := dz_92 (n := 96) (r := 8) hz_X12_knows_96 rfl
theorem dX12_knows_105 : decode cX12_knows 105 = .ok (.iaload, 1) := dz_46 (n := 96) (r := 9) hz_X12_knows_96 rfl
theorem dX12_knows_106 : decode cX12_knows 106 = .ok (.iconst 1, 1) := dz_4 (n := 96) (r := 10) hz_X12_knows_96 rfl
theorem dX12_knows_107 : decode cX12_knows 107 = .ok (.iadd, 1) := dz_96 (n := 96) (r := 11) hz_X12_knows_96 rfl
theorem dX12_knows_108 : decode cX12_knows 108 = .ok (.iastore, 1) := dz_79 (n := 96) (r := 12) hz_X12_knows_96 rfl
theorem dX12_knows_109 : decode cX12_knows 109 = .ok (.iinc 1 1, 3) := dz_132 (n := 96) (r := 13) hz_X12_knows_96 rfl rfl rfl
theorem dX12_knows_112 : decode cX12_knows 112 = .ok (.goto (-75), 3) := dz_167 (n := 96) (r := 16) hz_X12_knows_96 rfl (by decide +kernel)
theorem dX12_knows_115 : decode cX12_knows 115 = .ok (.aload_n 0, 1) := dz_42 (n := 96) (r := 19) hz_X12_knows_96 rfl
theorem dX12_knows_116 : decode cX12_knows 116 = .ok (.iconst 0, 1) := dz_3 (n := 96) (r := 20) hz_X12_knows_96 rfl
theorem dX12_knows_117 : decode cX12_knows 117 = .ok (.putfield 285, 3) := dz_181 (n := 96) (r := 21) hz_X12_knows_96 rfl rfl
theorem dX12_knows_120 : decode cX12_knows 120 = .ok (.iconst 0, 1) := dz_3 (n := 96) (r := 24) hz_X12_knows_96 rfl
theorem dX12_knows_121 : decode cX12_knows 121 = .ok (.istore_n 1, 1) := dz_60 (n := 96) (r := 25) hz_X12_knows_96 rfl
theorem dX12_knows_122 : decode cX12_knows 122 = .ok (.iload_n 1, 1) := dz_27 (n := 96) (r := 26) hz_X12_knows_96 rfl
theorem dX12_knows_123 : decode cX12_knows 123 = .ok (.sipush 301, 3) := dz_17 (n := 96) (r := 27) hz_X12_knows_96 rfl (by decide +kernel)
theorem dX12_knows_126 : decode cX12_knows 126 = .ok (.if_icmp .ge 45, 3) := dz_162 (n := 96) (r := 30) hz_X12_knows_96 rfl (by decide +kernel)
theorem hz_X12_knows_128 : (cX12_knows.data.toList.drop 128).take 40 = [45, 42, 180, 0, 60, 27, 46, 154, 0, 6, 167, 0, 27, 42, 180, 0, 63, 42, 180, 1, 29, 27, 17, 0, 150, 100, 79, 42, 89, 180, 1, 29, 4, 96, 181, 1, 29, 132, 1, 1] := by decide +kernel
theorem dX12_knows_129 : decode cX12_knows 129 = .ok (.aload_n 0, 1) := dz_42 (n := 128) (r := 1) hz_X12_knows_128 rfl
theorem dX12_knows_130 : decode cX12_knows 130 = .ok (.getfield 60, 3) := dz_180 (n := 128) (r := 2) hz_X12_knows_128 rfl rfl
theorem dX12_knows_133 : decode cX12_knows 133 = .ok (.iload_n 1, 1) := dz_27 (n := 128) (r := 5) hz_X12_knows_128 rfl
theorem dX12_knows_134 : decode cX12_knows 134 = .ok (.iaload, 1) := dz_46 (n := 128) (r := 6) hz_X12_knows_128 rfl
theorem dX12_knows_135 : decode cX12_knows 135 = .ok (.ifCond .ne 6, 3) := dz_154 (n := 128) (r := 7) hz_X12_knows_128 rfl (by decide +kernel)
theorem dX12_knows_138 : decode cX12_knows 138 = .ok (.goto 27, 3) := dz_167 (n := 128) (r := 10) hz_X12_knows_128 rfl (by decide +kernel)
theorem dX12_knows_141 : decode cX12_knows 141 = .ok (.aload_n 0, 1) := dz_42 (n := 128) (r := 13) hz_X12_knows_128 rfl
theorem dX12_knows_142 : decode cX12_knows 142 = .ok (.getfield 63, 3) := dz_180 (n := 128) (r := 14) hz_X12_knows_128 rfl rfl
theorem dX12_knows_145 : decode cX12_knows 145 = .ok (.aload_n 0, 1) := dz_42 (n := 128) (r := 17) hz_X12_knows_128 rfl
theorem dX12_knows_146 : decode cX12_knows 146 = .ok (.getfield 285, 3) := dz_180 (n := 128) (r := 18) hz_X12_knows_128 rfl rfl
theorem dX12_knows_149 : decode cX12_knows 149 = .ok (.iload_n 1, 1) := dz_27 (n := 128) (r := 21) hz_X12_knows_128 rfl
theorem dX12_knows_150 : decode cX12_knows 150 = .ok (.sipush 150, 3) := dz_17 (n := 128) (r := 22) hz_X12_knows_128 rfl (by decide +kernel)
theorem dX12_knows_153 : decode cX12_knows 153 = .ok (.isub, 1) := dz_100 (n := 128) (r := 25) hz_X12_knows_128 rfl
theorem dX12_knows_154 : decode cX12_knows 154 = .ok (.iastore, 1) := dz_79 (n := 128) (r := 26) hz_X12_knows_128 rfl
theorem dX12_knows_155 : decode cX12_knows 155 = .ok (.aload_n 0, 1) := dz_42 (n := 128) (r := 27) hz_X12_knows_128 rfl
theorem dX12_knows_156 : decode cX12_knows 156 = .ok (.dup, 1) := dz_89 (n := 128) (r := 28) hz_X12_knows_128 rfl
theorem dX12_knows_157 : decode cX12_knows 157 = .ok (.getfield 285, 3) := dz_180 (n := 128) (r := 29) hz_X12_knows_128 rfl rfl
theorem hz_X12_knows_160 : (cX12_knows.data.toList.drop 160).take 40 = [4, 96, 181, 1, 29, 132, 1, 1, 167, 255, 210, 177] := by decide +kernel
theorem dX12_knows_160 : decode cX12_knows 160 = .ok (.iconst 1, 1) := dz_4 (n := 160) (r := 0) hz_X12_knows_160 rfl
theorem dX12_knows_161 : decode cX12_knows 161 = .ok (.iadd, 1) := dz_96 (n := 160) (r := 1) hz_X12_knows_160 rfl
theorem dX12_knows_162 : decode cX12_knows 162 = .ok (.putfield 285, 3) := dz_181 (n := 160) (r := 2) hz_X12_knows_160 rfl rfl
theorem dX12_knows_165 : decode cX12_knows 165 = .ok (.iinc 1 1, 3) := dz_132 (n := 160) (r := 5) hz_X12_knows_160 rfl rfl rfl
theorem dX12_knows_168 : decode cX12_knows 168 = .ok (.goto (-46), 3) := dz_167 (n := 160) (r := 8) hz_X12_knows_160 rfl (by decide +kernel)
theorem dX12_knows_171 : decode cX12_knows 171 = .ok (.return_, 1) := dz_177 (n := 160) (r := 11) hz_X12_knows_160 rfl
theorem hz_X12_costOf_0 : (cX12_costOf.data.toList.drop 0).take 40 = [42, 42, 180, 0, 40, 27, 4, 28, 120, 130, 42, 180, 0, 177, 182, 1, 21, 42, 42, 180, 0, 40, 27, 42, 180, 0, 177, 182, 1, 21, 100, 172] := by decide +kernel
theorem dX12_costOf_0 : decode cX12_costOf 0 = .ok (.aload_n 0, 1) := dz_42 (n := 0) (r := 0) hz_X12_costOf_0 rfl
theorem dX12_costOf_1 : decode cX12_costOf 1 = .ok (.aload_n 0, 1) := dz_42 (n := 0) (r := 1) hz_X12_costOf_0 rfl
theorem dX12_costOf_2 : decode cX12_costOf 2 = .ok (.getfield 40, 3) := dz_180 (n := 0) (r := 2) hz_X12_costOf_0 rfl rfl
theorem dX12_costOf_5 : decode cX12_costOf 5 = .ok (.iload_n 1, 1) := dz_27 (n := 0) (r := 5) hz_X12_costOf_0 rfl
theorem dX12_costOf_6 : decode cX12_costOf 6 = .ok (.iconst 1, 1) := dz_4 (n := 0) (r := 6) hz_X12_costOf_0 rfl
theorem dX12_costOf_7 : decode cX12_costOf 7 = .ok (.iload_n 2, 1) := dz_28 (n := 0) (r := 7) hz_X12_costOf_0 rfl
theorem dX12_costOf_8 : decode cX12_costOf 8 = .ok (.ishl, 1) := dz_120 (n := 0) (r := 8) hz_X12_costOf_0 rfl
theorem dX12_costOf_9 : decode cX12_costOf 9 = .ok (.ixor, 1) := dz_130 (n := 0) (r := 9) hz_X12_costOf_0 rfl
theorem dX12_costOf_10 : decode cX12_costOf 10 = .ok (.aload_n 0, 1) := dz_42 (n := 0) (r := 10) hz_X12_costOf_0 rfl
theorem dX12_costOf_11 : decode cX12_costOf 11 = .ok (.getfield 177, 3) := dz_180 (n := 0) (r := 11) hz_X12_costOf_0 rfl rfl
theorem dX12_costOf_14 : decode cX12_costOf 14 = .ok (.invokevirtual 277, 3) := dz_182 (n := 0) (r := 14) hz_X12_costOf_0 rfl rfl
theorem dX12_costOf_17 : decode cX12_costOf 17 = .ok (.aload_n 0, 1) := dz_42 (n := 0) (r := 17) hz_X12_costOf_0 rfl
theorem dX12_costOf_18 : decode cX12_costOf 18 = .ok (.aload_n 0, 1) := dz_42 (n := 0) (r := 18) hz_X12_costOf_0 rfl
theorem dX12_costOf_19 : decode cX12_costOf 19 = .ok (.getfield 40, 3) := dz_180 (n := 0) (r := 19) hz_X12_costOf_0 rfl rfl
theorem dX12_costOf_22 : decode cX12_costOf 22 = .ok (.iload_n 1, 1) := dz_27 (n := 0) (r := 22) hz_X12_costOf_0 rfl
theorem dX12_costOf_23 : decode cX12_costOf 23 = .ok (.aload_n 0, 1) := dz_42 (n := 0) (r := 23) hz_X12_costOf_0 rfl
theorem dX12_costOf_24 : decode cX12_costOf 24 = .ok (.getfield 177, 3) := dz_180 (n := 0) (r := 24) hz_X12_costOf_0 rfl rfl
theorem dX12_costOf_27 : decode cX12_costOf 27 = .ok (.invokevirtual 277, 3) := dz_182 (n := 0) (r := 27) hz_X12_costOf_0 rfl rfl
theorem dX12_costOf_30 : decode cX12_costOf 30 = .ok (.isub, 1) := dz_100 (n := 0) (r := 30) hz_X12_costOf_0 rfl
theorem dX12_costOf_31 : decode cX12_costOf 31 = .ok (.ireturn, 1) := dz_172 (n := 0) (r := 31) hz_X12_costOf_0 rfl
theorem hz_X12_site_0 : (cX12_site.data.toList.drop 0).take 40 = [42, 27, 182, 0, 233, 154, 0, 7, 19, 1, 32, 172, 28, 170, 0, 0, 0, 0, 0, 153, 0, 0, 0, 0, 0, 0, 0, 7, 0, 0, 0, 47, 0, 0, 0, 54, 0, 0, 0, 61] := by decide +kernel
theorem dX12_site_0 : decode cX12_site 0 = .ok (.aload_n 0, 1) := dz_42 (n := 0) (r := 0) hz_X12_site_0 rfl
theorem dX12_site_1 : decode cX12_site 1 = .ok (.iload_n 1, 1) := dz_27 (n := 0) (r := 1) hz_X12_site_0 rfl
theorem dX12_site_2 : decode cX12_site 2 = .ok (.invokevirtual 233, 3) := dz_182 (n := 0) (r := 2) hz_X12_site_0 rfl rfl
theorem dX12_site_5 : decode cX12_site 5 = .ok (.ifCond .ne 7, 3) := dz_154 (n := 0) (r := 5) hz_X12_site_0 rfl (by decide +kernel)
theorem dX12_site_8 : decode cX12_site 8 = .ok (.ldc_w 288, 3) := dz_19 (n := 0) (r := 8) hz_X12_site_0 rfl rfl
theorem dX12_site_11 : decode cX12_site 11 = .ok (.ireturn, 1) := dz_172 (n := 0) (r := 11) hz_X12_site_0 rfl
theorem dX12_site_12 : decode cX12_site 12 = .ok (.iload_n 2, 1) := dz_28 (n := 0) (r := 12) hz_X12_site_0 rfl
theorem dX12_site_13 : decode cX12_site 13 = .ok (.tableswitch 153 0 7 #[47, 54, 61, 71, 81, 104, 128, 140], 47) := by decide +kernel
theorem hz_X12_site_32 : (cX12_site.data.toList.drop 32).take 40 = [0, 0, 0, 54, 0, 0, 0, 61, 0, 0, 0, 71, 0, 0, 0, 81, 0, 0, 0, 104, 0, 0, 0, 128, 0, 0, 0, 140, 27, 42, 180, 0, 171, 108, 172, 27, 42, 180, 0, 171] := by decide +kernel
theorem dX12_site_60 : decode cX12_site 60 = .ok (.iload_n 1, 1) := dz_27 (n := 32) (r := 28) hz_X12_site_32 rfl
theorem dX12_site_61 : decode cX12_site 61 = .ok (.aload_n 0, 1) := dz_42 (n := 32) (r := 29) hz_X12_site_32 rfl
theorem dX12_site_62 : decode cX12_site 62 = .ok (.getfield 171, 3) := dz_180 (n := 32) (r := 30) hz_X12_site_32 rfl rfl
theorem hz_X12_site_64 : (cX12_site.data.toList.drop 64).take 40 = [171, 108, 172, 27, 42, 180, 0, 171, 112, 172, 42, 180, 0, 40, 16, 32, 27, 96, 46, 172, 42, 180, 0, 40, 16, 48, 27, 96, 46, 172, 42, 27, 3, 182, 0, 236, 156, 0, 8, 16] := by decide +kernel
theorem dX12_site_65 : decode cX12_site 65 = .ok (.idiv, 1) := dz_108 (n := 64) (r := 1) hz_X12_site_64 rfl
theorem dX12_site_66 : decode cX12_site 66 = .ok (.ireturn, 1) := dz_172 (n := 64) (r := 2) hz_X12_site_64 rfl
theorem dX12_site_67 : decode cX12_site 67 = .ok (.iload_n 1, 1) := dz_27 (n := 64) (r := 3) hz_X12_site_64 rfl
theorem dX12_site_68 : decode cX12_site 68 = .ok (.aload_n 0, 1) := dz_42 (n := 64) (r := 4) hz_X12_site_64 rfl
theorem dX12_site_69 : decode cX12_site 69 = .ok (.getfield 171, 3) := dz_180 (n := 64) (r := 5) hz_X12_site_64 rfl rfl
theorem dX12_site_72 : decode cX12_site 72 = .ok (.irem, 1) := dz_112 (n := 64) (r := 8) hz_X12_site_64 rfl
theorem dX12_site_73 : decode cX12_site 73 = .ok (.ireturn, 1) := dz_172 (n := 64) (r := 9) hz_X12_site_64 rfl
theorem dX12_site_74 : decode cX12_site 74 = .ok (.aload_n 0, 1) := dz_42 (n := 64) (r := 10) hz_X12_site_64 rfl
theorem dX12_site_75 : decode cX12_site 75 = .ok (.getfield 40, 3) := dz_180 (n := 64) (r := 11) hz_X12_site_64 rfl rfl
theorem dX12_site_78 : decode cX12_site 78 = .ok (.bipush 32, 2) := dz_16 (n := 64) (r := 14) hz_X12_site_64 rfl rfl
theorem dX12_site_80 : decode cX12_site 80 = .ok (.iload_n 1, 1) := dz_27 (n := 64) (r := 16) hz_X12_site_64 rfl
theorem dX12_site_81 : decode cX12_site 81 = .ok (.iadd, 1) := dz_96 (n := 64) (r := 17) hz_X12_site_64 rfl
theorem dX12_site_82 : decode cX12_site 82 = .ok (.iaload, 1) := dz_46 (n := 64) (r := 18) hz_X12_site_64 rfl
theorem dX12_site_83 : decode cX12_site 83 = .ok (.ireturn, 1) := dz_172 (n := 64) (r := 19) hz_X12_site_64 rfl
theorem dX12_site_84 : decode cX12_site 84 = .ok (.aload_n 0, 1) := dz_42 (n := 64) (r := 20) hz_X12_site_64 rfl
theorem dX12_site_85 : decode cX12_site 85 = .ok (.getfield 40, 3) := dz_180 (n := 64) (r := 21) hz_X12_site_64 rfl rfl
theorem dX12_site_88 : decode cX12_site 88 = .ok (.bipush 48, 2) := dz_16 (n := 64) (r := 24) hz_X12_site_64 rfl rfl
theorem dX12_site_90 : decode cX12_site 90 = .ok (.iload_n 1, 1) := dz_27 (n := 64) (r := 26) hz_X12_site_64 rfl
theorem dX12_site_91 : decode cX12_site 91 = .ok (.iadd, 1) := dz_96 (n := 64) (r := 27) hz_X12_site_64 rfl
theorem dX12_site_92 : decode cX12_site 92 = .ok (.iaload, 1) := dz_46 (n := 64) (r := 28) hz_X12_site_64 rfl
theorem dX12_site_93 : decode cX12_site 93 = .ok (.ireturn, 1) := dz_172 (n := 64) (r := 29) hz_X12_site_64 rfl
theorem dX12_site_94 : decode cX12_site 94 = .ok (.aload_n 0, 1) := dz_42 (n := 64) (r := 30) hz_X12_site_64 rfl
theorem dX12_site_95 : decode cX12_site 95 = .ok (.iload_n 1, 1) := dz_27 (n := 64) (r := 31) hz_X12_site_64 rfl
theorem hz_X12_site_96 : (cX12_site.data.toList.drop 96).take 40 = [3, 182, 0, 236, 156, 0, 8, 16, 100, 167, 0, 11, 42, 180, 0, 40, 3, 27, 96, 46, 172, 42, 27, 4, 182, 0, 236, 156, 0, 8, 16, 100, 167, 0, 12, 42, 180, 0, 40, 16] := by decide +kernel
theorem dX12_site_96 : decode cX12_site 96 = .ok (.iconst 0, 1) := dz_3 (n := 96) (r := 0) hz_X12_site_96 rfl
theorem dX12_site_97 : decode cX12_site 97 = .ok (.invokevirtual 236, 3) := dz_182 (n := 96) (r := 1) hz_X12_site_96 rfl rfl
theorem dX12_site_100 : decode cX12_site 100 = .ok (.ifCond .ge 8, 3) := dz_156 (n := 96) (r := 4) hz_X12_site_96 rfl (by decide +kernel)
theorem dX12_site_103 : decode cX12_site 103 = .ok (.bipush 100, 2) := dz_16 (n := 96) (r := 7) hz_X12_site_96 rfl rfl
theorem dX12_site_105 : decode cX12_site 105 = .ok (.goto 11, 3) := dz_167 (n := 96) (r := 9) hz_X12_site_96 rfl (by decide +kernel)
theorem dX12_site_108 : decode cX12_site 108 = .ok (.aload_n 0, 1) := dz_42 (n := 96) (r := 12) hz_X12_site_96 rfl
theorem dX12_site_109 : decode cX12_site 109 = .ok (.getfield 40, 3) := dz_180 (n := 96) (r := 13) hz_X12_site_96 rfl rfl
theorem dX12_site_112 : decode cX12_site 112 = .ok (.iconst 0, 1) := dz_3 (n := 96) (r := 16) hz_X12_site_96 rfl
theorem dX12_site_113 : decode cX12_site 113 = .ok (.iload_n 1, 1) := dz_27 (n := 96) (r := 17) hz_X12_site_96 rfl
theorem dX12_site_114 : decode cX12_site 114 = .ok (.iadd, 1) := dz_96 (n := 96) (r := 18) hz_X12_site_96 rfl
theorem dX12_site_115 : decode cX12_site 115 = .ok (.iaload, 1) := dz_46 (n := 96) (r := 19) hz_X12_site_96 rfl
theorem dX12_site_116 : decode cX12_site 116 = .ok (.ireturn, 1) := dz_172 (n := 96) (r := 20) hz_X12_site_96 rfl
theorem dX12_site_117 : decode cX12_site 117 = .ok (.aload_n 0, 1) := dz_42 (n := 96) (r := 21) hz_X12_site_96 rfl
theorem dX12_site_118 : decode cX12_site 118 = .ok (.iload_n 1, 1) := dz_27 (n := 96) (r := 22) hz_X12_site_96 rfl
theorem dX12_site_119 : decode cX12_site 119 = .ok (.iconst 1, 1) := dz_4 (n := 96) (r := 23) hz_X12_site_96 rfl
theorem dX12_site_120 : decode cX12_site 120 = .ok (.invokevirtual 236, 3) := dz_182 (n := 96) (r := 24) hz_X12_site_96 rfl rfl
theorem dX12_site_123 : decode cX12_site 123 = .ok (.ifCond .ge 8, 3) := dz_156 (n := 96) (r := 27) hz_X12_site_96 rfl (by decide +kernel)
theorem dX12_site_126 : decode cX12_site 126 = .ok (.bipush 100, 2) := dz_16 (n := 96) (r := 30) hz_X12_site_96 rfl rfl
theorem hz_X12_site_128 : (cX12_site.data.toList.drop 128).take 40 = [167, 0, 12, 42, 180, 0, 40, 16, 16, 27, 96, 46, 172, 42, 180, 0, 40, 16, 64, 46, 27, 122, 4, 126, 172, 42, 42, 180, 0, 40, 16, 64, 46, 27, 182, 1, 33, 172, 19, 1] := by decide +kernel
theorem dX12_site_128 : decode cX12_site 128 = .ok (.goto 12, 3) := dz_167 (n := 128) (r := 0) hz_X12_site_128 rfl (by decide +kernel)
theorem dX12_site_131 : decode cX12_site 131 = .ok (.aload_n 0, 1) := dz_42 (n := 128) (r := 3) hz_X12_site_128 rfl
theorem dX12_site_132 : decode cX12_site 132 = .ok (.getfield 40, 3) := dz_180 (n := 128) (r := 4) hz_X12_site_128 rfl rfl
theorem dX12_site_135 : decode cX12_site 135 = .ok (.bipush 16, 2) := dz_16 (n := 128) (r := 7) hz_X12_site_128 rfl rfl
theorem dX12_site_137 : decode cX12_site 137 = .ok (.iload_n 1, 1) := dz_27 (n := 128) (r := 9) hz_X12_site_128 rfl
theorem dX12_site_138 : decode cX12_site 138 = .ok (.iadd, 1) := dz_96 (n := 128) (r := 10) hz_X12_site_128 rfl
theorem dX12_site_139 : decode cX12_site 139 = .ok (.iaload, 1) := dz_46 (n := 128) (r := 11) hz_X12_site_128 rfl
theorem dX12_site_140 : decode cX12_site 140 = .ok (.ireturn, 1) := dz_172 (n := 128) (r := 12) hz_X12_site_128 rfl
theorem dX12_site_141 : decode cX12_site 141 = .ok (.aload_n 0, 1) := dz_42 (n := 128) (r := 13) hz_X12_site_128 rfl
theorem dX12_site_142 : decode cX12_site 142 = .ok (.getfield 40, 3) := dz_180 (n := 128) (r := 14) hz_X12_site_128 rfl rfl
theorem dX12_site_145 : decode cX12_site 145 = .ok (.bipush 64, 2) := dz_16 (n := 128) (r := 17) hz_X12_site_128 rfl rfl
theorem dX12_site_147 : decode cX12_site 147 = .ok (.iaload, 1) := dz_46 (n := 128) (r := 19) hz_X12_site_128 rfl
theorem dX12_site_148 : decode cX12_site 148 = .ok (.iload_n 1, 1) := dz_27 (n := 128) (r := 20) hz_X12_site_128 rfl
theorem dX12_site_149 : decode cX12_site 149 = .ok (.ishr, 1) := dz_122 (n := 128) (r := 21) hz_X12_site_128 rfl
theorem dX12_site_150 : decode cX12_site 150 = .ok (.iconst 1, 1) := dz_4 (n := 128) (r := 22) hz_X12_site_128 rfl
theorem dX12_site_151 : decode cX12_site 151 = .ok (.iand, 1) := dz_126 (n := 128) (r := 23) hz_X12_site_128 rfl
theorem dX12_site_152 : decode cX12_site 152 = .ok (.ireturn, 1) := dz_172 (n := 128) (r := 24) hz_X12_site_128 rfl
theorem dX12_site_153 : decode cX12_site 153 = .ok (.aload_n 0, 1) := dz_42 (n := 128) (r := 25) hz_X12_site_128 rfl
theorem dX12_site_154 : decode cX12_site 154 = .ok (.aload_n 0, 1) := dz_42 (n := 128) (r := 26) hz_X12_site_128 rfl
theorem dX12_site_155 : decode cX12_site 155 = .ok (.getfield 40, 3) := dz_180 (n := 128) (r := 27) hz_X12_site_128 rfl rfl
theorem dX12_site_158 : decode cX12_site 158 = .ok (.bipush 64, 2) := dz_16 (n := 128) (r := 30) hz_X12_site_128 rfl rfl
theorem hz_X12_site_160 : (cX12_site.data.toList.drop 160).take 40 = [46, 27, 182, 1, 33, 172, 19, 1, 32, 172] := by decide +kernel
theorem dX12_site_160 : decode cX12_site 160 = .ok (.iaload, 1) := dz_46 (n := 160) (r := 0) hz_X12_site_160 rfl
theorem dX12_site_161 : decode cX12_site 161 = .ok (.iload_n 1, 1) := dz_27 (n := 160) (r := 1) hz_X12_site_160 rfl
theorem dX12_site_162 : decode cX12_site 162 = .ok (.invokevirtual 289, 3) := dz_182 (n := 160) (r := 2) hz_X12_site_160 rfl rfl
theorem dX12_site_165 : decode cX12_site 165 = .ok (.ireturn, 1) := dz_172 (n := 160) (r := 5) hz_X12_site_160 rfl
theorem dX12_site_166 : decode cX12_site 166 = .ok (.ldc_w 288, 3) := dz_19 (n := 160) (r := 6) hz_X12_site_160 rfl rfl
theorem dX12_site_169 : decode cX12_site 169 = .ok (.ireturn, 1) := dz_172 (n := 160) (r := 9) hz_X12_site_160 rfl
theorem hz_X12_leastOf_0 : (cX12_leastOf.data.toList.drop 0).take 40 = [3, 61, 42, 180, 0, 57, 28, 46, 27, 159, 0, 9, 132, 2, 1, 167, 255, 243, 28, 172] := by decide +kernel
theorem dX12_leastOf_0 : decode cX12_leastOf 0 = .ok (.iconst 0, 1) := dz_3 (n := 0) (r := 0) hz_X12_leastOf_0 rfl
theorem dX12_leastOf_1 : decode cX12_leastOf 1 = .ok (.istore_n 2, 1) := dz_61 (n := 0) (r := 1) hz_X12_leastOf_0 rfl
theorem dX12_leastOf_2 : decode cX12_leastOf 2 = .ok (.aload_n 0, 1) := dz_42 (n := 0) (r := 2) hz_X12_leastOf_0 rfl
theorem dX12_leastOf_3 : decode cX12_leastOf 3 = .ok (.getfield 57, 3) := dz_180 (n := 0) (r := 3) hz_X12_leastOf_0 rfl rfl
theorem dX12_leastOf_6 : decode cX12_leastOf 6 = .ok (.iload_n 2, 1) := dz_28 (n := 0) (r := 6) hz_X12_leastOf_0 rfl
theorem dX12_leastOf_7 : decode cX12_leastOf 7 = .ok (.iaload, 1) := dz_46 (n := 0) (r := 7) hz_X12_leastOf_0 rfl
theorem dX12_leastOf_8 : decode cX12_leastOf 8 = .ok (.iload_n 1, 1) := dz_27 (n := 0) (r := 8) hz_X12_leastOf_0 rfl
theorem dX12_leastOf_9 : decode cX12_leastOf 9 = .ok (.if_icmp .eq 9, 3) := dz_159 (n := 0) (r := 9) hz_X12_leastOf_0 rfl (by decide +kernel)
theorem dX12_leastOf_12 : decode cX12_leastOf 12 = .ok (.iinc 2 1, 3) := dz_132 (n := 0) (r := 12) hz_X12_leastOf_0 rfl rfl rfl
theorem dX12_leastOf_15 : decode cX12_leastOf 15 = .ok (.goto (-13), 3) := dz_167 (n := 0) (r := 15) hz_X12_leastOf_0 rfl (by decide +kernel)
theorem dX12_leastOf_18 : decode cX12_leastOf 18 = .ok (.iload_n 2, 1) := dz_28 (n := 0) (r := 18) hz_X12_leastOf_0 rfl
theorem dX12_leastOf_19 : decode cX12_leastOf 19 = .ok (.ireturn, 1) := dz_172 (n := 0) (r := 19) hz_X12_leastOf_0 rfl
theorem hz_X12_upsOf_0 : (cX12_upsOf.data.toList.drop 0).take 40 = [19, 1, 28, 62, 3, 54, 4, 21, 4, 42, 182, 1, 14, 162, 0, 39, 42, 180, 0, 57, 21, 4, 46, 27, 160, 0, 22, 28, 21, 4, 184, 1, 36, 104, 29, 162, 0, 11, 28, 21] := by decide +kernel
theorem dX12_upsOf_0 : decode cX12_upsOf 0 = .ok (.ldc_w 284, 3) := dz_19 (n := 0) (r := 0) hz_X12_upsOf_0 rfl rfl
theorem dX12_upsOf_3 : decode cX12_upsOf 3 = .ok (.istore_n 3, 1) := dz_62 (n := 0) (r := 3) hz_X12_upsOf_0 rfl
theorem dX12_upsOf_4 : decode cX12_upsOf 4 = .ok (.iconst 0, 1) := dz_3 (n := 0) (r := 4) hz_X12_upsOf_0 rfl
theorem dX12_upsOf_5 : decode cX12_upsOf 5 = .ok (.istore 4, 2) := dz_54 (n := 0) (r := 5) hz_X12_upsOf_0 rfl rfl
theorem dX12_upsOf_7 : decode cX12_upsOf 7 = .ok (.iload 4, 2) := dz_21 (n := 0) (r := 7) hz_X12_upsOf_0 rfl rfl
theorem dX12_upsOf_9 : decode cX12_upsOf 9 = .ok (.aload_n 0, 1) := dz_42 (n := 0) (r := 9) hz_X12_upsOf_0 rfl
theorem dX12_upsOf_10 : decode cX12_upsOf 10 = .ok (.invokevirtual 270, 3) := dz_182 (n := 0) (r := 10) hz_X12_upsOf_0 rfl rfl
theorem dX12_upsOf_13 : decode cX12_upsOf 13 = .ok (.if_icmp .ge 39, 3) := dz_162 (n := 0) (r := 13) hz_X12_upsOf_0 rfl (by decide +kernel)
theorem dX12_upsOf_16 : decode cX12_upsOf 16 = .ok (.aload_n 0, 1) := dz_42 (n := 0) (r := 16) hz_X12_upsOf_0 rfl
theorem dX12_upsOf_17 : decode cX12_upsOf 17 = .ok (.getfield 57, 3) := dz_180 (n := 0) (r := 17) hz_X12_upsOf_0 rfl rfl
theorem dX12_upsOf_20 : decode cX12_upsOf 20 = .ok (.iload 4, 2) := dz_21 (n := 0) (r := 20) hz_X12_upsOf_0 rfl rfl
theorem dX12_upsOf_22 : decode cX12_upsOf 22 = .ok (.iaload, 1) := dz_46 (n := 0) (r := 22) hz_X12_upsOf_0 rfl
theorem dX12_upsOf_23 : decode cX12_upsOf 23 = .ok (.iload_n 1, 1) := dz_27 (n := 0) (r := 23) hz_X12_upsOf_0 rfl
theorem dX12_upsOf_24 : decode cX12_upsOf 24 = .ok (.if_icmp .ne 22, 3) := dz_160 (n := 0) (r := 24) hz_X12_upsOf_0 rfl (by decide +kernel)
theorem dX12_upsOf_27 : decode cX12_upsOf 27 = .ok (.iload_n 2, 1) := dz_28 (n := 0) (r := 27) hz_X12_upsOf_0 rfl
theorem dX12_upsOf_28 : decode cX12_upsOf 28 = .ok (.iload 4, 2) := dz_21 (n := 0) (r := 28) hz_X12_upsOf_0 rfl rfl
theorem dX12_upsOf_30 : decode cX12_upsOf 30 = .ok (.invokestatic 292, 3) := dz_184 (n := 0) (r := 30) hz_X12_upsOf_0 rfl rfl
theorem hz_X12_upsOf_32 : (cX12_upsOf.data.toList.drop 32).take 40 = [36, 104, 29, 162, 0, 11, 28, 21, 4, 184, 1, 36, 104, 62, 132, 4, 1, 167, 255, 214, 28, 29, 104, 172] := by decide +kernel
theorem dX12_upsOf_33 : decode cX12_upsOf 33 = .ok (.imul, 1) := dz_104 (n := 32) (r := 1) hz_X12_upsOf_32 rfl
theorem dX12_upsOf_34 : decode cX12_upsOf 34 = .ok (.iload_n 3, 1) := dz_29 (n := 32) (r := 2) hz_X12_upsOf_32 rfl
theorem dX12_upsOf_35 : decode cX12_upsOf 35 = .ok (.if_icmp .ge 11, 3) := dz_162 (n := 32) (r := 3) hz_X12_upsOf_32 rfl (by decide +kernel)
theorem dX12_upsOf_38 : decode cX12_upsOf 38 = .ok (.iload_n 2, 1) := dz_28 (n := 32) (r := 6) hz_X12_upsOf_32 rfl
theorem dX12_upsOf_39 : decode cX12_upsOf 39 = .ok (.iload 4, 2) := dz_21 (n := 32) (r := 7) hz_X12_upsOf_32 rfl rfl
theorem dX12_upsOf_41 : decode cX12_upsOf 41 = .ok (.invokestatic 292, 3) := dz_184 (n := 32) (r := 9) hz_X12_upsOf_32 rfl rfl
theorem dX12_upsOf_44 : decode cX12_upsOf 44 = .ok (.imul, 1) := dz_104 (n := 32) (r := 12) hz_X12_upsOf_32 rfl
theorem dX12_upsOf_45 : decode cX12_upsOf 45 = .ok (.istore_n 3, 1) := dz_62 (n := 32) (r := 13) hz_X12_upsOf_32 rfl
theorem dX12_upsOf_46 : decode cX12_upsOf 46 = .ok (.iinc 4 1, 3) := dz_132 (n := 32) (r := 14) hz_X12_upsOf_32 rfl rfl rfl
theorem dX12_upsOf_49 : decode cX12_upsOf 49 = .ok (.goto (-42), 3) := dz_167 (n := 32) (r := 17) hz_X12_upsOf_32 rfl (by decide +kernel)
theorem dX12_upsOf_52 : decode cX12_upsOf 52 = .ok (.iload_n 2, 1) := dz_28 (n := 32) (r := 20) hz_X12_upsOf_32 rfl
theorem dX12_upsOf_53 : decode cX12_upsOf 53 = .ok (.iload_n 3, 1) := dz_29 (n := 32) (r := 21) hz_X12_upsOf_32 rfl
theorem dX12_upsOf_54 : decode cX12_upsOf 54 = .ok (.imul, 1) := dz_104 (n := 32) (r := 22) hz_X12_upsOf_32 rfl
theorem dX12_upsOf_55 : decode cX12_upsOf 55 = .ok (.ireturn, 1) := dz_172 (n := 32) (r := 23) hz_X12_upsOf_32 rfl
theorem hz_X12_level_0 : (cX12_level.data.toList.drop 0).take 40 = [42, 182, 1, 5, 27, 2, 160, 0, 8, 42, 180, 1, 29, 172, 27, 3, 42, 180, 1, 29, 4, 100, 184, 0, 213, 154, 0, 7, 19, 1, 32, 172, 28, 170, 0, 0, 0, 0, 0, 93] := by decide +kernel
theorem dX12_level_0 : decode cX12_level 0 = .ok (.aload_n 0, 1) := dz_42 (n := 0) (r := 0) hz_X12_level_0 rfl
theorem dX12_level_1 : decode cX12_level 1 = .ok (.invokevirtual 261, 3) := dz_182 (n := 0) (r := 1) hz_X12_level_0 rfl rfl
theorem dX12_level_4 : decode cX12_level 4 = .ok (.iload_n 1, 1) := dz_27 (n := 0) (r := 4) hz_X12_level_0 rfl
theorem dX12_level_5 : decode cX12_level 5 = .ok (.iconst (-1), 1) := dz_2 (n := 0) (r := 5) hz_X12_level_0 rfl
theorem dX12_level_6 : decode cX12_level 6 = .ok (.if_icmp .ne 8, 3) := dz_160 (n := 0) (r := 6) hz_X12_level_0 rfl (by decide +kernel)
theorem dX12_level_9 : decode cX12_level 9 = .ok (.aload_n 0, 1) := dz_42 (n := 0) (r := 9) hz_X12_level_0 rfl
theorem dX12_level_10 : decode cX12_level 10 = .ok (.getfield 285, 3) := dz_180 (n := 0) (r := 10) hz_X12_level_0 rfl rfl
theorem dX12_level_13 : decode cX12_level 13 = .ok (.ireturn, 1) := dz_172 (n := 0) (r := 13) hz_X12_level_0 rfl
theorem dX12_level_14 : decode cX12_level 14 = .ok (.iload_n 1, 1) := dz_27 (n := 0) (r := 14) hz_X12_level_0 rfl
theorem dX12_level_15 : decode cX12_level 15 = .ok (.iconst 0, 1) := dz_3 (n := 0) (r := 15) hz_X12_level_0 rfl
theorem dX12_level_16 : decode cX12_level 16 = .ok (.aload_n 0, 1) := dz_42 (n := 0) (r := 16) hz_X12_level_0 rfl
theorem dX12_level_17 : decode cX12_level 17 = .ok (.getfield 285, 3) := dz_180 (n := 0) (r := 17) hz_X12_level_0 rfl rfl
theorem dX12_level_20 : decode cX12_level 20 = .ok (.iconst 1, 1) := dz_4 (n := 0) (r := 20) hz_X12_level_0 rfl
theorem dX12_level_21 : decode cX12_level 21 = .ok (.isub, 1) := dz_100 (n := 0) (r := 21) hz_X12_level_0 rfl
theorem dX12_level_22 : decode cX12_level 22 = .ok (.invokestatic 213, 3) := dz_184 (n := 0) (r := 22) hz_X12_level_0 rfl rfl
theorem dX12_level_25 : decode cX12_level 25 = .ok (.ifCond .ne 7, 3) := dz_154 (n := 0) (r := 25) hz_X12_level_0 rfl (by decide +kernel)
theorem dX12_level_28 : decode cX12_level 28 = .ok (.ldc_w 288, 3) := dz_19 (n := 0) (r := 28) hz_X12_level_0 rfl rfl
theorem dX12_level_31 : decode cX12_level 31 = .ok (.ireturn, 1) := dz_172 (n := 0) (r := 31) hz_X12_level_0 rfl
theorem hz_X12_level_32 : (cX12_level.data.toList.drop 32).take 40 = [28, 170, 0, 0, 0, 0, 0, 93, 0, 0, 0, 0, 0, 0, 0, 4, 0, 0, 0, 35, 0, 0, 0, 42, 0, 0, 0, 58, 0, 0, 0, 69, 0, 0, 0, 81, 42, 180, 0, 63] := by decide +kernel
theorem dX12_level_32 : decode cX12_level 32 = .ok (.iload_n 2, 1) := dz_28 (n := 32) (r := 0) hz_X12_level_32 rfl
theorem dX12_level_33 : decode cX12_level 33 = .ok (.tableswitch 93 0 4 #[35, 42, 58, 69, 81], 35) := by decide +kernel
theorem hz_X12_level_64 : (cX12_level.data.toList.drop 64).take 40 = [0, 0, 0, 81, 42, 180, 0, 63, 27, 46, 172, 42, 180, 0, 60, 17, 0, 150, 42, 180, 0, 63, 27, 46, 96, 46, 172, 42, 42, 180, 0, 63, 27, 46, 182, 1, 39, 172, 42, 42] := by decide +kernel
theorem dX12_level_68 : decode cX12_level 68 = .ok (.aload_n 0, 1) := dz_42 (n := 64) (r := 4) hz_X12_level_64 rfl
theorem dX12_level_69 : decode cX12_level 69 = .ok (.getfield 63, 3) := dz_180 (n := 64) (r := 5) hz_X12_level_64 rfl rfl
theorem dX12_level_72 : decode cX12_level 72 = .ok (.iload_n 1, 1) := dz_27 (n := 64) (r := 8) hz_X12_level_64 rfl
theorem dX12_level_73 : decode cX12_level 73 = .ok (.iaload, 1) := dz_46 (n := 64) (r := 9) hz_X12_level_64 rfl
theorem dX12_level_74 : decode cX12_level 74 = .ok (.ireturn, 1) := dz_172 (n := 64) (r := 10) hz_X12_level_64 rfl
theorem dX12_level_75 : decode cX12_level 75 = .ok (.aload_n 0, 1) := dz_42 (n := 64) (r := 11) hz_X12_level_64 rfl
theorem dX12_level_76 : decode cX12_level 76 = .ok (.getfield 60, 3) := dz_180 (n := 64) (r := 12) hz_X12_level_64 rfl rfl
theorem dX12_level_79 : decode cX12_level 79 = .ok (.sipush 150, 3) := dz_17 (n := 64) (r := 15) hz_X12_level_64 rfl (by decide +kernel)
theorem dX12_level_82 : decode cX12_level 82 = .ok (.aload_n 0, 1) := dz_42 (n := 64) (r := 18) hz_X12_level_64 rfl
theorem dX12_level_83 : decode cX12_level 83 = .ok (.getfield 63, 3) := dz_180 (n := 64) (r := 19) hz_X12_level_64 rfl rfl
theorem dX12_level_86 : decode cX12_level 86 = .ok (.iload_n 1, 1) := dz_27 (n := 64) (r := 22) hz_X12_level_64 rfl
theorem dX12_level_87 : decode cX12_level 87 = .ok (.iaload, 1) := dz_46 (n := 64) (r := 23) hz_X12_level_64 rfl
theorem dX12_level_88 : decode cX12_level 88 = .ok (.iadd, 1) := dz_96 (n := 64) (r := 24) hz_X12_level_64 rfl
theorem dX12_level_89 : decode cX12_level 89 = .ok (.iaload, 1) := dz_46 (n := 64) (r := 25) hz_X12_level_64 rfl
theorem dX12_level_90 : decode cX12_level 90 = .ok (.ireturn, 1) := dz_172 (n := 64) (r := 26) hz_X12_level_64 rfl
theorem dX12_level_91 : decode cX12_level 91 = .ok (.aload_n 0, 1) := dz_42 (n := 64) (r := 27) hz_X12_level_64 rfl
theorem dX12_level_92 : decode cX12_level 92 = .ok (.aload_n 0, 1) := dz_42 (n := 64) (r := 28) hz_X12_level_64 rfl
theorem dX12_level_93 : decode cX12_level 93 = .ok (.getfield 63, 3) := dz_180 (n := 64) (r := 29) hz_X12_level_64 rfl rfl
theorem hz_X12_level_96 : (cX12_level.data.toList.drop 96).take 40 = [27, 46, 182, 1, 39, 172, 42, 42, 180, 0, 63, 27, 46, 4, 182, 1, 42, 172, 42, 42, 180, 0, 63, 27, 46, 2, 182, 1, 42, 172, 19, 1, 32, 172] := by decide +kernel
theorem dX12_level_96 : decode cX12_level 96 = .ok (.iload_n 1, 1) := dz_27 (n := 96) (r := 0) hz_X12_level_96 rfl
theorem dX12_level_97 : decode cX12_level 97 = .ok (.iaload, 1) := dz_46 (n := 96) (r := 1) hz_X12_level_96 rfl
theorem dX12_level_98 : decode cX12_level 98 = .ok (.invokevirtual 295, 3) := dz_182 (n := 96) (r := 2) hz_X12_level_96 rfl rfl
theorem dX12_level_101 : decode cX12_level 101 = .ok (.ireturn, 1) := dz_172 (n := 96) (r := 5) hz_X12_level_96 rfl
theorem dX12_level_102 : decode cX12_level 102 = .ok (.aload_n 0, 1) := dz_42 (n := 96) (r := 6) hz_X12_level_96 rfl
theorem dX12_level_103 : decode cX12_level 103 = .ok (.aload_n 0, 1) := dz_42 (n := 96) (r := 7) hz_X12_level_96 rfl
theorem dX12_level_104 : decode cX12_level 104 = .ok (.getfield 63, 3) := dz_180 (n := 96) (r := 8) hz_X12_level_96 rfl rfl
theorem dX12_level_107 : decode cX12_level 107 = .ok (.iload_n 1, 1) := dz_27 (n := 96) (r := 11) hz_X12_level_96 rfl
theorem dX12_level_108 : decode cX12_level 108 = .ok (.iaload, 1) := dz_46 (n := 96) (r := 12) hz_X12_level_96 rfl
theorem dX12_level_109 : decode cX12_level 109 = .ok (.iconst 1, 1) := dz_4 (n := 96) (r := 13) hz_X12_level_96 rfl
theorem dX12_level_110 : decode cX12_level 110 = .ok (.invokevirtual 298, 3) := dz_182 (n := 96) (r := 14) hz_X12_level_96 rfl rfl
theorem dX12_level_113 : decode cX12_level 113 = .ok (.ireturn, 1) := dz_172 (n := 96) (r := 17) hz_X12_level_96 rfl
theorem dX12_level_114 : decode cX12_level 114 = .ok (.aload_n 0, 1) := dz_42 (n := 96) (r := 18) hz_X12_level_96 rfl
theorem dX12_level_115 : decode cX12_level 115 = .ok (.aload_n 0, 1) := dz_42 (n := 96) (r := 19) hz_X12_level_96 rfl
theorem dX12_level_116 : decode cX12_level 116 = .ok (.getfield 63, 3) := dz_180 (n := 96) (r := 20) hz_X12_level_96 rfl rfl
theorem dX12_level_119 : decode cX12_level 119 = .ok (.iload_n 1, 1) := dz_27 (n := 96) (r := 23) hz_X12_level_96 rfl
theorem dX12_level_120 : decode cX12_level 120 = .ok (.iaload, 1) := dz_46 (n := 96) (r := 24) hz_X12_level_96 rfl
theorem dX12_level_121 : decode cX12_level 121 = .ok (.iconst (-1), 1) := dz_2 (n := 96) (r := 25) hz_X12_level_96 rfl
theorem dX12_level_122 : decode cX12_level 122 = .ok (.invokevirtual 298, 3) := dz_182 (n := 96) (r := 26) hz_X12_level_96 rfl rfl
theorem dX12_level_125 : decode cX12_level 125 = .ok (.ireturn, 1) := dz_172 (n := 96) (r := 29) hz_X12_level_96 rfl
theorem dX12_level_126 : decode cX12_level 126 = .ok (.ldc_w 288, 3) := dz_19 (n := 96) (r := 30) hz_X12_level_96 rfl rfl
theorem hz_X12_level_128 : (cX12_level.data.toList.drop 128).take 40 = [32, 172] := by decide +kernel
theorem dX12_level_129 : decode cX12_level 129 = .ok (.ireturn, 1) := dz_172 (n := 128) (r := 1) hz_X12_level_128 rfl
theorem hz_X12_both_0 : (cX12_both.data.toList.drop 0).take 40 = [42, 182, 1, 5, 3, 62, 3, 54, 4, 21, 4, 42, 182, 1, 14, 162, 0, 45, 42, 180, 0, 57, 21, 4, 46, 19, 1, 28, 162, 0, 26, 42, 180, 0, 57, 21, 4, 46, 27, 160] := by decide +kernel
theorem dX12_both_0 : decode cX12_both 0 = .ok (.aload_n 0, 1) := dz_42 (n := 0) (r := 0) hz_X12_both_0 rfl
theorem dX12_both_1 : decode cX12_both 1 = .ok (.invokevirtual 261, 3) := dz_182 (n := 0) (r := 1) hz_X12_both_0 rfl rfl
theorem dX12_both_4 : decode cX12_both 4 = .ok (.iconst 0, 1) := dz_3 (n := 0) (r := 4) hz_X12_both_0 rfl
theorem dX12_both_5 : decode cX12_both 5 = .ok (.istore_n 3, 1) := dz_62 (n := 0) (r := 5) hz_X12_both_0 rfl
theorem dX12_both_6 : decode cX12_both 6 = .ok (.iconst 0, 1) := dz_3 (n := 0) (r := 6) hz_X12_both_0 rfl
theorem dX12_both_7 : decode cX12_both 7 = .ok (.istore 4, 2) := dz_54 (n := 0) (r := 7) hz_X12_both_0 rfl rfl
theorem dX12_both_9 : decode cX12_both 9 = .ok (.iload 4, 2) := dz_21 (n := 0) (r := 9) hz_X12_both_0 rfl rfl
theorem dX12_both_11 : decode cX12_both 11 = .ok (.aload_n 0, 1) := dz_42 (n := 0) (r := 11) hz_X12_both_0 rfl
theorem dX12_both_12 : decode cX12_both 12 = .ok (.invokevirtual 270, 3) := dz_182 (n := 0) (r := 12) hz_X12_both_0 rfl rfl
theorem dX12_both_15 : decode cX12_both 15 = .ok (.if_icmp .ge 45, 3) := dz_162 (n := 0) (r := 15) hz_X12_both_0 rfl (by decide +kernel)
theorem dX12_both_18 : decode cX12_both 18 = .ok (.aload_n 0, 1) := dz_42 (n := 0) (r := 18) hz_X12_both_0 rfl
theorem dX12_both_19 : decode cX12_both 19 = .ok (.getfield 57, 3) := dz_180 (n := 0) (r := 19) hz_X12_both_0 rfl rfl
theorem dX12_both_22 : decode cX12_both 22 = .ok (.iload 4, 2) := dz_21 (n := 0) (r := 22) hz_X12_both_0 rfl rfl
theorem dX12_both_24 : decode cX12_both 24 = .ok (.iaload, 1) := dz_46 (n := 0) (r := 24) hz_X12_both_0 rfl
theorem dX12_both_25 : decode cX12_both 25 = .ok (.ldc_w 284, 3) := dz_19 (n := 0) (r := 25) hz_X12_both_0 rfl rfl
theorem dX12_both_28 : decode cX12_both 28 = .ok (.if_icmp .ge 26, 3) := dz_162 (n := 0) (r := 28) hz_X12_both_0 rfl (by decide +kernel)
theorem dX12_both_31 : decode cX12_both 31 = .ok (.aload_n 0, 1) := dz_42 (n := 0) (r := 31) hz_X12_both_0 rfl
theorem hz_X12_both_32 : (cX12_both.data.toList.drop 32).take 40 = [180, 0, 57, 21, 4, 46, 27, 160, 0, 15, 21, 4, 184, 1, 36, 28, 160, 0, 6, 132, 3, 1, 132, 4, 1, 167, 255, 208, 29, 172] := by decide +kernel
theorem dX12_both_32 : decode cX12_both 32 = .ok (.getfield 57, 3) := dz_180 (n := 32) (r := 0) hz_X12_both_32 rfl rfl
theorem dX12_both_35 : decode cX12_both 35 = .ok (.iload 4, 2) := dz_21 (n := 32) (r := 3) hz_X12_both_32 rfl rfl
theorem dX12_both_37 : decode cX12_both 37 = .ok (.iaload, 1) := dz_46 (n := 32) (r := 5) hz_X12_both_32 rfl
theorem dX12_both_38 : decode cX12_both 38 = .ok (.iload_n 1, 1) := dz_27 (n := 32) (r := 6) hz_X12_both_32 rfl
theorem dX12_both_39 : decode cX12_both 39 = .ok (.if_icmp .ne 15, 3) := dz_160 (n := 32) (r := 7) hz_X12_both_32 rfl (by decide +kernel)
theorem dX12_both_42 : decode cX12_both 42 = .ok (.iload 4, 2) := dz_21 (n := 32) (r := 10) hz_X12_both_32 rfl rfl
theorem dX12_both_44 : decode cX12_both 44 = .ok (.invokestatic 292, 3) := dz_184 (n := 32) (r := 12) hz_X12_both_32 rfl rfl
theorem dX12_both_47 : decode cX12_both 47 = .ok (.iload_n 2, 1) := dz_28 (n := 32) (r := 15) hz_X12_both_32 rfl
theorem dX12_both_48 : decode cX12_both 48 = .ok (.if_icmp .ne 6, 3) := dz_160 (n := 32) (r := 16) hz_X12_both_32 rfl (by decide +kernel)
theorem dX12_both_51 : decode cX12_both 51 = .ok (.iinc 3 1, 3) := dz_132 (n := 32) (r := 19) hz_X12_both_32 rfl rfl rfl
theorem dX12_both_54 : decode cX12_both 54 = .ok (.iinc 4 1, 3) := dz_132 (n := 32) (r := 22) hz_X12_both_32 rfl rfl rfl
theorem dX12_both_57 : decode cX12_both 57 = .ok (.goto (-48), 3) := dz_167 (n := 32) (r := 25) hz_X12_both_32 rfl (by decide +kernel)
theorem dX12_both_60 : decode cX12_both 60 = .ok (.iload_n 3, 1) := dz_29 (n := 32) (r := 28) hz_X12_both_32 rfl
theorem dX12_both_61 : decode cX12_both 61 = .ok (.ireturn, 1) := dz_172 (n := 32) (r := 29) hz_X12_both_32 rfl
theorem hz_X12_brokenOf_0 : (cX12_brokenOf.data.toList.drop 0).take 40 = [3, 61, 3, 62, 29, 5, 42, 182, 0, 193, 104, 162, 0, 100, 29, 5, 108, 54, 4, 29, 5, 112, 4, 160, 0, 7, 4, 167, 0, 4, 3, 54, 5, 42, 21, 4, 21, 5, 182, 0] := by decide +kernel
theorem dX12_brokenOf_0 : decode cX12_brokenOf 0 = .ok (.iconst 0, 1) := dz_3 (n := 0) (r := 0) hz_X12_brokenOf_0 rfl
theorem dX12_brokenOf_1 : decode cX12_brokenOf 1 = .ok (.istore_n 2, 1) := dz_61 (n := 0) (r := 1) hz_X12_brokenOf_0 rfl
theorem dX12_brokenOf_2 : decode cX12_brokenOf 2 = .ok (.iconst 0, 1) := dz_3 (n := 0) (r := 2) hz_X12_brokenOf_0 rfl
theorem dX12_brokenOf_3 : decode cX12_brokenOf 3 = .ok (.istore_n 3, 1) := dz_62 (n := 0) (r := 3) hz_X12_brokenOf_0 rfl
theorem dX12_brokenOf_4 : decode cX12_brokenOf 4 = .ok (.iload_n 3, 1) := dz_29 (n := 0) (r := 4) hz_X12_brokenOf_0 rfl
theorem dX12_brokenOf_5 : decode cX12_brokenOf 5 = .ok (.iconst 2, 1) := dz_5 (n := 0) (r := 5) hz_X12_brokenOf_0 rfl
theorem dX12_brokenOf_6 : decode cX12_brokenOf 6 = .ok (.aload_n 0, 1) := dz_42 (n := 0) (r := 6) hz_X12_brokenOf_0 rfl
theorem dX12_brokenOf_7 : decode cX12_brokenOf 7 = .ok (.invokevirtual 193, 3) := dz_182 (n := 0) (r := 7) hz_X12_brokenOf_0 rfl rfl
theorem dX12_brokenOf_10 : decode cX12_brokenOf 10 = .ok (.imul, 1) := dz_104 (n := 0) (r := 10) hz_X12_brokenOf_0 rfl
theorem dX12_brokenOf_11 : decode cX12_brokenOf 11 = .ok (.if_icmp .ge 100, 3) := dz_162 (n := 0) (r := 11) hz_X12_brokenOf_0 rfl (by decide +kernel)
theorem dX12_brokenOf_14 : decode cX12_brokenOf 14 = .ok (.iload_n 3, 1) := dz_29 (n := 0) (r := 14) hz_X12_brokenOf_0 rfl
theorem dX12_brokenOf_15 : decode cX12_brokenOf 15 = .ok (.iconst 2, 1) := dz_5 (n := 0) (r := 15) hz_X12_brokenOf_0 rfl
theorem dX12_brokenOf_16 : decode cX12_brokenOf 16 = .ok (.idiv, 1) := dz_108 (n := 0) (r := 16) hz_X12_brokenOf_0 rfl
theorem dX12_brokenOf_17 : decode cX12_brokenOf 17 = .ok (.istore 4, 2) := dz_54 (n := 0) (r := 17) hz_X12_brokenOf_0 rfl rfl
theorem dX12_brokenOf_19 : decode cX12_brokenOf 19 = .ok (.iload_n 3, 1) := dz_29 (n := 0) (r := 19) hz_X12_brokenOf_0 rfl
theorem dX12_brokenOf_20 : decode cX12_brokenOf 20 = .ok (.iconst 2, 1) := dz_5 (n := 0) (r := 20) hz_X12_brokenOf_0 rfl
theorem dX12_brokenOf_21 : decode cX12_brokenOf 21 = .ok (.irem, 1) := dz_112 (n := 0) (r := 21) hz_X12_brokenOf_0 rfl
theorem dX12_brokenOf_22 : decode cX12_brokenOf 22 = .ok (.iconst 1, 1) := dz_4 (n := 0) (r := 22) hz_X12_brokenOf_0 rfl
theorem dX12_brokenOf_23 : decode cX12_brokenOf 23 = .ok (.if_icmp .ne 7, 3) := dz_160 (n := 0) (r := 23) hz_X12_brokenOf_0 rfl (by decide +kernel)
theorem dX12_brokenOf_26 : decode cX12_brokenOf 26 = .ok (.iconst 1, 1) := dz_4 (n := 0) (r := 26) hz_X12_brokenOf_0 rfl
theorem dX12_brokenOf_27 : decode cX12_brokenOf 27 = .ok (.goto 4, 3) := dz_167 (n := 0) (r := 27) hz_X12_brokenOf_0 rfl (by decide +kernel)
theorem dX12_brokenOf_30 : decode cX12_brokenOf 30 = .ok (.iconst 0, 1) := dz_3 (n := 0) (r := 30) hz_X12_brokenOf_0 rfl
theorem dX12_brokenOf_31 : decode cX12_brokenOf 31 = .ok (.istore 5, 2) := dz_54 (n := 0) (r := 31) hz_X12_brokenOf_0 rfl rfl
theorem hz_X12_brokenOf_32 : (cX12_brokenOf.data.toList.drop 32).take 40 = [5, 42, 21, 4, 21, 5, 182, 0, 236, 54, 6, 42, 180, 0, 40, 21, 4, 21, 5, 184, 0, 240, 54, 7, 21, 6, 155, 0, 47, 21, 7, 154, 0, 6, 167, 0, 39, 27, 21, 4] := by decide +kernel
theorem dX12_brokenOf_33 : decode cX12_brokenOf 33 = .ok (.aload_n 0, 1) := dz_42 (n := 32) (r := 1) hz_X12_brokenOf_32 rfl
theorem dX12_brokenOf_34 : decode cX12_brokenOf 34 = .ok (.iload 4, 2) := dz_21 (n := 32) (r := 2) hz_X12_brokenOf_32 rfl rfl
theorem dX12_brokenOf_36 : decode cX12_brokenOf 36 = .ok (.iload 5, 2) := dz_21 (n := 32) (r := 4) hz_X12_brokenOf_32 rfl rfl
theorem dX12_brokenOf_38 : decode cX12_brokenOf 38 = .ok (.invokevirtual 236, 3) := dz_182 (n := 32) (r := 6) hz_X12_brokenOf_32 rfl rfl
theorem dX12_brokenOf_41 : decode cX12_brokenOf 41 = .ok (.istore 6, 2) := dz_54 (n := 32) (r := 9) hz_X12_brokenOf_32 rfl rfl
theorem dX12_brokenOf_43 : decode cX12_brokenOf 43 = .ok (.aload_n 0, 1) := dz_42 (n := 32) (r := 11) hz_X12_brokenOf_32 rfl
theorem dX12_brokenOf_44 : decode cX12_brokenOf 44 = .ok (.getfield 40, 3) := dz_180 (n := 32) (r := 12) hz_X12_brokenOf_32 rfl rfl
theorem dX12_brokenOf_47 : decode cX12_brokenOf 47 = .ok (.iload 4, 2) := dz_21 (n := 32) (r := 15) hz_X12_brokenOf_32 rfl rfl
theorem dX12_brokenOf_49 : decode cX12_brokenOf 49 = .ok (.iload 5, 2) := dz_21 (n := 32) (r := 17) hz_X12_brokenOf_32 rfl rfl
theorem dX12_brokenOf_51 : decode cX12_brokenOf 51 = .ok (.invokestatic 240, 3) := dz_184 (n := 32) (r := 19) hz_X12_brokenOf_32 rfl rfl
theorem dX12_brokenOf_54 : decode cX12_brokenOf 54 = .ok (.istore 7, 2) := dz_54 (n := 32) (r := 22) hz_X12_brokenOf_32 rfl rfl
theorem dX12_brokenOf_56 : decode cX12_brokenOf 56 = .ok (.iload 6, 2) := dz_21 (n := 32) (r := 24) hz_X12_brokenOf_32 rfl rfl
theorem dX12_brokenOf_58 : decode cX12_brokenOf 58 = .ok (.ifCond .lt 47, 3) := dz_155 (n := 32) (r := 26) hz_X12_brokenOf_32 rfl (by decide +kernel)
theorem dX12_brokenOf_61 : decode cX12_brokenOf 61 = .ok (.iload 7, 2) := dz_21 (n := 32) (r := 29) hz_X12_brokenOf_32 rfl rfl
theorem dX12_brokenOf_63 : decode cX12_brokenOf 63 = .ok (.ifCond .ne 6, 3) := dz_154 (n := 32) (r := 31) hz_X12_brokenOf_32 rfl (by decide +kernel)
theorem hz_X12_brokenOf_64 : (cX12_brokenOf.data.toList.drop 64).take 40 = [0, 6, 167, 0, 39, 27, 21, 4, 184, 1, 45, 27, 21, 6, 184, 1, 45, 160, 0, 7, 4, 167, 0, 4, 3, 21, 7, 156, 0, 7, 4, 167, 0, 4, 3, 160, 0, 6, 132, 2] := by decide +kernel
theorem dX12_brokenOf_66 : decode cX12_brokenOf 66 = .ok (.goto 39, 3) := dz_167 (n := 64) (r := 2) hz_X12_brokenOf_64 rfl (by decide +kernel)
theorem dX12_brokenOf_69 : decode cX12_brokenOf 69 = .ok (.iload_n 1, 1) := dz_27 (n := 64) (r := 5) hz_X12_brokenOf_64 rfl
theorem dX12_brokenOf_70 : decode cX12_brokenOf 70 = .ok (.iload 4, 2) := dz_21 (n := 64) (r := 6) hz_X12_brokenOf_64 rfl rfl
theorem dX12_brokenOf_72 : decode cX12_brokenOf 72 = .ok (.invokestatic 301, 3) := dz_184 (n := 64) (r := 8) hz_X12_brokenOf_64 rfl rfl
theorem dX12_brokenOf_75 : decode cX12_brokenOf 75 = .ok (.iload_n 1, 1) := dz_27 (n := 64) (r := 11) hz_X12_brokenOf_64 rfl
theorem dX12_brokenOf_76 : decode cX12_brokenOf 76 = .ok (.iload 6, 2) := dz_21 (n := 64) (r := 12) hz_X12_brokenOf_64 rfl rfl
theorem dX12_brokenOf_78 : decode cX12_brokenOf 78 = .ok (.invokestatic 301, 3) := dz_184 (n := 64) (r := 14) hz_X12_brokenOf_64 rfl rfl
theorem dX12_brokenOf_81 : decode cX12_brokenOf 81 = .ok (.if_icmp .ne 7, 3) := dz_160 (n := 64) (r := 17) hz_X12_brokenOf_64 rfl (by decide +kernel)
theorem dX12_brokenOf_84 : decode cX12_brokenOf 84 = .ok (.iconst 1, 1) := dz_4 (n := 64) (r := 20) hz_X12_brokenOf_64 rfl
theorem dX12_brokenOf_85 : decode cX12_brokenOf 85 = .ok (.goto 4, 3) := dz_167 (n := 64) (r := 21) hz_X12_brokenOf_64 rfl (by decide +kernel)
theorem dX12_brokenOf_88 : decode cX12_brokenOf 88 = .ok (.iconst 0, 1) := dz_3 (n := 64) (r := 24) hz_X12_brokenOf_64 rfl
theorem dX12_brokenOf_89 : decode cX12_brokenOf 89 = .ok (.iload 7, 2) := dz_21 (n := 64) (r := 25) hz_X12_brokenOf_64 rfl rfl
theorem dX12_brokenOf_91 : decode cX12_brokenOf 91 = .ok (.ifCond .ge 7, 3) := dz_156 (n := 64) (r := 27) hz_X12_brokenOf_64 rfl (by decide +kernel)
theorem dX12_brokenOf_94 : decode cX12_brokenOf 94 = .ok (.iconst 1, 1) := dz_4 (n := 64) (r := 30) hz_X12_brokenOf_64 rfl
theorem dX12_brokenOf_95 : decode cX12_brokenOf 95 = .ok (.goto 4, 3) := dz_167 (n := 64) (r := 31) hz_X12_brokenOf_64 rfl (by decide +kernel)
theorem hz_X12_brokenOf_96 : (cX12_brokenOf.data.toList.drop 96).take 40 = [0, 4, 3, 160, 0, 6, 132, 2, 1, 132, 3, 1, 167, 255, 152, 28, 172] := by decide +kernel
theorem dX12_brokenOf_98 : decode cX12_brokenOf 98 = .ok (.iconst 0, 1) := dz_3 (n := 96) (r := 2) hz_X12_brokenOf_96 rfl
theorem dX12_brokenOf_99 : decode cX12_brokenOf 99 = .ok (.if_icmp .ne 6, 3) := dz_160 (n := 96) (r := 3) hz_X12_brokenOf_96 rfl (by decide +kernel)
theorem dX12_brokenOf_102 : decode cX12_brokenOf 102 = .ok (.iinc 2 1, 3) := dz_132 (n := 96) (r := 6) hz_X12_brokenOf_96 rfl rfl rfl
theorem dX12_brokenOf_105 : decode cX12_brokenOf 105 = .ok (.iinc 3 1, 3) := dz_132 (n := 96) (r := 9) hz_X12_brokenOf_96 rfl rfl rfl
theorem dX12_brokenOf_108 : decode cX12_brokenOf 108 = .ok (.goto (-104), 3) := dz_167 (n := 96) (r := 12) hz_X12_brokenOf_96 rfl (by decide +kernel)
theorem dX12_brokenOf_111 : decode cX12_brokenOf 111 = .ok (.iload_n 2, 1) := dz_28 (n := 96) (r := 15) hz_X12_brokenOf_96 rfl
theorem dX12_brokenOf_112 : decode cX12_brokenOf 112 = .ok (.ireturn, 1) := dz_172 (n := 96) (r := 16) hz_X12_brokenOf_96 rfl
theorem hz_X12_broken_0 : (cX12_broken.data.toList.drop 0).take 40 = [42, 182, 1, 5, 3, 61, 3, 62, 29, 42, 182, 1, 14, 162, 0, 33, 42, 180, 0, 57, 29, 46, 19, 1, 28, 162, 0, 15, 42, 29, 182, 1, 49, 27, 160, 0, 6, 132, 2, 1] := by decide +kernel
theorem dX12_broken_0 : decode cX12_broken 0 = .ok (.aload_n 0, 1) := dz_42 (n := 0) (r := 0) hz_X12_broken_0 rfl
theorem dX12_broken_1 : decode cX12_broken 1 = .ok (.invokevirtual 261, 3) := dz_182 (n := 0) (r := 1) hz_X12_broken_0 rfl rfl
theorem dX12_broken_4 : decode cX12_broken 4 = .ok (.iconst 0, 1) := dz_3 (n := 0) (r := 4) hz_X12_broken_0 rfl
theorem dX12_broken_5 : decode cX12_broken 5 = .ok (.istore_n 2, 1) := dz_61 (n := 0) (r := 5) hz_X12_broken_0 rfl
theorem dX12_broken_6 : decode cX12_broken 6 = .ok (.iconst 0, 1) := dz_3 (n := 0) (r := 6) hz_X12_broken_0 rfl
theorem dX12_broken_7 : decode cX12_broken 7 = .ok (.istore_n 3, 1) := dz_62 (n := 0) (r := 7) hz_X12_broken_0 rfl
theorem dX12_broken_8 : decode cX12_broken 8 = .ok (.iload_n 3, 1) := dz_29 (n := 0) (r := 8) hz_X12_broken_0 rfl
theorem dX12_broken_9 : decode cX12_broken 9 = .ok (.aload_n 0, 1) := dz_42 (n := 0) (r := 9) hz_X12_broken_0 rfl
theorem dX12_broken_10 : decode cX12_broken 10 = .ok (.invokevirtual 270, 3) := dz_182 (n := 0) (r := 10) hz_X12_broken_0 rfl rfl
theorem dX12_broken_13 : decode cX12_broken 13 = .ok (.if_icmp .ge 33, 3) := dz_162 (n := 0) (r := 13) hz_X12_broken_0 rfl (by decide +kernel)
theorem dX12_broken_16 : decode cX12_broken 16 = .ok (.aload_n 0, 1) := dz_42 (n := 0) (r := 16) hz_X12_broken_0 rfl
theorem dX12_broken_17 : decode cX12_broken 17 = .ok (.getfield 57, 3) := dz_180 (n := 0) (r := 17) hz_X12_broken_0 rfl rfl
theorem dX12_broken_20 : decode cX12_broken 20 = .ok (.iload_n 3, 1) := dz_29 (n := 0) (r := 20) hz_X12_broken_0 rfl
theorem dX12_broken_21 : decode cX12_broken 21 = .ok (.iaload, 1) := dz_46 (n := 0) (r := 21) hz_X12_broken_0 rfl
theorem dX12_broken_22 : decode cX12_broken 22 = .ok (.ldc_w 284, 3) := dz_19 (n := 0) (r := 22) hz_X12_broken_0 rfl rfl
theorem dX12_broken_25 : decode cX12_broken 25 = .ok (.if_icmp .ge 15, 3) := dz_162 (n := 0) (r := 25) hz_X12_broken_0 rfl (by decide +kernel)
theorem dX12_broken_28 : decode cX12_broken 28 = .ok (.aload_n 0, 1) := dz_42 (n := 0) (r := 28) hz_X12_broken_0 rfl
theorem dX12_broken_29 : decode cX12_broken 29 = .ok (.iload_n 3, 1) := dz_29 (n := 0) (r := 29) hz_X12_broken_0 rfl
theorem dX12_broken_30 : decode cX12_broken 30 = .ok (.invokevirtual 305, 3) := dz_182 (n := 0) (r := 30) hz_X12_broken_0 rfl rfl
theorem hz_X12_broken_32 : (cX12_broken.data.toList.drop 32).take 40 = [49, 27, 160, 0, 6, 132, 2, 1, 132, 3, 1, 167, 255, 221, 28, 172] := by decide +kernel
theorem dX12_broken_33 : decode cX12_broken 33 = .ok (.iload_n 1, 1) := dz_27 (n := 32) (r := 1) hz_X12_broken_32 rfl
theorem dX12_broken_34 : decode cX12_broken 34 = .ok (.if_icmp .ne 6, 3) := dz_160 (n := 32) (r := 2) hz_X12_broken_32 rfl (by decide +kernel)
theorem dX12_broken_37 : decode cX12_broken 37 = .ok (.iinc 2 1, 3) := dz_132 (n := 32) (r := 5) hz_X12_broken_32 rfl rfl rfl
theorem dX12_broken_40 : decode cX12_broken 40 = .ok (.iinc 3 1, 3) := dz_132 (n := 32) (r := 8) hz_X12_broken_32 rfl rfl rfl
theorem dX12_broken_43 : decode cX12_broken 43 = .ok (.goto (-35), 3) := dz_167 (n := 32) (r := 11) hz_X12_broken_32 rfl (by decide +kernel)
theorem dX12_broken_46 : decode cX12_broken 46 = .ok (.iload_n 2, 1) := dz_28 (n := 32) (r := 14) hz_X12_broken_32 rfl
theorem dX12_broken_47 : decode cX12_broken 47 = .ok (.ireturn, 1) := dz_172 (n := 32) (r := 15) hz_X12_broken_32 rfl
theorem hz_X12_ground_0 : (cX12_ground.data.toList.drop 0).take 40 = [42, 182, 1, 5, 42, 180, 1, 29, 154, 0, 7, 19, 1, 32, 172, 27, 170, 0, 0, 0, 0, 0, 0, 93, 0, 0, 0, 0, 0, 0, 0, 3, 0, 0, 0, 32, 0, 0, 0, 39] := by decide +kernel
theorem dX12_ground_0 : decode cX12_ground 0 = .ok (.aload_n 0, 1) := dz_42 (n := 0) (r := 0) hz_X12_ground_0 rfl
theorem dX12_ground_1 : decode cX12_ground 1 = .ok (.invokevirtual 261, 3) := dz_182 (n := 0) (r := 1) hz_X12_ground_0 rfl rfl
theorem dX12_ground_4 : decode cX12_ground 4 = .ok (.aload_n 0, 1) := dz_42 (n := 0) (r := 4) hz_X12_ground_0 rfl
theorem dX12_ground_5 : decode cX12_ground 5 = .ok (.getfield 285, 3) := dz_180 (n := 0) (r := 5) hz_X12_ground_0 rfl rfl
theorem dX12_ground_8 : decode cX12_ground 8 = .ok (.ifCond .ne 7, 3) := dz_154 (n := 0) (r := 8) hz_X12_ground_0 rfl (by decide +kernel)
theorem dX12_ground_11 : decode cX12_ground 11 = .ok (.ldc_w 288, 3) := dz_19 (n := 0) (r := 11) hz_X12_ground_0 rfl rfl
theorem dX12_ground_14 : decode cX12_ground 14 = .ok (.ireturn, 1) := dz_172 (n := 0) (r := 14) hz_X12_ground_0 rfl
theorem dX12_ground_15 : decode cX12_ground 15 = .ok (.iload_n 1, 1) := dz_27 (n := 0) (r := 15) hz_X12_ground_0 rfl
theorem dX12_ground_16 : decode cX12_ground 16 = .ok (.tableswitch 93 0 3 #[32, 39, 55, 66], 32) := by decide +kernel
theorem hz_X12_ground_32 : (cX12_ground.data.toList.drop 32).take 40 = [0, 0, 0, 32, 0, 0, 0, 39, 0, 0, 0, 55, 0, 0, 0, 66, 42, 180, 0, 63, 3, 46, 172, 42, 180, 0, 60, 17, 0, 150, 42, 180, 0, 63, 3, 46, 96, 46, 172, 42] := by decide +kernel
theorem dX12_ground_48 : decode cX12_ground 48 = .ok (.aload_n 0, 1) := dz_42 (n := 32) (r := 16) hz_X12_ground_32 rfl
theorem dX12_ground_49 : decode cX12_ground 49 = .ok (.getfield 63, 3) := dz_180 (n := 32) (r := 17) hz_X12_ground_32 rfl rfl
theorem dX12_ground_52 : decode cX12_ground 52 = .ok (.iconst 0, 1) := dz_3 (n := 32) (r := 20) hz_X12_ground_32 rfl
theorem dX12_ground_53 : decode cX12_ground 53 = .ok (.iaload, 1) := dz_46 (n := 32) (r := 21) hz_X12_ground_32 rfl
theorem dX12_ground_54 : decode cX12_ground 54 = .ok (.ireturn, 1) := dz_172 (n := 32) (r := 22) hz_X12_ground_32 rfl
theorem dX12_ground_55 : decode cX12_ground 55 = .ok (.aload_n 0, 1) := dz_42 (n := 32) (r := 23) hz_X12_ground_32 rfl
theorem dX12_ground_56 : decode cX12_ground 56 = .ok (.getfield 60, 3) := dz_180 (n := 32) (r := 24) hz_X12_ground_32 rfl rfl
theorem dX12_ground_59 : decode cX12_ground 59 = .ok (.sipush 150, 3) := dz_17 (n := 32) (r := 27) hz_X12_ground_32 rfl (by decide +kernel)
theorem dX12_ground_62 : decode cX12_ground 62 = .ok (.aload_n 0, 1) := dz_42 (n := 32) (r := 30) hz_X12_ground_32 rfl
theorem dX12_ground_63 : decode cX12_ground 63 = .ok (.getfield 63, 3) := dz_180 (n := 32) (r := 31) hz_X12_ground_32 rfl rfl
theorem hz_X12_ground_64 : (cX12_ground.data.toList.drop 64).take 40 = [0, 63, 3, 46, 96, 46, 172, 42, 42, 180, 0, 63, 3, 46, 182, 1, 39, 172, 42, 180, 1, 29, 4, 160, 0, 8, 16, 254, 167, 0, 16, 42, 180, 0, 63, 4, 46, 42, 180, 0] := by decide +kernel
theorem dX12_ground_66 : decode cX12_ground 66 = .ok (.iconst 0, 1) := dz_3 (n := 64) (r := 2) hz_X12_ground_64 rfl
theorem dX12_ground_67 : decode cX12_ground 67 = .ok (.iaload, 1) := dz_46 (n := 64) (r := 3) hz_X12_ground_64 rfl
theorem dX12_ground_68 : decode cX12_ground 68 = .ok (.iadd, 1) := dz_96 (n := 64) (r := 4) hz_X12_ground_64 rfl
theorem dX12_ground_69 : decode cX12_ground 69 = .ok (.iaload, 1) := dz_46 (n := 64) (r := 5) hz_X12_ground_64 rfl
theorem dX12_ground_70 : decode cX12_ground 70 = .ok (.ireturn, 1) := dz_172 (n := 64) (r := 6) hz_X12_ground_64 rfl
theorem dX12_ground_71 : decode cX12_ground 71 = .ok (.aload_n 0, 1) := dz_42 (n := 64) (r := 7) hz_X12_ground_64 rfl
theorem dX12_ground_72 : decode cX12_ground 72 = .ok (.aload_n 0, 1) := dz_42 (n := 64) (r := 8) hz_X12_ground_64 rfl
theorem dX12_ground_73 : decode cX12_ground 73 = .ok (.getfield 63, 3) := dz_180 (n := 64) (r := 9) hz_X12_ground_64 rfl rfl
theorem dX12_ground_76 : decode cX12_ground 76 = .ok (.iconst 0, 1) := dz_3 (n := 64) (r := 12) hz_X12_ground_64 rfl
theorem dX12_ground_77 : decode cX12_ground 77 = .ok (.iaload, 1) := dz_46 (n := 64) (r := 13) hz_X12_ground_64 rfl
theorem dX12_ground_78 : decode cX12_ground 78 = .ok (.invokevirtual 295, 3) := dz_182 (n := 64) (r := 14) hz_X12_ground_64 rfl rfl
theorem dX12_ground_81 : decode cX12_ground 81 = .ok (.ireturn, 1) := dz_172 (n := 64) (r := 17) hz_X12_ground_64 rfl
theorem dX12_ground_82 : decode cX12_ground 82 = .ok (.aload_n 0, 1) := dz_42 (n := 64) (r := 18) hz_X12_ground_64 rfl
theorem dX12_ground_83 : decode cX12_ground 83 = .ok (.getfield 285, 3) := dz_180 (n := 64) (r := 19) hz_X12_ground_64 rfl rfl
theorem dX12_ground_86 : decode cX12_ground 86 = .ok (.iconst 1, 1) := dz_4 (n := 64) (r := 22) hz_X12_ground_64 rfl
theorem dX12_ground_87 : decode cX12_ground 87 = .ok (.if_icmp .ne 8, 3) := dz_160 (n := 64) (r := 23) hz_X12_ground_64 rfl (by decide +kernel)
theorem dX12_ground_90 : decode cX12_ground 90 = .ok (.bipush (-2), 2) := dz_16 (n := 64) (r := 26) hz_X12_ground_64 rfl rfl
theorem dX12_ground_92 : decode cX12_ground 92 = .ok (.goto 16, 3) := dz_167 (n := 64) (r := 28) hz_X12_ground_64 rfl (by decide +kernel)
theorem dX12_ground_95 : decode cX12_ground 95 = .ok (.aload_n 0, 1) := dz_42 (n := 64) (r := 31) hz_X12_ground_64 rfl
theorem hz_X12_ground_96 : (cX12_ground.data.toList.drop 96).take 40 = [180, 0, 63, 4, 46, 42, 180, 0, 63, 3, 46, 100, 172, 19, 1, 32, 172] := by decide +kernel
theorem dX12_ground_96 : decode cX12_ground 96 = .ok (.getfield 63, 3) := dz_180 (n := 96) (r := 0) hz_X12_ground_96 rfl rfl
theorem dX12_ground_99 : decode cX12_ground 99 = .ok (.iconst 1, 1) := dz_4 (n := 96) (r := 3) hz_X12_ground_96 rfl
theorem dX12_ground_100 : decode cX12_ground 100 = .ok (.iaload, 1) := dz_46 (n := 96) (r := 4) hz_X12_ground_96 rfl
theorem dX12_ground_101 : decode cX12_ground 101 = .ok (.aload_n 0, 1) := dz_42 (n := 96) (r := 5) hz_X12_ground_96 rfl
theorem dX12_ground_102 : decode cX12_ground 102 = .ok (.getfield 63, 3) := dz_180 (n := 96) (r := 6) hz_X12_ground_96 rfl rfl
theorem dX12_ground_105 : decode cX12_ground 105 = .ok (.iconst 0, 1) := dz_3 (n := 96) (r := 9) hz_X12_ground_96 rfl
theorem dX12_ground_106 : decode cX12_ground 106 = .ok (.iaload, 1) := dz_46 (n := 96) (r := 10) hz_X12_ground_96 rfl
theorem dX12_ground_107 : decode cX12_ground 107 = .ok (.isub, 1) := dz_100 (n := 96) (r := 11) hz_X12_ground_96 rfl
theorem dX12_ground_108 : decode cX12_ground 108 = .ok (.ireturn, 1) := dz_172 (n := 96) (r := 12) hz_X12_ground_96 rfl
theorem dX12_ground_109 : decode cX12_ground 109 = .ok (.ldc_w 288, 3) := dz_19 (n := 96) (r := 13) hz_X12_ground_96 rfl rfl
theorem dX12_ground_112 : decode cX12_ground 112 = .ok (.ireturn, 1) := dz_172 (n := 96) (r := 16) hz_X12_ground_96 rfl
theorem hz_X12_part_0 : (cX12_part.data.toList.drop 0).take 40 = [26, 156, 0, 8, 26, 116, 167, 0, 4, 26, 62, 27, 54, 4, 21, 4, 158, 0, 19, 29, 21, 4, 112, 54, 5, 21, 4, 62, 21, 5, 54, 4, 167, 255, 238, 28, 154, 0, 7, 26] := by decide +kernel
theorem dX12_part_0 : decode cX12_part 0 = .ok (.iload_n 0, 1) := dz_26 (n := 0) (r := 0) hz_X12_part_0 rfl
theorem dX12_part_1 : decode cX12_part 1 = .ok (.ifCond .ge 8, 3) := dz_156 (n := 0) (r := 1) hz_X12_part_0 rfl (by decide +kernel)
theorem dX12_part_4 : decode cX12_part 4 = .ok (.iload_n 0, 1) := dz_26 (n := 0) (r := 4) hz_X12_part_0 rfl
theorem dX12_part_5 : decode cX12_part 5 = .ok (.ineg, 1) := dz_116 (n := 0) (r := 5) hz_X12_part_0 rfl
theorem dX12_part_6 : decode cX12_part 6 = .ok (.goto 4, 3) := dz_167 (n := 0) (r := 6) hz_X12_part_0 rfl (by decide +kernel)
theorem dX12_part_9 : decode cX12_part 9 = .ok (.iload_n 0, 1) := dz_26 (n := 0) (r := 9) hz_X12_part_0 rfl
theorem dX12_part_10 : decode cX12_part 10 = .ok (.istore_n 3, 1) := dz_62 (n := 0) (r := 10) hz_X12_part_0 rfl
theorem dX12_part_11 : decode cX12_part 11 = .ok (.iload_n 1, 1) := dz_27 (n := 0) (r := 11) hz_X12_part_0 rfl
theorem dX12_part_12 : decode cX12_part 12 = .ok (.istore 4, 2) := dz_54 (n := 0) (r := 12) hz_X12_part_0 rfl rfl
theorem dX12_part_14 : decode cX12_part 14 = .ok (.iload 4, 2) := dz_21 (n := 0) (r := 14) hz_X12_part_0 rfl rfl
theorem dX12_part_16 : decode cX12_part 16 = .ok (.ifCond .le 19, 3) := dz_158 (n := 0) (r := 16) hz_X12_part_0 rfl (by decide +kernel)
theorem dX12_part_19 : decode cX12_part 19 = .ok (.iload_n 3, 1) := dz_29 (n := 0) (r := 19) hz_X12_part_0 rfl
theorem dX12_part_20 : decode cX12_part 20 = .ok (.iload 4, 2) := dz_21 (n := 0) (r := 20) hz_X12_part_0 rfl rfl
theorem dX12_part_22 : decode cX12_part 22 = .ok (.irem, 1) := dz_112 (n := 0) (r := 22) hz_X12_part_0 rfl
theorem dX12_part_23 : decode cX12_part 23 = .ok (.istore 5, 2) := dz_54 (n := 0) (r := 23) hz_X12_part_0 rfl rfl
theorem dX12_part_25 : decode cX12_part 25 = .ok (.iload 4, 2) := dz_21 (n := 0) (r := 25) hz_X12_part_0 rfl rfl
theorem dX12_part_27 : decode cX12_part 27 = .ok (.istore_n 3, 1) := dz_62 (n := 0) (r := 27) hz_X12_part_0 rfl
theorem dX12_part_28 : decode cX12_part 28 = .ok (.iload 5, 2) := dz_21 (n := 0) (r := 28) hz_X12_part_0 rfl rfl
theorem dX12_part_30 : decode cX12_part 30 = .ok (.istore 4, 2) := dz_54 (n := 0) (r := 30) hz_X12_part_0 rfl rfl
theorem hz_X12_part_32 : (cX12_part.data.toList.drop 32).take 40 = [167, 255, 238, 28, 154, 0, 7, 26, 167, 0, 4, 27, 29, 108, 172] := by decide +kernel
theorem dX12_part_32 : decode cX12_part 32 = .ok (.goto (-18), 3) := dz_167 (n := 32) (r := 0) hz_X12_part_32 rfl (by decide +kernel)
theorem dX12_part_35 : decode cX12_part 35 = .ok (.iload_n 2, 1) := dz_28 (n := 32) (r := 3) hz_X12_part_32 rfl
theorem dX12_part_36 : decode cX12_part 36 = .ok (.ifCond .ne 7, 3) := dz_154 (n := 32) (r := 4) hz_X12_part_32 rfl (by decide +kernel)
theorem dX12_part_39 : decode cX12_part 39 = .ok (.iload_n 0, 1) := dz_26 (n := 32) (r := 7) hz_X12_part_32 rfl
theorem dX12_part_40 : decode cX12_part 40 = .ok (.goto 4, 3) := dz_167 (n := 32) (r := 8) hz_X12_part_32 rfl (by decide +kernel)
theorem dX12_part_43 : decode cX12_part 43 = .ok (.iload_n 1, 1) := dz_27 (n := 32) (r := 11) hz_X12_part_32 rfl
theorem dX12_part_44 : decode cX12_part 44 = .ok (.iload_n 3, 1) := dz_29 (n := 32) (r := 12) hz_X12_part_32 rfl
theorem dX12_part_45 : decode cX12_part 45 = .ok (.idiv, 1) := dz_108 (n := 32) (r := 13) hz_X12_part_32 rfl
theorem dX12_part_46 : decode cX12_part 46 = .ok (.ireturn, 1) := dz_172 (n := 32) (r := 14) hz_X12_part_32 rfl
theorem hz_X12_pair_0 : (cX12_pair.data.toList.drop 0).take 40 = [42, 182, 1, 5, 42, 27, 182, 0, 233, 153, 0, 35, 42, 28, 182, 0, 233, 153, 0, 27, 29, 3, 42, 180, 1, 29, 4, 100, 184, 0, 213, 153, 0, 13, 21, 4, 3, 4, 184, 0] := by decide +kernel
theorem dX12_pair_0 : decode cX12_pair 0 = .ok (.aload_n 0, 1) := dz_42 (n := 0) (r := 0) hz_X12_pair_0 rfl
theorem dX12_pair_1 : decode cX12_pair 1 = .ok (.invokevirtual 261, 3) := dz_182 (n := 0) (r := 1) hz_X12_pair_0 rfl rfl
theorem dX12_pair_4 : decode cX12_pair 4 = .ok (.aload_n 0, 1) := dz_42 (n := 0) (r := 4) hz_X12_pair_0 rfl
theorem dX12_pair_5 : decode cX12_pair 5 = .ok (.iload_n 1, 1) := dz_27 (n := 0) (r := 5) hz_X12_pair_0 rfl
theorem dX12_pair_6 : decode cX12_pair 6 = .ok (.invokevirtual 233, 3) := dz_182 (n := 0) (r := 6) hz_X12_pair_0 rfl rfl
theorem dX12_pair_9 : decode cX12_pair 9 = .ok (.ifCond .eq 35, 3) := dz_153 (n := 0) (r := 9) hz_X12_pair_0 rfl (by decide +kernel)
theorem dX12_pair_12 : decode cX12_pair 12 = .ok (.aload_n 0, 1) := dz_42 (n := 0) (r := 12) hz_X12_pair_0 rfl
theorem dX12_pair_13 : decode cX12_pair 13 = .ok (.iload_n 2, 1) := dz_28 (n := 0) (r := 13) hz_X12_pair_0 rfl
theorem dX12_pair_14 : decode cX12_pair 14 = .ok (.invokevirtual 233, 3) := dz_182 (n := 0) (r := 14) hz_X12_pair_0 rfl rfl
theorem dX12_pair_17 : decode cX12_pair 17 = .ok (.ifCond .eq 27, 3) := dz_153 (n := 0) (r := 17) hz_X12_pair_0 rfl (by decide +kernel)
theorem dX12_pair_20 : decode cX12_pair 20 = .ok (.iload_n 3, 1) := dz_29 (n := 0) (r := 20) hz_X12_pair_0 rfl
theorem dX12_pair_21 : decode cX12_pair 21 = .ok (.iconst 0, 1) := dz_3 (n := 0) (r := 21) hz_X12_pair_0 rfl
theorem dX12_pair_22 : decode cX12_pair 22 = .ok (.aload_n 0, 1) := dz_42 (n := 0) (r := 22) hz_X12_pair_0 rfl
theorem dX12_pair_23 : decode cX12_pair 23 = .ok (.getfield 285, 3) := dz_180 (n := 0) (r := 23) hz_X12_pair_0 rfl rfl
theorem dX12_pair_26 : decode cX12_pair 26 = .ok (.iconst 1, 1) := dz_4 (n := 0) (r := 26) hz_X12_pair_0 rfl
theorem dX12_pair_27 : decode cX12_pair 27 = .ok (.isub, 1) := dz_100 (n := 0) (r := 27) hz_X12_pair_0 rfl
theorem dX12_pair_28 : decode cX12_pair 28 = .ok (.invokestatic 213, 3) := dz_184 (n := 0) (r := 28) hz_X12_pair_0 rfl rfl
theorem dX12_pair_31 : decode cX12_pair 31 = .ok (.ifCond .eq 13, 3) := dz_153 (n := 0) (r := 31) hz_X12_pair_0 rfl (by decide +kernel)
theorem hz_X12_pair_32 : (cX12_pair.data.toList.drop 32).take 40 = [0, 13, 21, 4, 3, 4, 184, 0, 213, 154, 0, 7, 19, 1, 32, 172, 3, 54, 5, 3, 54, 6, 21, 6, 42, 182, 1, 14, 162, 0, 50, 42, 180, 0, 57, 21, 6, 46, 42, 180] := by decide +kernel
theorem dX12_pair_34 : decode cX12_pair 34 = .ok (.iload 4, 2) := dz_21 (n := 32) (r := 2) hz_X12_pair_32 rfl rfl
theorem dX12_pair_36 : decode cX12_pair 36 = .ok (.iconst 0, 1) := dz_3 (n := 32) (r := 4) hz_X12_pair_32 rfl
theorem dX12_pair_37 : decode cX12_pair 37 = .ok (.iconst 1, 1) := dz_4 (n := 32) (r := 5) hz_X12_pair_32 rfl
theorem dX12_pair_38 : decode cX12_pair 38 = .ok (.invokestatic 213, 3) := dz_184 (n := 32) (r := 6) hz_X12_pair_32 rfl rfl
theorem dX12_pair_41 : decode cX12_pair 41 = .ok (.ifCond .ne 7, 3) := dz_154 (n := 32) (r := 9) hz_X12_pair_32 rfl (by decide +kernel)
theorem dX12_pair_44 : decode cX12_pair 44 = .ok (.ldc_w 288, 3) := dz_19 (n := 32) (r := 12) hz_X12_pair_32 rfl rfl
theorem dX12_pair_47 : decode cX12_pair 47 = .ok (.ireturn, 1) := dz_172 (n := 32) (r := 15) hz_X12_pair_32 rfl
theorem dX12_pair_48 : decode cX12_pair 48 = .ok (.iconst 0, 1) := dz_3 (n := 32) (r := 16) hz_X12_pair_32 rfl
theorem dX12_pair_49 : decode cX12_pair 49 = .ok (.istore 5, 2) := dz_54 (n := 32) (r := 17) hz_X12_pair_32 rfl rfl
theorem dX12_pair_51 : decode cX12_pair 51 = .ok (.iconst 0, 1) := dz_3 (n := 32) (r := 19) hz_X12_pair_32 rfl
theorem dX12_pair_52 : decode cX12_pair 52 = .ok (.istore 6, 2) := dz_54 (n := 32) (r := 20) hz_X12_pair_32 rfl rfl
theorem dX12_pair_54 : decode cX12_pair 54 = .ok (.iload 6, 2) := dz_21 (n := 32) (r := 22) hz_X12_pair_32 rfl rfl
theorem dX12_pair_56 : decode cX12_pair 56 = .ok (.aload_n 0, 1) := dz_42 (n := 32) (r := 24) hz_X12_pair_32 rfl
theorem dX12_pair_57 : decode cX12_pair 57 = .ok (.invokevirtual 270, 3) := dz_182 (n := 32) (r := 25) hz_X12_pair_32 rfl rfl
theorem dX12_pair_60 : decode cX12_pair 60 = .ok (.if_icmp .ge 50, 3) := dz_162 (n := 32) (r := 28) hz_X12_pair_32 rfl (by decide +kernel)
theorem dX12_pair_63 : decode cX12_pair 63 = .ok (.aload_n 0, 1) := dz_42 (n := 32) (r := 31) hz_X12_pair_32 rfl
theorem hz_X12_pair_64 : (cX12_pair.data.toList.drop 64).take 40 = [180, 0, 57, 21, 6, 46, 42, 180, 0, 63, 29, 46, 160, 0, 28, 21, 5, 21, 6, 27, 184, 1, 45, 21, 6, 28, 184, 1, 45, 160, 0, 7, 4, 167, 0, 4, 2, 96, 54, 5] := by decide +kernel
theorem dX12_pair_64 : decode cX12_pair 64 = .ok (.getfield 57, 3) := dz_180 (n := 64) (r := 0) hz_X12_pair_64 rfl rfl
theorem dX12_pair_67 : decode cX12_pair 67 = .ok (.iload 6, 2) := dz_21 (n := 64) (r := 3) hz_X12_pair_64 rfl rfl
theorem dX12_pair_69 : decode cX12_pair 69 = .ok (.iaload, 1) := dz_46 (n := 64) (r := 5) hz_X12_pair_64 rfl
theorem dX12_pair_70 : decode cX12_pair 70 = .ok (.aload_n 0, 1) := dz_42 (n := 64) (r := 6) hz_X12_pair_64 rfl
theorem dX12_pair_71 : decode cX12_pair 71 = .ok (.getfield 63, 3) := dz_180 (n := 64) (r := 7) hz_X12_pair_64 rfl rfl
theorem dX12_pair_74 : decode cX12_pair 74 = .ok (.iload_n 3, 1) := dz_29 (n := 64) (r := 10) hz_X12_pair_64 rfl
theorem dX12_pair_75 : decode cX12_pair 75 = .ok (.iaload, 1) := dz_46 (n := 64) (r := 11) hz_X12_pair_64 rfl
theorem dX12_pair_76 : decode cX12_pair 76 = .ok (.if_icmp .ne 28, 3) := dz_160 (n := 64) (r := 12) hz_X12_pair_64 rfl (by decide +kernel)
theorem dX12_pair_79 : decode cX12_pair 79 = .ok (.iload 5, 2) := dz_21 (n := 64) (r := 15) hz_X12_pair_64 rfl rfl
theorem dX12_pair_81 : decode cX12_pair 81 = .ok (.iload 6, 2) := dz_21 (n := 64) (r := 17) hz_X12_pair_64 rfl rfl
theorem dX12_pair_83 : decode cX12_pair 83 = .ok (.iload_n 1, 1) := dz_27 (n := 64) (r := 19) hz_X12_pair_64 rfl
theorem dX12_pair_84 : decode cX12_pair 84 = .ok (.invokestatic 301, 3) := dz_184 (n := 64) (r := 20) hz_X12_pair_64 rfl rfl
theorem dX12_pair_87 : decode cX12_pair 87 = .ok (.iload 6, 2) := dz_21 (n := 64) (r := 23) hz_X12_pair_64 rfl rfl
theorem dX12_pair_89 : decode cX12_pair 89 = .ok (.iload_n 2, 1) := dz_28 (n := 64) (r := 25) hz_X12_pair_64 rfl
theorem dX12_pair_90 : decode cX12_pair 90 = .ok (.invokestatic 301, 3) := dz_184 (n := 64) (r := 26) hz_X12_pair_64 rfl rfl
theorem dX12_pair_93 : decode cX12_pair 93 = .ok (.if_icmp .ne 7, 3) := dz_160 (n := 64) (r := 29) hz_X12_pair_64 rfl (by decide +kernel)
theorem hz_X12_pair_96 : (cX12_pair.data.toList.drop 96).take 40 = [4, 167, 0, 4, 2, 96, 54, 5, 132, 6, 1, 167, 255, 203, 21, 5, 42, 180, 0, 60, 17, 0, 150, 42, 180, 0, 63, 29, 46, 96, 46, 21, 4, 184, 1, 52, 172] := by decide +kernel
theorem dX12_pair_96 : decode cX12_pair 96 = .ok (.iconst 1, 1) := dz_4 (n := 96) (r := 0) hz_X12_pair_96 rfl
theorem dX12_pair_97 : decode cX12_pair 97 = .ok (.goto 4, 3) := dz_167 (n := 96) (r := 1) hz_X12_pair_96 rfl (by decide +kernel)
theorem dX12_pair_100 : decode cX12_pair 100 = .ok (.iconst (-1), 1) := dz_2 (n := 96) (r := 4) hz_X12_pair_96 rfl
theorem dX12_pair_101 : decode cX12_pair 101 = .ok (.iadd, 1) := dz_96 (n := 96) (r := 5) hz_X12_pair_96 rfl
theorem dX12_pair_102 : decode cX12_pair 102 = .ok (.istore 5, 2) := dz_54 (n := 96) (r := 6) hz_X12_pair_96 rfl rfl
theorem dX12_pair_104 : decode cX12_pair 104 = .ok (.iinc 6 1, 3) := dz_132 (n := 96) (r := 8) hz_X12_pair_96 rfl rfl rfl
theorem dX12_pair_107 : decode cX12_pair 107 = .ok (.goto (-53), 3) := dz_167 (n := 96) (r := 11) hz_X12_pair_96 rfl (by decide +kernel)
theorem dX12_pair_110 : decode cX12_pair 110 = .ok (.iload 5, 2) := dz_21 (n := 96) (r := 14) hz_X12_pair_96 rfl rfl
theorem dX12_pair_112 : decode cX12_pair 112 = .ok (.aload_n 0, 1) := dz_42 (n := 96) (r := 16) hz_X12_pair_96 rfl
theorem dX12_pair_113 : decode cX12_pair 113 = .ok (.getfield 60, 3) := dz_180 (n := 96) (r := 17) hz_X12_pair_96 rfl rfl
theorem dX12_pair_116 : decode cX12_pair 116 = .ok (.sipush 150, 3) := dz_17 (n := 96) (r := 20) hz_X12_pair_96 rfl (by decide +kernel)
theorem dX12_pair_119 : decode cX12_pair 119 = .ok (.aload_n 0, 1) := dz_42 (n := 96) (r := 23) hz_X12_pair_96 rfl
theorem dX12_pair_120 : decode cX12_pair 120 = .ok (.getfield 63, 3) := dz_180 (n := 96) (r := 24) hz_X12_pair_96 rfl rfl
theorem dX12_pair_123 : decode cX12_pair 123 = .ok (.iload_n 3, 1) := dz_29 (n := 96) (r := 27) hz_X12_pair_96 rfl
theorem dX12_pair_124 : decode cX12_pair 124 = .ok (.iaload, 1) := dz_46 (n := 96) (r := 28) hz_X12_pair_96 rfl
theorem dX12_pair_125 : decode cX12_pair 125 = .ok (.iadd, 1) := dz_96 (n := 96) (r := 29) hz_X12_pair_96 rfl
theorem dX12_pair_126 : decode cX12_pair 126 = .ok (.iaload, 1) := dz_46 (n := 96) (r := 30) hz_X12_pair_96 rfl
theorem dX12_pair_127 : decode cX12_pair 127 = .ok (.iload 4, 2) := dz_21 (n := 96) (r := 31) hz_X12_pair_96 rfl rfl
theorem hz_X12_pair_128 : (cX12_pair.data.toList.drop 128).take 40 = [4, 184, 1, 52, 172] := by decide +kernel
theorem dX12_pair_129 : decode cX12_pair 129 = .ok (.invokestatic 308, 3) := dz_184 (n := 128) (r := 1) hz_X12_pair_128 rfl rfl
theorem dX12_pair_132 : decode cX12_pair 132 = .ok (.ireturn, 1) := dz_172 (n := 128) (r := 4) hz_X12_pair_128 rfl
theorem hz_X12_mean_0 : (cX12_mean.data.toList.drop 0).take 40 = [42, 182, 1, 5, 27, 3, 42, 180, 1, 29, 4, 100, 184, 0, 213, 153, 0, 12, 28, 3, 4, 184, 0, 213, 154, 0, 7, 19, 1, 32, 172, 3, 62, 3, 54, 4, 21, 4, 42, 182] := by decide +kernel
theorem dX12_mean_0 : decode cX12_mean 0 = .ok (.aload_n 0, 1) := dz_42 (n := 0) (r := 0) hz_X12_mean_0 rfl
theorem dX12_mean_1 : decode cX12_mean 1 = .ok (.invokevirtual 261, 3) := dz_182 (n := 0) (r := 1) hz_X12_mean_0 rfl rfl
theorem dX12_mean_4 : decode cX12_mean 4 = .ok (.iload_n 1, 1) := dz_27 (n := 0) (r := 4) hz_X12_mean_0 rfl
theorem dX12_mean_5 : decode cX12_mean 5 = .ok (.iconst 0, 1) := dz_3 (n := 0) (r := 5) hz_X12_mean_0 rfl
theorem dX12_mean_6 : decode cX12_mean 6 = .ok (.aload_n 0, 1) := dz_42 (n := 0) (r := 6) hz_X12_mean_0 rfl
theorem dX12_mean_7 : decode cX12_mean 7 = .ok (.getfield 285, 3) := dz_180 (n := 0) (r := 7) hz_X12_mean_0 rfl rfl
theorem dX12_mean_10 : decode cX12_mean 10 = .ok (.iconst 1, 1) := dz_4 (n := 0) (r := 10) hz_X12_mean_0 rfl
theorem dX12_mean_11 : decode cX12_mean 11 = .ok (.isub, 1) := dz_100 (n := 0) (r := 11) hz_X12_mean_0 rfl
theorem dX12_mean_12 : decode cX12_mean 12 = .ok (.invokestatic 213, 3) := dz_184 (n := 0) (r := 12) hz_X12_mean_0 rfl rfl
theorem dX12_mean_15 : decode cX12_mean 15 = .ok (.ifCond .eq 12, 3) := dz_153 (n := 0) (r := 15) hz_X12_mean_0 rfl (by decide +kernel)
theorem dX12_mean_18 : decode cX12_mean 18 = .ok (.iload_n 2, 1) := dz_28 (n := 0) (r := 18) hz_X12_mean_0 rfl
theorem dX12_mean_19 : decode cX12_mean 19 = .ok (.iconst 0, 1) := dz_3 (n := 0) (r := 19) hz_X12_mean_0 rfl
theorem dX12_mean_20 : decode cX12_mean 20 = .ok (.iconst 1, 1) := dz_4 (n := 0) (r := 20) hz_X12_mean_0 rfl
theorem dX12_mean_21 : decode cX12_mean 21 = .ok (.invokestatic 213, 3) := dz_184 (n := 0) (r := 21) hz_X12_mean_0 rfl rfl
theorem dX12_mean_24 : decode cX12_mean 24 = .ok (.ifCond .ne 7, 3) := dz_154 (n := 0) (r := 24) hz_X12_mean_0 rfl (by decide +kernel)
theorem dX12_mean_27 : decode cX12_mean 27 = .ok (.ldc_w 288, 3) := dz_19 (n := 0) (r := 27) hz_X12_mean_0 rfl rfl
theorem dX12_mean_30 : decode cX12_mean 30 = .ok (.ireturn, 1) := dz_172 (n := 0) (r := 30) hz_X12_mean_0 rfl
theorem dX12_mean_31 : decode cX12_mean 31 = .ok (.iconst 0, 1) := dz_3 (n := 0) (r := 31) hz_X12_mean_0 rfl
theorem hz_X12_mean_32 : (cX12_mean.data.toList.drop 32).take 40 = [62, 3, 54, 4, 21, 4, 42, 182, 1, 14, 162, 0, 33, 42, 180, 0, 57, 21, 4, 46, 42, 180, 0, 63, 27, 46, 160, 0, 11, 29, 21, 4, 184, 1, 36, 96, 62, 132, 4, 1] := by decide +kernel
theorem dX12_mean_32 : decode cX12_mean 32 = .ok (.istore_n 3, 1) := dz_62 (n := 32) (r := 0) hz_X12_mean_32 rfl
theorem dX12_mean_33 : decode cX12_mean 33 = .ok (.iconst 0, 1) := dz_3 (n := 32) (r := 1) hz_X12_mean_32 rfl
theorem dX12_mean_34 : decode cX12_mean 34 = .ok (.istore 4, 2) := dz_54 (n := 32) (r := 2) hz_X12_mean_32 rfl rfl
theorem dX12_mean_36 : decode cX12_mean 36 = .ok (.iload 4, 2) := dz_21 (n := 32) (r := 4) hz_X12_mean_32 rfl rfl
theorem dX12_mean_38 : decode cX12_mean 38 = .ok (.aload_n 0, 1) := dz_42 (n := 32) (r := 6) hz_X12_mean_32 rfl
theorem dX12_mean_39 : decode cX12_mean 39 = .ok (.invokevirtual 270, 3) := dz_182 (n := 32) (r := 7) hz_X12_mean_32 rfl rfl
theorem dX12_mean_42 : decode cX12_mean 42 = .ok (.if_icmp .ge 33, 3) := dz_162 (n := 32) (r := 10) hz_X12_mean_32 rfl (by decide +kernel)
theorem dX12_mean_45 : decode cX12_mean 45 = .ok (.aload_n 0, 1) := dz_42 (n := 32) (r := 13) hz_X12_mean_32 rfl
theorem dX12_mean_46 : decode cX12_mean 46 = .ok (.getfield 57, 3) := dz_180 (n := 32) (r := 14) hz_X12_mean_32 rfl rfl
theorem dX12_mean_49 : decode cX12_mean 49 = .ok (.iload 4, 2) := dz_21 (n := 32) (r := 17) hz_X12_mean_32 rfl rfl
theorem dX12_mean_51 : decode cX12_mean 51 = .ok (.iaload, 1) := dz_46 (n := 32) (r := 19) hz_X12_mean_32 rfl
theorem dX12_mean_52 : decode cX12_mean 52 = .ok (.aload_n 0, 1) := dz_42 (n := 32) (r := 20) hz_X12_mean_32 rfl
theorem dX12_mean_53 : decode cX12_mean 53 = .ok (.getfield 63, 3) := dz_180 (n := 32) (r := 21) hz_X12_mean_32 rfl rfl
theorem dX12_mean_56 : decode cX12_mean 56 = .ok (.iload_n 1, 1) := dz_27 (n := 32) (r := 24) hz_X12_mean_32 rfl
theorem dX12_mean_57 : decode cX12_mean 57 = .ok (.iaload, 1) := dz_46 (n := 32) (r := 25) hz_X12_mean_32 rfl
theorem dX12_mean_58 : decode cX12_mean 58 = .ok (.if_icmp .ne 11, 3) := dz_160 (n := 32) (r := 26) hz_X12_mean_32 rfl (by decide +kernel)
theorem dX12_mean_61 : decode cX12_mean 61 = .ok (.iload_n 3, 1) := dz_29 (n := 32) (r := 29) hz_X12_mean_32 rfl
theorem dX12_mean_62 : decode cX12_mean 62 = .ok (.iload 4, 2) := dz_21 (n := 32) (r := 30) hz_X12_mean_32 rfl rfl
theorem hz_X12_mean_64 : (cX12_mean.data.toList.drop 64).take 40 = [184, 1, 36, 96, 62, 132, 4, 1, 167, 255, 220, 29, 42, 180, 0, 60, 17, 0, 150, 42, 180, 0, 63, 27, 46, 96, 46, 28, 184, 1, 52, 172] := by decide +kernel
theorem dX12_mean_64 : decode cX12_mean 64 = .ok (.invokestatic 292, 3) := dz_184 (n := 64) (r := 0) hz_X12_mean_64 rfl rfl
theorem dX12_mean_67 : decode cX12_mean 67 = .ok (.iadd, 1) := dz_96 (n := 64) (r := 3) hz_X12_mean_64 rfl
theorem dX12_mean_68 : decode cX12_mean 68 = .ok (.istore_n 3, 1) := dz_62 (n := 64) (r := 4) hz_X12_mean_64 rfl
theorem dX12_mean_69 : decode cX12_mean 69 = .ok (.iinc 4 1, 3) := dz_132 (n := 64) (r := 5) hz_X12_mean_64 rfl rfl rfl
theorem dX12_mean_72 : decode cX12_mean 72 = .ok (.goto (-36), 3) := dz_167 (n := 64) (r := 8) hz_X12_mean_64 rfl (by decide +kernel)
theorem dX12_mean_75 : decode cX12_mean 75 = .ok (.iload_n 3, 1) := dz_29 (n := 64) (r := 11) hz_X12_mean_64 rfl
theorem dX12_mean_76 : decode cX12_mean 76 = .ok (.aload_n 0, 1) := dz_42 (n := 64) (r := 12) hz_X12_mean_64 rfl
theorem dX12_mean_77 : decode cX12_mean 77 = .ok (.getfield 60, 3) := dz_180 (n := 64) (r := 13) hz_X12_mean_64 rfl rfl
theorem dX12_mean_80 : decode cX12_mean 80 = .ok (.sipush 150, 3) := dz_17 (n := 64) (r := 16) hz_X12_mean_64 rfl (by decide +kernel)
theorem dX12_mean_83 : decode cX12_mean 83 = .ok (.aload_n 0, 1) := dz_42 (n := 64) (r := 19) hz_X12_mean_64 rfl
theorem dX12_mean_84 : decode cX12_mean 84 = .ok (.getfield 63, 3) := dz_180 (n := 64) (r := 20) hz_X12_mean_64 rfl rfl
theorem dX12_mean_87 : decode cX12_mean 87 = .ok (.iload_n 1, 1) := dz_27 (n := 64) (r := 23) hz_X12_mean_64 rfl
theorem dX12_mean_88 : decode cX12_mean 88 = .ok (.iaload, 1) := dz_46 (n := 64) (r := 24) hz_X12_mean_64 rfl
theorem dX12_mean_89 : decode cX12_mean 89 = .ok (.iadd, 1) := dz_96 (n := 64) (r := 25) hz_X12_mean_64 rfl
theorem dX12_mean_90 : decode cX12_mean 90 = .ok (.iaload, 1) := dz_46 (n := 64) (r := 26) hz_X12_mean_64 rfl
theorem dX12_mean_91 : decode cX12_mean 91 = .ok (.iload_n 2, 1) := dz_28 (n := 64) (r := 27) hz_X12_mean_64 rfl
theorem dX12_mean_92 : decode cX12_mean 92 = .ok (.invokestatic 308, 3) := dz_184 (n := 64) (r := 28) hz_X12_mean_64 rfl rfl
theorem dX12_mean_95 : decode cX12_mean 95 = .ok (.ireturn, 1) := dz_172 (n := 64) (r := 31) hz_X12_mean_64 rfl
theorem hz_X12_value_0 : (cX12_value.data.toList.drop 0).take 40 = [27, 3, 19, 1, 56, 184, 0, 213, 154, 0, 5, 2, 172, 42, 182, 1, 5, 9, 65, 10, 55, 4, 3, 54, 6, 42, 180, 1, 29, 154, 0, 7, 3, 167, 0, 9, 42, 180, 0, 63] := by decide +kernel
theorem dX12_value_0 : decode cX12_value 0 = .ok (.iload_n 1, 1) := dz_27 (n := 0) (r := 0) hz_X12_value_0 rfl
theorem dX12_value_1 : decode cX12_value 1 = .ok (.iconst 0, 1) := dz_3 (n := 0) (r := 1) hz_X12_value_0 rfl
theorem dX12_value_2 : decode cX12_value 2 = .ok (.ldc_w 312, 3) := dz_19 (n := 0) (r := 2) hz_X12_value_0 rfl rfl
theorem dX12_value_5 : decode cX12_value 5 = .ok (.invokestatic 213, 3) := dz_184 (n := 0) (r := 5) hz_X12_value_0 rfl rfl
theorem dX12_value_8 : decode cX12_value 8 = .ok (.ifCond .ne 5, 3) := dz_154 (n := 0) (r := 8) hz_X12_value_0 rfl (by decide +kernel)
theorem dX12_value_11 : decode cX12_value 11 = .ok (.iconst (-1), 1) := dz_2 (n := 0) (r := 11) hz_X12_value_0 rfl
theorem dX12_value_12 : decode cX12_value 12 = .ok (.ireturn, 1) := dz_172 (n := 0) (r := 12) hz_X12_value_0 rfl
theorem dX12_value_13 : decode cX12_value 13 = .ok (.aload_n 0, 1) := dz_42 (n := 0) (r := 13) hz_X12_value_0 rfl
theorem dX12_value_14 : decode cX12_value 14 = .ok (.invokevirtual 261, 3) := dz_182 (n := 0) (r := 14) hz_X12_value_0 rfl rfl
theorem dX12_value_17 : decode cX12_value 17 = .ok (.lconst 0, 1) := dz_9 (n := 0) (r := 17) hz_X12_value_0 rfl
theorem dX12_value_18 : decode cX12_value 18 = .ok (.lstore_n 2, 1) := dz_65 (n := 0) (r := 18) hz_X12_value_0 rfl
theorem dX12_value_19 : decode cX12_value 19 = .ok (.lconst 1, 1) := dz_10 (n := 0) (r := 19) hz_X12_value_0 rfl
theorem dX12_value_20 : decode cX12_value 20 = .ok (.lstore 4, 2) := dz_55 (n := 0) (r := 20) hz_X12_value_0 rfl rfl
theorem dX12_value_22 : decode cX12_value 22 = .ok (.iconst 0, 1) := dz_3 (n := 0) (r := 22) hz_X12_value_0 rfl
theorem dX12_value_23 : decode cX12_value 23 = .ok (.istore 6, 2) := dz_54 (n := 0) (r := 23) hz_X12_value_0 rfl rfl
theorem dX12_value_25 : decode cX12_value 25 = .ok (.aload_n 0, 1) := dz_42 (n := 0) (r := 25) hz_X12_value_0 rfl
theorem dX12_value_26 : decode cX12_value 26 = .ok (.getfield 285, 3) := dz_180 (n := 0) (r := 26) hz_X12_value_0 rfl rfl
theorem dX12_value_29 : decode cX12_value 29 = .ok (.ifCond .ne 7, 3) := dz_154 (n := 0) (r := 29) hz_X12_value_0 rfl (by decide +kernel)
theorem hz_X12_value_32 : (cX12_value.data.toList.drop 32).take 40 = [3, 167, 0, 9, 42, 180, 0, 63, 3, 46, 54, 7, 21, 6, 42, 180, 1, 29, 162, 0, 57, 21, 7, 42, 180, 0, 63, 21, 6, 46, 160, 0, 28, 32, 22, 4, 42, 180, 0, 60] := by decide +kernel
theorem dX12_value_32 : decode cX12_value 32 = .ok (.iconst 0, 1) := dz_3 (n := 32) (r := 0) hz_X12_value_32 rfl
theorem dX12_value_33 : decode cX12_value 33 = .ok (.goto 9, 3) := dz_167 (n := 32) (r := 1) hz_X12_value_32 rfl (by decide +kernel)
theorem dX12_value_36 : decode cX12_value 36 = .ok (.aload_n 0, 1) := dz_42 (n := 32) (r := 4) hz_X12_value_32 rfl
theorem dX12_value_37 : decode cX12_value 37 = .ok (.getfield 63, 3) := dz_180 (n := 32) (r := 5) hz_X12_value_32 rfl rfl
theorem dX12_value_40 : decode cX12_value 40 = .ok (.iconst 0, 1) := dz_3 (n := 32) (r := 8) hz_X12_value_32 rfl
theorem dX12_value_41 : decode cX12_value 41 = .ok (.iaload, 1) := dz_46 (n := 32) (r := 9) hz_X12_value_32 rfl
theorem dX12_value_42 : decode cX12_value 42 = .ok (.istore 7, 2) := dz_54 (n := 32) (r := 10) hz_X12_value_32 rfl rfl
theorem dX12_value_44 : decode cX12_value 44 = .ok (.iload 6, 2) := dz_21 (n := 32) (r := 12) hz_X12_value_32 rfl rfl
theorem dX12_value_46 : decode cX12_value 46 = .ok (.aload_n 0, 1) := dz_42 (n := 32) (r := 14) hz_X12_value_32 rfl
theorem dX12_value_47 : decode cX12_value 47 = .ok (.getfield 285, 3) := dz_180 (n := 32) (r := 15) hz_X12_value_32 rfl rfl
theorem dX12_value_50 : decode cX12_value 50 = .ok (.if_icmp .ge 57, 3) := dz_162 (n := 32) (r := 18) hz_X12_value_32 rfl (by decide +kernel)
theorem dX12_value_53 : decode cX12_value 53 = .ok (.iload 7, 2) := dz_21 (n := 32) (r := 21) hz_X12_value_32 rfl rfl
theorem dX12_value_55 : decode cX12_value 55 = .ok (.aload_n 0, 1) := dz_42 (n := 32) (r := 23) hz_X12_value_32 rfl
theorem dX12_value_56 : decode cX12_value 56 = .ok (.getfield 63, 3) := dz_180 (n := 32) (r := 24) hz_X12_value_32 rfl rfl
theorem dX12_value_59 : decode cX12_value 59 = .ok (.iload 6, 2) := dz_21 (n := 32) (r := 27) hz_X12_value_32 rfl rfl
theorem dX12_value_61 : decode cX12_value 61 = .ok (.iaload, 1) := dz_46 (n := 32) (r := 29) hz_X12_value_32 rfl
theorem dX12_value_62 : decode cX12_value 62 = .ok (.if_icmp .ne 28, 3) := dz_160 (n := 32) (r := 30) hz_X12_value_32 rfl (by decide +kernel)
theorem hz_X12_value_64 : (cX12_value.data.toList.drop 64).take 40 = [28, 32, 22, 4, 42, 180, 0, 60, 17, 0, 150, 21, 7, 96, 46, 133, 105, 97, 20, 1, 57, 113, 65, 132, 6, 1, 22, 4, 27, 133, 105, 20, 1, 57, 113, 55, 4, 132, 7, 1] := by decide +kernel
theorem dX12_value_65 : decode cX12_value 65 = .ok (.lload_n 2, 1) := dz_32 (n := 64) (r := 1) hz_X12_value_64 rfl
theorem dX12_value_66 : decode cX12_value 66 = .ok (.lload 4, 2) := dz_22 (n := 64) (r := 2) hz_X12_value_64 rfl rfl
theorem dX12_value_68 : decode cX12_value 68 = .ok (.aload_n 0, 1) := dz_42 (n := 64) (r := 4) hz_X12_value_64 rfl
theorem dX12_value_69 : decode cX12_value 69 = .ok (.getfield 60, 3) := dz_180 (n := 64) (r := 5) hz_X12_value_64 rfl rfl
theorem dX12_value_72 : decode cX12_value 72 = .ok (.sipush 150, 3) := dz_17 (n := 64) (r := 8) hz_X12_value_64 rfl (by decide +kernel)
theorem dX12_value_75 : decode cX12_value 75 = .ok (.iload 7, 2) := dz_21 (n := 64) (r := 11) hz_X12_value_64 rfl rfl
theorem dX12_value_77 : decode cX12_value 77 = .ok (.iadd, 1) := dz_96 (n := 64) (r := 13) hz_X12_value_64 rfl
theorem dX12_value_78 : decode cX12_value 78 = .ok (.iaload, 1) := dz_46 (n := 64) (r := 14) hz_X12_value_64 rfl
theorem dX12_value_79 : decode cX12_value 79 = .ok (.i2l, 1) := dz_133 (n := 64) (r := 15) hz_X12_value_64 rfl
theorem dX12_value_80 : decode cX12_value 80 = .ok (.lmul, 1) := dz_105 (n := 64) (r := 16) hz_X12_value_64 rfl
theorem dX12_value_81 : decode cX12_value 81 = .ok (.ladd, 1) := dz_97 (n := 64) (r := 17) hz_X12_value_64 rfl
theorem dX12_value_82 : decode cX12_value 82 = .ok (.ldc2_w 313, 3) := dz_20 (n := 64) (r := 18) hz_X12_value_64 rfl rfl
theorem dX12_value_85 : decode cX12_value 85 = .ok (.lrem, 1) := dz_113 (n := 64) (r := 21) hz_X12_value_64 rfl
theorem dX12_value_86 : decode cX12_value 86 = .ok (.lstore_n 2, 1) := dz_65 (n := 64) (r := 22) hz_X12_value_64 rfl
theorem dX12_value_87 : decode cX12_value 87 = .ok (.iinc 6 1, 3) := dz_132 (n := 64) (r := 23) hz_X12_value_64 rfl rfl rfl
theorem dX12_value_90 : decode cX12_value 90 = .ok (.lload 4, 2) := dz_22 (n := 64) (r := 26) hz_X12_value_64 rfl rfl
theorem dX12_value_92 : decode cX12_value 92 = .ok (.iload_n 1, 1) := dz_27 (n := 64) (r := 28) hz_X12_value_64 rfl
theorem dX12_value_93 : decode cX12_value 93 = .ok (.i2l, 1) := dz_133 (n := 64) (r := 29) hz_X12_value_64 rfl
theorem dX12_value_94 : decode cX12_value 94 = .ok (.lmul, 1) := dz_105 (n := 64) (r := 30) hz_X12_value_64 rfl
theorem dX12_value_95 : decode cX12_value 95 = .ok (.ldc2_w 313, 3) := dz_20 (n := 64) (r := 31) hz_X12_value_64 rfl rfl
theorem hz_X12_value_96 : (cX12_value.data.toList.drop 96).take 40 = [1, 57, 113, 55, 4, 132, 7, 1, 167, 255, 196, 32, 136, 172] := by decide +kernel
theorem dX12_value_98 : decode cX12_value 98 = .ok (.lrem, 1) := dz_113 (n := 96) (r := 2) hz_X12_value_96 rfl
theorem dX12_value_99 : decode cX12_value 99 = .ok (.lstore 4, 2) := dz_55 (n := 96) (r := 3) hz_X12_value_96 rfl rfl
theorem dX12_value_101 : decode cX12_value 101 = .ok (.iinc 7 1, 3) := dz_132 (n := 96) (r := 5) hz_X12_value_96 rfl rfl rfl
theorem dX12_value_104 : decode cX12_value 104 = .ok (.goto (-60), 3) := dz_167 (n := 96) (r := 8) hz_X12_value_96 rfl (by decide +kernel)
theorem dX12_value_107 : decode cX12_value 107 = .ok (.lload_n 2, 1) := dz_32 (n := 96) (r := 11) hz_X12_value_96 rfl
theorem dX12_value_108 : decode cX12_value 108 = .ok (.l2i, 1) := dz_136 (n := 96) (r := 12) hz_X12_value_96 rfl
theorem dX12_value_109 : decode cX12_value 109 = .ok (.ireturn, 1) := dz_172 (n := 96) (r := 13) hz_X12_value_96 rfl
theorem hz_X12_joined_0 : (cX12_joined.data.toList.drop 0).take 40 = [27, 3, 5, 184, 0, 213, 153, 0, 12, 42, 180, 0, 52, 27, 51, 154, 0, 7, 20, 1, 59, 173, 42, 182, 1, 5, 3, 54, 4, 21, 4, 16, 66, 162, 0, 28, 42, 180, 0, 66] := by decide +kernel
theorem dX12_joined_0 : decode cX12_joined 0 = .ok (.iload_n 1, 1) := dz_27 (n := 0) (r := 0) hz_X12_joined_0 rfl
theorem dX12_joined_1 : decode cX12_joined 1 = .ok (.iconst 0, 1) := dz_3 (n := 0) (r := 1) hz_X12_joined_0 rfl
theorem dX12_joined_2 : decode cX12_joined 2 = .ok (.iconst 2, 1) := dz_5 (n := 0) (r := 2) hz_X12_joined_0 rfl
theorem dX12_joined_3 : decode cX12_joined 3 = .ok (.invokestatic 213, 3) := dz_184 (n := 0) (r := 3) hz_X12_joined_0 rfl rfl
theorem dX12_joined_6 : decode cX12_joined 6 = .ok (.ifCond .eq 12, 3) := dz_153 (n := 0) (r := 6) hz_X12_joined_0 rfl (by decide +kernel)
theorem dX12_joined_9 : decode cX12_joined 9 = .ok (.aload_n 0, 1) := dz_42 (n := 0) (r := 9) hz_X12_joined_0 rfl
theorem dX12_joined_10 : decode cX12_joined 10 = .ok (.getfield 52, 3) := dz_180 (n := 0) (r := 10) hz_X12_joined_0 rfl rfl
theorem dX12_joined_13 : decode cX12_joined 13 = .ok (.iload_n 1, 1) := dz_27 (n := 0) (r := 13) hz_X12_joined_0 rfl
theorem dX12_joined_14 : decode cX12_joined 14 = .ok (.baload, 1) := dz_51 (n := 0) (r := 14) hz_X12_joined_0 rfl
theorem dX12_joined_15 : decode cX12_joined 15 = .ok (.ifCond .ne 7, 3) := dz_154 (n := 0) (r := 15) hz_X12_joined_0 rfl (by decide +kernel)
theorem dX12_joined_18 : decode cX12_joined 18 = .ok (.ldc2_w 315, 3) := dz_20 (n := 0) (r := 18) hz_X12_joined_0 rfl rfl
theorem dX12_joined_21 : decode cX12_joined 21 = .ok (.lreturn, 1) := dz_173 (n := 0) (r := 21) hz_X12_joined_0 rfl
theorem dX12_joined_22 : decode cX12_joined 22 = .ok (.aload_n 0, 1) := dz_42 (n := 0) (r := 22) hz_X12_joined_0 rfl
theorem dX12_joined_23 : decode cX12_joined 23 = .ok (.invokevirtual 261, 3) := dz_182 (n := 0) (r := 23) hz_X12_joined_0 rfl rfl
theorem dX12_joined_26 : decode cX12_joined 26 = .ok (.iconst 0, 1) := dz_3 (n := 0) (r := 26) hz_X12_joined_0 rfl
theorem dX12_joined_27 : decode cX12_joined 27 = .ok (.istore 4, 2) := dz_54 (n := 0) (r := 27) hz_X12_joined_0 rfl rfl
theorem dX12_joined_29 : decode cX12_joined 29 = .ok (.iload 4, 2) := dz_21 (n := 0) (r := 29) hz_X12_joined_0 rfl rfl
theorem dX12_joined_31 : decode cX12_joined 31 = .ok (.bipush 66, 2) := dz_16 (n := 0) (r := 31) hz_X12_joined_0 rfl rfl
theorem hz_X12_joined_32 : (cX12_joined.data.toList.drop 32).take 40 = [66, 162, 0, 28, 42, 180, 0, 66, 21, 4, 42, 180, 0, 49, 16, 66, 27, 104, 21, 4, 96, 46, 79, 132, 4, 1, 167, 255, 227, 42, 42, 180, 0, 66, 42, 180, 0, 69, 182, 1] := by decide +kernel
theorem dX12_joined_33 : decode cX12_joined 33 = .ok (.if_icmp .ge 28, 3) := dz_162 (n := 32) (r := 1) hz_X12_joined_32 rfl (by decide +kernel)
theorem dX12_joined_36 : decode cX12_joined 36 = .ok (.aload_n 0, 1) := dz_42 (n := 32) (r := 4) hz_X12_joined_32 rfl
theorem dX12_joined_37 : decode cX12_joined 37 = .ok (.getfield 66, 3) := dz_180 (n := 32) (r := 5) hz_X12_joined_32 rfl rfl
theorem dX12_joined_40 : decode cX12_joined 40 = .ok (.iload 4, 2) := dz_21 (n := 32) (r := 8) hz_X12_joined_32 rfl rfl
theorem dX12_joined_42 : decode cX12_joined 42 = .ok (.aload_n 0, 1) := dz_42 (n := 32) (r := 10) hz_X12_joined_32 rfl
theorem dX12_joined_43 : decode cX12_joined 43 = .ok (.getfield 49, 3) := dz_180 (n := 32) (r := 11) hz_X12_joined_32 rfl rfl
theorem dX12_joined_46 : decode cX12_joined 46 = .ok (.bipush 66, 2) := dz_16 (n := 32) (r := 14) hz_X12_joined_32 rfl rfl
theorem dX12_joined_48 : decode cX12_joined 48 = .ok (.iload_n 1, 1) := dz_27 (n := 32) (r := 16) hz_X12_joined_32 rfl
theorem dX12_joined_49 : decode cX12_joined 49 = .ok (.imul, 1) := dz_104 (n := 32) (r := 17) hz_X12_joined_32 rfl
theorem dX12_joined_50 : decode cX12_joined 50 = .ok (.iload 4, 2) := dz_21 (n := 32) (r := 18) hz_X12_joined_32 rfl rfl
theorem dX12_joined_52 : decode cX12_joined 52 = .ok (.iadd, 1) := dz_96 (n := 32) (r := 20) hz_X12_joined_32 rfl
theorem dX12_joined_53 : decode cX12_joined 53 = .ok (.iaload, 1) := dz_46 (n := 32) (r := 21) hz_X12_joined_32 rfl
theorem dX12_joined_54 : decode cX12_joined 54 = .ok (.iastore, 1) := dz_79 (n := 32) (r := 22) hz_X12_joined_32 rfl
theorem dX12_joined_55 : decode cX12_joined 55 = .ok (.iinc 4 1, 3) := dz_132 (n := 32) (r := 23) hz_X12_joined_32 rfl rfl rfl
theorem dX12_joined_58 : decode cX12_joined 58 = .ok (.goto (-29), 3) := dz_167 (n := 32) (r := 26) hz_X12_joined_32 rfl (by decide +kernel)
theorem dX12_joined_61 : decode cX12_joined 61 = .ok (.aload_n 0, 1) := dz_42 (n := 32) (r := 29) hz_X12_joined_32 rfl
theorem dX12_joined_62 : decode cX12_joined 62 = .ok (.aload_n 0, 1) := dz_42 (n := 32) (r := 30) hz_X12_joined_32 rfl
theorem dX12_joined_63 : decode cX12_joined 63 = .ok (.getfield 66, 3) := dz_180 (n := 32) (r := 31) hz_X12_joined_32 rfl rfl
theorem hz_X12_joined_64 : (cX12_joined.data.toList.drop 64).take 40 = [0, 66, 42, 180, 0, 69, 182, 1, 61, 3, 54, 4, 21, 4, 17, 2, 89, 162, 0, 17, 42, 180, 0, 72, 21, 4, 9, 80, 132, 4, 1, 167, 255, 237, 3, 54, 4, 21, 4, 17] := by decide +kernel
theorem dX12_joined_66 : decode cX12_joined 66 = .ok (.aload_n 0, 1) := dz_42 (n := 64) (r := 2) hz_X12_joined_64 rfl
theorem dX12_joined_67 : decode cX12_joined 67 = .ok (.getfield 69, 3) := dz_180 (n := 64) (r := 3) hz_X12_joined_64 rfl rfl
theorem dX12_joined_70 : decode cX12_joined 70 = .ok (.invokevirtual 317, 3) := dz_182 (n := 64) (r := 6) hz_X12_joined_64 rfl rfl
theorem dX12_joined_73 : decode cX12_joined 73 = .ok (.iconst 0, 1) := dz_3 (n := 64) (r := 9) hz_X12_joined_64 rfl
theorem dX12_joined_74 : decode cX12_joined 74 = .ok (.istore 4, 2) := dz_54 (n := 64) (r := 10) hz_X12_joined_64 rfl rfl
theorem dX12_joined_76 : decode cX12_joined 76 = .ok (.iload 4, 2) := dz_21 (n := 64) (r := 12) hz_X12_joined_64 rfl rfl
theorem dX12_joined_78 : decode cX12_joined 78 = .ok (.sipush 601, 3) := dz_17 (n := 64) (r := 14) hz_X12_joined_64 rfl (by decide +kernel)
theorem dX12_joined_81 : decode cX12_joined 81 = .ok (.if_icmp .ge 17, 3) := dz_162 (n := 64) (r := 17) hz_X12_joined_64 rfl (by decide +kernel)
theorem dX12_joined_84 : decode cX12_joined 84 = .ok (.aload_n 0, 1) := dz_42 (n := 64) (r := 20) hz_X12_joined_64 rfl
theorem dX12_joined_85 : decode cX12_joined 85 = .ok (.getfield 72, 3) := dz_180 (n := 64) (r := 21) hz_X12_joined_64 rfl rfl
theorem dX12_joined_88 : decode cX12_joined 88 = .ok (.iload 4, 2) := dz_21 (n := 64) (r := 24) hz_X12_joined_64 rfl rfl
theorem dX12_joined_90 : decode cX12_joined 90 = .ok (.lconst 0, 1) := dz_9 (n := 64) (r := 26) hz_X12_joined_64 rfl
theorem dX12_joined_91 : decode cX12_joined 91 = .ok (.lastore, 1) := dz_80 (n := 64) (r := 27) hz_X12_joined_64 rfl
theorem dX12_joined_92 : decode cX12_joined 92 = .ok (.iinc 4 1, 3) := dz_132 (n := 64) (r := 28) hz_X12_joined_64 rfl rfl rfl
theorem dX12_joined_95 : decode cX12_joined 95 = .ok (.goto (-19), 3) := dz_167 (n := 64) (r := 31) hz_X12_joined_64 rfl (by decide +kernel)
theorem hz_X12_joined_96 : (cX12_joined.data.toList.drop 96).take 40 = [255, 237, 3, 54, 4, 21, 4, 17, 1, 45, 162, 0, 66, 3, 54, 5, 21, 5, 17, 1, 45, 162, 0, 49, 42, 180, 0, 60, 21, 4, 46, 158, 0, 39, 42, 180, 0, 72, 21, 4] := by decide +kernel
theorem dX12_joined_98 : decode cX12_joined 98 = .ok (.iconst 0, 1) := dz_3 (n := 96) (r := 2) hz_X12_joined_96 rfl
theorem dX12_joined_99 : decode cX12_joined 99 = .ok (.istore 4, 2) := dz_54 (n := 96) (r := 3) hz_X12_joined_96 rfl rfl
theorem dX12_joined_101 : decode cX12_joined 101 = .ok (.iload 4, 2) := dz_21 (n := 96) (r := 5) hz_X12_joined_96 rfl rfl
theorem dX12_joined_103 : decode cX12_joined 103 = .ok (.sipush 301, 3) := dz_17 (n := 96) (r := 7) hz_X12_joined_96 rfl (by decide +kernel)
theorem dX12_joined_106 : decode cX12_joined 106 = .ok (.if_icmp .ge 66, 3) := dz_162 (n := 96) (r := 10) hz_X12_joined_96 rfl (by decide +kernel)
theorem dX12_joined_109 : decode cX12_joined 109 = .ok (.iconst 0, 1) := dz_3 (n := 96) (r := 13) hz_X12_joined_96 rfl
theorem dX12_joined_110 : decode cX12_joined 110 = .ok (.istore 5, 2) := dz_54 (n := 96) (r := 14) hz_X12_joined_96 rfl rfl
theorem dX12_joined_112 : decode cX12_joined 112 = .ok (.iload 5, 2) := dz_21 (n := 96) (r := 16) hz_X12_joined_96 rfl rfl
theorem dX12_joined_114 : decode cX12_joined 114 = .ok (.sipush 301, 3) := dz_17 (n := 96) (r := 18) hz_X12_joined_96 rfl (by decide +kernel)
theorem dX12_joined_117 : decode cX12_joined 117 = .ok (.if_icmp .ge 49, 3) := dz_162 (n := 96) (r := 21) hz_X12_joined_96 rfl (by decide +kernel)
theorem dX12_joined_120 : decode cX12_joined 120 = .ok (.aload_n 0, 1) := dz_42 (n := 96) (r := 24) hz_X12_joined_96 rfl
theorem dX12_joined_121 : decode cX12_joined 121 = .ok (.getfield 60, 3) := dz_180 (n := 96) (r := 25) hz_X12_joined_96 rfl rfl
theorem dX12_joined_124 : decode cX12_joined 124 = .ok (.iload 4, 2) := dz_21 (n := 96) (r := 28) hz_X12_joined_96 rfl rfl
theorem dX12_joined_126 : decode cX12_joined 126 = .ok (.iaload, 1) := dz_46 (n := 96) (r := 30) hz_X12_joined_96 rfl
theorem dX12_joined_127 : decode cX12_joined 127 = .ok (.ifCond .le 39, 3) := dz_158 (n := 96) (r := 31) hz_X12_joined_96 rfl (by decide +kernel)
theorem hz_X12_joined_128 : (cX12_joined.data.toList.drop 128).take 40 = [0, 39, 42, 180, 0, 72, 21, 4, 21, 5, 96, 92, 47, 42, 180, 0, 60, 21, 4, 46, 133, 42, 180, 0, 69, 21, 5, 46, 133, 105, 97, 80, 132, 5, 1, 167, 255, 205, 132, 4] := by decide +kernel
theorem dX12_joined_130 : decode cX12_joined 130 = .ok (.aload_n 0, 1) := dz_42 (n := 128) (r := 2) hz_X12_joined_128 rfl
theorem dX12_joined_131 : decode cX12_joined 131 = .ok (.getfield 72, 3) := dz_180 (n := 128) (r := 3) hz_X12_joined_128 rfl rfl
theorem dX12_joined_134 : decode cX12_joined 134 = .ok (.iload 4, 2) := dz_21 (n := 128) (r := 6) hz_X12_joined_128 rfl rfl
theorem dX12_joined_136 : decode cX12_joined 136 = .ok (.iload 5, 2) := dz_21 (n := 128) (r := 8) hz_X12_joined_128 rfl rfl
theorem dX12_joined_138 : decode cX12_joined 138 = .ok (.iadd, 1) := dz_96 (n := 128) (r := 10) hz_X12_joined_128 rfl
theorem dX12_joined_139 : decode cX12_joined 139 = .ok (.dup2, 1) := dz_92 (n := 128) (r := 11) hz_X12_joined_128 rfl
theorem dX12_joined_140 : decode cX12_joined 140 = .ok (.laload, 1) := dz_47 (n := 128) (r := 12) hz_X12_joined_128 rfl
theorem dX12_joined_141 : decode cX12_joined 141 = .ok (.aload_n 0, 1) := dz_42 (n := 128) (r := 13) hz_X12_joined_128 rfl
theorem dX12_joined_142 : decode cX12_joined 142 = .ok (.getfield 60, 3) := dz_180 (n := 128) (r := 14) hz_X12_joined_128 rfl rfl
theorem dX12_joined_145 : decode cX12_joined 145 = .ok (.iload 4, 2) := dz_21 (n := 128) (r := 17) hz_X12_joined_128 rfl rfl
theorem dX12_joined_147 : decode cX12_joined 147 = .ok (.iaload, 1) := dz_46 (n := 128) (r := 19) hz_X12_joined_128 rfl
theorem dX12_joined_148 : decode cX12_joined 148 = .ok (.i2l, 1) := dz_133 (n := 128) (r := 20) hz_X12_joined_128 rfl
theorem dX12_joined_149 : decode cX12_joined 149 = .ok (.aload_n 0, 1) := dz_42 (n := 128) (r := 21) hz_X12_joined_128 rfl
theorem dX12_joined_150 : decode cX12_joined 150 = .ok (.getfield 69, 3) := dz_180 (n := 128) (r := 22) hz_X12_joined_128 rfl rfl
theorem dX12_joined_153 : decode cX12_joined 153 = .ok (.iload 5, 2) := dz_21 (n := 128) (r := 25) hz_X12_joined_128 rfl rfl
theorem dX12_joined_155 : decode cX12_joined 155 = .ok (.iaload, 1) := dz_46 (n := 128) (r := 27) hz_X12_joined_128 rfl
theorem dX12_joined_156 : decode cX12_joined 156 = .ok (.i2l, 1) := dz_133 (n := 128) (r := 28) hz_X12_joined_128 rfl
theorem dX12_joined_157 : decode cX12_joined 157 = .ok (.lmul, 1) := dz_105 (n := 128) (r := 29) hz_X12_joined_128 rfl
theorem dX12_joined_158 : decode cX12_joined 158 = .ok (.ladd, 1) := dz_97 (n := 128) (r := 30) hz_X12_joined_128 rfl
theorem dX12_joined_159 : decode cX12_joined 159 = .ok (.lastore, 1) := dz_80 (n := 128) (r := 31) hz_X12_joined_128 rfl
theorem hz_X12_joined_160 : (cX12_joined.data.toList.drop 160).take 40 = [132, 5, 1, 167, 255, 205, 132, 4, 1, 167, 255, 188, 3, 54, 4, 3, 54, 5, 21, 5, 17, 2, 89, 162, 0, 66, 42, 180, 0, 72, 21, 5, 47, 9, 148, 154, 0, 6, 167, 0] := by decide +kernel
theorem dX12_joined_160 : decode cX12_joined 160 = .ok (.iinc 5 1, 3) := dz_132 (n := 160) (r := 0) hz_X12_joined_160 rfl rfl rfl
theorem dX12_joined_163 : decode cX12_joined 163 = .ok (.goto (-51), 3) := dz_167 (n := 160) (r := 3) hz_X12_joined_160 rfl (by decide +kernel)
theorem dX12_joined_166 : decode cX12_joined 166 = .ok (.iinc 4 1, 3) := dz_132 (n := 160) (r := 6) hz_X12_joined_160 rfl rfl rfl
theorem dX12_joined_169 : decode cX12_joined 169 = .ok (.goto (-68), 3) := dz_167 (n := 160) (r := 9) hz_X12_joined_160 rfl (by decide +kernel)
theorem dX12_joined_172 : decode cX12_joined 172 = .ok (.iconst 0, 1) := dz_3 (n := 160) (r := 12) hz_X12_joined_160 rfl
theorem dX12_joined_173 : decode cX12_joined 173 = .ok (.istore 4, 2) := dz_54 (n := 160) (r := 13) hz_X12_joined_160 rfl rfl
theorem dX12_joined_175 : decode cX12_joined 175 = .ok (.iconst 0, 1) := dz_3 (n := 160) (r := 15) hz_X12_joined_160 rfl
theorem dX12_joined_176 : decode cX12_joined 176 = .ok (.istore 5, 2) := dz_54 (n := 160) (r := 16) hz_X12_joined_160 rfl rfl
theorem dX12_joined_178 : decode cX12_joined 178 = .ok (.iload 5, 2) := dz_21 (n := 160) (r := 18) hz_X12_joined_160 rfl rfl
theorem dX12_joined_180 : decode cX12_joined 180 = .ok (.sipush 601, 3) := dz_17 (n := 160) (r := 20) hz_X12_joined_160 rfl (by decide +kernel)
theorem dX12_joined_183 : decode cX12_joined 183 = .ok (.if_icmp .ge 66, 3) := dz_162 (n := 160) (r := 23) hz_X12_joined_160 rfl (by decide +kernel)
theorem dX12_joined_186 : decode cX12_joined 186 = .ok (.aload_n 0, 1) := dz_42 (n := 160) (r := 26) hz_X12_joined_160 rfl
theorem dX12_joined_187 : decode cX12_joined 187 = .ok (.getfield 72, 3) := dz_180 (n := 160) (r := 27) hz_X12_joined_160 rfl rfl
theorem dX12_joined_190 : decode cX12_joined 190 = .ok (.iload 5, 2) := dz_21 (n := 160) (r := 30) hz_X12_joined_160 rfl rfl
theorem hz_X12_joined_192 : (cX12_joined.data.toList.drop 192).take 40 = [47, 9, 148, 154, 0, 6, 167, 0, 45, 21, 4, 28, 160, 0, 36, 29, 154, 0, 13, 21, 5, 17, 1, 44, 100, 133, 167, 0, 21, 29, 4, 160, 0, 13, 42, 180, 0, 72, 21, 5] := by decide +kernel
theorem dX12_joined_192 : decode cX12_joined 192 = .ok (.laload, 1) := dz_47 (n := 192) (r := 0) hz_X12_joined_192 rfl
theorem dX12_joined_193 : decode cX12_joined 193 = .ok (.lconst 0, 1) := dz_9 (n := 192) (r := 1) hz_X12_joined_192 rfl
theorem dX12_joined_194 : decode cX12_joined 194 = .ok (.lcmp, 1) := dz_148 (n := 192) (r := 2) hz_X12_joined_192 rfl
theorem dX12_joined_195 : decode cX12_joined 195 = .ok (.ifCond .ne 6, 3) := dz_154 (n := 192) (r := 3) hz_X12_joined_192 rfl (by decide +kernel)
theorem dX12_joined_198 : decode cX12_joined 198 = .ok (.goto 45, 3) := dz_167 (n := 192) (r := 6) hz_X12_joined_192 rfl (by decide +kernel)
theorem dX12_joined_201 : decode cX12_joined 201 = .ok (.iload 4, 2) := dz_21 (n := 192) (r := 9) hz_X12_joined_192 rfl rfl
theorem dX12_joined_203 : decode cX12_joined 203 = .ok (.iload_n 2, 1) := dz_28 (n := 192) (r := 11) hz_X12_joined_192 rfl
theorem dX12_joined_204 : decode cX12_joined 204 = .ok (.if_icmp .ne 36, 3) := dz_160 (n := 192) (r := 12) hz_X12_joined_192 rfl (by decide +kernel)
theorem dX12_joined_207 : decode cX12_joined 207 = .ok (.iload_n 3, 1) := dz_29 (n := 192) (r := 15) hz_X12_joined_192 rfl
theorem dX12_joined_208 : decode cX12_joined 208 = .ok (.ifCond .ne 13, 3) := dz_154 (n := 192) (r := 16) hz_X12_joined_192 rfl (by decide +kernel)
theorem dX12_joined_211 : decode cX12_joined 211 = .ok (.iload 5, 2) := dz_21 (n := 192) (r := 19) hz_X12_joined_192 rfl rfl
theorem dX12_joined_213 : decode cX12_joined 213 = .ok (.sipush 300, 3) := dz_17 (n := 192) (r := 21) hz_X12_joined_192 rfl (by decide +kernel)
theorem dX12_joined_216 : decode cX12_joined 216 = .ok (.isub, 1) := dz_100 (n := 192) (r := 24) hz_X12_joined_192 rfl
theorem dX12_joined_217 : decode cX12_joined 217 = .ok (.i2l, 1) := dz_133 (n := 192) (r := 25) hz_X12_joined_192 rfl
theorem dX12_joined_218 : decode cX12_joined 218 = .ok (.goto 21, 3) := dz_167 (n := 192) (r := 26) hz_X12_joined_192 rfl (by decide +kernel)
theorem dX12_joined_221 : decode cX12_joined 221 = .ok (.iload_n 3, 1) := dz_29 (n := 192) (r := 29) hz_X12_joined_192 rfl
theorem dX12_joined_222 : decode cX12_joined 222 = .ok (.iconst 1, 1) := dz_4 (n := 192) (r := 30) hz_X12_joined_192 rfl
theorem dX12_joined_223 : decode cX12_joined 223 = .ok (.if_icmp .ne 13, 3) := dz_160 (n := 192) (r := 31) hz_X12_joined_192 rfl (by decide +kernel)
theorem hz_X12_joined_224 : (cX12_joined.data.toList.drop 224).take 40 = [0, 13, 42, 180, 0, 72, 21, 5, 47, 167, 0, 6, 20, 1, 59, 173, 132, 4, 1, 132, 5, 1, 167, 255, 188, 28, 2, 160, 0, 9, 21, 4, 133, 167, 0, 6, 20, 1, 59, 173] := by decide +kernel
theorem dX12_joined_226 : decode cX12_joined 226 = .ok (.aload_n 0, 1) := dz_42 (n := 224) (r := 2) hz_X12_joined_224 rfl
theorem dX12_joined_227 : decode cX12_joined 227 = .ok (.getfield 72, 3) := dz_180 (n := 224) (r := 3) hz_X12_joined_224 rfl rfl
theorem dX12_joined_230 : decode cX12_joined 230 = .ok (.iload 5, 2) := dz_21 (n := 224) (r := 6) hz_X12_joined_224 rfl rfl
theorem dX12_joined_232 : decode cX12_joined 232 = .ok (.laload, 1) := dz_47 (n := 224) (r := 8) hz_X12_joined_224 rfl
theorem dX12_joined_233 : decode cX12_joined 233 = .ok (.goto 6, 3) := dz_167 (n := 224) (r := 9) hz_X12_joined_224 rfl (by decide +kernel)
theorem dX12_joined_236 : decode cX12_joined 236 = .ok (.ldc2_w 315, 3) := dz_20 (n := 224) (r := 12) hz_X12_joined_224 rfl rfl
theorem dX12_joined_239 : decode cX12_joined 239 = .ok (.lreturn, 1) := dz_173 (n := 224) (r := 15) hz_X12_joined_224 rfl
theorem dX12_joined_240 : decode cX12_joined 240 = .ok (.iinc 4 1, 3) := dz_132 (n := 224) (r := 16) hz_X12_joined_224 rfl rfl rfl
theorem dX12_joined_243 : decode cX12_joined 243 = .ok (.iinc 5 1, 3) := dz_132 (n := 224) (r := 19) hz_X12_joined_224 rfl rfl rfl
theorem dX12_joined_246 : decode cX12_joined 246 = .ok (.goto (-68), 3) := dz_167 (n := 224) (r := 22) hz_X12_joined_224 rfl (by decide +kernel)
theorem dX12_joined_249 : decode cX12_joined 249 = .ok (.iload_n 2, 1) := dz_28 (n := 224) (r := 25) hz_X12_joined_224 rfl
theorem dX12_joined_250 : decode cX12_joined 250 = .ok (.iconst (-1), 1) := dz_2 (n := 224) (r := 26) hz_X12_joined_224 rfl
theorem dX12_joined_251 : decode cX12_joined 251 = .ok (.if_icmp .ne 9, 3) := dz_160 (n := 224) (r := 27) hz_X12_joined_224 rfl (by decide +kernel)
theorem dX12_joined_254 : decode cX12_joined 254 = .ok (.iload 4, 2) := dz_21 (n := 224) (r := 30) hz_X12_joined_224 rfl rfl
theorem hz_X12_joined_256 : (cX12_joined.data.toList.drop 256).take 40 = [133, 167, 0, 6, 20, 1, 59, 173] := by decide +kernel
theorem dX12_joined_256 : decode cX12_joined 256 = .ok (.i2l, 1) := dz_133 (n := 256) (r := 0) hz_X12_joined_256 rfl
theorem dX12_joined_257 : decode cX12_joined 257 = .ok (.goto 6, 3) := dz_167 (n := 256) (r := 1) hz_X12_joined_256 rfl (by decide +kernel)
theorem dX12_joined_260 : decode cX12_joined 260 = .ok (.ldc2_w 315, 3) := dz_20 (n := 256) (r := 4) hz_X12_joined_256 rfl rfl
theorem dX12_joined_263 : decode cX12_joined 263 = .ok (.lreturn, 1) := dz_173 (n := 256) (r := 7) hz_X12_joined_256 rfl
theorem hz_X12_steepest_0 : (cX12_steepest.data.toList.drop 0).take 40 = [2, 61, 42, 180, 0, 57, 27, 46, 62, 3, 54, 4, 21, 4, 42, 182, 0, 193, 162, 0, 37, 42, 180, 0, 57, 27, 4, 21, 4, 120, 130, 46, 54, 5, 21, 5, 29, 161, 0, 6] := by decide +kernel
theorem dX12_steepest_0 : decode cX12_steepest 0 = .ok (.iconst (-1), 1) := dz_2 (n := 0) (r := 0) hz_X12_steepest_0 rfl
theorem dX12_steepest_1 : decode cX12_steepest 1 = .ok (.istore_n 2, 1) := dz_61 (n := 0) (r := 1) hz_X12_steepest_0 rfl
theorem dX12_steepest_2 : decode cX12_steepest 2 = .ok (.aload_n 0, 1) := dz_42 (n := 0) (r := 2) hz_X12_steepest_0 rfl
theorem dX12_steepest_3 : decode cX12_steepest 3 = .ok (.getfield 57, 3) := dz_180 (n := 0) (r := 3) hz_X12_steepest_0 rfl rfl
theorem dX12_steepest_6 : decode cX12_steepest 6 = .ok (.iload_n 1, 1) := dz_27 (n := 0) (r := 6) hz_X12_steepest_0 rfl
theorem dX12_steepest_7 : decode cX12_steepest 7 = .ok (.iaload, 1) := dz_46 (n := 0) (r := 7) hz_X12_steepest_0 rfl
theorem dX12_steepest_8 : decode cX12_steepest 8 = .ok (.istore_n 3, 1) := dz_62 (n := 0) (r := 8) hz_X12_steepest_0 rfl
theorem dX12_steepest_9 : decode cX12_steepest 9 = .ok (.iconst 0, 1) := dz_3 (n := 0) (r := 9) hz_X12_steepest_0 rfl
theorem dX12_steepest_10 : decode cX12_steepest 10 = .ok (.istore 4, 2) := dz_54 (n := 0) (r := 10) hz_X12_steepest_0 rfl rfl
theorem dX12_steepest_12 : decode cX12_steepest 12 = .ok (.iload 4, 2) := dz_21 (n := 0) (r := 12) hz_X12_steepest_0 rfl rfl
theorem dX12_steepest_14 : decode cX12_steepest 14 = .ok (.aload_n 0, 1) := dz_42 (n := 0) (r := 14) hz_X12_steepest_0 rfl
theorem dX12_steepest_15 : decode cX12_steepest 15 = .ok (.invokevirtual 193, 3) := dz_182 (n := 0) (r := 15) hz_X12_steepest_0 rfl rfl
theorem dX12_steepest_18 : decode cX12_steepest 18 = .ok (.if_icmp .ge 37, 3) := dz_162 (n := 0) (r := 18) hz_X12_steepest_0 rfl (by decide +kernel)
theorem dX12_steepest_21 : decode cX12_steepest 21 = .ok (.aload_n 0, 1) := dz_42 (n := 0) (r := 21) hz_X12_steepest_0 rfl
theorem dX12_steepest_22 : decode cX12_steepest 22 = .ok (.getfield 57, 3) := dz_180 (n := 0) (r := 22) hz_X12_steepest_0 rfl rfl
theorem dX12_steepest_25 : decode cX12_steepest 25 = .ok (.iload_n 1, 1) := dz_27 (n := 0) (r := 25) hz_X12_steepest_0 rfl
theorem dX12_steepest_26 : decode cX12_steepest 26 = .ok (.iconst 1, 1) := dz_4 (n := 0) (r := 26) hz_X12_steepest_0 rfl
theorem dX12_steepest_27 : decode cX12_steepest 27 = .ok (.iload 4, 2) := dz_21 (n := 0) (r := 27) hz_X12_steepest_0 rfl rfl
theorem dX12_steepest_29 : decode cX12_steepest 29 = .ok (.ishl, 1) := dz_120 (n := 0) (r := 29) hz_X12_steepest_0 rfl
theorem dX12_steepest_30 : decode cX12_steepest 30 = .ok (.ixor, 1) := dz_130 (n := 0) (r := 30) hz_X12_steepest_0 rfl
theorem dX12_steepest_31 : decode cX12_steepest 31 = .ok (.iaload, 1) := dz_46 (n := 0) (r := 31) hz_X12_steepest_0 rfl
theorem hz_X12_steepest_32 : (cX12_steepest.data.toList.drop 32).take 40 = [54, 5, 21, 5, 29, 161, 0, 6, 167, 0, 9, 21, 4, 61, 21, 5, 62, 132, 4, 1, 167, 255, 216, 28, 172] := by decide +kernel
theorem dX12_steepest_32 : decode cX12_steepest 32 = .ok (.istore 5, 2) := dz_54 (n := 32) (r := 0) hz_X12_steepest_32 rfl rfl
theorem dX12_steepest_34 : decode cX12_steepest 34 = .ok (.iload 5, 2) := dz_21 (n := 32) (r := 2) hz_X12_steepest_32 rfl rfl
theorem dX12_steepest_36 : decode cX12_steepest 36 = .ok (.iload_n 3, 1) := dz_29 (n := 32) (r := 4) hz_X12_steepest_32 rfl
theorem dX12_steepest_37 : decode cX12_steepest 37 = .ok (.if_icmp .lt 6, 3) := dz_161 (n := 32) (r := 5) hz_X12_steepest_32 rfl (by decide +kernel)
theorem dX12_steepest_40 : decode cX12_steepest 40 = .ok (.goto 9, 3) := dz_167 (n := 32) (r := 8) hz_X12_steepest_32 rfl (by decide +kernel)
theorem dX12_steepest_43 : decode cX12_steepest 43 = .ok (.iload 4, 2) := dz_21 (n := 32) (r := 11) hz_X12_steepest_32 rfl rfl
theorem dX12_steepest_45 : decode cX12_steepest 45 = .ok (.istore_n 2, 1) := dz_61 (n := 32) (r := 13) hz_X12_steepest_32 rfl
theorem dX12_steepest_46 : decode cX12_steepest 46 = .ok (.iload 5, 2) := dz_21 (n := 32) (r := 14) hz_X12_steepest_32 rfl rfl
theorem dX12_steepest_48 : decode cX12_steepest 48 = .ok (.istore_n 3, 1) := dz_62 (n := 32) (r := 16) hz_X12_steepest_32 rfl
theorem dX12_steepest_49 : decode cX12_steepest 49 = .ok (.iinc 4 1, 3) := dz_132 (n := 32) (r := 17) hz_X12_steepest_32 rfl rfl rfl
theorem dX12_steepest_52 : decode cX12_steepest 52 = .ok (.goto (-40), 3) := dz_167 (n := 32) (r := 20) hz_X12_steepest_32 rfl (by decide +kernel)
theorem dX12_steepest_55 : decode cX12_steepest 55 = .ok (.iload_n 2, 1) := dz_28 (n := 32) (r := 23) hz_X12_steepest_32 rfl
theorem dX12_steepest_56 : decode cX12_steepest 56 = .ok (.ireturn, 1) := dz_172 (n := 32) (r := 24) hz_X12_steepest_32 rfl
theorem hz_X12_fallEnd_0 : (cX12_fallEnd.data.toList.drop 0).take 40 = [27, 61, 42, 28, 182, 1, 65, 62, 29, 155, 0, 18, 28, 4, 29, 120, 130, 61, 42, 28, 182, 1, 65, 62, 167, 255, 240, 28, 172] := by decide +kernel
theorem dX12_fallEnd_0 : decode cX12_fallEnd 0 = .ok (.iload_n 1, 1) := dz_27 (n := 0) (r := 0) hz_X12_fallEnd_0 rfl
theorem dX12_fallEnd_1 : decode cX12_fallEnd 1 = .ok (.istore_n 2, 1) := dz_61 (n := 0) (r := 1) hz_X12_fallEnd_0 rfl
theorem dX12_fallEnd_2 : decode cX12_fallEnd 2 = .ok (.aload_n 0, 1) := dz_42 (n := 0) (r := 2) hz_X12_fallEnd_0 rfl
theorem dX12_fallEnd_3 : decode cX12_fallEnd 3 = .ok (.iload_n 2, 1) := dz_28 (n := 0) (r := 3) hz_X12_fallEnd_0 rfl
theorem dX12_fallEnd_4 : decode cX12_fallEnd 4 = .ok (.invokevirtual 321, 3) := dz_182 (n := 0) (r := 4) hz_X12_fallEnd_0 rfl rfl
theorem dX12_fallEnd_7 : decode cX12_fallEnd 7 = .ok (.istore_n 3, 1) := dz_62 (n := 0) (r := 7) hz_X12_fallEnd_0 rfl
theorem dX12_fallEnd_8 : decode cX12_fallEnd 8 = .ok (.iload_n 3, 1) := dz_29 (n := 0) (r := 8) hz_X12_fallEnd_0 rfl
theorem dX12_fallEnd_9 : decode cX12_fallEnd 9 = .ok (.ifCond .lt 18, 3) := dz_155 (n := 0) (r := 9) hz_X12_fallEnd_0 rfl (by decide +kernel)
theorem dX12_fallEnd_12 : decode cX12_fallEnd 12 = .ok (.iload_n 2, 1) := dz_28 (n := 0) (r := 12) hz_X12_fallEnd_0 rfl
theorem dX12_fallEnd_13 : decode cX12_fallEnd 13 = .ok (.iconst 1, 1) := dz_4 (n := 0) (r := 13) hz_X12_fallEnd_0 rfl
theorem dX12_fallEnd_14 : decode cX12_fallEnd 14 = .ok (.iload_n 3, 1) := dz_29 (n := 0) (r := 14) hz_X12_fallEnd_0 rfl
theorem dX12_fallEnd_15 : decode cX12_fallEnd 15 = .ok (.ishl, 1) := dz_120 (n := 0) (r := 15) hz_X12_fallEnd_0 rfl
theorem dX12_fallEnd_16 : decode cX12_fallEnd 16 = .ok (.ixor, 1) := dz_130 (n := 0) (r := 16) hz_X12_fallEnd_0 rfl
theorem dX12_fallEnd_17 : decode cX12_fallEnd 17 = .ok (.istore_n 2, 1) := dz_61 (n := 0) (r := 17) hz_X12_fallEnd_0 rfl
theorem dX12_fallEnd_18 : decode cX12_fallEnd 18 = .ok (.aload_n 0, 1) := dz_42 (n := 0) (r := 18) hz_X12_fallEnd_0 rfl
theorem dX12_fallEnd_19 : decode cX12_fallEnd 19 = .ok (.iload_n 2, 1) := dz_28 (n := 0) (r := 19) hz_X12_fallEnd_0 rfl
theorem dX12_fallEnd_20 : decode cX12_fallEnd 20 = .ok (.invokevirtual 321, 3) := dz_182 (n := 0) (r := 20) hz_X12_fallEnd_0 rfl rfl
theorem dX12_fallEnd_23 : decode cX12_fallEnd 23 = .ok (.istore_n 3, 1) := dz_62 (n := 0) (r := 23) hz_X12_fallEnd_0 rfl
theorem dX12_fallEnd_24 : decode cX12_fallEnd 24 = .ok (.goto (-16), 3) := dz_167 (n := 0) (r := 24) hz_X12_fallEnd_0 rfl (by decide +kernel)
theorem dX12_fallEnd_27 : decode cX12_fallEnd 27 = .ok (.iload_n 2, 1) := dz_28 (n := 0) (r := 27) hz_X12_fallEnd_0 rfl
theorem dX12_fallEnd_28 : decode cX12_fallEnd 28 = .ok (.ireturn, 1) := dz_172 (n := 0) (r := 28) hz_X12_fallEnd_0 rfl
theorem hz_X12_fallTurns_0 : (cX12_fallTurns.data.toList.drop 0).take 40 = [27, 61, 3, 62, 42, 28, 182, 1, 65, 54, 4, 21, 4, 155, 0, 23, 28, 4, 21, 4, 120, 130, 61, 132, 3, 1, 42, 28, 182, 1, 65, 54, 4, 167, 255, 234, 29, 172] := by decide +kernel
theorem dX12_fallTurns_0 : decode cX12_fallTurns 0 = .ok (.iload_n 1, 1) := dz_27 (n := 0) (r := 0) hz_X12_fallTurns_0 rfl
theorem dX12_fallTurns_1 : decode cX12_fallTurns 1 = .ok (.istore_n 2, 1) := dz_61 (n := 0) (r := 1) hz_X12_fallTurns_0 rfl
theorem dX12_fallTurns_2 : decode cX12_fallTurns 2 = .ok (.iconst 0, 1) := dz_3 (n := 0) (r := 2) hz_X12_fallTurns_0 rfl
theorem dX12_fallTurns_3 : decode cX12_fallTurns 3 = .ok (.istore_n 3, 1) := dz_62 (n := 0) (r := 3) hz_X12_fallTurns_0 rfl
theorem dX12_fallTurns_4 : decode cX12_fallTurns 4 = .ok (.aload_n 0, 1) := dz_42 (n := 0) (r := 4) hz_X12_fallTurns_0 rfl
theorem dX12_fallTurns_5 : decode cX12_fallTurns 5 = .ok (.iload_n 2, 1) := dz_28 (n := 0) (r := 5) hz_X12_fallTurns_0 rfl
theorem dX12_fallTurns_6 : decode cX12_fallTurns 6 = .ok (.invokevirtual 321, 3) := dz_182 (n := 0) (r := 6) hz_X12_fallTurns_0 rfl rfl
theorem dX12_fallTurns_9 : decode cX12_fallTurns 9 = .ok (.istore 4, 2) := dz_54 (n := 0) (r := 9) hz_X12_fallTurns_0 rfl rfl
theorem dX12_fallTurns_11 : decode cX12_fallTurns 11 = .ok (.iload 4, 2) := dz_21 (n := 0) (r := 11) hz_X12_fallTurns_0 rfl rfl
theorem dX12_fallTurns_13 : decode cX12_fallTurns 13 = .ok (.ifCond .lt 23, 3) := dz_155 (n := 0) (r := 13) hz_X12_fallTurns_0 rfl (by decide +kernel)
theorem dX12_fallTurns_16 : decode cX12_fallTurns 16 = .ok (.iload_n 2, 1) := dz_28 (n := 0) (r := 16) hz_X12_fallTurns_0 rfl
theorem dX12_fallTurns_17 : decode cX12_fallTurns 17 = .ok (.iconst 1, 1) := dz_4 (n := 0) (r := 17) hz_X12_fallTurns_0 rfl
theorem dX12_fallTurns_18 : decode cX12_fallTurns 18 = .ok (.iload 4, 2) := dz_21 (n := 0) (r := 18) hz_X12_fallTurns_0 rfl rfl
theorem dX12_fallTurns_20 : decode cX12_fallTurns 20 = .ok (.ishl, 1) := dz_120 (n := 0) (r := 20) hz_X12_fallTurns_0 rfl
theorem dX12_fallTurns_21 : decode cX12_fallTurns 21 = .ok (.ixor, 1) := dz_130 (n := 0) (r := 21) hz_X12_fallTurns_0 rfl
theorem dX12_fallTurns_22 : decode cX12_fallTurns 22 = .ok (.istore_n 2, 1) := dz_61 (n := 0) (r := 22) hz_X12_fallTurns_0 rfl
theorem dX12_fallTurns_23 : decode cX12_fallTurns 23 = .ok (.iinc 3 1, 3) := dz_132 (n := 0) (r := 23) hz_X12_fallTurns_0 rfl rfl rfl
theorem dX12_fallTurns_26 : decode cX12_fallTurns 26 = .ok (.aload_n 0, 1) := dz_42 (n := 0) (r := 26) hz_X12_fallTurns_0 rfl
theorem dX12_fallTurns_27 : decode cX12_fallTurns 27 = .ok (.iload_n 2, 1) := dz_28 (n := 0) (r := 27) hz_X12_fallTurns_0 rfl
theorem dX12_fallTurns_28 : decode cX12_fallTurns 28 = .ok (.invokevirtual 321, 3) := dz_182 (n := 0) (r := 28) hz_X12_fallTurns_0 rfl rfl
theorem dX12_fallTurns_31 : decode cX12_fallTurns 31 = .ok (.istore 4, 2) := dz_54 (n := 0) (r := 31) hz_X12_fallTurns_0 rfl rfl
theorem hz_X12_fallTurns_32 : (cX12_fallTurns.data.toList.drop 32).take 40 = [4, 167, 255, 234, 29, 172] := by decide +kernel
theorem dX12_fallTurns_33 : decode cX12_fallTurns 33 = .ok (.goto (-22), 3) := dz_167 (n := 32) (r := 1) hz_X12_fallTurns_32 rfl (by decide +kernel)
theorem dX12_fallTurns_36 : decode cX12_fallTurns 36 = .ok (.iload_n 3, 1) := dz_29 (n := 32) (r := 4) hz_X12_fallTurns_32 rfl
theorem dX12_fallTurns_37 : decode cX12_fallTurns 37 = .ok (.ireturn, 1) := dz_172 (n := 32) (r := 5) hz_X12_fallTurns_32 rfl
theorem hz_X12_levelOf_0 : (cX12_levelOf.data.toList.drop 0).take 40 = [3, 61, 42, 180, 0, 63, 28, 46, 42, 180, 0, 57, 27, 46, 159, 0, 9, 132, 2, 1, 167, 255, 238, 28, 172] := by decide +kernel
theorem dX12_levelOf_0 : decode cX12_levelOf 0 = .ok (.iconst 0, 1) := dz_3 (n := 0) (r := 0) hz_X12_levelOf_0 rfl
theorem dX12_levelOf_1 : decode cX12_levelOf 1 = .ok (.istore_n 2, 1) := dz_61 (n := 0) (r := 1) hz_X12_levelOf_0 rfl
theorem dX12_levelOf_2 : decode cX12_levelOf 2 = .ok (.aload_n 0, 1) := dz_42 (n := 0) (r := 2) hz_X12_levelOf_0 rfl
theorem dX12_levelOf_3 : decode cX12_levelOf 3 = .ok (.getfield 63, 3) := dz_180 (n := 0) (r := 3) hz_X12_levelOf_0 rfl rfl
theorem dX12_levelOf_6 : decode cX12_levelOf 6 = .ok (.iload_n 2, 1) := dz_28 (n := 0) (r := 6) hz_X12_levelOf_0 rfl
theorem dX12_levelOf_7 : decode cX12_levelOf 7 = .ok (.iaload, 1) := dz_46 (n := 0) (r := 7) hz_X12_levelOf_0 rfl
theorem dX12_levelOf_8 : decode cX12_levelOf 8 = .ok (.aload_n 0, 1) := dz_42 (n := 0) (r := 8) hz_X12_levelOf_0 rfl
theorem dX12_levelOf_9 : decode cX12_levelOf 9 = .ok (.getfield 57, 3) := dz_180 (n := 0) (r := 9) hz_X12_levelOf_0 rfl rfl
theorem dX12_levelOf_12 : decode cX12_levelOf 12 = .ok (.iload_n 1, 1) := dz_27 (n := 0) (r := 12) hz_X12_levelOf_0 rfl
theorem dX12_levelOf_13 : decode cX12_levelOf 13 = .ok (.iaload, 1) := dz_46 (n := 0) (r := 13) hz_X12_levelOf_0 rfl
end
section
theorem dX12_levelOf_14 : decode cX12_levelOf 14 = .ok (.if_icmp .eq 9, 3) := dz_159 (n := 0) (r := 14) hz_X12_levelOf_0 rfl (by decide +kernel)
theorem dX12_levelOf_17 : decode cX12_levelOf 17 = .ok (.iinc 2 1, 3) := dz_132 (n := 0) (r := 17) hz_X12_levelOf_0 rfl rfl rfl
theorem dX12_levelOf_20 : decode cX12_levelOf 20 = .ok (.goto (-18), 3) := dz_167 (n := 0) (r := 20) hz_X12_levelOf_0 rfl (by decide +kernel)
theorem dX12_levelOf_23 : decode cX12_levelOf 23 = .ok (.iload_n 2, 1) := dz_28 (n := 0) (r := 23) hz_X12_levelOf_0 rfl
theorem dX12_levelOf_24 : decode cX12_levelOf 24 = .ok (.ireturn, 1) := dz_172 (n := 0) (r := 24) hz_X12_levelOf_0 rfl
theorem hz_X12_state_0 : (cX12_state.data.toList.drop 0).take 40 = [42, 27, 182, 1, 25, 154, 0, 7, 19, 1, 32, 172, 42, 182, 1, 5, 28, 170, 0, 0, 0, 0, 0, 84, 0, 0, 0, 0, 0, 0, 0, 5, 0, 0, 0, 39, 0, 0, 0, 46] := by decide +kernel
theorem dX12_state_0 : decode cX12_state 0 = .ok (.aload_n 0, 1) := dz_42 (n := 0) (r := 0) hz_X12_state_0 rfl
theorem dX12_state_1 : decode cX12_state 1 = .ok (.iload_n 1, 1) := dz_27 (n := 0) (r := 1) hz_X12_state_0 rfl
theorem dX12_state_2 : decode cX12_state 2 = .ok (.invokevirtual 281, 3) := dz_182 (n := 0) (r := 2) hz_X12_state_0 rfl rfl
theorem dX12_state_5 : decode cX12_state 5 = .ok (.ifCond .ne 7, 3) := dz_154 (n := 0) (r := 5) hz_X12_state_0 rfl (by decide +kernel)
theorem dX12_state_8 : decode cX12_state 8 = .ok (.ldc_w 288, 3) := dz_19 (n := 0) (r := 8) hz_X12_state_0 rfl rfl
theorem dX12_state_11 : decode cX12_state 11 = .ok (.ireturn, 1) := dz_172 (n := 0) (r := 11) hz_X12_state_0 rfl
theorem dX12_state_12 : decode cX12_state 12 = .ok (.aload_n 0, 1) := dz_42 (n := 0) (r := 12) hz_X12_state_0 rfl
theorem dX12_state_13 : decode cX12_state 13 = .ok (.invokevirtual 261, 3) := dz_182 (n := 0) (r := 13) hz_X12_state_0 rfl rfl
theorem dX12_state_16 : decode cX12_state 16 = .ok (.iload_n 2, 1) := dz_28 (n := 0) (r := 16) hz_X12_state_0 rfl
theorem dX12_state_17 : decode cX12_state 17 = .ok (.tableswitch 84 0 5 #[39, 46, 52, 66, 72, 78], 39) := by decide +kernel
theorem hz_X12_state_32 : (cX12_state.data.toList.drop 32).take 40 = [0, 0, 0, 39, 0, 0, 0, 46, 0, 0, 0, 52, 0, 0, 0, 66, 0, 0, 0, 72, 0, 0, 0, 78, 42, 180, 0, 57, 27, 46, 172, 42, 27, 182, 1, 49, 172, 42, 27, 182] := by decide +kernel
theorem dX12_state_56 : decode cX12_state 56 = .ok (.aload_n 0, 1) := dz_42 (n := 32) (r := 24) hz_X12_state_32 rfl
theorem dX12_state_57 : decode cX12_state 57 = .ok (.getfield 57, 3) := dz_180 (n := 32) (r := 25) hz_X12_state_32 rfl rfl
theorem dX12_state_60 : decode cX12_state 60 = .ok (.iload_n 1, 1) := dz_27 (n := 32) (r := 28) hz_X12_state_32 rfl
theorem dX12_state_61 : decode cX12_state 61 = .ok (.iaload, 1) := dz_46 (n := 32) (r := 29) hz_X12_state_32 rfl
theorem dX12_state_62 : decode cX12_state 62 = .ok (.ireturn, 1) := dz_172 (n := 32) (r := 30) hz_X12_state_32 rfl
theorem dX12_state_63 : decode cX12_state 63 = .ok (.aload_n 0, 1) := dz_42 (n := 32) (r := 31) hz_X12_state_32 rfl
theorem hz_X12_state_64 : (cX12_state.data.toList.drop 64).take 40 = [27, 182, 1, 49, 172, 42, 27, 182, 1, 65, 156, 0, 7, 4, 167, 0, 4, 3, 172, 42, 27, 182, 1, 11, 172, 42, 27, 182, 1, 8, 172, 42, 27, 182, 1, 68, 172, 19, 1, 32] := by decide +kernel
theorem dX12_state_64 : decode cX12_state 64 = .ok (.iload_n 1, 1) := dz_27 (n := 64) (r := 0) hz_X12_state_64 rfl
theorem dX12_state_65 : decode cX12_state 65 = .ok (.invokevirtual 305, 3) := dz_182 (n := 64) (r := 1) hz_X12_state_64 rfl rfl
theorem dX12_state_68 : decode cX12_state 68 = .ok (.ireturn, 1) := dz_172 (n := 64) (r := 4) hz_X12_state_64 rfl
theorem dX12_state_69 : decode cX12_state 69 = .ok (.aload_n 0, 1) := dz_42 (n := 64) (r := 5) hz_X12_state_64 rfl
theorem dX12_state_70 : decode cX12_state 70 = .ok (.iload_n 1, 1) := dz_27 (n := 64) (r := 6) hz_X12_state_64 rfl
theorem dX12_state_71 : decode cX12_state 71 = .ok (.invokevirtual 321, 3) := dz_182 (n := 64) (r := 7) hz_X12_state_64 rfl rfl
theorem dX12_state_74 : decode cX12_state 74 = .ok (.ifCond .ge 7, 3) := dz_156 (n := 64) (r := 10) hz_X12_state_64 rfl (by decide +kernel)
theorem dX12_state_77 : decode cX12_state 77 = .ok (.iconst 1, 1) := dz_4 (n := 64) (r := 13) hz_X12_state_64 rfl
theorem dX12_state_78 : decode cX12_state 78 = .ok (.goto 4, 3) := dz_167 (n := 64) (r := 14) hz_X12_state_64 rfl (by decide +kernel)
theorem dX12_state_81 : decode cX12_state 81 = .ok (.iconst 0, 1) := dz_3 (n := 64) (r := 17) hz_X12_state_64 rfl
theorem dX12_state_82 : decode cX12_state 82 = .ok (.ireturn, 1) := dz_172 (n := 64) (r := 18) hz_X12_state_64 rfl
theorem dX12_state_83 : decode cX12_state 83 = .ok (.aload_n 0, 1) := dz_42 (n := 64) (r := 19) hz_X12_state_64 rfl
theorem dX12_state_84 : decode cX12_state 84 = .ok (.iload_n 1, 1) := dz_27 (n := 64) (r := 20) hz_X12_state_64 rfl
theorem dX12_state_85 : decode cX12_state 85 = .ok (.invokevirtual 267, 3) := dz_182 (n := 64) (r := 21) hz_X12_state_64 rfl rfl
theorem dX12_state_88 : decode cX12_state 88 = .ok (.ireturn, 1) := dz_172 (n := 64) (r := 24) hz_X12_state_64 rfl
theorem dX12_state_89 : decode cX12_state 89 = .ok (.aload_n 0, 1) := dz_42 (n := 64) (r := 25) hz_X12_state_64 rfl
theorem dX12_state_90 : decode cX12_state 90 = .ok (.iload_n 1, 1) := dz_27 (n := 64) (r := 26) hz_X12_state_64 rfl
theorem dX12_state_91 : decode cX12_state 91 = .ok (.invokevirtual 264, 3) := dz_182 (n := 64) (r := 27) hz_X12_state_64 rfl rfl
theorem dX12_state_94 : decode cX12_state 94 = .ok (.ireturn, 1) := dz_172 (n := 64) (r := 30) hz_X12_state_64 rfl
theorem dX12_state_95 : decode cX12_state 95 = .ok (.aload_n 0, 1) := dz_42 (n := 64) (r := 31) hz_X12_state_64 rfl
theorem hz_X12_state_96 : (cX12_state.data.toList.drop 96).take 40 = [27, 182, 1, 68, 172, 19, 1, 32, 172] := by decide +kernel
theorem dX12_state_96 : decode cX12_state 96 = .ok (.iload_n 1, 1) := dz_27 (n := 96) (r := 0) hz_X12_state_96 rfl
theorem dX12_state_97 : decode cX12_state 97 = .ok (.invokevirtual 324, 3) := dz_182 (n := 96) (r := 1) hz_X12_state_96 rfl rfl
theorem dX12_state_100 : decode cX12_state 100 = .ok (.ireturn, 1) := dz_172 (n := 96) (r := 4) hz_X12_state_96 rfl
theorem dX12_state_101 : decode cX12_state 101 = .ok (.ldc_w 288, 3) := dz_19 (n := 96) (r := 5) hz_X12_state_96 rfl rfl
theorem dX12_state_104 : decode cX12_state 104 = .ok (.ireturn, 1) := dz_172 (n := 96) (r := 8) hz_X12_state_96 rfl
theorem hz_X12_stuck_0 : (cX12_stuck.data.toList.drop 0).take 40 = [42, 182, 1, 5, 3, 61, 3, 62, 29, 42, 182, 1, 14, 162, 0, 51, 42, 180, 0, 57, 29, 46, 19, 1, 28, 162, 0, 33, 27, 153, 0, 18, 42, 180, 0, 57, 29, 46, 42, 180] := by decide +kernel
theorem dX12_stuck_0 : decode cX12_stuck 0 = .ok (.aload_n 0, 1) := dz_42 (n := 0) (r := 0) hz_X12_stuck_0 rfl
theorem dX12_stuck_1 : decode cX12_stuck 1 = .ok (.invokevirtual 261, 3) := dz_182 (n := 0) (r := 1) hz_X12_stuck_0 rfl rfl
theorem dX12_stuck_4 : decode cX12_stuck 4 = .ok (.iconst 0, 1) := dz_3 (n := 0) (r := 4) hz_X12_stuck_0 rfl
theorem dX12_stuck_5 : decode cX12_stuck 5 = .ok (.istore_n 2, 1) := dz_61 (n := 0) (r := 5) hz_X12_stuck_0 rfl
theorem dX12_stuck_6 : decode cX12_stuck 6 = .ok (.iconst 0, 1) := dz_3 (n := 0) (r := 6) hz_X12_stuck_0 rfl
theorem dX12_stuck_7 : decode cX12_stuck 7 = .ok (.istore_n 3, 1) := dz_62 (n := 0) (r := 7) hz_X12_stuck_0 rfl
theorem dX12_stuck_8 : decode cX12_stuck 8 = .ok (.iload_n 3, 1) := dz_29 (n := 0) (r := 8) hz_X12_stuck_0 rfl
theorem dX12_stuck_9 : decode cX12_stuck 9 = .ok (.aload_n 0, 1) := dz_42 (n := 0) (r := 9) hz_X12_stuck_0 rfl
theorem dX12_stuck_10 : decode cX12_stuck 10 = .ok (.invokevirtual 270, 3) := dz_182 (n := 0) (r := 10) hz_X12_stuck_0 rfl rfl
theorem dX12_stuck_13 : decode cX12_stuck 13 = .ok (.if_icmp .ge 51, 3) := dz_162 (n := 0) (r := 13) hz_X12_stuck_0 rfl (by decide +kernel)
theorem dX12_stuck_16 : decode cX12_stuck 16 = .ok (.aload_n 0, 1) := dz_42 (n := 0) (r := 16) hz_X12_stuck_0 rfl
theorem dX12_stuck_17 : decode cX12_stuck 17 = .ok (.getfield 57, 3) := dz_180 (n := 0) (r := 17) hz_X12_stuck_0 rfl rfl
theorem dX12_stuck_20 : decode cX12_stuck 20 = .ok (.iload_n 3, 1) := dz_29 (n := 0) (r := 20) hz_X12_stuck_0 rfl
theorem dX12_stuck_21 : decode cX12_stuck 21 = .ok (.iaload, 1) := dz_46 (n := 0) (r := 21) hz_X12_stuck_0 rfl
theorem dX12_stuck_22 : decode cX12_stuck 22 = .ok (.ldc_w 284, 3) := dz_19 (n := 0) (r := 22) hz_X12_stuck_0 rfl rfl
theorem dX12_stuck_25 : decode cX12_stuck 25 = .ok (.if_icmp .ge 33, 3) := dz_162 (n := 0) (r := 25) hz_X12_stuck_0 rfl (by decide +kernel)
theorem dX12_stuck_28 : decode cX12_stuck 28 = .ok (.iload_n 1, 1) := dz_27 (n := 0) (r := 28) hz_X12_stuck_0 rfl
theorem dX12_stuck_29 : decode cX12_stuck 29 = .ok (.ifCond .eq 18, 3) := dz_153 (n := 0) (r := 29) hz_X12_stuck_0 rfl (by decide +kernel)
theorem hz_X12_stuck_32 : (cX12_stuck.data.toList.drop 32).take 40 = [42, 180, 0, 57, 29, 46, 42, 180, 0, 63, 3, 46, 164, 0, 14, 42, 29, 182, 1, 65, 156, 0, 6, 132, 2, 1, 132, 3, 1, 167, 255, 203, 28, 172] := by decide +kernel
theorem dX12_stuck_32 : decode cX12_stuck 32 = .ok (.aload_n 0, 1) := dz_42 (n := 32) (r := 0) hz_X12_stuck_32 rfl
theorem dX12_stuck_33 : decode cX12_stuck 33 = .ok (.getfield 57, 3) := dz_180 (n := 32) (r := 1) hz_X12_stuck_32 rfl rfl
theorem dX12_stuck_36 : decode cX12_stuck 36 = .ok (.iload_n 3, 1) := dz_29 (n := 32) (r := 4) hz_X12_stuck_32 rfl
theorem dX12_stuck_37 : decode cX12_stuck 37 = .ok (.iaload, 1) := dz_46 (n := 32) (r := 5) hz_X12_stuck_32 rfl
theorem dX12_stuck_38 : decode cX12_stuck 38 = .ok (.aload_n 0, 1) := dz_42 (n := 32) (r := 6) hz_X12_stuck_32 rfl
theorem dX12_stuck_39 : decode cX12_stuck 39 = .ok (.getfield 63, 3) := dz_180 (n := 32) (r := 7) hz_X12_stuck_32 rfl rfl
theorem dX12_stuck_42 : decode cX12_stuck 42 = .ok (.iconst 0, 1) := dz_3 (n := 32) (r := 10) hz_X12_stuck_32 rfl
theorem dX12_stuck_43 : decode cX12_stuck 43 = .ok (.iaload, 1) := dz_46 (n := 32) (r := 11) hz_X12_stuck_32 rfl
theorem dX12_stuck_44 : decode cX12_stuck 44 = .ok (.if_icmp .le 14, 3) := dz_164 (n := 32) (r := 12) hz_X12_stuck_32 rfl (by decide +kernel)
theorem dX12_stuck_47 : decode cX12_stuck 47 = .ok (.aload_n 0, 1) := dz_42 (n := 32) (r := 15) hz_X12_stuck_32 rfl
theorem dX12_stuck_48 : decode cX12_stuck 48 = .ok (.iload_n 3, 1) := dz_29 (n := 32) (r := 16) hz_X12_stuck_32 rfl
theorem dX12_stuck_49 : decode cX12_stuck 49 = .ok (.invokevirtual 321, 3) := dz_182 (n := 32) (r := 17) hz_X12_stuck_32 rfl rfl
theorem dX12_stuck_52 : decode cX12_stuck 52 = .ok (.ifCond .ge 6, 3) := dz_156 (n := 32) (r := 20) hz_X12_stuck_32 rfl (by decide +kernel)
theorem dX12_stuck_55 : decode cX12_stuck 55 = .ok (.iinc 2 1, 3) := dz_132 (n := 32) (r := 23) hz_X12_stuck_32 rfl rfl rfl
theorem dX12_stuck_58 : decode cX12_stuck 58 = .ok (.iinc 3 1, 3) := dz_132 (n := 32) (r := 26) hz_X12_stuck_32 rfl rfl rfl
theorem dX12_stuck_61 : decode cX12_stuck 61 = .ok (.goto (-53), 3) := dz_167 (n := 32) (r := 29) hz_X12_stuck_32 rfl (by decide +kernel)
theorem hz_X12_stuck_64 : (cX12_stuck.data.toList.drop 64).take 40 = [28, 172] := by decide +kernel
theorem dX12_stuck_64 : decode cX12_stuck 64 = .ok (.iload_n 2, 1) := dz_28 (n := 64) (r := 0) hz_X12_stuck_64 rfl
theorem dX12_stuck_65 : decode cX12_stuck 65 = .ok (.ireturn, 1) := dz_172 (n := 64) (r := 1) hz_X12_stuck_64 rfl
theorem hz_X12_basin_0 : (cX12_basin.data.toList.drop 0).take 40 = [42, 27, 182, 1, 25, 153, 0, 12, 42, 182, 0, 193, 16, 10, 164, 0, 7, 19, 1, 32, 172, 42, 182, 1, 5, 3, 61, 3, 62, 29, 42, 182, 1, 14, 162, 0, 33, 42, 180, 0] := by decide +kernel
theorem dX12_basin_0 : decode cX12_basin 0 = .ok (.aload_n 0, 1) := dz_42 (n := 0) (r := 0) hz_X12_basin_0 rfl
theorem dX12_basin_1 : decode cX12_basin 1 = .ok (.iload_n 1, 1) := dz_27 (n := 0) (r := 1) hz_X12_basin_0 rfl
theorem dX12_basin_2 : decode cX12_basin 2 = .ok (.invokevirtual 281, 3) := dz_182 (n := 0) (r := 2) hz_X12_basin_0 rfl rfl
theorem dX12_basin_5 : decode cX12_basin 5 = .ok (.ifCond .eq 12, 3) := dz_153 (n := 0) (r := 5) hz_X12_basin_0 rfl (by decide +kernel)
theorem dX12_basin_8 : decode cX12_basin 8 = .ok (.aload_n 0, 1) := dz_42 (n := 0) (r := 8) hz_X12_basin_0 rfl
theorem dX12_basin_9 : decode cX12_basin 9 = .ok (.invokevirtual 193, 3) := dz_182 (n := 0) (r := 9) hz_X12_basin_0 rfl rfl
theorem dX12_basin_12 : decode cX12_basin 12 = .ok (.bipush 10, 2) := dz_16 (n := 0) (r := 12) hz_X12_basin_0 rfl rfl
theorem dX12_basin_14 : decode cX12_basin 14 = .ok (.if_icmp .le 7, 3) := dz_164 (n := 0) (r := 14) hz_X12_basin_0 rfl (by decide +kernel)
theorem dX12_basin_17 : decode cX12_basin 17 = .ok (.ldc_w 288, 3) := dz_19 (n := 0) (r := 17) hz_X12_basin_0 rfl rfl
theorem dX12_basin_20 : decode cX12_basin 20 = .ok (.ireturn, 1) := dz_172 (n := 0) (r := 20) hz_X12_basin_0 rfl
theorem dX12_basin_21 : decode cX12_basin 21 = .ok (.aload_n 0, 1) := dz_42 (n := 0) (r := 21) hz_X12_basin_0 rfl
theorem dX12_basin_22 : decode cX12_basin 22 = .ok (.invokevirtual 261, 3) := dz_182 (n := 0) (r := 22) hz_X12_basin_0 rfl rfl
theorem dX12_basin_25 : decode cX12_basin 25 = .ok (.iconst 0, 1) := dz_3 (n := 0) (r := 25) hz_X12_basin_0 rfl
theorem dX12_basin_26 : decode cX12_basin 26 = .ok (.istore_n 2, 1) := dz_61 (n := 0) (r := 26) hz_X12_basin_0 rfl
theorem dX12_basin_27 : decode cX12_basin 27 = .ok (.iconst 0, 1) := dz_3 (n := 0) (r := 27) hz_X12_basin_0 rfl
theorem dX12_basin_28 : decode cX12_basin 28 = .ok (.istore_n 3, 1) := dz_62 (n := 0) (r := 28) hz_X12_basin_0 rfl
theorem dX12_basin_29 : decode cX12_basin 29 = .ok (.iload_n 3, 1) := dz_29 (n := 0) (r := 29) hz_X12_basin_0 rfl
theorem dX12_basin_30 : decode cX12_basin 30 = .ok (.aload_n 0, 1) := dz_42 (n := 0) (r := 30) hz_X12_basin_0 rfl
theorem dX12_basin_31 : decode cX12_basin 31 = .ok (.invokevirtual 270, 3) := dz_182 (n := 0) (r := 31) hz_X12_basin_0 rfl rfl
theorem hz_X12_basin_32 : (cX12_basin.data.toList.drop 32).take 40 = [1, 14, 162, 0, 33, 42, 180, 0, 57, 29, 46, 19, 1, 28, 162, 0, 15, 42, 29, 182, 1, 11, 27, 160, 0, 6, 132, 2, 1, 132, 3, 1, 167, 255, 221, 28, 172] := by decide +kernel
theorem dX12_basin_34 : decode cX12_basin 34 = .ok (.if_icmp .ge 33, 3) := dz_162 (n := 32) (r := 2) hz_X12_basin_32 rfl (by decide +kernel)
theorem dX12_basin_37 : decode cX12_basin 37 = .ok (.aload_n 0, 1) := dz_42 (n := 32) (r := 5) hz_X12_basin_32 rfl
theorem dX12_basin_38 : decode cX12_basin 38 = .ok (.getfield 57, 3) := dz_180 (n := 32) (r := 6) hz_X12_basin_32 rfl rfl
theorem dX12_basin_41 : decode cX12_basin 41 = .ok (.iload_n 3, 1) := dz_29 (n := 32) (r := 9) hz_X12_basin_32 rfl
theorem dX12_basin_42 : decode cX12_basin 42 = .ok (.iaload, 1) := dz_46 (n := 32) (r := 10) hz_X12_basin_32 rfl
theorem dX12_basin_43 : decode cX12_basin 43 = .ok (.ldc_w 284, 3) := dz_19 (n := 32) (r := 11) hz_X12_basin_32 rfl rfl
theorem dX12_basin_46 : decode cX12_basin 46 = .ok (.if_icmp .ge 15, 3) := dz_162 (n := 32) (r := 14) hz_X12_basin_32 rfl (by decide +kernel)
theorem dX12_basin_49 : decode cX12_basin 49 = .ok (.aload_n 0, 1) := dz_42 (n := 32) (r := 17) hz_X12_basin_32 rfl
theorem dX12_basin_50 : decode cX12_basin 50 = .ok (.iload_n 3, 1) := dz_29 (n := 32) (r := 18) hz_X12_basin_32 rfl
theorem dX12_basin_51 : decode cX12_basin 51 = .ok (.invokevirtual 267, 3) := dz_182 (n := 32) (r := 19) hz_X12_basin_32 rfl rfl
theorem dX12_basin_54 : decode cX12_basin 54 = .ok (.iload_n 1, 1) := dz_27 (n := 32) (r := 22) hz_X12_basin_32 rfl
theorem dX12_basin_55 : decode cX12_basin 55 = .ok (.if_icmp .ne 6, 3) := dz_160 (n := 32) (r := 23) hz_X12_basin_32 rfl (by decide +kernel)
theorem dX12_basin_58 : decode cX12_basin 58 = .ok (.iinc 2 1, 3) := dz_132 (n := 32) (r := 26) hz_X12_basin_32 rfl rfl rfl
theorem dX12_basin_61 : decode cX12_basin 61 = .ok (.iinc 3 1, 3) := dz_132 (n := 32) (r := 29) hz_X12_basin_32 rfl rfl rfl
theorem hz_X12_basin_64 : (cX12_basin.data.toList.drop 64).take 40 = [167, 255, 221, 28, 172] := by decide +kernel
theorem dX12_basin_64 : decode cX12_basin 64 = .ok (.goto (-35), 3) := dz_167 (n := 64) (r := 0) hz_X12_basin_64 rfl (by decide +kernel)
theorem dX12_basin_67 : decode cX12_basin 67 = .ok (.iload_n 2, 1) := dz_28 (n := 64) (r := 3) hz_X12_basin_64 rfl
theorem dX12_basin_68 : decode cX12_basin 68 = .ok (.ireturn, 1) := dz_172 (n := 64) (r := 4) hz_X12_basin_64 rfl
theorem hz_X12_laysHills_0 : (cX12_laysHills.data.toList.drop 0).take 40 = [4, 60, 27, 153, 0, 127, 3, 60, 3, 61, 28, 42, 182, 1, 14, 162, 0, 112, 42, 180, 0, 57, 28, 46, 19, 1, 28, 160, 0, 6, 167, 0, 91, 19, 1, 28, 62, 3, 54, 4] := by decide +kernel
theorem dX12_laysHills_0 : decode cX12_laysHills 0 = .ok (.iconst 1, 1) := dz_4 (n := 0) (r := 0) hz_X12_laysHills_0 rfl
theorem dX12_laysHills_1 : decode cX12_laysHills 1 = .ok (.istore_n 1, 1) := dz_60 (n := 0) (r := 1) hz_X12_laysHills_0 rfl
theorem dX12_laysHills_2 : decode cX12_laysHills 2 = .ok (.iload_n 1, 1) := dz_27 (n := 0) (r := 2) hz_X12_laysHills_0 rfl
theorem dX12_laysHills_3 : decode cX12_laysHills 3 = .ok (.ifCond .eq 127, 3) := dz_153 (n := 0) (r := 3) hz_X12_laysHills_0 rfl (by decide +kernel)
theorem dX12_laysHills_6 : decode cX12_laysHills 6 = .ok (.iconst 0, 1) := dz_3 (n := 0) (r := 6) hz_X12_laysHills_0 rfl
theorem dX12_laysHills_7 : decode cX12_laysHills 7 = .ok (.istore_n 1, 1) := dz_60 (n := 0) (r := 7) hz_X12_laysHills_0 rfl
theorem dX12_laysHills_8 : decode cX12_laysHills 8 = .ok (.iconst 0, 1) := dz_3 (n := 0) (r := 8) hz_X12_laysHills_0 rfl
theorem dX12_laysHills_9 : decode cX12_laysHills 9 = .ok (.istore_n 2, 1) := dz_61 (n := 0) (r := 9) hz_X12_laysHills_0 rfl
theorem dX12_laysHills_10 : decode cX12_laysHills 10 = .ok (.iload_n 2, 1) := dz_28 (n := 0) (r := 10) hz_X12_laysHills_0 rfl
theorem dX12_laysHills_11 : decode cX12_laysHills 11 = .ok (.aload_n 0, 1) := dz_42 (n := 0) (r := 11) hz_X12_laysHills_0 rfl
theorem dX12_laysHills_12 : decode cX12_laysHills 12 = .ok (.invokevirtual 270, 3) := dz_182 (n := 0) (r := 12) hz_X12_laysHills_0 rfl rfl
theorem dX12_laysHills_15 : decode cX12_laysHills 15 = .ok (.if_icmp .ge 112, 3) := dz_162 (n := 0) (r := 15) hz_X12_laysHills_0 rfl (by decide +kernel)
theorem dX12_laysHills_18 : decode cX12_laysHills 18 = .ok (.aload_n 0, 1) := dz_42 (n := 0) (r := 18) hz_X12_laysHills_0 rfl
theorem dX12_laysHills_19 : decode cX12_laysHills 19 = .ok (.getfield 57, 3) := dz_180 (n := 0) (r := 19) hz_X12_laysHills_0 rfl rfl
theorem dX12_laysHills_22 : decode cX12_laysHills 22 = .ok (.iload_n 2, 1) := dz_28 (n := 0) (r := 22) hz_X12_laysHills_0 rfl
theorem dX12_laysHills_23 : decode cX12_laysHills 23 = .ok (.iaload, 1) := dz_46 (n := 0) (r := 23) hz_X12_laysHills_0 rfl
theorem dX12_laysHills_24 : decode cX12_laysHills 24 = .ok (.ldc_w 284, 3) := dz_19 (n := 0) (r := 24) hz_X12_laysHills_0 rfl rfl
theorem dX12_laysHills_27 : decode cX12_laysHills 27 = .ok (.if_icmp .ne 6, 3) := dz_160 (n := 0) (r := 27) hz_X12_laysHills_0 rfl (by decide +kernel)
theorem dX12_laysHills_30 : decode cX12_laysHills 30 = .ok (.goto 91, 3) := dz_167 (n := 0) (r := 30) hz_X12_laysHills_0 rfl (by decide +kernel)
theorem hz_X12_laysHills_32 : (cX12_laysHills.data.toList.drop 32).take 40 = [91, 19, 1, 28, 62, 3, 54, 4, 21, 4, 42, 182, 0, 193, 162, 0, 36, 42, 180, 0, 75, 28, 4, 21, 4, 120, 130, 46, 29, 162, 0, 15, 42, 180, 0, 75, 28, 4, 21, 4] := by decide +kernel
theorem dX12_laysHills_33 : decode cX12_laysHills 33 = .ok (.ldc_w 284, 3) := dz_19 (n := 32) (r := 1) hz_X12_laysHills_32 rfl rfl
theorem dX12_laysHills_36 : decode cX12_laysHills 36 = .ok (.istore_n 3, 1) := dz_62 (n := 32) (r := 4) hz_X12_laysHills_32 rfl
theorem dX12_laysHills_37 : decode cX12_laysHills 37 = .ok (.iconst 0, 1) := dz_3 (n := 32) (r := 5) hz_X12_laysHills_32 rfl
theorem dX12_laysHills_38 : decode cX12_laysHills 38 = .ok (.istore 4, 2) := dz_54 (n := 32) (r := 6) hz_X12_laysHills_32 rfl rfl
theorem dX12_laysHills_40 : decode cX12_laysHills 40 = .ok (.iload 4, 2) := dz_21 (n := 32) (r := 8) hz_X12_laysHills_32 rfl rfl
theorem dX12_laysHills_42 : decode cX12_laysHills 42 = .ok (.aload_n 0, 1) := dz_42 (n := 32) (r := 10) hz_X12_laysHills_32 rfl
theorem dX12_laysHills_43 : decode cX12_laysHills 43 = .ok (.invokevirtual 193, 3) := dz_182 (n := 32) (r := 11) hz_X12_laysHills_32 rfl rfl
theorem dX12_laysHills_46 : decode cX12_laysHills 46 = .ok (.if_icmp .ge 36, 3) := dz_162 (n := 32) (r := 14) hz_X12_laysHills_32 rfl (by decide +kernel)
theorem dX12_laysHills_49 : decode cX12_laysHills 49 = .ok (.aload_n 0, 1) := dz_42 (n := 32) (r := 17) hz_X12_laysHills_32 rfl
theorem dX12_laysHills_50 : decode cX12_laysHills 50 = .ok (.getfield 75, 3) := dz_180 (n := 32) (r := 18) hz_X12_laysHills_32 rfl rfl
theorem dX12_laysHills_53 : decode cX12_laysHills 53 = .ok (.iload_n 2, 1) := dz_28 (n := 32) (r := 21) hz_X12_laysHills_32 rfl
theorem dX12_laysHills_54 : decode cX12_laysHills 54 = .ok (.iconst 1, 1) := dz_4 (n := 32) (r := 22) hz_X12_laysHills_32 rfl
theorem dX12_laysHills_55 : decode cX12_laysHills 55 = .ok (.iload 4, 2) := dz_21 (n := 32) (r := 23) hz_X12_laysHills_32 rfl rfl
theorem dX12_laysHills_57 : decode cX12_laysHills 57 = .ok (.ishl, 1) := dz_120 (n := 32) (r := 25) hz_X12_laysHills_32 rfl
theorem dX12_laysHills_58 : decode cX12_laysHills 58 = .ok (.ixor, 1) := dz_130 (n := 32) (r := 26) hz_X12_laysHills_32 rfl
theorem dX12_laysHills_59 : decode cX12_laysHills 59 = .ok (.iaload, 1) := dz_46 (n := 32) (r := 27) hz_X12_laysHills_32 rfl
theorem dX12_laysHills_60 : decode cX12_laysHills 60 = .ok (.iload_n 3, 1) := dz_29 (n := 32) (r := 28) hz_X12_laysHills_32 rfl
theorem dX12_laysHills_61 : decode cX12_laysHills 61 = .ok (.if_icmp .ge 15, 3) := dz_162 (n := 32) (r := 29) hz_X12_laysHills_32 rfl (by decide +kernel)
theorem hz_X12_laysHills_64 : (cX12_laysHills.data.toList.drop 64).take 40 = [42, 180, 0, 75, 28, 4, 21, 4, 120, 130, 46, 62, 132, 4, 1, 167, 255, 217, 29, 42, 180, 0, 57, 28, 46, 162, 0, 10, 42, 180, 0, 57, 28, 46, 62, 29, 42, 180, 0, 75] := by decide +kernel
theorem dX12_laysHills_64 : decode cX12_laysHills 64 = .ok (.aload_n 0, 1) := dz_42 (n := 64) (r := 0) hz_X12_laysHills_64 rfl
theorem dX12_laysHills_65 : decode cX12_laysHills 65 = .ok (.getfield 75, 3) := dz_180 (n := 64) (r := 1) hz_X12_laysHills_64 rfl rfl
theorem dX12_laysHills_68 : decode cX12_laysHills 68 = .ok (.iload_n 2, 1) := dz_28 (n := 64) (r := 4) hz_X12_laysHills_64 rfl
theorem dX12_laysHills_69 : decode cX12_laysHills 69 = .ok (.iconst 1, 1) := dz_4 (n := 64) (r := 5) hz_X12_laysHills_64 rfl
theorem dX12_laysHills_70 : decode cX12_laysHills 70 = .ok (.iload 4, 2) := dz_21 (n := 64) (r := 6) hz_X12_laysHills_64 rfl rfl
theorem dX12_laysHills_72 : decode cX12_laysHills 72 = .ok (.ishl, 1) := dz_120 (n := 64) (r := 8) hz_X12_laysHills_64 rfl
theorem dX12_laysHills_73 : decode cX12_laysHills 73 = .ok (.ixor, 1) := dz_130 (n := 64) (r := 9) hz_X12_laysHills_64 rfl
theorem dX12_laysHills_74 : decode cX12_laysHills 74 = .ok (.iaload, 1) := dz_46 (n := 64) (r := 10) hz_X12_laysHills_64 rfl
theorem dX12_laysHills_75 : decode cX12_laysHills 75 = .ok (.istore_n 3, 1) := dz_62 (n := 64) (r := 11) hz_X12_laysHills_64 rfl
theorem dX12_laysHills_76 : decode cX12_laysHills 76 = .ok (.iinc 4 1, 3) := dz_132 (n := 64) (r := 12) hz_X12_laysHills_64 rfl rfl rfl
theorem dX12_laysHills_79 : decode cX12_laysHills 79 = .ok (.goto (-39), 3) := dz_167 (n := 64) (r := 15) hz_X12_laysHills_64 rfl (by decide +kernel)
theorem dX12_laysHills_82 : decode cX12_laysHills 82 = .ok (.iload_n 3, 1) := dz_29 (n := 64) (r := 18) hz_X12_laysHills_64 rfl
theorem dX12_laysHills_83 : decode cX12_laysHills 83 = .ok (.aload_n 0, 1) := dz_42 (n := 64) (r := 19) hz_X12_laysHills_64 rfl
theorem dX12_laysHills_84 : decode cX12_laysHills 84 = .ok (.getfield 57, 3) := dz_180 (n := 64) (r := 20) hz_X12_laysHills_64 rfl rfl
theorem dX12_laysHills_87 : decode cX12_laysHills 87 = .ok (.iload_n 2, 1) := dz_28 (n := 64) (r := 23) hz_X12_laysHills_64 rfl
theorem dX12_laysHills_88 : decode cX12_laysHills 88 = .ok (.iaload, 1) := dz_46 (n := 64) (r := 24) hz_X12_laysHills_64 rfl
theorem dX12_laysHills_89 : decode cX12_laysHills 89 = .ok (.if_icmp .ge 10, 3) := dz_162 (n := 64) (r := 25) hz_X12_laysHills_64 rfl (by decide +kernel)
theorem dX12_laysHills_92 : decode cX12_laysHills 92 = .ok (.aload_n 0, 1) := dz_42 (n := 64) (r := 28) hz_X12_laysHills_64 rfl
theorem dX12_laysHills_93 : decode cX12_laysHills 93 = .ok (.getfield 57, 3) := dz_180 (n := 64) (r := 29) hz_X12_laysHills_64 rfl rfl
theorem hz_X12_laysHills_96 : (cX12_laysHills.data.toList.drop 96).take 40 = [28, 46, 62, 29, 42, 180, 0, 75, 28, 46, 161, 0, 6, 167, 0, 12, 42, 180, 0, 75, 28, 29, 79, 4, 60, 132, 2, 1, 167, 255, 142, 167, 255, 131, 177] := by decide +kernel
theorem dX12_laysHills_96 : decode cX12_laysHills 96 = .ok (.iload_n 2, 1) := dz_28 (n := 96) (r := 0) hz_X12_laysHills_96 rfl
theorem dX12_laysHills_97 : decode cX12_laysHills 97 = .ok (.iaload, 1) := dz_46 (n := 96) (r := 1) hz_X12_laysHills_96 rfl
theorem dX12_laysHills_98 : decode cX12_laysHills 98 = .ok (.istore_n 3, 1) := dz_62 (n := 96) (r := 2) hz_X12_laysHills_96 rfl
theorem dX12_laysHills_99 : decode cX12_laysHills 99 = .ok (.iload_n 3, 1) := dz_29 (n := 96) (r := 3) hz_X12_laysHills_96 rfl
theorem dX12_laysHills_100 : decode cX12_laysHills 100 = .ok (.aload_n 0, 1) := dz_42 (n := 96) (r := 4) hz_X12_laysHills_96 rfl
theorem dX12_laysHills_101 : decode cX12_laysHills 101 = .ok (.getfield 75, 3) := dz_180 (n := 96) (r := 5) hz_X12_laysHills_96 rfl rfl
theorem dX12_laysHills_104 : decode cX12_laysHills 104 = .ok (.iload_n 2, 1) := dz_28 (n := 96) (r := 8) hz_X12_laysHills_96 rfl
theorem dX12_laysHills_105 : decode cX12_laysHills 105 = .ok (.iaload, 1) := dz_46 (n := 96) (r := 9) hz_X12_laysHills_96 rfl
theorem dX12_laysHills_106 : decode cX12_laysHills 106 = .ok (.if_icmp .lt 6, 3) := dz_161 (n := 96) (r := 10) hz_X12_laysHills_96 rfl (by decide +kernel)
theorem dX12_laysHills_109 : decode cX12_laysHills 109 = .ok (.goto 12, 3) := dz_167 (n := 96) (r := 13) hz_X12_laysHills_96 rfl (by decide +kernel)
theorem dX12_laysHills_112 : decode cX12_laysHills 112 = .ok (.aload_n 0, 1) := dz_42 (n := 96) (r := 16) hz_X12_laysHills_96 rfl
theorem dX12_laysHills_113 : decode cX12_laysHills 113 = .ok (.getfield 75, 3) := dz_180 (n := 96) (r := 17) hz_X12_laysHills_96 rfl rfl
theorem dX12_laysHills_116 : decode cX12_laysHills 116 = .ok (.iload_n 2, 1) := dz_28 (n := 96) (r := 20) hz_X12_laysHills_96 rfl
theorem dX12_laysHills_117 : decode cX12_laysHills 117 = .ok (.iload_n 3, 1) := dz_29 (n := 96) (r := 21) hz_X12_laysHills_96 rfl
theorem dX12_laysHills_118 : decode cX12_laysHills 118 = .ok (.iastore, 1) := dz_79 (n := 96) (r := 22) hz_X12_laysHills_96 rfl
theorem dX12_laysHills_119 : decode cX12_laysHills 119 = .ok (.iconst 1, 1) := dz_4 (n := 96) (r := 23) hz_X12_laysHills_96 rfl
theorem dX12_laysHills_120 : decode cX12_laysHills 120 = .ok (.istore_n 1, 1) := dz_60 (n := 96) (r := 24) hz_X12_laysHills_96 rfl
theorem dX12_laysHills_121 : decode cX12_laysHills 121 = .ok (.iinc 2 1, 3) := dz_132 (n := 96) (r := 25) hz_X12_laysHills_96 rfl rfl rfl
theorem dX12_laysHills_124 : decode cX12_laysHills 124 = .ok (.goto (-114), 3) := dz_167 (n := 96) (r := 28) hz_X12_laysHills_96 rfl (by decide +kernel)
theorem dX12_laysHills_127 : decode cX12_laysHills 127 = .ok (.goto (-125), 3) := dz_167 (n := 96) (r := 31) hz_X12_laysHills_96 rfl (by decide +kernel)
theorem hz_X12_laysHills_128 : (cX12_laysHills.data.toList.drop 128).take 40 = [255, 131, 177] := by decide +kernel
theorem dX12_laysHills_130 : decode cX12_laysHills 130 = .ok (.return_, 1) := dz_177 (n := 128) (r := 2) hz_X12_laysHills_128 rfl
theorem hz_X12_hill_0 : (cX12_hill.data.toList.drop 0).take 40 = [42, 27, 182, 1, 25, 153, 0, 12, 42, 182, 0, 193, 16, 10, 164, 0, 7, 19, 1, 32, 172, 42, 182, 1, 5, 3, 61, 28, 42, 182, 1, 14, 162, 0, 42, 42, 180, 0, 75, 28] := by decide +kernel
theorem dX12_hill_0 : decode cX12_hill 0 = .ok (.aload_n 0, 1) := dz_42 (n := 0) (r := 0) hz_X12_hill_0 rfl
theorem dX12_hill_1 : decode cX12_hill 1 = .ok (.iload_n 1, 1) := dz_27 (n := 0) (r := 1) hz_X12_hill_0 rfl
theorem dX12_hill_2 : decode cX12_hill 2 = .ok (.invokevirtual 281, 3) := dz_182 (n := 0) (r := 2) hz_X12_hill_0 rfl rfl
theorem dX12_hill_5 : decode cX12_hill 5 = .ok (.ifCond .eq 12, 3) := dz_153 (n := 0) (r := 5) hz_X12_hill_0 rfl (by decide +kernel)
theorem dX12_hill_8 : decode cX12_hill 8 = .ok (.aload_n 0, 1) := dz_42 (n := 0) (r := 8) hz_X12_hill_0 rfl
theorem dX12_hill_9 : decode cX12_hill 9 = .ok (.invokevirtual 193, 3) := dz_182 (n := 0) (r := 9) hz_X12_hill_0 rfl rfl
theorem dX12_hill_12 : decode cX12_hill 12 = .ok (.bipush 10, 2) := dz_16 (n := 0) (r := 12) hz_X12_hill_0 rfl rfl
theorem dX12_hill_14 : decode cX12_hill 14 = .ok (.if_icmp .le 7, 3) := dz_164 (n := 0) (r := 14) hz_X12_hill_0 rfl (by decide +kernel)
theorem dX12_hill_17 : decode cX12_hill 17 = .ok (.ldc_w 288, 3) := dz_19 (n := 0) (r := 17) hz_X12_hill_0 rfl rfl
theorem dX12_hill_20 : decode cX12_hill 20 = .ok (.ireturn, 1) := dz_172 (n := 0) (r := 20) hz_X12_hill_0 rfl
theorem dX12_hill_21 : decode cX12_hill 21 = .ok (.aload_n 0, 1) := dz_42 (n := 0) (r := 21) hz_X12_hill_0 rfl
theorem dX12_hill_22 : decode cX12_hill 22 = .ok (.invokevirtual 261, 3) := dz_182 (n := 0) (r := 22) hz_X12_hill_0 rfl rfl
theorem dX12_hill_25 : decode cX12_hill 25 = .ok (.iconst 0, 1) := dz_3 (n := 0) (r := 25) hz_X12_hill_0 rfl
theorem dX12_hill_26 : decode cX12_hill 26 = .ok (.istore_n 2, 1) := dz_61 (n := 0) (r := 26) hz_X12_hill_0 rfl
theorem dX12_hill_27 : decode cX12_hill 27 = .ok (.iload_n 2, 1) := dz_28 (n := 0) (r := 27) hz_X12_hill_0 rfl
theorem dX12_hill_28 : decode cX12_hill 28 = .ok (.aload_n 0, 1) := dz_42 (n := 0) (r := 28) hz_X12_hill_0 rfl
theorem dX12_hill_29 : decode cX12_hill 29 = .ok (.invokevirtual 270, 3) := dz_182 (n := 0) (r := 29) hz_X12_hill_0 rfl rfl
theorem hz_X12_hill_32 : (cX12_hill.data.toList.drop 32).take 40 = [162, 0, 42, 42, 180, 0, 75, 28, 42, 180, 0, 57, 28, 46, 42, 180, 0, 63, 3, 46, 160, 0, 12, 42, 180, 0, 63, 3, 46, 167, 0, 6, 19, 1, 28, 79, 132, 2, 1, 167] := by decide +kernel
theorem dX12_hill_32 : decode cX12_hill 32 = .ok (.if_icmp .ge 42, 3) := dz_162 (n := 32) (r := 0) hz_X12_hill_32 rfl (by decide +kernel)
theorem dX12_hill_35 : decode cX12_hill 35 = .ok (.aload_n 0, 1) := dz_42 (n := 32) (r := 3) hz_X12_hill_32 rfl
theorem dX12_hill_36 : decode cX12_hill 36 = .ok (.getfield 75, 3) := dz_180 (n := 32) (r := 4) hz_X12_hill_32 rfl rfl
theorem dX12_hill_39 : decode cX12_hill 39 = .ok (.iload_n 2, 1) := dz_28 (n := 32) (r := 7) hz_X12_hill_32 rfl
theorem dX12_hill_40 : decode cX12_hill 40 = .ok (.aload_n 0, 1) := dz_42 (n := 32) (r := 8) hz_X12_hill_32 rfl
theorem dX12_hill_41 : decode cX12_hill 41 = .ok (.getfield 57, 3) := dz_180 (n := 32) (r := 9) hz_X12_hill_32 rfl rfl
theorem dX12_hill_44 : decode cX12_hill 44 = .ok (.iload_n 2, 1) := dz_28 (n := 32) (r := 12) hz_X12_hill_32 rfl
theorem dX12_hill_45 : decode cX12_hill 45 = .ok (.iaload, 1) := dz_46 (n := 32) (r := 13) hz_X12_hill_32 rfl
theorem dX12_hill_46 : decode cX12_hill 46 = .ok (.aload_n 0, 1) := dz_42 (n := 32) (r := 14) hz_X12_hill_32 rfl
theorem dX12_hill_47 : decode cX12_hill 47 = .ok (.getfield 63, 3) := dz_180 (n := 32) (r := 15) hz_X12_hill_32 rfl rfl
theorem dX12_hill_50 : decode cX12_hill 50 = .ok (.iconst 0, 1) := dz_3 (n := 32) (r := 18) hz_X12_hill_32 rfl
theorem dX12_hill_51 : decode cX12_hill 51 = .ok (.iaload, 1) := dz_46 (n := 32) (r := 19) hz_X12_hill_32 rfl
theorem dX12_hill_52 : decode cX12_hill 52 = .ok (.if_icmp .ne 12, 3) := dz_160 (n := 32) (r := 20) hz_X12_hill_32 rfl (by decide +kernel)
theorem dX12_hill_55 : decode cX12_hill 55 = .ok (.aload_n 0, 1) := dz_42 (n := 32) (r := 23) hz_X12_hill_32 rfl
theorem dX12_hill_56 : decode cX12_hill 56 = .ok (.getfield 63, 3) := dz_180 (n := 32) (r := 24) hz_X12_hill_32 rfl rfl
theorem dX12_hill_59 : decode cX12_hill 59 = .ok (.iconst 0, 1) := dz_3 (n := 32) (r := 27) hz_X12_hill_32 rfl
theorem dX12_hill_60 : decode cX12_hill 60 = .ok (.iaload, 1) := dz_46 (n := 32) (r := 28) hz_X12_hill_32 rfl
theorem dX12_hill_61 : decode cX12_hill 61 = .ok (.goto 6, 3) := dz_167 (n := 32) (r := 29) hz_X12_hill_32 rfl (by decide +kernel)
theorem hz_X12_hill_64 : (cX12_hill.data.toList.drop 64).take 40 = [19, 1, 28, 79, 132, 2, 1, 167, 255, 212, 42, 182, 1, 71, 42, 180, 0, 75, 27, 46, 172] := by decide +kernel
theorem dX12_hill_64 : decode cX12_hill 64 = .ok (.ldc_w 284, 3) := dz_19 (n := 64) (r := 0) hz_X12_hill_64 rfl rfl
theorem dX12_hill_67 : decode cX12_hill 67 = .ok (.iastore, 1) := dz_79 (n := 64) (r := 3) hz_X12_hill_64 rfl
theorem dX12_hill_68 : decode cX12_hill 68 = .ok (.iinc 2 1, 3) := dz_132 (n := 64) (r := 4) hz_X12_hill_64 rfl rfl rfl
theorem dX12_hill_71 : decode cX12_hill 71 = .ok (.goto (-44), 3) := dz_167 (n := 64) (r := 7) hz_X12_hill_64 rfl (by decide +kernel)
theorem dX12_hill_74 : decode cX12_hill 74 = .ok (.aload_n 0, 1) := dz_42 (n := 64) (r := 10) hz_X12_hill_64 rfl
theorem dX12_hill_75 : decode cX12_hill 75 = .ok (.invokevirtual 327, 3) := dz_182 (n := 64) (r := 11) hz_X12_hill_64 rfl rfl
theorem dX12_hill_78 : decode cX12_hill 78 = .ok (.aload_n 0, 1) := dz_42 (n := 64) (r := 14) hz_X12_hill_64 rfl
theorem dX12_hill_79 : decode cX12_hill 79 = .ok (.getfield 75, 3) := dz_180 (n := 64) (r := 15) hz_X12_hill_64 rfl rfl
theorem dX12_hill_82 : decode cX12_hill 82 = .ok (.iload_n 1, 1) := dz_27 (n := 64) (r := 18) hz_X12_hill_64 rfl
theorem dX12_hill_83 : decode cX12_hill 83 = .ok (.iaload, 1) := dz_46 (n := 64) (r := 19) hz_X12_hill_64 rfl
theorem dX12_hill_84 : decode cX12_hill 84 = .ok (.ireturn, 1) := dz_172 (n := 64) (r := 20) hz_X12_hill_64 rfl
theorem hz_X12_pass_0 : (cX12_pass.data.toList.drop 0).take 40 = [42, 27, 182, 1, 25, 153, 0, 20, 42, 28, 182, 1, 25, 153, 0, 12, 42, 182, 0, 193, 16, 10, 164, 0, 7, 19, 1, 32, 172, 42, 182, 1, 5, 3, 62, 29, 42, 182, 1, 14] := by decide +kernel
theorem dX12_pass_0 : decode cX12_pass 0 = .ok (.aload_n 0, 1) := dz_42 (n := 0) (r := 0) hz_X12_pass_0 rfl
theorem dX12_pass_1 : decode cX12_pass 1 = .ok (.iload_n 1, 1) := dz_27 (n := 0) (r := 1) hz_X12_pass_0 rfl
theorem dX12_pass_2 : decode cX12_pass 2 = .ok (.invokevirtual 281, 3) := dz_182 (n := 0) (r := 2) hz_X12_pass_0 rfl rfl
theorem dX12_pass_5 : decode cX12_pass 5 = .ok (.ifCond .eq 20, 3) := dz_153 (n := 0) (r := 5) hz_X12_pass_0 rfl (by decide +kernel)
theorem dX12_pass_8 : decode cX12_pass 8 = .ok (.aload_n 0, 1) := dz_42 (n := 0) (r := 8) hz_X12_pass_0 rfl
theorem dX12_pass_9 : decode cX12_pass 9 = .ok (.iload_n 2, 1) := dz_28 (n := 0) (r := 9) hz_X12_pass_0 rfl
theorem dX12_pass_10 : decode cX12_pass 10 = .ok (.invokevirtual 281, 3) := dz_182 (n := 0) (r := 10) hz_X12_pass_0 rfl rfl
theorem dX12_pass_13 : decode cX12_pass 13 = .ok (.ifCond .eq 12, 3) := dz_153 (n := 0) (r := 13) hz_X12_pass_0 rfl (by decide +kernel)
theorem dX12_pass_16 : decode cX12_pass 16 = .ok (.aload_n 0, 1) := dz_42 (n := 0) (r := 16) hz_X12_pass_0 rfl
theorem dX12_pass_17 : decode cX12_pass 17 = .ok (.invokevirtual 193, 3) := dz_182 (n := 0) (r := 17) hz_X12_pass_0 rfl rfl
theorem dX12_pass_20 : decode cX12_pass 20 = .ok (.bipush 10, 2) := dz_16 (n := 0) (r := 20) hz_X12_pass_0 rfl rfl
theorem dX12_pass_22 : decode cX12_pass 22 = .ok (.if_icmp .le 7, 3) := dz_164 (n := 0) (r := 22) hz_X12_pass_0 rfl (by decide +kernel)
theorem dX12_pass_25 : decode cX12_pass 25 = .ok (.ldc_w 288, 3) := dz_19 (n := 0) (r := 25) hz_X12_pass_0 rfl rfl
theorem dX12_pass_28 : decode cX12_pass 28 = .ok (.ireturn, 1) := dz_172 (n := 0) (r := 28) hz_X12_pass_0 rfl
theorem dX12_pass_29 : decode cX12_pass 29 = .ok (.aload_n 0, 1) := dz_42 (n := 0) (r := 29) hz_X12_pass_0 rfl
theorem dX12_pass_30 : decode cX12_pass 30 = .ok (.invokevirtual 261, 3) := dz_182 (n := 0) (r := 30) hz_X12_pass_0 rfl rfl
theorem hz_X12_pass_32 : (cX12_pass.data.toList.drop 32).take 40 = [5, 3, 62, 29, 42, 182, 1, 14, 162, 0, 32, 42, 180, 0, 75, 29, 29, 28, 160, 0, 12, 42, 180, 0, 57, 29, 46, 167, 0, 6, 19, 1, 28, 79, 132, 3, 1, 167, 255, 222] := by decide +kernel
theorem dX12_pass_33 : decode cX12_pass 33 = .ok (.iconst 0, 1) := dz_3 (n := 32) (r := 1) hz_X12_pass_32 rfl
theorem dX12_pass_34 : decode cX12_pass 34 = .ok (.istore_n 3, 1) := dz_62 (n := 32) (r := 2) hz_X12_pass_32 rfl
theorem dX12_pass_35 : decode cX12_pass 35 = .ok (.iload_n 3, 1) := dz_29 (n := 32) (r := 3) hz_X12_pass_32 rfl
theorem dX12_pass_36 : decode cX12_pass 36 = .ok (.aload_n 0, 1) := dz_42 (n := 32) (r := 4) hz_X12_pass_32 rfl
theorem dX12_pass_37 : decode cX12_pass 37 = .ok (.invokevirtual 270, 3) := dz_182 (n := 32) (r := 5) hz_X12_pass_32 rfl rfl
theorem dX12_pass_40 : decode cX12_pass 40 = .ok (.if_icmp .ge 32, 3) := dz_162 (n := 32) (r := 8) hz_X12_pass_32 rfl (by decide +kernel)
theorem dX12_pass_43 : decode cX12_pass 43 = .ok (.aload_n 0, 1) := dz_42 (n := 32) (r := 11) hz_X12_pass_32 rfl
theorem dX12_pass_44 : decode cX12_pass 44 = .ok (.getfield 75, 3) := dz_180 (n := 32) (r := 12) hz_X12_pass_32 rfl rfl
theorem dX12_pass_47 : decode cX12_pass 47 = .ok (.iload_n 3, 1) := dz_29 (n := 32) (r := 15) hz_X12_pass_32 rfl
theorem dX12_pass_48 : decode cX12_pass 48 = .ok (.iload_n 3, 1) := dz_29 (n := 32) (r := 16) hz_X12_pass_32 rfl
theorem dX12_pass_49 : decode cX12_pass 49 = .ok (.iload_n 2, 1) := dz_28 (n := 32) (r := 17) hz_X12_pass_32 rfl
theorem dX12_pass_50 : decode cX12_pass 50 = .ok (.if_icmp .ne 12, 3) := dz_160 (n := 32) (r := 18) hz_X12_pass_32 rfl (by decide +kernel)
theorem dX12_pass_53 : decode cX12_pass 53 = .ok (.aload_n 0, 1) := dz_42 (n := 32) (r := 21) hz_X12_pass_32 rfl
theorem dX12_pass_54 : decode cX12_pass 54 = .ok (.getfield 57, 3) := dz_180 (n := 32) (r := 22) hz_X12_pass_32 rfl rfl
theorem dX12_pass_57 : decode cX12_pass 57 = .ok (.iload_n 3, 1) := dz_29 (n := 32) (r := 25) hz_X12_pass_32 rfl
theorem dX12_pass_58 : decode cX12_pass 58 = .ok (.iaload, 1) := dz_46 (n := 32) (r := 26) hz_X12_pass_32 rfl
theorem dX12_pass_59 : decode cX12_pass 59 = .ok (.goto 6, 3) := dz_167 (n := 32) (r := 27) hz_X12_pass_32 rfl (by decide +kernel)
theorem dX12_pass_62 : decode cX12_pass 62 = .ok (.ldc_w 284, 3) := dz_19 (n := 32) (r := 30) hz_X12_pass_32 rfl rfl
theorem hz_X12_pass_64 : (cX12_pass.data.toList.drop 64).take 40 = [28, 79, 132, 3, 1, 167, 255, 222, 42, 182, 1, 71, 42, 180, 0, 75, 27, 46, 172] := by decide +kernel
theorem dX12_pass_65 : decode cX12_pass 65 = .ok (.iastore, 1) := dz_79 (n := 64) (r := 1) hz_X12_pass_64 rfl
theorem dX12_pass_66 : decode cX12_pass 66 = .ok (.iinc 3 1, 3) := dz_132 (n := 64) (r := 2) hz_X12_pass_64 rfl rfl rfl
theorem dX12_pass_69 : decode cX12_pass 69 = .ok (.goto (-34), 3) := dz_167 (n := 64) (r := 5) hz_X12_pass_64 rfl (by decide +kernel)
theorem dX12_pass_72 : decode cX12_pass 72 = .ok (.aload_n 0, 1) := dz_42 (n := 64) (r := 8) hz_X12_pass_64 rfl
theorem dX12_pass_73 : decode cX12_pass 73 = .ok (.invokevirtual 327, 3) := dz_182 (n := 64) (r := 9) hz_X12_pass_64 rfl rfl
theorem dX12_pass_76 : decode cX12_pass 76 = .ok (.aload_n 0, 1) := dz_42 (n := 64) (r := 12) hz_X12_pass_64 rfl
theorem dX12_pass_77 : decode cX12_pass 77 = .ok (.getfield 75, 3) := dz_180 (n := 64) (r := 13) hz_X12_pass_64 rfl rfl
theorem dX12_pass_80 : decode cX12_pass 80 = .ok (.iload_n 1, 1) := dz_27 (n := 64) (r := 16) hz_X12_pass_64 rfl
theorem dX12_pass_81 : decode cX12_pass 81 = .ok (.iaload, 1) := dz_46 (n := 64) (r := 17) hz_X12_pass_64 rfl
theorem dX12_pass_82 : decode cX12_pass 82 = .ok (.ireturn, 1) := dz_172 (n := 64) (r := 18) hz_X12_pass_64 rfl
theorem hz_X12_lakes_0 : (cX12_lakes.data.toList.drop 0).take 40 = [42, 182, 0, 193, 16, 10, 164, 0, 7, 19, 1, 32, 172, 42, 182, 1, 5, 3, 61, 28, 42, 182, 1, 14, 162, 0, 16, 42, 180, 0, 78, 28, 3, 84, 132, 2, 1, 167, 255, 238] := by decide +kernel
theorem dX12_lakes_0 : decode cX12_lakes 0 = .ok (.aload_n 0, 1) := dz_42 (n := 0) (r := 0) hz_X12_lakes_0 rfl
theorem dX12_lakes_1 : decode cX12_lakes 1 = .ok (.invokevirtual 193, 3) := dz_182 (n := 0) (r := 1) hz_X12_lakes_0 rfl rfl
theorem dX12_lakes_4 : decode cX12_lakes 4 = .ok (.bipush 10, 2) := dz_16 (n := 0) (r := 4) hz_X12_lakes_0 rfl rfl
theorem dX12_lakes_6 : decode cX12_lakes 6 = .ok (.if_icmp .le 7, 3) := dz_164 (n := 0) (r := 6) hz_X12_lakes_0 rfl (by decide +kernel)
theorem dX12_lakes_9 : decode cX12_lakes 9 = .ok (.ldc_w 288, 3) := dz_19 (n := 0) (r := 9) hz_X12_lakes_0 rfl rfl
theorem dX12_lakes_12 : decode cX12_lakes 12 = .ok (.ireturn, 1) := dz_172 (n := 0) (r := 12) hz_X12_lakes_0 rfl
theorem dX12_lakes_13 : decode cX12_lakes 13 = .ok (.aload_n 0, 1) := dz_42 (n := 0) (r := 13) hz_X12_lakes_0 rfl
theorem dX12_lakes_14 : decode cX12_lakes 14 = .ok (.invokevirtual 261, 3) := dz_182 (n := 0) (r := 14) hz_X12_lakes_0 rfl rfl
theorem dX12_lakes_17 : decode cX12_lakes 17 = .ok (.iconst 0, 1) := dz_3 (n := 0) (r := 17) hz_X12_lakes_0 rfl
theorem dX12_lakes_18 : decode cX12_lakes 18 = .ok (.istore_n 2, 1) := dz_61 (n := 0) (r := 18) hz_X12_lakes_0 rfl
theorem dX12_lakes_19 : decode cX12_lakes 19 = .ok (.iload_n 2, 1) := dz_28 (n := 0) (r := 19) hz_X12_lakes_0 rfl
theorem dX12_lakes_20 : decode cX12_lakes 20 = .ok (.aload_n 0, 1) := dz_42 (n := 0) (r := 20) hz_X12_lakes_0 rfl
theorem dX12_lakes_21 : decode cX12_lakes 21 = .ok (.invokevirtual 270, 3) := dz_182 (n := 0) (r := 21) hz_X12_lakes_0 rfl rfl
theorem dX12_lakes_24 : decode cX12_lakes 24 = .ok (.if_icmp .ge 16, 3) := dz_162 (n := 0) (r := 24) hz_X12_lakes_0 rfl (by decide +kernel)
theorem dX12_lakes_27 : decode cX12_lakes 27 = .ok (.aload_n 0, 1) := dz_42 (n := 0) (r := 27) hz_X12_lakes_0 rfl
theorem dX12_lakes_28 : decode cX12_lakes 28 = .ok (.getfield 78, 3) := dz_180 (n := 0) (r := 28) hz_X12_lakes_0 rfl rfl
theorem dX12_lakes_31 : decode cX12_lakes 31 = .ok (.iload_n 2, 1) := dz_28 (n := 0) (r := 31) hz_X12_lakes_0 rfl
theorem hz_X12_lakes_32 : (cX12_lakes.data.toList.drop 32).take 40 = [3, 84, 132, 2, 1, 167, 255, 238, 3, 61, 3, 62, 29, 42, 182, 1, 14, 162, 0, 168, 42, 180, 0, 78, 29, 51, 154, 0, 153, 42, 180, 0, 57, 29, 46, 19, 1, 28, 159, 0] := by decide +kernel
theorem dX12_lakes_32 : decode cX12_lakes 32 = .ok (.iconst 0, 1) := dz_3 (n := 32) (r := 0) hz_X12_lakes_32 rfl
theorem dX12_lakes_33 : decode cX12_lakes 33 = .ok (.bastore, 1) := dz_84 (n := 32) (r := 1) hz_X12_lakes_32 rfl
theorem dX12_lakes_34 : decode cX12_lakes 34 = .ok (.iinc 2 1, 3) := dz_132 (n := 32) (r := 2) hz_X12_lakes_32 rfl rfl rfl
theorem dX12_lakes_37 : decode cX12_lakes 37 = .ok (.goto (-18), 3) := dz_167 (n := 32) (r := 5) hz_X12_lakes_32 rfl (by decide +kernel)
theorem dX12_lakes_40 : decode cX12_lakes 40 = .ok (.iconst 0, 1) := dz_3 (n := 32) (r := 8) hz_X12_lakes_32 rfl
theorem dX12_lakes_41 : decode cX12_lakes 41 = .ok (.istore_n 2, 1) := dz_61 (n := 32) (r := 9) hz_X12_lakes_32 rfl
theorem dX12_lakes_42 : decode cX12_lakes 42 = .ok (.iconst 0, 1) := dz_3 (n := 32) (r := 10) hz_X12_lakes_32 rfl
theorem dX12_lakes_43 : decode cX12_lakes 43 = .ok (.istore_n 3, 1) := dz_62 (n := 32) (r := 11) hz_X12_lakes_32 rfl
theorem dX12_lakes_44 : decode cX12_lakes 44 = .ok (.iload_n 3, 1) := dz_29 (n := 32) (r := 12) hz_X12_lakes_32 rfl
theorem dX12_lakes_45 : decode cX12_lakes 45 = .ok (.aload_n 0, 1) := dz_42 (n := 32) (r := 13) hz_X12_lakes_32 rfl
theorem dX12_lakes_46 : decode cX12_lakes 46 = .ok (.invokevirtual 270, 3) := dz_182 (n := 32) (r := 14) hz_X12_lakes_32 rfl rfl
theorem dX12_lakes_49 : decode cX12_lakes 49 = .ok (.if_icmp .ge 168, 3) := dz_162 (n := 32) (r := 17) hz_X12_lakes_32 rfl (by decide +kernel)
theorem dX12_lakes_52 : decode cX12_lakes 52 = .ok (.aload_n 0, 1) := dz_42 (n := 32) (r := 20) hz_X12_lakes_32 rfl
theorem dX12_lakes_53 : decode cX12_lakes 53 = .ok (.getfield 78, 3) := dz_180 (n := 32) (r := 21) hz_X12_lakes_32 rfl rfl
theorem dX12_lakes_56 : decode cX12_lakes 56 = .ok (.iload_n 3, 1) := dz_29 (n := 32) (r := 24) hz_X12_lakes_32 rfl
theorem dX12_lakes_57 : decode cX12_lakes 57 = .ok (.baload, 1) := dz_51 (n := 32) (r := 25) hz_X12_lakes_32 rfl
theorem dX12_lakes_58 : decode cX12_lakes 58 = .ok (.ifCond .ne 153, 3) := dz_154 (n := 32) (r := 26) hz_X12_lakes_32 rfl (by decide +kernel)
theorem dX12_lakes_61 : decode cX12_lakes 61 = .ok (.aload_n 0, 1) := dz_42 (n := 32) (r := 29) hz_X12_lakes_32 rfl
theorem dX12_lakes_62 : decode cX12_lakes 62 = .ok (.getfield 57, 3) := dz_180 (n := 32) (r := 30) hz_X12_lakes_32 rfl rfl
theorem hz_X12_lakes_64 : (cX12_lakes.data.toList.drop 64).take 40 = [57, 29, 46, 19, 1, 28, 159, 0, 141, 42, 180, 0, 57, 29, 46, 27, 164, 0, 6, 167, 0, 128, 132, 2, 1, 42, 180, 0, 78, 29, 4, 84, 42, 180, 0, 81, 3, 29, 79, 4] := by decide +kernel
theorem dX12_lakes_65 : decode cX12_lakes 65 = .ok (.iload_n 3, 1) := dz_29 (n := 64) (r := 1) hz_X12_lakes_64 rfl
theorem dX12_lakes_66 : decode cX12_lakes 66 = .ok (.iaload, 1) := dz_46 (n := 64) (r := 2) hz_X12_lakes_64 rfl
theorem dX12_lakes_67 : decode cX12_lakes 67 = .ok (.ldc_w 284, 3) := dz_19 (n := 64) (r := 3) hz_X12_lakes_64 rfl rfl
theorem dX12_lakes_70 : decode cX12_lakes 70 = .ok (.if_icmp .eq 141, 3) := dz_159 (n := 64) (r := 6) hz_X12_lakes_64 rfl (by decide +kernel)
theorem dX12_lakes_73 : decode cX12_lakes 73 = .ok (.aload_n 0, 1) := dz_42 (n := 64) (r := 9) hz_X12_lakes_64 rfl
theorem dX12_lakes_74 : decode cX12_lakes 74 = .ok (.getfield 57, 3) := dz_180 (n := 64) (r := 10) hz_X12_lakes_64 rfl rfl
theorem dX12_lakes_77 : decode cX12_lakes 77 = .ok (.iload_n 3, 1) := dz_29 (n := 64) (r := 13) hz_X12_lakes_64 rfl
theorem dX12_lakes_78 : decode cX12_lakes 78 = .ok (.iaload, 1) := dz_46 (n := 64) (r := 14) hz_X12_lakes_64 rfl
theorem dX12_lakes_79 : decode cX12_lakes 79 = .ok (.iload_n 1, 1) := dz_27 (n := 64) (r := 15) hz_X12_lakes_64 rfl
theorem dX12_lakes_80 : decode cX12_lakes 80 = .ok (.if_icmp .le 6, 3) := dz_164 (n := 64) (r := 16) hz_X12_lakes_64 rfl (by decide +kernel)
theorem dX12_lakes_83 : decode cX12_lakes 83 = .ok (.goto 128, 3) := dz_167 (n := 64) (r := 19) hz_X12_lakes_64 rfl (by decide +kernel)
theorem dX12_lakes_86 : decode cX12_lakes 86 = .ok (.iinc 2 1, 3) := dz_132 (n := 64) (r := 22) hz_X12_lakes_64 rfl rfl rfl
theorem dX12_lakes_89 : decode cX12_lakes 89 = .ok (.aload_n 0, 1) := dz_42 (n := 64) (r := 25) hz_X12_lakes_64 rfl
theorem dX12_lakes_90 : decode cX12_lakes 90 = .ok (.getfield 78, 3) := dz_180 (n := 64) (r := 26) hz_X12_lakes_64 rfl rfl
theorem dX12_lakes_93 : decode cX12_lakes 93 = .ok (.iload_n 3, 1) := dz_29 (n := 64) (r := 29) hz_X12_lakes_64 rfl
theorem dX12_lakes_94 : decode cX12_lakes 94 = .ok (.iconst 1, 1) := dz_4 (n := 64) (r := 30) hz_X12_lakes_64 rfl
theorem dX12_lakes_95 : decode cX12_lakes 95 = .ok (.bastore, 1) := dz_84 (n := 64) (r := 31) hz_X12_lakes_64 rfl
theorem hz_X12_lakes_96 : (cX12_lakes.data.toList.drop 96).take 40 = [42, 180, 0, 81, 3, 29, 79, 4, 54, 4, 3, 54, 5, 21, 5, 21, 4, 162, 0, 98, 3, 54, 6, 21, 6, 42, 182, 0, 193, 162, 0, 80, 42, 180, 0, 81, 21, 5, 46, 4] := by decide +kernel
theorem dX12_lakes_96 : decode cX12_lakes 96 = .ok (.aload_n 0, 1) := dz_42 (n := 96) (r := 0) hz_X12_lakes_96 rfl
theorem dX12_lakes_97 : decode cX12_lakes 97 = .ok (.getfield 81, 3) := dz_180 (n := 96) (r := 1) hz_X12_lakes_96 rfl rfl
theorem dX12_lakes_100 : decode cX12_lakes 100 = .ok (.iconst 0, 1) := dz_3 (n := 96) (r := 4) hz_X12_lakes_96 rfl
theorem dX12_lakes_101 : decode cX12_lakes 101 = .ok (.iload_n 3, 1) := dz_29 (n := 96) (r := 5) hz_X12_lakes_96 rfl
theorem dX12_lakes_102 : decode cX12_lakes 102 = .ok (.iastore, 1) := dz_79 (n := 96) (r := 6) hz_X12_lakes_96 rfl
theorem dX12_lakes_103 : decode cX12_lakes 103 = .ok (.iconst 1, 1) := dz_4 (n := 96) (r := 7) hz_X12_lakes_96 rfl
theorem dX12_lakes_104 : decode cX12_lakes 104 = .ok (.istore 4, 2) := dz_54 (n := 96) (r := 8) hz_X12_lakes_96 rfl rfl
theorem dX12_lakes_106 : decode cX12_lakes 106 = .ok (.iconst 0, 1) := dz_3 (n := 96) (r := 10) hz_X12_lakes_96 rfl
theorem dX12_lakes_107 : decode cX12_lakes 107 = .ok (.istore 5, 2) := dz_54 (n := 96) (r := 11) hz_X12_lakes_96 rfl rfl
theorem dX12_lakes_109 : decode cX12_lakes 109 = .ok (.iload 5, 2) := dz_21 (n := 96) (r := 13) hz_X12_lakes_96 rfl rfl
theorem dX12_lakes_111 : decode cX12_lakes 111 = .ok (.iload 4, 2) := dz_21 (n := 96) (r := 15) hz_X12_lakes_96 rfl rfl
theorem dX12_lakes_113 : decode cX12_lakes 113 = .ok (.if_icmp .ge 98, 3) := dz_162 (n := 96) (r := 17) hz_X12_lakes_96 rfl (by decide +kernel)
theorem dX12_lakes_116 : decode cX12_lakes 116 = .ok (.iconst 0, 1) := dz_3 (n := 96) (r := 20) hz_X12_lakes_96 rfl
theorem dX12_lakes_117 : decode cX12_lakes 117 = .ok (.istore 6, 2) := dz_54 (n := 96) (r := 21) hz_X12_lakes_96 rfl rfl
theorem dX12_lakes_119 : decode cX12_lakes 119 = .ok (.iload 6, 2) := dz_21 (n := 96) (r := 23) hz_X12_lakes_96 rfl rfl
theorem dX12_lakes_121 : decode cX12_lakes 121 = .ok (.aload_n 0, 1) := dz_42 (n := 96) (r := 25) hz_X12_lakes_96 rfl
theorem dX12_lakes_122 : decode cX12_lakes 122 = .ok (.invokevirtual 193, 3) := dz_182 (n := 96) (r := 26) hz_X12_lakes_96 rfl rfl
theorem dX12_lakes_125 : decode cX12_lakes 125 = .ok (.if_icmp .ge 80, 3) := dz_162 (n := 96) (r := 29) hz_X12_lakes_96 rfl (by decide +kernel)
theorem hz_X12_lakes_128 : (cX12_lakes.data.toList.drop 128).take 40 = [42, 180, 0, 81, 21, 5, 46, 4, 21, 6, 120, 130, 54, 7, 42, 180, 0, 78, 21, 7, 51, 154, 0, 50, 42, 180, 0, 57, 21, 7, 46, 19, 1, 28, 159, 0, 37, 42, 180, 0] := by decide +kernel
theorem dX12_lakes_128 : decode cX12_lakes 128 = .ok (.aload_n 0, 1) := dz_42 (n := 128) (r := 0) hz_X12_lakes_128 rfl
theorem dX12_lakes_129 : decode cX12_lakes 129 = .ok (.getfield 81, 3) := dz_180 (n := 128) (r := 1) hz_X12_lakes_128 rfl rfl
theorem dX12_lakes_132 : decode cX12_lakes 132 = .ok (.iload 5, 2) := dz_21 (n := 128) (r := 4) hz_X12_lakes_128 rfl rfl
theorem dX12_lakes_134 : decode cX12_lakes 134 = .ok (.iaload, 1) := dz_46 (n := 128) (r := 6) hz_X12_lakes_128 rfl
theorem dX12_lakes_135 : decode cX12_lakes 135 = .ok (.iconst 1, 1) := dz_4 (n := 128) (r := 7) hz_X12_lakes_128 rfl
theorem dX12_lakes_136 : decode cX12_lakes 136 = .ok (.iload 6, 2) := dz_21 (n := 128) (r := 8) hz_X12_lakes_128 rfl rfl
theorem dX12_lakes_138 : decode cX12_lakes 138 = .ok (.ishl, 1) := dz_120 (n := 128) (r := 10) hz_X12_lakes_128 rfl
theorem dX12_lakes_139 : decode cX12_lakes 139 = .ok (.ixor, 1) := dz_130 (n := 128) (r := 11) hz_X12_lakes_128 rfl
theorem dX12_lakes_140 : decode cX12_lakes 140 = .ok (.istore 7, 2) := dz_54 (n := 128) (r := 12) hz_X12_lakes_128 rfl rfl
theorem dX12_lakes_142 : decode cX12_lakes 142 = .ok (.aload_n 0, 1) := dz_42 (n := 128) (r := 14) hz_X12_lakes_128 rfl
theorem dX12_lakes_143 : decode cX12_lakes 143 = .ok (.getfield 78, 3) := dz_180 (n := 128) (r := 15) hz_X12_lakes_128 rfl rfl
theorem dX12_lakes_146 : decode cX12_lakes 146 = .ok (.iload 7, 2) := dz_21 (n := 128) (r := 18) hz_X12_lakes_128 rfl rfl
theorem dX12_lakes_148 : decode cX12_lakes 148 = .ok (.baload, 1) := dz_51 (n := 128) (r := 20) hz_X12_lakes_128 rfl
theorem dX12_lakes_149 : decode cX12_lakes 149 = .ok (.ifCond .ne 50, 3) := dz_154 (n := 128) (r := 21) hz_X12_lakes_128 rfl (by decide +kernel)
theorem dX12_lakes_152 : decode cX12_lakes 152 = .ok (.aload_n 0, 1) := dz_42 (n := 128) (r := 24) hz_X12_lakes_128 rfl
theorem dX12_lakes_153 : decode cX12_lakes 153 = .ok (.getfield 57, 3) := dz_180 (n := 128) (r := 25) hz_X12_lakes_128 rfl rfl
theorem dX12_lakes_156 : decode cX12_lakes 156 = .ok (.iload 7, 2) := dz_21 (n := 128) (r := 28) hz_X12_lakes_128 rfl rfl
theorem dX12_lakes_158 : decode cX12_lakes 158 = .ok (.iaload, 1) := dz_46 (n := 128) (r := 30) hz_X12_lakes_128 rfl
theorem dX12_lakes_159 : decode cX12_lakes 159 = .ok (.ldc_w 284, 3) := dz_19 (n := 128) (r := 31) hz_X12_lakes_128 rfl rfl
theorem hz_X12_lakes_160 : (cX12_lakes.data.toList.drop 160).take 40 = [1, 28, 159, 0, 37, 42, 180, 0, 57, 21, 7, 46, 27, 164, 0, 6, 167, 0, 23, 42, 180, 0, 78, 21, 7, 4, 84, 42, 180, 0, 81, 21, 4, 21, 7, 79, 132, 4, 1, 132] := by decide +kernel
theorem dX12_lakes_162 : decode cX12_lakes 162 = .ok (.if_icmp .eq 37, 3) := dz_159 (n := 160) (r := 2) hz_X12_lakes_160 rfl (by decide +kernel)
theorem dX12_lakes_165 : decode cX12_lakes 165 = .ok (.aload_n 0, 1) := dz_42 (n := 160) (r := 5) hz_X12_lakes_160 rfl
theorem dX12_lakes_166 : decode cX12_lakes 166 = .ok (.getfield 57, 3) := dz_180 (n := 160) (r := 6) hz_X12_lakes_160 rfl rfl
theorem dX12_lakes_169 : decode cX12_lakes 169 = .ok (.iload 7, 2) := dz_21 (n := 160) (r := 9) hz_X12_lakes_160 rfl rfl
theorem dX12_lakes_171 : decode cX12_lakes 171 = .ok (.iaload, 1) := dz_46 (n := 160) (r := 11) hz_X12_lakes_160 rfl
theorem dX12_lakes_172 : decode cX12_lakes 172 = .ok (.iload_n 1, 1) := dz_27 (n := 160) (r := 12) hz_X12_lakes_160 rfl
theorem dX12_lakes_173 : decode cX12_lakes 173 = .ok (.if_icmp .le 6, 3) := dz_164 (n := 160) (r := 13) hz_X12_lakes_160 rfl (by decide +kernel)
theorem dX12_lakes_176 : decode cX12_lakes 176 = .ok (.goto 23, 3) := dz_167 (n := 160) (r := 16) hz_X12_lakes_160 rfl (by decide +kernel)
theorem dX12_lakes_179 : decode cX12_lakes 179 = .ok (.aload_n 0, 1) := dz_42 (n := 160) (r := 19) hz_X12_lakes_160 rfl
theorem dX12_lakes_180 : decode cX12_lakes 180 = .ok (.getfield 78, 3) := dz_180 (n := 160) (r := 20) hz_X12_lakes_160 rfl rfl
theorem dX12_lakes_183 : decode cX12_lakes 183 = .ok (.iload 7, 2) := dz_21 (n := 160) (r := 23) hz_X12_lakes_160 rfl rfl
theorem dX12_lakes_185 : decode cX12_lakes 185 = .ok (.iconst 1, 1) := dz_4 (n := 160) (r := 25) hz_X12_lakes_160 rfl
theorem dX12_lakes_186 : decode cX12_lakes 186 = .ok (.bastore, 1) := dz_84 (n := 160) (r := 26) hz_X12_lakes_160 rfl
theorem dX12_lakes_187 : decode cX12_lakes 187 = .ok (.aload_n 0, 1) := dz_42 (n := 160) (r := 27) hz_X12_lakes_160 rfl
theorem dX12_lakes_188 : decode cX12_lakes 188 = .ok (.getfield 81, 3) := dz_180 (n := 160) (r := 28) hz_X12_lakes_160 rfl rfl
theorem dX12_lakes_191 : decode cX12_lakes 191 = .ok (.iload 4, 2) := dz_21 (n := 160) (r := 31) hz_X12_lakes_160 rfl rfl
theorem hz_X12_lakes_192 : (cX12_lakes.data.toList.drop 192).take 40 = [4, 21, 7, 79, 132, 4, 1, 132, 6, 1, 167, 255, 173, 132, 5, 1, 167, 255, 157, 132, 3, 1, 167, 255, 86, 28, 172] := by decide +kernel
theorem dX12_lakes_193 : decode cX12_lakes 193 = .ok (.iload 7, 2) := dz_21 (n := 192) (r := 1) hz_X12_lakes_192 rfl rfl
theorem dX12_lakes_195 : decode cX12_lakes 195 = .ok (.iastore, 1) := dz_79 (n := 192) (r := 3) hz_X12_lakes_192 rfl
theorem dX12_lakes_196 : decode cX12_lakes 196 = .ok (.iinc 4 1, 3) := dz_132 (n := 192) (r := 4) hz_X12_lakes_192 rfl rfl rfl
theorem dX12_lakes_199 : decode cX12_lakes 199 = .ok (.iinc 6 1, 3) := dz_132 (n := 192) (r := 7) hz_X12_lakes_192 rfl rfl rfl
theorem dX12_lakes_202 : decode cX12_lakes 202 = .ok (.goto (-83), 3) := dz_167 (n := 192) (r := 10) hz_X12_lakes_192 rfl (by decide +kernel)
theorem dX12_lakes_205 : decode cX12_lakes 205 = .ok (.iinc 5 1, 3) := dz_132 (n := 192) (r := 13) hz_X12_lakes_192 rfl rfl rfl
theorem dX12_lakes_208 : decode cX12_lakes 208 = .ok (.goto (-99), 3) := dz_167 (n := 192) (r := 16) hz_X12_lakes_192 rfl (by decide +kernel)
theorem dX12_lakes_211 : decode cX12_lakes 211 = .ok (.iinc 3 1, 3) := dz_132 (n := 192) (r := 19) hz_X12_lakes_192 rfl rfl rfl
theorem dX12_lakes_214 : decode cX12_lakes 214 = .ok (.goto (-170), 3) := dz_167 (n := 192) (r := 22) hz_X12_lakes_192 rfl (by decide +kernel)
theorem dX12_lakes_217 : decode cX12_lakes 217 = .ok (.iload_n 2, 1) := dz_28 (n := 192) (r := 25) hz_X12_lakes_192 rfl
theorem dX12_lakes_218 : decode cX12_lakes 218 = .ok (.ireturn, 1) := dz_172 (n := 192) (r := 26) hz_X12_lakes_192 rfl
theorem hz_X12_down_0 : (cX12_down.data.toList.drop 0).take 40 = [42, 27, 182, 1, 25, 153, 0, 12, 42, 182, 0, 193, 16, 10, 164, 0, 7, 20, 1, 59, 173, 42, 182, 1, 5, 3, 61, 28, 42, 180, 1, 29, 162, 0, 126, 3, 62, 29, 42, 182] := by decide +kernel
theorem dX12_down_0 : decode cX12_down 0 = .ok (.aload_n 0, 1) := dz_42 (n := 0) (r := 0) hz_X12_down_0 rfl
theorem dX12_down_1 : decode cX12_down 1 = .ok (.iload_n 1, 1) := dz_27 (n := 0) (r := 1) hz_X12_down_0 rfl
theorem dX12_down_2 : decode cX12_down 2 = .ok (.invokevirtual 281, 3) := dz_182 (n := 0) (r := 2) hz_X12_down_0 rfl rfl
theorem dX12_down_5 : decode cX12_down 5 = .ok (.ifCond .eq 12, 3) := dz_153 (n := 0) (r := 5) hz_X12_down_0 rfl (by decide +kernel)
theorem dX12_down_8 : decode cX12_down 8 = .ok (.aload_n 0, 1) := dz_42 (n := 0) (r := 8) hz_X12_down_0 rfl
theorem dX12_down_9 : decode cX12_down 9 = .ok (.invokevirtual 193, 3) := dz_182 (n := 0) (r := 9) hz_X12_down_0 rfl rfl
theorem dX12_down_12 : decode cX12_down 12 = .ok (.bipush 10, 2) := dz_16 (n := 0) (r := 12) hz_X12_down_0 rfl rfl
theorem dX12_down_14 : decode cX12_down 14 = .ok (.if_icmp .le 7, 3) := dz_164 (n := 0) (r := 14) hz_X12_down_0 rfl (by decide +kernel)
theorem dX12_down_17 : decode cX12_down 17 = .ok (.ldc2_w 315, 3) := dz_20 (n := 0) (r := 17) hz_X12_down_0 rfl rfl
theorem dX12_down_20 : decode cX12_down 20 = .ok (.lreturn, 1) := dz_173 (n := 0) (r := 20) hz_X12_down_0 rfl
theorem dX12_down_21 : decode cX12_down 21 = .ok (.aload_n 0, 1) := dz_42 (n := 0) (r := 21) hz_X12_down_0 rfl
theorem dX12_down_22 : decode cX12_down 22 = .ok (.invokevirtual 261, 3) := dz_182 (n := 0) (r := 22) hz_X12_down_0 rfl rfl
theorem dX12_down_25 : decode cX12_down 25 = .ok (.iconst 0, 1) := dz_3 (n := 0) (r := 25) hz_X12_down_0 rfl
theorem dX12_down_26 : decode cX12_down 26 = .ok (.istore_n 2, 1) := dz_61 (n := 0) (r := 26) hz_X12_down_0 rfl
theorem dX12_down_27 : decode cX12_down 27 = .ok (.iload_n 2, 1) := dz_28 (n := 0) (r := 27) hz_X12_down_0 rfl
theorem dX12_down_28 : decode cX12_down 28 = .ok (.aload_n 0, 1) := dz_42 (n := 0) (r := 28) hz_X12_down_0 rfl
theorem dX12_down_29 : decode cX12_down 29 = .ok (.getfield 285, 3) := dz_180 (n := 0) (r := 29) hz_X12_down_0 rfl rfl
theorem hz_X12_down_32 : (cX12_down.data.toList.drop 32).take 40 = [162, 0, 126, 3, 62, 29, 42, 182, 1, 14, 162, 0, 110, 42, 180, 0, 57, 29, 46, 42, 180, 0, 63, 28, 46, 159, 0, 6, 167, 0, 86, 42, 180, 0, 84, 29, 9, 80, 3, 54] := by decide +kernel
theorem dX12_down_32 : decode cX12_down 32 = .ok (.if_icmp .ge 126, 3) := dz_162 (n := 32) (r := 0) hz_X12_down_32 rfl (by decide +kernel)
theorem dX12_down_35 : decode cX12_down 35 = .ok (.iconst 0, 1) := dz_3 (n := 32) (r := 3) hz_X12_down_32 rfl
theorem dX12_down_36 : decode cX12_down 36 = .ok (.istore_n 3, 1) := dz_62 (n := 32) (r := 4) hz_X12_down_32 rfl
theorem dX12_down_37 : decode cX12_down 37 = .ok (.iload_n 3, 1) := dz_29 (n := 32) (r := 5) hz_X12_down_32 rfl
theorem dX12_down_38 : decode cX12_down 38 = .ok (.aload_n 0, 1) := dz_42 (n := 32) (r := 6) hz_X12_down_32 rfl
theorem dX12_down_39 : decode cX12_down 39 = .ok (.invokevirtual 270, 3) := dz_182 (n := 32) (r := 7) hz_X12_down_32 rfl rfl
theorem dX12_down_42 : decode cX12_down 42 = .ok (.if_icmp .ge 110, 3) := dz_162 (n := 32) (r := 10) hz_X12_down_32 rfl (by decide +kernel)
theorem dX12_down_45 : decode cX12_down 45 = .ok (.aload_n 0, 1) := dz_42 (n := 32) (r := 13) hz_X12_down_32 rfl
theorem dX12_down_46 : decode cX12_down 46 = .ok (.getfield 57, 3) := dz_180 (n := 32) (r := 14) hz_X12_down_32 rfl rfl
theorem dX12_down_49 : decode cX12_down 49 = .ok (.iload_n 3, 1) := dz_29 (n := 32) (r := 17) hz_X12_down_32 rfl
theorem dX12_down_50 : decode cX12_down 50 = .ok (.iaload, 1) := dz_46 (n := 32) (r := 18) hz_X12_down_32 rfl
theorem dX12_down_51 : decode cX12_down 51 = .ok (.aload_n 0, 1) := dz_42 (n := 32) (r := 19) hz_X12_down_32 rfl
theorem dX12_down_52 : decode cX12_down 52 = .ok (.getfield 63, 3) := dz_180 (n := 32) (r := 20) hz_X12_down_32 rfl rfl
theorem dX12_down_55 : decode cX12_down 55 = .ok (.iload_n 2, 1) := dz_28 (n := 32) (r := 23) hz_X12_down_32 rfl
theorem dX12_down_56 : decode cX12_down 56 = .ok (.iaload, 1) := dz_46 (n := 32) (r := 24) hz_X12_down_32 rfl
theorem dX12_down_57 : decode cX12_down 57 = .ok (.if_icmp .eq 6, 3) := dz_159 (n := 32) (r := 25) hz_X12_down_32 rfl (by decide +kernel)
theorem dX12_down_60 : decode cX12_down 60 = .ok (.goto 86, 3) := dz_167 (n := 32) (r := 28) hz_X12_down_32 rfl (by decide +kernel)
theorem dX12_down_63 : decode cX12_down 63 = .ok (.aload_n 0, 1) := dz_42 (n := 32) (r := 31) hz_X12_down_32 rfl
theorem hz_X12_down_64 : (cX12_down.data.toList.drop 64).take 40 = [180, 0, 84, 29, 9, 80, 3, 54, 4, 21, 4, 42, 182, 0, 193, 162, 0, 49, 42, 180, 0, 57, 29, 4, 21, 4, 120, 130, 46, 42, 180, 0, 57, 29, 46, 162, 0, 23, 42, 180] := by decide +kernel
theorem dX12_down_64 : decode cX12_down 64 = .ok (.getfield 84, 3) := dz_180 (n := 64) (r := 0) hz_X12_down_64 rfl rfl
theorem dX12_down_67 : decode cX12_down 67 = .ok (.iload_n 3, 1) := dz_29 (n := 64) (r := 3) hz_X12_down_64 rfl
theorem dX12_down_68 : decode cX12_down 68 = .ok (.lconst 0, 1) := dz_9 (n := 64) (r := 4) hz_X12_down_64 rfl
theorem dX12_down_69 : decode cX12_down 69 = .ok (.lastore, 1) := dz_80 (n := 64) (r := 5) hz_X12_down_64 rfl
theorem dX12_down_70 : decode cX12_down 70 = .ok (.iconst 0, 1) := dz_3 (n := 64) (r := 6) hz_X12_down_64 rfl
theorem dX12_down_71 : decode cX12_down 71 = .ok (.istore 4, 2) := dz_54 (n := 64) (r := 7) hz_X12_down_64 rfl rfl
theorem dX12_down_73 : decode cX12_down 73 = .ok (.iload 4, 2) := dz_21 (n := 64) (r := 9) hz_X12_down_64 rfl rfl
theorem dX12_down_75 : decode cX12_down 75 = .ok (.aload_n 0, 1) := dz_42 (n := 64) (r := 11) hz_X12_down_64 rfl
theorem dX12_down_76 : decode cX12_down 76 = .ok (.invokevirtual 193, 3) := dz_182 (n := 64) (r := 12) hz_X12_down_64 rfl rfl
theorem dX12_down_79 : decode cX12_down 79 = .ok (.if_icmp .ge 49, 3) := dz_162 (n := 64) (r := 15) hz_X12_down_64 rfl (by decide +kernel)
theorem dX12_down_82 : decode cX12_down 82 = .ok (.aload_n 0, 1) := dz_42 (n := 64) (r := 18) hz_X12_down_64 rfl
theorem dX12_down_83 : decode cX12_down 83 = .ok (.getfield 57, 3) := dz_180 (n := 64) (r := 19) hz_X12_down_64 rfl rfl
theorem dX12_down_86 : decode cX12_down 86 = .ok (.iload_n 3, 1) := dz_29 (n := 64) (r := 22) hz_X12_down_64 rfl
theorem dX12_down_87 : decode cX12_down 87 = .ok (.iconst 1, 1) := dz_4 (n := 64) (r := 23) hz_X12_down_64 rfl
theorem dX12_down_88 : decode cX12_down 88 = .ok (.iload 4, 2) := dz_21 (n := 64) (r := 24) hz_X12_down_64 rfl rfl
theorem dX12_down_90 : decode cX12_down 90 = .ok (.ishl, 1) := dz_120 (n := 64) (r := 26) hz_X12_down_64 rfl
theorem dX12_down_91 : decode cX12_down 91 = .ok (.ixor, 1) := dz_130 (n := 64) (r := 27) hz_X12_down_64 rfl
theorem dX12_down_92 : decode cX12_down 92 = .ok (.iaload, 1) := dz_46 (n := 64) (r := 28) hz_X12_down_64 rfl
theorem dX12_down_93 : decode cX12_down 93 = .ok (.aload_n 0, 1) := dz_42 (n := 64) (r := 29) hz_X12_down_64 rfl
theorem dX12_down_94 : decode cX12_down 94 = .ok (.getfield 57, 3) := dz_180 (n := 64) (r := 30) hz_X12_down_64 rfl rfl
theorem hz_X12_down_96 : (cX12_down.data.toList.drop 96).take 40 = [57, 29, 46, 162, 0, 23, 42, 180, 0, 84, 29, 92, 47, 42, 180, 0, 84, 29, 4, 21, 4, 120, 130, 47, 97, 80, 132, 4, 1, 167, 255, 204, 42, 180, 0, 84, 29, 47, 9, 148] := by decide +kernel
theorem dX12_down_97 : decode cX12_down 97 = .ok (.iload_n 3, 1) := dz_29 (n := 96) (r := 1) hz_X12_down_96 rfl
theorem dX12_down_98 : decode cX12_down 98 = .ok (.iaload, 1) := dz_46 (n := 96) (r := 2) hz_X12_down_96 rfl
theorem dX12_down_99 : decode cX12_down 99 = .ok (.if_icmp .ge 23, 3) := dz_162 (n := 96) (r := 3) hz_X12_down_96 rfl (by decide +kernel)
theorem dX12_down_102 : decode cX12_down 102 = .ok (.aload_n 0, 1) := dz_42 (n := 96) (r := 6) hz_X12_down_96 rfl
theorem dX12_down_103 : decode cX12_down 103 = .ok (.getfield 84, 3) := dz_180 (n := 96) (r := 7) hz_X12_down_96 rfl rfl
theorem dX12_down_106 : decode cX12_down 106 = .ok (.iload_n 3, 1) := dz_29 (n := 96) (r := 10) hz_X12_down_96 rfl
theorem dX12_down_107 : decode cX12_down 107 = .ok (.dup2, 1) := dz_92 (n := 96) (r := 11) hz_X12_down_96 rfl
theorem dX12_down_108 : decode cX12_down 108 = .ok (.laload, 1) := dz_47 (n := 96) (r := 12) hz_X12_down_96 rfl
theorem dX12_down_109 : decode cX12_down 109 = .ok (.aload_n 0, 1) := dz_42 (n := 96) (r := 13) hz_X12_down_96 rfl
theorem dX12_down_110 : decode cX12_down 110 = .ok (.getfield 84, 3) := dz_180 (n := 96) (r := 14) hz_X12_down_96 rfl rfl
theorem dX12_down_113 : decode cX12_down 113 = .ok (.iload_n 3, 1) := dz_29 (n := 96) (r := 17) hz_X12_down_96 rfl
theorem dX12_down_114 : decode cX12_down 114 = .ok (.iconst 1, 1) := dz_4 (n := 96) (r := 18) hz_X12_down_96 rfl
theorem dX12_down_115 : decode cX12_down 115 = .ok (.iload 4, 2) := dz_21 (n := 96) (r := 19) hz_X12_down_96 rfl rfl
theorem dX12_down_117 : decode cX12_down 117 = .ok (.ishl, 1) := dz_120 (n := 96) (r := 21) hz_X12_down_96 rfl
theorem dX12_down_118 : decode cX12_down 118 = .ok (.ixor, 1) := dz_130 (n := 96) (r := 22) hz_X12_down_96 rfl
theorem dX12_down_119 : decode cX12_down 119 = .ok (.laload, 1) := dz_47 (n := 96) (r := 23) hz_X12_down_96 rfl
theorem dX12_down_120 : decode cX12_down 120 = .ok (.ladd, 1) := dz_97 (n := 96) (r := 24) hz_X12_down_96 rfl
theorem dX12_down_121 : decode cX12_down 121 = .ok (.lastore, 1) := dz_80 (n := 96) (r := 25) hz_X12_down_96 rfl
theorem dX12_down_122 : decode cX12_down 122 = .ok (.iinc 4 1, 3) := dz_132 (n := 96) (r := 26) hz_X12_down_96 rfl rfl rfl
theorem dX12_down_125 : decode cX12_down 125 = .ok (.goto (-52), 3) := dz_167 (n := 96) (r := 29) hz_X12_down_96 rfl (by decide +kernel)
theorem hz_X12_down_128 : (cX12_down.data.toList.drop 128).take 40 = [42, 180, 0, 84, 29, 47, 9, 148, 154, 0, 10, 42, 180, 0, 84, 29, 10, 80, 132, 3, 1, 167, 255, 144, 132, 2, 1, 167, 255, 128, 42, 180, 0, 84, 27, 47, 173] := by decide +kernel
theorem dX12_down_128 : decode cX12_down 128 = .ok (.aload_n 0, 1) := dz_42 (n := 128) (r := 0) hz_X12_down_128 rfl
theorem dX12_down_129 : decode cX12_down 129 = .ok (.getfield 84, 3) := dz_180 (n := 128) (r := 1) hz_X12_down_128 rfl rfl
theorem dX12_down_132 : decode cX12_down 132 = .ok (.iload_n 3, 1) := dz_29 (n := 128) (r := 4) hz_X12_down_128 rfl
theorem dX12_down_133 : decode cX12_down 133 = .ok (.laload, 1) := dz_47 (n := 128) (r := 5) hz_X12_down_128 rfl
theorem dX12_down_134 : decode cX12_down 134 = .ok (.lconst 0, 1) := dz_9 (n := 128) (r := 6) hz_X12_down_128 rfl
theorem dX12_down_135 : decode cX12_down 135 = .ok (.lcmp, 1) := dz_148 (n := 128) (r := 7) hz_X12_down_128 rfl
theorem dX12_down_136 : decode cX12_down 136 = .ok (.ifCond .ne 10, 3) := dz_154 (n := 128) (r := 8) hz_X12_down_128 rfl (by decide +kernel)
theorem dX12_down_139 : decode cX12_down 139 = .ok (.aload_n 0, 1) := dz_42 (n := 128) (r := 11) hz_X12_down_128 rfl
theorem dX12_down_140 : decode cX12_down 140 = .ok (.getfield 84, 3) := dz_180 (n := 128) (r := 12) hz_X12_down_128 rfl rfl
theorem dX12_down_143 : decode cX12_down 143 = .ok (.iload_n 3, 1) := dz_29 (n := 128) (r := 15) hz_X12_down_128 rfl
theorem dX12_down_144 : decode cX12_down 144 = .ok (.lconst 1, 1) := dz_10 (n := 128) (r := 16) hz_X12_down_128 rfl
theorem dX12_down_145 : decode cX12_down 145 = .ok (.lastore, 1) := dz_80 (n := 128) (r := 17) hz_X12_down_128 rfl
theorem dX12_down_146 : decode cX12_down 146 = .ok (.iinc 3 1, 3) := dz_132 (n := 128) (r := 18) hz_X12_down_128 rfl rfl rfl
theorem dX12_down_149 : decode cX12_down 149 = .ok (.goto (-112), 3) := dz_167 (n := 128) (r := 21) hz_X12_down_128 rfl (by decide +kernel)
theorem dX12_down_152 : decode cX12_down 152 = .ok (.iinc 2 1, 3) := dz_132 (n := 128) (r := 24) hz_X12_down_128 rfl rfl rfl
theorem dX12_down_155 : decode cX12_down 155 = .ok (.goto (-128), 3) := dz_167 (n := 128) (r := 27) hz_X12_down_128 rfl (by decide +kernel)
theorem dX12_down_158 : decode cX12_down 158 = .ok (.aload_n 0, 1) := dz_42 (n := 128) (r := 30) hz_X12_down_128 rfl
theorem dX12_down_159 : decode cX12_down 159 = .ok (.getfield 84, 3) := dz_180 (n := 128) (r := 31) hz_X12_down_128 rfl rfl
theorem hz_X12_down_160 : (cX12_down.data.toList.drop 160).take 40 = [0, 84, 27, 47, 173] := by decide +kernel
theorem dX12_down_162 : decode cX12_down 162 = .ok (.iload_n 1, 1) := dz_27 (n := 160) (r := 2) hz_X12_down_160 rfl
theorem dX12_down_163 : decode cX12_down 163 = .ok (.laload, 1) := dz_47 (n := 160) (r := 3) hz_X12_down_160 rfl
theorem dX12_down_164 : decode cX12_down 164 = .ok (.lreturn, 1) := dz_173 (n := 160) (r := 4) hz_X12_down_160 rfl
theorem hz_X12_nearest_0 : (cX12_nearest.data.toList.drop 0).take 40 = [42, 27, 182, 1, 25, 153, 0, 12, 28, 3, 4, 184, 0, 213, 154, 0, 7, 19, 1, 32, 172, 42, 182, 1, 5, 2, 62, 3, 54, 4, 21, 4, 42, 182, 1, 14, 162, 0, 51, 42] := by decide +kernel
theorem dX12_nearest_0 : decode cX12_nearest 0 = .ok (.aload_n 0, 1) := dz_42 (n := 0) (r := 0) hz_X12_nearest_0 rfl
theorem dX12_nearest_1 : decode cX12_nearest 1 = .ok (.iload_n 1, 1) := dz_27 (n := 0) (r := 1) hz_X12_nearest_0 rfl
theorem dX12_nearest_2 : decode cX12_nearest 2 = .ok (.invokevirtual 281, 3) := dz_182 (n := 0) (r := 2) hz_X12_nearest_0 rfl rfl
theorem dX12_nearest_5 : decode cX12_nearest 5 = .ok (.ifCond .eq 12, 3) := dz_153 (n := 0) (r := 5) hz_X12_nearest_0 rfl (by decide +kernel)
theorem dX12_nearest_8 : decode cX12_nearest 8 = .ok (.iload_n 2, 1) := dz_28 (n := 0) (r := 8) hz_X12_nearest_0 rfl
theorem dX12_nearest_9 : decode cX12_nearest 9 = .ok (.iconst 0, 1) := dz_3 (n := 0) (r := 9) hz_X12_nearest_0 rfl
theorem dX12_nearest_10 : decode cX12_nearest 10 = .ok (.iconst 1, 1) := dz_4 (n := 0) (r := 10) hz_X12_nearest_0 rfl
theorem dX12_nearest_11 : decode cX12_nearest 11 = .ok (.invokestatic 213, 3) := dz_184 (n := 0) (r := 11) hz_X12_nearest_0 rfl rfl
theorem dX12_nearest_14 : decode cX12_nearest 14 = .ok (.ifCond .ne 7, 3) := dz_154 (n := 0) (r := 14) hz_X12_nearest_0 rfl (by decide +kernel)
theorem dX12_nearest_17 : decode cX12_nearest 17 = .ok (.ldc_w 288, 3) := dz_19 (n := 0) (r := 17) hz_X12_nearest_0 rfl rfl
theorem dX12_nearest_20 : decode cX12_nearest 20 = .ok (.ireturn, 1) := dz_172 (n := 0) (r := 20) hz_X12_nearest_0 rfl
theorem dX12_nearest_21 : decode cX12_nearest 21 = .ok (.aload_n 0, 1) := dz_42 (n := 0) (r := 21) hz_X12_nearest_0 rfl
theorem dX12_nearest_22 : decode cX12_nearest 22 = .ok (.invokevirtual 261, 3) := dz_182 (n := 0) (r := 22) hz_X12_nearest_0 rfl rfl
theorem dX12_nearest_25 : decode cX12_nearest 25 = .ok (.iconst (-1), 1) := dz_2 (n := 0) (r := 25) hz_X12_nearest_0 rfl
theorem dX12_nearest_26 : decode cX12_nearest 26 = .ok (.istore_n 3, 1) := dz_62 (n := 0) (r := 26) hz_X12_nearest_0 rfl
theorem dX12_nearest_27 : decode cX12_nearest 27 = .ok (.iconst 0, 1) := dz_3 (n := 0) (r := 27) hz_X12_nearest_0 rfl
theorem dX12_nearest_28 : decode cX12_nearest 28 = .ok (.istore 4, 2) := dz_54 (n := 0) (r := 28) hz_X12_nearest_0 rfl rfl
theorem dX12_nearest_30 : decode cX12_nearest 30 = .ok (.iload 4, 2) := dz_21 (n := 0) (r := 30) hz_X12_nearest_0 rfl rfl
theorem hz_X12_nearest_32 : (cX12_nearest.data.toList.drop 32).take 40 = [42, 182, 1, 14, 162, 0, 51, 42, 180, 0, 57, 21, 4, 46, 42, 180, 0, 63, 3, 46, 159, 0, 6, 167, 0, 26, 29, 155, 0, 19, 21, 4, 27, 130, 184, 1, 36, 29, 27, 130] := by decide +kernel
theorem dX12_nearest_32 : decode cX12_nearest 32 = .ok (.aload_n 0, 1) := dz_42 (n := 32) (r := 0) hz_X12_nearest_32 rfl
theorem dX12_nearest_33 : decode cX12_nearest 33 = .ok (.invokevirtual 270, 3) := dz_182 (n := 32) (r := 1) hz_X12_nearest_32 rfl rfl
theorem dX12_nearest_36 : decode cX12_nearest 36 = .ok (.if_icmp .ge 51, 3) := dz_162 (n := 32) (r := 4) hz_X12_nearest_32 rfl (by decide +kernel)
theorem dX12_nearest_39 : decode cX12_nearest 39 = .ok (.aload_n 0, 1) := dz_42 (n := 32) (r := 7) hz_X12_nearest_32 rfl
theorem dX12_nearest_40 : decode cX12_nearest 40 = .ok (.getfield 57, 3) := dz_180 (n := 32) (r := 8) hz_X12_nearest_32 rfl rfl
theorem dX12_nearest_43 : decode cX12_nearest 43 = .ok (.iload 4, 2) := dz_21 (n := 32) (r := 11) hz_X12_nearest_32 rfl rfl
theorem dX12_nearest_45 : decode cX12_nearest 45 = .ok (.iaload, 1) := dz_46 (n := 32) (r := 13) hz_X12_nearest_32 rfl
theorem dX12_nearest_46 : decode cX12_nearest 46 = .ok (.aload_n 0, 1) := dz_42 (n := 32) (r := 14) hz_X12_nearest_32 rfl
theorem dX12_nearest_47 : decode cX12_nearest 47 = .ok (.getfield 63, 3) := dz_180 (n := 32) (r := 15) hz_X12_nearest_32 rfl rfl
theorem dX12_nearest_50 : decode cX12_nearest 50 = .ok (.iconst 0, 1) := dz_3 (n := 32) (r := 18) hz_X12_nearest_32 rfl
theorem dX12_nearest_51 : decode cX12_nearest 51 = .ok (.iaload, 1) := dz_46 (n := 32) (r := 19) hz_X12_nearest_32 rfl
theorem dX12_nearest_52 : decode cX12_nearest 52 = .ok (.if_icmp .eq 6, 3) := dz_159 (n := 32) (r := 20) hz_X12_nearest_32 rfl (by decide +kernel)
theorem dX12_nearest_55 : decode cX12_nearest 55 = .ok (.goto 26, 3) := dz_167 (n := 32) (r := 23) hz_X12_nearest_32 rfl (by decide +kernel)
theorem dX12_nearest_58 : decode cX12_nearest 58 = .ok (.iload_n 3, 1) := dz_29 (n := 32) (r := 26) hz_X12_nearest_32 rfl
theorem dX12_nearest_59 : decode cX12_nearest 59 = .ok (.ifCond .lt 19, 3) := dz_155 (n := 32) (r := 27) hz_X12_nearest_32 rfl (by decide +kernel)
theorem dX12_nearest_62 : decode cX12_nearest 62 = .ok (.iload 4, 2) := dz_21 (n := 32) (r := 30) hz_X12_nearest_32 rfl rfl
theorem hz_X12_nearest_64 : (cX12_nearest.data.toList.drop 64).take 40 = [27, 130, 184, 1, 36, 29, 27, 130, 184, 1, 36, 162, 0, 6, 21, 4, 62, 132, 4, 1, 167, 255, 202, 28, 154, 0, 7, 29, 167, 0, 9, 29, 27, 130, 184, 1, 36, 172] := by decide +kernel
theorem dX12_nearest_64 : decode cX12_nearest 64 = .ok (.iload_n 1, 1) := dz_27 (n := 64) (r := 0) hz_X12_nearest_64 rfl
theorem dX12_nearest_65 : decode cX12_nearest 65 = .ok (.ixor, 1) := dz_130 (n := 64) (r := 1) hz_X12_nearest_64 rfl
theorem dX12_nearest_66 : decode cX12_nearest 66 = .ok (.invokestatic 292, 3) := dz_184 (n := 64) (r := 2) hz_X12_nearest_64 rfl rfl
theorem dX12_nearest_69 : decode cX12_nearest 69 = .ok (.iload_n 3, 1) := dz_29 (n := 64) (r := 5) hz_X12_nearest_64 rfl
theorem dX12_nearest_70 : decode cX12_nearest 70 = .ok (.iload_n 1, 1) := dz_27 (n := 64) (r := 6) hz_X12_nearest_64 rfl
theorem dX12_nearest_71 : decode cX12_nearest 71 = .ok (.ixor, 1) := dz_130 (n := 64) (r := 7) hz_X12_nearest_64 rfl
theorem dX12_nearest_72 : decode cX12_nearest 72 = .ok (.invokestatic 292, 3) := dz_184 (n := 64) (r := 8) hz_X12_nearest_64 rfl rfl
theorem dX12_nearest_75 : decode cX12_nearest 75 = .ok (.if_icmp .ge 6, 3) := dz_162 (n := 64) (r := 11) hz_X12_nearest_64 rfl (by decide +kernel)
theorem dX12_nearest_78 : decode cX12_nearest 78 = .ok (.iload 4, 2) := dz_21 (n := 64) (r := 14) hz_X12_nearest_64 rfl rfl
theorem dX12_nearest_80 : decode cX12_nearest 80 = .ok (.istore_n 3, 1) := dz_62 (n := 64) (r := 16) hz_X12_nearest_64 rfl
theorem dX12_nearest_81 : decode cX12_nearest 81 = .ok (.iinc 4 1, 3) := dz_132 (n := 64) (r := 17) hz_X12_nearest_64 rfl rfl rfl
theorem dX12_nearest_84 : decode cX12_nearest 84 = .ok (.goto (-54), 3) := dz_167 (n := 64) (r := 20) hz_X12_nearest_64 rfl (by decide +kernel)
theorem dX12_nearest_87 : decode cX12_nearest 87 = .ok (.iload_n 2, 1) := dz_28 (n := 64) (r := 23) hz_X12_nearest_64 rfl
theorem dX12_nearest_88 : decode cX12_nearest 88 = .ok (.ifCond .ne 7, 3) := dz_154 (n := 64) (r := 24) hz_X12_nearest_64 rfl (by decide +kernel)
theorem dX12_nearest_91 : decode cX12_nearest 91 = .ok (.iload_n 3, 1) := dz_29 (n := 64) (r := 27) hz_X12_nearest_64 rfl
theorem dX12_nearest_92 : decode cX12_nearest 92 = .ok (.goto 9, 3) := dz_167 (n := 64) (r := 28) hz_X12_nearest_64 rfl (by decide +kernel)
theorem dX12_nearest_95 : decode cX12_nearest 95 = .ok (.iload_n 3, 1) := dz_29 (n := 64) (r := 31) hz_X12_nearest_64 rfl
theorem hz_X12_nearest_96 : (cX12_nearest.data.toList.drop 96).take 40 = [27, 130, 184, 1, 36, 172] := by decide +kernel
theorem dX12_nearest_96 : decode cX12_nearest 96 = .ok (.iload_n 1, 1) := dz_27 (n := 96) (r := 0) hz_X12_nearest_96 rfl
theorem dX12_nearest_97 : decode cX12_nearest 97 = .ok (.ixor, 1) := dz_130 (n := 96) (r := 1) hz_X12_nearest_96 rfl
theorem dX12_nearest_98 : decode cX12_nearest 98 = .ok (.invokestatic 292, 3) := dz_184 (n := 96) (r := 2) hz_X12_nearest_96 rfl rfl
theorem dX12_nearest_101 : decode cX12_nearest 101 = .ok (.ireturn, 1) := dz_172 (n := 96) (r := 5) hz_X12_nearest_96 rfl
theorem hz_X12_stiff_0 : (cX12_stiff.data.toList.drop 0).take 40 = [42, 27, 182, 0, 233, 153, 0, 16, 42, 28, 182, 0, 233, 153, 0, 8, 27, 28, 160, 0, 7, 19, 1, 32, 172, 42, 182, 1, 5, 19, 1, 28, 62, 19, 1, 28, 54, 4, 3, 54] := by decide +kernel
theorem dX12_stiff_0 : decode cX12_stiff 0 = .ok (.aload_n 0, 1) := dz_42 (n := 0) (r := 0) hz_X12_stiff_0 rfl
theorem dX12_stiff_1 : decode cX12_stiff 1 = .ok (.iload_n 1, 1) := dz_27 (n := 0) (r := 1) hz_X12_stiff_0 rfl
theorem dX12_stiff_2 : decode cX12_stiff 2 = .ok (.invokevirtual 233, 3) := dz_182 (n := 0) (r := 2) hz_X12_stiff_0 rfl rfl
theorem dX12_stiff_5 : decode cX12_stiff 5 = .ok (.ifCond .eq 16, 3) := dz_153 (n := 0) (r := 5) hz_X12_stiff_0 rfl (by decide +kernel)
theorem dX12_stiff_8 : decode cX12_stiff 8 = .ok (.aload_n 0, 1) := dz_42 (n := 0) (r := 8) hz_X12_stiff_0 rfl
theorem dX12_stiff_9 : decode cX12_stiff 9 = .ok (.iload_n 2, 1) := dz_28 (n := 0) (r := 9) hz_X12_stiff_0 rfl
theorem dX12_stiff_10 : decode cX12_stiff 10 = .ok (.invokevirtual 233, 3) := dz_182 (n := 0) (r := 10) hz_X12_stiff_0 rfl rfl
theorem dX12_stiff_13 : decode cX12_stiff 13 = .ok (.ifCond .eq 8, 3) := dz_153 (n := 0) (r := 13) hz_X12_stiff_0 rfl (by decide +kernel)
theorem dX12_stiff_16 : decode cX12_stiff 16 = .ok (.iload_n 1, 1) := dz_27 (n := 0) (r := 16) hz_X12_stiff_0 rfl
theorem dX12_stiff_17 : decode cX12_stiff 17 = .ok (.iload_n 2, 1) := dz_28 (n := 0) (r := 17) hz_X12_stiff_0 rfl
theorem dX12_stiff_18 : decode cX12_stiff 18 = .ok (.if_icmp .ne 7, 3) := dz_160 (n := 0) (r := 18) hz_X12_stiff_0 rfl (by decide +kernel)
theorem dX12_stiff_21 : decode cX12_stiff 21 = .ok (.ldc_w 288, 3) := dz_19 (n := 0) (r := 21) hz_X12_stiff_0 rfl rfl
theorem dX12_stiff_24 : decode cX12_stiff 24 = .ok (.ireturn, 1) := dz_172 (n := 0) (r := 24) hz_X12_stiff_0 rfl
theorem dX12_stiff_25 : decode cX12_stiff 25 = .ok (.aload_n 0, 1) := dz_42 (n := 0) (r := 25) hz_X12_stiff_0 rfl
theorem dX12_stiff_26 : decode cX12_stiff 26 = .ok (.invokevirtual 261, 3) := dz_182 (n := 0) (r := 26) hz_X12_stiff_0 rfl rfl
theorem dX12_stiff_29 : decode cX12_stiff 29 = .ok (.ldc_w 284, 3) := dz_19 (n := 0) (r := 29) hz_X12_stiff_0 rfl rfl
theorem hz_X12_stiff_32 : (cX12_stiff.data.toList.drop 32).take 40 = [62, 19, 1, 28, 54, 4, 3, 54, 5, 21, 5, 42, 182, 1, 14, 162, 0, 67, 21, 5, 27, 184, 1, 45, 21, 5, 28, 184, 1, 45, 160, 0, 25, 42, 180, 0, 57, 21, 5, 46] := by decide +kernel
theorem dX12_stiff_32 : decode cX12_stiff 32 = .ok (.istore_n 3, 1) := dz_62 (n := 32) (r := 0) hz_X12_stiff_32 rfl
theorem dX12_stiff_33 : decode cX12_stiff 33 = .ok (.ldc_w 284, 3) := dz_19 (n := 32) (r := 1) hz_X12_stiff_32 rfl rfl
theorem dX12_stiff_36 : decode cX12_stiff 36 = .ok (.istore 4, 2) := dz_54 (n := 32) (r := 4) hz_X12_stiff_32 rfl rfl
theorem dX12_stiff_38 : decode cX12_stiff 38 = .ok (.iconst 0, 1) := dz_3 (n := 32) (r := 6) hz_X12_stiff_32 rfl
theorem dX12_stiff_39 : decode cX12_stiff 39 = .ok (.istore 5, 2) := dz_54 (n := 32) (r := 7) hz_X12_stiff_32 rfl rfl
theorem dX12_stiff_41 : decode cX12_stiff 41 = .ok (.iload 5, 2) := dz_21 (n := 32) (r := 9) hz_X12_stiff_32 rfl rfl
theorem dX12_stiff_43 : decode cX12_stiff 43 = .ok (.aload_n 0, 1) := dz_42 (n := 32) (r := 11) hz_X12_stiff_32 rfl
theorem dX12_stiff_44 : decode cX12_stiff 44 = .ok (.invokevirtual 270, 3) := dz_182 (n := 32) (r := 12) hz_X12_stiff_32 rfl rfl
theorem dX12_stiff_47 : decode cX12_stiff 47 = .ok (.if_icmp .ge 67, 3) := dz_162 (n := 32) (r := 15) hz_X12_stiff_32 rfl (by decide +kernel)
theorem dX12_stiff_50 : decode cX12_stiff 50 = .ok (.iload 5, 2) := dz_21 (n := 32) (r := 18) hz_X12_stiff_32 rfl rfl
theorem dX12_stiff_52 : decode cX12_stiff 52 = .ok (.iload_n 1, 1) := dz_27 (n := 32) (r := 20) hz_X12_stiff_32 rfl
theorem dX12_stiff_53 : decode cX12_stiff 53 = .ok (.invokestatic 301, 3) := dz_184 (n := 32) (r := 21) hz_X12_stiff_32 rfl rfl
theorem dX12_stiff_56 : decode cX12_stiff 56 = .ok (.iload 5, 2) := dz_21 (n := 32) (r := 24) hz_X12_stiff_32 rfl rfl
theorem dX12_stiff_58 : decode cX12_stiff 58 = .ok (.iload_n 2, 1) := dz_28 (n := 32) (r := 26) hz_X12_stiff_32 rfl
theorem dX12_stiff_59 : decode cX12_stiff 59 = .ok (.invokestatic 301, 3) := dz_184 (n := 32) (r := 27) hz_X12_stiff_32 rfl rfl
theorem dX12_stiff_62 : decode cX12_stiff 62 = .ok (.if_icmp .ne 25, 3) := dz_160 (n := 32) (r := 30) hz_X12_stiff_32 rfl (by decide +kernel)
theorem hz_X12_stiff_64 : (cX12_stiff.data.toList.drop 64).take 40 = [25, 42, 180, 0, 57, 21, 5, 46, 29, 162, 0, 35, 42, 180, 0, 57, 21, 5, 46, 62, 167, 0, 24, 42, 180, 0, 57, 21, 5, 46, 21, 4, 162, 0, 12, 42, 180, 0, 57, 21] := by decide +kernel
theorem dX12_stiff_65 : decode cX12_stiff 65 = .ok (.aload_n 0, 1) := dz_42 (n := 64) (r := 1) hz_X12_stiff_64 rfl
theorem dX12_stiff_66 : decode cX12_stiff 66 = .ok (.getfield 57, 3) := dz_180 (n := 64) (r := 2) hz_X12_stiff_64 rfl rfl
theorem dX12_stiff_69 : decode cX12_stiff 69 = .ok (.iload 5, 2) := dz_21 (n := 64) (r := 5) hz_X12_stiff_64 rfl rfl
theorem dX12_stiff_71 : decode cX12_stiff 71 = .ok (.iaload, 1) := dz_46 (n := 64) (r := 7) hz_X12_stiff_64 rfl
theorem dX12_stiff_72 : decode cX12_stiff 72 = .ok (.iload_n 3, 1) := dz_29 (n := 64) (r := 8) hz_X12_stiff_64 rfl
theorem dX12_stiff_73 : decode cX12_stiff 73 = .ok (.if_icmp .ge 35, 3) := dz_162 (n := 64) (r := 9) hz_X12_stiff_64 rfl (by decide +kernel)
theorem dX12_stiff_76 : decode cX12_stiff 76 = .ok (.aload_n 0, 1) := dz_42 (n := 64) (r := 12) hz_X12_stiff_64 rfl
theorem dX12_stiff_77 : decode cX12_stiff 77 = .ok (.getfield 57, 3) := dz_180 (n := 64) (r := 13) hz_X12_stiff_64 rfl rfl
theorem dX12_stiff_80 : decode cX12_stiff 80 = .ok (.iload 5, 2) := dz_21 (n := 64) (r := 16) hz_X12_stiff_64 rfl rfl
theorem dX12_stiff_82 : decode cX12_stiff 82 = .ok (.iaload, 1) := dz_46 (n := 64) (r := 18) hz_X12_stiff_64 rfl
theorem dX12_stiff_83 : decode cX12_stiff 83 = .ok (.istore_n 3, 1) := dz_62 (n := 64) (r := 19) hz_X12_stiff_64 rfl
theorem dX12_stiff_84 : decode cX12_stiff 84 = .ok (.goto 24, 3) := dz_167 (n := 64) (r := 20) hz_X12_stiff_64 rfl (by decide +kernel)
theorem dX12_stiff_87 : decode cX12_stiff 87 = .ok (.aload_n 0, 1) := dz_42 (n := 64) (r := 23) hz_X12_stiff_64 rfl
theorem dX12_stiff_88 : decode cX12_stiff 88 = .ok (.getfield 57, 3) := dz_180 (n := 64) (r := 24) hz_X12_stiff_64 rfl rfl
theorem dX12_stiff_91 : decode cX12_stiff 91 = .ok (.iload 5, 2) := dz_21 (n := 64) (r := 27) hz_X12_stiff_64 rfl rfl
theorem dX12_stiff_93 : decode cX12_stiff 93 = .ok (.iaload, 1) := dz_46 (n := 64) (r := 29) hz_X12_stiff_64 rfl
theorem dX12_stiff_94 : decode cX12_stiff 94 = .ok (.iload 4, 2) := dz_21 (n := 64) (r := 30) hz_X12_stiff_64 rfl rfl
theorem hz_X12_stiff_96 : (cX12_stiff.data.toList.drop 96).take 40 = [162, 0, 12, 42, 180, 0, 57, 21, 5, 46, 54, 4, 132, 5, 1, 167, 255, 186, 29, 19, 1, 28, 159, 0, 11, 21, 4, 19, 1, 28, 160, 0, 9, 19, 1, 32, 167, 0, 7, 21] := by decide +kernel
theorem dX12_stiff_96 : decode cX12_stiff 96 = .ok (.if_icmp .ge 12, 3) := dz_162 (n := 96) (r := 0) hz_X12_stiff_96 rfl (by decide +kernel)
theorem dX12_stiff_99 : decode cX12_stiff 99 = .ok (.aload_n 0, 1) := dz_42 (n := 96) (r := 3) hz_X12_stiff_96 rfl
theorem dX12_stiff_100 : decode cX12_stiff 100 = .ok (.getfield 57, 3) := dz_180 (n := 96) (r := 4) hz_X12_stiff_96 rfl rfl
theorem dX12_stiff_103 : decode cX12_stiff 103 = .ok (.iload 5, 2) := dz_21 (n := 96) (r := 7) hz_X12_stiff_96 rfl rfl
theorem dX12_stiff_105 : decode cX12_stiff 105 = .ok (.iaload, 1) := dz_46 (n := 96) (r := 9) hz_X12_stiff_96 rfl
theorem dX12_stiff_106 : decode cX12_stiff 106 = .ok (.istore 4, 2) := dz_54 (n := 96) (r := 10) hz_X12_stiff_96 rfl rfl
theorem dX12_stiff_108 : decode cX12_stiff 108 = .ok (.iinc 5 1, 3) := dz_132 (n := 96) (r := 12) hz_X12_stiff_96 rfl rfl rfl
theorem dX12_stiff_111 : decode cX12_stiff 111 = .ok (.goto (-70), 3) := dz_167 (n := 96) (r := 15) hz_X12_stiff_96 rfl (by decide +kernel)
theorem dX12_stiff_114 : decode cX12_stiff 114 = .ok (.iload_n 3, 1) := dz_29 (n := 96) (r := 18) hz_X12_stiff_96 rfl
theorem dX12_stiff_115 : decode cX12_stiff 115 = .ok (.ldc_w 284, 3) := dz_19 (n := 96) (r := 19) hz_X12_stiff_96 rfl rfl
theorem dX12_stiff_118 : decode cX12_stiff 118 = .ok (.if_icmp .eq 11, 3) := dz_159 (n := 96) (r := 22) hz_X12_stiff_96 rfl (by decide +kernel)
theorem dX12_stiff_121 : decode cX12_stiff 121 = .ok (.iload 4, 2) := dz_21 (n := 96) (r := 25) hz_X12_stiff_96 rfl rfl
theorem dX12_stiff_123 : decode cX12_stiff 123 = .ok (.ldc_w 284, 3) := dz_19 (n := 96) (r := 27) hz_X12_stiff_96 rfl rfl
theorem dX12_stiff_126 : decode cX12_stiff 126 = .ok (.if_icmp .ne 9, 3) := dz_160 (n := 96) (r := 30) hz_X12_stiff_96 rfl (by decide +kernel)
theorem hz_X12_stiff_128 : (cX12_stiff.data.toList.drop 128).take 40 = [9, 19, 1, 32, 167, 0, 7, 21, 4, 29, 100, 172] := by decide +kernel
theorem dX12_stiff_129 : decode cX12_stiff 129 = .ok (.ldc_w 288, 3) := dz_19 (n := 128) (r := 1) hz_X12_stiff_128 rfl rfl
theorem dX12_stiff_132 : decode cX12_stiff 132 = .ok (.goto 7, 3) := dz_167 (n := 128) (r := 4) hz_X12_stiff_128 rfl (by decide +kernel)
theorem dX12_stiff_135 : decode cX12_stiff 135 = .ok (.iload 4, 2) := dz_21 (n := 128) (r := 7) hz_X12_stiff_128 rfl rfl
theorem dX12_stiff_137 : decode cX12_stiff 137 = .ok (.iload_n 3, 1) := dz_29 (n := 128) (r := 9) hz_X12_stiff_128 rfl
theorem dX12_stiff_138 : decode cX12_stiff 138 = .ok (.isub, 1) := dz_100 (n := 128) (r := 10) hz_X12_stiff_128 rfl
theorem dX12_stiff_139 : decode cX12_stiff 139 = .ok (.ireturn, 1) := dz_172 (n := 128) (r := 11) hz_X12_stiff_128 rfl
theorem hz_X12_overlap_0 : (cX12_overlap.data.toList.drop 0).take 40 = [42, 182, 1, 5, 42, 180, 1, 29, 154, 0, 5, 3, 172, 42, 180, 0, 60, 17, 0, 150, 42, 180, 0, 63, 3, 46, 96, 46, 17, 1, 0, 164, 0, 6, 16, 254, 172, 3, 61, 3] := by decide +kernel
theorem dX12_overlap_0 : decode cX12_overlap 0 = .ok (.aload_n 0, 1) := dz_42 (n := 0) (r := 0) hz_X12_overlap_0 rfl
theorem dX12_overlap_1 : decode cX12_overlap 1 = .ok (.invokevirtual 261, 3) := dz_182 (n := 0) (r := 1) hz_X12_overlap_0 rfl rfl
theorem dX12_overlap_4 : decode cX12_overlap 4 = .ok (.aload_n 0, 1) := dz_42 (n := 0) (r := 4) hz_X12_overlap_0 rfl
theorem dX12_overlap_5 : decode cX12_overlap 5 = .ok (.getfield 285, 3) := dz_180 (n := 0) (r := 5) hz_X12_overlap_0 rfl rfl
theorem dX12_overlap_8 : decode cX12_overlap 8 = .ok (.ifCond .ne 5, 3) := dz_154 (n := 0) (r := 8) hz_X12_overlap_0 rfl (by decide +kernel)
theorem dX12_overlap_11 : decode cX12_overlap 11 = .ok (.iconst 0, 1) := dz_3 (n := 0) (r := 11) hz_X12_overlap_0 rfl
theorem dX12_overlap_12 : decode cX12_overlap 12 = .ok (.ireturn, 1) := dz_172 (n := 0) (r := 12) hz_X12_overlap_0 rfl
theorem dX12_overlap_13 : decode cX12_overlap 13 = .ok (.aload_n 0, 1) := dz_42 (n := 0) (r := 13) hz_X12_overlap_0 rfl
theorem dX12_overlap_14 : decode cX12_overlap 14 = .ok (.getfield 60, 3) := dz_180 (n := 0) (r := 14) hz_X12_overlap_0 rfl rfl
theorem dX12_overlap_17 : decode cX12_overlap 17 = .ok (.sipush 150, 3) := dz_17 (n := 0) (r := 17) hz_X12_overlap_0 rfl (by decide +kernel)
theorem dX12_overlap_20 : decode cX12_overlap 20 = .ok (.aload_n 0, 1) := dz_42 (n := 0) (r := 20) hz_X12_overlap_0 rfl
theorem dX12_overlap_21 : decode cX12_overlap 21 = .ok (.getfield 63, 3) := dz_180 (n := 0) (r := 21) hz_X12_overlap_0 rfl rfl
theorem dX12_overlap_24 : decode cX12_overlap 24 = .ok (.iconst 0, 1) := dz_3 (n := 0) (r := 24) hz_X12_overlap_0 rfl
theorem dX12_overlap_25 : decode cX12_overlap 25 = .ok (.iaload, 1) := dz_46 (n := 0) (r := 25) hz_X12_overlap_0 rfl
theorem dX12_overlap_26 : decode cX12_overlap 26 = .ok (.iadd, 1) := dz_96 (n := 0) (r := 26) hz_X12_overlap_0 rfl
theorem dX12_overlap_27 : decode cX12_overlap 27 = .ok (.iaload, 1) := dz_46 (n := 0) (r := 27) hz_X12_overlap_0 rfl
theorem dX12_overlap_28 : decode cX12_overlap 28 = .ok (.sipush 256, 3) := dz_17 (n := 0) (r := 28) hz_X12_overlap_0 rfl (by decide +kernel)
theorem dX12_overlap_31 : decode cX12_overlap 31 = .ok (.if_icmp .le 6, 3) := dz_164 (n := 0) (r := 31) hz_X12_overlap_0 rfl (by decide +kernel)
theorem hz_X12_overlap_32 : (cX12_overlap.data.toList.drop 32).take 40 = [0, 6, 16, 254, 172, 3, 61, 3, 62, 3, 54, 4, 21, 4, 42, 182, 1, 14, 162, 0, 74, 42, 180, 0, 57, 21, 4, 46, 42, 180, 0, 63, 3, 46, 159, 0, 6, 167, 0, 49] := by decide +kernel
theorem dX12_overlap_34 : decode cX12_overlap 34 = .ok (.bipush (-2), 2) := dz_16 (n := 32) (r := 2) hz_X12_overlap_32 rfl rfl
theorem dX12_overlap_36 : decode cX12_overlap 36 = .ok (.ireturn, 1) := dz_172 (n := 32) (r := 4) hz_X12_overlap_32 rfl
theorem dX12_overlap_37 : decode cX12_overlap 37 = .ok (.iconst 0, 1) := dz_3 (n := 32) (r := 5) hz_X12_overlap_32 rfl
theorem dX12_overlap_38 : decode cX12_overlap 38 = .ok (.istore_n 2, 1) := dz_61 (n := 32) (r := 6) hz_X12_overlap_32 rfl
theorem dX12_overlap_39 : decode cX12_overlap 39 = .ok (.iconst 0, 1) := dz_3 (n := 32) (r := 7) hz_X12_overlap_32 rfl
theorem dX12_overlap_40 : decode cX12_overlap 40 = .ok (.istore_n 3, 1) := dz_62 (n := 32) (r := 8) hz_X12_overlap_32 rfl
theorem dX12_overlap_41 : decode cX12_overlap 41 = .ok (.iconst 0, 1) := dz_3 (n := 32) (r := 9) hz_X12_overlap_32 rfl
theorem dX12_overlap_42 : decode cX12_overlap 42 = .ok (.istore 4, 2) := dz_54 (n := 32) (r := 10) hz_X12_overlap_32 rfl rfl
theorem dX12_overlap_44 : decode cX12_overlap 44 = .ok (.iload 4, 2) := dz_21 (n := 32) (r := 12) hz_X12_overlap_32 rfl rfl
theorem dX12_overlap_46 : decode cX12_overlap 46 = .ok (.aload_n 0, 1) := dz_42 (n := 32) (r := 14) hz_X12_overlap_32 rfl
theorem dX12_overlap_47 : decode cX12_overlap 47 = .ok (.invokevirtual 270, 3) := dz_182 (n := 32) (r := 15) hz_X12_overlap_32 rfl rfl
theorem dX12_overlap_50 : decode cX12_overlap 50 = .ok (.if_icmp .ge 74, 3) := dz_162 (n := 32) (r := 18) hz_X12_overlap_32 rfl (by decide +kernel)
theorem dX12_overlap_53 : decode cX12_overlap 53 = .ok (.aload_n 0, 1) := dz_42 (n := 32) (r := 21) hz_X12_overlap_32 rfl
theorem dX12_overlap_54 : decode cX12_overlap 54 = .ok (.getfield 57, 3) := dz_180 (n := 32) (r := 22) hz_X12_overlap_32 rfl rfl
theorem dX12_overlap_57 : decode cX12_overlap 57 = .ok (.iload 4, 2) := dz_21 (n := 32) (r := 25) hz_X12_overlap_32 rfl rfl
theorem dX12_overlap_59 : decode cX12_overlap 59 = .ok (.iaload, 1) := dz_46 (n := 32) (r := 27) hz_X12_overlap_32 rfl
theorem dX12_overlap_60 : decode cX12_overlap 60 = .ok (.aload_n 0, 1) := dz_42 (n := 32) (r := 28) hz_X12_overlap_32 rfl
theorem dX12_overlap_61 : decode cX12_overlap 61 = .ok (.getfield 63, 3) := dz_180 (n := 32) (r := 29) hz_X12_overlap_32 rfl rfl
theorem hz_X12_overlap_64 : (cX12_overlap.data.toList.drop 64).take 40 = [3, 46, 159, 0, 6, 167, 0, 49, 3, 54, 5, 21, 5, 28, 162, 0, 29, 21, 4, 42, 180, 0, 87, 21, 5, 46, 130, 184, 1, 36, 27, 160, 0, 6, 132, 3, 1, 132, 5, 1] := by decide +kernel
theorem dX12_overlap_64 : decode cX12_overlap 64 = .ok (.iconst 0, 1) := dz_3 (n := 64) (r := 0) hz_X12_overlap_64 rfl
theorem dX12_overlap_65 : decode cX12_overlap 65 = .ok (.iaload, 1) := dz_46 (n := 64) (r := 1) hz_X12_overlap_64 rfl
theorem dX12_overlap_66 : decode cX12_overlap 66 = .ok (.if_icmp .eq 6, 3) := dz_159 (n := 64) (r := 2) hz_X12_overlap_64 rfl (by decide +kernel)
theorem dX12_overlap_69 : decode cX12_overlap 69 = .ok (.goto 49, 3) := dz_167 (n := 64) (r := 5) hz_X12_overlap_64 rfl (by decide +kernel)
theorem dX12_overlap_72 : decode cX12_overlap 72 = .ok (.iconst 0, 1) := dz_3 (n := 64) (r := 8) hz_X12_overlap_64 rfl
theorem dX12_overlap_73 : decode cX12_overlap 73 = .ok (.istore 5, 2) := dz_54 (n := 64) (r := 9) hz_X12_overlap_64 rfl rfl
theorem dX12_overlap_75 : decode cX12_overlap 75 = .ok (.iload 5, 2) := dz_21 (n := 64) (r := 11) hz_X12_overlap_64 rfl rfl
theorem dX12_overlap_77 : decode cX12_overlap 77 = .ok (.iload_n 2, 1) := dz_28 (n := 64) (r := 13) hz_X12_overlap_64 rfl
theorem dX12_overlap_78 : decode cX12_overlap 78 = .ok (.if_icmp .ge 29, 3) := dz_162 (n := 64) (r := 14) hz_X12_overlap_64 rfl (by decide +kernel)
theorem dX12_overlap_81 : decode cX12_overlap 81 = .ok (.iload 4, 2) := dz_21 (n := 64) (r := 17) hz_X12_overlap_64 rfl rfl
theorem dX12_overlap_83 : decode cX12_overlap 83 = .ok (.aload_n 0, 1) := dz_42 (n := 64) (r := 19) hz_X12_overlap_64 rfl
theorem dX12_overlap_84 : decode cX12_overlap 84 = .ok (.getfield 87, 3) := dz_180 (n := 64) (r := 20) hz_X12_overlap_64 rfl rfl
theorem dX12_overlap_87 : decode cX12_overlap 87 = .ok (.iload 5, 2) := dz_21 (n := 64) (r := 23) hz_X12_overlap_64 rfl rfl
theorem dX12_overlap_89 : decode cX12_overlap 89 = .ok (.iaload, 1) := dz_46 (n := 64) (r := 25) hz_X12_overlap_64 rfl
theorem dX12_overlap_90 : decode cX12_overlap 90 = .ok (.ixor, 1) := dz_130 (n := 64) (r := 26) hz_X12_overlap_64 rfl
theorem dX12_overlap_91 : decode cX12_overlap 91 = .ok (.invokestatic 292, 3) := dz_184 (n := 64) (r := 27) hz_X12_overlap_64 rfl rfl
theorem dX12_overlap_94 : decode cX12_overlap 94 = .ok (.iload_n 1, 1) := dz_27 (n := 64) (r := 30) hz_X12_overlap_64 rfl
theorem dX12_overlap_95 : decode cX12_overlap 95 = .ok (.if_icmp .ne 6, 3) := dz_160 (n := 64) (r := 31) hz_X12_overlap_64 rfl (by decide +kernel)
theorem hz_X12_overlap_96 : (cX12_overlap.data.toList.drop 96).take 40 = [0, 6, 132, 3, 1, 132, 5, 1, 167, 255, 227, 42, 180, 0, 87, 28, 21, 4, 79, 132, 2, 1, 132, 4, 1, 167, 255, 179, 29, 172] := by decide +kernel
theorem dX12_overlap_98 : decode cX12_overlap 98 = .ok (.iinc 3 1, 3) := dz_132 (n := 96) (r := 2) hz_X12_overlap_96 rfl rfl rfl
theorem dX12_overlap_101 : decode cX12_overlap 101 = .ok (.iinc 5 1, 3) := dz_132 (n := 96) (r := 5) hz_X12_overlap_96 rfl rfl rfl
theorem dX12_overlap_104 : decode cX12_overlap 104 = .ok (.goto (-29), 3) := dz_167 (n := 96) (r := 8) hz_X12_overlap_96 rfl (by decide +kernel)
theorem dX12_overlap_107 : decode cX12_overlap 107 = .ok (.aload_n 0, 1) := dz_42 (n := 96) (r := 11) hz_X12_overlap_96 rfl
theorem dX12_overlap_108 : decode cX12_overlap 108 = .ok (.getfield 87, 3) := dz_180 (n := 96) (r := 12) hz_X12_overlap_96 rfl rfl
theorem dX12_overlap_111 : decode cX12_overlap 111 = .ok (.iload_n 2, 1) := dz_28 (n := 96) (r := 15) hz_X12_overlap_96 rfl
theorem dX12_overlap_112 : decode cX12_overlap 112 = .ok (.iload 4, 2) := dz_21 (n := 96) (r := 16) hz_X12_overlap_96 rfl rfl
theorem dX12_overlap_114 : decode cX12_overlap 114 = .ok (.iastore, 1) := dz_79 (n := 96) (r := 18) hz_X12_overlap_96 rfl
theorem dX12_overlap_115 : decode cX12_overlap 115 = .ok (.iinc 2 1, 3) := dz_132 (n := 96) (r := 19) hz_X12_overlap_96 rfl rfl rfl
theorem dX12_overlap_118 : decode cX12_overlap 118 = .ok (.iinc 4 1, 3) := dz_132 (n := 96) (r := 22) hz_X12_overlap_96 rfl rfl rfl
theorem dX12_overlap_121 : decode cX12_overlap 121 = .ok (.goto (-77), 3) := dz_167 (n := 96) (r := 25) hz_X12_overlap_96 rfl (by decide +kernel)
theorem dX12_overlap_124 : decode cX12_overlap 124 = .ok (.iload_n 3, 1) := dz_29 (n := 96) (r := 28) hz_X12_overlap_96 rfl
theorem dX12_overlap_125 : decode cX12_overlap 125 = .ok (.ireturn, 1) := dz_172 (n := 96) (r := 29) hz_X12_overlap_96 rfl
theorem hz_X12_rows_0 : (cX12_rows.data.toList.drop 0).take 40 = [27, 3, 42, 180, 0, 177, 4, 100, 184, 0, 213, 153, 0, 19, 28, 3, 4, 42, 180, 0, 171, 120, 4, 100, 184, 0, 213, 154, 0, 5, 2, 172, 3, 54, 4, 42, 180, 0, 171, 27] := by decide +kernel
theorem dX12_rows_0 : decode cX12_rows 0 = .ok (.iload_n 1, 1) := dz_27 (n := 0) (r := 0) hz_X12_rows_0 rfl
theorem dX12_rows_1 : decode cX12_rows 1 = .ok (.iconst 0, 1) := dz_3 (n := 0) (r := 1) hz_X12_rows_0 rfl
theorem dX12_rows_2 : decode cX12_rows 2 = .ok (.aload_n 0, 1) := dz_42 (n := 0) (r := 2) hz_X12_rows_0 rfl
theorem dX12_rows_3 : decode cX12_rows 3 = .ok (.getfield 177, 3) := dz_180 (n := 0) (r := 3) hz_X12_rows_0 rfl rfl
theorem dX12_rows_6 : decode cX12_rows 6 = .ok (.iconst 1, 1) := dz_4 (n := 0) (r := 6) hz_X12_rows_0 rfl
theorem dX12_rows_7 : decode cX12_rows 7 = .ok (.isub, 1) := dz_100 (n := 0) (r := 7) hz_X12_rows_0 rfl
theorem dX12_rows_8 : decode cX12_rows 8 = .ok (.invokestatic 213, 3) := dz_184 (n := 0) (r := 8) hz_X12_rows_0 rfl rfl
theorem dX12_rows_11 : decode cX12_rows 11 = .ok (.ifCond .eq 19, 3) := dz_153 (n := 0) (r := 11) hz_X12_rows_0 rfl (by decide +kernel)
theorem dX12_rows_14 : decode cX12_rows 14 = .ok (.iload_n 2, 1) := dz_28 (n := 0) (r := 14) hz_X12_rows_0 rfl
theorem dX12_rows_15 : decode cX12_rows 15 = .ok (.iconst 0, 1) := dz_3 (n := 0) (r := 15) hz_X12_rows_0 rfl
theorem dX12_rows_16 : decode cX12_rows 16 = .ok (.iconst 1, 1) := dz_4 (n := 0) (r := 16) hz_X12_rows_0 rfl
theorem dX12_rows_17 : decode cX12_rows 17 = .ok (.aload_n 0, 1) := dz_42 (n := 0) (r := 17) hz_X12_rows_0 rfl
theorem dX12_rows_18 : decode cX12_rows 18 = .ok (.getfield 171, 3) := dz_180 (n := 0) (r := 18) hz_X12_rows_0 rfl rfl
theorem dX12_rows_21 : decode cX12_rows 21 = .ok (.ishl, 1) := dz_120 (n := 0) (r := 21) hz_X12_rows_0 rfl
theorem dX12_rows_22 : decode cX12_rows 22 = .ok (.iconst 1, 1) := dz_4 (n := 0) (r := 22) hz_X12_rows_0 rfl
theorem dX12_rows_23 : decode cX12_rows 23 = .ok (.isub, 1) := dz_100 (n := 0) (r := 23) hz_X12_rows_0 rfl
theorem dX12_rows_24 : decode cX12_rows 24 = .ok (.invokestatic 213, 3) := dz_184 (n := 0) (r := 24) hz_X12_rows_0 rfl rfl
theorem dX12_rows_27 : decode cX12_rows 27 = .ok (.ifCond .ne 5, 3) := dz_154 (n := 0) (r := 27) hz_X12_rows_0 rfl (by decide +kernel)
theorem dX12_rows_30 : decode cX12_rows 30 = .ok (.iconst (-1), 1) := dz_2 (n := 0) (r := 30) hz_X12_rows_0 rfl
theorem dX12_rows_31 : decode cX12_rows 31 = .ok (.ireturn, 1) := dz_172 (n := 0) (r := 31) hz_X12_rows_0 rfl
theorem hz_X12_rows_32 : (cX12_rows.data.toList.drop 32).take 40 = [3, 54, 4, 42, 180, 0, 171, 27, 104, 54, 5, 3, 54, 6, 21, 6, 4, 21, 5, 120, 162, 0, 57, 21, 6, 28, 21, 5, 120, 128, 54, 7, 42, 180, 0, 40, 21, 7, 21, 5] := by decide +kernel
theorem dX12_rows_32 : decode cX12_rows 32 = .ok (.iconst 0, 1) := dz_3 (n := 32) (r := 0) hz_X12_rows_32 rfl
theorem dX12_rows_33 : decode cX12_rows 33 = .ok (.istore 4, 2) := dz_54 (n := 32) (r := 1) hz_X12_rows_32 rfl rfl
theorem dX12_rows_35 : decode cX12_rows 35 = .ok (.aload_n 0, 1) := dz_42 (n := 32) (r := 3) hz_X12_rows_32 rfl
theorem dX12_rows_36 : decode cX12_rows 36 = .ok (.getfield 171, 3) := dz_180 (n := 32) (r := 4) hz_X12_rows_32 rfl rfl
theorem dX12_rows_39 : decode cX12_rows 39 = .ok (.iload_n 1, 1) := dz_27 (n := 32) (r := 7) hz_X12_rows_32 rfl
theorem dX12_rows_40 : decode cX12_rows 40 = .ok (.imul, 1) := dz_104 (n := 32) (r := 8) hz_X12_rows_32 rfl
theorem dX12_rows_41 : decode cX12_rows 41 = .ok (.istore 5, 2) := dz_54 (n := 32) (r := 9) hz_X12_rows_32 rfl rfl
theorem dX12_rows_43 : decode cX12_rows 43 = .ok (.iconst 0, 1) := dz_3 (n := 32) (r := 11) hz_X12_rows_32 rfl
theorem dX12_rows_44 : decode cX12_rows 44 = .ok (.istore 6, 2) := dz_54 (n := 32) (r := 12) hz_X12_rows_32 rfl rfl
theorem dX12_rows_46 : decode cX12_rows 46 = .ok (.iload 6, 2) := dz_21 (n := 32) (r := 14) hz_X12_rows_32 rfl rfl
theorem dX12_rows_48 : decode cX12_rows 48 = .ok (.iconst 1, 1) := dz_4 (n := 32) (r := 16) hz_X12_rows_32 rfl
theorem dX12_rows_49 : decode cX12_rows 49 = .ok (.iload 5, 2) := dz_21 (n := 32) (r := 17) hz_X12_rows_32 rfl rfl
theorem dX12_rows_51 : decode cX12_rows 51 = .ok (.ishl, 1) := dz_120 (n := 32) (r := 19) hz_X12_rows_32 rfl
theorem dX12_rows_52 : decode cX12_rows 52 = .ok (.if_icmp .ge 57, 3) := dz_162 (n := 32) (r := 20) hz_X12_rows_32 rfl (by decide +kernel)
theorem dX12_rows_55 : decode cX12_rows 55 = .ok (.iload 6, 2) := dz_21 (n := 32) (r := 23) hz_X12_rows_32 rfl rfl
theorem dX12_rows_57 : decode cX12_rows 57 = .ok (.iload_n 2, 1) := dz_28 (n := 32) (r := 25) hz_X12_rows_32 rfl
theorem dX12_rows_58 : decode cX12_rows 58 = .ok (.iload 5, 2) := dz_21 (n := 32) (r := 26) hz_X12_rows_32 rfl rfl
theorem dX12_rows_60 : decode cX12_rows 60 = .ok (.ishl, 1) := dz_120 (n := 32) (r := 28) hz_X12_rows_32 rfl
theorem dX12_rows_61 : decode cX12_rows 61 = .ok (.ior, 1) := dz_128 (n := 32) (r := 29) hz_X12_rows_32 rfl
theorem dX12_rows_62 : decode cX12_rows 62 = .ok (.istore 7, 2) := dz_54 (n := 32) (r := 30) hz_X12_rows_32 rfl rfl
theorem hz_X12_rows_64 : (cX12_rows.data.toList.drop 64).take 40 = [42, 180, 0, 40, 21, 7, 21, 5, 42, 180, 0, 171, 96, 184, 1, 17, 153, 0, 23, 42, 42, 180, 0, 40, 21, 7, 27, 4, 96, 182, 1, 21, 29, 160, 0, 6, 132, 4, 1, 132] := by decide +kernel
theorem dX12_rows_64 : decode cX12_rows 64 = .ok (.aload_n 0, 1) := dz_42 (n := 64) (r := 0) hz_X12_rows_64 rfl
theorem dX12_rows_65 : decode cX12_rows 65 = .ok (.getfield 40, 3) := dz_180 (n := 64) (r := 1) hz_X12_rows_64 rfl rfl
theorem dX12_rows_68 : decode cX12_rows 68 = .ok (.iload 7, 2) := dz_21 (n := 64) (r := 4) hz_X12_rows_64 rfl rfl
theorem dX12_rows_70 : decode cX12_rows 70 = .ok (.iload 5, 2) := dz_21 (n := 64) (r := 6) hz_X12_rows_64 rfl rfl
theorem dX12_rows_72 : decode cX12_rows 72 = .ok (.aload_n 0, 1) := dz_42 (n := 64) (r := 8) hz_X12_rows_64 rfl
theorem dX12_rows_73 : decode cX12_rows 73 = .ok (.getfield 171, 3) := dz_180 (n := 64) (r := 9) hz_X12_rows_64 rfl rfl
theorem dX12_rows_76 : decode cX12_rows 76 = .ok (.iadd, 1) := dz_96 (n := 64) (r := 12) hz_X12_rows_64 rfl
theorem dX12_rows_77 : decode cX12_rows 77 = .ok (.invokestatic 273, 3) := dz_184 (n := 64) (r := 13) hz_X12_rows_64 rfl rfl
theorem dX12_rows_80 : decode cX12_rows 80 = .ok (.ifCond .eq 23, 3) := dz_153 (n := 64) (r := 16) hz_X12_rows_64 rfl (by decide +kernel)
theorem dX12_rows_83 : decode cX12_rows 83 = .ok (.aload_n 0, 1) := dz_42 (n := 64) (r := 19) hz_X12_rows_64 rfl
theorem dX12_rows_84 : decode cX12_rows 84 = .ok (.aload_n 0, 1) := dz_42 (n := 64) (r := 20) hz_X12_rows_64 rfl
theorem dX12_rows_85 : decode cX12_rows 85 = .ok (.getfield 40, 3) := dz_180 (n := 64) (r := 21) hz_X12_rows_64 rfl rfl
theorem dX12_rows_88 : decode cX12_rows 88 = .ok (.iload 7, 2) := dz_21 (n := 64) (r := 24) hz_X12_rows_64 rfl rfl
theorem dX12_rows_90 : decode cX12_rows 90 = .ok (.iload_n 1, 1) := dz_27 (n := 64) (r := 26) hz_X12_rows_64 rfl
theorem dX12_rows_91 : decode cX12_rows 91 = .ok (.iconst 1, 1) := dz_4 (n := 64) (r := 27) hz_X12_rows_64 rfl
theorem dX12_rows_92 : decode cX12_rows 92 = .ok (.iadd, 1) := dz_96 (n := 64) (r := 28) hz_X12_rows_64 rfl
theorem dX12_rows_93 : decode cX12_rows 93 = .ok (.invokevirtual 277, 3) := dz_182 (n := 64) (r := 29) hz_X12_rows_64 rfl rfl
theorem hz_X12_rows_96 : (cX12_rows.data.toList.drop 96).take 40 = [29, 160, 0, 6, 132, 4, 1, 132, 6, 1, 167, 255, 196, 21, 4, 172] := by decide +kernel
theorem dX12_rows_96 : decode cX12_rows 96 = .ok (.iload_n 3, 1) := dz_29 (n := 96) (r := 0) hz_X12_rows_96 rfl
theorem dX12_rows_97 : decode cX12_rows 97 = .ok (.if_icmp .ne 6, 3) := dz_160 (n := 96) (r := 1) hz_X12_rows_96 rfl (by decide +kernel)
theorem dX12_rows_100 : decode cX12_rows 100 = .ok (.iinc 4 1, 3) := dz_132 (n := 96) (r := 4) hz_X12_rows_96 rfl rfl rfl
theorem dX12_rows_103 : decode cX12_rows 103 = .ok (.iinc 6 1, 3) := dz_132 (n := 96) (r := 7) hz_X12_rows_96 rfl rfl rfl
theorem dX12_rows_106 : decode cX12_rows 106 = .ok (.goto (-60), 3) := dz_167 (n := 96) (r := 10) hz_X12_rows_96 rfl (by decide +kernel)
theorem dX12_rows_109 : decode cX12_rows 109 = .ok (.iload 4, 2) := dz_21 (n := 96) (r := 13) hz_X12_rows_96 rfl rfl
theorem dX12_rows_111 : decode cX12_rows 111 = .ok (.ireturn, 1) := dz_172 (n := 96) (r := 15) hz_X12_rows_96 rfl
theorem hz_X12_oddOf_0 : (cX12_oddOf.data.toList.drop 0).take 40 = [42, 27, 3, 182, 0, 236, 61, 42, 27, 4, 182, 0, 236, 62, 28, 155, 0, 7, 29, 156, 0, 6, 16, 254, 172, 42, 180, 0, 40, 3, 27, 96, 46, 42, 180, 0, 40, 16, 16, 27] := by decide +kernel
theorem dX12_oddOf_0 : decode cX12_oddOf 0 = .ok (.aload_n 0, 1) := dz_42 (n := 0) (r := 0) hz_X12_oddOf_0 rfl
theorem dX12_oddOf_1 : decode cX12_oddOf 1 = .ok (.iload_n 1, 1) := dz_27 (n := 0) (r := 1) hz_X12_oddOf_0 rfl
theorem dX12_oddOf_2 : decode cX12_oddOf 2 = .ok (.iconst 0, 1) := dz_3 (n := 0) (r := 2) hz_X12_oddOf_0 rfl
theorem dX12_oddOf_3 : decode cX12_oddOf 3 = .ok (.invokevirtual 236, 3) := dz_182 (n := 0) (r := 3) hz_X12_oddOf_0 rfl rfl
theorem dX12_oddOf_6 : decode cX12_oddOf 6 = .ok (.istore_n 2, 1) := dz_61 (n := 0) (r := 6) hz_X12_oddOf_0 rfl
theorem dX12_oddOf_7 : decode cX12_oddOf 7 = .ok (.aload_n 0, 1) := dz_42 (n := 0) (r := 7) hz_X12_oddOf_0 rfl
theorem dX12_oddOf_8 : decode cX12_oddOf 8 = .ok (.iload_n 1, 1) := dz_27 (n := 0) (r := 8) hz_X12_oddOf_0 rfl
theorem dX12_oddOf_9 : decode cX12_oddOf 9 = .ok (.iconst 1, 1) := dz_4 (n := 0) (r := 9) hz_X12_oddOf_0 rfl
theorem dX12_oddOf_10 : decode cX12_oddOf 10 = .ok (.invokevirtual 236, 3) := dz_182 (n := 0) (r := 10) hz_X12_oddOf_0 rfl rfl
theorem dX12_oddOf_13 : decode cX12_oddOf 13 = .ok (.istore_n 3, 1) := dz_62 (n := 0) (r := 13) hz_X12_oddOf_0 rfl
theorem dX12_oddOf_14 : decode cX12_oddOf 14 = .ok (.iload_n 2, 1) := dz_28 (n := 0) (r := 14) hz_X12_oddOf_0 rfl
theorem dX12_oddOf_15 : decode cX12_oddOf 15 = .ok (.ifCond .lt 7, 3) := dz_155 (n := 0) (r := 15) hz_X12_oddOf_0 rfl (by decide +kernel)
theorem dX12_oddOf_18 : decode cX12_oddOf 18 = .ok (.iload_n 3, 1) := dz_29 (n := 0) (r := 18) hz_X12_oddOf_0 rfl
theorem dX12_oddOf_19 : decode cX12_oddOf 19 = .ok (.ifCond .ge 6, 3) := dz_156 (n := 0) (r := 19) hz_X12_oddOf_0 rfl (by decide +kernel)
theorem dX12_oddOf_22 : decode cX12_oddOf 22 = .ok (.bipush (-2), 2) := dz_16 (n := 0) (r := 22) hz_X12_oddOf_0 rfl rfl
theorem dX12_oddOf_24 : decode cX12_oddOf 24 = .ok (.ireturn, 1) := dz_172 (n := 0) (r := 24) hz_X12_oddOf_0 rfl
theorem dX12_oddOf_25 : decode cX12_oddOf 25 = .ok (.aload_n 0, 1) := dz_42 (n := 0) (r := 25) hz_X12_oddOf_0 rfl
theorem dX12_oddOf_26 : decode cX12_oddOf 26 = .ok (.getfield 40, 3) := dz_180 (n := 0) (r := 26) hz_X12_oddOf_0 rfl rfl
theorem dX12_oddOf_29 : decode cX12_oddOf 29 = .ok (.iconst 0, 1) := dz_3 (n := 0) (r := 29) hz_X12_oddOf_0 rfl
theorem dX12_oddOf_30 : decode cX12_oddOf 30 = .ok (.iload_n 1, 1) := dz_27 (n := 0) (r := 30) hz_X12_oddOf_0 rfl
theorem dX12_oddOf_31 : decode cX12_oddOf 31 = .ok (.iadd, 1) := dz_96 (n := 0) (r := 31) hz_X12_oddOf_0 rfl
theorem hz_X12_oddOf_32 : (cX12_oddOf.data.toList.drop 32).take 40 = [46, 42, 180, 0, 40, 16, 16, 27, 96, 46, 104, 42, 180, 0, 40, 16, 16, 28, 96, 46, 104, 42, 180, 0, 40, 3, 29, 96, 46, 104, 54, 4, 21, 4, 156, 0, 7, 4, 167, 0] := by decide +kernel
theorem dX12_oddOf_32 : decode cX12_oddOf 32 = .ok (.iaload, 1) := dz_46 (n := 32) (r := 0) hz_X12_oddOf_32 rfl
theorem dX12_oddOf_33 : decode cX12_oddOf 33 = .ok (.aload_n 0, 1) := dz_42 (n := 32) (r := 1) hz_X12_oddOf_32 rfl
theorem dX12_oddOf_34 : decode cX12_oddOf 34 = .ok (.getfield 40, 3) := dz_180 (n := 32) (r := 2) hz_X12_oddOf_32 rfl rfl
theorem dX12_oddOf_37 : decode cX12_oddOf 37 = .ok (.bipush 16, 2) := dz_16 (n := 32) (r := 5) hz_X12_oddOf_32 rfl rfl
theorem dX12_oddOf_39 : decode cX12_oddOf 39 = .ok (.iload_n 1, 1) := dz_27 (n := 32) (r := 7) hz_X12_oddOf_32 rfl
theorem dX12_oddOf_40 : decode cX12_oddOf 40 = .ok (.iadd, 1) := dz_96 (n := 32) (r := 8) hz_X12_oddOf_32 rfl
theorem dX12_oddOf_41 : decode cX12_oddOf 41 = .ok (.iaload, 1) := dz_46 (n := 32) (r := 9) hz_X12_oddOf_32 rfl
theorem dX12_oddOf_42 : decode cX12_oddOf 42 = .ok (.imul, 1) := dz_104 (n := 32) (r := 10) hz_X12_oddOf_32 rfl
theorem dX12_oddOf_43 : decode cX12_oddOf 43 = .ok (.aload_n 0, 1) := dz_42 (n := 32) (r := 11) hz_X12_oddOf_32 rfl
theorem dX12_oddOf_44 : decode cX12_oddOf 44 = .ok (.getfield 40, 3) := dz_180 (n := 32) (r := 12) hz_X12_oddOf_32 rfl rfl
theorem dX12_oddOf_47 : decode cX12_oddOf 47 = .ok (.bipush 16, 2) := dz_16 (n := 32) (r := 15) hz_X12_oddOf_32 rfl rfl
theorem dX12_oddOf_49 : decode cX12_oddOf 49 = .ok (.iload_n 2, 1) := dz_28 (n := 32) (r := 17) hz_X12_oddOf_32 rfl
theorem dX12_oddOf_50 : decode cX12_oddOf 50 = .ok (.iadd, 1) := dz_96 (n := 32) (r := 18) hz_X12_oddOf_32 rfl
theorem dX12_oddOf_51 : decode cX12_oddOf 51 = .ok (.iaload, 1) := dz_46 (n := 32) (r := 19) hz_X12_oddOf_32 rfl
theorem dX12_oddOf_52 : decode cX12_oddOf 52 = .ok (.imul, 1) := dz_104 (n := 32) (r := 20) hz_X12_oddOf_32 rfl
theorem dX12_oddOf_53 : decode cX12_oddOf 53 = .ok (.aload_n 0, 1) := dz_42 (n := 32) (r := 21) hz_X12_oddOf_32 rfl
theorem dX12_oddOf_54 : decode cX12_oddOf 54 = .ok (.getfield 40, 3) := dz_180 (n := 32) (r := 22) hz_X12_oddOf_32 rfl rfl
theorem dX12_oddOf_57 : decode cX12_oddOf 57 = .ok (.iconst 0, 1) := dz_3 (n := 32) (r := 25) hz_X12_oddOf_32 rfl
theorem dX12_oddOf_58 : decode cX12_oddOf 58 = .ok (.iload_n 3, 1) := dz_29 (n := 32) (r := 26) hz_X12_oddOf_32 rfl
theorem dX12_oddOf_59 : decode cX12_oddOf 59 = .ok (.iadd, 1) := dz_96 (n := 32) (r := 27) hz_X12_oddOf_32 rfl
theorem dX12_oddOf_60 : decode cX12_oddOf 60 = .ok (.iaload, 1) := dz_46 (n := 32) (r := 28) hz_X12_oddOf_32 rfl
theorem dX12_oddOf_61 : decode cX12_oddOf 61 = .ok (.imul, 1) := dz_104 (n := 32) (r := 29) hz_X12_oddOf_32 rfl
theorem dX12_oddOf_62 : decode cX12_oddOf 62 = .ok (.istore 4, 2) := dz_54 (n := 32) (r := 30) hz_X12_oddOf_32 rfl rfl
theorem hz_X12_oddOf_64 : (cX12_oddOf.data.toList.drop 64).take 40 = [21, 4, 156, 0, 7, 4, 167, 0, 4, 3, 172] := by decide +kernel
theorem dX12_oddOf_64 : decode cX12_oddOf 64 = .ok (.iload 4, 2) := dz_21 (n := 64) (r := 0) hz_X12_oddOf_64 rfl rfl
theorem dX12_oddOf_66 : decode cX12_oddOf 66 = .ok (.ifCond .ge 7, 3) := dz_156 (n := 64) (r := 2) hz_X12_oddOf_64 rfl (by decide +kernel)
theorem dX12_oddOf_69 : decode cX12_oddOf 69 = .ok (.iconst 1, 1) := dz_4 (n := 64) (r := 5) hz_X12_oddOf_64 rfl
theorem dX12_oddOf_70 : decode cX12_oddOf 70 = .ok (.goto 4, 3) := dz_167 (n := 64) (r := 6) hz_X12_oddOf_64 rfl (by decide +kernel)
theorem dX12_oddOf_73 : decode cX12_oddOf 73 = .ok (.iconst 0, 1) := dz_3 (n := 64) (r := 9) hz_X12_oddOf_64 rfl
theorem dX12_oddOf_74 : decode cX12_oddOf 74 = .ok (.ireturn, 1) := dz_172 (n := 64) (r := 10) hz_X12_oddOf_64 rfl
theorem hz_X12_square_0 : (cX12_square.data.toList.drop 0).take 40 = [42, 27, 182, 0, 233, 153, 0, 11, 42, 27, 182, 1, 74, 167, 0, 4, 2, 172] := by decide +kernel
theorem dX12_square_0 : decode cX12_square 0 = .ok (.aload_n 0, 1) := dz_42 (n := 0) (r := 0) hz_X12_square_0 rfl
theorem dX12_square_1 : decode cX12_square 1 = .ok (.iload_n 1, 1) := dz_27 (n := 0) (r := 1) hz_X12_square_0 rfl
theorem dX12_square_2 : decode cX12_square 2 = .ok (.invokevirtual 233, 3) := dz_182 (n := 0) (r := 2) hz_X12_square_0 rfl rfl
theorem dX12_square_5 : decode cX12_square 5 = .ok (.ifCond .eq 11, 3) := dz_153 (n := 0) (r := 5) hz_X12_square_0 rfl (by decide +kernel)
theorem dX12_square_8 : decode cX12_square 8 = .ok (.aload_n 0, 1) := dz_42 (n := 0) (r := 8) hz_X12_square_0 rfl
theorem dX12_square_9 : decode cX12_square 9 = .ok (.iload_n 1, 1) := dz_27 (n := 0) (r := 9) hz_X12_square_0 rfl
theorem dX12_square_10 : decode cX12_square 10 = .ok (.invokevirtual 330, 3) := dz_182 (n := 0) (r := 10) hz_X12_square_0 rfl rfl
theorem dX12_square_13 : decode cX12_square 13 = .ok (.goto 4, 3) := dz_167 (n := 0) (r := 13) hz_X12_square_0 rfl (by decide +kernel)
theorem dX12_square_16 : decode cX12_square 16 = .ok (.iconst (-1), 1) := dz_2 (n := 0) (r := 16) hz_X12_square_0 rfl
theorem dX12_square_17 : decode cX12_square 17 = .ok (.ireturn, 1) := dz_172 (n := 0) (r := 17) hz_X12_square_0 rfl
theorem hz_X12_clusterOf_0 : (cX12_clusterOf.data.toList.drop 0).take 40 = [4, 27, 120, 61, 3, 62, 28, 29, 159, 0, 120, 28, 62, 3, 54, 4, 21, 4, 5, 42, 182, 0, 193, 104, 162, 0, 101, 21, 4, 5, 108, 54, 5, 42, 21, 5, 21, 4, 5, 112] := by decide +kernel
theorem dX12_clusterOf_0 : decode cX12_clusterOf 0 = .ok (.iconst 1, 1) := dz_4 (n := 0) (r := 0) hz_X12_clusterOf_0 rfl
theorem dX12_clusterOf_1 : decode cX12_clusterOf 1 = .ok (.iload_n 1, 1) := dz_27 (n := 0) (r := 1) hz_X12_clusterOf_0 rfl
theorem dX12_clusterOf_2 : decode cX12_clusterOf 2 = .ok (.ishl, 1) := dz_120 (n := 0) (r := 2) hz_X12_clusterOf_0 rfl
theorem dX12_clusterOf_3 : decode cX12_clusterOf 3 = .ok (.istore_n 2, 1) := dz_61 (n := 0) (r := 3) hz_X12_clusterOf_0 rfl
theorem dX12_clusterOf_4 : decode cX12_clusterOf 4 = .ok (.iconst 0, 1) := dz_3 (n := 0) (r := 4) hz_X12_clusterOf_0 rfl
theorem dX12_clusterOf_5 : decode cX12_clusterOf 5 = .ok (.istore_n 3, 1) := dz_62 (n := 0) (r := 5) hz_X12_clusterOf_0 rfl
theorem dX12_clusterOf_6 : decode cX12_clusterOf 6 = .ok (.iload_n 2, 1) := dz_28 (n := 0) (r := 6) hz_X12_clusterOf_0 rfl
theorem dX12_clusterOf_7 : decode cX12_clusterOf 7 = .ok (.iload_n 3, 1) := dz_29 (n := 0) (r := 7) hz_X12_clusterOf_0 rfl
theorem dX12_clusterOf_8 : decode cX12_clusterOf 8 = .ok (.if_icmp .eq 120, 3) := dz_159 (n := 0) (r := 8) hz_X12_clusterOf_0 rfl (by decide +kernel)
theorem dX12_clusterOf_11 : decode cX12_clusterOf 11 = .ok (.iload_n 2, 1) := dz_28 (n := 0) (r := 11) hz_X12_clusterOf_0 rfl
theorem dX12_clusterOf_12 : decode cX12_clusterOf 12 = .ok (.istore_n 3, 1) := dz_62 (n := 0) (r := 12) hz_X12_clusterOf_0 rfl
theorem dX12_clusterOf_13 : decode cX12_clusterOf 13 = .ok (.iconst 0, 1) := dz_3 (n := 0) (r := 13) hz_X12_clusterOf_0 rfl
theorem dX12_clusterOf_14 : decode cX12_clusterOf 14 = .ok (.istore 4, 2) := dz_54 (n := 0) (r := 14) hz_X12_clusterOf_0 rfl rfl
theorem dX12_clusterOf_16 : decode cX12_clusterOf 16 = .ok (.iload 4, 2) := dz_21 (n := 0) (r := 16) hz_X12_clusterOf_0 rfl rfl
theorem dX12_clusterOf_18 : decode cX12_clusterOf 18 = .ok (.iconst 2, 1) := dz_5 (n := 0) (r := 18) hz_X12_clusterOf_0 rfl
theorem dX12_clusterOf_19 : decode cX12_clusterOf 19 = .ok (.aload_n 0, 1) := dz_42 (n := 0) (r := 19) hz_X12_clusterOf_0 rfl
theorem dX12_clusterOf_20 : decode cX12_clusterOf 20 = .ok (.invokevirtual 193, 3) := dz_182 (n := 0) (r := 20) hz_X12_clusterOf_0 rfl rfl
theorem dX12_clusterOf_23 : decode cX12_clusterOf 23 = .ok (.imul, 1) := dz_104 (n := 0) (r := 23) hz_X12_clusterOf_0 rfl
theorem dX12_clusterOf_24 : decode cX12_clusterOf 24 = .ok (.if_icmp .ge 101, 3) := dz_162 (n := 0) (r := 24) hz_X12_clusterOf_0 rfl (by decide +kernel)
theorem dX12_clusterOf_27 : decode cX12_clusterOf 27 = .ok (.iload 4, 2) := dz_21 (n := 0) (r := 27) hz_X12_clusterOf_0 rfl rfl
theorem dX12_clusterOf_29 : decode cX12_clusterOf 29 = .ok (.iconst 2, 1) := dz_5 (n := 0) (r := 29) hz_X12_clusterOf_0 rfl
theorem dX12_clusterOf_30 : decode cX12_clusterOf 30 = .ok (.idiv, 1) := dz_108 (n := 0) (r := 30) hz_X12_clusterOf_0 rfl
theorem dX12_clusterOf_31 : decode cX12_clusterOf 31 = .ok (.istore 5, 2) := dz_54 (n := 0) (r := 31) hz_X12_clusterOf_0 rfl rfl
theorem hz_X12_clusterOf_32 : (cX12_clusterOf.data.toList.drop 32).take 40 = [5, 42, 21, 5, 21, 4, 5, 112, 4, 160, 0, 7, 4, 167, 0, 4, 3, 182, 0, 236, 54, 6, 21, 6, 155, 0, 63, 42, 180, 0, 40, 16, 64, 46, 21, 5, 184, 1, 45, 42] := by decide +kernel
theorem dX12_clusterOf_33 : decode cX12_clusterOf 33 = .ok (.aload_n 0, 1) := dz_42 (n := 32) (r := 1) hz_X12_clusterOf_32 rfl
theorem dX12_clusterOf_34 : decode cX12_clusterOf 34 = .ok (.iload 5, 2) := dz_21 (n := 32) (r := 2) hz_X12_clusterOf_32 rfl rfl
theorem dX12_clusterOf_36 : decode cX12_clusterOf 36 = .ok (.iload 4, 2) := dz_21 (n := 32) (r := 4) hz_X12_clusterOf_32 rfl rfl
theorem dX12_clusterOf_38 : decode cX12_clusterOf 38 = .ok (.iconst 2, 1) := dz_5 (n := 32) (r := 6) hz_X12_clusterOf_32 rfl
theorem dX12_clusterOf_39 : decode cX12_clusterOf 39 = .ok (.irem, 1) := dz_112 (n := 32) (r := 7) hz_X12_clusterOf_32 rfl
theorem dX12_clusterOf_40 : decode cX12_clusterOf 40 = .ok (.iconst 1, 1) := dz_4 (n := 32) (r := 8) hz_X12_clusterOf_32 rfl
theorem dX12_clusterOf_41 : decode cX12_clusterOf 41 = .ok (.if_icmp .ne 7, 3) := dz_160 (n := 32) (r := 9) hz_X12_clusterOf_32 rfl (by decide +kernel)
theorem dX12_clusterOf_44 : decode cX12_clusterOf 44 = .ok (.iconst 1, 1) := dz_4 (n := 32) (r := 12) hz_X12_clusterOf_32 rfl
theorem dX12_clusterOf_45 : decode cX12_clusterOf 45 = .ok (.goto 4, 3) := dz_167 (n := 32) (r := 13) hz_X12_clusterOf_32 rfl (by decide +kernel)
theorem dX12_clusterOf_48 : decode cX12_clusterOf 48 = .ok (.iconst 0, 1) := dz_3 (n := 32) (r := 16) hz_X12_clusterOf_32 rfl
theorem dX12_clusterOf_49 : decode cX12_clusterOf 49 = .ok (.invokevirtual 236, 3) := dz_182 (n := 32) (r := 17) hz_X12_clusterOf_32 rfl rfl
theorem dX12_clusterOf_52 : decode cX12_clusterOf 52 = .ok (.istore 6, 2) := dz_54 (n := 32) (r := 20) hz_X12_clusterOf_32 rfl rfl
theorem dX12_clusterOf_54 : decode cX12_clusterOf 54 = .ok (.iload 6, 2) := dz_21 (n := 32) (r := 22) hz_X12_clusterOf_32 rfl rfl
theorem dX12_clusterOf_56 : decode cX12_clusterOf 56 = .ok (.ifCond .lt 63, 3) := dz_155 (n := 32) (r := 24) hz_X12_clusterOf_32 rfl (by decide +kernel)
theorem dX12_clusterOf_59 : decode cX12_clusterOf 59 = .ok (.aload_n 0, 1) := dz_42 (n := 32) (r := 27) hz_X12_clusterOf_32 rfl
theorem dX12_clusterOf_60 : decode cX12_clusterOf 60 = .ok (.getfield 40, 3) := dz_180 (n := 32) (r := 28) hz_X12_clusterOf_32 rfl rfl
theorem dX12_clusterOf_63 : decode cX12_clusterOf 63 = .ok (.bipush 64, 2) := dz_16 (n := 32) (r := 31) hz_X12_clusterOf_32 rfl rfl
theorem hz_X12_clusterOf_64 : (cX12_clusterOf.data.toList.drop 64).take 40 = [64, 46, 21, 5, 184, 1, 45, 42, 180, 0, 40, 16, 64, 46, 21, 6, 184, 1, 45, 159, 0, 6, 167, 0, 33, 28, 21, 5, 184, 1, 45, 154, 0, 12, 28, 21, 6, 184, 1, 45] := by decide +kernel
theorem dX12_clusterOf_65 : decode cX12_clusterOf 65 = .ok (.iaload, 1) := dz_46 (n := 64) (r := 1) hz_X12_clusterOf_64 rfl
theorem dX12_clusterOf_66 : decode cX12_clusterOf 66 = .ok (.iload 5, 2) := dz_21 (n := 64) (r := 2) hz_X12_clusterOf_64 rfl rfl
theorem dX12_clusterOf_68 : decode cX12_clusterOf 68 = .ok (.invokestatic 301, 3) := dz_184 (n := 64) (r := 4) hz_X12_clusterOf_64 rfl rfl
theorem dX12_clusterOf_71 : decode cX12_clusterOf 71 = .ok (.aload_n 0, 1) := dz_42 (n := 64) (r := 7) hz_X12_clusterOf_64 rfl
theorem dX12_clusterOf_72 : decode cX12_clusterOf 72 = .ok (.getfield 40, 3) := dz_180 (n := 64) (r := 8) hz_X12_clusterOf_64 rfl rfl
theorem dX12_clusterOf_75 : decode cX12_clusterOf 75 = .ok (.bipush 64, 2) := dz_16 (n := 64) (r := 11) hz_X12_clusterOf_64 rfl rfl
theorem dX12_clusterOf_77 : decode cX12_clusterOf 77 = .ok (.iaload, 1) := dz_46 (n := 64) (r := 13) hz_X12_clusterOf_64 rfl
theorem dX12_clusterOf_78 : decode cX12_clusterOf 78 = .ok (.iload 6, 2) := dz_21 (n := 64) (r := 14) hz_X12_clusterOf_64 rfl rfl
theorem dX12_clusterOf_80 : decode cX12_clusterOf 80 = .ok (.invokestatic 301, 3) := dz_184 (n := 64) (r := 16) hz_X12_clusterOf_64 rfl rfl
theorem dX12_clusterOf_83 : decode cX12_clusterOf 83 = .ok (.if_icmp .eq 6, 3) := dz_159 (n := 64) (r := 19) hz_X12_clusterOf_64 rfl (by decide +kernel)
theorem dX12_clusterOf_86 : decode cX12_clusterOf 86 = .ok (.goto 33, 3) := dz_167 (n := 64) (r := 22) hz_X12_clusterOf_64 rfl (by decide +kernel)
theorem dX12_clusterOf_89 : decode cX12_clusterOf 89 = .ok (.iload_n 2, 1) := dz_28 (n := 64) (r := 25) hz_X12_clusterOf_64 rfl
theorem dX12_clusterOf_90 : decode cX12_clusterOf 90 = .ok (.iload 5, 2) := dz_21 (n := 64) (r := 26) hz_X12_clusterOf_64 rfl rfl
theorem dX12_clusterOf_92 : decode cX12_clusterOf 92 = .ok (.invokestatic 301, 3) := dz_184 (n := 64) (r := 28) hz_X12_clusterOf_64 rfl rfl
theorem dX12_clusterOf_95 : decode cX12_clusterOf 95 = .ok (.ifCond .ne 12, 3) := dz_154 (n := 64) (r := 31) hz_X12_clusterOf_64 rfl (by decide +kernel)
theorem hz_X12_clusterOf_96 : (cX12_clusterOf.data.toList.drop 96).take 40 = [0, 12, 28, 21, 6, 184, 1, 45, 153, 0, 15, 28, 4, 21, 5, 120, 4, 21, 6, 120, 128, 128, 61, 132, 4, 1, 167, 255, 150, 167, 255, 137, 28, 172] := by decide +kernel
theorem dX12_clusterOf_98 : decode cX12_clusterOf 98 = .ok (.iload_n 2, 1) := dz_28 (n := 96) (r := 2) hz_X12_clusterOf_96 rfl
theorem dX12_clusterOf_99 : decode cX12_clusterOf 99 = .ok (.iload 6, 2) := dz_21 (n := 96) (r := 3) hz_X12_clusterOf_96 rfl rfl
theorem dX12_clusterOf_101 : decode cX12_clusterOf 101 = .ok (.invokestatic 301, 3) := dz_184 (n := 96) (r := 5) hz_X12_clusterOf_96 rfl rfl
theorem dX12_clusterOf_104 : decode cX12_clusterOf 104 = .ok (.ifCond .eq 15, 3) := dz_153 (n := 96) (r := 8) hz_X12_clusterOf_96 rfl (by decide +kernel)
theorem dX12_clusterOf_107 : decode cX12_clusterOf 107 = .ok (.iload_n 2, 1) := dz_28 (n := 96) (r := 11) hz_X12_clusterOf_96 rfl
theorem dX12_clusterOf_108 : decode cX12_clusterOf 108 = .ok (.iconst 1, 1) := dz_4 (n := 96) (r := 12) hz_X12_clusterOf_96 rfl
theorem dX12_clusterOf_109 : decode cX12_clusterOf 109 = .ok (.iload 5, 2) := dz_21 (n := 96) (r := 13) hz_X12_clusterOf_96 rfl rfl
theorem dX12_clusterOf_111 : decode cX12_clusterOf 111 = .ok (.ishl, 1) := dz_120 (n := 96) (r := 15) hz_X12_clusterOf_96 rfl
theorem dX12_clusterOf_112 : decode cX12_clusterOf 112 = .ok (.iconst 1, 1) := dz_4 (n := 96) (r := 16) hz_X12_clusterOf_96 rfl
theorem dX12_clusterOf_113 : decode cX12_clusterOf 113 = .ok (.iload 6, 2) := dz_21 (n := 96) (r := 17) hz_X12_clusterOf_96 rfl rfl
theorem dX12_clusterOf_115 : decode cX12_clusterOf 115 = .ok (.ishl, 1) := dz_120 (n := 96) (r := 19) hz_X12_clusterOf_96 rfl
theorem dX12_clusterOf_116 : decode cX12_clusterOf 116 = .ok (.ior, 1) := dz_128 (n := 96) (r := 20) hz_X12_clusterOf_96 rfl
theorem dX12_clusterOf_117 : decode cX12_clusterOf 117 = .ok (.ior, 1) := dz_128 (n := 96) (r := 21) hz_X12_clusterOf_96 rfl
theorem dX12_clusterOf_118 : decode cX12_clusterOf 118 = .ok (.istore_n 2, 1) := dz_61 (n := 96) (r := 22) hz_X12_clusterOf_96 rfl
theorem dX12_clusterOf_119 : decode cX12_clusterOf 119 = .ok (.iinc 4 1, 3) := dz_132 (n := 96) (r := 23) hz_X12_clusterOf_96 rfl rfl rfl
theorem dX12_clusterOf_122 : decode cX12_clusterOf 122 = .ok (.goto (-106), 3) := dz_167 (n := 96) (r := 26) hz_X12_clusterOf_96 rfl (by decide +kernel)
theorem dX12_clusterOf_125 : decode cX12_clusterOf 125 = .ok (.goto (-119), 3) := dz_167 (n := 96) (r := 29) hz_X12_clusterOf_96 rfl (by decide +kernel)
theorem hz_X12_clusterOf_128 : (cX12_clusterOf.data.toList.drop 128).take 40 = [28, 172] := by decide +kernel
theorem dX12_clusterOf_128 : decode cX12_clusterOf 128 = .ok (.iload_n 2, 1) := dz_28 (n := 128) (r := 0) hz_X12_clusterOf_128 rfl
theorem dX12_clusterOf_129 : decode cX12_clusterOf 129 = .ok (.ireturn, 1) := dz_172 (n := 128) (r := 1) hz_X12_clusterOf_128 rfl
theorem hz_X12_cluster_0 : (cX12_cluster.data.toList.drop 0).take 40 = [42, 27, 182, 0, 233, 153, 0, 11, 42, 27, 182, 1, 77, 167, 0, 4, 2, 172] := by decide +kernel
theorem dX12_cluster_0 : decode cX12_cluster 0 = .ok (.aload_n 0, 1) := dz_42 (n := 0) (r := 0) hz_X12_cluster_0 rfl
theorem dX12_cluster_1 : decode cX12_cluster 1 = .ok (.iload_n 1, 1) := dz_27 (n := 0) (r := 1) hz_X12_cluster_0 rfl
theorem dX12_cluster_2 : decode cX12_cluster 2 = .ok (.invokevirtual 233, 3) := dz_182 (n := 0) (r := 2) hz_X12_cluster_0 rfl rfl
theorem dX12_cluster_5 : decode cX12_cluster 5 = .ok (.ifCond .eq 11, 3) := dz_153 (n := 0) (r := 5) hz_X12_cluster_0 rfl (by decide +kernel)
theorem dX12_cluster_8 : decode cX12_cluster 8 = .ok (.aload_n 0, 1) := dz_42 (n := 0) (r := 8) hz_X12_cluster_0 rfl
theorem dX12_cluster_9 : decode cX12_cluster 9 = .ok (.iload_n 1, 1) := dz_27 (n := 0) (r := 9) hz_X12_cluster_0 rfl
theorem dX12_cluster_10 : decode cX12_cluster 10 = .ok (.invokevirtual 333, 3) := dz_182 (n := 0) (r := 10) hz_X12_cluster_0 rfl rfl
theorem dX12_cluster_13 : decode cX12_cluster 13 = .ok (.goto 4, 3) := dz_167 (n := 0) (r := 13) hz_X12_cluster_0 rfl (by decide +kernel)
theorem dX12_cluster_16 : decode cX12_cluster 16 = .ok (.iconst (-1), 1) := dz_2 (n := 0) (r := 16) hz_X12_cluster_0 rfl
theorem dX12_cluster_17 : decode cX12_cluster 17 = .ok (.ireturn, 1) := dz_172 (n := 0) (r := 17) hz_X12_cluster_0 rfl
theorem hz_X12_wander_0 : (cX12_wander.data.toList.drop 0).take 40 = [42, 182, 0, 193, 153, 0, 33, 27, 3, 17, 0, 200, 184, 0, 213, 153, 0, 22, 28, 3, 16, 100, 184, 0, 213, 153, 0, 12, 29, 3, 5, 184, 0, 213, 154, 0, 7, 19, 1, 32] := by decide +kernel
theorem dX12_wander_0 : decode cX12_wander 0 = .ok (.aload_n 0, 1) := dz_42 (n := 0) (r := 0) hz_X12_wander_0 rfl
theorem dX12_wander_1 : decode cX12_wander 1 = .ok (.invokevirtual 193, 3) := dz_182 (n := 0) (r := 1) hz_X12_wander_0 rfl rfl
theorem dX12_wander_4 : decode cX12_wander 4 = .ok (.ifCond .eq 33, 3) := dz_153 (n := 0) (r := 4) hz_X12_wander_0 rfl (by decide +kernel)
theorem dX12_wander_7 : decode cX12_wander 7 = .ok (.iload_n 1, 1) := dz_27 (n := 0) (r := 7) hz_X12_wander_0 rfl
theorem dX12_wander_8 : decode cX12_wander 8 = .ok (.iconst 0, 1) := dz_3 (n := 0) (r := 8) hz_X12_wander_0 rfl
theorem dX12_wander_9 : decode cX12_wander 9 = .ok (.sipush 200, 3) := dz_17 (n := 0) (r := 9) hz_X12_wander_0 rfl (by decide +kernel)
theorem dX12_wander_12 : decode cX12_wander 12 = .ok (.invokestatic 213, 3) := dz_184 (n := 0) (r := 12) hz_X12_wander_0 rfl rfl
theorem dX12_wander_15 : decode cX12_wander 15 = .ok (.ifCond .eq 22, 3) := dz_153 (n := 0) (r := 15) hz_X12_wander_0 rfl (by decide +kernel)
theorem dX12_wander_18 : decode cX12_wander 18 = .ok (.iload_n 2, 1) := dz_28 (n := 0) (r := 18) hz_X12_wander_0 rfl
theorem dX12_wander_19 : decode cX12_wander 19 = .ok (.iconst 0, 1) := dz_3 (n := 0) (r := 19) hz_X12_wander_0 rfl
theorem dX12_wander_20 : decode cX12_wander 20 = .ok (.bipush 100, 2) := dz_16 (n := 0) (r := 20) hz_X12_wander_0 rfl rfl
theorem dX12_wander_22 : decode cX12_wander 22 = .ok (.invokestatic 213, 3) := dz_184 (n := 0) (r := 22) hz_X12_wander_0 rfl rfl
theorem dX12_wander_25 : decode cX12_wander 25 = .ok (.ifCond .eq 12, 3) := dz_153 (n := 0) (r := 25) hz_X12_wander_0 rfl (by decide +kernel)
theorem dX12_wander_28 : decode cX12_wander 28 = .ok (.iload_n 3, 1) := dz_29 (n := 0) (r := 28) hz_X12_wander_0 rfl
theorem dX12_wander_29 : decode cX12_wander 29 = .ok (.iconst 0, 1) := dz_3 (n := 0) (r := 29) hz_X12_wander_0 rfl
theorem dX12_wander_30 : decode cX12_wander 30 = .ok (.iconst 2, 1) := dz_5 (n := 0) (r := 30) hz_X12_wander_0 rfl
theorem dX12_wander_31 : decode cX12_wander 31 = .ok (.invokestatic 213, 3) := dz_184 (n := 0) (r := 31) hz_X12_wander_0 rfl rfl
theorem hz_X12_wander_32 : (cX12_wander.data.toList.drop 32).take 40 = [0, 213, 154, 0, 7, 19, 1, 32, 172, 42, 182, 1, 5, 42, 180, 0, 40, 16, 65, 46, 133, 55, 4, 42, 180, 0, 40, 16, 64, 46, 54, 6, 42, 180, 0, 57, 21, 6, 46, 54] := by decide +kernel
theorem dX12_wander_34 : decode cX12_wander 34 = .ok (.ifCond .ne 7, 3) := dz_154 (n := 32) (r := 2) hz_X12_wander_32 rfl (by decide +kernel)
theorem dX12_wander_37 : decode cX12_wander 37 = .ok (.ldc_w 288, 3) := dz_19 (n := 32) (r := 5) hz_X12_wander_32 rfl rfl
theorem dX12_wander_40 : decode cX12_wander 40 = .ok (.ireturn, 1) := dz_172 (n := 32) (r := 8) hz_X12_wander_32 rfl
theorem dX12_wander_41 : decode cX12_wander 41 = .ok (.aload_n 0, 1) := dz_42 (n := 32) (r := 9) hz_X12_wander_32 rfl
theorem dX12_wander_42 : decode cX12_wander 42 = .ok (.invokevirtual 261, 3) := dz_182 (n := 32) (r := 10) hz_X12_wander_32 rfl rfl
theorem dX12_wander_45 : decode cX12_wander 45 = .ok (.aload_n 0, 1) := dz_42 (n := 32) (r := 13) hz_X12_wander_32 rfl
theorem dX12_wander_46 : decode cX12_wander 46 = .ok (.getfield 40, 3) := dz_180 (n := 32) (r := 14) hz_X12_wander_32 rfl rfl
theorem dX12_wander_49 : decode cX12_wander 49 = .ok (.bipush 65, 2) := dz_16 (n := 32) (r := 17) hz_X12_wander_32 rfl rfl
theorem dX12_wander_51 : decode cX12_wander 51 = .ok (.iaload, 1) := dz_46 (n := 32) (r := 19) hz_X12_wander_32 rfl
theorem dX12_wander_52 : decode cX12_wander 52 = .ok (.i2l, 1) := dz_133 (n := 32) (r := 20) hz_X12_wander_32 rfl
theorem dX12_wander_53 : decode cX12_wander 53 = .ok (.lstore 4, 2) := dz_55 (n := 32) (r := 21) hz_X12_wander_32 rfl rfl
theorem dX12_wander_55 : decode cX12_wander 55 = .ok (.aload_n 0, 1) := dz_42 (n := 32) (r := 23) hz_X12_wander_32 rfl
theorem dX12_wander_56 : decode cX12_wander 56 = .ok (.getfield 40, 3) := dz_180 (n := 32) (r := 24) hz_X12_wander_32 rfl rfl
theorem dX12_wander_59 : decode cX12_wander 59 = .ok (.bipush 64, 2) := dz_16 (n := 32) (r := 27) hz_X12_wander_32 rfl rfl
theorem dX12_wander_61 : decode cX12_wander 61 = .ok (.iaload, 1) := dz_46 (n := 32) (r := 29) hz_X12_wander_32 rfl
theorem dX12_wander_62 : decode cX12_wander 62 = .ok (.istore 6, 2) := dz_54 (n := 32) (r := 30) hz_X12_wander_32 rfl rfl
theorem hz_X12_wander_64 : (cX12_wander.data.toList.drop 64).take 40 = [42, 180, 0, 57, 21, 6, 46, 54, 7, 3, 54, 8, 3, 54, 9, 21, 9, 27, 162, 0, 118, 22, 4, 184, 0, 253, 55, 4, 22, 4, 20, 1, 1, 109, 42, 182, 0, 193, 133, 113] := by decide +kernel
theorem dX12_wander_64 : decode cX12_wander 64 = .ok (.aload_n 0, 1) := dz_42 (n := 64) (r := 0) hz_X12_wander_64 rfl
theorem dX12_wander_65 : decode cX12_wander 65 = .ok (.getfield 57, 3) := dz_180 (n := 64) (r := 1) hz_X12_wander_64 rfl rfl
theorem dX12_wander_68 : decode cX12_wander 68 = .ok (.iload 6, 2) := dz_21 (n := 64) (r := 4) hz_X12_wander_64 rfl rfl
theorem dX12_wander_70 : decode cX12_wander 70 = .ok (.iaload, 1) := dz_46 (n := 64) (r := 6) hz_X12_wander_64 rfl
theorem dX12_wander_71 : decode cX12_wander 71 = .ok (.istore 7, 2) := dz_54 (n := 64) (r := 7) hz_X12_wander_64 rfl rfl
theorem dX12_wander_73 : decode cX12_wander 73 = .ok (.iconst 0, 1) := dz_3 (n := 64) (r := 9) hz_X12_wander_64 rfl
theorem dX12_wander_74 : decode cX12_wander 74 = .ok (.istore 8, 2) := dz_54 (n := 64) (r := 10) hz_X12_wander_64 rfl rfl
theorem dX12_wander_76 : decode cX12_wander 76 = .ok (.iconst 0, 1) := dz_3 (n := 64) (r := 12) hz_X12_wander_64 rfl
theorem dX12_wander_77 : decode cX12_wander 77 = .ok (.istore 9, 2) := dz_54 (n := 64) (r := 13) hz_X12_wander_64 rfl rfl
theorem dX12_wander_79 : decode cX12_wander 79 = .ok (.iload 9, 2) := dz_21 (n := 64) (r := 15) hz_X12_wander_64 rfl rfl
theorem dX12_wander_81 : decode cX12_wander 81 = .ok (.iload_n 1, 1) := dz_27 (n := 64) (r := 17) hz_X12_wander_64 rfl
theorem dX12_wander_82 : decode cX12_wander 82 = .ok (.if_icmp .ge 118, 3) := dz_162 (n := 64) (r := 18) hz_X12_wander_64 rfl (by decide +kernel)
theorem dX12_wander_85 : decode cX12_wander 85 = .ok (.lload 4, 2) := dz_22 (n := 64) (r := 21) hz_X12_wander_64 rfl rfl
theorem dX12_wander_87 : decode cX12_wander 87 = .ok (.invokestatic 253, 3) := dz_184 (n := 64) (r := 23) hz_X12_wander_64 rfl rfl
theorem dX12_wander_90 : decode cX12_wander 90 = .ok (.lstore 4, 2) := dz_55 (n := 64) (r := 26) hz_X12_wander_64 rfl rfl
theorem dX12_wander_92 : decode cX12_wander 92 = .ok (.lload 4, 2) := dz_22 (n := 64) (r := 28) hz_X12_wander_64 rfl rfl
theorem dX12_wander_94 : decode cX12_wander 94 = .ok (.ldc2_w 257, 3) := dz_20 (n := 64) (r := 30) hz_X12_wander_64 rfl rfl
theorem hz_X12_wander_96 : (cX12_wander.data.toList.drop 96).take 40 = [1, 109, 42, 182, 0, 193, 133, 113, 136, 54, 10, 22, 4, 184, 0, 253, 55, 4, 22, 4, 20, 1, 1, 109, 20, 1, 80, 113, 136, 54, 11, 42, 180, 0, 40, 16, 48, 21, 10, 96] := by decide +kernel
theorem dX12_wander_97 : decode cX12_wander 97 = .ok (.ldiv, 1) := dz_109 (n := 96) (r := 1) hz_X12_wander_96 rfl
theorem dX12_wander_98 : decode cX12_wander 98 = .ok (.aload_n 0, 1) := dz_42 (n := 96) (r := 2) hz_X12_wander_96 rfl
theorem dX12_wander_99 : decode cX12_wander 99 = .ok (.invokevirtual 193, 3) := dz_182 (n := 96) (r := 3) hz_X12_wander_96 rfl rfl
theorem dX12_wander_102 : decode cX12_wander 102 = .ok (.i2l, 1) := dz_133 (n := 96) (r := 6) hz_X12_wander_96 rfl
theorem dX12_wander_103 : decode cX12_wander 103 = .ok (.lrem, 1) := dz_113 (n := 96) (r := 7) hz_X12_wander_96 rfl
theorem dX12_wander_104 : decode cX12_wander 104 = .ok (.l2i, 1) := dz_136 (n := 96) (r := 8) hz_X12_wander_96 rfl
theorem dX12_wander_105 : decode cX12_wander 105 = .ok (.istore 10, 2) := dz_54 (n := 96) (r := 9) hz_X12_wander_96 rfl rfl
theorem dX12_wander_107 : decode cX12_wander 107 = .ok (.lload 4, 2) := dz_22 (n := 96) (r := 11) hz_X12_wander_96 rfl rfl
theorem dX12_wander_109 : decode cX12_wander 109 = .ok (.invokestatic 253, 3) := dz_184 (n := 96) (r := 13) hz_X12_wander_96 rfl rfl
theorem dX12_wander_112 : decode cX12_wander 112 = .ok (.lstore 4, 2) := dz_55 (n := 96) (r := 16) hz_X12_wander_96 rfl rfl
theorem dX12_wander_114 : decode cX12_wander 114 = .ok (.lload 4, 2) := dz_22 (n := 96) (r := 18) hz_X12_wander_96 rfl rfl
theorem dX12_wander_116 : decode cX12_wander 116 = .ok (.ldc2_w 257, 3) := dz_20 (n := 96) (r := 20) hz_X12_wander_96 rfl rfl
theorem dX12_wander_119 : decode cX12_wander 119 = .ok (.ldiv, 1) := dz_109 (n := 96) (r := 23) hz_X12_wander_96 rfl
theorem dX12_wander_120 : decode cX12_wander 120 = .ok (.ldc2_w 336, 3) := dz_20 (n := 96) (r := 24) hz_X12_wander_96 rfl rfl
theorem dX12_wander_123 : decode cX12_wander 123 = .ok (.lrem, 1) := dz_113 (n := 96) (r := 27) hz_X12_wander_96 rfl
theorem dX12_wander_124 : decode cX12_wander 124 = .ok (.l2i, 1) := dz_136 (n := 96) (r := 28) hz_X12_wander_96 rfl
theorem dX12_wander_125 : decode cX12_wander 125 = .ok (.istore 11, 2) := dz_54 (n := 96) (r := 29) hz_X12_wander_96 rfl rfl
theorem dX12_wander_127 : decode cX12_wander 127 = .ok (.aload_n 0, 1) := dz_42 (n := 96) (r := 31) hz_X12_wander_96 rfl
theorem hz_X12_wander_128 : (cX12_wander.data.toList.drop 128).take 40 = [180, 0, 40, 16, 48, 21, 10, 96, 46, 157, 0, 57, 21, 11, 16, 100, 28, 42, 21, 6, 21, 10, 182, 1, 33, 104, 100, 161, 0, 6, 167, 0, 36, 21, 6, 4, 21, 10, 120, 130] := by decide +kernel
theorem dX12_wander_128 : decode cX12_wander 128 = .ok (.getfield 40, 3) := dz_180 (n := 128) (r := 0) hz_X12_wander_128 rfl rfl
theorem dX12_wander_131 : decode cX12_wander 131 = .ok (.bipush 48, 2) := dz_16 (n := 128) (r := 3) hz_X12_wander_128 rfl rfl
theorem dX12_wander_133 : decode cX12_wander 133 = .ok (.iload 10, 2) := dz_21 (n := 128) (r := 5) hz_X12_wander_128 rfl rfl
theorem dX12_wander_135 : decode cX12_wander 135 = .ok (.iadd, 1) := dz_96 (n := 128) (r := 7) hz_X12_wander_128 rfl
theorem dX12_wander_136 : decode cX12_wander 136 = .ok (.iaload, 1) := dz_46 (n := 128) (r := 8) hz_X12_wander_128 rfl
theorem dX12_wander_137 : decode cX12_wander 137 = .ok (.ifCond .gt 57, 3) := dz_157 (n := 128) (r := 9) hz_X12_wander_128 rfl (by decide +kernel)
theorem dX12_wander_140 : decode cX12_wander 140 = .ok (.iload 11, 2) := dz_21 (n := 128) (r := 12) hz_X12_wander_128 rfl rfl
theorem dX12_wander_142 : decode cX12_wander 142 = .ok (.bipush 100, 2) := dz_16 (n := 128) (r := 14) hz_X12_wander_128 rfl rfl
theorem dX12_wander_144 : decode cX12_wander 144 = .ok (.iload_n 2, 1) := dz_28 (n := 128) (r := 16) hz_X12_wander_128 rfl
theorem dX12_wander_145 : decode cX12_wander 145 = .ok (.aload_n 0, 1) := dz_42 (n := 128) (r := 17) hz_X12_wander_128 rfl
theorem dX12_wander_146 : decode cX12_wander 146 = .ok (.iload 6, 2) := dz_21 (n := 128) (r := 18) hz_X12_wander_128 rfl rfl
theorem dX12_wander_148 : decode cX12_wander 148 = .ok (.iload 10, 2) := dz_21 (n := 128) (r := 20) hz_X12_wander_128 rfl rfl
theorem dX12_wander_150 : decode cX12_wander 150 = .ok (.invokevirtual 289, 3) := dz_182 (n := 128) (r := 22) hz_X12_wander_128 rfl rfl
theorem dX12_wander_153 : decode cX12_wander 153 = .ok (.imul, 1) := dz_104 (n := 128) (r := 25) hz_X12_wander_128 rfl
theorem dX12_wander_154 : decode cX12_wander 154 = .ok (.isub, 1) := dz_100 (n := 128) (r := 26) hz_X12_wander_128 rfl
theorem dX12_wander_155 : decode cX12_wander 155 = .ok (.if_icmp .lt 6, 3) := dz_161 (n := 128) (r := 27) hz_X12_wander_128 rfl (by decide +kernel)
theorem dX12_wander_158 : decode cX12_wander 158 = .ok (.goto 36, 3) := dz_167 (n := 128) (r := 30) hz_X12_wander_128 rfl (by decide +kernel)
theorem hz_X12_wander_160 : (cX12_wander.data.toList.drop 160).take 40 = [36, 21, 6, 4, 21, 10, 120, 130, 54, 6, 132, 8, 1, 42, 180, 0, 57, 21, 6, 46, 21, 7, 162, 0, 12, 42, 180, 0, 57, 21, 6, 46, 54, 7, 132, 9, 1, 167, 255, 138] := by decide +kernel
theorem dX12_wander_161 : decode cX12_wander 161 = .ok (.iload 6, 2) := dz_21 (n := 160) (r := 1) hz_X12_wander_160 rfl rfl
theorem dX12_wander_163 : decode cX12_wander 163 = .ok (.iconst 1, 1) := dz_4 (n := 160) (r := 3) hz_X12_wander_160 rfl
theorem dX12_wander_164 : decode cX12_wander 164 = .ok (.iload 10, 2) := dz_21 (n := 160) (r := 4) hz_X12_wander_160 rfl rfl
theorem dX12_wander_166 : decode cX12_wander 166 = .ok (.ishl, 1) := dz_120 (n := 160) (r := 6) hz_X12_wander_160 rfl
theorem dX12_wander_167 : decode cX12_wander 167 = .ok (.ixor, 1) := dz_130 (n := 160) (r := 7) hz_X12_wander_160 rfl
theorem dX12_wander_168 : decode cX12_wander 168 = .ok (.istore 6, 2) := dz_54 (n := 160) (r := 8) hz_X12_wander_160 rfl rfl
theorem dX12_wander_170 : decode cX12_wander 170 = .ok (.iinc 8 1, 3) := dz_132 (n := 160) (r := 10) hz_X12_wander_160 rfl rfl rfl
theorem dX12_wander_173 : decode cX12_wander 173 = .ok (.aload_n 0, 1) := dz_42 (n := 160) (r := 13) hz_X12_wander_160 rfl
theorem dX12_wander_174 : decode cX12_wander 174 = .ok (.getfield 57, 3) := dz_180 (n := 160) (r := 14) hz_X12_wander_160 rfl rfl
theorem dX12_wander_177 : decode cX12_wander 177 = .ok (.iload 6, 2) := dz_21 (n := 160) (r := 17) hz_X12_wander_160 rfl rfl
theorem dX12_wander_179 : decode cX12_wander 179 = .ok (.iaload, 1) := dz_46 (n := 160) (r := 19) hz_X12_wander_160 rfl
theorem dX12_wander_180 : decode cX12_wander 180 = .ok (.iload 7, 2) := dz_21 (n := 160) (r := 20) hz_X12_wander_160 rfl rfl
theorem dX12_wander_182 : decode cX12_wander 182 = .ok (.if_icmp .ge 12, 3) := dz_162 (n := 160) (r := 22) hz_X12_wander_160 rfl (by decide +kernel)
theorem dX12_wander_185 : decode cX12_wander 185 = .ok (.aload_n 0, 1) := dz_42 (n := 160) (r := 25) hz_X12_wander_160 rfl
theorem dX12_wander_186 : decode cX12_wander 186 = .ok (.getfield 57, 3) := dz_180 (n := 160) (r := 26) hz_X12_wander_160 rfl rfl
theorem dX12_wander_189 : decode cX12_wander 189 = .ok (.iload 6, 2) := dz_21 (n := 160) (r := 29) hz_X12_wander_160 rfl rfl
theorem dX12_wander_191 : decode cX12_wander 191 = .ok (.iaload, 1) := dz_46 (n := 160) (r := 31) hz_X12_wander_160 rfl
theorem hz_X12_wander_192 : (cX12_wander.data.toList.drop 192).take 40 = [54, 7, 132, 9, 1, 167, 255, 138, 29, 154, 0, 8, 21, 6, 167, 0, 15, 29, 4, 160, 0, 8, 21, 7, 167, 0, 5, 21, 8, 172] := by decide +kernel
theorem dX12_wander_192 : decode cX12_wander 192 = .ok (.istore 7, 2) := dz_54 (n := 192) (r := 0) hz_X12_wander_192 rfl rfl
theorem dX12_wander_194 : decode cX12_wander 194 = .ok (.iinc 9 1, 3) := dz_132 (n := 192) (r := 2) hz_X12_wander_192 rfl rfl rfl
theorem dX12_wander_197 : decode cX12_wander 197 = .ok (.goto (-118), 3) := dz_167 (n := 192) (r := 5) hz_X12_wander_192 rfl (by decide +kernel)
theorem dX12_wander_200 : decode cX12_wander 200 = .ok (.iload_n 3, 1) := dz_29 (n := 192) (r := 8) hz_X12_wander_192 rfl
theorem dX12_wander_201 : decode cX12_wander 201 = .ok (.ifCond .ne 8, 3) := dz_154 (n := 192) (r := 9) hz_X12_wander_192 rfl (by decide +kernel)
theorem dX12_wander_204 : decode cX12_wander 204 = .ok (.iload 6, 2) := dz_21 (n := 192) (r := 12) hz_X12_wander_192 rfl rfl
theorem dX12_wander_206 : decode cX12_wander 206 = .ok (.goto 15, 3) := dz_167 (n := 192) (r := 14) hz_X12_wander_192 rfl (by decide +kernel)
theorem dX12_wander_209 : decode cX12_wander 209 = .ok (.iload_n 3, 1) := dz_29 (n := 192) (r := 17) hz_X12_wander_192 rfl
theorem dX12_wander_210 : decode cX12_wander 210 = .ok (.iconst 1, 1) := dz_4 (n := 192) (r := 18) hz_X12_wander_192 rfl
theorem dX12_wander_211 : decode cX12_wander 211 = .ok (.if_icmp .ne 8, 3) := dz_160 (n := 192) (r := 19) hz_X12_wander_192 rfl (by decide +kernel)
theorem dX12_wander_214 : decode cX12_wander 214 = .ok (.iload 7, 2) := dz_21 (n := 192) (r := 22) hz_X12_wander_192 rfl rfl
theorem dX12_wander_216 : decode cX12_wander 216 = .ok (.goto 5, 3) := dz_167 (n := 192) (r := 24) hz_X12_wander_192 rfl (by decide +kernel)
theorem dX12_wander_219 : decode cX12_wander 219 = .ok (.iload 8, 2) := dz_21 (n := 192) (r := 27) hz_X12_wander_192 rfl rfl
theorem dX12_wander_221 : decode cX12_wander 221 = .ok (.ireturn, 1) := dz_172 (n := 192) (r := 29) hz_X12_wander_192 rfl
theorem hz_X12_lawfulMany_0 : (cX12_lawfulMany.data.toList.drop 0).take 40 = [3, 60, 3, 61, 28, 42, 182, 1, 14, 162, 0, 20, 42, 28, 182, 1, 25, 153, 0, 6, 132, 1, 1, 132, 2, 1, 167, 255, 234, 27, 172] := by decide +kernel
theorem dX12_lawfulMany_0 : decode cX12_lawfulMany 0 = .ok (.iconst 0, 1) := dz_3 (n := 0) (r := 0) hz_X12_lawfulMany_0 rfl
theorem dX12_lawfulMany_1 : decode cX12_lawfulMany 1 = .ok (.istore_n 1, 1) := dz_60 (n := 0) (r := 1) hz_X12_lawfulMany_0 rfl
theorem dX12_lawfulMany_2 : decode cX12_lawfulMany 2 = .ok (.iconst 0, 1) := dz_3 (n := 0) (r := 2) hz_X12_lawfulMany_0 rfl
theorem dX12_lawfulMany_3 : decode cX12_lawfulMany 3 = .ok (.istore_n 2, 1) := dz_61 (n := 0) (r := 3) hz_X12_lawfulMany_0 rfl
theorem dX12_lawfulMany_4 : decode cX12_lawfulMany 4 = .ok (.iload_n 2, 1) := dz_28 (n := 0) (r := 4) hz_X12_lawfulMany_0 rfl
theorem dX12_lawfulMany_5 : decode cX12_lawfulMany 5 = .ok (.aload_n 0, 1) := dz_42 (n := 0) (r := 5) hz_X12_lawfulMany_0 rfl
theorem dX12_lawfulMany_6 : decode cX12_lawfulMany 6 = .ok (.invokevirtual 270, 3) := dz_182 (n := 0) (r := 6) hz_X12_lawfulMany_0 rfl rfl
theorem dX12_lawfulMany_9 : decode cX12_lawfulMany 9 = .ok (.if_icmp .ge 20, 3) := dz_162 (n := 0) (r := 9) hz_X12_lawfulMany_0 rfl (by decide +kernel)
theorem dX12_lawfulMany_12 : decode cX12_lawfulMany 12 = .ok (.aload_n 0, 1) := dz_42 (n := 0) (r := 12) hz_X12_lawfulMany_0 rfl
theorem dX12_lawfulMany_13 : decode cX12_lawfulMany 13 = .ok (.iload_n 2, 1) := dz_28 (n := 0) (r := 13) hz_X12_lawfulMany_0 rfl
theorem dX12_lawfulMany_14 : decode cX12_lawfulMany 14 = .ok (.invokevirtual 281, 3) := dz_182 (n := 0) (r := 14) hz_X12_lawfulMany_0 rfl rfl
theorem dX12_lawfulMany_17 : decode cX12_lawfulMany 17 = .ok (.ifCond .eq 6, 3) := dz_153 (n := 0) (r := 17) hz_X12_lawfulMany_0 rfl (by decide +kernel)
theorem dX12_lawfulMany_20 : decode cX12_lawfulMany 20 = .ok (.iinc 1 1, 3) := dz_132 (n := 0) (r := 20) hz_X12_lawfulMany_0 rfl rfl rfl
theorem dX12_lawfulMany_23 : decode cX12_lawfulMany 23 = .ok (.iinc 2 1, 3) := dz_132 (n := 0) (r := 23) hz_X12_lawfulMany_0 rfl rfl rfl
theorem dX12_lawfulMany_26 : decode cX12_lawfulMany 26 = .ok (.goto (-22), 3) := dz_167 (n := 0) (r := 26) hz_X12_lawfulMany_0 rfl (by decide +kernel)
theorem dX12_lawfulMany_29 : decode cX12_lawfulMany 29 = .ok (.iload_n 1, 1) := dz_27 (n := 0) (r := 29) hz_X12_lawfulMany_0 rfl
theorem dX12_lawfulMany_30 : decode cX12_lawfulMany 30 = .ok (.ireturn, 1) := dz_172 (n := 0) (r := 30) hz_X12_lawfulMany_0 rfl
theorem hz_X12_pinned_0 : (cX12_pinned.data.toList.drop 0).take 40 = [3, 60, 3, 61, 28, 42, 182, 0, 193, 162, 0, 27, 42, 180, 0, 40, 16, 48, 28, 96, 46, 158, 0, 9, 27, 4, 28, 120, 128, 60, 132, 2, 1, 167, 255, 227, 27, 172] := by decide +kernel
theorem dX12_pinned_0 : decode cX12_pinned 0 = .ok (.iconst 0, 1) := dz_3 (n := 0) (r := 0) hz_X12_pinned_0 rfl
theorem dX12_pinned_1 : decode cX12_pinned 1 = .ok (.istore_n 1, 1) := dz_60 (n := 0) (r := 1) hz_X12_pinned_0 rfl
theorem dX12_pinned_2 : decode cX12_pinned 2 = .ok (.iconst 0, 1) := dz_3 (n := 0) (r := 2) hz_X12_pinned_0 rfl
theorem dX12_pinned_3 : decode cX12_pinned 3 = .ok (.istore_n 2, 1) := dz_61 (n := 0) (r := 3) hz_X12_pinned_0 rfl
theorem dX12_pinned_4 : decode cX12_pinned 4 = .ok (.iload_n 2, 1) := dz_28 (n := 0) (r := 4) hz_X12_pinned_0 rfl
theorem dX12_pinned_5 : decode cX12_pinned 5 = .ok (.aload_n 0, 1) := dz_42 (n := 0) (r := 5) hz_X12_pinned_0 rfl
theorem dX12_pinned_6 : decode cX12_pinned 6 = .ok (.invokevirtual 193, 3) := dz_182 (n := 0) (r := 6) hz_X12_pinned_0 rfl rfl
theorem dX12_pinned_9 : decode cX12_pinned 9 = .ok (.if_icmp .ge 27, 3) := dz_162 (n := 0) (r := 9) hz_X12_pinned_0 rfl (by decide +kernel)
theorem dX12_pinned_12 : decode cX12_pinned 12 = .ok (.aload_n 0, 1) := dz_42 (n := 0) (r := 12) hz_X12_pinned_0 rfl
theorem dX12_pinned_13 : decode cX12_pinned 13 = .ok (.getfield 40, 3) := dz_180 (n := 0) (r := 13) hz_X12_pinned_0 rfl rfl
theorem dX12_pinned_16 : decode cX12_pinned 16 = .ok (.bipush 48, 2) := dz_16 (n := 0) (r := 16) hz_X12_pinned_0 rfl rfl
theorem dX12_pinned_18 : decode cX12_pinned 18 = .ok (.iload_n 2, 1) := dz_28 (n := 0) (r := 18) hz_X12_pinned_0 rfl
theorem dX12_pinned_19 : decode cX12_pinned 19 = .ok (.iadd, 1) := dz_96 (n := 0) (r := 19) hz_X12_pinned_0 rfl
theorem dX12_pinned_20 : decode cX12_pinned 20 = .ok (.iaload, 1) := dz_46 (n := 0) (r := 20) hz_X12_pinned_0 rfl
theorem dX12_pinned_21 : decode cX12_pinned 21 = .ok (.ifCond .le 9, 3) := dz_158 (n := 0) (r := 21) hz_X12_pinned_0 rfl (by decide +kernel)
theorem dX12_pinned_24 : decode cX12_pinned 24 = .ok (.iload_n 1, 1) := dz_27 (n := 0) (r := 24) hz_X12_pinned_0 rfl
theorem dX12_pinned_25 : decode cX12_pinned 25 = .ok (.iconst 1, 1) := dz_4 (n := 0) (r := 25) hz_X12_pinned_0 rfl
theorem dX12_pinned_26 : decode cX12_pinned 26 = .ok (.iload_n 2, 1) := dz_28 (n := 0) (r := 26) hz_X12_pinned_0 rfl
theorem dX12_pinned_27 : decode cX12_pinned 27 = .ok (.ishl, 1) := dz_120 (n := 0) (r := 27) hz_X12_pinned_0 rfl
theorem dX12_pinned_28 : decode cX12_pinned 28 = .ok (.ior, 1) := dz_128 (n := 0) (r := 28) hz_X12_pinned_0 rfl
theorem dX12_pinned_29 : decode cX12_pinned 29 = .ok (.istore_n 1, 1) := dz_60 (n := 0) (r := 29) hz_X12_pinned_0 rfl
theorem dX12_pinned_30 : decode cX12_pinned 30 = .ok (.iinc 2 1, 3) := dz_132 (n := 0) (r := 30) hz_X12_pinned_0 rfl rfl rfl
theorem hz_X12_pinned_32 : (cX12_pinned.data.toList.drop 32).take 40 = [1, 167, 255, 227, 27, 172] := by decide +kernel
theorem dX12_pinned_33 : decode cX12_pinned 33 = .ok (.goto (-29), 3) := dz_167 (n := 32) (r := 1) hz_X12_pinned_32 rfl (by decide +kernel)
theorem dX12_pinned_36 : decode cX12_pinned 36 = .ok (.iload_n 1, 1) := dz_27 (n := 32) (r := 4) hz_X12_pinned_32 rfl
theorem dX12_pinned_37 : decode cX12_pinned 37 = .ok (.ireturn, 1) := dz_172 (n := 32) (r := 5) hz_X12_pinned_32 rfl
theorem hz_X12_ties_0 : (cX12_ties.data.toList.drop 0).take 40 = [3, 60, 3, 61, 28, 5, 42, 182, 0, 193, 104, 162, 0, 34, 42, 28, 5, 108, 28, 5, 112, 4, 160, 0, 7, 4, 167, 0, 4, 3, 182, 0, 236, 155, 0, 6, 132, 1, 1, 132] := by decide +kernel
theorem dX12_ties_0 : decode cX12_ties 0 = .ok (.iconst 0, 1) := dz_3 (n := 0) (r := 0) hz_X12_ties_0 rfl
theorem dX12_ties_1 : decode cX12_ties 1 = .ok (.istore_n 1, 1) := dz_60 (n := 0) (r := 1) hz_X12_ties_0 rfl
theorem dX12_ties_2 : decode cX12_ties 2 = .ok (.iconst 0, 1) := dz_3 (n := 0) (r := 2) hz_X12_ties_0 rfl
theorem dX12_ties_3 : decode cX12_ties 3 = .ok (.istore_n 2, 1) := dz_61 (n := 0) (r := 3) hz_X12_ties_0 rfl
theorem dX12_ties_4 : decode cX12_ties 4 = .ok (.iload_n 2, 1) := dz_28 (n := 0) (r := 4) hz_X12_ties_0 rfl
theorem dX12_ties_5 : decode cX12_ties 5 = .ok (.iconst 2, 1) := dz_5 (n := 0) (r := 5) hz_X12_ties_0 rfl
theorem dX12_ties_6 : decode cX12_ties 6 = .ok (.aload_n 0, 1) := dz_42 (n := 0) (r := 6) hz_X12_ties_0 rfl
theorem dX12_ties_7 : decode cX12_ties 7 = .ok (.invokevirtual 193, 3) := dz_182 (n := 0) (r := 7) hz_X12_ties_0 rfl rfl
theorem dX12_ties_10 : decode cX12_ties 10 = .ok (.imul, 1) := dz_104 (n := 0) (r := 10) hz_X12_ties_0 rfl
theorem dX12_ties_11 : decode cX12_ties 11 = .ok (.if_icmp .ge 34, 3) := dz_162 (n := 0) (r := 11) hz_X12_ties_0 rfl (by decide +kernel)
theorem dX12_ties_14 : decode cX12_ties 14 = .ok (.aload_n 0, 1) := dz_42 (n := 0) (r := 14) hz_X12_ties_0 rfl
theorem dX12_ties_15 : decode cX12_ties 15 = .ok (.iload_n 2, 1) := dz_28 (n := 0) (r := 15) hz_X12_ties_0 rfl
theorem dX12_ties_16 : decode cX12_ties 16 = .ok (.iconst 2, 1) := dz_5 (n := 0) (r := 16) hz_X12_ties_0 rfl
theorem dX12_ties_17 : decode cX12_ties 17 = .ok (.idiv, 1) := dz_108 (n := 0) (r := 17) hz_X12_ties_0 rfl
theorem dX12_ties_18 : decode cX12_ties 18 = .ok (.iload_n 2, 1) := dz_28 (n := 0) (r := 18) hz_X12_ties_0 rfl
theorem dX12_ties_19 : decode cX12_ties 19 = .ok (.iconst 2, 1) := dz_5 (n := 0) (r := 19) hz_X12_ties_0 rfl
theorem dX12_ties_20 : decode cX12_ties 20 = .ok (.irem, 1) := dz_112 (n := 0) (r := 20) hz_X12_ties_0 rfl
theorem dX12_ties_21 : decode cX12_ties 21 = .ok (.iconst 1, 1) := dz_4 (n := 0) (r := 21) hz_X12_ties_0 rfl
theorem dX12_ties_22 : decode cX12_ties 22 = .ok (.if_icmp .ne 7, 3) := dz_160 (n := 0) (r := 22) hz_X12_ties_0 rfl (by decide +kernel)
theorem dX12_ties_25 : decode cX12_ties 25 = .ok (.iconst 1, 1) := dz_4 (n := 0) (r := 25) hz_X12_ties_0 rfl
theorem dX12_ties_26 : decode cX12_ties 26 = .ok (.goto 4, 3) := dz_167 (n := 0) (r := 26) hz_X12_ties_0 rfl (by decide +kernel)
theorem dX12_ties_29 : decode cX12_ties 29 = .ok (.iconst 0, 1) := dz_3 (n := 0) (r := 29) hz_X12_ties_0 rfl
theorem dX12_ties_30 : decode cX12_ties 30 = .ok (.invokevirtual 236, 3) := dz_182 (n := 0) (r := 30) hz_X12_ties_0 rfl rfl
theorem hz_X12_ties_32 : (cX12_ties.data.toList.drop 32).take 40 = [236, 155, 0, 6, 132, 1, 1, 132, 2, 1, 167, 255, 218, 27, 172] := by decide +kernel
theorem dX12_ties_33 : decode cX12_ties 33 = .ok (.ifCond .lt 6, 3) := dz_155 (n := 32) (r := 1) hz_X12_ties_32 rfl (by decide +kernel)
theorem dX12_ties_36 : decode cX12_ties 36 = .ok (.iinc 1 1, 3) := dz_132 (n := 32) (r := 4) hz_X12_ties_32 rfl rfl rfl
theorem dX12_ties_39 : decode cX12_ties 39 = .ok (.iinc 2 1, 3) := dz_132 (n := 32) (r := 7) hz_X12_ties_32 rfl rfl rfl
theorem dX12_ties_42 : decode cX12_ties 42 = .ok (.goto (-38), 3) := dz_167 (n := 32) (r := 10) hz_X12_ties_32 rfl (by decide +kernel)
theorem dX12_ties_45 : decode cX12_ties 45 = .ok (.iload_n 1, 1) := dz_27 (n := 32) (r := 13) hz_X12_ties_32 rfl
theorem dX12_ties_46 : decode cX12_ties 46 = .ok (.ireturn, 1) := dz_172 (n := 32) (r := 14) hz_X12_ties_32 rfl
theorem hz_X12_clusters_0 : (cX12_clusters.data.toList.drop 0).take 40 = [3, 60, 3, 61, 28, 42, 182, 0, 193, 162, 0, 26, 42, 28, 182, 1, 77, 4, 28, 120, 4, 100, 126, 154, 0, 6, 132, 1, 1, 132, 2, 1, 167, 255, 228, 27, 172] := by decide +kernel
theorem dX12_clusters_0 : decode cX12_clusters 0 = .ok (.iconst 0, 1) := dz_3 (n := 0) (r := 0) hz_X12_clusters_0 rfl
theorem dX12_clusters_1 : decode cX12_clusters 1 = .ok (.istore_n 1, 1) := dz_60 (n := 0) (r := 1) hz_X12_clusters_0 rfl
theorem dX12_clusters_2 : decode cX12_clusters 2 = .ok (.iconst 0, 1) := dz_3 (n := 0) (r := 2) hz_X12_clusters_0 rfl
theorem dX12_clusters_3 : decode cX12_clusters 3 = .ok (.istore_n 2, 1) := dz_61 (n := 0) (r := 3) hz_X12_clusters_0 rfl
theorem dX12_clusters_4 : decode cX12_clusters 4 = .ok (.iload_n 2, 1) := dz_28 (n := 0) (r := 4) hz_X12_clusters_0 rfl
theorem dX12_clusters_5 : decode cX12_clusters 5 = .ok (.aload_n 0, 1) := dz_42 (n := 0) (r := 5) hz_X12_clusters_0 rfl
theorem dX12_clusters_6 : decode cX12_clusters 6 = .ok (.invokevirtual 193, 3) := dz_182 (n := 0) (r := 6) hz_X12_clusters_0 rfl rfl
theorem dX12_clusters_9 : decode cX12_clusters 9 = .ok (.if_icmp .ge 26, 3) := dz_162 (n := 0) (r := 9) hz_X12_clusters_0 rfl (by decide +kernel)
theorem dX12_clusters_12 : decode cX12_clusters 12 = .ok (.aload_n 0, 1) := dz_42 (n := 0) (r := 12) hz_X12_clusters_0 rfl
theorem dX12_clusters_13 : decode cX12_clusters 13 = .ok (.iload_n 2, 1) := dz_28 (n := 0) (r := 13) hz_X12_clusters_0 rfl
theorem dX12_clusters_14 : decode cX12_clusters 14 = .ok (.invokevirtual 333, 3) := dz_182 (n := 0) (r := 14) hz_X12_clusters_0 rfl rfl
theorem dX12_clusters_17 : decode cX12_clusters 17 = .ok (.iconst 1, 1) := dz_4 (n := 0) (r := 17) hz_X12_clusters_0 rfl
theorem dX12_clusters_18 : decode cX12_clusters 18 = .ok (.iload_n 2, 1) := dz_28 (n := 0) (r := 18) hz_X12_clusters_0 rfl
theorem dX12_clusters_19 : decode cX12_clusters 19 = .ok (.ishl, 1) := dz_120 (n := 0) (r := 19) hz_X12_clusters_0 rfl
theorem dX12_clusters_20 : decode cX12_clusters 20 = .ok (.iconst 1, 1) := dz_4 (n := 0) (r := 20) hz_X12_clusters_0 rfl
theorem dX12_clusters_21 : decode cX12_clusters 21 = .ok (.isub, 1) := dz_100 (n := 0) (r := 21) hz_X12_clusters_0 rfl
theorem dX12_clusters_22 : decode cX12_clusters 22 = .ok (.iand, 1) := dz_126 (n := 0) (r := 22) hz_X12_clusters_0 rfl
theorem dX12_clusters_23 : decode cX12_clusters 23 = .ok (.ifCond .ne 6, 3) := dz_154 (n := 0) (r := 23) hz_X12_clusters_0 rfl (by decide +kernel)
theorem dX12_clusters_26 : decode cX12_clusters 26 = .ok (.iinc 1 1, 3) := dz_132 (n := 0) (r := 26) hz_X12_clusters_0 rfl rfl rfl
theorem dX12_clusters_29 : decode cX12_clusters 29 = .ok (.iinc 2 1, 3) := dz_132 (n := 0) (r := 29) hz_X12_clusters_0 rfl rfl rfl
theorem hz_X12_clusters_32 : (cX12_clusters.data.toList.drop 32).take 40 = [167, 255, 228, 27, 172] := by decide +kernel
theorem dX12_clusters_32 : decode cX12_clusters 32 = .ok (.goto (-28), 3) := dz_167 (n := 32) (r := 0) hz_X12_clusters_32 rfl (by decide +kernel)
theorem dX12_clusters_35 : decode cX12_clusters 35 = .ok (.iload_n 1, 1) := dz_27 (n := 32) (r := 3) hz_X12_clusters_32 rfl
theorem dX12_clusters_36 : decode cX12_clusters 36 = .ok (.ireturn, 1) := dz_172 (n := 32) (r := 4) hz_X12_clusters_32 rfl
theorem hz_X12_greatest_0 : (cX12_greatest.data.toList.drop 0).take 40 = [3, 60, 3, 61, 28, 42, 182, 0, 193, 162, 0, 30, 42, 28, 182, 1, 77, 184, 1, 36, 27, 164, 0, 12, 42, 28, 182, 1, 77, 184, 1, 36, 60, 132, 2, 1, 167, 255, 224, 27] := by decide +kernel
theorem dX12_greatest_0 : decode cX12_greatest 0 = .ok (.iconst 0, 1) := dz_3 (n := 0) (r := 0) hz_X12_greatest_0 rfl
theorem dX12_greatest_1 : decode cX12_greatest 1 = .ok (.istore_n 1, 1) := dz_60 (n := 0) (r := 1) hz_X12_greatest_0 rfl
theorem dX12_greatest_2 : decode cX12_greatest 2 = .ok (.iconst 0, 1) := dz_3 (n := 0) (r := 2) hz_X12_greatest_0 rfl
theorem dX12_greatest_3 : decode cX12_greatest 3 = .ok (.istore_n 2, 1) := dz_61 (n := 0) (r := 3) hz_X12_greatest_0 rfl
theorem dX12_greatest_4 : decode cX12_greatest 4 = .ok (.iload_n 2, 1) := dz_28 (n := 0) (r := 4) hz_X12_greatest_0 rfl
theorem dX12_greatest_5 : decode cX12_greatest 5 = .ok (.aload_n 0, 1) := dz_42 (n := 0) (r := 5) hz_X12_greatest_0 rfl
theorem dX12_greatest_6 : decode cX12_greatest 6 = .ok (.invokevirtual 193, 3) := dz_182 (n := 0) (r := 6) hz_X12_greatest_0 rfl rfl
theorem dX12_greatest_9 : decode cX12_greatest 9 = .ok (.if_icmp .ge 30, 3) := dz_162 (n := 0) (r := 9) hz_X12_greatest_0 rfl (by decide +kernel)
theorem dX12_greatest_12 : decode cX12_greatest 12 = .ok (.aload_n 0, 1) := dz_42 (n := 0) (r := 12) hz_X12_greatest_0 rfl
theorem dX12_greatest_13 : decode cX12_greatest 13 = .ok (.iload_n 2, 1) := dz_28 (n := 0) (r := 13) hz_X12_greatest_0 rfl
theorem dX12_greatest_14 : decode cX12_greatest 14 = .ok (.invokevirtual 333, 3) := dz_182 (n := 0) (r := 14) hz_X12_greatest_0 rfl rfl
theorem dX12_greatest_17 : decode cX12_greatest 17 = .ok (.invokestatic 292, 3) := dz_184 (n := 0) (r := 17) hz_X12_greatest_0 rfl rfl
theorem dX12_greatest_20 : decode cX12_greatest 20 = .ok (.iload_n 1, 1) := dz_27 (n := 0) (r := 20) hz_X12_greatest_0 rfl
theorem dX12_greatest_21 : decode cX12_greatest 21 = .ok (.if_icmp .le 12, 3) := dz_164 (n := 0) (r := 21) hz_X12_greatest_0 rfl (by decide +kernel)
theorem dX12_greatest_24 : decode cX12_greatest 24 = .ok (.aload_n 0, 1) := dz_42 (n := 0) (r := 24) hz_X12_greatest_0 rfl
theorem dX12_greatest_25 : decode cX12_greatest 25 = .ok (.iload_n 2, 1) := dz_28 (n := 0) (r := 25) hz_X12_greatest_0 rfl
theorem dX12_greatest_26 : decode cX12_greatest 26 = .ok (.invokevirtual 333, 3) := dz_182 (n := 0) (r := 26) hz_X12_greatest_0 rfl rfl
theorem dX12_greatest_29 : decode cX12_greatest 29 = .ok (.invokestatic 292, 3) := dz_184 (n := 0) (r := 29) hz_X12_greatest_0 rfl rfl
theorem hz_X12_greatest_32 : (cX12_greatest.data.toList.drop 32).take 40 = [60, 132, 2, 1, 167, 255, 224, 27, 172] := by decide +kernel
theorem dX12_greatest_32 : decode cX12_greatest 32 = .ok (.istore_n 1, 1) := dz_60 (n := 32) (r := 0) hz_X12_greatest_32 rfl
theorem dX12_greatest_33 : decode cX12_greatest 33 = .ok (.iinc 2 1, 3) := dz_132 (n := 32) (r := 1) hz_X12_greatest_32 rfl rfl rfl
theorem dX12_greatest_36 : decode cX12_greatest 36 = .ok (.goto (-32), 3) := dz_167 (n := 32) (r := 4) hz_X12_greatest_32 rfl (by decide +kernel)
theorem dX12_greatest_39 : decode cX12_greatest 39 = .ok (.iload_n 1, 1) := dz_27 (n := 32) (r := 7) hz_X12_greatest_32 rfl
theorem dX12_greatest_40 : decode cX12_greatest 40 = .ok (.ireturn, 1) := dz_172 (n := 32) (r := 8) hz_X12_greatest_32 rfl
theorem hz_X12_fewestBroken_0 : (cX12_fewestBroken.data.toList.drop 0).take 40 = [2, 60, 3, 61, 28, 42, 182, 1, 14, 162, 0, 37, 42, 28, 182, 1, 25, 154, 0, 6, 167, 0, 20, 42, 28, 182, 1, 49, 62, 27, 155, 0, 8, 29, 27, 162, 0, 5, 29, 60] := by decide +kernel
theorem dX12_fewestBroken_0 : decode cX12_fewestBroken 0 = .ok (.iconst (-1), 1) := dz_2 (n := 0) (r := 0) hz_X12_fewestBroken_0 rfl
theorem dX12_fewestBroken_1 : decode cX12_fewestBroken 1 = .ok (.istore_n 1, 1) := dz_60 (n := 0) (r := 1) hz_X12_fewestBroken_0 rfl
theorem dX12_fewestBroken_2 : decode cX12_fewestBroken 2 = .ok (.iconst 0, 1) := dz_3 (n := 0) (r := 2) hz_X12_fewestBroken_0 rfl
theorem dX12_fewestBroken_3 : decode cX12_fewestBroken 3 = .ok (.istore_n 2, 1) := dz_61 (n := 0) (r := 3) hz_X12_fewestBroken_0 rfl
theorem dX12_fewestBroken_4 : decode cX12_fewestBroken 4 = .ok (.iload_n 2, 1) := dz_28 (n := 0) (r := 4) hz_X12_fewestBroken_0 rfl
theorem dX12_fewestBroken_5 : decode cX12_fewestBroken 5 = .ok (.aload_n 0, 1) := dz_42 (n := 0) (r := 5) hz_X12_fewestBroken_0 rfl
theorem dX12_fewestBroken_6 : decode cX12_fewestBroken 6 = .ok (.invokevirtual 270, 3) := dz_182 (n := 0) (r := 6) hz_X12_fewestBroken_0 rfl rfl
theorem dX12_fewestBroken_9 : decode cX12_fewestBroken 9 = .ok (.if_icmp .ge 37, 3) := dz_162 (n := 0) (r := 9) hz_X12_fewestBroken_0 rfl (by decide +kernel)
theorem dX12_fewestBroken_12 : decode cX12_fewestBroken 12 = .ok (.aload_n 0, 1) := dz_42 (n := 0) (r := 12) hz_X12_fewestBroken_0 rfl
theorem dX12_fewestBroken_13 : decode cX12_fewestBroken 13 = .ok (.iload_n 2, 1) := dz_28 (n := 0) (r := 13) hz_X12_fewestBroken_0 rfl
theorem dX12_fewestBroken_14 : decode cX12_fewestBroken 14 = .ok (.invokevirtual 281, 3) := dz_182 (n := 0) (r := 14) hz_X12_fewestBroken_0 rfl rfl
theorem dX12_fewestBroken_17 : decode cX12_fewestBroken 17 = .ok (.ifCond .ne 6, 3) := dz_154 (n := 0) (r := 17) hz_X12_fewestBroken_0 rfl (by decide +kernel)
theorem dX12_fewestBroken_20 : decode cX12_fewestBroken 20 = .ok (.goto 20, 3) := dz_167 (n := 0) (r := 20) hz_X12_fewestBroken_0 rfl (by decide +kernel)
theorem dX12_fewestBroken_23 : decode cX12_fewestBroken 23 = .ok (.aload_n 0, 1) := dz_42 (n := 0) (r := 23) hz_X12_fewestBroken_0 rfl
theorem dX12_fewestBroken_24 : decode cX12_fewestBroken 24 = .ok (.iload_n 2, 1) := dz_28 (n := 0) (r := 24) hz_X12_fewestBroken_0 rfl
theorem dX12_fewestBroken_25 : decode cX12_fewestBroken 25 = .ok (.invokevirtual 305, 3) := dz_182 (n := 0) (r := 25) hz_X12_fewestBroken_0 rfl rfl
theorem dX12_fewestBroken_28 : decode cX12_fewestBroken 28 = .ok (.istore_n 3, 1) := dz_62 (n := 0) (r := 28) hz_X12_fewestBroken_0 rfl
theorem dX12_fewestBroken_29 : decode cX12_fewestBroken 29 = .ok (.iload_n 1, 1) := dz_27 (n := 0) (r := 29) hz_X12_fewestBroken_0 rfl
theorem dX12_fewestBroken_30 : decode cX12_fewestBroken 30 = .ok (.ifCond .lt 8, 3) := dz_155 (n := 0) (r := 30) hz_X12_fewestBroken_0 rfl (by decide +kernel)
theorem hz_X12_fewestBroken_32 : (cX12_fewestBroken.data.toList.drop 32).take 40 = [8, 29, 27, 162, 0, 5, 29, 60, 132, 2, 1, 167, 255, 217, 27, 156, 0, 7, 3, 167, 0, 4, 27, 172] := by decide +kernel
theorem dX12_fewestBroken_33 : decode cX12_fewestBroken 33 = .ok (.iload_n 3, 1) := dz_29 (n := 32) (r := 1) hz_X12_fewestBroken_32 rfl
theorem dX12_fewestBroken_34 : decode cX12_fewestBroken 34 = .ok (.iload_n 1, 1) := dz_27 (n := 32) (r := 2) hz_X12_fewestBroken_32 rfl
theorem dX12_fewestBroken_35 : decode cX12_fewestBroken 35 = .ok (.if_icmp .ge 5, 3) := dz_162 (n := 32) (r := 3) hz_X12_fewestBroken_32 rfl (by decide +kernel)
theorem dX12_fewestBroken_38 : decode cX12_fewestBroken 38 = .ok (.iload_n 3, 1) := dz_29 (n := 32) (r := 6) hz_X12_fewestBroken_32 rfl
theorem dX12_fewestBroken_39 : decode cX12_fewestBroken 39 = .ok (.istore_n 1, 1) := dz_60 (n := 32) (r := 7) hz_X12_fewestBroken_32 rfl
theorem dX12_fewestBroken_40 : decode cX12_fewestBroken 40 = .ok (.iinc 2 1, 3) := dz_132 (n := 32) (r := 8) hz_X12_fewestBroken_32 rfl rfl rfl
theorem dX12_fewestBroken_43 : decode cX12_fewestBroken 43 = .ok (.goto (-39), 3) := dz_167 (n := 32) (r := 11) hz_X12_fewestBroken_32 rfl (by decide +kernel)
theorem dX12_fewestBroken_46 : decode cX12_fewestBroken 46 = .ok (.iload_n 1, 1) := dz_27 (n := 32) (r := 14) hz_X12_fewestBroken_32 rfl
theorem dX12_fewestBroken_47 : decode cX12_fewestBroken 47 = .ok (.ifCond .ge 7, 3) := dz_156 (n := 32) (r := 15) hz_X12_fewestBroken_32 rfl (by decide +kernel)
theorem dX12_fewestBroken_50 : decode cX12_fewestBroken 50 = .ok (.iconst 0, 1) := dz_3 (n := 32) (r := 18) hz_X12_fewestBroken_32 rfl
theorem dX12_fewestBroken_51 : decode cX12_fewestBroken 51 = .ok (.goto 4, 3) := dz_167 (n := 32) (r := 19) hz_X12_fewestBroken_32 rfl (by decide +kernel)
theorem dX12_fewestBroken_54 : decode cX12_fewestBroken 54 = .ok (.iload_n 1, 1) := dz_27 (n := 32) (r := 22) hz_X12_fewestBroken_32 rfl
theorem dX12_fewestBroken_55 : decode cX12_fewestBroken 55 = .ok (.ireturn, 1) := dz_172 (n := 32) (r := 23) hz_X12_fewestBroken_32 rfl
theorem hz_X12_odds_0 : (cX12_odds.data.toList.drop 0).take 40 = [3, 60, 3, 61, 28, 42, 182, 0, 193, 162, 0, 21, 42, 28, 182, 1, 74, 4, 160, 0, 6, 132, 1, 1, 132, 2, 1, 167, 255, 233, 27, 172] := by decide +kernel
theorem dX12_odds_0 : decode cX12_odds 0 = .ok (.iconst 0, 1) := dz_3 (n := 0) (r := 0) hz_X12_odds_0 rfl
theorem dX12_odds_1 : decode cX12_odds 1 = .ok (.istore_n 1, 1) := dz_60 (n := 0) (r := 1) hz_X12_odds_0 rfl
theorem dX12_odds_2 : decode cX12_odds 2 = .ok (.iconst 0, 1) := dz_3 (n := 0) (r := 2) hz_X12_odds_0 rfl
theorem dX12_odds_3 : decode cX12_odds 3 = .ok (.istore_n 2, 1) := dz_61 (n := 0) (r := 3) hz_X12_odds_0 rfl
theorem dX12_odds_4 : decode cX12_odds 4 = .ok (.iload_n 2, 1) := dz_28 (n := 0) (r := 4) hz_X12_odds_0 rfl
theorem dX12_odds_5 : decode cX12_odds 5 = .ok (.aload_n 0, 1) := dz_42 (n := 0) (r := 5) hz_X12_odds_0 rfl
theorem dX12_odds_6 : decode cX12_odds 6 = .ok (.invokevirtual 193, 3) := dz_182 (n := 0) (r := 6) hz_X12_odds_0 rfl rfl
theorem dX12_odds_9 : decode cX12_odds 9 = .ok (.if_icmp .ge 21, 3) := dz_162 (n := 0) (r := 9) hz_X12_odds_0 rfl (by decide +kernel)
theorem dX12_odds_12 : decode cX12_odds 12 = .ok (.aload_n 0, 1) := dz_42 (n := 0) (r := 12) hz_X12_odds_0 rfl
theorem dX12_odds_13 : decode cX12_odds 13 = .ok (.iload_n 2, 1) := dz_28 (n := 0) (r := 13) hz_X12_odds_0 rfl
theorem dX12_odds_14 : decode cX12_odds 14 = .ok (.invokevirtual 330, 3) := dz_182 (n := 0) (r := 14) hz_X12_odds_0 rfl rfl
theorem dX12_odds_17 : decode cX12_odds 17 = .ok (.iconst 1, 1) := dz_4 (n := 0) (r := 17) hz_X12_odds_0 rfl
theorem dX12_odds_18 : decode cX12_odds 18 = .ok (.if_icmp .ne 6, 3) := dz_160 (n := 0) (r := 18) hz_X12_odds_0 rfl (by decide +kernel)
theorem dX12_odds_21 : decode cX12_odds 21 = .ok (.iinc 1 1, 3) := dz_132 (n := 0) (r := 21) hz_X12_odds_0 rfl rfl rfl
theorem dX12_odds_24 : decode cX12_odds 24 = .ok (.iinc 2 1, 3) := dz_132 (n := 0) (r := 24) hz_X12_odds_0 rfl rfl rfl
theorem dX12_odds_27 : decode cX12_odds 27 = .ok (.goto (-23), 3) := dz_167 (n := 0) (r := 27) hz_X12_odds_0 rfl (by decide +kernel)
theorem dX12_odds_30 : decode cX12_odds 30 = .ok (.iload_n 1, 1) := dz_27 (n := 0) (r := 30) hz_X12_odds_0 rfl
theorem dX12_odds_31 : decode cX12_odds 31 = .ok (.ireturn, 1) := dz_172 (n := 0) (r := 31) hz_X12_odds_0 rfl
theorem hz_X12_count_0 : (cX12_count.data.toList.drop 0).take 40 = [27, 170, 0, 0, 0, 0, 0, 217, 0, 0, 0, 0, 0, 0, 0, 14, 0, 0, 0, 75, 0, 0, 0, 80, 0, 0, 0, 85, 0, 0, 0, 93, 0, 0, 0, 98, 0, 0, 0, 103] := by decide +kernel
theorem dX12_count_0 : decode cX12_count 0 = .ok (.iload_n 1, 1) := dz_27 (n := 0) (r := 0) hz_X12_count_0 rfl
theorem dX12_count_1 : decode cX12_count 1 = .ok (.tableswitch 217 0 14 #[75, 80, 85, 93, 98, 103, 108, 113, 118, 163, 171, 176, 181, 207, 212], 75) := by decide +kernel
theorem hz_X12_count_64 : (cX12_count.data.toList.drop 64).take 40 = [0, 0, 0, 181, 0, 0, 0, 207, 0, 0, 0, 212, 42, 180, 0, 171, 172, 42, 180, 0, 177, 172, 42, 180, 0, 40, 16, 64, 46, 172, 42, 182, 1, 82, 172, 42, 182, 1, 85, 172] := by decide +kernel
theorem dX12_count_76 : decode cX12_count 76 = .ok (.aload_n 0, 1) := dz_42 (n := 64) (r := 12) hz_X12_count_64 rfl
theorem dX12_count_77 : decode cX12_count 77 = .ok (.getfield 171, 3) := dz_180 (n := 64) (r := 13) hz_X12_count_64 rfl rfl
theorem dX12_count_80 : decode cX12_count 80 = .ok (.ireturn, 1) := dz_172 (n := 64) (r := 16) hz_X12_count_64 rfl
theorem dX12_count_81 : decode cX12_count 81 = .ok (.aload_n 0, 1) := dz_42 (n := 64) (r := 17) hz_X12_count_64 rfl
theorem dX12_count_82 : decode cX12_count 82 = .ok (.getfield 177, 3) := dz_180 (n := 64) (r := 18) hz_X12_count_64 rfl rfl
theorem dX12_count_85 : decode cX12_count 85 = .ok (.ireturn, 1) := dz_172 (n := 64) (r := 21) hz_X12_count_64 rfl
theorem dX12_count_86 : decode cX12_count 86 = .ok (.aload_n 0, 1) := dz_42 (n := 64) (r := 22) hz_X12_count_64 rfl
theorem dX12_count_87 : decode cX12_count 87 = .ok (.getfield 40, 3) := dz_180 (n := 64) (r := 23) hz_X12_count_64 rfl rfl
theorem dX12_count_90 : decode cX12_count 90 = .ok (.bipush 64, 2) := dz_16 (n := 64) (r := 26) hz_X12_count_64 rfl rfl
theorem dX12_count_92 : decode cX12_count 92 = .ok (.iaload, 1) := dz_46 (n := 64) (r := 28) hz_X12_count_64 rfl
theorem dX12_count_93 : decode cX12_count 93 = .ok (.ireturn, 1) := dz_172 (n := 64) (r := 29) hz_X12_count_64 rfl
theorem dX12_count_94 : decode cX12_count 94 = .ok (.aload_n 0, 1) := dz_42 (n := 64) (r := 30) hz_X12_count_64 rfl
theorem dX12_count_95 : decode cX12_count 95 = .ok (.invokevirtual 338, 3) := dz_182 (n := 64) (r := 31) hz_X12_count_64 rfl rfl
theorem hz_X12_count_96 : (cX12_count.data.toList.drop 96).take 40 = [1, 82, 172, 42, 182, 1, 85, 172, 42, 182, 1, 88, 172, 42, 180, 0, 94, 172, 42, 180, 0, 197, 172, 42, 180, 0, 52, 3, 51, 153, 0, 7, 4, 167, 0, 4, 3, 42, 180, 0] := by decide +kernel
theorem dX12_count_98 : decode cX12_count 98 = .ok (.ireturn, 1) := dz_172 (n := 96) (r := 2) hz_X12_count_96 rfl
theorem dX12_count_99 : decode cX12_count 99 = .ok (.aload_n 0, 1) := dz_42 (n := 96) (r := 3) hz_X12_count_96 rfl
theorem dX12_count_100 : decode cX12_count 100 = .ok (.invokevirtual 341, 3) := dz_182 (n := 96) (r := 4) hz_X12_count_96 rfl rfl
theorem dX12_count_103 : decode cX12_count 103 = .ok (.ireturn, 1) := dz_172 (n := 96) (r := 7) hz_X12_count_96 rfl
theorem dX12_count_104 : decode cX12_count 104 = .ok (.aload_n 0, 1) := dz_42 (n := 96) (r := 8) hz_X12_count_96 rfl
theorem dX12_count_105 : decode cX12_count 105 = .ok (.invokevirtual 344, 3) := dz_182 (n := 96) (r := 9) hz_X12_count_96 rfl rfl
theorem dX12_count_108 : decode cX12_count 108 = .ok (.ireturn, 1) := dz_172 (n := 96) (r := 12) hz_X12_count_96 rfl
theorem dX12_count_109 : decode cX12_count 109 = .ok (.aload_n 0, 1) := dz_42 (n := 96) (r := 13) hz_X12_count_96 rfl
theorem dX12_count_110 : decode cX12_count 110 = .ok (.getfield 94, 3) := dz_180 (n := 96) (r := 14) hz_X12_count_96 rfl rfl
theorem dX12_count_113 : decode cX12_count 113 = .ok (.ireturn, 1) := dz_172 (n := 96) (r := 17) hz_X12_count_96 rfl
theorem dX12_count_114 : decode cX12_count 114 = .ok (.aload_n 0, 1) := dz_42 (n := 96) (r := 18) hz_X12_count_96 rfl
theorem dX12_count_115 : decode cX12_count 115 = .ok (.getfield 197, 3) := dz_180 (n := 96) (r := 19) hz_X12_count_96 rfl rfl
theorem dX12_count_118 : decode cX12_count 118 = .ok (.ireturn, 1) := dz_172 (n := 96) (r := 22) hz_X12_count_96 rfl
theorem dX12_count_119 : decode cX12_count 119 = .ok (.aload_n 0, 1) := dz_42 (n := 96) (r := 23) hz_X12_count_96 rfl
theorem dX12_count_120 : decode cX12_count 120 = .ok (.getfield 52, 3) := dz_180 (n := 96) (r := 24) hz_X12_count_96 rfl rfl
theorem dX12_count_123 : decode cX12_count 123 = .ok (.iconst 0, 1) := dz_3 (n := 96) (r := 27) hz_X12_count_96 rfl
theorem dX12_count_124 : decode cX12_count 124 = .ok (.baload, 1) := dz_51 (n := 96) (r := 28) hz_X12_count_96 rfl
theorem dX12_count_125 : decode cX12_count 125 = .ok (.ifCond .eq 7, 3) := dz_153 (n := 96) (r := 29) hz_X12_count_96 rfl (by decide +kernel)
theorem hz_X12_count_128 : (cX12_count.data.toList.drop 128).take 40 = [4, 167, 0, 4, 3, 42, 180, 0, 52, 4, 51, 153, 0, 7, 4, 167, 0, 4, 3, 96, 42, 180, 0, 52, 5, 51, 153, 0, 7, 4, 167, 0, 4, 3, 96, 172, 42, 180, 0, 40] := by decide +kernel
theorem dX12_count_128 : decode cX12_count 128 = .ok (.iconst 1, 1) := dz_4 (n := 128) (r := 0) hz_X12_count_128 rfl
theorem dX12_count_129 : decode cX12_count 129 = .ok (.goto 4, 3) := dz_167 (n := 128) (r := 1) hz_X12_count_128 rfl (by decide +kernel)
theorem dX12_count_132 : decode cX12_count 132 = .ok (.iconst 0, 1) := dz_3 (n := 128) (r := 4) hz_X12_count_128 rfl
theorem dX12_count_133 : decode cX12_count 133 = .ok (.aload_n 0, 1) := dz_42 (n := 128) (r := 5) hz_X12_count_128 rfl
theorem dX12_count_134 : decode cX12_count 134 = .ok (.getfield 52, 3) := dz_180 (n := 128) (r := 6) hz_X12_count_128 rfl rfl
theorem dX12_count_137 : decode cX12_count 137 = .ok (.iconst 1, 1) := dz_4 (n := 128) (r := 9) hz_X12_count_128 rfl
theorem dX12_count_138 : decode cX12_count 138 = .ok (.baload, 1) := dz_51 (n := 128) (r := 10) hz_X12_count_128 rfl
theorem dX12_count_139 : decode cX12_count 139 = .ok (.ifCond .eq 7, 3) := dz_153 (n := 128) (r := 11) hz_X12_count_128 rfl (by decide +kernel)
theorem dX12_count_142 : decode cX12_count 142 = .ok (.iconst 1, 1) := dz_4 (n := 128) (r := 14) hz_X12_count_128 rfl
theorem dX12_count_143 : decode cX12_count 143 = .ok (.goto 4, 3) := dz_167 (n := 128) (r := 15) hz_X12_count_128 rfl (by decide +kernel)
theorem dX12_count_146 : decode cX12_count 146 = .ok (.iconst 0, 1) := dz_3 (n := 128) (r := 18) hz_X12_count_128 rfl
theorem dX12_count_147 : decode cX12_count 147 = .ok (.iadd, 1) := dz_96 (n := 128) (r := 19) hz_X12_count_128 rfl
theorem dX12_count_148 : decode cX12_count 148 = .ok (.aload_n 0, 1) := dz_42 (n := 128) (r := 20) hz_X12_count_128 rfl
theorem dX12_count_149 : decode cX12_count 149 = .ok (.getfield 52, 3) := dz_180 (n := 128) (r := 21) hz_X12_count_128 rfl rfl
theorem dX12_count_152 : decode cX12_count 152 = .ok (.iconst 2, 1) := dz_5 (n := 128) (r := 24) hz_X12_count_128 rfl
theorem dX12_count_153 : decode cX12_count 153 = .ok (.baload, 1) := dz_51 (n := 128) (r := 25) hz_X12_count_128 rfl
theorem dX12_count_154 : decode cX12_count 154 = .ok (.ifCond .eq 7, 3) := dz_153 (n := 128) (r := 26) hz_X12_count_128 rfl (by decide +kernel)
theorem dX12_count_157 : decode cX12_count 157 = .ok (.iconst 1, 1) := dz_4 (n := 128) (r := 29) hz_X12_count_128 rfl
theorem dX12_count_158 : decode cX12_count 158 = .ok (.goto 4, 3) := dz_167 (n := 128) (r := 30) hz_X12_count_128 rfl (by decide +kernel)
theorem hz_X12_count_160 : (cX12_count.data.toList.drop 160).take 40 = [4, 3, 96, 172, 42, 180, 0, 40, 16, 65, 46, 172, 42, 182, 1, 91, 172, 42, 182, 1, 94, 172, 42, 180, 0, 184, 153, 0, 7, 4, 167, 0, 4, 3, 42, 180, 0, 190, 153, 0] := by decide +kernel
theorem dX12_count_161 : decode cX12_count 161 = .ok (.iconst 0, 1) := dz_3 (n := 160) (r := 1) hz_X12_count_160 rfl
theorem dX12_count_162 : decode cX12_count 162 = .ok (.iadd, 1) := dz_96 (n := 160) (r := 2) hz_X12_count_160 rfl
theorem dX12_count_163 : decode cX12_count 163 = .ok (.ireturn, 1) := dz_172 (n := 160) (r := 3) hz_X12_count_160 rfl
theorem dX12_count_164 : decode cX12_count 164 = .ok (.aload_n 0, 1) := dz_42 (n := 160) (r := 4) hz_X12_count_160 rfl
theorem dX12_count_165 : decode cX12_count 165 = .ok (.getfield 40, 3) := dz_180 (n := 160) (r := 5) hz_X12_count_160 rfl rfl
theorem dX12_count_168 : decode cX12_count 168 = .ok (.bipush 65, 2) := dz_16 (n := 160) (r := 8) hz_X12_count_160 rfl rfl
theorem dX12_count_170 : decode cX12_count 170 = .ok (.iaload, 1) := dz_46 (n := 160) (r := 10) hz_X12_count_160 rfl
theorem dX12_count_171 : decode cX12_count 171 = .ok (.ireturn, 1) := dz_172 (n := 160) (r := 11) hz_X12_count_160 rfl
theorem dX12_count_172 : decode cX12_count 172 = .ok (.aload_n 0, 1) := dz_42 (n := 160) (r := 12) hz_X12_count_160 rfl
theorem dX12_count_173 : decode cX12_count 173 = .ok (.invokevirtual 347, 3) := dz_182 (n := 160) (r := 13) hz_X12_count_160 rfl rfl
theorem dX12_count_176 : decode cX12_count 176 = .ok (.ireturn, 1) := dz_172 (n := 160) (r := 16) hz_X12_count_160 rfl
theorem dX12_count_177 : decode cX12_count 177 = .ok (.aload_n 0, 1) := dz_42 (n := 160) (r := 17) hz_X12_count_160 rfl
theorem dX12_count_178 : decode cX12_count 178 = .ok (.invokevirtual 350, 3) := dz_182 (n := 160) (r := 18) hz_X12_count_160 rfl rfl
theorem dX12_count_181 : decode cX12_count 181 = .ok (.ireturn, 1) := dz_172 (n := 160) (r := 21) hz_X12_count_160 rfl
theorem dX12_count_182 : decode cX12_count 182 = .ok (.aload_n 0, 1) := dz_42 (n := 160) (r := 22) hz_X12_count_160 rfl
theorem dX12_count_183 : decode cX12_count 183 = .ok (.getfield 184, 3) := dz_180 (n := 160) (r := 23) hz_X12_count_160 rfl rfl
theorem dX12_count_186 : decode cX12_count 186 = .ok (.ifCond .eq 7, 3) := dz_153 (n := 160) (r := 26) hz_X12_count_160 rfl (by decide +kernel)
theorem dX12_count_189 : decode cX12_count 189 = .ok (.iconst 1, 1) := dz_4 (n := 160) (r := 29) hz_X12_count_160 rfl
theorem dX12_count_190 : decode cX12_count 190 = .ok (.goto 4, 3) := dz_167 (n := 160) (r := 30) hz_X12_count_160 rfl (by decide +kernel)
theorem hz_X12_count_192 : (cX12_count.data.toList.drop 192).take 40 = [4, 3, 42, 180, 0, 190, 153, 0, 7, 5, 167, 0, 4, 3, 96, 172, 42, 182, 1, 97, 172, 42, 182, 1, 100, 172, 2, 172] := by decide +kernel
theorem dX12_count_193 : decode cX12_count 193 = .ok (.iconst 0, 1) := dz_3 (n := 192) (r := 1) hz_X12_count_192 rfl
theorem dX12_count_194 : decode cX12_count 194 = .ok (.aload_n 0, 1) := dz_42 (n := 192) (r := 2) hz_X12_count_192 rfl
theorem dX12_count_195 : decode cX12_count 195 = .ok (.getfield 190, 3) := dz_180 (n := 192) (r := 3) hz_X12_count_192 rfl rfl
theorem dX12_count_198 : decode cX12_count 198 = .ok (.ifCond .eq 7, 3) := dz_153 (n := 192) (r := 6) hz_X12_count_192 rfl (by decide +kernel)
theorem dX12_count_201 : decode cX12_count 201 = .ok (.iconst 2, 1) := dz_5 (n := 192) (r := 9) hz_X12_count_192 rfl
theorem dX12_count_202 : decode cX12_count 202 = .ok (.goto 4, 3) := dz_167 (n := 192) (r := 10) hz_X12_count_192 rfl (by decide +kernel)
theorem dX12_count_205 : decode cX12_count 205 = .ok (.iconst 0, 1) := dz_3 (n := 192) (r := 13) hz_X12_count_192 rfl
theorem dX12_count_206 : decode cX12_count 206 = .ok (.iadd, 1) := dz_96 (n := 192) (r := 14) hz_X12_count_192 rfl
theorem dX12_count_207 : decode cX12_count 207 = .ok (.ireturn, 1) := dz_172 (n := 192) (r := 15) hz_X12_count_192 rfl
theorem dX12_count_208 : decode cX12_count 208 = .ok (.aload_n 0, 1) := dz_42 (n := 192) (r := 16) hz_X12_count_192 rfl
theorem dX12_count_209 : decode cX12_count 209 = .ok (.invokevirtual 353, 3) := dz_182 (n := 192) (r := 17) hz_X12_count_192 rfl rfl
theorem dX12_count_212 : decode cX12_count 212 = .ok (.ireturn, 1) := dz_172 (n := 192) (r := 20) hz_X12_count_192 rfl
theorem dX12_count_213 : decode cX12_count 213 = .ok (.aload_n 0, 1) := dz_42 (n := 192) (r := 21) hz_X12_count_192 rfl
theorem dX12_count_214 : decode cX12_count 214 = .ok (.invokevirtual 356, 3) := dz_182 (n := 192) (r := 22) hz_X12_count_192 rfl rfl
theorem dX12_count_217 : decode cX12_count 217 = .ok (.ireturn, 1) := dz_172 (n := 192) (r := 25) hz_X12_count_192 rfl
theorem dX12_count_218 : decode cX12_count 218 = .ok (.iconst (-1), 1) := dz_2 (n := 192) (r := 26) hz_X12_count_192 rfl
theorem dX12_count_219 : decode cX12_count 219 = .ok (.ireturn, 1) := dz_172 (n := 192) (r := 27) hz_X12_count_192 rfl
theorem hz_J6_bitCount_0f7a4_0 : (cJ6_bitCount_0f7a4.data.toList.drop 0).take 40 = [26, 26, 4, 124, 19, 1, 9, 126, 100, 59, 26, 19, 1, 10, 126, 26, 5, 124, 19, 1, 10, 126, 96, 59, 26, 26, 7, 124, 96, 19, 1, 11, 126, 59, 26, 26, 16, 8, 124, 96] := by decide +kernel
theorem dJ6_bitCount_0f7a4_0 : decode cJ6_bitCount_0f7a4 0 = .ok (.iload_n 0, 1) := dz_26 (n := 0) (r := 0) hz_J6_bitCount_0f7a4_0 rfl
theorem dJ6_bitCount_0f7a4_1 : decode cJ6_bitCount_0f7a4 1 = .ok (.iload_n 0, 1) := dz_26 (n := 0) (r := 1) hz_J6_bitCount_0f7a4_0 rfl
theorem dJ6_bitCount_0f7a4_2 : decode cJ6_bitCount_0f7a4 2 = .ok (.iconst 1, 1) := dz_4 (n := 0) (r := 2) hz_J6_bitCount_0f7a4_0 rfl
theorem dJ6_bitCount_0f7a4_3 : decode cJ6_bitCount_0f7a4 3 = .ok (.iushr, 1) := dz_124 (n := 0) (r := 3) hz_J6_bitCount_0f7a4_0 rfl
theorem dJ6_bitCount_0f7a4_4 : decode cJ6_bitCount_0f7a4 4 = .ok (.ldc_w 265, 3) := dz_19 (n := 0) (r := 4) hz_J6_bitCount_0f7a4_0 rfl rfl
theorem dJ6_bitCount_0f7a4_7 : decode cJ6_bitCount_0f7a4 7 = .ok (.iand, 1) := dz_126 (n := 0) (r := 7) hz_J6_bitCount_0f7a4_0 rfl
theorem dJ6_bitCount_0f7a4_8 : decode cJ6_bitCount_0f7a4 8 = .ok (.isub, 1) := dz_100 (n := 0) (r := 8) hz_J6_bitCount_0f7a4_0 rfl
theorem dJ6_bitCount_0f7a4_9 : decode cJ6_bitCount_0f7a4 9 = .ok (.istore_n 0, 1) := dz_59 (n := 0) (r := 9) hz_J6_bitCount_0f7a4_0 rfl
theorem dJ6_bitCount_0f7a4_10 : decode cJ6_bitCount_0f7a4 10 = .ok (.iload_n 0, 1) := dz_26 (n := 0) (r := 10) hz_J6_bitCount_0f7a4_0 rfl
theorem dJ6_bitCount_0f7a4_11 : decode cJ6_bitCount_0f7a4 11 = .ok (.ldc_w 266, 3) := dz_19 (n := 0) (r := 11) hz_J6_bitCount_0f7a4_0 rfl rfl
theorem dJ6_bitCount_0f7a4_14 : decode cJ6_bitCount_0f7a4 14 = .ok (.iand, 1) := dz_126 (n := 0) (r := 14) hz_J6_bitCount_0f7a4_0 rfl
theorem dJ6_bitCount_0f7a4_15 : decode cJ6_bitCount_0f7a4 15 = .ok (.iload_n 0, 1) := dz_26 (n := 0) (r := 15) hz_J6_bitCount_0f7a4_0 rfl
theorem dJ6_bitCount_0f7a4_16 : decode cJ6_bitCount_0f7a4 16 = .ok (.iconst 2, 1) := dz_5 (n := 0) (r := 16) hz_J6_bitCount_0f7a4_0 rfl
theorem dJ6_bitCount_0f7a4_17 : decode cJ6_bitCount_0f7a4 17 = .ok (.iushr, 1) := dz_124 (n := 0) (r := 17) hz_J6_bitCount_0f7a4_0 rfl
theorem dJ6_bitCount_0f7a4_18 : decode cJ6_bitCount_0f7a4 18 = .ok (.ldc_w 266, 3) := dz_19 (n := 0) (r := 18) hz_J6_bitCount_0f7a4_0 rfl rfl
theorem dJ6_bitCount_0f7a4_21 : decode cJ6_bitCount_0f7a4 21 = .ok (.iand, 1) := dz_126 (n := 0) (r := 21) hz_J6_bitCount_0f7a4_0 rfl
theorem dJ6_bitCount_0f7a4_22 : decode cJ6_bitCount_0f7a4 22 = .ok (.iadd, 1) := dz_96 (n := 0) (r := 22) hz_J6_bitCount_0f7a4_0 rfl
theorem dJ6_bitCount_0f7a4_23 : decode cJ6_bitCount_0f7a4 23 = .ok (.istore_n 0, 1) := dz_59 (n := 0) (r := 23) hz_J6_bitCount_0f7a4_0 rfl
theorem dJ6_bitCount_0f7a4_24 : decode cJ6_bitCount_0f7a4 24 = .ok (.iload_n 0, 1) := dz_26 (n := 0) (r := 24) hz_J6_bitCount_0f7a4_0 rfl
theorem dJ6_bitCount_0f7a4_25 : decode cJ6_bitCount_0f7a4 25 = .ok (.iload_n 0, 1) := dz_26 (n := 0) (r := 25) hz_J6_bitCount_0f7a4_0 rfl
theorem dJ6_bitCount_0f7a4_26 : decode cJ6_bitCount_0f7a4 26 = .ok (.iconst 4, 1) := dz_7 (n := 0) (r := 26) hz_J6_bitCount_0f7a4_0 rfl
theorem dJ6_bitCount_0f7a4_27 : decode cJ6_bitCount_0f7a4 27 = .ok (.iushr, 1) := dz_124 (n := 0) (r := 27) hz_J6_bitCount_0f7a4_0 rfl
theorem dJ6_bitCount_0f7a4_28 : decode cJ6_bitCount_0f7a4 28 = .ok (.iadd, 1) := dz_96 (n := 0) (r := 28) hz_J6_bitCount_0f7a4_0 rfl
theorem dJ6_bitCount_0f7a4_29 : decode cJ6_bitCount_0f7a4 29 = .ok (.ldc_w 267, 3) := dz_19 (n := 0) (r := 29) hz_J6_bitCount_0f7a4_0 rfl rfl
theorem hz_J6_bitCount_0f7a4_32 : (cJ6_bitCount_0f7a4.data.toList.drop 32).take 40 = [126, 59, 26, 26, 16, 8, 124, 96, 59, 26, 26, 16, 16, 124, 96, 59, 26, 16, 63, 126, 172] := by decide +kernel
theorem dJ6_bitCount_0f7a4_32 : decode cJ6_bitCount_0f7a4 32 = .ok (.iand, 1) := dz_126 (n := 32) (r := 0) hz_J6_bitCount_0f7a4_32 rfl
theorem dJ6_bitCount_0f7a4_33 : decode cJ6_bitCount_0f7a4 33 = .ok (.istore_n 0, 1) := dz_59 (n := 32) (r := 1) hz_J6_bitCount_0f7a4_32 rfl
theorem dJ6_bitCount_0f7a4_34 : decode cJ6_bitCount_0f7a4 34 = .ok (.iload_n 0, 1) := dz_26 (n := 32) (r := 2) hz_J6_bitCount_0f7a4_32 rfl
theorem dJ6_bitCount_0f7a4_35 : decode cJ6_bitCount_0f7a4 35 = .ok (.iload_n 0, 1) := dz_26 (n := 32) (r := 3) hz_J6_bitCount_0f7a4_32 rfl
theorem dJ6_bitCount_0f7a4_36 : decode cJ6_bitCount_0f7a4 36 = .ok (.bipush 8, 2) := dz_16 (n := 32) (r := 4) hz_J6_bitCount_0f7a4_32 rfl rfl
theorem dJ6_bitCount_0f7a4_38 : decode cJ6_bitCount_0f7a4 38 = .ok (.iushr, 1) := dz_124 (n := 32) (r := 6) hz_J6_bitCount_0f7a4_32 rfl
theorem dJ6_bitCount_0f7a4_39 : decode cJ6_bitCount_0f7a4 39 = .ok (.iadd, 1) := dz_96 (n := 32) (r := 7) hz_J6_bitCount_0f7a4_32 rfl
theorem dJ6_bitCount_0f7a4_40 : decode cJ6_bitCount_0f7a4 40 = .ok (.istore_n 0, 1) := dz_59 (n := 32) (r := 8) hz_J6_bitCount_0f7a4_32 rfl
theorem dJ6_bitCount_0f7a4_41 : decode cJ6_bitCount_0f7a4 41 = .ok (.iload_n 0, 1) := dz_26 (n := 32) (r := 9) hz_J6_bitCount_0f7a4_32 rfl
theorem dJ6_bitCount_0f7a4_42 : decode cJ6_bitCount_0f7a4 42 = .ok (.iload_n 0, 1) := dz_26 (n := 32) (r := 10) hz_J6_bitCount_0f7a4_32 rfl
theorem dJ6_bitCount_0f7a4_43 : decode cJ6_bitCount_0f7a4 43 = .ok (.bipush 16, 2) := dz_16 (n := 32) (r := 11) hz_J6_bitCount_0f7a4_32 rfl rfl
theorem dJ6_bitCount_0f7a4_45 : decode cJ6_bitCount_0f7a4 45 = .ok (.iushr, 1) := dz_124 (n := 32) (r := 13) hz_J6_bitCount_0f7a4_32 rfl
theorem dJ6_bitCount_0f7a4_46 : decode cJ6_bitCount_0f7a4 46 = .ok (.iadd, 1) := dz_96 (n := 32) (r := 14) hz_J6_bitCount_0f7a4_32 rfl
theorem dJ6_bitCount_0f7a4_47 : decode cJ6_bitCount_0f7a4 47 = .ok (.istore_n 0, 1) := dz_59 (n := 32) (r := 15) hz_J6_bitCount_0f7a4_32 rfl
theorem dJ6_bitCount_0f7a4_48 : decode cJ6_bitCount_0f7a4 48 = .ok (.iload_n 0, 1) := dz_26 (n := 32) (r := 16) hz_J6_bitCount_0f7a4_32 rfl
theorem dJ6_bitCount_0f7a4_49 : decode cJ6_bitCount_0f7a4 49 = .ok (.bipush 63, 2) := dz_16 (n := 32) (r := 17) hz_J6_bitCount_0f7a4_32 rfl rfl
theorem dJ6_bitCount_0f7a4_51 : decode cJ6_bitCount_0f7a4 51 = .ok (.iand, 1) := dz_126 (n := 32) (r := 19) hz_J6_bitCount_0f7a4_32 rfl
theorem dJ6_bitCount_0f7a4_52 : decode cJ6_bitCount_0f7a4 52 = .ok (.ireturn, 1) := dz_172 (n := 32) (r := 20) hz_J6_bitCount_0f7a4_32 rfl
theorem hz_J6_signum_0f7a4_0 : (cJ6_signum_0f7a4.data.toList.drop 0).take 40 = [26, 16, 31, 122, 26, 116, 16, 31, 124, 128, 172] := by decide +kernel
theorem dJ6_signum_0f7a4_0 : decode cJ6_signum_0f7a4 0 = .ok (.iload_n 0, 1) := dz_26 (n := 0) (r := 0) hz_J6_signum_0f7a4_0 rfl
theorem dJ6_signum_0f7a4_1 : decode cJ6_signum_0f7a4 1 = .ok (.bipush 31, 2) := dz_16 (n := 0) (r := 1) hz_J6_signum_0f7a4_0 rfl rfl
theorem dJ6_signum_0f7a4_3 : decode cJ6_signum_0f7a4 3 = .ok (.ishr, 1) := dz_122 (n := 0) (r := 3) hz_J6_signum_0f7a4_0 rfl
theorem dJ6_signum_0f7a4_4 : decode cJ6_signum_0f7a4 4 = .ok (.iload_n 0, 1) := dz_26 (n := 0) (r := 4) hz_J6_signum_0f7a4_0 rfl
theorem dJ6_signum_0f7a4_5 : decode cJ6_signum_0f7a4 5 = .ok (.ineg, 1) := dz_116 (n := 0) (r := 5) hz_J6_signum_0f7a4_0 rfl
theorem dJ6_signum_0f7a4_6 : decode cJ6_signum_0f7a4 6 = .ok (.bipush 31, 2) := dz_16 (n := 0) (r := 6) hz_J6_signum_0f7a4_0 rfl rfl
theorem dJ6_signum_0f7a4_8 : decode cJ6_signum_0f7a4 8 = .ok (.iushr, 1) := dz_124 (n := 0) (r := 8) hz_J6_signum_0f7a4_0 rfl
theorem dJ6_signum_0f7a4_9 : decode cJ6_signum_0f7a4 9 = .ok (.ior, 1) := dz_128 (n := 0) (r := 9) hz_J6_signum_0f7a4_0 rfl
theorem dJ6_signum_0f7a4_10 : decode cJ6_signum_0f7a4 10 = .ok (.ireturn, 1) := dz_172 (n := 0) (r := 10) hz_J6_signum_0f7a4_0 rfl
theorem hz_J9_abs_0f7a4_0 : (cJ9_abs_0f7a4.data.toList.drop 0).take 40 = [26, 156, 0, 8, 26, 116, 167, 0, 4, 26, 172] := by decide +kernel
theorem dJ9_abs_0f7a4_0 : decode cJ9_abs_0f7a4 0 = .ok (.iload_n 0, 1) := dz_26 (n := 0) (r := 0) hz_J9_abs_0f7a4_0 rfl
theorem dJ9_abs_0f7a4_1 : decode cJ9_abs_0f7a4 1 = .ok (.ifCond .ge 8, 3) := dz_156 (n := 0) (r := 1) hz_J9_abs_0f7a4_0 rfl (by decide +kernel)
theorem dJ9_abs_0f7a4_4 : decode cJ9_abs_0f7a4 4 = .ok (.iload_n 0, 1) := dz_26 (n := 0) (r := 4) hz_J9_abs_0f7a4_0 rfl
theorem dJ9_abs_0f7a4_5 : decode cJ9_abs_0f7a4 5 = .ok (.ineg, 1) := dz_116 (n := 0) (r := 5) hz_J9_abs_0f7a4_0 rfl
theorem dJ9_abs_0f7a4_6 : decode cJ9_abs_0f7a4 6 = .ok (.goto 4, 3) := dz_167 (n := 0) (r := 6) hz_J9_abs_0f7a4_0 rfl (by decide +kernel)
theorem dJ9_abs_0f7a4_9 : decode cJ9_abs_0f7a4 9 = .ok (.iload_n 0, 1) := dz_26 (n := 0) (r := 9) hz_J9_abs_0f7a4_0 rfl
theorem dJ9_abs_0f7a4_10 : decode cJ9_abs_0f7a4 10 = .ok (.ireturn, 1) := dz_172 (n := 0) (r := 10) hz_J9_abs_0f7a4_0 rfl
theorem hz_J9_max_7cf53_0 : (cJ9_max_7cf53.data.toList.drop 0).take 40 = [26, 27, 161, 0, 7, 26, 167, 0, 4, 27, 172] := by decide +kernel
theorem dJ9_max_7cf53_0 : decode cJ9_max_7cf53 0 = .ok (.iload_n 0, 1) := dz_26 (n := 0) (r := 0) hz_J9_max_7cf53_0 rfl
theorem dJ9_max_7cf53_1 : decode cJ9_max_7cf53 1 = .ok (.iload_n 1, 1) := dz_27 (n := 0) (r := 1) hz_J9_max_7cf53_0 rfl
theorem dJ9_max_7cf53_2 : decode cJ9_max_7cf53 2 = .ok (.if_icmp .lt 7, 3) := dz_161 (n := 0) (r := 2) hz_J9_max_7cf53_0 rfl (by decide +kernel)
theorem dJ9_max_7cf53_5 : decode cJ9_max_7cf53 5 = .ok (.iload_n 0, 1) := dz_26 (n := 0) (r := 5) hz_J9_max_7cf53_0 rfl
theorem dJ9_max_7cf53_6 : decode cJ9_max_7cf53 6 = .ok (.goto 4, 3) := dz_167 (n := 0) (r := 6) hz_J9_max_7cf53_0 rfl (by decide +kernel)
theorem dJ9_max_7cf53_9 : decode cJ9_max_7cf53 9 = .ok (.iload_n 1, 1) := dz_27 (n := 0) (r := 9) hz_J9_max_7cf53_0 rfl
theorem dJ9_max_7cf53_10 : decode cJ9_max_7cf53 10 = .ok (.ireturn, 1) := dz_172 (n := 0) (r := 10) hz_J9_max_7cf53_0 rfl
theorem hz_J9_min_7cf53_0 : (cJ9_min_7cf53.data.toList.drop 0).take 40 = [26, 27, 163, 0, 7, 26, 167, 0, 4, 27, 172] := by decide +kernel
theorem dJ9_min_7cf53_0 : decode cJ9_min_7cf53 0 = .ok (.iload_n 0, 1) := dz_26 (n := 0) (r := 0) hz_J9_min_7cf53_0 rfl
theorem dJ9_min_7cf53_1 : decode cJ9_min_7cf53 1 = .ok (.iload_n 1, 1) := dz_27 (n := 0) (r := 1) hz_J9_min_7cf53_0 rfl
theorem dJ9_min_7cf53_2 : decode cJ9_min_7cf53 2 = .ok (.if_icmp .gt 7, 3) := dz_163 (n := 0) (r := 2) hz_J9_min_7cf53_0 rfl (by decide +kernel)
theorem dJ9_min_7cf53_5 : decode cJ9_min_7cf53 5 = .ok (.iload_n 0, 1) := dz_26 (n := 0) (r := 5) hz_J9_min_7cf53_0 rfl
theorem dJ9_min_7cf53_6 : decode cJ9_min_7cf53 6 = .ok (.goto 4, 3) := dz_167 (n := 0) (r := 6) hz_J9_min_7cf53_0 rfl (by decide +kernel)
theorem dJ9_min_7cf53_9 : decode cJ9_min_7cf53 9 = .ok (.iload_n 1, 1) := dz_27 (n := 0) (r := 9) hz_J9_min_7cf53_0 rfl
theorem dJ9_min_7cf53_10 : decode cJ9_min_7cf53 10 = .ok (.ireturn, 1) := dz_172 (n := 0) (r := 10) hz_J9_min_7cf53_0 rfl
theorem hz_J0_length_8abf5_0 : (cJ0_length_8abf5.data.toList.drop 0).take 40 = [42, 180, 0, 9, 190, 42, 182, 1, 79, 122, 172] := by decide +kernel
theorem dJ0_length_8abf5_0 : decode cJ0_length_8abf5 0 = .ok (.aload_n 0, 1) := dz_42 (n := 0) (r := 0) hz_J0_length_8abf5_0 rfl
theorem dJ0_length_8abf5_1 : decode cJ0_length_8abf5 1 = .ok (.getfield 9, 3) := dz_180 (n := 0) (r := 1) hz_J0_length_8abf5_0 rfl rfl
theorem dJ0_length_8abf5_4 : decode cJ0_length_8abf5 4 = .ok (.arraylength, 1) := dz_190 (n := 0) (r := 4) hz_J0_length_8abf5_0 rfl
theorem dJ0_length_8abf5_5 : decode cJ0_length_8abf5 5 = .ok (.aload_n 0, 1) := dz_42 (n := 0) (r := 5) hz_J0_length_8abf5_0 rfl
theorem dJ0_length_8abf5_6 : decode cJ0_length_8abf5 6 = .ok (.invokevirtual 335, 3) := dz_182 (n := 0) (r := 6) hz_J0_length_8abf5_0 rfl rfl
theorem dJ0_length_8abf5_9 : decode cJ0_length_8abf5 9 = .ok (.ishr, 1) := dz_122 (n := 0) (r := 9) hz_J0_length_8abf5_0 rfl
theorem dJ0_length_8abf5_10 : decode cJ0_length_8abf5 10 = .ok (.ireturn, 1) := dz_172 (n := 0) (r := 10) hz_J0_length_8abf5_0 rfl
theorem hz_J0_charAt_5068e_0 : (cJ0_charAt_5068e.data.toList.drop 0).take 40 = [42, 182, 1, 236, 153, 0, 12, 42, 180, 0, 9, 27, 184, 1, 239, 172, 42, 180, 0, 9, 27, 184, 1, 242, 172] := by decide +kernel
theorem dJ0_charAt_5068e_0 : decode cJ0_charAt_5068e 0 = .ok (.aload_n 0, 1) := dz_42 (n := 0) (r := 0) hz_J0_charAt_5068e_0 rfl
theorem dJ0_charAt_5068e_1 : decode cJ0_charAt_5068e 1 = .ok (.invokevirtual 492, 3) := dz_182 (n := 0) (r := 1) hz_J0_charAt_5068e_0 rfl rfl
theorem dJ0_charAt_5068e_4 : decode cJ0_charAt_5068e 4 = .ok (.ifCond .eq 12, 3) := dz_153 (n := 0) (r := 4) hz_J0_charAt_5068e_0 rfl (by decide +kernel)
theorem dJ0_charAt_5068e_7 : decode cJ0_charAt_5068e 7 = .ok (.aload_n 0, 1) := dz_42 (n := 0) (r := 7) hz_J0_charAt_5068e_0 rfl
theorem dJ0_charAt_5068e_8 : decode cJ0_charAt_5068e 8 = .ok (.getfield 9, 3) := dz_180 (n := 0) (r := 8) hz_J0_charAt_5068e_0 rfl rfl
theorem dJ0_charAt_5068e_11 : decode cJ0_charAt_5068e 11 = .ok (.iload_n 1, 1) := dz_27 (n := 0) (r := 11) hz_J0_charAt_5068e_0 rfl
theorem dJ0_charAt_5068e_12 : decode cJ0_charAt_5068e 12 = .ok (.invokestatic 495, 3) := dz_184 (n := 0) (r := 12) hz_J0_charAt_5068e_0 rfl rfl
theorem dJ0_charAt_5068e_15 : decode cJ0_charAt_5068e 15 = .ok (.ireturn, 1) := dz_172 (n := 0) (r := 15) hz_J0_charAt_5068e_0 rfl
theorem dJ0_charAt_5068e_16 : decode cJ0_charAt_5068e 16 = .ok (.aload_n 0, 1) := dz_42 (n := 0) (r := 16) hz_J0_charAt_5068e_0 rfl
theorem dJ0_charAt_5068e_17 : decode cJ0_charAt_5068e 17 = .ok (.getfield 9, 3) := dz_180 (n := 0) (r := 17) hz_J0_charAt_5068e_0 rfl rfl
theorem dJ0_charAt_5068e_20 : decode cJ0_charAt_5068e 20 = .ok (.iload_n 1, 1) := dz_27 (n := 0) (r := 20) hz_J0_charAt_5068e_0 rfl
theorem dJ0_charAt_5068e_21 : decode cJ0_charAt_5068e 21 = .ok (.invokestatic 498, 3) := dz_184 (n := 0) (r := 21) hz_J0_charAt_5068e_0 rfl rfl
theorem dJ0_charAt_5068e_24 : decode cJ0_charAt_5068e 24 = .ok (.ireturn, 1) := dz_172 (n := 0) (r := 24) hz_J0_charAt_5068e_0 rfl
theorem hz_J0_coder_7d493_0 : (cJ0_coder_7d493.data.toList.drop 0).take 40 = [178, 0, 38, 153, 0, 10, 42, 180, 0, 15, 167, 0, 4, 4, 172] := by decide +kernel
theorem dJ0_coder_7d493_0 : decode cJ0_coder_7d493 0 = .ok (.getstatic 38, 3) := dz_178 (n := 0) (r := 0) hz_J0_coder_7d493_0 rfl rfl
theorem dJ0_coder_7d493_3 : decode cJ0_coder_7d493 3 = .ok (.ifCond .eq 10, 3) := dz_153 (n := 0) (r := 3) hz_J0_coder_7d493_0 rfl (by decide +kernel)
theorem dJ0_coder_7d493_6 : decode cJ0_coder_7d493 6 = .ok (.aload_n 0, 1) := dz_42 (n := 0) (r := 6) hz_J0_coder_7d493_0 rfl
theorem dJ0_coder_7d493_7 : decode cJ0_coder_7d493 7 = .ok (.getfield 15, 3) := dz_180 (n := 0) (r := 7) hz_J0_coder_7d493_0 rfl rfl
theorem dJ0_coder_7d493_10 : decode cJ0_coder_7d493 10 = .ok (.goto 4, 3) := dz_167 (n := 0) (r := 10) hz_J0_coder_7d493_0 rfl (by decide +kernel)
theorem dJ0_coder_7d493_13 : decode cJ0_coder_7d493 13 = .ok (.iconst 1, 1) := dz_4 (n := 0) (r := 13) hz_J0_coder_7d493_0 rfl
theorem dJ0_coder_7d493_14 : decode cJ0_coder_7d493 14 = .ok (.ireturn, 1) := dz_172 (n := 0) (r := 14) hz_J0_coder_7d493_0 rfl
theorem hz_J0_isLatin1_aae02_0 : (cJ0_isLatin1_aae02.data.toList.drop 0).take 40 = [178, 0, 38, 153, 0, 14, 42, 180, 0, 15, 154, 0, 7, 4, 167, 0, 4, 3, 172] := by decide +kernel
theorem dJ0_isLatin1_aae02_0 : decode cJ0_isLatin1_aae02 0 = .ok (.getstatic 38, 3) := dz_178 (n := 0) (r := 0) hz_J0_isLatin1_aae02_0 rfl rfl
theorem dJ0_isLatin1_aae02_3 : decode cJ0_isLatin1_aae02 3 = .ok (.ifCond .eq 14, 3) := dz_153 (n := 0) (r := 3) hz_J0_isLatin1_aae02_0 rfl (by decide +kernel)
theorem dJ0_isLatin1_aae02_6 : decode cJ0_isLatin1_aae02 6 = .ok (.aload_n 0, 1) := dz_42 (n := 0) (r := 6) hz_J0_isLatin1_aae02_0 rfl
theorem dJ0_isLatin1_aae02_7 : decode cJ0_isLatin1_aae02 7 = .ok (.getfield 15, 3) := dz_180 (n := 0) (r := 7) hz_J0_isLatin1_aae02_0 rfl rfl
theorem dJ0_isLatin1_aae02_10 : decode cJ0_isLatin1_aae02 10 = .ok (.ifCond .ne 7, 3) := dz_154 (n := 0) (r := 10) hz_J0_isLatin1_aae02_0 rfl (by decide +kernel)
theorem dJ0_isLatin1_aae02_13 : decode cJ0_isLatin1_aae02 13 = .ok (.iconst 1, 1) := dz_4 (n := 0) (r := 13) hz_J0_isLatin1_aae02_0 rfl
theorem dJ0_isLatin1_aae02_14 : decode cJ0_isLatin1_aae02 14 = .ok (.goto 4, 3) := dz_167 (n := 0) (r := 14) hz_J0_isLatin1_aae02_0 rfl (by decide +kernel)
theorem dJ0_isLatin1_aae02_17 : decode cJ0_isLatin1_aae02 17 = .ok (.iconst 0, 1) := dz_3 (n := 0) (r := 17) hz_J0_isLatin1_aae02_0 rfl
theorem dJ0_isLatin1_aae02_18 : decode cJ0_isLatin1_aae02 18 = .ok (.ireturn, 1) := dz_172 (n := 0) (r := 18) hz_J0_isLatin1_aae02_0 rfl
theorem hz_J0_checkIndex_df160_0 : (cJ0_checkIndex_df160.data.toList.drop 0).take 40 = [26, 27, 178, 4, 29, 184, 4, 35, 87, 177] := by decide +kernel
theorem dJ0_checkIndex_df160_0 : decode cJ0_checkIndex_df160 0 = .ok (.iload_n 0, 1) := dz_26 (n := 0) (r := 0) hz_J0_checkIndex_df160_0 rfl
theorem dJ0_checkIndex_df160_1 : decode cJ0_checkIndex_df160 1 = .ok (.iload_n 1, 1) := dz_27 (n := 0) (r := 1) hz_J0_checkIndex_df160_0 rfl
theorem dJ0_checkIndex_df160_2 : decode cJ0_checkIndex_df160 2 = .ok (.getstatic 1053, 3) := dz_178 (n := 0) (r := 2) hz_J0_checkIndex_df160_0 rfl rfl
theorem dJ0_checkIndex_df160_5 : decode cJ0_checkIndex_df160 5 = .ok (.invokestatic 1059, 3) := dz_184 (n := 0) (r := 5) hz_J0_checkIndex_df160_0 rfl rfl
theorem dJ0_checkIndex_df160_8 : decode cJ0_checkIndex_df160 8 = .ok (.pop, 1) := dz_87 (n := 0) (r := 8) hz_J0_checkIndex_df160_0 rfl
theorem dJ0_checkIndex_df160_9 : decode cJ0_checkIndex_df160 9 = .ok (.return_, 1) := dz_177 (n := 0) (r := 9) hz_J0_checkIndex_df160_0 rfl
theorem hz_J1_charAt_3b067_0 : (cJ1_charAt_3b067.data.toList.drop 0).take 40 = [27, 42, 190, 184, 0, 9, 42, 27, 51, 17, 0, 255, 126, 146, 172] := by decide +kernel
theorem dJ1_charAt_3b067_0 : decode cJ1_charAt_3b067 0 = .ok (.iload_n 1, 1) := dz_27 (n := 0) (r := 0) hz_J1_charAt_3b067_0 rfl
theorem dJ1_charAt_3b067_1 : decode cJ1_charAt_3b067 1 = .ok (.aload_n 0, 1) := dz_42 (n := 0) (r := 1) hz_J1_charAt_3b067_0 rfl
theorem dJ1_charAt_3b067_2 : decode cJ1_charAt_3b067 2 = .ok (.arraylength, 1) := dz_190 (n := 0) (r := 2) hz_J1_charAt_3b067_0 rfl
theorem dJ1_charAt_3b067_3 : decode cJ1_charAt_3b067 3 = .ok (.invokestatic 9, 3) := dz_184 (n := 0) (r := 3) hz_J1_charAt_3b067_0 rfl rfl
theorem dJ1_charAt_3b067_6 : decode cJ1_charAt_3b067 6 = .ok (.aload_n 0, 1) := dz_42 (n := 0) (r := 6) hz_J1_charAt_3b067_0 rfl
theorem dJ1_charAt_3b067_7 : decode cJ1_charAt_3b067 7 = .ok (.iload_n 1, 1) := dz_27 (n := 0) (r := 7) hz_J1_charAt_3b067_0 rfl
theorem dJ1_charAt_3b067_8 : decode cJ1_charAt_3b067 8 = .ok (.baload, 1) := dz_51 (n := 0) (r := 8) hz_J1_charAt_3b067_0 rfl
theorem dJ1_charAt_3b067_9 : decode cJ1_charAt_3b067 9 = .ok (.sipush 255, 3) := dz_17 (n := 0) (r := 9) hz_J1_charAt_3b067_0 rfl (by decide +kernel)
theorem dJ1_charAt_3b067_12 : decode cJ1_charAt_3b067 12 = .ok (.iand, 1) := dz_126 (n := 0) (r := 12) hz_J1_charAt_3b067_0 rfl
theorem dJ1_charAt_3b067_13 : decode cJ1_charAt_3b067 13 = .ok (.i2c, 1) := dz_146 (n := 0) (r := 13) hz_J1_charAt_3b067_0 rfl
theorem dJ1_charAt_3b067_14 : decode cJ1_charAt_3b067 14 = .ok (.ireturn, 1) := dz_172 (n := 0) (r := 14) hz_J1_charAt_3b067_0 rfl
theorem hz_J2_getChar_3b067_0 : (cJ2_getChar_3b067.data.toList.drop 0).take 40 = [178, 0, 44, 154, 0, 25, 27, 155, 0, 11, 27, 42, 184, 0, 48, 161, 0, 13, 187, 0, 52, 89, 18, 54, 183, 0, 56, 191, 27, 4, 120, 60, 42, 27, 132, 1, 1, 51, 17, 0] := by decide +kernel
theorem dJ2_getChar_3b067_0 : decode cJ2_getChar_3b067 0 = .ok (.getstatic 44, 3) := dz_178 (n := 0) (r := 0) hz_J2_getChar_3b067_0 rfl rfl
theorem dJ2_getChar_3b067_3 : decode cJ2_getChar_3b067 3 = .ok (.ifCond .ne 25, 3) := dz_154 (n := 0) (r := 3) hz_J2_getChar_3b067_0 rfl (by decide +kernel)
theorem dJ2_getChar_3b067_6 : decode cJ2_getChar_3b067 6 = .ok (.iload_n 1, 1) := dz_27 (n := 0) (r := 6) hz_J2_getChar_3b067_0 rfl
theorem dJ2_getChar_3b067_7 : decode cJ2_getChar_3b067 7 = .ok (.ifCond .lt 11, 3) := dz_155 (n := 0) (r := 7) hz_J2_getChar_3b067_0 rfl (by decide +kernel)
theorem dJ2_getChar_3b067_10 : decode cJ2_getChar_3b067 10 = .ok (.iload_n 1, 1) := dz_27 (n := 0) (r := 10) hz_J2_getChar_3b067_0 rfl
theorem dJ2_getChar_3b067_11 : decode cJ2_getChar_3b067 11 = .ok (.aload_n 0, 1) := dz_42 (n := 0) (r := 11) hz_J2_getChar_3b067_0 rfl
theorem dJ2_getChar_3b067_12 : decode cJ2_getChar_3b067 12 = .ok (.invokestatic 48, 3) := dz_184 (n := 0) (r := 12) hz_J2_getChar_3b067_0 rfl rfl
theorem dJ2_getChar_3b067_15 : decode cJ2_getChar_3b067 15 = .ok (.if_icmp .lt 13, 3) := dz_161 (n := 0) (r := 15) hz_J2_getChar_3b067_0 rfl (by decide +kernel)
theorem dJ2_getChar_3b067_18 : decode cJ2_getChar_3b067 18 = .ok (.new 52, 3) := dz_187 (n := 0) (r := 18) hz_J2_getChar_3b067_0 rfl rfl
theorem dJ2_getChar_3b067_21 : decode cJ2_getChar_3b067 21 = .ok (.dup, 1) := dz_89 (n := 0) (r := 21) hz_J2_getChar_3b067_0 rfl
theorem dJ2_getChar_3b067_22 : decode cJ2_getChar_3b067 22 = .ok (.ldc 54, 2) := dz_18 (n := 0) (r := 22) hz_J2_getChar_3b067_0 rfl rfl
theorem dJ2_getChar_3b067_24 : decode cJ2_getChar_3b067 24 = .ok (.invokespecial 56, 3) := dz_183 (n := 0) (r := 24) hz_J2_getChar_3b067_0 rfl rfl
theorem dJ2_getChar_3b067_27 : decode cJ2_getChar_3b067 27 = .ok (.athrow, 1) := dz_191 (n := 0) (r := 27) hz_J2_getChar_3b067_0 rfl
theorem dJ2_getChar_3b067_28 : decode cJ2_getChar_3b067 28 = .ok (.iload_n 1, 1) := dz_27 (n := 0) (r := 28) hz_J2_getChar_3b067_0 rfl
theorem dJ2_getChar_3b067_29 : decode cJ2_getChar_3b067 29 = .ok (.iconst 1, 1) := dz_4 (n := 0) (r := 29) hz_J2_getChar_3b067_0 rfl
theorem dJ2_getChar_3b067_30 : decode cJ2_getChar_3b067 30 = .ok (.ishl, 1) := dz_120 (n := 0) (r := 30) hz_J2_getChar_3b067_0 rfl
theorem dJ2_getChar_3b067_31 : decode cJ2_getChar_3b067 31 = .ok (.istore_n 1, 1) := dz_60 (n := 0) (r := 31) hz_J2_getChar_3b067_0 rfl
theorem hz_J2_getChar_3b067_32 : (cJ2_getChar_3b067.data.toList.drop 32).take 40 = [42, 27, 132, 1, 1, 51, 17, 0, 255, 126, 178, 0, 59, 120, 42, 27, 51, 17, 0, 255, 126, 178, 0, 63, 120, 128, 146, 172] := by decide +kernel
theorem dJ2_getChar_3b067_32 : decode cJ2_getChar_3b067 32 = .ok (.aload_n 0, 1) := dz_42 (n := 32) (r := 0) hz_J2_getChar_3b067_32 rfl
theorem dJ2_getChar_3b067_33 : decode cJ2_getChar_3b067 33 = .ok (.iload_n 1, 1) := dz_27 (n := 32) (r := 1) hz_J2_getChar_3b067_32 rfl
theorem dJ2_getChar_3b067_34 : decode cJ2_getChar_3b067 34 = .ok (.iinc 1 1, 3) := dz_132 (n := 32) (r := 2) hz_J2_getChar_3b067_32 rfl rfl rfl
theorem dJ2_getChar_3b067_37 : decode cJ2_getChar_3b067 37 = .ok (.baload, 1) := dz_51 (n := 32) (r := 5) hz_J2_getChar_3b067_32 rfl
theorem dJ2_getChar_3b067_38 : decode cJ2_getChar_3b067 38 = .ok (.sipush 255, 3) := dz_17 (n := 32) (r := 6) hz_J2_getChar_3b067_32 rfl (by decide +kernel)
theorem dJ2_getChar_3b067_41 : decode cJ2_getChar_3b067 41 = .ok (.iand, 1) := dz_126 (n := 32) (r := 9) hz_J2_getChar_3b067_32 rfl
theorem dJ2_getChar_3b067_42 : decode cJ2_getChar_3b067 42 = .ok (.getstatic 59, 3) := dz_178 (n := 32) (r := 10) hz_J2_getChar_3b067_32 rfl rfl
theorem dJ2_getChar_3b067_45 : decode cJ2_getChar_3b067 45 = .ok (.ishl, 1) := dz_120 (n := 32) (r := 13) hz_J2_getChar_3b067_32 rfl
theorem dJ2_getChar_3b067_46 : decode cJ2_getChar_3b067 46 = .ok (.aload_n 0, 1) := dz_42 (n := 32) (r := 14) hz_J2_getChar_3b067_32 rfl
theorem dJ2_getChar_3b067_47 : decode cJ2_getChar_3b067 47 = .ok (.iload_n 1, 1) := dz_27 (n := 32) (r := 15) hz_J2_getChar_3b067_32 rfl
theorem dJ2_getChar_3b067_48 : decode cJ2_getChar_3b067 48 = .ok (.baload, 1) := dz_51 (n := 32) (r := 16) hz_J2_getChar_3b067_32 rfl
theorem dJ2_getChar_3b067_49 : decode cJ2_getChar_3b067 49 = .ok (.sipush 255, 3) := dz_17 (n := 32) (r := 17) hz_J2_getChar_3b067_32 rfl (by decide +kernel)
theorem dJ2_getChar_3b067_52 : decode cJ2_getChar_3b067 52 = .ok (.iand, 1) := dz_126 (n := 32) (r := 20) hz_J2_getChar_3b067_32 rfl
theorem dJ2_getChar_3b067_53 : decode cJ2_getChar_3b067 53 = .ok (.getstatic 63, 3) := dz_178 (n := 32) (r := 21) hz_J2_getChar_3b067_32 rfl rfl
theorem dJ2_getChar_3b067_56 : decode cJ2_getChar_3b067 56 = .ok (.ishl, 1) := dz_120 (n := 32) (r := 24) hz_J2_getChar_3b067_32 rfl
theorem dJ2_getChar_3b067_57 : decode cJ2_getChar_3b067 57 = .ok (.ior, 1) := dz_128 (n := 32) (r := 25) hz_J2_getChar_3b067_32 rfl
theorem dJ2_getChar_3b067_58 : decode cJ2_getChar_3b067 58 = .ok (.i2c, 1) := dz_146 (n := 32) (r := 26) hz_J2_getChar_3b067_32 rfl
theorem dJ2_getChar_3b067_59 : decode cJ2_getChar_3b067 59 = .ok (.ireturn, 1) := dz_172 (n := 32) (r := 27) hz_J2_getChar_3b067_32 rfl
theorem hz_J2_length_9d52b_0 : (cJ2_length_9d52b.data.toList.drop 0).take 40 = [42, 190, 4, 122, 172] := by decide +kernel
theorem dJ2_length_9d52b_0 : decode cJ2_length_9d52b 0 = .ok (.aload_n 0, 1) := dz_42 (n := 0) (r := 0) hz_J2_length_9d52b_0 rfl
theorem dJ2_length_9d52b_1 : decode cJ2_length_9d52b 1 = .ok (.arraylength, 1) := dz_190 (n := 0) (r := 1) hz_J2_length_9d52b_0 rfl
theorem dJ2_length_9d52b_2 : decode cJ2_length_9d52b 2 = .ok (.iconst 1, 1) := dz_4 (n := 0) (r := 2) hz_J2_length_9d52b_0 rfl
theorem dJ2_length_9d52b_3 : decode cJ2_length_9d52b 3 = .ok (.ishr, 1) := dz_122 (n := 0) (r := 3) hz_J2_length_9d52b_0 rfl
theorem dJ2_length_9d52b_4 : decode cJ2_length_9d52b 4 = .ok (.ireturn, 1) := dz_172 (n := 0) (r := 4) hz_J2_length_9d52b_0 rfl
theorem hz_J2_charAt_3b067_0 : (cJ2_charAt_3b067.data.toList.drop 0).take 40 = [27, 42, 184, 0, 67, 42, 27, 184, 0, 71, 172] := by decide +kernel
theorem dJ2_charAt_3b067_0 : decode cJ2_charAt_3b067 0 = .ok (.iload_n 1, 1) := dz_27 (n := 0) (r := 0) hz_J2_charAt_3b067_0 rfl
theorem dJ2_charAt_3b067_1 : decode cJ2_charAt_3b067 1 = .ok (.aload_n 0, 1) := dz_42 (n := 0) (r := 1) hz_J2_charAt_3b067_0 rfl
theorem dJ2_charAt_3b067_2 : decode cJ2_charAt_3b067 2 = .ok (.invokestatic 67, 3) := dz_184 (n := 0) (r := 2) hz_J2_charAt_3b067_0 rfl rfl
theorem dJ2_charAt_3b067_5 : decode cJ2_charAt_3b067 5 = .ok (.aload_n 0, 1) := dz_42 (n := 0) (r := 5) hz_J2_charAt_3b067_0 rfl
theorem dJ2_charAt_3b067_6 : decode cJ2_charAt_3b067 6 = .ok (.iload_n 1, 1) := dz_27 (n := 0) (r := 6) hz_J2_charAt_3b067_0 rfl
theorem dJ2_charAt_3b067_7 : decode cJ2_charAt_3b067 7 = .ok (.invokestatic 71, 3) := dz_184 (n := 0) (r := 7) hz_J2_charAt_3b067_0 rfl rfl
theorem dJ2_charAt_3b067_10 : decode cJ2_charAt_3b067 10 = .ok (.ireturn, 1) := dz_172 (n := 0) (r := 10) hz_J2_charAt_3b067_0 rfl
theorem hz_J2_checkIndex_2214a_0 : (cJ2_checkIndex_2214a.data.toList.drop 0).take 40 = [26, 43, 184, 0, 48, 184, 1, 158, 177] := by decide +kernel
theorem dJ2_checkIndex_2214a_0 : decode cJ2_checkIndex_2214a 0 = .ok (.iload_n 0, 1) := dz_26 (n := 0) (r := 0) hz_J2_checkIndex_2214a_0 rfl
theorem dJ2_checkIndex_2214a_1 : decode cJ2_checkIndex_2214a 1 = .ok (.aload_n 1, 1) := dz_43 (n := 0) (r := 1) hz_J2_checkIndex_2214a_0 rfl
theorem dJ2_checkIndex_2214a_2 : decode cJ2_checkIndex_2214a 2 = .ok (.invokestatic 48, 3) := dz_184 (n := 0) (r := 2) hz_J2_checkIndex_2214a_0 rfl rfl
theorem dJ2_checkIndex_2214a_5 : decode cJ2_checkIndex_2214a 5 = .ok (.invokestatic 414, 3) := dz_184 (n := 0) (r := 5) hz_J2_checkIndex_2214a_0 rfl rfl
theorem dJ2_checkIndex_2214a_8 : decode cJ2_checkIndex_2214a 8 = .ok (.return_, 1) := dz_177 (n := 0) (r := 8) hz_J2_checkIndex_2214a_0 rfl
theorem hz_J7_fill_d0a16_0 : (cJ7_fill_d0a16.data.toList.drop 0).take 40 = [3, 62, 42, 190, 54, 4, 29, 21, 4, 162, 0, 13, 42, 29, 31, 80, 132, 3, 1, 167, 255, 243, 177] := by decide +kernel
theorem dJ7_fill_d0a16_0 : decode cJ7_fill_d0a16 0 = .ok (.iconst 0, 1) := dz_3 (n := 0) (r := 0) hz_J7_fill_d0a16_0 rfl
theorem dJ7_fill_d0a16_1 : decode cJ7_fill_d0a16 1 = .ok (.istore_n 3, 1) := dz_62 (n := 0) (r := 1) hz_J7_fill_d0a16_0 rfl
theorem dJ7_fill_d0a16_2 : decode cJ7_fill_d0a16 2 = .ok (.aload_n 0, 1) := dz_42 (n := 0) (r := 2) hz_J7_fill_d0a16_0 rfl
theorem dJ7_fill_d0a16_3 : decode cJ7_fill_d0a16 3 = .ok (.arraylength, 1) := dz_190 (n := 0) (r := 3) hz_J7_fill_d0a16_0 rfl
theorem dJ7_fill_d0a16_4 : decode cJ7_fill_d0a16 4 = .ok (.istore 4, 2) := dz_54 (n := 0) (r := 4) hz_J7_fill_d0a16_0 rfl rfl
theorem dJ7_fill_d0a16_6 : decode cJ7_fill_d0a16 6 = .ok (.iload_n 3, 1) := dz_29 (n := 0) (r := 6) hz_J7_fill_d0a16_0 rfl
theorem dJ7_fill_d0a16_7 : decode cJ7_fill_d0a16 7 = .ok (.iload 4, 2) := dz_21 (n := 0) (r := 7) hz_J7_fill_d0a16_0 rfl rfl
theorem dJ7_fill_d0a16_9 : decode cJ7_fill_d0a16 9 = .ok (.if_icmp .ge 13, 3) := dz_162 (n := 0) (r := 9) hz_J7_fill_d0a16_0 rfl (by decide +kernel)
theorem dJ7_fill_d0a16_12 : decode cJ7_fill_d0a16 12 = .ok (.aload_n 0, 1) := dz_42 (n := 0) (r := 12) hz_J7_fill_d0a16_0 rfl
theorem dJ7_fill_d0a16_13 : decode cJ7_fill_d0a16 13 = .ok (.iload_n 3, 1) := dz_29 (n := 0) (r := 13) hz_J7_fill_d0a16_0 rfl
theorem dJ7_fill_d0a16_14 : decode cJ7_fill_d0a16 14 = .ok (.lload_n 1, 1) := dz_31 (n := 0) (r := 14) hz_J7_fill_d0a16_0 rfl
theorem dJ7_fill_d0a16_15 : decode cJ7_fill_d0a16 15 = .ok (.lastore, 1) := dz_80 (n := 0) (r := 15) hz_J7_fill_d0a16_0 rfl
theorem dJ7_fill_d0a16_16 : decode cJ7_fill_d0a16 16 = .ok (.iinc 3 1, 3) := dz_132 (n := 0) (r := 16) hz_J7_fill_d0a16_0 rfl rfl rfl
theorem dJ7_fill_d0a16_19 : decode cJ7_fill_d0a16 19 = .ok (.goto (-13), 3) := dz_167 (n := 0) (r := 19) hz_J7_fill_d0a16_0 rfl (by decide +kernel)
theorem dJ7_fill_d0a16_22 : decode cJ7_fill_d0a16 22 = .ok (.return_, 1) := dz_177 (n := 0) (r := 22) hz_J7_fill_d0a16_0 rfl
theorem hz_J7_fill_53178_0 : (cJ7_fill_53178.data.toList.drop 0).take 40 = [3, 61, 42, 190, 62, 28, 29, 162, 0, 13, 42, 28, 27, 79, 132, 2, 1, 167, 255, 244, 177] := by decide +kernel
theorem dJ7_fill_53178_0 : decode cJ7_fill_53178 0 = .ok (.iconst 0, 1) := dz_3 (n := 0) (r := 0) hz_J7_fill_53178_0 rfl
theorem dJ7_fill_53178_1 : decode cJ7_fill_53178 1 = .ok (.istore_n 2, 1) := dz_61 (n := 0) (r := 1) hz_J7_fill_53178_0 rfl
theorem dJ7_fill_53178_2 : decode cJ7_fill_53178 2 = .ok (.aload_n 0, 1) := dz_42 (n := 0) (r := 2) hz_J7_fill_53178_0 rfl
theorem dJ7_fill_53178_3 : decode cJ7_fill_53178 3 = .ok (.arraylength, 1) := dz_190 (n := 0) (r := 3) hz_J7_fill_53178_0 rfl
theorem dJ7_fill_53178_4 : decode cJ7_fill_53178 4 = .ok (.istore_n 3, 1) := dz_62 (n := 0) (r := 4) hz_J7_fill_53178_0 rfl
theorem dJ7_fill_53178_5 : decode cJ7_fill_53178 5 = .ok (.iload_n 2, 1) := dz_28 (n := 0) (r := 5) hz_J7_fill_53178_0 rfl
theorem dJ7_fill_53178_6 : decode cJ7_fill_53178 6 = .ok (.iload_n 3, 1) := dz_29 (n := 0) (r := 6) hz_J7_fill_53178_0 rfl
theorem dJ7_fill_53178_7 : decode cJ7_fill_53178 7 = .ok (.if_icmp .ge 13, 3) := dz_162 (n := 0) (r := 7) hz_J7_fill_53178_0 rfl (by decide +kernel)
theorem dJ7_fill_53178_10 : decode cJ7_fill_53178 10 = .ok (.aload_n 0, 1) := dz_42 (n := 0) (r := 10) hz_J7_fill_53178_0 rfl
theorem dJ7_fill_53178_11 : decode cJ7_fill_53178 11 = .ok (.iload_n 2, 1) := dz_28 (n := 0) (r := 11) hz_J7_fill_53178_0 rfl
theorem dJ7_fill_53178_12 : decode cJ7_fill_53178 12 = .ok (.iload_n 1, 1) := dz_27 (n := 0) (r := 12) hz_J7_fill_53178_0 rfl
theorem dJ7_fill_53178_13 : decode cJ7_fill_53178 13 = .ok (.iastore, 1) := dz_79 (n := 0) (r := 13) hz_J7_fill_53178_0 rfl
theorem dJ7_fill_53178_14 : decode cJ7_fill_53178 14 = .ok (.iinc 2 1, 3) := dz_132 (n := 0) (r := 14) hz_J7_fill_53178_0 rfl rfl rfl
theorem dJ7_fill_53178_17 : decode cJ7_fill_53178 17 = .ok (.goto (-12), 3) := dz_167 (n := 0) (r := 17) hz_J7_fill_53178_0 rfl (by decide +kernel)
theorem dJ7_fill_53178_20 : decode cJ7_fill_53178 20 = .ok (.return_, 1) := dz_177 (n := 0) (r := 20) hz_J7_fill_53178_0 rfl
theorem hz_J3_checkIndex_8e157_0 : (cJ3_checkIndex_8e157.data.toList.drop 0).take 40 = [26, 155, 0, 8, 26, 27, 161, 0, 10, 44, 26, 27, 184, 0, 95, 191, 26, 172] := by decide +kernel
theorem dJ3_checkIndex_8e157_0 : decode cJ3_checkIndex_8e157 0 = .ok (.iload_n 0, 1) := dz_26 (n := 0) (r := 0) hz_J3_checkIndex_8e157_0 rfl
theorem dJ3_checkIndex_8e157_1 : decode cJ3_checkIndex_8e157 1 = .ok (.ifCond .lt 8, 3) := dz_155 (n := 0) (r := 1) hz_J3_checkIndex_8e157_0 rfl (by decide +kernel)
theorem dJ3_checkIndex_8e157_4 : decode cJ3_checkIndex_8e157 4 = .ok (.iload_n 0, 1) := dz_26 (n := 0) (r := 4) hz_J3_checkIndex_8e157_0 rfl
theorem dJ3_checkIndex_8e157_5 : decode cJ3_checkIndex_8e157 5 = .ok (.iload_n 1, 1) := dz_27 (n := 0) (r := 5) hz_J3_checkIndex_8e157_0 rfl
theorem dJ3_checkIndex_8e157_6 : decode cJ3_checkIndex_8e157 6 = .ok (.if_icmp .lt 10, 3) := dz_161 (n := 0) (r := 6) hz_J3_checkIndex_8e157_0 rfl (by decide +kernel)
theorem dJ3_checkIndex_8e157_9 : decode cJ3_checkIndex_8e157 9 = .ok (.aload_n 2, 1) := dz_44 (n := 0) (r := 9) hz_J3_checkIndex_8e157_0 rfl
theorem dJ3_checkIndex_8e157_10 : decode cJ3_checkIndex_8e157 10 = .ok (.iload_n 0, 1) := dz_26 (n := 0) (r := 10) hz_J3_checkIndex_8e157_0 rfl
theorem dJ3_checkIndex_8e157_11 : decode cJ3_checkIndex_8e157 11 = .ok (.iload_n 1, 1) := dz_27 (n := 0) (r := 11) hz_J3_checkIndex_8e157_0 rfl
theorem dJ3_checkIndex_8e157_12 : decode cJ3_checkIndex_8e157 12 = .ok (.invokestatic 95, 3) := dz_184 (n := 0) (r := 12) hz_J3_checkIndex_8e157_0 rfl rfl
theorem dJ3_checkIndex_8e157_15 : decode cJ3_checkIndex_8e157 15 = .ok (.athrow, 1) := dz_191 (n := 0) (r := 15) hz_J3_checkIndex_8e157_0 rfl
theorem dJ3_checkIndex_8e157_16 : decode cJ3_checkIndex_8e157 16 = .ok (.iload_n 0, 1) := dz_26 (n := 0) (r := 16) hz_J3_checkIndex_8e157_0 rfl
theorem dJ3_checkIndex_8e157_17 : decode cJ3_checkIndex_8e157 17 = .ok (.ireturn, 1) := dz_172 (n := 0) (r := 17) hz_J3_checkIndex_8e157_0 rfl
theorem hz_L_law_0 : (cL_law.data.toList.drop 0).take 40 = [187, 0, 7, 89, 183, 0, 9, 76, 187, 0, 10, 89, 183, 0, 12, 77, 3, 62, 29, 42, 190, 16, 6, 100, 163, 4, 247, 42, 29, 46, 16, 63, 126, 170, 0, 0, 0, 0, 4, 232] := by decide +kernel
theorem dL_law_0 : decode cL_law 0 = .ok (.new 7, 3) := dz_187 (n := 0) (r := 0) hz_L_law_0 rfl rfl
theorem dL_law_3 : decode cL_law 3 = .ok (.dup, 1) := dz_89 (n := 0) (r := 3) hz_L_law_0 rfl
theorem dL_law_4 : decode cL_law 4 = .ok (.invokespecial 9, 3) := dz_183 (n := 0) (r := 4) hz_L_law_0 rfl rfl
theorem dL_law_7 : decode cL_law 7 = .ok (.astore_n 1, 1) := dz_76 (n := 0) (r := 7) hz_L_law_0 rfl
theorem dL_law_8 : decode cL_law 8 = .ok (.new 10, 3) := dz_187 (n := 0) (r := 8) hz_L_law_0 rfl rfl
theorem dL_law_11 : decode cL_law 11 = .ok (.dup, 1) := dz_89 (n := 0) (r := 11) hz_L_law_0 rfl
theorem dL_law_12 : decode cL_law 12 = .ok (.invokespecial 12, 3) := dz_183 (n := 0) (r := 12) hz_L_law_0 rfl rfl
theorem dL_law_15 : decode cL_law 15 = .ok (.astore_n 2, 1) := dz_77 (n := 0) (r := 15) hz_L_law_0 rfl
theorem dL_law_16 : decode cL_law 16 = .ok (.iconst 0, 1) := dz_3 (n := 0) (r := 16) hz_L_law_0 rfl
theorem dL_law_17 : decode cL_law 17 = .ok (.istore_n 3, 1) := dz_62 (n := 0) (r := 17) hz_L_law_0 rfl
theorem dL_law_18 : decode cL_law 18 = .ok (.iload_n 3, 1) := dz_29 (n := 0) (r := 18) hz_L_law_0 rfl
theorem dL_law_19 : decode cL_law 19 = .ok (.aload_n 0, 1) := dz_42 (n := 0) (r := 19) hz_L_law_0 rfl
theorem dL_law_20 : decode cL_law 20 = .ok (.arraylength, 1) := dz_190 (n := 0) (r := 20) hz_L_law_0 rfl
theorem dL_law_21 : decode cL_law 21 = .ok (.bipush 6, 2) := dz_16 (n := 0) (r := 21) hz_L_law_0 rfl rfl
theorem dL_law_23 : decode cL_law 23 = .ok (.isub, 1) := dz_100 (n := 0) (r := 23) hz_L_law_0 rfl
theorem dL_law_24 : decode cL_law 24 = .ok (.if_icmp .gt 1271, 3) := dz_163 (n := 0) (r := 24) hz_L_law_0 rfl (by decide +kernel)
theorem dL_law_27 : decode cL_law 27 = .ok (.aload_n 0, 1) := dz_42 (n := 0) (r := 27) hz_L_law_0 rfl
theorem dL_law_28 : decode cL_law 28 = .ok (.iload_n 3, 1) := dz_29 (n := 0) (r := 28) hz_L_law_0 rfl
theorem dL_law_29 : decode cL_law 29 = .ok (.iaload, 1) := dz_46 (n := 0) (r := 29) hz_L_law_0 rfl
theorem dL_law_30 : decode cL_law 30 = .ok (.bipush 63, 2) := dz_16 (n := 0) (r := 30) hz_L_law_0 rfl rfl
theorem hz_L_law_32 : (cL_law.data.toList.drop 32).take 40 = [126, 170, 0, 0, 0, 0, 4, 232, 0, 0, 0, 0, 0, 0, 0, 36, 0, 0, 0, 163, 0, 0, 0, 226, 0, 0, 0, 249, 0, 0, 1, 6, 0, 0, 1, 19, 0, 0, 1, 78] := by decide +kernel
theorem dL_law_32 : decode cL_law 32 = .ok (.iand, 1) := dz_126 (n := 32) (r := 0) hz_L_law_32 rfl
theorem dL_law_33 : decode cL_law 33 = .ok (.tableswitch 1256 0 36 #[163, 226, 249, 262, 275, 334, 367, 400, 423, 446, 459, 472, 505, 538, 571, 594, 617, 670, 703, 726, 769, 802, 841, 884, 907, 930, 953, 986, 1009, 1042, 1065, 1088, 1121, 1144, 1187, 1210, 1233], 163) := by decide +kernel
theorem hz_L_law_192 : (cL_law.data.toList.drop 192).take 40 = [0, 0, 4, 209, 43, 42, 29, 4, 96, 46, 42, 29, 5, 96, 46, 42, 29, 6, 96, 46, 42, 29, 7, 96, 46, 42, 29, 8, 96, 46, 182, 0, 13, 87, 44, 42, 29, 4, 96, 46] := by decide +kernel
theorem dL_law_196 : decode cL_law 196 = .ok (.aload_n 1, 1) := dz_43 (n := 192) (r := 4) hz_L_law_192 rfl
theorem dL_law_197 : decode cL_law 197 = .ok (.aload_n 0, 1) := dz_42 (n := 192) (r := 5) hz_L_law_192 rfl
theorem dL_law_198 : decode cL_law 198 = .ok (.iload_n 3, 1) := dz_29 (n := 192) (r := 6) hz_L_law_192 rfl
theorem dL_law_199 : decode cL_law 199 = .ok (.iconst 1, 1) := dz_4 (n := 192) (r := 7) hz_L_law_192 rfl
theorem dL_law_200 : decode cL_law 200 = .ok (.iadd, 1) := dz_96 (n := 192) (r := 8) hz_L_law_192 rfl
theorem dL_law_201 : decode cL_law 201 = .ok (.iaload, 1) := dz_46 (n := 192) (r := 9) hz_L_law_192 rfl
theorem dL_law_202 : decode cL_law 202 = .ok (.aload_n 0, 1) := dz_42 (n := 192) (r := 10) hz_L_law_192 rfl
theorem dL_law_203 : decode cL_law 203 = .ok (.iload_n 3, 1) := dz_29 (n := 192) (r := 11) hz_L_law_192 rfl
theorem dL_law_204 : decode cL_law 204 = .ok (.iconst 2, 1) := dz_5 (n := 192) (r := 12) hz_L_law_192 rfl
theorem dL_law_205 : decode cL_law 205 = .ok (.iadd, 1) := dz_96 (n := 192) (r := 13) hz_L_law_192 rfl
theorem dL_law_206 : decode cL_law 206 = .ok (.iaload, 1) := dz_46 (n := 192) (r := 14) hz_L_law_192 rfl
theorem dL_law_207 : decode cL_law 207 = .ok (.aload_n 0, 1) := dz_42 (n := 192) (r := 15) hz_L_law_192 rfl
theorem dL_law_208 : decode cL_law 208 = .ok (.iload_n 3, 1) := dz_29 (n := 192) (r := 16) hz_L_law_192 rfl
theorem dL_law_209 : decode cL_law 209 = .ok (.iconst 3, 1) := dz_6 (n := 192) (r := 17) hz_L_law_192 rfl
theorem dL_law_210 : decode cL_law 210 = .ok (.iadd, 1) := dz_96 (n := 192) (r := 18) hz_L_law_192 rfl
theorem dL_law_211 : decode cL_law 211 = .ok (.iaload, 1) := dz_46 (n := 192) (r := 19) hz_L_law_192 rfl
theorem dL_law_212 : decode cL_law 212 = .ok (.aload_n 0, 1) := dz_42 (n := 192) (r := 20) hz_L_law_192 rfl
theorem dL_law_213 : decode cL_law 213 = .ok (.iload_n 3, 1) := dz_29 (n := 192) (r := 21) hz_L_law_192 rfl
theorem dL_law_214 : decode cL_law 214 = .ok (.iconst 4, 1) := dz_7 (n := 192) (r := 22) hz_L_law_192 rfl
theorem dL_law_215 : decode cL_law 215 = .ok (.iadd, 1) := dz_96 (n := 192) (r := 23) hz_L_law_192 rfl
theorem dL_law_216 : decode cL_law 216 = .ok (.iaload, 1) := dz_46 (n := 192) (r := 24) hz_L_law_192 rfl
theorem dL_law_217 : decode cL_law 217 = .ok (.aload_n 0, 1) := dz_42 (n := 192) (r := 25) hz_L_law_192 rfl
theorem dL_law_218 : decode cL_law 218 = .ok (.iload_n 3, 1) := dz_29 (n := 192) (r := 26) hz_L_law_192 rfl
theorem dL_law_219 : decode cL_law 219 = .ok (.iconst 5, 1) := dz_8 (n := 192) (r := 27) hz_L_law_192 rfl
theorem dL_law_220 : decode cL_law 220 = .ok (.iadd, 1) := dz_96 (n := 192) (r := 28) hz_L_law_192 rfl
theorem dL_law_221 : decode cL_law 221 = .ok (.iaload, 1) := dz_46 (n := 192) (r := 29) hz_L_law_192 rfl
theorem dL_law_222 : decode cL_law 222 = .ok (.invokevirtual 13, 3) := dz_182 (n := 192) (r := 30) hz_L_law_192 rfl rfl
theorem hz_L_law_224 : (cL_law.data.toList.drop 224).take 40 = [13, 87, 44, 42, 29, 4, 96, 46, 42, 29, 5, 96, 46, 42, 29, 6, 96, 46, 42, 29, 7, 96, 46, 42, 29, 8, 96, 46, 182, 0, 17, 87, 167, 4, 9, 43, 42, 29, 4, 96] := by decide +kernel
theorem dL_law_225 : decode cL_law 225 = .ok (.pop, 1) := dz_87 (n := 224) (r := 1) hz_L_law_224 rfl
theorem dL_law_226 : decode cL_law 226 = .ok (.aload_n 2, 1) := dz_44 (n := 224) (r := 2) hz_L_law_224 rfl
theorem dL_law_227 : decode cL_law 227 = .ok (.aload_n 0, 1) := dz_42 (n := 224) (r := 3) hz_L_law_224 rfl
theorem dL_law_228 : decode cL_law 228 = .ok (.iload_n 3, 1) := dz_29 (n := 224) (r := 4) hz_L_law_224 rfl
theorem dL_law_229 : decode cL_law 229 = .ok (.iconst 1, 1) := dz_4 (n := 224) (r := 5) hz_L_law_224 rfl
theorem dL_law_230 : decode cL_law 230 = .ok (.iadd, 1) := dz_96 (n := 224) (r := 6) hz_L_law_224 rfl
theorem dL_law_231 : decode cL_law 231 = .ok (.iaload, 1) := dz_46 (n := 224) (r := 7) hz_L_law_224 rfl
theorem dL_law_232 : decode cL_law 232 = .ok (.aload_n 0, 1) := dz_42 (n := 224) (r := 8) hz_L_law_224 rfl
theorem dL_law_233 : decode cL_law 233 = .ok (.iload_n 3, 1) := dz_29 (n := 224) (r := 9) hz_L_law_224 rfl
theorem dL_law_234 : decode cL_law 234 = .ok (.iconst 2, 1) := dz_5 (n := 224) (r := 10) hz_L_law_224 rfl
theorem dL_law_235 : decode cL_law 235 = .ok (.iadd, 1) := dz_96 (n := 224) (r := 11) hz_L_law_224 rfl
theorem dL_law_236 : decode cL_law 236 = .ok (.iaload, 1) := dz_46 (n := 224) (r := 12) hz_L_law_224 rfl
theorem dL_law_237 : decode cL_law 237 = .ok (.aload_n 0, 1) := dz_42 (n := 224) (r := 13) hz_L_law_224 rfl
theorem dL_law_238 : decode cL_law 238 = .ok (.iload_n 3, 1) := dz_29 (n := 224) (r := 14) hz_L_law_224 rfl
theorem dL_law_239 : decode cL_law 239 = .ok (.iconst 3, 1) := dz_6 (n := 224) (r := 15) hz_L_law_224 rfl
theorem dL_law_240 : decode cL_law 240 = .ok (.iadd, 1) := dz_96 (n := 224) (r := 16) hz_L_law_224 rfl
theorem dL_law_241 : decode cL_law 241 = .ok (.iaload, 1) := dz_46 (n := 224) (r := 17) hz_L_law_224 rfl
theorem dL_law_242 : decode cL_law 242 = .ok (.aload_n 0, 1) := dz_42 (n := 224) (r := 18) hz_L_law_224 rfl
theorem dL_law_243 : decode cL_law 243 = .ok (.iload_n 3, 1) := dz_29 (n := 224) (r := 19) hz_L_law_224 rfl
theorem dL_law_244 : decode cL_law 244 = .ok (.iconst 4, 1) := dz_7 (n := 224) (r := 20) hz_L_law_224 rfl
theorem dL_law_245 : decode cL_law 245 = .ok (.iadd, 1) := dz_96 (n := 224) (r := 21) hz_L_law_224 rfl
theorem dL_law_246 : decode cL_law 246 = .ok (.iaload, 1) := dz_46 (n := 224) (r := 22) hz_L_law_224 rfl
theorem dL_law_247 : decode cL_law 247 = .ok (.aload_n 0, 1) := dz_42 (n := 224) (r := 23) hz_L_law_224 rfl
theorem dL_law_248 : decode cL_law 248 = .ok (.iload_n 3, 1) := dz_29 (n := 224) (r := 24) hz_L_law_224 rfl
theorem dL_law_249 : decode cL_law 249 = .ok (.iconst 5, 1) := dz_8 (n := 224) (r := 25) hz_L_law_224 rfl
theorem dL_law_250 : decode cL_law 250 = .ok (.iadd, 1) := dz_96 (n := 224) (r := 26) hz_L_law_224 rfl
theorem dL_law_251 : decode cL_law 251 = .ok (.iaload, 1) := dz_46 (n := 224) (r := 27) hz_L_law_224 rfl
theorem dL_law_252 : decode cL_law 252 = .ok (.invokevirtual 17, 3) := dz_182 (n := 224) (r := 28) hz_L_law_224 rfl rfl
theorem dL_law_255 : decode cL_law 255 = .ok (.pop, 1) := dz_87 (n := 224) (r := 31) hz_L_law_224 rfl
theorem hz_L_law_256 : (cL_law.data.toList.drop 256).take 40 = [167, 4, 9, 43, 42, 29, 4, 96, 46, 182, 0, 18, 87, 44, 42, 29, 4, 96, 46, 182, 0, 22, 87, 167, 3, 242, 43, 182, 0, 23, 87, 44, 182, 0, 27, 87, 167, 3, 229, 43] := by decide +kernel
theorem dL_law_256 : decode cL_law 256 = .ok (.goto 1033, 3) := dz_167 (n := 256) (r := 0) hz_L_law_256 rfl (by decide +kernel)
theorem dL_law_259 : decode cL_law 259 = .ok (.aload_n 1, 1) := dz_43 (n := 256) (r := 3) hz_L_law_256 rfl
theorem dL_law_260 : decode cL_law 260 = .ok (.aload_n 0, 1) := dz_42 (n := 256) (r := 4) hz_L_law_256 rfl
theorem dL_law_261 : decode cL_law 261 = .ok (.iload_n 3, 1) := dz_29 (n := 256) (r := 5) hz_L_law_256 rfl
theorem dL_law_262 : decode cL_law 262 = .ok (.iconst 1, 1) := dz_4 (n := 256) (r := 6) hz_L_law_256 rfl
theorem dL_law_263 : decode cL_law 263 = .ok (.iadd, 1) := dz_96 (n := 256) (r := 7) hz_L_law_256 rfl
theorem dL_law_264 : decode cL_law 264 = .ok (.iaload, 1) := dz_46 (n := 256) (r := 8) hz_L_law_256 rfl
theorem dL_law_265 : decode cL_law 265 = .ok (.invokevirtual 18, 3) := dz_182 (n := 256) (r := 9) hz_L_law_256 rfl rfl
theorem dL_law_268 : decode cL_law 268 = .ok (.pop, 1) := dz_87 (n := 256) (r := 12) hz_L_law_256 rfl
theorem dL_law_269 : decode cL_law 269 = .ok (.aload_n 2, 1) := dz_44 (n := 256) (r := 13) hz_L_law_256 rfl
theorem dL_law_270 : decode cL_law 270 = .ok (.aload_n 0, 1) := dz_42 (n := 256) (r := 14) hz_L_law_256 rfl
theorem dL_law_271 : decode cL_law 271 = .ok (.iload_n 3, 1) := dz_29 (n := 256) (r := 15) hz_L_law_256 rfl
theorem dL_law_272 : decode cL_law 272 = .ok (.iconst 1, 1) := dz_4 (n := 256) (r := 16) hz_L_law_256 rfl
theorem dL_law_273 : decode cL_law 273 = .ok (.iadd, 1) := dz_96 (n := 256) (r := 17) hz_L_law_256 rfl
theorem dL_law_274 : decode cL_law 274 = .ok (.iaload, 1) := dz_46 (n := 256) (r := 18) hz_L_law_256 rfl
theorem dL_law_275 : decode cL_law 275 = .ok (.invokevirtual 22, 3) := dz_182 (n := 256) (r := 19) hz_L_law_256 rfl rfl
theorem dL_law_278 : decode cL_law 278 = .ok (.pop, 1) := dz_87 (n := 256) (r := 22) hz_L_law_256 rfl
theorem dL_law_279 : decode cL_law 279 = .ok (.goto 1010, 3) := dz_167 (n := 256) (r := 23) hz_L_law_256 rfl (by decide +kernel)
theorem dL_law_282 : decode cL_law 282 = .ok (.aload_n 1, 1) := dz_43 (n := 256) (r := 26) hz_L_law_256 rfl
theorem dL_law_283 : decode cL_law 283 = .ok (.invokevirtual 23, 3) := dz_182 (n := 256) (r := 27) hz_L_law_256 rfl rfl
theorem dL_law_286 : decode cL_law 286 = .ok (.pop, 1) := dz_87 (n := 256) (r := 30) hz_L_law_256 rfl
theorem dL_law_287 : decode cL_law 287 = .ok (.aload_n 2, 1) := dz_44 (n := 256) (r := 31) hz_L_law_256 rfl
theorem hz_L_law_288 : (cL_law.data.toList.drop 288).take 40 = [182, 0, 27, 87, 167, 3, 229, 43, 182, 0, 28, 87, 44, 182, 0, 31, 87, 167, 3, 216, 43, 42, 29, 4, 96, 46, 42, 29, 5, 96, 46, 153, 0, 7, 4, 167, 0, 4, 3, 42] := by decide +kernel
theorem dL_law_288 : decode cL_law 288 = .ok (.invokevirtual 27, 3) := dz_182 (n := 288) (r := 0) hz_L_law_288 rfl rfl
theorem dL_law_291 : decode cL_law 291 = .ok (.pop, 1) := dz_87 (n := 288) (r := 3) hz_L_law_288 rfl
theorem dL_law_292 : decode cL_law 292 = .ok (.goto 997, 3) := dz_167 (n := 288) (r := 4) hz_L_law_288 rfl (by decide +kernel)
theorem dL_law_295 : decode cL_law 295 = .ok (.aload_n 1, 1) := dz_43 (n := 288) (r := 7) hz_L_law_288 rfl
theorem dL_law_296 : decode cL_law 296 = .ok (.invokevirtual 28, 3) := dz_182 (n := 288) (r := 8) hz_L_law_288 rfl rfl
theorem dL_law_299 : decode cL_law 299 = .ok (.pop, 1) := dz_87 (n := 288) (r := 11) hz_L_law_288 rfl
theorem dL_law_300 : decode cL_law 300 = .ok (.aload_n 2, 1) := dz_44 (n := 288) (r := 12) hz_L_law_288 rfl
theorem dL_law_301 : decode cL_law 301 = .ok (.invokevirtual 31, 3) := dz_182 (n := 288) (r := 13) hz_L_law_288 rfl rfl
theorem dL_law_304 : decode cL_law 304 = .ok (.pop, 1) := dz_87 (n := 288) (r := 16) hz_L_law_288 rfl
theorem dL_law_305 : decode cL_law 305 = .ok (.goto 984, 3) := dz_167 (n := 288) (r := 17) hz_L_law_288 rfl (by decide +kernel)
theorem dL_law_308 : decode cL_law 308 = .ok (.aload_n 1, 1) := dz_43 (n := 288) (r := 20) hz_L_law_288 rfl
theorem dL_law_309 : decode cL_law 309 = .ok (.aload_n 0, 1) := dz_42 (n := 288) (r := 21) hz_L_law_288 rfl
theorem dL_law_310 : decode cL_law 310 = .ok (.iload_n 3, 1) := dz_29 (n := 288) (r := 22) hz_L_law_288 rfl
theorem dL_law_311 : decode cL_law 311 = .ok (.iconst 1, 1) := dz_4 (n := 288) (r := 23) hz_L_law_288 rfl
theorem dL_law_312 : decode cL_law 312 = .ok (.iadd, 1) := dz_96 (n := 288) (r := 24) hz_L_law_288 rfl
theorem dL_law_313 : decode cL_law 313 = .ok (.iaload, 1) := dz_46 (n := 288) (r := 25) hz_L_law_288 rfl
theorem dL_law_314 : decode cL_law 314 = .ok (.aload_n 0, 1) := dz_42 (n := 288) (r := 26) hz_L_law_288 rfl
theorem dL_law_315 : decode cL_law 315 = .ok (.iload_n 3, 1) := dz_29 (n := 288) (r := 27) hz_L_law_288 rfl
theorem dL_law_316 : decode cL_law 316 = .ok (.iconst 2, 1) := dz_5 (n := 288) (r := 28) hz_L_law_288 rfl
theorem dL_law_317 : decode cL_law 317 = .ok (.iadd, 1) := dz_96 (n := 288) (r := 29) hz_L_law_288 rfl
theorem dL_law_318 : decode cL_law 318 = .ok (.iaload, 1) := dz_46 (n := 288) (r := 30) hz_L_law_288 rfl
theorem dL_law_319 : decode cL_law 319 = .ok (.ifCond .eq 7, 3) := dz_153 (n := 288) (r := 31) hz_L_law_288 rfl (by decide +kernel)
theorem hz_L_law_320 : (cL_law.data.toList.drop 320).take 40 = [0, 7, 4, 167, 0, 4, 3, 42, 29, 6, 96, 46, 182, 0, 32, 87, 44, 42, 29, 4, 96, 46, 42, 29, 5, 96, 46, 153, 0, 7, 4, 167, 0, 4, 3, 42, 29, 6, 96, 46] := by decide +kernel
theorem dL_law_322 : decode cL_law 322 = .ok (.iconst 1, 1) := dz_4 (n := 320) (r := 2) hz_L_law_320 rfl
theorem dL_law_323 : decode cL_law 323 = .ok (.goto 4, 3) := dz_167 (n := 320) (r := 3) hz_L_law_320 rfl (by decide +kernel)
theorem dL_law_326 : decode cL_law 326 = .ok (.iconst 0, 1) := dz_3 (n := 320) (r := 6) hz_L_law_320 rfl
theorem dL_law_327 : decode cL_law 327 = .ok (.aload_n 0, 1) := dz_42 (n := 320) (r := 7) hz_L_law_320 rfl
theorem dL_law_328 : decode cL_law 328 = .ok (.iload_n 3, 1) := dz_29 (n := 320) (r := 8) hz_L_law_320 rfl
theorem dL_law_329 : decode cL_law 329 = .ok (.iconst 3, 1) := dz_6 (n := 320) (r := 9) hz_L_law_320 rfl
theorem dL_law_330 : decode cL_law 330 = .ok (.iadd, 1) := dz_96 (n := 320) (r := 10) hz_L_law_320 rfl
theorem dL_law_331 : decode cL_law 331 = .ok (.iaload, 1) := dz_46 (n := 320) (r := 11) hz_L_law_320 rfl
theorem dL_law_332 : decode cL_law 332 = .ok (.invokevirtual 32, 3) := dz_182 (n := 320) (r := 12) hz_L_law_320 rfl rfl
theorem dL_law_335 : decode cL_law 335 = .ok (.pop, 1) := dz_87 (n := 320) (r := 15) hz_L_law_320 rfl
theorem dL_law_336 : decode cL_law 336 = .ok (.aload_n 2, 1) := dz_44 (n := 320) (r := 16) hz_L_law_320 rfl
theorem dL_law_337 : decode cL_law 337 = .ok (.aload_n 0, 1) := dz_42 (n := 320) (r := 17) hz_L_law_320 rfl
theorem dL_law_338 : decode cL_law 338 = .ok (.iload_n 3, 1) := dz_29 (n := 320) (r := 18) hz_L_law_320 rfl
theorem dL_law_339 : decode cL_law 339 = .ok (.iconst 1, 1) := dz_4 (n := 320) (r := 19) hz_L_law_320 rfl
theorem dL_law_340 : decode cL_law 340 = .ok (.iadd, 1) := dz_96 (n := 320) (r := 20) hz_L_law_320 rfl
theorem dL_law_341 : decode cL_law 341 = .ok (.iaload, 1) := dz_46 (n := 320) (r := 21) hz_L_law_320 rfl
theorem dL_law_342 : decode cL_law 342 = .ok (.aload_n 0, 1) := dz_42 (n := 320) (r := 22) hz_L_law_320 rfl
theorem dL_law_343 : decode cL_law 343 = .ok (.iload_n 3, 1) := dz_29 (n := 320) (r := 23) hz_L_law_320 rfl
theorem dL_law_344 : decode cL_law 344 = .ok (.iconst 2, 1) := dz_5 (n := 320) (r := 24) hz_L_law_320 rfl
theorem dL_law_345 : decode cL_law 345 = .ok (.iadd, 1) := dz_96 (n := 320) (r := 25) hz_L_law_320 rfl
theorem dL_law_346 : decode cL_law 346 = .ok (.iaload, 1) := dz_46 (n := 320) (r := 26) hz_L_law_320 rfl
theorem dL_law_347 : decode cL_law 347 = .ok (.ifCond .eq 7, 3) := dz_153 (n := 320) (r := 27) hz_L_law_320 rfl (by decide +kernel)
theorem dL_law_350 : decode cL_law 350 = .ok (.iconst 1, 1) := dz_4 (n := 320) (r := 30) hz_L_law_320 rfl
theorem dL_law_351 : decode cL_law 351 = .ok (.goto 4, 3) := dz_167 (n := 320) (r := 31) hz_L_law_320 rfl (by decide +kernel)
theorem hz_L_law_352 : (cL_law.data.toList.drop 352).take 40 = [0, 4, 3, 42, 29, 6, 96, 46, 182, 0, 36, 87, 167, 3, 157, 43, 42, 29, 4, 96, 46, 42, 29, 5, 96, 46, 182, 0, 37, 87, 44, 42, 29, 4, 96, 46, 42, 29, 5, 96] := by decide +kernel
theorem dL_law_354 : decode cL_law 354 = .ok (.iconst 0, 1) := dz_3 (n := 352) (r := 2) hz_L_law_352 rfl
theorem dL_law_355 : decode cL_law 355 = .ok (.aload_n 0, 1) := dz_42 (n := 352) (r := 3) hz_L_law_352 rfl
theorem dL_law_356 : decode cL_law 356 = .ok (.iload_n 3, 1) := dz_29 (n := 352) (r := 4) hz_L_law_352 rfl
theorem dL_law_357 : decode cL_law 357 = .ok (.iconst 3, 1) := dz_6 (n := 352) (r := 5) hz_L_law_352 rfl
theorem dL_law_358 : decode cL_law 358 = .ok (.iadd, 1) := dz_96 (n := 352) (r := 6) hz_L_law_352 rfl
theorem dL_law_359 : decode cL_law 359 = .ok (.iaload, 1) := dz_46 (n := 352) (r := 7) hz_L_law_352 rfl
theorem dL_law_360 : decode cL_law 360 = .ok (.invokevirtual 36, 3) := dz_182 (n := 352) (r := 8) hz_L_law_352 rfl rfl
theorem dL_law_363 : decode cL_law 363 = .ok (.pop, 1) := dz_87 (n := 352) (r := 11) hz_L_law_352 rfl
theorem dL_law_364 : decode cL_law 364 = .ok (.goto 925, 3) := dz_167 (n := 352) (r := 12) hz_L_law_352 rfl (by decide +kernel)
theorem dL_law_367 : decode cL_law 367 = .ok (.aload_n 1, 1) := dz_43 (n := 352) (r := 15) hz_L_law_352 rfl
theorem dL_law_368 : decode cL_law 368 = .ok (.aload_n 0, 1) := dz_42 (n := 352) (r := 16) hz_L_law_352 rfl
theorem dL_law_369 : decode cL_law 369 = .ok (.iload_n 3, 1) := dz_29 (n := 352) (r := 17) hz_L_law_352 rfl
theorem dL_law_370 : decode cL_law 370 = .ok (.iconst 1, 1) := dz_4 (n := 352) (r := 18) hz_L_law_352 rfl
theorem dL_law_371 : decode cL_law 371 = .ok (.iadd, 1) := dz_96 (n := 352) (r := 19) hz_L_law_352 rfl
theorem dL_law_372 : decode cL_law 372 = .ok (.iaload, 1) := dz_46 (n := 352) (r := 20) hz_L_law_352 rfl
theorem dL_law_373 : decode cL_law 373 = .ok (.aload_n 0, 1) := dz_42 (n := 352) (r := 21) hz_L_law_352 rfl
theorem dL_law_374 : decode cL_law 374 = .ok (.iload_n 3, 1) := dz_29 (n := 352) (r := 22) hz_L_law_352 rfl
theorem dL_law_375 : decode cL_law 375 = .ok (.iconst 2, 1) := dz_5 (n := 352) (r := 23) hz_L_law_352 rfl
theorem dL_law_376 : decode cL_law 376 = .ok (.iadd, 1) := dz_96 (n := 352) (r := 24) hz_L_law_352 rfl
theorem dL_law_377 : decode cL_law 377 = .ok (.iaload, 1) := dz_46 (n := 352) (r := 25) hz_L_law_352 rfl
theorem dL_law_378 : decode cL_law 378 = .ok (.invokevirtual 37, 3) := dz_182 (n := 352) (r := 26) hz_L_law_352 rfl rfl
theorem dL_law_381 : decode cL_law 381 = .ok (.pop, 1) := dz_87 (n := 352) (r := 29) hz_L_law_352 rfl
theorem dL_law_382 : decode cL_law 382 = .ok (.aload_n 2, 1) := dz_44 (n := 352) (r := 30) hz_L_law_352 rfl
theorem dL_law_383 : decode cL_law 383 = .ok (.aload_n 0, 1) := dz_42 (n := 352) (r := 31) hz_L_law_352 rfl
theorem hz_L_law_384 : (cL_law.data.toList.drop 384).take 40 = [29, 4, 96, 46, 42, 29, 5, 96, 46, 182, 0, 41, 87, 167, 3, 124, 43, 42, 29, 4, 96, 46, 42, 29, 5, 96, 46, 182, 0, 42, 87, 44, 42, 29, 4, 96, 46, 42, 29, 5] := by decide +kernel
theorem dL_law_384 : decode cL_law 384 = .ok (.iload_n 3, 1) := dz_29 (n := 384) (r := 0) hz_L_law_384 rfl
theorem dL_law_385 : decode cL_law 385 = .ok (.iconst 1, 1) := dz_4 (n := 384) (r := 1) hz_L_law_384 rfl
theorem dL_law_386 : decode cL_law 386 = .ok (.iadd, 1) := dz_96 (n := 384) (r := 2) hz_L_law_384 rfl
theorem dL_law_387 : decode cL_law 387 = .ok (.iaload, 1) := dz_46 (n := 384) (r := 3) hz_L_law_384 rfl
theorem dL_law_388 : decode cL_law 388 = .ok (.aload_n 0, 1) := dz_42 (n := 384) (r := 4) hz_L_law_384 rfl
theorem dL_law_389 : decode cL_law 389 = .ok (.iload_n 3, 1) := dz_29 (n := 384) (r := 5) hz_L_law_384 rfl
theorem dL_law_390 : decode cL_law 390 = .ok (.iconst 2, 1) := dz_5 (n := 384) (r := 6) hz_L_law_384 rfl
theorem dL_law_391 : decode cL_law 391 = .ok (.iadd, 1) := dz_96 (n := 384) (r := 7) hz_L_law_384 rfl
theorem dL_law_392 : decode cL_law 392 = .ok (.iaload, 1) := dz_46 (n := 384) (r := 8) hz_L_law_384 rfl
theorem dL_law_393 : decode cL_law 393 = .ok (.invokevirtual 41, 3) := dz_182 (n := 384) (r := 9) hz_L_law_384 rfl rfl
theorem dL_law_396 : decode cL_law 396 = .ok (.pop, 1) := dz_87 (n := 384) (r := 12) hz_L_law_384 rfl
theorem dL_law_397 : decode cL_law 397 = .ok (.goto 892, 3) := dz_167 (n := 384) (r := 13) hz_L_law_384 rfl (by decide +kernel)
theorem dL_law_400 : decode cL_law 400 = .ok (.aload_n 1, 1) := dz_43 (n := 384) (r := 16) hz_L_law_384 rfl
theorem dL_law_401 : decode cL_law 401 = .ok (.aload_n 0, 1) := dz_42 (n := 384) (r := 17) hz_L_law_384 rfl
theorem dL_law_402 : decode cL_law 402 = .ok (.iload_n 3, 1) := dz_29 (n := 384) (r := 18) hz_L_law_384 rfl
theorem dL_law_403 : decode cL_law 403 = .ok (.iconst 1, 1) := dz_4 (n := 384) (r := 19) hz_L_law_384 rfl
theorem dL_law_404 : decode cL_law 404 = .ok (.iadd, 1) := dz_96 (n := 384) (r := 20) hz_L_law_384 rfl
theorem dL_law_405 : decode cL_law 405 = .ok (.iaload, 1) := dz_46 (n := 384) (r := 21) hz_L_law_384 rfl
theorem dL_law_406 : decode cL_law 406 = .ok (.aload_n 0, 1) := dz_42 (n := 384) (r := 22) hz_L_law_384 rfl
theorem dL_law_407 : decode cL_law 407 = .ok (.iload_n 3, 1) := dz_29 (n := 384) (r := 23) hz_L_law_384 rfl
theorem dL_law_408 : decode cL_law 408 = .ok (.iconst 2, 1) := dz_5 (n := 384) (r := 24) hz_L_law_384 rfl
theorem dL_law_409 : decode cL_law 409 = .ok (.iadd, 1) := dz_96 (n := 384) (r := 25) hz_L_law_384 rfl
theorem dL_law_410 : decode cL_law 410 = .ok (.iaload, 1) := dz_46 (n := 384) (r := 26) hz_L_law_384 rfl
theorem dL_law_411 : decode cL_law 411 = .ok (.invokevirtual 42, 3) := dz_182 (n := 384) (r := 27) hz_L_law_384 rfl rfl
theorem dL_law_414 : decode cL_law 414 = .ok (.pop, 1) := dz_87 (n := 384) (r := 30) hz_L_law_384 rfl
theorem dL_law_415 : decode cL_law 415 = .ok (.aload_n 2, 1) := dz_44 (n := 384) (r := 31) hz_L_law_384 rfl
theorem hz_L_law_416 : (cL_law.data.toList.drop 416).take 40 = [42, 29, 4, 96, 46, 42, 29, 5, 96, 46, 182, 0, 45, 87, 167, 3, 91, 43, 42, 29, 4, 96, 46, 182, 0, 46, 87, 44, 42, 29, 4, 96, 46, 182, 0, 50, 87, 167, 3, 68] := by decide +kernel
theorem dL_law_416 : decode cL_law 416 = .ok (.aload_n 0, 1) := dz_42 (n := 416) (r := 0) hz_L_law_416 rfl
theorem dL_law_417 : decode cL_law 417 = .ok (.iload_n 3, 1) := dz_29 (n := 416) (r := 1) hz_L_law_416 rfl
theorem dL_law_418 : decode cL_law 418 = .ok (.iconst 1, 1) := dz_4 (n := 416) (r := 2) hz_L_law_416 rfl
theorem dL_law_419 : decode cL_law 419 = .ok (.iadd, 1) := dz_96 (n := 416) (r := 3) hz_L_law_416 rfl
theorem dL_law_420 : decode cL_law 420 = .ok (.iaload, 1) := dz_46 (n := 416) (r := 4) hz_L_law_416 rfl
theorem dL_law_421 : decode cL_law 421 = .ok (.aload_n 0, 1) := dz_42 (n := 416) (r := 5) hz_L_law_416 rfl
theorem dL_law_422 : decode cL_law 422 = .ok (.iload_n 3, 1) := dz_29 (n := 416) (r := 6) hz_L_law_416 rfl
theorem dL_law_423 : decode cL_law 423 = .ok (.iconst 2, 1) := dz_5 (n := 416) (r := 7) hz_L_law_416 rfl
theorem dL_law_424 : decode cL_law 424 = .ok (.iadd, 1) := dz_96 (n := 416) (r := 8) hz_L_law_416 rfl
theorem dL_law_425 : decode cL_law 425 = .ok (.iaload, 1) := dz_46 (n := 416) (r := 9) hz_L_law_416 rfl
theorem dL_law_426 : decode cL_law 426 = .ok (.invokevirtual 45, 3) := dz_182 (n := 416) (r := 10) hz_L_law_416 rfl rfl
theorem dL_law_429 : decode cL_law 429 = .ok (.pop, 1) := dz_87 (n := 416) (r := 13) hz_L_law_416 rfl
theorem dL_law_430 : decode cL_law 430 = .ok (.goto 859, 3) := dz_167 (n := 416) (r := 14) hz_L_law_416 rfl (by decide +kernel)
theorem dL_law_433 : decode cL_law 433 = .ok (.aload_n 1, 1) := dz_43 (n := 416) (r := 17) hz_L_law_416 rfl
theorem dL_law_434 : decode cL_law 434 = .ok (.aload_n 0, 1) := dz_42 (n := 416) (r := 18) hz_L_law_416 rfl
theorem dL_law_435 : decode cL_law 435 = .ok (.iload_n 3, 1) := dz_29 (n := 416) (r := 19) hz_L_law_416 rfl
theorem dL_law_436 : decode cL_law 436 = .ok (.iconst 1, 1) := dz_4 (n := 416) (r := 20) hz_L_law_416 rfl
end
section
theorem dL_law_437 : decode cL_law 437 = .ok (.iadd, 1) := dz_96 (n := 416) (r := 21) hz_L_law_416 rfl
theorem dL_law_438 : decode cL_law 438 = .ok (.iaload, 1) := dz_46 (n := 416) (r := 22) hz_L_law_416 rfl
theorem dL_law_439 : decode cL_law 439 = .ok (.invokevirtual 46, 3) := dz_182 (n := 416) (r := 23) hz_L_law_416 rfl rfl
theorem dL_law_442 : decode cL_law 442 = .ok (.pop, 1) := dz_87 (n := 416) (r := 26) hz_L_law_416 rfl
theorem dL_law_443 : decode cL_law 443 = .ok (.aload_n 2, 1) := dz_44 (n := 416) (r := 27) hz_L_law_416 rfl
theorem dL_law_444 : decode cL_law 444 = .ok (.aload_n 0, 1) := dz_42 (n := 416) (r := 28) hz_L_law_416 rfl
theorem dL_law_445 : decode cL_law 445 = .ok (.iload_n 3, 1) := dz_29 (n := 416) (r := 29) hz_L_law_416 rfl
theorem dL_law_446 : decode cL_law 446 = .ok (.iconst 1, 1) := dz_4 (n := 416) (r := 30) hz_L_law_416 rfl
theorem dL_law_447 : decode cL_law 447 = .ok (.iadd, 1) := dz_96 (n := 416) (r := 31) hz_L_law_416 rfl
theorem hz_L_law_448 : (cL_law.data.toList.drop 448).take 40 = [46, 182, 0, 50, 87, 167, 3, 68, 43, 42, 29, 4, 96, 46, 182, 0, 51, 87, 44, 42, 29, 4, 96, 46, 182, 0, 54, 87, 167, 3, 45, 43, 182, 0, 55, 87, 44, 182, 0, 58] := by decide +kernel
theorem dL_law_448 : decode cL_law 448 = .ok (.iaload, 1) := dz_46 (n := 448) (r := 0) hz_L_law_448 rfl
theorem dL_law_449 : decode cL_law 449 = .ok (.invokevirtual 50, 3) := dz_182 (n := 448) (r := 1) hz_L_law_448 rfl rfl
theorem dL_law_452 : decode cL_law 452 = .ok (.pop, 1) := dz_87 (n := 448) (r := 4) hz_L_law_448 rfl
theorem dL_law_453 : decode cL_law 453 = .ok (.goto 836, 3) := dz_167 (n := 448) (r := 5) hz_L_law_448 rfl (by decide +kernel)
theorem dL_law_456 : decode cL_law 456 = .ok (.aload_n 1, 1) := dz_43 (n := 448) (r := 8) hz_L_law_448 rfl
theorem dL_law_457 : decode cL_law 457 = .ok (.aload_n 0, 1) := dz_42 (n := 448) (r := 9) hz_L_law_448 rfl
theorem dL_law_458 : decode cL_law 458 = .ok (.iload_n 3, 1) := dz_29 (n := 448) (r := 10) hz_L_law_448 rfl
theorem dL_law_459 : decode cL_law 459 = .ok (.iconst 1, 1) := dz_4 (n := 448) (r := 11) hz_L_law_448 rfl
theorem dL_law_460 : decode cL_law 460 = .ok (.iadd, 1) := dz_96 (n := 448) (r := 12) hz_L_law_448 rfl
theorem dL_law_461 : decode cL_law 461 = .ok (.iaload, 1) := dz_46 (n := 448) (r := 13) hz_L_law_448 rfl
theorem dL_law_462 : decode cL_law 462 = .ok (.invokevirtual 51, 3) := dz_182 (n := 448) (r := 14) hz_L_law_448 rfl rfl
theorem dL_law_465 : decode cL_law 465 = .ok (.pop, 1) := dz_87 (n := 448) (r := 17) hz_L_law_448 rfl
theorem dL_law_466 : decode cL_law 466 = .ok (.aload_n 2, 1) := dz_44 (n := 448) (r := 18) hz_L_law_448 rfl
theorem dL_law_467 : decode cL_law 467 = .ok (.aload_n 0, 1) := dz_42 (n := 448) (r := 19) hz_L_law_448 rfl
theorem dL_law_468 : decode cL_law 468 = .ok (.iload_n 3, 1) := dz_29 (n := 448) (r := 20) hz_L_law_448 rfl
theorem dL_law_469 : decode cL_law 469 = .ok (.iconst 1, 1) := dz_4 (n := 448) (r := 21) hz_L_law_448 rfl
theorem dL_law_470 : decode cL_law 470 = .ok (.iadd, 1) := dz_96 (n := 448) (r := 22) hz_L_law_448 rfl
theorem dL_law_471 : decode cL_law 471 = .ok (.iaload, 1) := dz_46 (n := 448) (r := 23) hz_L_law_448 rfl
theorem dL_law_472 : decode cL_law 472 = .ok (.invokevirtual 54, 3) := dz_182 (n := 448) (r := 24) hz_L_law_448 rfl rfl
theorem dL_law_475 : decode cL_law 475 = .ok (.pop, 1) := dz_87 (n := 448) (r := 27) hz_L_law_448 rfl
theorem dL_law_476 : decode cL_law 476 = .ok (.goto 813, 3) := dz_167 (n := 448) (r := 28) hz_L_law_448 rfl (by decide +kernel)
theorem dL_law_479 : decode cL_law 479 = .ok (.aload_n 1, 1) := dz_43 (n := 448) (r := 31) hz_L_law_448 rfl
theorem hz_L_law_480 : (cL_law.data.toList.drop 480).take 40 = [182, 0, 55, 87, 44, 182, 0, 58, 87, 167, 3, 32, 43, 182, 0, 59, 87, 44, 182, 0, 63, 87, 167, 3, 19, 43, 42, 29, 4, 96, 46, 42, 29, 5, 96, 46, 182, 0, 64, 87] := by decide +kernel
theorem dL_law_480 : decode cL_law 480 = .ok (.invokevirtual 55, 3) := dz_182 (n := 480) (r := 0) hz_L_law_480 rfl rfl
theorem dL_law_483 : decode cL_law 483 = .ok (.pop, 1) := dz_87 (n := 480) (r := 3) hz_L_law_480 rfl
theorem dL_law_484 : decode cL_law 484 = .ok (.aload_n 2, 1) := dz_44 (n := 480) (r := 4) hz_L_law_480 rfl
theorem dL_law_485 : decode cL_law 485 = .ok (.invokevirtual 58, 3) := dz_182 (n := 480) (r := 5) hz_L_law_480 rfl rfl
theorem dL_law_488 : decode cL_law 488 = .ok (.pop, 1) := dz_87 (n := 480) (r := 8) hz_L_law_480 rfl
theorem dL_law_489 : decode cL_law 489 = .ok (.goto 800, 3) := dz_167 (n := 480) (r := 9) hz_L_law_480 rfl (by decide +kernel)
theorem dL_law_492 : decode cL_law 492 = .ok (.aload_n 1, 1) := dz_43 (n := 480) (r := 12) hz_L_law_480 rfl
theorem dL_law_493 : decode cL_law 493 = .ok (.invokevirtual 59, 3) := dz_182 (n := 480) (r := 13) hz_L_law_480 rfl rfl
theorem dL_law_496 : decode cL_law 496 = .ok (.pop, 1) := dz_87 (n := 480) (r := 16) hz_L_law_480 rfl
theorem dL_law_497 : decode cL_law 497 = .ok (.aload_n 2, 1) := dz_44 (n := 480) (r := 17) hz_L_law_480 rfl
theorem dL_law_498 : decode cL_law 498 = .ok (.invokevirtual 63, 3) := dz_182 (n := 480) (r := 18) hz_L_law_480 rfl rfl
theorem dL_law_501 : decode cL_law 501 = .ok (.pop, 1) := dz_87 (n := 480) (r := 21) hz_L_law_480 rfl
theorem dL_law_502 : decode cL_law 502 = .ok (.goto 787, 3) := dz_167 (n := 480) (r := 22) hz_L_law_480 rfl (by decide +kernel)
theorem dL_law_505 : decode cL_law 505 = .ok (.aload_n 1, 1) := dz_43 (n := 480) (r := 25) hz_L_law_480 rfl
theorem dL_law_506 : decode cL_law 506 = .ok (.aload_n 0, 1) := dz_42 (n := 480) (r := 26) hz_L_law_480 rfl
theorem dL_law_507 : decode cL_law 507 = .ok (.iload_n 3, 1) := dz_29 (n := 480) (r := 27) hz_L_law_480 rfl
theorem dL_law_508 : decode cL_law 508 = .ok (.iconst 1, 1) := dz_4 (n := 480) (r := 28) hz_L_law_480 rfl
theorem dL_law_509 : decode cL_law 509 = .ok (.iadd, 1) := dz_96 (n := 480) (r := 29) hz_L_law_480 rfl
theorem dL_law_510 : decode cL_law 510 = .ok (.iaload, 1) := dz_46 (n := 480) (r := 30) hz_L_law_480 rfl
theorem dL_law_511 : decode cL_law 511 = .ok (.aload_n 0, 1) := dz_42 (n := 480) (r := 31) hz_L_law_480 rfl
theorem hz_L_law_512 : (cL_law.data.toList.drop 512).take 40 = [29, 5, 96, 46, 182, 0, 64, 87, 44, 42, 29, 4, 96, 46, 42, 29, 5, 96, 46, 182, 0, 68, 87, 167, 2, 242, 43, 42, 29, 4, 96, 46, 42, 29, 5, 96, 46, 182, 0, 69] := by decide +kernel
theorem dL_law_512 : decode cL_law 512 = .ok (.iload_n 3, 1) := dz_29 (n := 512) (r := 0) hz_L_law_512 rfl
theorem dL_law_513 : decode cL_law 513 = .ok (.iconst 2, 1) := dz_5 (n := 512) (r := 1) hz_L_law_512 rfl
theorem dL_law_514 : decode cL_law 514 = .ok (.iadd, 1) := dz_96 (n := 512) (r := 2) hz_L_law_512 rfl
theorem dL_law_515 : decode cL_law 515 = .ok (.iaload, 1) := dz_46 (n := 512) (r := 3) hz_L_law_512 rfl
theorem dL_law_516 : decode cL_law 516 = .ok (.invokevirtual 64, 3) := dz_182 (n := 512) (r := 4) hz_L_law_512 rfl rfl
theorem dL_law_519 : decode cL_law 519 = .ok (.pop, 1) := dz_87 (n := 512) (r := 7) hz_L_law_512 rfl
theorem dL_law_520 : decode cL_law 520 = .ok (.aload_n 2, 1) := dz_44 (n := 512) (r := 8) hz_L_law_512 rfl
theorem dL_law_521 : decode cL_law 521 = .ok (.aload_n 0, 1) := dz_42 (n := 512) (r := 9) hz_L_law_512 rfl
theorem dL_law_522 : decode cL_law 522 = .ok (.iload_n 3, 1) := dz_29 (n := 512) (r := 10) hz_L_law_512 rfl
theorem dL_law_523 : decode cL_law 523 = .ok (.iconst 1, 1) := dz_4 (n := 512) (r := 11) hz_L_law_512 rfl
theorem dL_law_524 : decode cL_law 524 = .ok (.iadd, 1) := dz_96 (n := 512) (r := 12) hz_L_law_512 rfl
theorem dL_law_525 : decode cL_law 525 = .ok (.iaload, 1) := dz_46 (n := 512) (r := 13) hz_L_law_512 rfl
theorem dL_law_526 : decode cL_law 526 = .ok (.aload_n 0, 1) := dz_42 (n := 512) (r := 14) hz_L_law_512 rfl
theorem dL_law_527 : decode cL_law 527 = .ok (.iload_n 3, 1) := dz_29 (n := 512) (r := 15) hz_L_law_512 rfl
theorem dL_law_528 : decode cL_law 528 = .ok (.iconst 2, 1) := dz_5 (n := 512) (r := 16) hz_L_law_512 rfl
theorem dL_law_529 : decode cL_law 529 = .ok (.iadd, 1) := dz_96 (n := 512) (r := 17) hz_L_law_512 rfl
theorem dL_law_530 : decode cL_law 530 = .ok (.iaload, 1) := dz_46 (n := 512) (r := 18) hz_L_law_512 rfl
theorem dL_law_531 : decode cL_law 531 = .ok (.invokevirtual 68, 3) := dz_182 (n := 512) (r := 19) hz_L_law_512 rfl rfl
theorem dL_law_534 : decode cL_law 534 = .ok (.pop, 1) := dz_87 (n := 512) (r := 22) hz_L_law_512 rfl
theorem dL_law_535 : decode cL_law 535 = .ok (.goto 754, 3) := dz_167 (n := 512) (r := 23) hz_L_law_512 rfl (by decide +kernel)
theorem dL_law_538 : decode cL_law 538 = .ok (.aload_n 1, 1) := dz_43 (n := 512) (r := 26) hz_L_law_512 rfl
theorem dL_law_539 : decode cL_law 539 = .ok (.aload_n 0, 1) := dz_42 (n := 512) (r := 27) hz_L_law_512 rfl
theorem dL_law_540 : decode cL_law 540 = .ok (.iload_n 3, 1) := dz_29 (n := 512) (r := 28) hz_L_law_512 rfl
theorem dL_law_541 : decode cL_law 541 = .ok (.iconst 1, 1) := dz_4 (n := 512) (r := 29) hz_L_law_512 rfl
theorem dL_law_542 : decode cL_law 542 = .ok (.iadd, 1) := dz_96 (n := 512) (r := 30) hz_L_law_512 rfl
theorem dL_law_543 : decode cL_law 543 = .ok (.iaload, 1) := dz_46 (n := 512) (r := 31) hz_L_law_512 rfl
theorem hz_L_law_544 : (cL_law.data.toList.drop 544).take 40 = [42, 29, 5, 96, 46, 182, 0, 69, 87, 44, 42, 29, 4, 96, 46, 42, 29, 5, 96, 46, 182, 0, 72, 87, 167, 2, 209, 43, 42, 29, 4, 96, 46, 42, 29, 5, 96, 46, 182, 0] := by decide +kernel
theorem dL_law_544 : decode cL_law 544 = .ok (.aload_n 0, 1) := dz_42 (n := 544) (r := 0) hz_L_law_544 rfl
theorem dL_law_545 : decode cL_law 545 = .ok (.iload_n 3, 1) := dz_29 (n := 544) (r := 1) hz_L_law_544 rfl
theorem dL_law_546 : decode cL_law 546 = .ok (.iconst 2, 1) := dz_5 (n := 544) (r := 2) hz_L_law_544 rfl
theorem dL_law_547 : decode cL_law 547 = .ok (.iadd, 1) := dz_96 (n := 544) (r := 3) hz_L_law_544 rfl
theorem dL_law_548 : decode cL_law 548 = .ok (.iaload, 1) := dz_46 (n := 544) (r := 4) hz_L_law_544 rfl
theorem dL_law_549 : decode cL_law 549 = .ok (.invokevirtual 69, 3) := dz_182 (n := 544) (r := 5) hz_L_law_544 rfl rfl
theorem dL_law_552 : decode cL_law 552 = .ok (.pop, 1) := dz_87 (n := 544) (r := 8) hz_L_law_544 rfl
theorem dL_law_553 : decode cL_law 553 = .ok (.aload_n 2, 1) := dz_44 (n := 544) (r := 9) hz_L_law_544 rfl
theorem dL_law_554 : decode cL_law 554 = .ok (.aload_n 0, 1) := dz_42 (n := 544) (r := 10) hz_L_law_544 rfl
theorem dL_law_555 : decode cL_law 555 = .ok (.iload_n 3, 1) := dz_29 (n := 544) (r := 11) hz_L_law_544 rfl
theorem dL_law_556 : decode cL_law 556 = .ok (.iconst 1, 1) := dz_4 (n := 544) (r := 12) hz_L_law_544 rfl
theorem dL_law_557 : decode cL_law 557 = .ok (.iadd, 1) := dz_96 (n := 544) (r := 13) hz_L_law_544 rfl
theorem dL_law_558 : decode cL_law 558 = .ok (.iaload, 1) := dz_46 (n := 544) (r := 14) hz_L_law_544 rfl
theorem dL_law_559 : decode cL_law 559 = .ok (.aload_n 0, 1) := dz_42 (n := 544) (r := 15) hz_L_law_544 rfl
theorem dL_law_560 : decode cL_law 560 = .ok (.iload_n 3, 1) := dz_29 (n := 544) (r := 16) hz_L_law_544 rfl
theorem dL_law_561 : decode cL_law 561 = .ok (.iconst 2, 1) := dz_5 (n := 544) (r := 17) hz_L_law_544 rfl
theorem dL_law_562 : decode cL_law 562 = .ok (.iadd, 1) := dz_96 (n := 544) (r := 18) hz_L_law_544 rfl
theorem dL_law_563 : decode cL_law 563 = .ok (.iaload, 1) := dz_46 (n := 544) (r := 19) hz_L_law_544 rfl
theorem dL_law_564 : decode cL_law 564 = .ok (.invokevirtual 72, 3) := dz_182 (n := 544) (r := 20) hz_L_law_544 rfl rfl
theorem dL_law_567 : decode cL_law 567 = .ok (.pop, 1) := dz_87 (n := 544) (r := 23) hz_L_law_544 rfl
theorem dL_law_568 : decode cL_law 568 = .ok (.goto 721, 3) := dz_167 (n := 544) (r := 24) hz_L_law_544 rfl (by decide +kernel)
theorem dL_law_571 : decode cL_law 571 = .ok (.aload_n 1, 1) := dz_43 (n := 544) (r := 27) hz_L_law_544 rfl
theorem dL_law_572 : decode cL_law 572 = .ok (.aload_n 0, 1) := dz_42 (n := 544) (r := 28) hz_L_law_544 rfl
theorem dL_law_573 : decode cL_law 573 = .ok (.iload_n 3, 1) := dz_29 (n := 544) (r := 29) hz_L_law_544 rfl
theorem dL_law_574 : decode cL_law 574 = .ok (.iconst 1, 1) := dz_4 (n := 544) (r := 30) hz_L_law_544 rfl
theorem dL_law_575 : decode cL_law 575 = .ok (.iadd, 1) := dz_96 (n := 544) (r := 31) hz_L_law_544 rfl
theorem hz_L_law_576 : (cL_law.data.toList.drop 576).take 40 = [46, 42, 29, 5, 96, 46, 182, 0, 73, 87, 44, 42, 29, 4, 96, 46, 42, 29, 5, 96, 46, 182, 0, 76, 87, 167, 2, 176, 43, 42, 29, 4, 96, 46, 182, 0, 77, 87, 44, 42] := by decide +kernel
theorem dL_law_576 : decode cL_law 576 = .ok (.iaload, 1) := dz_46 (n := 576) (r := 0) hz_L_law_576 rfl
theorem dL_law_577 : decode cL_law 577 = .ok (.aload_n 0, 1) := dz_42 (n := 576) (r := 1) hz_L_law_576 rfl
theorem dL_law_578 : decode cL_law 578 = .ok (.iload_n 3, 1) := dz_29 (n := 576) (r := 2) hz_L_law_576 rfl
theorem dL_law_579 : decode cL_law 579 = .ok (.iconst 2, 1) := dz_5 (n := 576) (r := 3) hz_L_law_576 rfl
theorem dL_law_580 : decode cL_law 580 = .ok (.iadd, 1) := dz_96 (n := 576) (r := 4) hz_L_law_576 rfl
theorem dL_law_581 : decode cL_law 581 = .ok (.iaload, 1) := dz_46 (n := 576) (r := 5) hz_L_law_576 rfl
theorem dL_law_582 : decode cL_law 582 = .ok (.invokevirtual 73, 3) := dz_182 (n := 576) (r := 6) hz_L_law_576 rfl rfl
theorem dL_law_585 : decode cL_law 585 = .ok (.pop, 1) := dz_87 (n := 576) (r := 9) hz_L_law_576 rfl
theorem dL_law_586 : decode cL_law 586 = .ok (.aload_n 2, 1) := dz_44 (n := 576) (r := 10) hz_L_law_576 rfl
theorem dL_law_587 : decode cL_law 587 = .ok (.aload_n 0, 1) := dz_42 (n := 576) (r := 11) hz_L_law_576 rfl
theorem dL_law_588 : decode cL_law 588 = .ok (.iload_n 3, 1) := dz_29 (n := 576) (r := 12) hz_L_law_576 rfl
theorem dL_law_589 : decode cL_law 589 = .ok (.iconst 1, 1) := dz_4 (n := 576) (r := 13) hz_L_law_576 rfl
theorem dL_law_590 : decode cL_law 590 = .ok (.iadd, 1) := dz_96 (n := 576) (r := 14) hz_L_law_576 rfl
theorem dL_law_591 : decode cL_law 591 = .ok (.iaload, 1) := dz_46 (n := 576) (r := 15) hz_L_law_576 rfl
theorem dL_law_592 : decode cL_law 592 = .ok (.aload_n 0, 1) := dz_42 (n := 576) (r := 16) hz_L_law_576 rfl
theorem dL_law_593 : decode cL_law 593 = .ok (.iload_n 3, 1) := dz_29 (n := 576) (r := 17) hz_L_law_576 rfl
theorem dL_law_594 : decode cL_law 594 = .ok (.iconst 2, 1) := dz_5 (n := 576) (r := 18) hz_L_law_576 rfl
theorem dL_law_595 : decode cL_law 595 = .ok (.iadd, 1) := dz_96 (n := 576) (r := 19) hz_L_law_576 rfl
theorem dL_law_596 : decode cL_law 596 = .ok (.iaload, 1) := dz_46 (n := 576) (r := 20) hz_L_law_576 rfl
theorem dL_law_597 : decode cL_law 597 = .ok (.invokevirtual 76, 3) := dz_182 (n := 576) (r := 21) hz_L_law_576 rfl rfl
theorem dL_law_600 : decode cL_law 600 = .ok (.pop, 1) := dz_87 (n := 576) (r := 24) hz_L_law_576 rfl
theorem dL_law_601 : decode cL_law 601 = .ok (.goto 688, 3) := dz_167 (n := 576) (r := 25) hz_L_law_576 rfl (by decide +kernel)
theorem dL_law_604 : decode cL_law 604 = .ok (.aload_n 1, 1) := dz_43 (n := 576) (r := 28) hz_L_law_576 rfl
theorem dL_law_605 : decode cL_law 605 = .ok (.aload_n 0, 1) := dz_42 (n := 576) (r := 29) hz_L_law_576 rfl
theorem dL_law_606 : decode cL_law 606 = .ok (.iload_n 3, 1) := dz_29 (n := 576) (r := 30) hz_L_law_576 rfl
theorem dL_law_607 : decode cL_law 607 = .ok (.iconst 1, 1) := dz_4 (n := 576) (r := 31) hz_L_law_576 rfl
theorem hz_L_law_608 : (cL_law.data.toList.drop 608).take 40 = [96, 46, 182, 0, 77, 87, 44, 42, 29, 4, 96, 46, 182, 0, 80, 87, 167, 2, 153, 43, 42, 29, 4, 96, 46, 182, 0, 81, 87, 44, 42, 29, 4, 96, 46, 182, 0, 84, 87, 167] := by decide +kernel
theorem dL_law_608 : decode cL_law 608 = .ok (.iadd, 1) := dz_96 (n := 608) (r := 0) hz_L_law_608 rfl
theorem dL_law_609 : decode cL_law 609 = .ok (.iaload, 1) := dz_46 (n := 608) (r := 1) hz_L_law_608 rfl
theorem dL_law_610 : decode cL_law 610 = .ok (.invokevirtual 77, 3) := dz_182 (n := 608) (r := 2) hz_L_law_608 rfl rfl
theorem dL_law_613 : decode cL_law 613 = .ok (.pop, 1) := dz_87 (n := 608) (r := 5) hz_L_law_608 rfl
theorem dL_law_614 : decode cL_law 614 = .ok (.aload_n 2, 1) := dz_44 (n := 608) (r := 6) hz_L_law_608 rfl
theorem dL_law_615 : decode cL_law 615 = .ok (.aload_n 0, 1) := dz_42 (n := 608) (r := 7) hz_L_law_608 rfl
theorem dL_law_616 : decode cL_law 616 = .ok (.iload_n 3, 1) := dz_29 (n := 608) (r := 8) hz_L_law_608 rfl
theorem dL_law_617 : decode cL_law 617 = .ok (.iconst 1, 1) := dz_4 (n := 608) (r := 9) hz_L_law_608 rfl
theorem dL_law_618 : decode cL_law 618 = .ok (.iadd, 1) := dz_96 (n := 608) (r := 10) hz_L_law_608 rfl
theorem dL_law_619 : decode cL_law 619 = .ok (.iaload, 1) := dz_46 (n := 608) (r := 11) hz_L_law_608 rfl
theorem dL_law_620 : decode cL_law 620 = .ok (.invokevirtual 80, 3) := dz_182 (n := 608) (r := 12) hz_L_law_608 rfl rfl
theorem dL_law_623 : decode cL_law 623 = .ok (.pop, 1) := dz_87 (n := 608) (r := 15) hz_L_law_608 rfl
theorem dL_law_624 : decode cL_law 624 = .ok (.goto 665, 3) := dz_167 (n := 608) (r := 16) hz_L_law_608 rfl (by decide +kernel)
theorem dL_law_627 : decode cL_law 627 = .ok (.aload_n 1, 1) := dz_43 (n := 608) (r := 19) hz_L_law_608 rfl
theorem dL_law_628 : decode cL_law 628 = .ok (.aload_n 0, 1) := dz_42 (n := 608) (r := 20) hz_L_law_608 rfl
theorem dL_law_629 : decode cL_law 629 = .ok (.iload_n 3, 1) := dz_29 (n := 608) (r := 21) hz_L_law_608 rfl
theorem dL_law_630 : decode cL_law 630 = .ok (.iconst 1, 1) := dz_4 (n := 608) (r := 22) hz_L_law_608 rfl
theorem dL_law_631 : decode cL_law 631 = .ok (.iadd, 1) := dz_96 (n := 608) (r := 23) hz_L_law_608 rfl
theorem dL_law_632 : decode cL_law 632 = .ok (.iaload, 1) := dz_46 (n := 608) (r := 24) hz_L_law_608 rfl
theorem dL_law_633 : decode cL_law 633 = .ok (.invokevirtual 81, 3) := dz_182 (n := 608) (r := 25) hz_L_law_608 rfl rfl
theorem dL_law_636 : decode cL_law 636 = .ok (.pop, 1) := dz_87 (n := 608) (r := 28) hz_L_law_608 rfl
theorem dL_law_637 : decode cL_law 637 = .ok (.aload_n 2, 1) := dz_44 (n := 608) (r := 29) hz_L_law_608 rfl
theorem dL_law_638 : decode cL_law 638 = .ok (.aload_n 0, 1) := dz_42 (n := 608) (r := 30) hz_L_law_608 rfl
theorem dL_law_639 : decode cL_law 639 = .ok (.iload_n 3, 1) := dz_29 (n := 608) (r := 31) hz_L_law_608 rfl
theorem hz_L_law_640 : (cL_law.data.toList.drop 640).take 40 = [4, 96, 46, 182, 0, 84, 87, 167, 2, 130, 43, 42, 29, 4, 96, 46, 42, 29, 5, 96, 46, 42, 29, 6, 96, 46, 42, 29, 7, 96, 46, 182, 0, 85, 87, 44, 42, 29, 4, 96] := by decide +kernel
theorem dL_law_640 : decode cL_law 640 = .ok (.iconst 1, 1) := dz_4 (n := 640) (r := 0) hz_L_law_640 rfl
theorem dL_law_641 : decode cL_law 641 = .ok (.iadd, 1) := dz_96 (n := 640) (r := 1) hz_L_law_640 rfl
theorem dL_law_642 : decode cL_law 642 = .ok (.iaload, 1) := dz_46 (n := 640) (r := 2) hz_L_law_640 rfl
theorem dL_law_643 : decode cL_law 643 = .ok (.invokevirtual 84, 3) := dz_182 (n := 640) (r := 3) hz_L_law_640 rfl rfl
theorem dL_law_646 : decode cL_law 646 = .ok (.pop, 1) := dz_87 (n := 640) (r := 6) hz_L_law_640 rfl
theorem dL_law_647 : decode cL_law 647 = .ok (.goto 642, 3) := dz_167 (n := 640) (r := 7) hz_L_law_640 rfl (by decide +kernel)
theorem dL_law_650 : decode cL_law 650 = .ok (.aload_n 1, 1) := dz_43 (n := 640) (r := 10) hz_L_law_640 rfl
theorem dL_law_651 : decode cL_law 651 = .ok (.aload_n 0, 1) := dz_42 (n := 640) (r := 11) hz_L_law_640 rfl
theorem dL_law_652 : decode cL_law 652 = .ok (.iload_n 3, 1) := dz_29 (n := 640) (r := 12) hz_L_law_640 rfl
theorem dL_law_653 : decode cL_law 653 = .ok (.iconst 1, 1) := dz_4 (n := 640) (r := 13) hz_L_law_640 rfl
theorem dL_law_654 : decode cL_law 654 = .ok (.iadd, 1) := dz_96 (n := 640) (r := 14) hz_L_law_640 rfl
theorem dL_law_655 : decode cL_law 655 = .ok (.iaload, 1) := dz_46 (n := 640) (r := 15) hz_L_law_640 rfl
theorem dL_law_656 : decode cL_law 656 = .ok (.aload_n 0, 1) := dz_42 (n := 640) (r := 16) hz_L_law_640 rfl
theorem dL_law_657 : decode cL_law 657 = .ok (.iload_n 3, 1) := dz_29 (n := 640) (r := 17) hz_L_law_640 rfl
theorem dL_law_658 : decode cL_law 658 = .ok (.iconst 2, 1) := dz_5 (n := 640) (r := 18) hz_L_law_640 rfl
theorem dL_law_659 : decode cL_law 659 = .ok (.iadd, 1) := dz_96 (n := 640) (r := 19) hz_L_law_640 rfl
theorem dL_law_660 : decode cL_law 660 = .ok (.iaload, 1) := dz_46 (n := 640) (r := 20) hz_L_law_640 rfl
theorem dL_law_661 : decode cL_law 661 = .ok (.aload_n 0, 1) := dz_42 (n := 640) (r := 21) hz_L_law_640 rfl
theorem dL_law_662 : decode cL_law 662 = .ok (.iload_n 3, 1) := dz_29 (n := 640) (r := 22) hz_L_law_640 rfl
theorem dL_law_663 : decode cL_law 663 = .ok (.iconst 3, 1) := dz_6 (n := 640) (r := 23) hz_L_law_640 rfl
theorem dL_law_664 : decode cL_law 664 = .ok (.iadd, 1) := dz_96 (n := 640) (r := 24) hz_L_law_640 rfl
theorem dL_law_665 : decode cL_law 665 = .ok (.iaload, 1) := dz_46 (n := 640) (r := 25) hz_L_law_640 rfl
theorem dL_law_666 : decode cL_law 666 = .ok (.aload_n 0, 1) := dz_42 (n := 640) (r := 26) hz_L_law_640 rfl
theorem dL_law_667 : decode cL_law 667 = .ok (.iload_n 3, 1) := dz_29 (n := 640) (r := 27) hz_L_law_640 rfl
theorem dL_law_668 : decode cL_law 668 = .ok (.iconst 4, 1) := dz_7 (n := 640) (r := 28) hz_L_law_640 rfl
theorem dL_law_669 : decode cL_law 669 = .ok (.iadd, 1) := dz_96 (n := 640) (r := 29) hz_L_law_640 rfl
theorem dL_law_670 : decode cL_law 670 = .ok (.iaload, 1) := dz_46 (n := 640) (r := 30) hz_L_law_640 rfl
theorem dL_law_671 : decode cL_law 671 = .ok (.invokevirtual 85, 3) := dz_182 (n := 640) (r := 31) hz_L_law_640 rfl rfl
theorem hz_L_law_672 : (cL_law.data.toList.drop 672).take 40 = [0, 85, 87, 44, 42, 29, 4, 96, 46, 42, 29, 5, 96, 46, 42, 29, 6, 96, 46, 42, 29, 7, 96, 46, 182, 0, 89, 87, 167, 2, 77, 43, 42, 29, 4, 96, 46, 42, 29, 5] := by decide +kernel
theorem dL_law_674 : decode cL_law 674 = .ok (.pop, 1) := dz_87 (n := 672) (r := 2) hz_L_law_672 rfl
theorem dL_law_675 : decode cL_law 675 = .ok (.aload_n 2, 1) := dz_44 (n := 672) (r := 3) hz_L_law_672 rfl
theorem dL_law_676 : decode cL_law 676 = .ok (.aload_n 0, 1) := dz_42 (n := 672) (r := 4) hz_L_law_672 rfl
theorem dL_law_677 : decode cL_law 677 = .ok (.iload_n 3, 1) := dz_29 (n := 672) (r := 5) hz_L_law_672 rfl
theorem dL_law_678 : decode cL_law 678 = .ok (.iconst 1, 1) := dz_4 (n := 672) (r := 6) hz_L_law_672 rfl
theorem dL_law_679 : decode cL_law 679 = .ok (.iadd, 1) := dz_96 (n := 672) (r := 7) hz_L_law_672 rfl
theorem dL_law_680 : decode cL_law 680 = .ok (.iaload, 1) := dz_46 (n := 672) (r := 8) hz_L_law_672 rfl
theorem dL_law_681 : decode cL_law 681 = .ok (.aload_n 0, 1) := dz_42 (n := 672) (r := 9) hz_L_law_672 rfl
theorem dL_law_682 : decode cL_law 682 = .ok (.iload_n 3, 1) := dz_29 (n := 672) (r := 10) hz_L_law_672 rfl
theorem dL_law_683 : decode cL_law 683 = .ok (.iconst 2, 1) := dz_5 (n := 672) (r := 11) hz_L_law_672 rfl
theorem dL_law_684 : decode cL_law 684 = .ok (.iadd, 1) := dz_96 (n := 672) (r := 12) hz_L_law_672 rfl
theorem dL_law_685 : decode cL_law 685 = .ok (.iaload, 1) := dz_46 (n := 672) (r := 13) hz_L_law_672 rfl
theorem dL_law_686 : decode cL_law 686 = .ok (.aload_n 0, 1) := dz_42 (n := 672) (r := 14) hz_L_law_672 rfl
theorem dL_law_687 : decode cL_law 687 = .ok (.iload_n 3, 1) := dz_29 (n := 672) (r := 15) hz_L_law_672 rfl
theorem dL_law_688 : decode cL_law 688 = .ok (.iconst 3, 1) := dz_6 (n := 672) (r := 16) hz_L_law_672 rfl
theorem dL_law_689 : decode cL_law 689 = .ok (.iadd, 1) := dz_96 (n := 672) (r := 17) hz_L_law_672 rfl
theorem dL_law_690 : decode cL_law 690 = .ok (.iaload, 1) := dz_46 (n := 672) (r := 18) hz_L_law_672 rfl
theorem dL_law_691 : decode cL_law 691 = .ok (.aload_n 0, 1) := dz_42 (n := 672) (r := 19) hz_L_law_672 rfl
theorem dL_law_692 : decode cL_law 692 = .ok (.iload_n 3, 1) := dz_29 (n := 672) (r := 20) hz_L_law_672 rfl
theorem dL_law_693 : decode cL_law 693 = .ok (.iconst 4, 1) := dz_7 (n := 672) (r := 21) hz_L_law_672 rfl
theorem dL_law_694 : decode cL_law 694 = .ok (.iadd, 1) := dz_96 (n := 672) (r := 22) hz_L_law_672 rfl
theorem dL_law_695 : decode cL_law 695 = .ok (.iaload, 1) := dz_46 (n := 672) (r := 23) hz_L_law_672 rfl
theorem dL_law_696 : decode cL_law 696 = .ok (.invokevirtual 89, 3) := dz_182 (n := 672) (r := 24) hz_L_law_672 rfl rfl
theorem dL_law_699 : decode cL_law 699 = .ok (.pop, 1) := dz_87 (n := 672) (r := 27) hz_L_law_672 rfl
theorem dL_law_700 : decode cL_law 700 = .ok (.goto 589, 3) := dz_167 (n := 672) (r := 28) hz_L_law_672 rfl (by decide +kernel)
theorem dL_law_703 : decode cL_law 703 = .ok (.aload_n 1, 1) := dz_43 (n := 672) (r := 31) hz_L_law_672 rfl
theorem hz_L_law_704 : (cL_law.data.toList.drop 704).take 40 = [42, 29, 4, 96, 46, 42, 29, 5, 96, 46, 182, 0, 90, 87, 44, 42, 29, 4, 96, 46, 42, 29, 5, 96, 46, 182, 0, 93, 87, 167, 2, 44, 43, 42, 29, 4, 96, 46, 182, 0] := by decide +kernel
theorem dL_law_704 : decode cL_law 704 = .ok (.aload_n 0, 1) := dz_42 (n := 704) (r := 0) hz_L_law_704 rfl
theorem dL_law_705 : decode cL_law 705 = .ok (.iload_n 3, 1) := dz_29 (n := 704) (r := 1) hz_L_law_704 rfl
theorem dL_law_706 : decode cL_law 706 = .ok (.iconst 1, 1) := dz_4 (n := 704) (r := 2) hz_L_law_704 rfl
theorem dL_law_707 : decode cL_law 707 = .ok (.iadd, 1) := dz_96 (n := 704) (r := 3) hz_L_law_704 rfl
theorem dL_law_708 : decode cL_law 708 = .ok (.iaload, 1) := dz_46 (n := 704) (r := 4) hz_L_law_704 rfl
theorem dL_law_709 : decode cL_law 709 = .ok (.aload_n 0, 1) := dz_42 (n := 704) (r := 5) hz_L_law_704 rfl
theorem dL_law_710 : decode cL_law 710 = .ok (.iload_n 3, 1) := dz_29 (n := 704) (r := 6) hz_L_law_704 rfl
theorem dL_law_711 : decode cL_law 711 = .ok (.iconst 2, 1) := dz_5 (n := 704) (r := 7) hz_L_law_704 rfl
theorem dL_law_712 : decode cL_law 712 = .ok (.iadd, 1) := dz_96 (n := 704) (r := 8) hz_L_law_704 rfl
theorem dL_law_713 : decode cL_law 713 = .ok (.iaload, 1) := dz_46 (n := 704) (r := 9) hz_L_law_704 rfl
theorem dL_law_714 : decode cL_law 714 = .ok (.invokevirtual 90, 3) := dz_182 (n := 704) (r := 10) hz_L_law_704 rfl rfl
theorem dL_law_717 : decode cL_law 717 = .ok (.pop, 1) := dz_87 (n := 704) (r := 13) hz_L_law_704 rfl
theorem dL_law_718 : decode cL_law 718 = .ok (.aload_n 2, 1) := dz_44 (n := 704) (r := 14) hz_L_law_704 rfl
theorem dL_law_719 : decode cL_law 719 = .ok (.aload_n 0, 1) := dz_42 (n := 704) (r := 15) hz_L_law_704 rfl
theorem dL_law_720 : decode cL_law 720 = .ok (.iload_n 3, 1) := dz_29 (n := 704) (r := 16) hz_L_law_704 rfl
theorem dL_law_721 : decode cL_law 721 = .ok (.iconst 1, 1) := dz_4 (n := 704) (r := 17) hz_L_law_704 rfl
theorem dL_law_722 : decode cL_law 722 = .ok (.iadd, 1) := dz_96 (n := 704) (r := 18) hz_L_law_704 rfl
theorem dL_law_723 : decode cL_law 723 = .ok (.iaload, 1) := dz_46 (n := 704) (r := 19) hz_L_law_704 rfl
theorem dL_law_724 : decode cL_law 724 = .ok (.aload_n 0, 1) := dz_42 (n := 704) (r := 20) hz_L_law_704 rfl
theorem dL_law_725 : decode cL_law 725 = .ok (.iload_n 3, 1) := dz_29 (n := 704) (r := 21) hz_L_law_704 rfl
theorem dL_law_726 : decode cL_law 726 = .ok (.iconst 2, 1) := dz_5 (n := 704) (r := 22) hz_L_law_704 rfl
theorem dL_law_727 : decode cL_law 727 = .ok (.iadd, 1) := dz_96 (n := 704) (r := 23) hz_L_law_704 rfl
theorem dL_law_728 : decode cL_law 728 = .ok (.iaload, 1) := dz_46 (n := 704) (r := 24) hz_L_law_704 rfl
theorem dL_law_729 : decode cL_law 729 = .ok (.invokevirtual 93, 3) := dz_182 (n := 704) (r := 25) hz_L_law_704 rfl rfl
theorem dL_law_732 : decode cL_law 732 = .ok (.pop, 1) := dz_87 (n := 704) (r := 28) hz_L_law_704 rfl
theorem dL_law_733 : decode cL_law 733 = .ok (.goto 556, 3) := dz_167 (n := 704) (r := 29) hz_L_law_704 rfl (by decide +kernel)
theorem hz_L_law_736 : (cL_law.data.toList.drop 736).take 40 = [43, 42, 29, 4, 96, 46, 182, 0, 94, 87, 44, 42, 29, 4, 96, 46, 182, 0, 97, 87, 167, 2, 21, 43, 42, 29, 4, 96, 46, 42, 29, 5, 96, 46, 42, 29, 6, 96, 46, 182] := by decide +kernel
theorem dL_law_736 : decode cL_law 736 = .ok (.aload_n 1, 1) := dz_43 (n := 736) (r := 0) hz_L_law_736 rfl
theorem dL_law_737 : decode cL_law 737 = .ok (.aload_n 0, 1) := dz_42 (n := 736) (r := 1) hz_L_law_736 rfl
theorem dL_law_738 : decode cL_law 738 = .ok (.iload_n 3, 1) := dz_29 (n := 736) (r := 2) hz_L_law_736 rfl
theorem dL_law_739 : decode cL_law 739 = .ok (.iconst 1, 1) := dz_4 (n := 736) (r := 3) hz_L_law_736 rfl
theorem dL_law_740 : decode cL_law 740 = .ok (.iadd, 1) := dz_96 (n := 736) (r := 4) hz_L_law_736 rfl
theorem dL_law_741 : decode cL_law 741 = .ok (.iaload, 1) := dz_46 (n := 736) (r := 5) hz_L_law_736 rfl
theorem dL_law_742 : decode cL_law 742 = .ok (.invokevirtual 94, 3) := dz_182 (n := 736) (r := 6) hz_L_law_736 rfl rfl
theorem dL_law_745 : decode cL_law 745 = .ok (.pop, 1) := dz_87 (n := 736) (r := 9) hz_L_law_736 rfl
theorem dL_law_746 : decode cL_law 746 = .ok (.aload_n 2, 1) := dz_44 (n := 736) (r := 10) hz_L_law_736 rfl
theorem dL_law_747 : decode cL_law 747 = .ok (.aload_n 0, 1) := dz_42 (n := 736) (r := 11) hz_L_law_736 rfl
theorem dL_law_748 : decode cL_law 748 = .ok (.iload_n 3, 1) := dz_29 (n := 736) (r := 12) hz_L_law_736 rfl
theorem dL_law_749 : decode cL_law 749 = .ok (.iconst 1, 1) := dz_4 (n := 736) (r := 13) hz_L_law_736 rfl
theorem dL_law_750 : decode cL_law 750 = .ok (.iadd, 1) := dz_96 (n := 736) (r := 14) hz_L_law_736 rfl
theorem dL_law_751 : decode cL_law 751 = .ok (.iaload, 1) := dz_46 (n := 736) (r := 15) hz_L_law_736 rfl
theorem dL_law_752 : decode cL_law 752 = .ok (.invokevirtual 97, 3) := dz_182 (n := 736) (r := 16) hz_L_law_736 rfl rfl
theorem dL_law_755 : decode cL_law 755 = .ok (.pop, 1) := dz_87 (n := 736) (r := 19) hz_L_law_736 rfl
theorem dL_law_756 : decode cL_law 756 = .ok (.goto 533, 3) := dz_167 (n := 736) (r := 20) hz_L_law_736 rfl (by decide +kernel)
theorem dL_law_759 : decode cL_law 759 = .ok (.aload_n 1, 1) := dz_43 (n := 736) (r := 23) hz_L_law_736 rfl
theorem dL_law_760 : decode cL_law 760 = .ok (.aload_n 0, 1) := dz_42 (n := 736) (r := 24) hz_L_law_736 rfl
theorem dL_law_761 : decode cL_law 761 = .ok (.iload_n 3, 1) := dz_29 (n := 736) (r := 25) hz_L_law_736 rfl
theorem dL_law_762 : decode cL_law 762 = .ok (.iconst 1, 1) := dz_4 (n := 736) (r := 26) hz_L_law_736 rfl
theorem dL_law_763 : decode cL_law 763 = .ok (.iadd, 1) := dz_96 (n := 736) (r := 27) hz_L_law_736 rfl
theorem dL_law_764 : decode cL_law 764 = .ok (.iaload, 1) := dz_46 (n := 736) (r := 28) hz_L_law_736 rfl
theorem dL_law_765 : decode cL_law 765 = .ok (.aload_n 0, 1) := dz_42 (n := 736) (r := 29) hz_L_law_736 rfl
theorem dL_law_766 : decode cL_law 766 = .ok (.iload_n 3, 1) := dz_29 (n := 736) (r := 30) hz_L_law_736 rfl
theorem dL_law_767 : decode cL_law 767 = .ok (.iconst 2, 1) := dz_5 (n := 736) (r := 31) hz_L_law_736 rfl
theorem hz_L_law_768 : (cL_law.data.toList.drop 768).take 40 = [96, 46, 42, 29, 6, 96, 46, 182, 0, 98, 88, 44, 42, 29, 4, 96, 46, 42, 29, 5, 96, 46, 42, 29, 6, 96, 46, 182, 0, 102, 88, 167, 1, 234, 43, 42, 29, 4, 96, 46] := by decide +kernel
theorem dL_law_768 : decode cL_law 768 = .ok (.iadd, 1) := dz_96 (n := 768) (r := 0) hz_L_law_768 rfl
theorem dL_law_769 : decode cL_law 769 = .ok (.iaload, 1) := dz_46 (n := 768) (r := 1) hz_L_law_768 rfl
theorem dL_law_770 : decode cL_law 770 = .ok (.aload_n 0, 1) := dz_42 (n := 768) (r := 2) hz_L_law_768 rfl
theorem dL_law_771 : decode cL_law 771 = .ok (.iload_n 3, 1) := dz_29 (n := 768) (r := 3) hz_L_law_768 rfl
theorem dL_law_772 : decode cL_law 772 = .ok (.iconst 3, 1) := dz_6 (n := 768) (r := 4) hz_L_law_768 rfl
theorem dL_law_773 : decode cL_law 773 = .ok (.iadd, 1) := dz_96 (n := 768) (r := 5) hz_L_law_768 rfl
theorem dL_law_774 : decode cL_law 774 = .ok (.iaload, 1) := dz_46 (n := 768) (r := 6) hz_L_law_768 rfl
theorem dL_law_775 : decode cL_law 775 = .ok (.invokevirtual 98, 3) := dz_182 (n := 768) (r := 7) hz_L_law_768 rfl rfl
theorem dL_law_778 : decode cL_law 778 = .ok (.pop2, 1) := dz_88 (n := 768) (r := 10) hz_L_law_768 rfl
theorem dL_law_779 : decode cL_law 779 = .ok (.aload_n 2, 1) := dz_44 (n := 768) (r := 11) hz_L_law_768 rfl
theorem dL_law_780 : decode cL_law 780 = .ok (.aload_n 0, 1) := dz_42 (n := 768) (r := 12) hz_L_law_768 rfl
theorem dL_law_781 : decode cL_law 781 = .ok (.iload_n 3, 1) := dz_29 (n := 768) (r := 13) hz_L_law_768 rfl
theorem dL_law_782 : decode cL_law 782 = .ok (.iconst 1, 1) := dz_4 (n := 768) (r := 14) hz_L_law_768 rfl
theorem dL_law_783 : decode cL_law 783 = .ok (.iadd, 1) := dz_96 (n := 768) (r := 15) hz_L_law_768 rfl
theorem dL_law_784 : decode cL_law 784 = .ok (.iaload, 1) := dz_46 (n := 768) (r := 16) hz_L_law_768 rfl
theorem dL_law_785 : decode cL_law 785 = .ok (.aload_n 0, 1) := dz_42 (n := 768) (r := 17) hz_L_law_768 rfl
theorem dL_law_786 : decode cL_law 786 = .ok (.iload_n 3, 1) := dz_29 (n := 768) (r := 18) hz_L_law_768 rfl
theorem dL_law_787 : decode cL_law 787 = .ok (.iconst 2, 1) := dz_5 (n := 768) (r := 19) hz_L_law_768 rfl
theorem dL_law_788 : decode cL_law 788 = .ok (.iadd, 1) := dz_96 (n := 768) (r := 20) hz_L_law_768 rfl
theorem dL_law_789 : decode cL_law 789 = .ok (.iaload, 1) := dz_46 (n := 768) (r := 21) hz_L_law_768 rfl
theorem dL_law_790 : decode cL_law 790 = .ok (.aload_n 0, 1) := dz_42 (n := 768) (r := 22) hz_L_law_768 rfl
theorem dL_law_791 : decode cL_law 791 = .ok (.iload_n 3, 1) := dz_29 (n := 768) (r := 23) hz_L_law_768 rfl
theorem dL_law_792 : decode cL_law 792 = .ok (.iconst 3, 1) := dz_6 (n := 768) (r := 24) hz_L_law_768 rfl
theorem dL_law_793 : decode cL_law 793 = .ok (.iadd, 1) := dz_96 (n := 768) (r := 25) hz_L_law_768 rfl
theorem dL_law_794 : decode cL_law 794 = .ok (.iaload, 1) := dz_46 (n := 768) (r := 26) hz_L_law_768 rfl
theorem dL_law_795 : decode cL_law 795 = .ok (.invokevirtual 102, 3) := dz_182 (n := 768) (r := 27) hz_L_law_768 rfl rfl
theorem dL_law_798 : decode cL_law 798 = .ok (.pop2, 1) := dz_88 (n := 768) (r := 30) hz_L_law_768 rfl
theorem dL_law_799 : decode cL_law 799 = .ok (.goto 490, 3) := dz_167 (n := 768) (r := 31) hz_L_law_768 rfl (by decide +kernel)
theorem hz_L_law_800 : (cL_law.data.toList.drop 800).take 40 = [1, 234, 43, 42, 29, 4, 96, 46, 42, 29, 5, 96, 46, 182, 0, 103, 87, 44, 42, 29, 4, 96, 46, 42, 29, 5, 96, 46, 182, 0, 106, 87, 167, 1, 201, 43, 42, 29, 4, 96] := by decide +kernel
theorem dL_law_802 : decode cL_law 802 = .ok (.aload_n 1, 1) := dz_43 (n := 800) (r := 2) hz_L_law_800 rfl
theorem dL_law_803 : decode cL_law 803 = .ok (.aload_n 0, 1) := dz_42 (n := 800) (r := 3) hz_L_law_800 rfl
theorem dL_law_804 : decode cL_law 804 = .ok (.iload_n 3, 1) := dz_29 (n := 800) (r := 4) hz_L_law_800 rfl
theorem dL_law_805 : decode cL_law 805 = .ok (.iconst 1, 1) := dz_4 (n := 800) (r := 5) hz_L_law_800 rfl
theorem dL_law_806 : decode cL_law 806 = .ok (.iadd, 1) := dz_96 (n := 800) (r := 6) hz_L_law_800 rfl
theorem dL_law_807 : decode cL_law 807 = .ok (.iaload, 1) := dz_46 (n := 800) (r := 7) hz_L_law_800 rfl
theorem dL_law_808 : decode cL_law 808 = .ok (.aload_n 0, 1) := dz_42 (n := 800) (r := 8) hz_L_law_800 rfl
theorem dL_law_809 : decode cL_law 809 = .ok (.iload_n 3, 1) := dz_29 (n := 800) (r := 9) hz_L_law_800 rfl
theorem dL_law_810 : decode cL_law 810 = .ok (.iconst 2, 1) := dz_5 (n := 800) (r := 10) hz_L_law_800 rfl
theorem dL_law_811 : decode cL_law 811 = .ok (.iadd, 1) := dz_96 (n := 800) (r := 11) hz_L_law_800 rfl
theorem dL_law_812 : decode cL_law 812 = .ok (.iaload, 1) := dz_46 (n := 800) (r := 12) hz_L_law_800 rfl
theorem dL_law_813 : decode cL_law 813 = .ok (.invokevirtual 103, 3) := dz_182 (n := 800) (r := 13) hz_L_law_800 rfl rfl
theorem dL_law_816 : decode cL_law 816 = .ok (.pop, 1) := dz_87 (n := 800) (r := 16) hz_L_law_800 rfl
theorem dL_law_817 : decode cL_law 817 = .ok (.aload_n 2, 1) := dz_44 (n := 800) (r := 17) hz_L_law_800 rfl
theorem dL_law_818 : decode cL_law 818 = .ok (.aload_n 0, 1) := dz_42 (n := 800) (r := 18) hz_L_law_800 rfl
theorem dL_law_819 : decode cL_law 819 = .ok (.iload_n 3, 1) := dz_29 (n := 800) (r := 19) hz_L_law_800 rfl
theorem dL_law_820 : decode cL_law 820 = .ok (.iconst 1, 1) := dz_4 (n := 800) (r := 20) hz_L_law_800 rfl
theorem dL_law_821 : decode cL_law 821 = .ok (.iadd, 1) := dz_96 (n := 800) (r := 21) hz_L_law_800 rfl
theorem dL_law_822 : decode cL_law 822 = .ok (.iaload, 1) := dz_46 (n := 800) (r := 22) hz_L_law_800 rfl
theorem dL_law_823 : decode cL_law 823 = .ok (.aload_n 0, 1) := dz_42 (n := 800) (r := 23) hz_L_law_800 rfl
theorem dL_law_824 : decode cL_law 824 = .ok (.iload_n 3, 1) := dz_29 (n := 800) (r := 24) hz_L_law_800 rfl
theorem dL_law_825 : decode cL_law 825 = .ok (.iconst 2, 1) := dz_5 (n := 800) (r := 25) hz_L_law_800 rfl
theorem dL_law_826 : decode cL_law 826 = .ok (.iadd, 1) := dz_96 (n := 800) (r := 26) hz_L_law_800 rfl
theorem dL_law_827 : decode cL_law 827 = .ok (.iaload, 1) := dz_46 (n := 800) (r := 27) hz_L_law_800 rfl
theorem dL_law_828 : decode cL_law 828 = .ok (.invokevirtual 106, 3) := dz_182 (n := 800) (r := 28) hz_L_law_800 rfl rfl
theorem dL_law_831 : decode cL_law 831 = .ok (.pop, 1) := dz_87 (n := 800) (r := 31) hz_L_law_800 rfl
theorem hz_L_law_832 : (cL_law.data.toList.drop 832).take 40 = [167, 1, 201, 43, 42, 29, 4, 96, 46, 153, 0, 7, 4, 167, 0, 4, 3, 182, 0, 107, 87, 44, 42, 29, 4, 96, 46, 153, 0, 7, 4, 167, 0, 4, 3, 182, 0, 111, 87, 167] := by decide +kernel
theorem dL_law_832 : decode cL_law 832 = .ok (.goto 457, 3) := dz_167 (n := 832) (r := 0) hz_L_law_832 rfl (by decide +kernel)
theorem dL_law_835 : decode cL_law 835 = .ok (.aload_n 1, 1) := dz_43 (n := 832) (r := 3) hz_L_law_832 rfl
theorem dL_law_836 : decode cL_law 836 = .ok (.aload_n 0, 1) := dz_42 (n := 832) (r := 4) hz_L_law_832 rfl
theorem dL_law_837 : decode cL_law 837 = .ok (.iload_n 3, 1) := dz_29 (n := 832) (r := 5) hz_L_law_832 rfl
theorem dL_law_838 : decode cL_law 838 = .ok (.iconst 1, 1) := dz_4 (n := 832) (r := 6) hz_L_law_832 rfl
theorem dL_law_839 : decode cL_law 839 = .ok (.iadd, 1) := dz_96 (n := 832) (r := 7) hz_L_law_832 rfl
theorem dL_law_840 : decode cL_law 840 = .ok (.iaload, 1) := dz_46 (n := 832) (r := 8) hz_L_law_832 rfl
theorem dL_law_841 : decode cL_law 841 = .ok (.ifCond .eq 7, 3) := dz_153 (n := 832) (r := 9) hz_L_law_832 rfl (by decide +kernel)
theorem dL_law_844 : decode cL_law 844 = .ok (.iconst 1, 1) := dz_4 (n := 832) (r := 12) hz_L_law_832 rfl
theorem dL_law_845 : decode cL_law 845 = .ok (.goto 4, 3) := dz_167 (n := 832) (r := 13) hz_L_law_832 rfl (by decide +kernel)
theorem dL_law_848 : decode cL_law 848 = .ok (.iconst 0, 1) := dz_3 (n := 832) (r := 16) hz_L_law_832 rfl
theorem dL_law_849 : decode cL_law 849 = .ok (.invokevirtual 107, 3) := dz_182 (n := 832) (r := 17) hz_L_law_832 rfl rfl
theorem dL_law_852 : decode cL_law 852 = .ok (.pop, 1) := dz_87 (n := 832) (r := 20) hz_L_law_832 rfl
theorem dL_law_853 : decode cL_law 853 = .ok (.aload_n 2, 1) := dz_44 (n := 832) (r := 21) hz_L_law_832 rfl
theorem dL_law_854 : decode cL_law 854 = .ok (.aload_n 0, 1) := dz_42 (n := 832) (r := 22) hz_L_law_832 rfl
theorem dL_law_855 : decode cL_law 855 = .ok (.iload_n 3, 1) := dz_29 (n := 832) (r := 23) hz_L_law_832 rfl
theorem dL_law_856 : decode cL_law 856 = .ok (.iconst 1, 1) := dz_4 (n := 832) (r := 24) hz_L_law_832 rfl
theorem dL_law_857 : decode cL_law 857 = .ok (.iadd, 1) := dz_96 (n := 832) (r := 25) hz_L_law_832 rfl
theorem dL_law_858 : decode cL_law 858 = .ok (.iaload, 1) := dz_46 (n := 832) (r := 26) hz_L_law_832 rfl
theorem dL_law_859 : decode cL_law 859 = .ok (.ifCond .eq 7, 3) := dz_153 (n := 832) (r := 27) hz_L_law_832 rfl (by decide +kernel)
theorem dL_law_862 : decode cL_law 862 = .ok (.iconst 1, 1) := dz_4 (n := 832) (r := 30) hz_L_law_832 rfl
theorem dL_law_863 : decode cL_law 863 = .ok (.goto 4, 3) := dz_167 (n := 832) (r := 31) hz_L_law_832 rfl (by decide +kernel)
theorem hz_L_law_864 : (cL_law.data.toList.drop 864).take 40 = [0, 4, 3, 182, 0, 111, 87, 167, 1, 162, 43, 42, 29, 4, 96, 46, 42, 29, 5, 96, 46, 42, 29, 6, 96, 46, 182, 0, 112, 87, 44, 42, 29, 4, 96, 46, 42, 29, 5, 96] := by decide +kernel
theorem dL_law_866 : decode cL_law 866 = .ok (.iconst 0, 1) := dz_3 (n := 864) (r := 2) hz_L_law_864 rfl
theorem dL_law_867 : decode cL_law 867 = .ok (.invokevirtual 111, 3) := dz_182 (n := 864) (r := 3) hz_L_law_864 rfl rfl
theorem dL_law_870 : decode cL_law 870 = .ok (.pop, 1) := dz_87 (n := 864) (r := 6) hz_L_law_864 rfl
theorem dL_law_871 : decode cL_law 871 = .ok (.goto 418, 3) := dz_167 (n := 864) (r := 7) hz_L_law_864 rfl (by decide +kernel)
theorem dL_law_874 : decode cL_law 874 = .ok (.aload_n 1, 1) := dz_43 (n := 864) (r := 10) hz_L_law_864 rfl
theorem dL_law_875 : decode cL_law 875 = .ok (.aload_n 0, 1) := dz_42 (n := 864) (r := 11) hz_L_law_864 rfl
theorem dL_law_876 : decode cL_law 876 = .ok (.iload_n 3, 1) := dz_29 (n := 864) (r := 12) hz_L_law_864 rfl
theorem dL_law_877 : decode cL_law 877 = .ok (.iconst 1, 1) := dz_4 (n := 864) (r := 13) hz_L_law_864 rfl
theorem dL_law_878 : decode cL_law 878 = .ok (.iadd, 1) := dz_96 (n := 864) (r := 14) hz_L_law_864 rfl
theorem dL_law_879 : decode cL_law 879 = .ok (.iaload, 1) := dz_46 (n := 864) (r := 15) hz_L_law_864 rfl
theorem dL_law_880 : decode cL_law 880 = .ok (.aload_n 0, 1) := dz_42 (n := 864) (r := 16) hz_L_law_864 rfl
theorem dL_law_881 : decode cL_law 881 = .ok (.iload_n 3, 1) := dz_29 (n := 864) (r := 17) hz_L_law_864 rfl
theorem dL_law_882 : decode cL_law 882 = .ok (.iconst 2, 1) := dz_5 (n := 864) (r := 18) hz_L_law_864 rfl
theorem dL_law_883 : decode cL_law 883 = .ok (.iadd, 1) := dz_96 (n := 864) (r := 19) hz_L_law_864 rfl
theorem dL_law_884 : decode cL_law 884 = .ok (.iaload, 1) := dz_46 (n := 864) (r := 20) hz_L_law_864 rfl
theorem dL_law_885 : decode cL_law 885 = .ok (.aload_n 0, 1) := dz_42 (n := 864) (r := 21) hz_L_law_864 rfl
theorem dL_law_886 : decode cL_law 886 = .ok (.iload_n 3, 1) := dz_29 (n := 864) (r := 22) hz_L_law_864 rfl
theorem dL_law_887 : decode cL_law 887 = .ok (.iconst 3, 1) := dz_6 (n := 864) (r := 23) hz_L_law_864 rfl
theorem dL_law_888 : decode cL_law 888 = .ok (.iadd, 1) := dz_96 (n := 864) (r := 24) hz_L_law_864 rfl
theorem dL_law_889 : decode cL_law 889 = .ok (.iaload, 1) := dz_46 (n := 864) (r := 25) hz_L_law_864 rfl
theorem dL_law_890 : decode cL_law 890 = .ok (.invokevirtual 112, 3) := dz_182 (n := 864) (r := 26) hz_L_law_864 rfl rfl
theorem dL_law_893 : decode cL_law 893 = .ok (.pop, 1) := dz_87 (n := 864) (r := 29) hz_L_law_864 rfl
theorem dL_law_894 : decode cL_law 894 = .ok (.aload_n 2, 1) := dz_44 (n := 864) (r := 30) hz_L_law_864 rfl
theorem dL_law_895 : decode cL_law 895 = .ok (.aload_n 0, 1) := dz_42 (n := 864) (r := 31) hz_L_law_864 rfl
theorem hz_L_law_896 : (cL_law.data.toList.drop 896).take 40 = [29, 4, 96, 46, 42, 29, 5, 96, 46, 42, 29, 6, 96, 46, 182, 0, 116, 87, 167, 1, 119, 43, 42, 29, 4, 96, 46, 182, 0, 117, 87, 44, 42, 29, 4, 96, 46, 182, 0, 120] := by decide +kernel
theorem dL_law_896 : decode cL_law 896 = .ok (.iload_n 3, 1) := dz_29 (n := 896) (r := 0) hz_L_law_896 rfl
theorem dL_law_897 : decode cL_law 897 = .ok (.iconst 1, 1) := dz_4 (n := 896) (r := 1) hz_L_law_896 rfl
theorem dL_law_898 : decode cL_law 898 = .ok (.iadd, 1) := dz_96 (n := 896) (r := 2) hz_L_law_896 rfl
theorem dL_law_899 : decode cL_law 899 = .ok (.iaload, 1) := dz_46 (n := 896) (r := 3) hz_L_law_896 rfl
theorem dL_law_900 : decode cL_law 900 = .ok (.aload_n 0, 1) := dz_42 (n := 896) (r := 4) hz_L_law_896 rfl
theorem dL_law_901 : decode cL_law 901 = .ok (.iload_n 3, 1) := dz_29 (n := 896) (r := 5) hz_L_law_896 rfl
theorem dL_law_902 : decode cL_law 902 = .ok (.iconst 2, 1) := dz_5 (n := 896) (r := 6) hz_L_law_896 rfl
theorem dL_law_903 : decode cL_law 903 = .ok (.iadd, 1) := dz_96 (n := 896) (r := 7) hz_L_law_896 rfl
theorem dL_law_904 : decode cL_law 904 = .ok (.iaload, 1) := dz_46 (n := 896) (r := 8) hz_L_law_896 rfl
theorem dL_law_905 : decode cL_law 905 = .ok (.aload_n 0, 1) := dz_42 (n := 896) (r := 9) hz_L_law_896 rfl
theorem dL_law_906 : decode cL_law 906 = .ok (.iload_n 3, 1) := dz_29 (n := 896) (r := 10) hz_L_law_896 rfl
theorem dL_law_907 : decode cL_law 907 = .ok (.iconst 3, 1) := dz_6 (n := 896) (r := 11) hz_L_law_896 rfl
theorem dL_law_908 : decode cL_law 908 = .ok (.iadd, 1) := dz_96 (n := 896) (r := 12) hz_L_law_896 rfl
theorem dL_law_909 : decode cL_law 909 = .ok (.iaload, 1) := dz_46 (n := 896) (r := 13) hz_L_law_896 rfl
theorem dL_law_910 : decode cL_law 910 = .ok (.invokevirtual 116, 3) := dz_182 (n := 896) (r := 14) hz_L_law_896 rfl rfl
theorem dL_law_913 : decode cL_law 913 = .ok (.pop, 1) := dz_87 (n := 896) (r := 17) hz_L_law_896 rfl
theorem dL_law_914 : decode cL_law 914 = .ok (.goto 375, 3) := dz_167 (n := 896) (r := 18) hz_L_law_896 rfl (by decide +kernel)
theorem dL_law_917 : decode cL_law 917 = .ok (.aload_n 1, 1) := dz_43 (n := 896) (r := 21) hz_L_law_896 rfl
theorem dL_law_918 : decode cL_law 918 = .ok (.aload_n 0, 1) := dz_42 (n := 896) (r := 22) hz_L_law_896 rfl
theorem dL_law_919 : decode cL_law 919 = .ok (.iload_n 3, 1) := dz_29 (n := 896) (r := 23) hz_L_law_896 rfl
theorem dL_law_920 : decode cL_law 920 = .ok (.iconst 1, 1) := dz_4 (n := 896) (r := 24) hz_L_law_896 rfl
theorem dL_law_921 : decode cL_law 921 = .ok (.iadd, 1) := dz_96 (n := 896) (r := 25) hz_L_law_896 rfl
theorem dL_law_922 : decode cL_law 922 = .ok (.iaload, 1) := dz_46 (n := 896) (r := 26) hz_L_law_896 rfl
theorem dL_law_923 : decode cL_law 923 = .ok (.invokevirtual 117, 3) := dz_182 (n := 896) (r := 27) hz_L_law_896 rfl rfl
theorem dL_law_926 : decode cL_law 926 = .ok (.pop, 1) := dz_87 (n := 896) (r := 30) hz_L_law_896 rfl
theorem dL_law_927 : decode cL_law 927 = .ok (.aload_n 2, 1) := dz_44 (n := 896) (r := 31) hz_L_law_896 rfl
theorem hz_L_law_928 : (cL_law.data.toList.drop 928).take 40 = [42, 29, 4, 96, 46, 182, 0, 120, 87, 167, 1, 96, 43, 42, 29, 4, 96, 46, 182, 0, 121, 87, 44, 42, 29, 4, 96, 46, 182, 0, 124, 87, 167, 1, 73, 43, 42, 29, 4, 96] := by decide +kernel
theorem dL_law_928 : decode cL_law 928 = .ok (.aload_n 0, 1) := dz_42 (n := 928) (r := 0) hz_L_law_928 rfl
theorem dL_law_929 : decode cL_law 929 = .ok (.iload_n 3, 1) := dz_29 (n := 928) (r := 1) hz_L_law_928 rfl
theorem dL_law_930 : decode cL_law 930 = .ok (.iconst 1, 1) := dz_4 (n := 928) (r := 2) hz_L_law_928 rfl
theorem dL_law_931 : decode cL_law 931 = .ok (.iadd, 1) := dz_96 (n := 928) (r := 3) hz_L_law_928 rfl
theorem dL_law_932 : decode cL_law 932 = .ok (.iaload, 1) := dz_46 (n := 928) (r := 4) hz_L_law_928 rfl
theorem dL_law_933 : decode cL_law 933 = .ok (.invokevirtual 120, 3) := dz_182 (n := 928) (r := 5) hz_L_law_928 rfl rfl
theorem dL_law_936 : decode cL_law 936 = .ok (.pop, 1) := dz_87 (n := 928) (r := 8) hz_L_law_928 rfl
theorem dL_law_937 : decode cL_law 937 = .ok (.goto 352, 3) := dz_167 (n := 928) (r := 9) hz_L_law_928 rfl (by decide +kernel)
theorem dL_law_940 : decode cL_law 940 = .ok (.aload_n 1, 1) := dz_43 (n := 928) (r := 12) hz_L_law_928 rfl
theorem dL_law_941 : decode cL_law 941 = .ok (.aload_n 0, 1) := dz_42 (n := 928) (r := 13) hz_L_law_928 rfl
theorem dL_law_942 : decode cL_law 942 = .ok (.iload_n 3, 1) := dz_29 (n := 928) (r := 14) hz_L_law_928 rfl
theorem dL_law_943 : decode cL_law 943 = .ok (.iconst 1, 1) := dz_4 (n := 928) (r := 15) hz_L_law_928 rfl
theorem dL_law_944 : decode cL_law 944 = .ok (.iadd, 1) := dz_96 (n := 928) (r := 16) hz_L_law_928 rfl
theorem dL_law_945 : decode cL_law 945 = .ok (.iaload, 1) := dz_46 (n := 928) (r := 17) hz_L_law_928 rfl
theorem dL_law_946 : decode cL_law 946 = .ok (.invokevirtual 121, 3) := dz_182 (n := 928) (r := 18) hz_L_law_928 rfl rfl
theorem dL_law_949 : decode cL_law 949 = .ok (.pop, 1) := dz_87 (n := 928) (r := 21) hz_L_law_928 rfl
theorem dL_law_950 : decode cL_law 950 = .ok (.aload_n 2, 1) := dz_44 (n := 928) (r := 22) hz_L_law_928 rfl
theorem dL_law_951 : decode cL_law 951 = .ok (.aload_n 0, 1) := dz_42 (n := 928) (r := 23) hz_L_law_928 rfl
theorem dL_law_952 : decode cL_law 952 = .ok (.iload_n 3, 1) := dz_29 (n := 928) (r := 24) hz_L_law_928 rfl
theorem dL_law_953 : decode cL_law 953 = .ok (.iconst 1, 1) := dz_4 (n := 928) (r := 25) hz_L_law_928 rfl
theorem dL_law_954 : decode cL_law 954 = .ok (.iadd, 1) := dz_96 (n := 928) (r := 26) hz_L_law_928 rfl
theorem dL_law_955 : decode cL_law 955 = .ok (.iaload, 1) := dz_46 (n := 928) (r := 27) hz_L_law_928 rfl
theorem dL_law_956 : decode cL_law 956 = .ok (.invokevirtual 124, 3) := dz_182 (n := 928) (r := 28) hz_L_law_928 rfl rfl
theorem dL_law_959 : decode cL_law 959 = .ok (.pop, 1) := dz_87 (n := 928) (r := 31) hz_L_law_928 rfl
theorem hz_L_law_960 : (cL_law.data.toList.drop 960).take 40 = [167, 1, 73, 43, 42, 29, 4, 96, 46, 182, 0, 125, 87, 44, 42, 29, 4, 96, 46, 182, 0, 128, 87, 167, 1, 50, 43, 42, 29, 4, 96, 46, 42, 29, 5, 96, 46, 182, 0, 129] := by decide +kernel
theorem dL_law_960 : decode cL_law 960 = .ok (.goto 329, 3) := dz_167 (n := 960) (r := 0) hz_L_law_960 rfl (by decide +kernel)
theorem dL_law_963 : decode cL_law 963 = .ok (.aload_n 1, 1) := dz_43 (n := 960) (r := 3) hz_L_law_960 rfl
theorem dL_law_964 : decode cL_law 964 = .ok (.aload_n 0, 1) := dz_42 (n := 960) (r := 4) hz_L_law_960 rfl
theorem dL_law_965 : decode cL_law 965 = .ok (.iload_n 3, 1) := dz_29 (n := 960) (r := 5) hz_L_law_960 rfl
theorem dL_law_966 : decode cL_law 966 = .ok (.iconst 1, 1) := dz_4 (n := 960) (r := 6) hz_L_law_960 rfl
theorem dL_law_967 : decode cL_law 967 = .ok (.iadd, 1) := dz_96 (n := 960) (r := 7) hz_L_law_960 rfl
theorem dL_law_968 : decode cL_law 968 = .ok (.iaload, 1) := dz_46 (n := 960) (r := 8) hz_L_law_960 rfl
theorem dL_law_969 : decode cL_law 969 = .ok (.invokevirtual 125, 3) := dz_182 (n := 960) (r := 9) hz_L_law_960 rfl rfl
theorem dL_law_972 : decode cL_law 972 = .ok (.pop, 1) := dz_87 (n := 960) (r := 12) hz_L_law_960 rfl
theorem dL_law_973 : decode cL_law 973 = .ok (.aload_n 2, 1) := dz_44 (n := 960) (r := 13) hz_L_law_960 rfl
theorem dL_law_974 : decode cL_law 974 = .ok (.aload_n 0, 1) := dz_42 (n := 960) (r := 14) hz_L_law_960 rfl
theorem dL_law_975 : decode cL_law 975 = .ok (.iload_n 3, 1) := dz_29 (n := 960) (r := 15) hz_L_law_960 rfl
theorem dL_law_976 : decode cL_law 976 = .ok (.iconst 1, 1) := dz_4 (n := 960) (r := 16) hz_L_law_960 rfl
theorem dL_law_977 : decode cL_law 977 = .ok (.iadd, 1) := dz_96 (n := 960) (r := 17) hz_L_law_960 rfl
theorem dL_law_978 : decode cL_law 978 = .ok (.iaload, 1) := dz_46 (n := 960) (r := 18) hz_L_law_960 rfl
theorem dL_law_979 : decode cL_law 979 = .ok (.invokevirtual 128, 3) := dz_182 (n := 960) (r := 19) hz_L_law_960 rfl rfl
theorem dL_law_982 : decode cL_law 982 = .ok (.pop, 1) := dz_87 (n := 960) (r := 22) hz_L_law_960 rfl
theorem dL_law_983 : decode cL_law 983 = .ok (.goto 306, 3) := dz_167 (n := 960) (r := 23) hz_L_law_960 rfl (by decide +kernel)
theorem dL_law_986 : decode cL_law 986 = .ok (.aload_n 1, 1) := dz_43 (n := 960) (r := 26) hz_L_law_960 rfl
theorem dL_law_987 : decode cL_law 987 = .ok (.aload_n 0, 1) := dz_42 (n := 960) (r := 27) hz_L_law_960 rfl
theorem dL_law_988 : decode cL_law 988 = .ok (.iload_n 3, 1) := dz_29 (n := 960) (r := 28) hz_L_law_960 rfl
theorem dL_law_989 : decode cL_law 989 = .ok (.iconst 1, 1) := dz_4 (n := 960) (r := 29) hz_L_law_960 rfl
theorem dL_law_990 : decode cL_law 990 = .ok (.iadd, 1) := dz_96 (n := 960) (r := 30) hz_L_law_960 rfl
theorem dL_law_991 : decode cL_law 991 = .ok (.iaload, 1) := dz_46 (n := 960) (r := 31) hz_L_law_960 rfl
theorem hz_L_law_992 : (cL_law.data.toList.drop 992).take 40 = [42, 29, 5, 96, 46, 182, 0, 129, 87, 44, 42, 29, 4, 96, 46, 42, 29, 5, 96, 46, 182, 0, 132, 87, 167, 1, 17, 43, 42, 29, 4, 96, 46, 182, 0, 133, 44, 42, 29, 4] := by decide +kernel
theorem dL_law_992 : decode cL_law 992 = .ok (.aload_n 0, 1) := dz_42 (n := 992) (r := 0) hz_L_law_992 rfl
theorem dL_law_993 : decode cL_law 993 = .ok (.iload_n 3, 1) := dz_29 (n := 992) (r := 1) hz_L_law_992 rfl
theorem dL_law_994 : decode cL_law 994 = .ok (.iconst 2, 1) := dz_5 (n := 992) (r := 2) hz_L_law_992 rfl
theorem dL_law_995 : decode cL_law 995 = .ok (.iadd, 1) := dz_96 (n := 992) (r := 3) hz_L_law_992 rfl
theorem dL_law_996 : decode cL_law 996 = .ok (.iaload, 1) := dz_46 (n := 992) (r := 4) hz_L_law_992 rfl
theorem dL_law_997 : decode cL_law 997 = .ok (.invokevirtual 129, 3) := dz_182 (n := 992) (r := 5) hz_L_law_992 rfl rfl
theorem dL_law_1000 : decode cL_law 1000 = .ok (.pop, 1) := dz_87 (n := 992) (r := 8) hz_L_law_992 rfl
theorem dL_law_1001 : decode cL_law 1001 = .ok (.aload_n 2, 1) := dz_44 (n := 992) (r := 9) hz_L_law_992 rfl
theorem dL_law_1002 : decode cL_law 1002 = .ok (.aload_n 0, 1) := dz_42 (n := 992) (r := 10) hz_L_law_992 rfl
theorem dL_law_1003 : decode cL_law 1003 = .ok (.iload_n 3, 1) := dz_29 (n := 992) (r := 11) hz_L_law_992 rfl
theorem dL_law_1004 : decode cL_law 1004 = .ok (.iconst 1, 1) := dz_4 (n := 992) (r := 12) hz_L_law_992 rfl
theorem dL_law_1005 : decode cL_law 1005 = .ok (.iadd, 1) := dz_96 (n := 992) (r := 13) hz_L_law_992 rfl
theorem dL_law_1006 : decode cL_law 1006 = .ok (.iaload, 1) := dz_46 (n := 992) (r := 14) hz_L_law_992 rfl
theorem dL_law_1007 : decode cL_law 1007 = .ok (.aload_n 0, 1) := dz_42 (n := 992) (r := 15) hz_L_law_992 rfl
theorem dL_law_1008 : decode cL_law 1008 = .ok (.iload_n 3, 1) := dz_29 (n := 992) (r := 16) hz_L_law_992 rfl
theorem dL_law_1009 : decode cL_law 1009 = .ok (.iconst 2, 1) := dz_5 (n := 992) (r := 17) hz_L_law_992 rfl
theorem dL_law_1010 : decode cL_law 1010 = .ok (.iadd, 1) := dz_96 (n := 992) (r := 18) hz_L_law_992 rfl
theorem dL_law_1011 : decode cL_law 1011 = .ok (.iaload, 1) := dz_46 (n := 992) (r := 19) hz_L_law_992 rfl
theorem dL_law_1012 : decode cL_law 1012 = .ok (.invokevirtual 132, 3) := dz_182 (n := 992) (r := 20) hz_L_law_992 rfl rfl
theorem dL_law_1015 : decode cL_law 1015 = .ok (.pop, 1) := dz_87 (n := 992) (r := 23) hz_L_law_992 rfl
theorem dL_law_1016 : decode cL_law 1016 = .ok (.goto 273, 3) := dz_167 (n := 992) (r := 24) hz_L_law_992 rfl (by decide +kernel)
theorem dL_law_1019 : decode cL_law 1019 = .ok (.aload_n 1, 1) := dz_43 (n := 992) (r := 27) hz_L_law_992 rfl
theorem dL_law_1020 : decode cL_law 1020 = .ok (.aload_n 0, 1) := dz_42 (n := 992) (r := 28) hz_L_law_992 rfl
theorem dL_law_1021 : decode cL_law 1021 = .ok (.iload_n 3, 1) := dz_29 (n := 992) (r := 29) hz_L_law_992 rfl
theorem dL_law_1022 : decode cL_law 1022 = .ok (.iconst 1, 1) := dz_4 (n := 992) (r := 30) hz_L_law_992 rfl
theorem dL_law_1023 : decode cL_law 1023 = .ok (.iadd, 1) := dz_96 (n := 992) (r := 31) hz_L_law_992 rfl
theorem hz_L_law_1024 : (cL_law.data.toList.drop 1024).take 40 = [46, 182, 0, 133, 44, 42, 29, 4, 96, 46, 182, 0, 136, 159, 0, 252, 3, 172, 43, 42, 29, 4, 96, 46, 42, 29, 5, 96, 46, 182, 0, 137, 87, 44, 42, 29, 4, 96, 46, 42] := by decide +kernel
theorem dL_law_1024 : decode cL_law 1024 = .ok (.iaload, 1) := dz_46 (n := 1024) (r := 0) hz_L_law_1024 rfl
theorem dL_law_1025 : decode cL_law 1025 = .ok (.invokevirtual 133, 3) := dz_182 (n := 1024) (r := 1) hz_L_law_1024 rfl rfl
theorem dL_law_1028 : decode cL_law 1028 = .ok (.aload_n 2, 1) := dz_44 (n := 1024) (r := 4) hz_L_law_1024 rfl
theorem dL_law_1029 : decode cL_law 1029 = .ok (.aload_n 0, 1) := dz_42 (n := 1024) (r := 5) hz_L_law_1024 rfl
theorem dL_law_1030 : decode cL_law 1030 = .ok (.iload_n 3, 1) := dz_29 (n := 1024) (r := 6) hz_L_law_1024 rfl
theorem dL_law_1031 : decode cL_law 1031 = .ok (.iconst 1, 1) := dz_4 (n := 1024) (r := 7) hz_L_law_1024 rfl
theorem dL_law_1032 : decode cL_law 1032 = .ok (.iadd, 1) := dz_96 (n := 1024) (r := 8) hz_L_law_1024 rfl
theorem dL_law_1033 : decode cL_law 1033 = .ok (.iaload, 1) := dz_46 (n := 1024) (r := 9) hz_L_law_1024 rfl
theorem dL_law_1034 : decode cL_law 1034 = .ok (.invokevirtual 136, 3) := dz_182 (n := 1024) (r := 10) hz_L_law_1024 rfl rfl
theorem dL_law_1037 : decode cL_law 1037 = .ok (.if_icmp .eq 252, 3) := dz_159 (n := 1024) (r := 13) hz_L_law_1024 rfl (by decide +kernel)
theorem dL_law_1040 : decode cL_law 1040 = .ok (.iconst 0, 1) := dz_3 (n := 1024) (r := 16) hz_L_law_1024 rfl
theorem dL_law_1041 : decode cL_law 1041 = .ok (.ireturn, 1) := dz_172 (n := 1024) (r := 17) hz_L_law_1024 rfl
theorem dL_law_1042 : decode cL_law 1042 = .ok (.aload_n 1, 1) := dz_43 (n := 1024) (r := 18) hz_L_law_1024 rfl
theorem dL_law_1043 : decode cL_law 1043 = .ok (.aload_n 0, 1) := dz_42 (n := 1024) (r := 19) hz_L_law_1024 rfl
theorem dL_law_1044 : decode cL_law 1044 = .ok (.iload_n 3, 1) := dz_29 (n := 1024) (r := 20) hz_L_law_1024 rfl
theorem dL_law_1045 : decode cL_law 1045 = .ok (.iconst 1, 1) := dz_4 (n := 1024) (r := 21) hz_L_law_1024 rfl
theorem dL_law_1046 : decode cL_law 1046 = .ok (.iadd, 1) := dz_96 (n := 1024) (r := 22) hz_L_law_1024 rfl
theorem dL_law_1047 : decode cL_law 1047 = .ok (.iaload, 1) := dz_46 (n := 1024) (r := 23) hz_L_law_1024 rfl
theorem dL_law_1048 : decode cL_law 1048 = .ok (.aload_n 0, 1) := dz_42 (n := 1024) (r := 24) hz_L_law_1024 rfl
theorem dL_law_1049 : decode cL_law 1049 = .ok (.iload_n 3, 1) := dz_29 (n := 1024) (r := 25) hz_L_law_1024 rfl
theorem dL_law_1050 : decode cL_law 1050 = .ok (.iconst 2, 1) := dz_5 (n := 1024) (r := 26) hz_L_law_1024 rfl
theorem dL_law_1051 : decode cL_law 1051 = .ok (.iadd, 1) := dz_96 (n := 1024) (r := 27) hz_L_law_1024 rfl
theorem dL_law_1052 : decode cL_law 1052 = .ok (.iaload, 1) := dz_46 (n := 1024) (r := 28) hz_L_law_1024 rfl
theorem dL_law_1053 : decode cL_law 1053 = .ok (.invokevirtual 137, 3) := dz_182 (n := 1024) (r := 29) hz_L_law_1024 rfl rfl
theorem hz_L_law_1056 : (cL_law.data.toList.drop 1056).take 40 = [87, 44, 42, 29, 4, 96, 46, 42, 29, 5, 96, 46, 182, 0, 140, 87, 167, 0, 217, 43, 42, 29, 4, 96, 46, 182, 0, 141, 87, 44, 42, 29, 4, 96, 46, 182, 0, 144, 87, 167] := by decide +kernel
theorem dL_law_1056 : decode cL_law 1056 = .ok (.pop, 1) := dz_87 (n := 1056) (r := 0) hz_L_law_1056 rfl
theorem dL_law_1057 : decode cL_law 1057 = .ok (.aload_n 2, 1) := dz_44 (n := 1056) (r := 1) hz_L_law_1056 rfl
theorem dL_law_1058 : decode cL_law 1058 = .ok (.aload_n 0, 1) := dz_42 (n := 1056) (r := 2) hz_L_law_1056 rfl
theorem dL_law_1059 : decode cL_law 1059 = .ok (.iload_n 3, 1) := dz_29 (n := 1056) (r := 3) hz_L_law_1056 rfl
theorem dL_law_1060 : decode cL_law 1060 = .ok (.iconst 1, 1) := dz_4 (n := 1056) (r := 4) hz_L_law_1056 rfl
theorem dL_law_1061 : decode cL_law 1061 = .ok (.iadd, 1) := dz_96 (n := 1056) (r := 5) hz_L_law_1056 rfl
theorem dL_law_1062 : decode cL_law 1062 = .ok (.iaload, 1) := dz_46 (n := 1056) (r := 6) hz_L_law_1056 rfl
theorem dL_law_1063 : decode cL_law 1063 = .ok (.aload_n 0, 1) := dz_42 (n := 1056) (r := 7) hz_L_law_1056 rfl
theorem dL_law_1064 : decode cL_law 1064 = .ok (.iload_n 3, 1) := dz_29 (n := 1056) (r := 8) hz_L_law_1056 rfl
theorem dL_law_1065 : decode cL_law 1065 = .ok (.iconst 2, 1) := dz_5 (n := 1056) (r := 9) hz_L_law_1056 rfl
theorem dL_law_1066 : decode cL_law 1066 = .ok (.iadd, 1) := dz_96 (n := 1056) (r := 10) hz_L_law_1056 rfl
theorem dL_law_1067 : decode cL_law 1067 = .ok (.iaload, 1) := dz_46 (n := 1056) (r := 11) hz_L_law_1056 rfl
theorem dL_law_1068 : decode cL_law 1068 = .ok (.invokevirtual 140, 3) := dz_182 (n := 1056) (r := 12) hz_L_law_1056 rfl rfl
theorem dL_law_1071 : decode cL_law 1071 = .ok (.pop, 1) := dz_87 (n := 1056) (r := 15) hz_L_law_1056 rfl
theorem dL_law_1072 : decode cL_law 1072 = .ok (.goto 217, 3) := dz_167 (n := 1056) (r := 16) hz_L_law_1056 rfl (by decide +kernel)
theorem dL_law_1075 : decode cL_law 1075 = .ok (.aload_n 1, 1) := dz_43 (n := 1056) (r := 19) hz_L_law_1056 rfl
theorem dL_law_1076 : decode cL_law 1076 = .ok (.aload_n 0, 1) := dz_42 (n := 1056) (r := 20) hz_L_law_1056 rfl
theorem dL_law_1077 : decode cL_law 1077 = .ok (.iload_n 3, 1) := dz_29 (n := 1056) (r := 21) hz_L_law_1056 rfl
theorem dL_law_1078 : decode cL_law 1078 = .ok (.iconst 1, 1) := dz_4 (n := 1056) (r := 22) hz_L_law_1056 rfl
theorem dL_law_1079 : decode cL_law 1079 = .ok (.iadd, 1) := dz_96 (n := 1056) (r := 23) hz_L_law_1056 rfl
theorem dL_law_1080 : decode cL_law 1080 = .ok (.iaload, 1) := dz_46 (n := 1056) (r := 24) hz_L_law_1056 rfl
theorem dL_law_1081 : decode cL_law 1081 = .ok (.invokevirtual 141, 3) := dz_182 (n := 1056) (r := 25) hz_L_law_1056 rfl rfl
theorem dL_law_1084 : decode cL_law 1084 = .ok (.pop, 1) := dz_87 (n := 1056) (r := 28) hz_L_law_1056 rfl
theorem dL_law_1085 : decode cL_law 1085 = .ok (.aload_n 2, 1) := dz_44 (n := 1056) (r := 29) hz_L_law_1056 rfl
theorem dL_law_1086 : decode cL_law 1086 = .ok (.aload_n 0, 1) := dz_42 (n := 1056) (r := 30) hz_L_law_1056 rfl
theorem dL_law_1087 : decode cL_law 1087 = .ok (.iload_n 3, 1) := dz_29 (n := 1056) (r := 31) hz_L_law_1056 rfl
theorem hz_L_law_1088 : (cL_law.data.toList.drop 1088).take 40 = [4, 96, 46, 182, 0, 144, 87, 167, 0, 194, 43, 42, 29, 4, 96, 46, 182, 0, 145, 88, 44, 42, 29, 4, 96, 46, 182, 0, 149, 88, 167, 0, 171, 43, 42, 29, 4, 96, 46, 42] := by decide +kernel
theorem dL_law_1088 : decode cL_law 1088 = .ok (.iconst 1, 1) := dz_4 (n := 1088) (r := 0) hz_L_law_1088 rfl
theorem dL_law_1089 : decode cL_law 1089 = .ok (.iadd, 1) := dz_96 (n := 1088) (r := 1) hz_L_law_1088 rfl
theorem dL_law_1090 : decode cL_law 1090 = .ok (.iaload, 1) := dz_46 (n := 1088) (r := 2) hz_L_law_1088 rfl
theorem dL_law_1091 : decode cL_law 1091 = .ok (.invokevirtual 144, 3) := dz_182 (n := 1088) (r := 3) hz_L_law_1088 rfl rfl
theorem dL_law_1094 : decode cL_law 1094 = .ok (.pop, 1) := dz_87 (n := 1088) (r := 6) hz_L_law_1088 rfl
theorem dL_law_1095 : decode cL_law 1095 = .ok (.goto 194, 3) := dz_167 (n := 1088) (r := 7) hz_L_law_1088 rfl (by decide +kernel)
theorem dL_law_1098 : decode cL_law 1098 = .ok (.aload_n 1, 1) := dz_43 (n := 1088) (r := 10) hz_L_law_1088 rfl
theorem dL_law_1099 : decode cL_law 1099 = .ok (.aload_n 0, 1) := dz_42 (n := 1088) (r := 11) hz_L_law_1088 rfl
theorem dL_law_1100 : decode cL_law 1100 = .ok (.iload_n 3, 1) := dz_29 (n := 1088) (r := 12) hz_L_law_1088 rfl
theorem dL_law_1101 : decode cL_law 1101 = .ok (.iconst 1, 1) := dz_4 (n := 1088) (r := 13) hz_L_law_1088 rfl
theorem dL_law_1102 : decode cL_law 1102 = .ok (.iadd, 1) := dz_96 (n := 1088) (r := 14) hz_L_law_1088 rfl
theorem dL_law_1103 : decode cL_law 1103 = .ok (.iaload, 1) := dz_46 (n := 1088) (r := 15) hz_L_law_1088 rfl
theorem dL_law_1104 : decode cL_law 1104 = .ok (.invokevirtual 145, 3) := dz_182 (n := 1088) (r := 16) hz_L_law_1088 rfl rfl
theorem dL_law_1107 : decode cL_law 1107 = .ok (.pop2, 1) := dz_88 (n := 1088) (r := 19) hz_L_law_1088 rfl
theorem dL_law_1108 : decode cL_law 1108 = .ok (.aload_n 2, 1) := dz_44 (n := 1088) (r := 20) hz_L_law_1088 rfl
theorem dL_law_1109 : decode cL_law 1109 = .ok (.aload_n 0, 1) := dz_42 (n := 1088) (r := 21) hz_L_law_1088 rfl
theorem dL_law_1110 : decode cL_law 1110 = .ok (.iload_n 3, 1) := dz_29 (n := 1088) (r := 22) hz_L_law_1088 rfl
theorem dL_law_1111 : decode cL_law 1111 = .ok (.iconst 1, 1) := dz_4 (n := 1088) (r := 23) hz_L_law_1088 rfl
theorem dL_law_1112 : decode cL_law 1112 = .ok (.iadd, 1) := dz_96 (n := 1088) (r := 24) hz_L_law_1088 rfl
theorem dL_law_1113 : decode cL_law 1113 = .ok (.iaload, 1) := dz_46 (n := 1088) (r := 25) hz_L_law_1088 rfl
theorem dL_law_1114 : decode cL_law 1114 = .ok (.invokevirtual 149, 3) := dz_182 (n := 1088) (r := 26) hz_L_law_1088 rfl rfl
theorem dL_law_1117 : decode cL_law 1117 = .ok (.pop2, 1) := dz_88 (n := 1088) (r := 29) hz_L_law_1088 rfl
theorem dL_law_1118 : decode cL_law 1118 = .ok (.goto 171, 3) := dz_167 (n := 1088) (r := 30) hz_L_law_1088 rfl (by decide +kernel)
theorem hz_L_law_1120 : (cL_law.data.toList.drop 1120).take 40 = [171, 43, 42, 29, 4, 96, 46, 42, 29, 5, 96, 46, 182, 0, 150, 87, 44, 42, 29, 4, 96, 46, 42, 29, 5, 96, 46, 182, 0, 153, 87, 167, 0, 138, 43, 42, 29, 4, 96, 46] := by decide +kernel
theorem dL_law_1121 : decode cL_law 1121 = .ok (.aload_n 1, 1) := dz_43 (n := 1120) (r := 1) hz_L_law_1120 rfl
theorem dL_law_1122 : decode cL_law 1122 = .ok (.aload_n 0, 1) := dz_42 (n := 1120) (r := 2) hz_L_law_1120 rfl
theorem dL_law_1123 : decode cL_law 1123 = .ok (.iload_n 3, 1) := dz_29 (n := 1120) (r := 3) hz_L_law_1120 rfl
theorem dL_law_1124 : decode cL_law 1124 = .ok (.iconst 1, 1) := dz_4 (n := 1120) (r := 4) hz_L_law_1120 rfl
theorem dL_law_1125 : decode cL_law 1125 = .ok (.iadd, 1) := dz_96 (n := 1120) (r := 5) hz_L_law_1120 rfl
theorem dL_law_1126 : decode cL_law 1126 = .ok (.iaload, 1) := dz_46 (n := 1120) (r := 6) hz_L_law_1120 rfl
theorem dL_law_1127 : decode cL_law 1127 = .ok (.aload_n 0, 1) := dz_42 (n := 1120) (r := 7) hz_L_law_1120 rfl
theorem dL_law_1128 : decode cL_law 1128 = .ok (.iload_n 3, 1) := dz_29 (n := 1120) (r := 8) hz_L_law_1120 rfl
theorem dL_law_1129 : decode cL_law 1129 = .ok (.iconst 2, 1) := dz_5 (n := 1120) (r := 9) hz_L_law_1120 rfl
theorem dL_law_1130 : decode cL_law 1130 = .ok (.iadd, 1) := dz_96 (n := 1120) (r := 10) hz_L_law_1120 rfl
theorem dL_law_1131 : decode cL_law 1131 = .ok (.iaload, 1) := dz_46 (n := 1120) (r := 11) hz_L_law_1120 rfl
theorem dL_law_1132 : decode cL_law 1132 = .ok (.invokevirtual 150, 3) := dz_182 (n := 1120) (r := 12) hz_L_law_1120 rfl rfl
theorem dL_law_1135 : decode cL_law 1135 = .ok (.pop, 1) := dz_87 (n := 1120) (r := 15) hz_L_law_1120 rfl
theorem dL_law_1136 : decode cL_law 1136 = .ok (.aload_n 2, 1) := dz_44 (n := 1120) (r := 16) hz_L_law_1120 rfl
theorem dL_law_1137 : decode cL_law 1137 = .ok (.aload_n 0, 1) := dz_42 (n := 1120) (r := 17) hz_L_law_1120 rfl
theorem dL_law_1138 : decode cL_law 1138 = .ok (.iload_n 3, 1) := dz_29 (n := 1120) (r := 18) hz_L_law_1120 rfl
theorem dL_law_1139 : decode cL_law 1139 = .ok (.iconst 1, 1) := dz_4 (n := 1120) (r := 19) hz_L_law_1120 rfl
theorem dL_law_1140 : decode cL_law 1140 = .ok (.iadd, 1) := dz_96 (n := 1120) (r := 20) hz_L_law_1120 rfl
theorem dL_law_1141 : decode cL_law 1141 = .ok (.iaload, 1) := dz_46 (n := 1120) (r := 21) hz_L_law_1120 rfl
theorem dL_law_1142 : decode cL_law 1142 = .ok (.aload_n 0, 1) := dz_42 (n := 1120) (r := 22) hz_L_law_1120 rfl
theorem dL_law_1143 : decode cL_law 1143 = .ok (.iload_n 3, 1) := dz_29 (n := 1120) (r := 23) hz_L_law_1120 rfl
theorem dL_law_1144 : decode cL_law 1144 = .ok (.iconst 2, 1) := dz_5 (n := 1120) (r := 24) hz_L_law_1120 rfl
theorem dL_law_1145 : decode cL_law 1145 = .ok (.iadd, 1) := dz_96 (n := 1120) (r := 25) hz_L_law_1120 rfl
theorem dL_law_1146 : decode cL_law 1146 = .ok (.iaload, 1) := dz_46 (n := 1120) (r := 26) hz_L_law_1120 rfl
theorem dL_law_1147 : decode cL_law 1147 = .ok (.invokevirtual 153, 3) := dz_182 (n := 1120) (r := 27) hz_L_law_1120 rfl rfl
theorem dL_law_1150 : decode cL_law 1150 = .ok (.pop, 1) := dz_87 (n := 1120) (r := 30) hz_L_law_1120 rfl
theorem dL_law_1151 : decode cL_law 1151 = .ok (.goto 138, 3) := dz_167 (n := 1120) (r := 31) hz_L_law_1120 rfl (by decide +kernel)
theorem hz_L_law_1152 : (cL_law.data.toList.drop 1152).take 40 = [0, 138, 43, 42, 29, 4, 96, 46, 182, 0, 154, 87, 44, 42, 29, 4, 96, 46, 182, 0, 157, 87, 167, 0, 115, 43, 42, 29, 4, 96, 46, 42, 29, 5, 96, 46, 42, 29, 6, 96] := by decide +kernel
theorem dL_law_1154 : decode cL_law 1154 = .ok (.aload_n 1, 1) := dz_43 (n := 1152) (r := 2) hz_L_law_1152 rfl
theorem dL_law_1155 : decode cL_law 1155 = .ok (.aload_n 0, 1) := dz_42 (n := 1152) (r := 3) hz_L_law_1152 rfl
theorem dL_law_1156 : decode cL_law 1156 = .ok (.iload_n 3, 1) := dz_29 (n := 1152) (r := 4) hz_L_law_1152 rfl
theorem dL_law_1157 : decode cL_law 1157 = .ok (.iconst 1, 1) := dz_4 (n := 1152) (r := 5) hz_L_law_1152 rfl
theorem dL_law_1158 : decode cL_law 1158 = .ok (.iadd, 1) := dz_96 (n := 1152) (r := 6) hz_L_law_1152 rfl
theorem dL_law_1159 : decode cL_law 1159 = .ok (.iaload, 1) := dz_46 (n := 1152) (r := 7) hz_L_law_1152 rfl
theorem dL_law_1160 : decode cL_law 1160 = .ok (.invokevirtual 154, 3) := dz_182 (n := 1152) (r := 8) hz_L_law_1152 rfl rfl
theorem dL_law_1163 : decode cL_law 1163 = .ok (.pop, 1) := dz_87 (n := 1152) (r := 11) hz_L_law_1152 rfl
theorem dL_law_1164 : decode cL_law 1164 = .ok (.aload_n 2, 1) := dz_44 (n := 1152) (r := 12) hz_L_law_1152 rfl
theorem dL_law_1165 : decode cL_law 1165 = .ok (.aload_n 0, 1) := dz_42 (n := 1152) (r := 13) hz_L_law_1152 rfl
theorem dL_law_1166 : decode cL_law 1166 = .ok (.iload_n 3, 1) := dz_29 (n := 1152) (r := 14) hz_L_law_1152 rfl
theorem dL_law_1167 : decode cL_law 1167 = .ok (.iconst 1, 1) := dz_4 (n := 1152) (r := 15) hz_L_law_1152 rfl
theorem dL_law_1168 : decode cL_law 1168 = .ok (.iadd, 1) := dz_96 (n := 1152) (r := 16) hz_L_law_1152 rfl
theorem dL_law_1169 : decode cL_law 1169 = .ok (.iaload, 1) := dz_46 (n := 1152) (r := 17) hz_L_law_1152 rfl
theorem dL_law_1170 : decode cL_law 1170 = .ok (.invokevirtual 157, 3) := dz_182 (n := 1152) (r := 18) hz_L_law_1152 rfl rfl
theorem dL_law_1173 : decode cL_law 1173 = .ok (.pop, 1) := dz_87 (n := 1152) (r := 21) hz_L_law_1152 rfl
theorem dL_law_1174 : decode cL_law 1174 = .ok (.goto 115, 3) := dz_167 (n := 1152) (r := 22) hz_L_law_1152 rfl (by decide +kernel)
theorem dL_law_1177 : decode cL_law 1177 = .ok (.aload_n 1, 1) := dz_43 (n := 1152) (r := 25) hz_L_law_1152 rfl
theorem dL_law_1178 : decode cL_law 1178 = .ok (.aload_n 0, 1) := dz_42 (n := 1152) (r := 26) hz_L_law_1152 rfl
theorem dL_law_1179 : decode cL_law 1179 = .ok (.iload_n 3, 1) := dz_29 (n := 1152) (r := 27) hz_L_law_1152 rfl
theorem dL_law_1180 : decode cL_law 1180 = .ok (.iconst 1, 1) := dz_4 (n := 1152) (r := 28) hz_L_law_1152 rfl
theorem dL_law_1181 : decode cL_law 1181 = .ok (.iadd, 1) := dz_96 (n := 1152) (r := 29) hz_L_law_1152 rfl
theorem dL_law_1182 : decode cL_law 1182 = .ok (.iaload, 1) := dz_46 (n := 1152) (r := 30) hz_L_law_1152 rfl
theorem dL_law_1183 : decode cL_law 1183 = .ok (.aload_n 0, 1) := dz_42 (n := 1152) (r := 31) hz_L_law_1152 rfl
theorem hz_L_law_1184 : (cL_law.data.toList.drop 1184).take 40 = [29, 5, 96, 46, 42, 29, 6, 96, 46, 182, 0, 158, 87, 44, 42, 29, 4, 96, 46, 42, 29, 5, 96, 46, 42, 29, 6, 96, 46, 182, 0, 161, 87, 167, 0, 72, 43, 42, 29, 4] := by decide +kernel
theorem dL_law_1184 : decode cL_law 1184 = .ok (.iload_n 3, 1) := dz_29 (n := 1184) (r := 0) hz_L_law_1184 rfl
theorem dL_law_1185 : decode cL_law 1185 = .ok (.iconst 2, 1) := dz_5 (n := 1184) (r := 1) hz_L_law_1184 rfl
theorem dL_law_1186 : decode cL_law 1186 = .ok (.iadd, 1) := dz_96 (n := 1184) (r := 2) hz_L_law_1184 rfl
theorem dL_law_1187 : decode cL_law 1187 = .ok (.iaload, 1) := dz_46 (n := 1184) (r := 3) hz_L_law_1184 rfl
theorem dL_law_1188 : decode cL_law 1188 = .ok (.aload_n 0, 1) := dz_42 (n := 1184) (r := 4) hz_L_law_1184 rfl
theorem dL_law_1189 : decode cL_law 1189 = .ok (.iload_n 3, 1) := dz_29 (n := 1184) (r := 5) hz_L_law_1184 rfl
theorem dL_law_1190 : decode cL_law 1190 = .ok (.iconst 3, 1) := dz_6 (n := 1184) (r := 6) hz_L_law_1184 rfl
theorem dL_law_1191 : decode cL_law 1191 = .ok (.iadd, 1) := dz_96 (n := 1184) (r := 7) hz_L_law_1184 rfl
theorem dL_law_1192 : decode cL_law 1192 = .ok (.iaload, 1) := dz_46 (n := 1184) (r := 8) hz_L_law_1184 rfl
theorem dL_law_1193 : decode cL_law 1193 = .ok (.invokevirtual 158, 3) := dz_182 (n := 1184) (r := 9) hz_L_law_1184 rfl rfl
theorem dL_law_1196 : decode cL_law 1196 = .ok (.pop, 1) := dz_87 (n := 1184) (r := 12) hz_L_law_1184 rfl
theorem dL_law_1197 : decode cL_law 1197 = .ok (.aload_n 2, 1) := dz_44 (n := 1184) (r := 13) hz_L_law_1184 rfl
theorem dL_law_1198 : decode cL_law 1198 = .ok (.aload_n 0, 1) := dz_42 (n := 1184) (r := 14) hz_L_law_1184 rfl
theorem dL_law_1199 : decode cL_law 1199 = .ok (.iload_n 3, 1) := dz_29 (n := 1184) (r := 15) hz_L_law_1184 rfl
theorem dL_law_1200 : decode cL_law 1200 = .ok (.iconst 1, 1) := dz_4 (n := 1184) (r := 16) hz_L_law_1184 rfl
theorem dL_law_1201 : decode cL_law 1201 = .ok (.iadd, 1) := dz_96 (n := 1184) (r := 17) hz_L_law_1184 rfl
theorem dL_law_1202 : decode cL_law 1202 = .ok (.iaload, 1) := dz_46 (n := 1184) (r := 18) hz_L_law_1184 rfl
theorem dL_law_1203 : decode cL_law 1203 = .ok (.aload_n 0, 1) := dz_42 (n := 1184) (r := 19) hz_L_law_1184 rfl
theorem dL_law_1204 : decode cL_law 1204 = .ok (.iload_n 3, 1) := dz_29 (n := 1184) (r := 20) hz_L_law_1184 rfl
theorem dL_law_1205 : decode cL_law 1205 = .ok (.iconst 2, 1) := dz_5 (n := 1184) (r := 21) hz_L_law_1184 rfl
theorem dL_law_1206 : decode cL_law 1206 = .ok (.iadd, 1) := dz_96 (n := 1184) (r := 22) hz_L_law_1184 rfl
theorem dL_law_1207 : decode cL_law 1207 = .ok (.iaload, 1) := dz_46 (n := 1184) (r := 23) hz_L_law_1184 rfl
theorem dL_law_1208 : decode cL_law 1208 = .ok (.aload_n 0, 1) := dz_42 (n := 1184) (r := 24) hz_L_law_1184 rfl
theorem dL_law_1209 : decode cL_law 1209 = .ok (.iload_n 3, 1) := dz_29 (n := 1184) (r := 25) hz_L_law_1184 rfl
theorem dL_law_1210 : decode cL_law 1210 = .ok (.iconst 3, 1) := dz_6 (n := 1184) (r := 26) hz_L_law_1184 rfl
theorem dL_law_1211 : decode cL_law 1211 = .ok (.iadd, 1) := dz_96 (n := 1184) (r := 27) hz_L_law_1184 rfl
theorem dL_law_1212 : decode cL_law 1212 = .ok (.iaload, 1) := dz_46 (n := 1184) (r := 28) hz_L_law_1184 rfl
theorem dL_law_1213 : decode cL_law 1213 = .ok (.invokevirtual 161, 3) := dz_182 (n := 1184) (r := 29) hz_L_law_1184 rfl rfl
theorem hz_L_law_1216 : (cL_law.data.toList.drop 1216).take 40 = [87, 167, 0, 72, 43, 42, 29, 4, 96, 46, 182, 0, 162, 87, 44, 42, 29, 4, 96, 46, 182, 0, 165, 87, 167, 0, 49, 43, 42, 29, 4, 96, 46, 182, 0, 166, 87, 44, 42, 29] := by decide +kernel
theorem dL_law_1216 : decode cL_law 1216 = .ok (.pop, 1) := dz_87 (n := 1216) (r := 0) hz_L_law_1216 rfl
theorem dL_law_1217 : decode cL_law 1217 = .ok (.goto 72, 3) := dz_167 (n := 1216) (r := 1) hz_L_law_1216 rfl (by decide +kernel)
theorem dL_law_1220 : decode cL_law 1220 = .ok (.aload_n 1, 1) := dz_43 (n := 1216) (r := 4) hz_L_law_1216 rfl
theorem dL_law_1221 : decode cL_law 1221 = .ok (.aload_n 0, 1) := dz_42 (n := 1216) (r := 5) hz_L_law_1216 rfl
theorem dL_law_1222 : decode cL_law 1222 = .ok (.iload_n 3, 1) := dz_29 (n := 1216) (r := 6) hz_L_law_1216 rfl
theorem dL_law_1223 : decode cL_law 1223 = .ok (.iconst 1, 1) := dz_4 (n := 1216) (r := 7) hz_L_law_1216 rfl
theorem dL_law_1224 : decode cL_law 1224 = .ok (.iadd, 1) := dz_96 (n := 1216) (r := 8) hz_L_law_1216 rfl
theorem dL_law_1225 : decode cL_law 1225 = .ok (.iaload, 1) := dz_46 (n := 1216) (r := 9) hz_L_law_1216 rfl
theorem dL_law_1226 : decode cL_law 1226 = .ok (.invokevirtual 162, 3) := dz_182 (n := 1216) (r := 10) hz_L_law_1216 rfl rfl
theorem dL_law_1229 : decode cL_law 1229 = .ok (.pop, 1) := dz_87 (n := 1216) (r := 13) hz_L_law_1216 rfl
theorem dL_law_1230 : decode cL_law 1230 = .ok (.aload_n 2, 1) := dz_44 (n := 1216) (r := 14) hz_L_law_1216 rfl
theorem dL_law_1231 : decode cL_law 1231 = .ok (.aload_n 0, 1) := dz_42 (n := 1216) (r := 15) hz_L_law_1216 rfl
theorem dL_law_1232 : decode cL_law 1232 = .ok (.iload_n 3, 1) := dz_29 (n := 1216) (r := 16) hz_L_law_1216 rfl
theorem dL_law_1233 : decode cL_law 1233 = .ok (.iconst 1, 1) := dz_4 (n := 1216) (r := 17) hz_L_law_1216 rfl
theorem dL_law_1234 : decode cL_law 1234 = .ok (.iadd, 1) := dz_96 (n := 1216) (r := 18) hz_L_law_1216 rfl
theorem dL_law_1235 : decode cL_law 1235 = .ok (.iaload, 1) := dz_46 (n := 1216) (r := 19) hz_L_law_1216 rfl
theorem dL_law_1236 : decode cL_law 1236 = .ok (.invokevirtual 165, 3) := dz_182 (n := 1216) (r := 20) hz_L_law_1216 rfl rfl
theorem dL_law_1239 : decode cL_law 1239 = .ok (.pop, 1) := dz_87 (n := 1216) (r := 23) hz_L_law_1216 rfl
theorem dL_law_1240 : decode cL_law 1240 = .ok (.goto 49, 3) := dz_167 (n := 1216) (r := 24) hz_L_law_1216 rfl (by decide +kernel)
theorem dL_law_1243 : decode cL_law 1243 = .ok (.aload_n 1, 1) := dz_43 (n := 1216) (r := 27) hz_L_law_1216 rfl
theorem dL_law_1244 : decode cL_law 1244 = .ok (.aload_n 0, 1) := dz_42 (n := 1216) (r := 28) hz_L_law_1216 rfl
theorem dL_law_1245 : decode cL_law 1245 = .ok (.iload_n 3, 1) := dz_29 (n := 1216) (r := 29) hz_L_law_1216 rfl
theorem dL_law_1246 : decode cL_law 1246 = .ok (.iconst 1, 1) := dz_4 (n := 1216) (r := 30) hz_L_law_1216 rfl
theorem dL_law_1247 : decode cL_law 1247 = .ok (.iadd, 1) := dz_96 (n := 1216) (r := 31) hz_L_law_1216 rfl
theorem hz_L_law_1248 : (cL_law.data.toList.drop 1248).take 40 = [46, 182, 0, 166, 87, 44, 42, 29, 4, 96, 46, 182, 0, 169, 87, 167, 0, 26, 43, 42, 29, 4, 96, 46, 182, 0, 170, 87, 44, 42, 29, 4, 96, 46, 182, 0, 173, 87, 167, 0] := by decide +kernel
theorem dL_law_1248 : decode cL_law 1248 = .ok (.iaload, 1) := dz_46 (n := 1248) (r := 0) hz_L_law_1248 rfl
theorem dL_law_1249 : decode cL_law 1249 = .ok (.invokevirtual 166, 3) := dz_182 (n := 1248) (r := 1) hz_L_law_1248 rfl rfl
theorem dL_law_1252 : decode cL_law 1252 = .ok (.pop, 1) := dz_87 (n := 1248) (r := 4) hz_L_law_1248 rfl
theorem dL_law_1253 : decode cL_law 1253 = .ok (.aload_n 2, 1) := dz_44 (n := 1248) (r := 5) hz_L_law_1248 rfl
theorem dL_law_1254 : decode cL_law 1254 = .ok (.aload_n 0, 1) := dz_42 (n := 1248) (r := 6) hz_L_law_1248 rfl
theorem dL_law_1255 : decode cL_law 1255 = .ok (.iload_n 3, 1) := dz_29 (n := 1248) (r := 7) hz_L_law_1248 rfl
theorem dL_law_1256 : decode cL_law 1256 = .ok (.iconst 1, 1) := dz_4 (n := 1248) (r := 8) hz_L_law_1248 rfl
theorem dL_law_1257 : decode cL_law 1257 = .ok (.iadd, 1) := dz_96 (n := 1248) (r := 9) hz_L_law_1248 rfl
theorem dL_law_1258 : decode cL_law 1258 = .ok (.iaload, 1) := dz_46 (n := 1248) (r := 10) hz_L_law_1248 rfl
theorem dL_law_1259 : decode cL_law 1259 = .ok (.invokevirtual 169, 3) := dz_182 (n := 1248) (r := 11) hz_L_law_1248 rfl rfl
theorem dL_law_1262 : decode cL_law 1262 = .ok (.pop, 1) := dz_87 (n := 1248) (r := 14) hz_L_law_1248 rfl
theorem dL_law_1263 : decode cL_law 1263 = .ok (.goto 26, 3) := dz_167 (n := 1248) (r := 15) hz_L_law_1248 rfl (by decide +kernel)
theorem dL_law_1266 : decode cL_law 1266 = .ok (.aload_n 1, 1) := dz_43 (n := 1248) (r := 18) hz_L_law_1248 rfl
theorem dL_law_1267 : decode cL_law 1267 = .ok (.aload_n 0, 1) := dz_42 (n := 1248) (r := 19) hz_L_law_1248 rfl
theorem dL_law_1268 : decode cL_law 1268 = .ok (.iload_n 3, 1) := dz_29 (n := 1248) (r := 20) hz_L_law_1248 rfl
theorem dL_law_1269 : decode cL_law 1269 = .ok (.iconst 1, 1) := dz_4 (n := 1248) (r := 21) hz_L_law_1248 rfl
theorem dL_law_1270 : decode cL_law 1270 = .ok (.iadd, 1) := dz_96 (n := 1248) (r := 22) hz_L_law_1248 rfl
theorem dL_law_1271 : decode cL_law 1271 = .ok (.iaload, 1) := dz_46 (n := 1248) (r := 23) hz_L_law_1248 rfl
theorem dL_law_1272 : decode cL_law 1272 = .ok (.invokevirtual 170, 3) := dz_182 (n := 1248) (r := 24) hz_L_law_1248 rfl rfl
theorem dL_law_1275 : decode cL_law 1275 = .ok (.pop, 1) := dz_87 (n := 1248) (r := 27) hz_L_law_1248 rfl
theorem dL_law_1276 : decode cL_law 1276 = .ok (.aload_n 2, 1) := dz_44 (n := 1248) (r := 28) hz_L_law_1248 rfl
theorem dL_law_1277 : decode cL_law 1277 = .ok (.aload_n 0, 1) := dz_42 (n := 1248) (r := 29) hz_L_law_1248 rfl
theorem dL_law_1278 : decode cL_law 1278 = .ok (.iload_n 3, 1) := dz_29 (n := 1248) (r := 30) hz_L_law_1248 rfl
theorem dL_law_1279 : decode cL_law 1279 = .ok (.iconst 1, 1) := dz_4 (n := 1248) (r := 31) hz_L_law_1248 rfl
theorem hz_L_law_1280 : (cL_law.data.toList.drop 1280).take 40 = [96, 46, 182, 0, 173, 87, 167, 0, 3, 132, 3, 6, 167, 251, 6, 4, 172] := by decide +kernel
theorem dL_law_1280 : decode cL_law 1280 = .ok (.iadd, 1) := dz_96 (n := 1280) (r := 0) hz_L_law_1280 rfl
theorem dL_law_1281 : decode cL_law 1281 = .ok (.iaload, 1) := dz_46 (n := 1280) (r := 1) hz_L_law_1280 rfl
theorem dL_law_1282 : decode cL_law 1282 = .ok (.invokevirtual 173, 3) := dz_182 (n := 1280) (r := 2) hz_L_law_1280 rfl rfl
theorem dL_law_1285 : decode cL_law 1285 = .ok (.pop, 1) := dz_87 (n := 1280) (r := 5) hz_L_law_1280 rfl
theorem dL_law_1286 : decode cL_law 1286 = .ok (.goto 3, 3) := dz_167 (n := 1280) (r := 6) hz_L_law_1280 rfl (by decide +kernel)
theorem dL_law_1289 : decode cL_law 1289 = .ok (.iinc 3 6, 3) := dz_132 (n := 1280) (r := 9) hz_L_law_1280 rfl rfl rfl
theorem dL_law_1292 : decode cL_law 1292 = .ok (.goto (-1274), 3) := dz_167 (n := 1280) (r := 12) hz_L_law_1280 rfl (by decide +kernel)
theorem dL_law_1295 : decode cL_law 1295 = .ok (.iconst 1, 1) := dz_4 (n := 1280) (r := 15) hz_L_law_1280 rfl
theorem dL_law_1296 : decode cL_law 1296 = .ok (.ireturn, 1) := dz_172 (n := 1280) (r := 16) hz_L_law_1280 rfl
end
