theorem dX0_init_0 : decode cX0_init 0 = .ok (.aload_n 0, 1) := by decide +kernel
theorem dX0_init_1 : decode cX0_init 1 = .ok (.invokespecial 3, 3) := by decide +kernel
theorem dX0_init_4 : decode cX0_init 4 = .ok (.aload_n 0, 1) := by decide +kernel
theorem dX0_init_5 : decode cX0_init 5 = .ok (.bipush 20, 2) := by decide +kernel
theorem dX0_init_7 : decode cX0_init 7 = .ok (.newarray .int, 2) := by decide +kernel
theorem dX0_init_9 : decode cX0_init 9 = .ok (.putfield 9, 3) := by decide +kernel
theorem dX0_init_12 : decode cX0_init 12 = .ok (.return_, 1) := by decide +kernel
theorem dX0_gather_0 : decode cX0_gather 0 = .ok (.aload_n 0, 1) := by decide +kernel
theorem dX0_gather_1 : decode cX0_gather 1 = .ok (.aload_n 1, 1) := by decide +kernel
theorem dX0_gather_2 : decode cX0_gather 2 = .ok (.getfield 15, 3) := by decide +kernel
theorem dX0_gather_5 : decode cX0_gather 5 = .ok (.aload_n 1, 1) := by decide +kernel
theorem dX0_gather_6 : decode cX0_gather 6 = .ok (.getfield 21, 3) := by decide +kernel
theorem dX0_gather_9 : decode cX0_gather 9 = .ok (.getfield 25, 3) := by decide +kernel
theorem dX0_gather_12 : decode cX0_gather 12 = .ok (.iload_n 2, 1) := by decide +kernel
theorem dX0_gather_13 : decode cX0_gather 13 = .ok (.invokestatic 30, 3) := by decide +kernel
theorem dX0_gather_16 : decode cX0_gather 16 = .ok (.invokevirtual 34, 3) := by decide +kernel
theorem dX0_gather_19 : decode cX0_gather 19 = .ok (.aload_n 0, 1) := by decide +kernel
theorem dX0_gather_20 : decode cX0_gather 20 = .ok (.iload_n 3, 1) := by decide +kernel
theorem dX0_gather_21 : decode cX0_gather 21 = .ok (.ifCond .ge 7, 3) := by decide +kernel
theorem dX0_gather_24 : decode cX0_gather 24 = .ok (.iconst 1, 1) := by decide +kernel
theorem dX0_gather_25 : decode cX0_gather 25 = .ok (.goto 4, 3) := by decide +kernel
theorem dX0_gather_28 : decode cX0_gather 28 = .ok (.iconst 0, 1) := by decide +kernel
theorem dX0_gather_29 : decode cX0_gather 29 = .ok (.putfield 38, 3) := by decide +kernel
theorem dX0_gather_32 : decode cX0_gather 32 = .ok (.aload_n 0, 1) := by decide +kernel
theorem dX0_gather_33 : decode cX0_gather 33 = .ok (.iconst 0, 1) := by decide +kernel
theorem dX0_gather_34 : decode cX0_gather 34 = .ok (.putfield 42, 3) := by decide +kernel
theorem dX0_gather_37 : decode cX0_gather 37 = .ok (.aload_n 0, 1) := by decide +kernel
theorem dX0_gather_38 : decode cX0_gather 38 = .ok (.iconst 0, 1) := by decide +kernel
theorem dX0_gather_39 : decode cX0_gather 39 = .ok (.putfield 46, 3) := by decide +kernel
theorem dX0_gather_42 : decode cX0_gather 42 = .ok (.aload_n 0, 1) := by decide +kernel
theorem dX0_gather_43 : decode cX0_gather 43 = .ok (.aload_n 0, 1) := by decide +kernel
theorem dX0_gather_44 : decode cX0_gather 44 = .ok (.getfield 49, 3) := by decide +kernel
theorem dX0_gather_47 : decode cX0_gather 47 = .ok (.putfield 52, 3) := by decide +kernel
theorem dX0_gather_50 : decode cX0_gather 50 = .ok (.aload_n 0, 1) := by decide +kernel
theorem dX0_gather_51 : decode cX0_gather 51 = .ok (.iconst 0, 1) := by decide +kernel
theorem dX0_gather_52 : decode cX0_gather 52 = .ok (.putfield 55, 3) := by decide +kernel
theorem dX0_gather_55 : decode cX0_gather 55 = .ok (.aload_n 0, 1) := by decide +kernel
theorem dX0_gather_56 : decode cX0_gather 56 = .ok (.iconst 0, 1) := by decide +kernel
theorem dX0_gather_57 : decode cX0_gather 57 = .ok (.putfield 58, 3) := by decide +kernel
theorem dX0_gather_60 : decode cX0_gather 60 = .ok (.aload_n 0, 1) := by decide +kernel
theorem dX0_gather_61 : decode cX0_gather 61 = .ok (.getfield 38, 3) := by decide +kernel
theorem dX0_gather_64 : decode cX0_gather 64 = .ok (.ifCond .eq 4, 3) := by decide +kernel
theorem dX0_gather_67 : decode cX0_gather 67 = .ok (.return_, 1) := by decide +kernel
theorem dX0_gather_68 : decode cX0_gather 68 = .ok (.aload_n 0, 1) := by decide +kernel
theorem dX0_gather_69 : decode cX0_gather 69 = .ok (.aload_n 1, 1) := by decide +kernel
theorem dX0_gather_70 : decode cX0_gather 70 = .ok (.getfield 61, 3) := by decide +kernel
theorem dX0_gather_73 : decode cX0_gather 73 = .ok (.iload_n 3, 1) := by decide +kernel
theorem dX0_gather_74 : decode cX0_gather 74 = .ok (.invokevirtual 65, 3) := by decide +kernel
theorem dX0_gather_77 : decode cX0_gather 77 = .ok (.aload_n 1, 1) := by decide +kernel
theorem dX0_gather_78 : decode cX0_gather 78 = .ok (.getfield 21, 3) := by decide +kernel
theorem dX0_gather_81 : decode cX0_gather 81 = .ok (.astore 4, 2) := by decide +kernel
theorem dX0_gather_83 : decode cX0_gather 83 = .ok (.iconst 0, 1) := by decide +kernel
theorem dX0_gather_84 : decode cX0_gather 84 = .ok (.istore 5, 2) := by decide +kernel
theorem dX0_gather_86 : decode cX0_gather 86 = .ok (.iload 5, 2) := by decide +kernel
theorem dX0_gather_88 : decode cX0_gather 88 = .ok (.aload 4, 2) := by decide +kernel
theorem dX0_gather_90 : decode cX0_gather 90 = .ok (.getfield 69, 3) := by decide +kernel
theorem dX0_gather_93 : decode cX0_gather 93 = .ok (.if_icmp .ge 144, 3) := by decide +kernel
theorem dX0_gather_96 : decode cX0_gather 96 = .ok (.iload 5, 2) := by decide +kernel
theorem dX0_gather_98 : decode cX0_gather 98 = .ok (.iload_n 2, 1) := by decide +kernel
theorem dX0_gather_99 : decode cX0_gather 99 = .ok (.if_icmp .eq 132, 3) := by decide +kernel
theorem dX0_gather_102 : decode cX0_gather 102 = .ok (.aload 4, 2) := by decide +kernel
theorem dX0_gather_104 : decode cX0_gather 104 = .ok (.getfield 72, 3) := by decide +kernel
theorem dX0_gather_107 : decode cX0_gather 107 = .ok (.iload 5, 2) := by decide +kernel
theorem dX0_gather_109 : decode cX0_gather 109 = .ok (.invokestatic 30, 3) := by decide +kernel
theorem dX0_gather_112 : decode cX0_gather 112 = .ok (.iload_n 3, 1) := by decide +kernel
theorem dX0_gather_113 : decode cX0_gather 113 = .ok (.if_icmp .ne 118, 3) := by decide +kernel
theorem dX0_gather_116 : decode cX0_gather 116 = .ok (.aload_n 1, 1) := by decide +kernel
theorem dX0_gather_117 : decode cX0_gather 117 = .ok (.iload 5, 2) := by decide +kernel
theorem dX0_gather_119 : decode cX0_gather 119 = .ok (.invokevirtual 75, 3) := by decide +kernel
theorem dX0_gather_122 : decode cX0_gather 122 = .ok (.aload_n 0, 1) := by decide +kernel
theorem dX0_gather_123 : decode cX0_gather 123 = .ok (.getfield 79, 3) := by decide +kernel
theorem dX0_gather_126 : decode cX0_gather 126 = .ok (.invokestatic 82, 3) := by decide +kernel
theorem dX0_gather_129 : decode cX0_gather 129 = .ok (.istore 6, 2) := by decide +kernel
theorem dX0_gather_131 : decode cX0_gather 131 = .ok (.aload_n 0, 1) := by decide +kernel
theorem dX0_gather_132 : decode cX0_gather 132 = .ok (.getfield 9, 3) := by decide +kernel
theorem dX0_gather_135 : decode cX0_gather 135 = .ok (.aload_n 0, 1) := by decide +kernel
theorem dX0_gather_136 : decode cX0_gather 136 = .ok (.getfield 42, 3) := by decide +kernel
theorem dX0_gather_139 : decode cX0_gather 139 = .ok (.iload 6, 2) := by decide +kernel
theorem dX0_gather_141 : decode cX0_gather 141 = .ok (.invokestatic 86, 3) := by decide +kernel
theorem dX0_gather_144 : decode cX0_gather 144 = .ok (.aload_n 0, 1) := by decide +kernel
theorem dX0_gather_145 : decode cX0_gather 145 = .ok (.dup, 1) := by decide +kernel
theorem dX0_gather_146 : decode cX0_gather 146 = .ok (.getfield 42, 3) := by decide +kernel
theorem dX0_gather_149 : decode cX0_gather 149 = .ok (.iconst 1, 1) := by decide +kernel
theorem dX0_gather_150 : decode cX0_gather 150 = .ok (.iadd, 1) := by decide +kernel
theorem dX0_gather_151 : decode cX0_gather 151 = .ok (.putfield 42, 3) := by decide +kernel
theorem dX0_gather_154 : decode cX0_gather 154 = .ok (.aload_n 0, 1) := by decide +kernel
theorem dX0_gather_155 : decode cX0_gather 155 = .ok (.dup, 1) := by decide +kernel
theorem dX0_gather_156 : decode cX0_gather 156 = .ok (.getfield 46, 3) := by decide +kernel
theorem dX0_gather_159 : decode cX0_gather 159 = .ok (.iload 6, 2) := by decide +kernel
theorem dX0_gather_161 : decode cX0_gather 161 = .ok (.iadd, 1) := by decide +kernel
theorem dX0_gather_162 : decode cX0_gather 162 = .ok (.putfield 46, 3) := by decide +kernel
theorem dX0_gather_165 : decode cX0_gather 165 = .ok (.aload_n 0, 1) := by decide +kernel
theorem dX0_gather_166 : decode cX0_gather 166 = .ok (.dup, 1) := by decide +kernel
theorem dX0_gather_167 : decode cX0_gather 167 = .ok (.getfield 52, 3) := by decide +kernel
theorem dX0_gather_170 : decode cX0_gather 170 = .ok (.aload_n 1, 1) := by decide +kernel
theorem dX0_gather_171 : decode cX0_gather 171 = .ok (.iload 5, 2) := by decide +kernel
theorem dX0_gather_173 : decode cX0_gather 173 = .ok (.invokevirtual 90, 3) := by decide +kernel
theorem dX0_gather_176 : decode cX0_gather 176 = .ok (.iadd, 1) := by decide +kernel
theorem dX0_gather_177 : decode cX0_gather 177 = .ok (.putfield 52, 3) := by decide +kernel
theorem dX0_gather_180 : decode cX0_gather 180 = .ok (.aload_n 0, 1) := by decide +kernel
theorem dX0_gather_181 : decode cX0_gather 181 = .ok (.aload_n 0, 1) := by decide +kernel
theorem dX0_gather_182 : decode cX0_gather 182 = .ok (.getfield 55, 3) := by decide +kernel
theorem dX0_gather_185 : decode cX0_gather 185 = .ok (.aload 4, 2) := by decide +kernel
theorem dX0_gather_187 : decode cX0_gather 187 = .ok (.getfield 93, 3) := by decide +kernel
theorem dX0_gather_190 : decode cX0_gather 190 = .ok (.iload 5, 2) := by decide +kernel
theorem dX0_gather_192 : decode cX0_gather 192 = .ok (.invokestatic 30, 3) := by decide +kernel
theorem dX0_gather_195 : decode cX0_gather 195 = .ok (.invokestatic 96, 3) := by decide +kernel
theorem dX0_gather_198 : decode cX0_gather 198 = .ok (.putfield 55, 3) := by decide +kernel
theorem dX0_gather_201 : decode cX0_gather 201 = .ok (.aload_n 0, 1) := by decide +kernel
theorem dX0_gather_202 : decode cX0_gather 202 = .ok (.aload_n 0, 1) := by decide +kernel
theorem dX0_gather_203 : decode cX0_gather 203 = .ok (.getfield 58, 3) := by decide +kernel
theorem dX0_gather_206 : decode cX0_gather 206 = .ok (.ifCond .ne 17, 3) := by decide +kernel
theorem dX0_gather_209 : decode cX0_gather 209 = .ok (.aload 4, 2) := by decide +kernel
theorem dX0_gather_211 : decode cX0_gather 211 = .ok (.getfield 101, 3) := by decide +kernel
theorem dX0_gather_214 : decode cX0_gather 214 = .ok (.iload_n 2, 1) := by decide +kernel
theorem dX0_gather_215 : decode cX0_gather 215 = .ok (.invokestatic 30, 3) := by decide +kernel
theorem dX0_gather_218 : decode cX0_gather 218 = .ok (.iload 5, 2) := by decide +kernel
theorem dX0_gather_220 : decode cX0_gather 220 = .ok (.if_icmp .ne 7, 3) := by decide +kernel
theorem dX0_gather_223 : decode cX0_gather 223 = .ok (.iconst 1, 1) := by decide +kernel
theorem dX0_gather_224 : decode cX0_gather 224 = .ok (.goto 4, 3) := by decide +kernel
theorem dX0_gather_227 : decode cX0_gather 227 = .ok (.iconst 0, 1) := by decide +kernel
theorem dX0_gather_228 : decode cX0_gather 228 = .ok (.putfield 58, 3) := by decide +kernel
theorem dX0_gather_231 : decode cX0_gather 231 = .ok (.iinc 5 1, 3) := by decide +kernel
theorem dX0_gather_234 : decode cX0_gather 234 = .ok (.goto (-148), 3) := by decide +kernel
theorem dX0_gather_237 : decode cX0_gather 237 = .ok (.return_, 1) := by decide +kernel
theorem dX0_gatherOwn_0 : decode cX0_gatherOwn 0 = .ok (.aload_n 0, 1) := by decide +kernel
theorem dX0_gatherOwn_1 : decode cX0_gatherOwn 1 = .ok (.aload_n 1, 1) := by decide +kernel
theorem dX0_gatherOwn_2 : decode cX0_gatherOwn 2 = .ok (.getfield 104, 3) := by decide +kernel
theorem dX0_gatherOwn_5 : decode cX0_gatherOwn 5 = .ok (.iload_n 2, 1) := by decide +kernel
theorem dX0_gatherOwn_6 : decode cX0_gatherOwn 6 = .ok (.invokestatic 30, 3) := by decide +kernel
theorem dX0_gatherOwn_9 : decode cX0_gatherOwn 9 = .ok (.putfield 109, 3) := by decide +kernel
theorem dX0_gatherOwn_12 : decode cX0_gatherOwn 12 = .ok (.aload_n 0, 1) := by decide +kernel
theorem dX0_gatherOwn_13 : decode cX0_gatherOwn 13 = .ok (.aload_n 1, 1) := by decide +kernel
theorem dX0_gatherOwn_14 : decode cX0_gatherOwn 14 = .ok (.getfield 111, 3) := by decide +kernel
theorem dX0_gatherOwn_17 : decode cX0_gatherOwn 17 = .ok (.iload_n 2, 1) := by decide +kernel
theorem dX0_gatherOwn_18 : decode cX0_gatherOwn 18 = .ok (.invokestatic 30, 3) := by decide +kernel
theorem dX0_gatherOwn_21 : decode cX0_gatherOwn 21 = .ok (.putfield 114, 3) := by decide +kernel
theorem dX0_gatherOwn_24 : decode cX0_gatherOwn 24 = .ok (.aload_n 0, 1) := by decide +kernel
theorem dX0_gatherOwn_25 : decode cX0_gatherOwn 25 = .ok (.aload_n 1, 1) := by decide +kernel
theorem dX0_gatherOwn_26 : decode cX0_gatherOwn 26 = .ok (.getfield 116, 3) := by decide +kernel
theorem dX0_gatherOwn_29 : decode cX0_gatherOwn 29 = .ok (.iload_n 2, 1) := by decide +kernel
theorem dX0_gatherOwn_30 : decode cX0_gatherOwn 30 = .ok (.invokestatic 30, 3) := by decide +kernel
theorem dX0_gatherOwn_33 : decode cX0_gatherOwn 33 = .ok (.putfield 119, 3) := by decide +kernel
theorem dX0_gatherOwn_36 : decode cX0_gatherOwn 36 = .ok (.aload_n 0, 1) := by decide +kernel
theorem dX0_gatherOwn_37 : decode cX0_gatherOwn 37 = .ok (.aload_n 1, 1) := by decide +kernel
theorem dX0_gatherOwn_38 : decode cX0_gatherOwn 38 = .ok (.getfield 121, 3) := by decide +kernel
theorem dX0_gatherOwn_41 : decode cX0_gatherOwn 41 = .ok (.iload_n 2, 1) := by decide +kernel
theorem dX0_gatherOwn_42 : decode cX0_gatherOwn 42 = .ok (.invokestatic 30, 3) := by decide +kernel
theorem dX0_gatherOwn_45 : decode cX0_gatherOwn 45 = .ok (.putfield 124, 3) := by decide +kernel
theorem dX0_gatherOwn_48 : decode cX0_gatherOwn 48 = .ok (.aload_n 0, 1) := by decide +kernel
theorem dX0_gatherOwn_49 : decode cX0_gatherOwn 49 = .ok (.aload_n 1, 1) := by decide +kernel
theorem dX0_gatherOwn_50 : decode cX0_gatherOwn 50 = .ok (.getfield 126, 3) := by decide +kernel
theorem dX0_gatherOwn_53 : decode cX0_gatherOwn 53 = .ok (.iload_n 2, 1) := by decide +kernel
theorem dX0_gatherOwn_54 : decode cX0_gatherOwn 54 = .ok (.invokestatic 30, 3) := by decide +kernel
theorem dX0_gatherOwn_57 : decode cX0_gatherOwn 57 = .ok (.putfield 49, 3) := by decide +kernel
theorem dX0_gatherOwn_60 : decode cX0_gatherOwn 60 = .ok (.return_, 1) := by decide +kernel
theorem dX0_gatherHat_0 : decode cX0_gatherHat 0 = .ok (.aload_n 0, 1) := by decide +kernel
theorem dX0_gatherHat_1 : decode cX0_gatherHat 1 = .ok (.aload_n 1, 1) := by decide +kernel
theorem dX0_gatherHat_2 : decode cX0_gatherHat 2 = .ok (.getfield 128, 3) := by decide +kernel
theorem dX0_gatherHat_5 : decode cX0_gatherHat 5 = .ok (.iload_n 2, 1) := by decide +kernel
theorem dX0_gatherHat_6 : decode cX0_gatherHat 6 = .ok (.invokestatic 30, 3) := by decide +kernel
theorem dX0_gatherHat_9 : decode cX0_gatherHat 9 = .ok (.putfield 79, 3) := by decide +kernel
theorem dX0_gatherHat_12 : decode cX0_gatherHat 12 = .ok (.aload_n 0, 1) := by decide +kernel
theorem dX0_gatherHat_13 : decode cX0_gatherHat 13 = .ok (.aload_n 1, 1) := by decide +kernel
theorem dX0_gatherHat_14 : decode cX0_gatherHat 14 = .ok (.getfield 132, 3) := by decide +kernel
theorem dX0_gatherHat_17 : decode cX0_gatherHat 17 = .ok (.iload_n 2, 1) := by decide +kernel
theorem dX0_gatherHat_18 : decode cX0_gatherHat 18 = .ok (.invokestatic 30, 3) := by decide +kernel
theorem dX0_gatherHat_21 : decode cX0_gatherHat 21 = .ok (.putfield 135, 3) := by decide +kernel
theorem dX0_gatherHat_24 : decode cX0_gatherHat 24 = .ok (.aload_n 0, 1) := by decide +kernel
theorem dX0_gatherHat_25 : decode cX0_gatherHat 25 = .ok (.aload_n 1, 1) := by decide +kernel
theorem dX0_gatherHat_26 : decode cX0_gatherHat 26 = .ok (.getfield 137, 3) := by decide +kernel
theorem dX0_gatherHat_29 : decode cX0_gatherHat 29 = .ok (.iload_n 2, 1) := by decide +kernel
theorem dX0_gatherHat_30 : decode cX0_gatherHat 30 = .ok (.invokestatic 30, 3) := by decide +kernel
theorem dX0_gatherHat_33 : decode cX0_gatherHat 33 = .ok (.putfield 140, 3) := by decide +kernel
theorem dX0_gatherHat_36 : decode cX0_gatherHat 36 = .ok (.aload_n 0, 1) := by decide +kernel
theorem dX0_gatherHat_37 : decode cX0_gatherHat 37 = .ok (.aload_n 1, 1) := by decide +kernel
theorem dX0_gatherHat_38 : decode cX0_gatherHat 38 = .ok (.getfield 142, 3) := by decide +kernel
theorem dX0_gatherHat_41 : decode cX0_gatherHat 41 = .ok (.iload_n 2, 1) := by decide +kernel
theorem dX0_gatherHat_42 : decode cX0_gatherHat 42 = .ok (.invokestatic 30, 3) := by decide +kernel
theorem dX0_gatherHat_45 : decode cX0_gatherHat 45 = .ok (.putfield 145, 3) := by decide +kernel
theorem dX0_gatherHat_48 : decode cX0_gatherHat 48 = .ok (.return_, 1) := by decide +kernel
theorem dX0_worthWith_0 : decode cX0_worthWith 0 = .ok (.aload_n 0, 1) := by decide +kernel
theorem dX0_worthWith_1 : decode cX0_worthWith 1 = .ok (.getfield 109, 3) := by decide +kernel
theorem dX0_worthWith_4 : decode cX0_worthWith 4 = .ok (.iload_n 1, 1) := by decide +kernel
theorem dX0_worthWith_5 : decode cX0_worthWith 5 = .ok (.imul, 1) := by decide +kernel
theorem dX0_worthWith_6 : decode cX0_worthWith 6 = .ok (.istore_n 2, 1) := by decide +kernel
theorem dX0_worthWith_7 : decode cX0_worthWith 7 = .ok (.aload_n 0, 1) := by decide +kernel
theorem dX0_worthWith_8 : decode cX0_worthWith 8 = .ok (.getfield 114, 3) := by decide +kernel
theorem dX0_worthWith_11 : decode cX0_worthWith 11 = .ok (.iload_n 1, 1) := by decide +kernel
theorem dX0_worthWith_12 : decode cX0_worthWith 12 = .ok (.imul, 1) := by decide +kernel
theorem dX0_worthWith_13 : decode cX0_worthWith 13 = .ok (.iload_n 1, 1) := by decide +kernel
theorem dX0_worthWith_14 : decode cX0_worthWith 14 = .ok (.imul, 1) := by decide +kernel
theorem dX0_worthWith_15 : decode cX0_worthWith 15 = .ok (.istore_n 3, 1) := by decide +kernel
theorem dX0_worthWith_16 : decode cX0_worthWith 16 = .ok (.aload_n 0, 1) := by decide +kernel
theorem dX0_worthWith_17 : decode cX0_worthWith 17 = .ok (.getfield 42, 3) := by decide +kernel
theorem dX0_worthWith_20 : decode cX0_worthWith 20 = .ok (.iconst 1, 1) := by decide +kernel
theorem dX0_worthWith_21 : decode cX0_worthWith 21 = .ok (.iadd, 1) := by decide +kernel
theorem dX0_worthWith_22 : decode cX0_worthWith 22 = .ok (.istore 4, 2) := by decide +kernel
theorem dX0_worthWith_24 : decode cX0_worthWith 24 = .ok (.aload_n 0, 1) := by decide +kernel
theorem dX0_worthWith_25 : decode cX0_worthWith 25 = .ok (.getfield 38, 3) := by decide +kernel
theorem dX0_worthWith_28 : decode cX0_worthWith 28 = .ok (.ifCond .ne 17, 3) := by decide +kernel
theorem dX0_worthWith_31 : decode cX0_worthWith 31 = .ok (.aload_n 0, 1) := by decide +kernel
theorem dX0_worthWith_32 : decode cX0_worthWith 32 = .ok (.getfield 52, 3) := by decide +kernel
theorem dX0_worthWith_35 : decode cX0_worthWith 35 = .ok (.iconst 1, 1) := by decide +kernel
theorem dX0_worthWith_36 : decode cX0_worthWith 36 = .ok (.if_icmp .lt 9, 3) := by decide +kernel
theorem dX0_worthWith_39 : decode cX0_worthWith 39 = .ok (.iload 4, 2) := by decide +kernel
theorem dX0_worthWith_41 : decode cX0_worthWith 41 = .ok (.iconst 1, 1) := by decide +kernel
theorem dX0_worthWith_42 : decode cX0_worthWith 42 = .ok (.if_icmp .ge 10, 3) := by decide +kernel
theorem dX0_worthWith_45 : decode cX0_worthWith 45 = .ok (.bipush 100, 2) := by decide +kernel
theorem dX0_worthWith_47 : decode cX0_worthWith 47 = .ok (.iload_n 2, 1) := by decide +kernel
theorem dX0_worthWith_48 : decode cX0_worthWith 48 = .ok (.imul, 1) := by decide +kernel
theorem dX0_worthWith_49 : decode cX0_worthWith 49 = .ok (.iload_n 3, 1) := by decide +kernel
theorem dX0_worthWith_50 : decode cX0_worthWith 50 = .ok (.isub, 1) := by decide +kernel
theorem dX0_worthWith_51 : decode cX0_worthWith 51 = .ok (.ireturn, 1) := by decide +kernel
theorem dX0_worthWith_52 : decode cX0_worthWith 52 = .ok (.iload_n 2, 1) := by decide +kernel
theorem dX0_worthWith_53 : decode cX0_worthWith 53 = .ok (.aload_n 0, 1) := by decide +kernel
theorem dX0_worthWith_54 : decode cX0_worthWith 54 = .ok (.getfield 79, 3) := by decide +kernel
theorem dX0_worthWith_57 : decode cX0_worthWith 57 = .ok (.invokestatic 82, 3) := by decide +kernel
theorem dX0_worthWith_60 : decode cX0_worthWith 60 = .ok (.istore 5, 2) := by decide +kernel
theorem dX0_worthWith_62 : decode cX0_worthWith 62 = .ok (.aload_n 0, 1) := by decide +kernel
theorem dX0_worthWith_63 : decode cX0_worthWith 63 = .ok (.getfield 46, 3) := by decide +kernel
theorem dX0_worthWith_66 : decode cX0_worthWith 66 = .ok (.iload 5, 2) := by decide +kernel
theorem dX0_worthWith_68 : decode cX0_worthWith 68 = .ok (.iadd, 1) := by decide +kernel
theorem dX0_worthWith_69 : decode cX0_worthWith 69 = .ok (.istore 6, 2) := by decide +kernel
theorem dX0_worthWith_71 : decode cX0_worthWith 71 = .ok (.aload_n 0, 1) := by decide +kernel
theorem dX0_worthWith_72 : decode cX0_worthWith 72 = .ok (.getfield 145, 3) := by decide +kernel
theorem dX0_worthWith_75 : decode cX0_worthWith 75 = .ok (.iconst 3, 1) := by decide +kernel
theorem dX0_worthWith_76 : decode cX0_worthWith 76 = .ok (.if_icmp .ne 21, 3) := by decide +kernel
theorem dX0_worthWith_79 : decode cX0_worthWith 79 = .ok (.bipush 100, 2) := by decide +kernel
theorem dX0_worthWith_81 : decode cX0_worthWith 81 = .ok (.iload 6, 2) := by decide +kernel
theorem dX0_worthWith_83 : decode cX0_worthWith 83 = .ok (.imul, 1) := by decide +kernel
theorem dX0_worthWith_84 : decode cX0_worthWith 84 = .ok (.aload_n 0, 1) := by decide +kernel
theorem dX0_worthWith_85 : decode cX0_worthWith 85 = .ok (.getfield 49, 3) := by decide +kernel
theorem dX0_worthWith_88 : decode cX0_worthWith 88 = .ok (.imul, 1) := by decide +kernel
theorem dX0_worthWith_89 : decode cX0_worthWith 89 = .ok (.aload_n 0, 1) := by decide +kernel
theorem dX0_worthWith_90 : decode cX0_worthWith 90 = .ok (.getfield 52, 3) := by decide +kernel
theorem dX0_worthWith_93 : decode cX0_worthWith 93 = .ok (.idiv, 1) := by decide +kernel
theorem dX0_worthWith_94 : decode cX0_worthWith 94 = .ok (.goto 11, 3) := by decide +kernel
theorem dX0_worthWith_97 : decode cX0_worthWith 97 = .ok (.bipush 100, 2) := by decide +kernel
theorem dX0_worthWith_99 : decode cX0_worthWith 99 = .ok (.iload 6, 2) := by decide +kernel
theorem dX0_worthWith_101 : decode cX0_worthWith 101 = .ok (.imul, 1) := by decide +kernel
theorem dX0_worthWith_102 : decode cX0_worthWith 102 = .ok (.iload 4, 2) := by decide +kernel
theorem dX0_worthWith_104 : decode cX0_worthWith 104 = .ok (.idiv, 1) := by decide +kernel
theorem dX0_worthWith_105 : decode cX0_worthWith 105 = .ok (.istore 7, 2) := by decide +kernel
theorem dX0_worthWith_107 : decode cX0_worthWith 107 = .ok (.aload_n 0, 1) := by decide +kernel
theorem dX0_worthWith_108 : decode cX0_worthWith 108 = .ok (.getfield 145, 3) := by decide +kernel
theorem dX0_worthWith_111 : decode cX0_worthWith 111 = .ok (.iconst 1, 1) := by decide +kernel
theorem dX0_worthWith_112 : decode cX0_worthWith 112 = .ok (.if_icmp .gt 65, 3) := by decide +kernel
theorem dX0_worthWith_115 : decode cX0_worthWith 115 = .ok (.aload_n 0, 1) := by decide +kernel
theorem dX0_worthWith_116 : decode cX0_worthWith 116 = .ok (.getfield 119, 3) := by decide +kernel
theorem dX0_worthWith_119 : decode cX0_worthWith 119 = .ok (.ifCond .le 58, 3) := by decide +kernel
theorem dX0_worthWith_122 : decode cX0_worthWith 122 = .ok (.aload_n 0, 1) := by decide +kernel
theorem dX0_worthWith_123 : decode cX0_worthWith 123 = .ok (.getfield 9, 3) := by decide +kernel
theorem dX0_worthWith_126 : decode cX0_worthWith 126 = .ok (.aload_n 0, 1) := by decide +kernel
theorem dX0_worthWith_127 : decode cX0_worthWith 127 = .ok (.getfield 42, 3) := by decide +kernel
theorem dX0_worthWith_130 : decode cX0_worthWith 130 = .ok (.iload 5, 2) := by decide +kernel
theorem dX0_worthWith_132 : decode cX0_worthWith 132 = .ok (.invokestatic 86, 3) := by decide +kernel
theorem dX0_worthWith_135 : decode cX0_worthWith 135 = .ok (.aload_n 0, 1) := by decide +kernel
theorem dX0_worthWith_136 : decode cX0_worthWith 136 = .ok (.getfield 9, 3) := by decide +kernel
theorem dX0_worthWith_139 : decode cX0_worthWith 139 = .ok (.iload 4, 2) := by decide +kernel
theorem dX0_worthWith_141 : decode cX0_worthWith 141 = .ok (.iload 6, 2) := by decide +kernel
theorem dX0_worthWith_143 : decode cX0_worthWith 143 = .ok (.invokestatic 147, 3) := by decide +kernel
theorem dX0_worthWith_146 : decode cX0_worthWith 146 = .ok (.istore 8, 2) := by decide +kernel
theorem dX0_worthWith_148 : decode cX0_worthWith 148 = .ok (.iload 7, 2) := by decide +kernel
theorem dX0_worthWith_150 : decode cX0_worthWith 150 = .ok (.aload_n 0, 1) := by decide +kernel
theorem dX0_worthWith_151 : decode cX0_worthWith 151 = .ok (.getfield 119, 3) := by decide +kernel
theorem dX0_worthWith_154 : decode cX0_worthWith 154 = .ok (.aload_n 0, 1) := by decide +kernel
theorem dX0_worthWith_155 : decode cX0_worthWith 155 = .ok (.getfield 58, 3) := by decide +kernel
theorem dX0_worthWith_158 : decode cX0_worthWith 158 = .ok (.ifCond .eq 10, 3) := by decide +kernel
theorem dX0_worthWith_161 : decode cX0_worthWith 161 = .ok (.iload 8, 2) := by decide +kernel
theorem dX0_worthWith_163 : decode cX0_worthWith 163 = .ok (.iconst 2, 1) := by decide +kernel
theorem dX0_worthWith_164 : decode cX0_worthWith 164 = .ok (.idiv, 1) := by decide +kernel
theorem dX0_worthWith_165 : decode cX0_worthWith 165 = .ok (.goto 5, 3) := by decide +kernel
theorem dX0_worthWith_168 : decode cX0_worthWith 168 = .ok (.iload 8, 2) := by decide +kernel
theorem dX0_worthWith_170 : decode cX0_worthWith 170 = .ok (.imul, 1) := by decide +kernel
theorem dX0_worthWith_171 : decode cX0_worthWith 171 = .ok (.bipush 100, 2) := by decide +kernel
theorem dX0_worthWith_173 : decode cX0_worthWith 173 = .ok (.idiv, 1) := by decide +kernel
theorem dX0_worthWith_174 : decode cX0_worthWith 174 = .ok (.isub, 1) := by decide +kernel
theorem dX0_worthWith_175 : decode cX0_worthWith 175 = .ok (.istore 7, 2) := by decide +kernel
theorem dX0_worthWith_177 : decode cX0_worthWith 177 = .ok (.iload_n 1, 1) := by decide +kernel
theorem dX0_worthWith_178 : decode cX0_worthWith 178 = .ok (.aload_n 0, 1) := by decide +kernel
theorem dX0_worthWith_179 : decode cX0_worthWith 179 = .ok (.getfield 135, 3) := by decide +kernel
theorem dX0_worthWith_182 : decode cX0_worthWith 182 = .ok (.if_icmp .ge 20, 3) := by decide +kernel
theorem dX0_worthWith_185 : decode cX0_worthWith 185 = .ok (.iload 7, 2) := by decide +kernel
theorem dX0_worthWith_187 : decode cX0_worthWith 187 = .ok (.bipush 100, 2) := by decide +kernel
theorem dX0_worthWith_189 : decode cX0_worthWith 189 = .ok (.aload_n 0, 1) := by decide +kernel
theorem dX0_worthWith_190 : decode cX0_worthWith 190 = .ok (.getfield 140, 3) := by decide +kernel
theorem dX0_worthWith_193 : decode cX0_worthWith 193 = .ok (.isub, 1) := by decide +kernel
theorem dX0_worthWith_194 : decode cX0_worthWith 194 = .ok (.imul, 1) := by decide +kernel
theorem dX0_worthWith_195 : decode cX0_worthWith 195 = .ok (.bipush 100, 2) := by decide +kernel
theorem dX0_worthWith_197 : decode cX0_worthWith 197 = .ok (.invokestatic 151, 3) := by decide +kernel
theorem dX0_worthWith_200 : decode cX0_worthWith 200 = .ok (.istore 7, 2) := by decide +kernel
theorem dX0_worthWith_202 : decode cX0_worthWith 202 = .ok (.bipush 100, 2) := by decide +kernel
theorem dX0_worthWith_204 : decode cX0_worthWith 204 = .ok (.iload_n 2, 1) := by decide +kernel
theorem dX0_worthWith_205 : decode cX0_worthWith 205 = .ok (.iload 5, 2) := by decide +kernel
theorem dX0_worthWith_207 : decode cX0_worthWith 207 = .ok (.isub, 1) := by decide +kernel
theorem dX0_worthWith_208 : decode cX0_worthWith 208 = .ok (.imul, 1) := by decide +kernel
theorem dX0_worthWith_209 : decode cX0_worthWith 209 = .ok (.iload_n 3, 1) := by decide +kernel
theorem dX0_worthWith_210 : decode cX0_worthWith 210 = .ok (.isub, 1) := by decide +kernel
theorem dX0_worthWith_211 : decode cX0_worthWith 211 = .ok (.iload 7, 2) := by decide +kernel
theorem dX0_worthWith_213 : decode cX0_worthWith 213 = .ok (.iadd, 1) := by decide +kernel
theorem dX0_worthWith_214 : decode cX0_worthWith 214 = .ok (.aload_n 0, 1) := by decide +kernel
theorem dX0_worthWith_215 : decode cX0_worthWith 215 = .ok (.getfield 124, 3) := by decide +kernel
theorem dX0_worthWith_218 : decode cX0_worthWith 218 = .ok (.iconst 0, 1) := by decide +kernel
theorem dX0_worthWith_219 : decode cX0_worthWith 219 = .ok (.aload_n 0, 1) := by decide +kernel
theorem dX0_worthWith_220 : decode cX0_worthWith 220 = .ok (.getfield 55, 3) := by decide +kernel
theorem dX0_worthWith_223 : decode cX0_worthWith 223 = .ok (.iload_n 1, 1) := by decide +kernel
theorem dX0_worthWith_224 : decode cX0_worthWith 224 = .ok (.isub, 1) := by decide +kernel
theorem dX0_worthWith_225 : decode cX0_worthWith 225 = .ok (.invokestatic 96, 3) := by decide +kernel
theorem dX0_worthWith_228 : decode cX0_worthWith 228 = .ok (.imul, 1) := by decide +kernel
theorem dX0_worthWith_229 : decode cX0_worthWith 229 = .ok (.isub, 1) := by decide +kernel
theorem dX0_worthWith_230 : decode cX0_worthWith 230 = .ok (.ireturn, 1) := by decide +kernel
theorem dX1_init_0 : decode cX1_init 0 = .ok (.aload_n 0, 1) := by decide +kernel
theorem dX1_init_1 : decode cX1_init 1 = .ok (.invokespecial 3, 3) := by decide +kernel
theorem dX1_init_4 : decode cX1_init 4 = .ok (.aload_n 0, 1) := by decide +kernel
theorem dX1_init_5 : decode cX1_init 5 = .ok (.iconst 4, 1) := by decide +kernel
theorem dX1_init_6 : decode cX1_init 6 = .ok (.newarray .int, 2) := by decide +kernel
theorem dX1_init_8 : decode cX1_init 8 = .ok (.putfield 9, 3) := by decide +kernel
theorem dX1_init_11 : decode cX1_init 11 = .ok (.aload_n 0, 1) := by decide +kernel
theorem dX1_init_12 : decode cX1_init 12 = .ok (.iconst 4, 1) := by decide +kernel
theorem dX1_init_13 : decode cX1_init 13 = .ok (.newarray .int, 2) := by decide +kernel
theorem dX1_init_15 : decode cX1_init 15 = .ok (.putfield 15, 3) := by decide +kernel
theorem dX1_init_18 : decode cX1_init 18 = .ok (.aload_n 0, 1) := by decide +kernel
theorem dX1_init_19 : decode cX1_init 19 = .ok (.iconst 4, 1) := by decide +kernel
theorem dX1_init_20 : decode cX1_init 20 = .ok (.newarray .int, 2) := by decide +kernel
theorem dX1_init_22 : decode cX1_init 22 = .ok (.putfield 18, 3) := by decide +kernel
theorem dX1_init_25 : decode cX1_init 25 = .ok (.aload_n 0, 1) := by decide +kernel
theorem dX1_init_26 : decode cX1_init 26 = .ok (.iconst 4, 1) := by decide +kernel
theorem dX1_init_27 : decode cX1_init 27 = .ok (.newarray .int, 2) := by decide +kernel
theorem dX1_init_29 : decode cX1_init 29 = .ok (.putfield 21, 3) := by decide +kernel
theorem dX1_init_32 : decode cX1_init 32 = .ok (.aload_n 0, 1) := by decide +kernel
theorem dX1_init_33 : decode cX1_init 33 = .ok (.iconst 4, 1) := by decide +kernel
theorem dX1_init_34 : decode cX1_init 34 = .ok (.newarray .int, 2) := by decide +kernel
theorem dX1_init_36 : decode cX1_init 36 = .ok (.putfield 24, 3) := by decide +kernel
theorem dX1_init_39 : decode cX1_init 39 = .ok (.return_, 1) := by decide +kernel
theorem dX1_copyOf_0 : decode cX1_copyOf 0 = .ok (.aload_n 0, 1) := by decide +kernel
theorem dX1_copyOf_1 : decode cX1_copyOf 1 = .ok (.aload_n 1, 1) := by decide +kernel
theorem dX1_copyOf_2 : decode cX1_copyOf 2 = .ok (.getfield 27, 3) := by decide +kernel
theorem dX1_copyOf_5 : decode cX1_copyOf 5 = .ok (.putfield 27, 3) := by decide +kernel
theorem dX1_copyOf_8 : decode cX1_copyOf 8 = .ok (.iconst 0, 1) := by decide +kernel
theorem dX1_copyOf_9 : decode cX1_copyOf 9 = .ok (.istore_n 2, 1) := by decide +kernel
theorem dX1_copyOf_10 : decode cX1_copyOf 10 = .ok (.iload_n 2, 1) := by decide +kernel
theorem dX1_copyOf_11 : decode cX1_copyOf 11 = .ok (.aload_n 0, 1) := by decide +kernel
theorem dX1_copyOf_12 : decode cX1_copyOf 12 = .ok (.getfield 27, 3) := by decide +kernel
theorem dX1_copyOf_15 : decode cX1_copyOf 15 = .ok (.if_icmp .ge 73, 3) := by decide +kernel
theorem dX1_copyOf_18 : decode cX1_copyOf 18 = .ok (.aload_n 0, 1) := by decide +kernel
theorem dX1_copyOf_19 : decode cX1_copyOf 19 = .ok (.getfield 15, 3) := by decide +kernel
theorem dX1_copyOf_22 : decode cX1_copyOf 22 = .ok (.iload_n 2, 1) := by decide +kernel
theorem dX1_copyOf_23 : decode cX1_copyOf 23 = .ok (.aload_n 1, 1) := by decide +kernel
theorem dX1_copyOf_24 : decode cX1_copyOf 24 = .ok (.getfield 15, 3) := by decide +kernel
theorem dX1_copyOf_27 : decode cX1_copyOf 27 = .ok (.iload_n 2, 1) := by decide +kernel
theorem dX1_copyOf_28 : decode cX1_copyOf 28 = .ok (.invokestatic 31, 3) := by decide +kernel
theorem dX1_copyOf_31 : decode cX1_copyOf 31 = .ok (.invokestatic 35, 3) := by decide +kernel
theorem dX1_copyOf_34 : decode cX1_copyOf 34 = .ok (.aload_n 0, 1) := by decide +kernel
theorem dX1_copyOf_35 : decode cX1_copyOf 35 = .ok (.getfield 18, 3) := by decide +kernel
theorem dX1_copyOf_38 : decode cX1_copyOf 38 = .ok (.iload_n 2, 1) := by decide +kernel
theorem dX1_copyOf_39 : decode cX1_copyOf 39 = .ok (.aload_n 1, 1) := by decide +kernel
theorem dX1_copyOf_40 : decode cX1_copyOf 40 = .ok (.getfield 18, 3) := by decide +kernel
theorem dX1_copyOf_43 : decode cX1_copyOf 43 = .ok (.iload_n 2, 1) := by decide +kernel
theorem dX1_copyOf_44 : decode cX1_copyOf 44 = .ok (.invokestatic 31, 3) := by decide +kernel
theorem dX1_copyOf_47 : decode cX1_copyOf 47 = .ok (.invokestatic 35, 3) := by decide +kernel
theorem dX1_copyOf_50 : decode cX1_copyOf 50 = .ok (.aload_n 0, 1) := by decide +kernel
theorem dX1_copyOf_51 : decode cX1_copyOf 51 = .ok (.getfield 21, 3) := by decide +kernel
theorem dX1_copyOf_54 : decode cX1_copyOf 54 = .ok (.iload_n 2, 1) := by decide +kernel
theorem dX1_copyOf_55 : decode cX1_copyOf 55 = .ok (.aload_n 1, 1) := by decide +kernel
theorem dX1_copyOf_56 : decode cX1_copyOf 56 = .ok (.getfield 21, 3) := by decide +kernel
theorem dX1_copyOf_59 : decode cX1_copyOf 59 = .ok (.iload_n 2, 1) := by decide +kernel
theorem dX1_copyOf_60 : decode cX1_copyOf 60 = .ok (.invokestatic 31, 3) := by decide +kernel
theorem dX1_copyOf_63 : decode cX1_copyOf 63 = .ok (.invokestatic 35, 3) := by decide +kernel
theorem dX1_copyOf_66 : decode cX1_copyOf 66 = .ok (.aload_n 0, 1) := by decide +kernel
theorem dX1_copyOf_67 : decode cX1_copyOf 67 = .ok (.getfield 24, 3) := by decide +kernel
theorem dX1_copyOf_70 : decode cX1_copyOf 70 = .ok (.iload_n 2, 1) := by decide +kernel
theorem dX1_copyOf_71 : decode cX1_copyOf 71 = .ok (.aload_n 1, 1) := by decide +kernel
theorem dX1_copyOf_72 : decode cX1_copyOf 72 = .ok (.getfield 24, 3) := by decide +kernel
theorem dX1_copyOf_75 : decode cX1_copyOf 75 = .ok (.iload_n 2, 1) := by decide +kernel
theorem dX1_copyOf_76 : decode cX1_copyOf 76 = .ok (.invokestatic 31, 3) := by decide +kernel
theorem dX1_copyOf_79 : decode cX1_copyOf 79 = .ok (.invokestatic 35, 3) := by decide +kernel
theorem dX1_copyOf_82 : decode cX1_copyOf 82 = .ok (.iinc 2 1, 3) := by decide +kernel
theorem dX1_copyOf_85 : decode cX1_copyOf 85 = .ok (.goto (-75), 3) := by decide +kernel
theorem dX1_copyOf_88 : decode cX1_copyOf 88 = .ok (.return_, 1) := by decide +kernel
theorem dX2_init_0 : decode cX2_init 0 = .ok (.aload_n 0, 1) := by decide +kernel
theorem dX2_init_1 : decode cX2_init 1 = .ok (.invokespecial 3, 3) := by decide +kernel
theorem dX2_init_4 : decode cX2_init 4 = .ok (.aload_n 0, 1) := by decide +kernel
theorem dX2_init_5 : decode cX2_init 5 = .ok (.bipush 12, 2) := by decide +kernel
theorem dX2_init_7 : decode cX2_init 7 = .ok (.newarray .int, 2) := by decide +kernel
theorem dX2_init_9 : decode cX2_init 9 = .ok (.putfield 9, 3) := by decide +kernel
theorem dX2_init_12 : decode cX2_init 12 = .ok (.aload_n 0, 1) := by decide +kernel
theorem dX2_init_13 : decode cX2_init 13 = .ok (.bipush 12, 2) := by decide +kernel
theorem dX2_init_15 : decode cX2_init 15 = .ok (.newarray .int, 2) := by decide +kernel
theorem dX2_init_17 : decode cX2_init 17 = .ok (.putfield 15, 3) := by decide +kernel
theorem dX2_init_20 : decode cX2_init 20 = .ok (.iconst 0, 1) := by decide +kernel
theorem dX2_init_21 : decode cX2_init 21 = .ok (.iload_n 1, 1) := by decide +kernel
theorem dX2_init_22 : decode cX2_init 22 = .ok (.invokestatic 18, 3) := by decide +kernel
theorem dX2_init_25 : decode cX2_init 25 = .ok (.istore_n 2, 1) := by decide +kernel
theorem dX2_init_26 : decode cX2_init 26 = .ok (.aload_n 0, 1) := by decide +kernel
theorem dX2_init_27 : decode cX2_init 27 = .ok (.iload_n 2, 1) := by decide +kernel
theorem dX2_init_28 : decode cX2_init 28 = .ok (.newarray .int, 2) := by decide +kernel
theorem dX2_init_30 : decode cX2_init 30 = .ok (.putfield 24, 3) := by decide +kernel
theorem dX2_init_33 : decode cX2_init 33 = .ok (.aload_n 0, 1) := by decide +kernel
theorem dX2_init_34 : decode cX2_init 34 = .ok (.iload_n 2, 1) := by decide +kernel
theorem dX2_init_35 : decode cX2_init 35 = .ok (.newarray .int, 2) := by decide +kernel
theorem dX2_init_37 : decode cX2_init 37 = .ok (.putfield 27, 3) := by decide +kernel
theorem dX2_init_40 : decode cX2_init 40 = .ok (.aload_n 0, 1) := by decide +kernel
theorem dX2_init_41 : decode cX2_init 41 = .ok (.iload_n 2, 1) := by decide +kernel
theorem dX2_init_42 : decode cX2_init 42 = .ok (.newarray .int, 2) := by decide +kernel
theorem dX2_init_44 : decode cX2_init 44 = .ok (.putfield 30, 3) := by decide +kernel
theorem dX2_init_47 : decode cX2_init 47 = .ok (.aload_n 0, 1) := by decide +kernel
theorem dX2_init_48 : decode cX2_init 48 = .ok (.iload_n 2, 1) := by decide +kernel
theorem dX2_init_49 : decode cX2_init 49 = .ok (.newarray .int, 2) := by decide +kernel
theorem dX2_init_51 : decode cX2_init 51 = .ok (.putfield 33, 3) := by decide +kernel
theorem dX2_init_54 : decode cX2_init 54 = .ok (.aload_n 0, 1) := by decide +kernel
theorem dX2_init_55 : decode cX2_init 55 = .ok (.iload_n 2, 1) := by decide +kernel
theorem dX2_init_56 : decode cX2_init 56 = .ok (.newarray .int, 2) := by decide +kernel
theorem dX2_init_58 : decode cX2_init 58 = .ok (.putfield 36, 3) := by decide +kernel
theorem dX2_init_61 : decode cX2_init 61 = .ok (.aload_n 0, 1) := by decide +kernel
theorem dX2_init_62 : decode cX2_init 62 = .ok (.iload_n 2, 1) := by decide +kernel
theorem dX2_init_63 : decode cX2_init 63 = .ok (.newarray .int, 2) := by decide +kernel
theorem dX2_init_65 : decode cX2_init 65 = .ok (.putfield 39, 3) := by decide +kernel
theorem dX2_init_68 : decode cX2_init 68 = .ok (.return_, 1) := by decide +kernel
theorem dX2_copyOf_0 : decode cX2_copyOf 0 = .ok (.aload_n 0, 1) := by decide +kernel
theorem dX2_copyOf_1 : decode cX2_copyOf 1 = .ok (.aload_n 1, 1) := by decide +kernel
theorem dX2_copyOf_2 : decode cX2_copyOf 2 = .ok (.getfield 42, 3) := by decide +kernel
theorem dX2_copyOf_5 : decode cX2_copyOf 5 = .ok (.putfield 42, 3) := by decide +kernel
theorem dX2_copyOf_8 : decode cX2_copyOf 8 = .ok (.iconst 0, 1) := by decide +kernel
theorem dX2_copyOf_9 : decode cX2_copyOf 9 = .ok (.istore_n 2, 1) := by decide +kernel
theorem dX2_copyOf_10 : decode cX2_copyOf 10 = .ok (.iload_n 2, 1) := by decide +kernel
theorem dX2_copyOf_11 : decode cX2_copyOf 11 = .ok (.aload_n 0, 1) := by decide +kernel
theorem dX2_copyOf_12 : decode cX2_copyOf 12 = .ok (.getfield 42, 3) := by decide +kernel
theorem dX2_copyOf_15 : decode cX2_copyOf 15 = .ok (.if_icmp .ge 73, 3) := by decide +kernel
theorem dX2_copyOf_18 : decode cX2_copyOf 18 = .ok (.aload_n 0, 1) := by decide +kernel
theorem dX2_copyOf_19 : decode cX2_copyOf 19 = .ok (.getfield 27, 3) := by decide +kernel
theorem dX2_copyOf_22 : decode cX2_copyOf 22 = .ok (.iload_n 2, 1) := by decide +kernel
theorem dX2_copyOf_23 : decode cX2_copyOf 23 = .ok (.aload_n 1, 1) := by decide +kernel
theorem dX2_copyOf_24 : decode cX2_copyOf 24 = .ok (.getfield 27, 3) := by decide +kernel
theorem dX2_copyOf_27 : decode cX2_copyOf 27 = .ok (.iload_n 2, 1) := by decide +kernel
theorem dX2_copyOf_28 : decode cX2_copyOf 28 = .ok (.invokestatic 46, 3) := by decide +kernel
theorem dX2_copyOf_31 : decode cX2_copyOf 31 = .ok (.invokestatic 50, 3) := by decide +kernel
theorem dX2_copyOf_34 : decode cX2_copyOf 34 = .ok (.aload_n 0, 1) := by decide +kernel
theorem dX2_copyOf_35 : decode cX2_copyOf 35 = .ok (.getfield 30, 3) := by decide +kernel
theorem dX2_copyOf_38 : decode cX2_copyOf 38 = .ok (.iload_n 2, 1) := by decide +kernel
theorem dX2_copyOf_39 : decode cX2_copyOf 39 = .ok (.aload_n 1, 1) := by decide +kernel
theorem dX2_copyOf_40 : decode cX2_copyOf 40 = .ok (.getfield 30, 3) := by decide +kernel
theorem dX2_copyOf_43 : decode cX2_copyOf 43 = .ok (.iload_n 2, 1) := by decide +kernel
theorem dX2_copyOf_44 : decode cX2_copyOf 44 = .ok (.invokestatic 46, 3) := by decide +kernel
theorem dX2_copyOf_47 : decode cX2_copyOf 47 = .ok (.invokestatic 50, 3) := by decide +kernel
theorem dX2_copyOf_50 : decode cX2_copyOf 50 = .ok (.aload_n 0, 1) := by decide +kernel
theorem dX2_copyOf_51 : decode cX2_copyOf 51 = .ok (.getfield 33, 3) := by decide +kernel
theorem dX2_copyOf_54 : decode cX2_copyOf 54 = .ok (.iload_n 2, 1) := by decide +kernel
theorem dX2_copyOf_55 : decode cX2_copyOf 55 = .ok (.aload_n 1, 1) := by decide +kernel
theorem dX2_copyOf_56 : decode cX2_copyOf 56 = .ok (.getfield 33, 3) := by decide +kernel
theorem dX2_copyOf_59 : decode cX2_copyOf 59 = .ok (.iload_n 2, 1) := by decide +kernel
theorem dX2_copyOf_60 : decode cX2_copyOf 60 = .ok (.invokestatic 46, 3) := by decide +kernel
theorem dX2_copyOf_63 : decode cX2_copyOf 63 = .ok (.invokestatic 50, 3) := by decide +kernel
theorem dX2_copyOf_66 : decode cX2_copyOf 66 = .ok (.aload_n 0, 1) := by decide +kernel
theorem dX2_copyOf_67 : decode cX2_copyOf 67 = .ok (.getfield 39, 3) := by decide +kernel
theorem dX2_copyOf_70 : decode cX2_copyOf 70 = .ok (.iload_n 2, 1) := by decide +kernel
theorem dX2_copyOf_71 : decode cX2_copyOf 71 = .ok (.aload_n 1, 1) := by decide +kernel
theorem dX2_copyOf_72 : decode cX2_copyOf 72 = .ok (.getfield 39, 3) := by decide +kernel
theorem dX2_copyOf_75 : decode cX2_copyOf 75 = .ok (.iload_n 2, 1) := by decide +kernel
theorem dX2_copyOf_76 : decode cX2_copyOf 76 = .ok (.invokestatic 46, 3) := by decide +kernel
theorem dX2_copyOf_79 : decode cX2_copyOf 79 = .ok (.invokestatic 50, 3) := by decide +kernel
theorem dX2_copyOf_82 : decode cX2_copyOf 82 = .ok (.iinc 2 1, 3) := by decide +kernel
theorem dX2_copyOf_85 : decode cX2_copyOf 85 = .ok (.goto (-75), 3) := by decide +kernel
theorem dX2_copyOf_88 : decode cX2_copyOf 88 = .ok (.return_, 1) := by decide +kernel
theorem dX2_becomeAlike_0 : decode cX2_becomeAlike 0 = .ok (.aload_n 0, 1) := by decide +kernel
theorem dX2_becomeAlike_1 : decode cX2_becomeAlike 1 = .ok (.iload_n 1, 1) := by decide +kernel
theorem dX2_becomeAlike_2 : decode cX2_becomeAlike 2 = .ok (.putfield 42, 3) := by decide +kernel
theorem dX2_becomeAlike_5 : decode cX2_becomeAlike 5 = .ok (.iconst 0, 1) := by decide +kernel
theorem dX2_becomeAlike_6 : decode cX2_becomeAlike 6 = .ok (.istore 4, 2) := by decide +kernel
theorem dX2_becomeAlike_8 : decode cX2_becomeAlike 8 = .ok (.iload 4, 2) := by decide +kernel
theorem dX2_becomeAlike_10 : decode cX2_becomeAlike 10 = .ok (.aload_n 0, 1) := by decide +kernel
theorem dX2_becomeAlike_11 : decode cX2_becomeAlike 11 = .ok (.getfield 42, 3) := by decide +kernel
theorem dX2_becomeAlike_14 : decode cX2_becomeAlike 14 = .ok (.if_icmp .ge 49, 3) := by decide +kernel
theorem dX2_becomeAlike_17 : decode cX2_becomeAlike 17 = .ok (.aload_n 0, 1) := by decide +kernel
theorem dX2_becomeAlike_18 : decode cX2_becomeAlike 18 = .ok (.getfield 27, 3) := by decide +kernel
theorem dX2_becomeAlike_21 : decode cX2_becomeAlike 21 = .ok (.iload 4, 2) := by decide +kernel
theorem dX2_becomeAlike_23 : decode cX2_becomeAlike 23 = .ok (.iload_n 2, 1) := by decide +kernel
theorem dX2_becomeAlike_24 : decode cX2_becomeAlike 24 = .ok (.invokestatic 50, 3) := by decide +kernel
theorem dX2_becomeAlike_27 : decode cX2_becomeAlike 27 = .ok (.aload_n 0, 1) := by decide +kernel
theorem dX2_becomeAlike_28 : decode cX2_becomeAlike 28 = .ok (.getfield 30, 3) := by decide +kernel
theorem dX2_becomeAlike_31 : decode cX2_becomeAlike 31 = .ok (.iload 4, 2) := by decide +kernel
theorem dX2_becomeAlike_33 : decode cX2_becomeAlike 33 = .ok (.iload_n 3, 1) := by decide +kernel
theorem dX2_becomeAlike_34 : decode cX2_becomeAlike 34 = .ok (.invokestatic 50, 3) := by decide +kernel
theorem dX2_becomeAlike_37 : decode cX2_becomeAlike 37 = .ok (.aload_n 0, 1) := by decide +kernel
theorem dX2_becomeAlike_38 : decode cX2_becomeAlike 38 = .ok (.getfield 33, 3) := by decide +kernel
theorem dX2_becomeAlike_41 : decode cX2_becomeAlike 41 = .ok (.iload 4, 2) := by decide +kernel
theorem dX2_becomeAlike_43 : decode cX2_becomeAlike 43 = .ok (.iconst 0, 1) := by decide +kernel
theorem dX2_becomeAlike_44 : decode cX2_becomeAlike 44 = .ok (.invokestatic 50, 3) := by decide +kernel
theorem dX2_becomeAlike_47 : decode cX2_becomeAlike 47 = .ok (.aload_n 0, 1) := by decide +kernel
theorem dX2_becomeAlike_48 : decode cX2_becomeAlike 48 = .ok (.getfield 39, 3) := by decide +kernel
theorem dX2_becomeAlike_51 : decode cX2_becomeAlike 51 = .ok (.iload 4, 2) := by decide +kernel
theorem dX2_becomeAlike_53 : decode cX2_becomeAlike 53 = .ok (.iconst (-1), 1) := by decide +kernel
theorem dX2_becomeAlike_54 : decode cX2_becomeAlike 54 = .ok (.invokestatic 50, 3) := by decide +kernel
theorem dX2_becomeAlike_57 : decode cX2_becomeAlike 57 = .ok (.iinc 4 1, 3) := by decide +kernel
theorem dX2_becomeAlike_60 : decode cX2_becomeAlike 60 = .ok (.goto (-52), 3) := by decide +kernel
theorem dX2_becomeAlike_63 : decode cX2_becomeAlike 63 = .ok (.return_, 1) := by decide +kernel
theorem dX2_countIn_0 : decode cX2_countIn 0 = .ok (.iconst 0, 1) := by decide +kernel
theorem dX2_countIn_1 : decode cX2_countIn 1 = .ok (.istore_n 2, 1) := by decide +kernel
theorem dX2_countIn_2 : decode cX2_countIn 2 = .ok (.iconst 0, 1) := by decide +kernel
theorem dX2_countIn_3 : decode cX2_countIn 3 = .ok (.istore_n 3, 1) := by decide +kernel
theorem dX2_countIn_4 : decode cX2_countIn 4 = .ok (.iload_n 3, 1) := by decide +kernel
theorem dX2_countIn_5 : decode cX2_countIn 5 = .ok (.aload_n 0, 1) := by decide +kernel
theorem dX2_countIn_6 : decode cX2_countIn 6 = .ok (.getfield 42, 3) := by decide +kernel
theorem dX2_countIn_9 : decode cX2_countIn 9 = .ok (.if_icmp .ge 24, 3) := by decide +kernel
theorem dX2_countIn_12 : decode cX2_countIn 12 = .ok (.aload_n 0, 1) := by decide +kernel
theorem dX2_countIn_13 : decode cX2_countIn 13 = .ok (.getfield 30, 3) := by decide +kernel
theorem dX2_countIn_16 : decode cX2_countIn 16 = .ok (.iload_n 3, 1) := by decide +kernel
theorem dX2_countIn_17 : decode cX2_countIn 17 = .ok (.invokestatic 46, 3) := by decide +kernel
theorem dX2_countIn_20 : decode cX2_countIn 20 = .ok (.iload_n 1, 1) := by decide +kernel
theorem dX2_countIn_21 : decode cX2_countIn 21 = .ok (.if_icmp .ne 6, 3) := by decide +kernel
theorem dX2_countIn_24 : decode cX2_countIn 24 = .ok (.iinc 2 1, 3) := by decide +kernel
theorem dX2_countIn_27 : decode cX2_countIn 27 = .ok (.iinc 3 1, 3) := by decide +kernel
theorem dX2_countIn_30 : decode cX2_countIn 30 = .ok (.goto (-26), 3) := by decide +kernel
theorem dX2_countIn_33 : decode cX2_countIn 33 = .ok (.iload_n 2, 1) := by decide +kernel
theorem dX2_countIn_34 : decode cX2_countIn 34 = .ok (.ireturn, 1) := by decide +kernel
theorem dX2_mostOfOthers_0 : decode cX2_mostOfOthers 0 = .ok (.iconst 0, 1) := by decide +kernel
theorem dX2_mostOfOthers_1 : decode cX2_mostOfOthers 1 = .ok (.istore_n 3, 1) := by decide +kernel
theorem dX2_mostOfOthers_2 : decode cX2_mostOfOthers 2 = .ok (.iconst 0, 1) := by decide +kernel
theorem dX2_mostOfOthers_3 : decode cX2_mostOfOthers 3 = .ok (.istore 4, 2) := by decide +kernel
theorem dX2_mostOfOthers_5 : decode cX2_mostOfOthers 5 = .ok (.iload 4, 2) := by decide +kernel
theorem dX2_mostOfOthers_7 : decode cX2_mostOfOthers 7 = .ok (.aload_n 0, 1) := by decide +kernel
theorem dX2_mostOfOthers_8 : decode cX2_mostOfOthers 8 = .ok (.getfield 42, 3) := by decide +kernel
theorem dX2_mostOfOthers_11 : decode cX2_mostOfOthers 11 = .ok (.if_icmp .ge 42, 3) := by decide +kernel
theorem dX2_mostOfOthers_14 : decode cX2_mostOfOthers 14 = .ok (.iload 4, 2) := by decide +kernel
theorem dX2_mostOfOthers_16 : decode cX2_mostOfOthers 16 = .ok (.iload_n 1, 1) := by decide +kernel
theorem dX2_mostOfOthers_17 : decode cX2_mostOfOthers 17 = .ok (.if_icmp .eq 30, 3) := by decide +kernel
theorem dX2_mostOfOthers_20 : decode cX2_mostOfOthers 20 = .ok (.aload_n 0, 1) := by decide +kernel
theorem dX2_mostOfOthers_21 : decode cX2_mostOfOthers 21 = .ok (.getfield 30, 3) := by decide +kernel
theorem dX2_mostOfOthers_24 : decode cX2_mostOfOthers 24 = .ok (.iload 4, 2) := by decide +kernel
theorem dX2_mostOfOthers_26 : decode cX2_mostOfOthers 26 = .ok (.invokestatic 46, 3) := by decide +kernel
theorem dX2_mostOfOthers_29 : decode cX2_mostOfOthers 29 = .ok (.iload_n 2, 1) := by decide +kernel
theorem dX2_mostOfOthers_30 : decode cX2_mostOfOthers 30 = .ok (.if_icmp .ne 17, 3) := by decide +kernel
theorem dX2_mostOfOthers_33 : decode cX2_mostOfOthers 33 = .ok (.iload_n 3, 1) := by decide +kernel
theorem dX2_mostOfOthers_34 : decode cX2_mostOfOthers 34 = .ok (.aload_n 0, 1) := by decide +kernel
theorem dX2_mostOfOthers_35 : decode cX2_mostOfOthers 35 = .ok (.getfield 33, 3) := by decide +kernel
theorem dX2_mostOfOthers_38 : decode cX2_mostOfOthers 38 = .ok (.iload 4, 2) := by decide +kernel
theorem dX2_mostOfOthers_40 : decode cX2_mostOfOthers 40 = .ok (.invokestatic 46, 3) := by decide +kernel
theorem dX2_mostOfOthers_43 : decode cX2_mostOfOthers 43 = .ok (.invokestatic 18, 3) := by decide +kernel
theorem dX2_mostOfOthers_46 : decode cX2_mostOfOthers 46 = .ok (.istore_n 3, 1) := by decide +kernel
theorem dX2_mostOfOthers_47 : decode cX2_mostOfOthers 47 = .ok (.iinc 4 1, 3) := by decide +kernel
theorem dX2_mostOfOthers_50 : decode cX2_mostOfOthers 50 = .ok (.goto (-45), 3) := by decide +kernel
theorem dX2_mostOfOthers_53 : decode cX2_mostOfOthers 53 = .ok (.iload_n 3, 1) := by decide +kernel
theorem dX2_mostOfOthers_54 : decode cX2_mostOfOthers 54 = .ok (.ireturn, 1) := by decide +kernel
theorem dX2_workAll_0 : decode cX2_workAll 0 = .ok (.iconst 0, 1) := by decide +kernel
theorem dX2_workAll_1 : decode cX2_workAll 1 = .ok (.istore_n 2, 1) := by decide +kernel
theorem dX2_workAll_2 : decode cX2_workAll 2 = .ok (.iload_n 2, 1) := by decide +kernel
theorem dX2_workAll_3 : decode cX2_workAll 3 = .ok (.aload_n 0, 1) := by decide +kernel
theorem dX2_workAll_4 : decode cX2_workAll 4 = .ok (.getfield 42, 3) := by decide +kernel
theorem dX2_workAll_7 : decode cX2_workAll 7 = .ok (.if_icmp .ge 18, 3) := by decide +kernel
theorem dX2_workAll_10 : decode cX2_workAll 10 = .ok (.aload_n 0, 1) := by decide +kernel
theorem dX2_workAll_11 : decode cX2_workAll 11 = .ok (.getfield 33, 3) := by decide +kernel
theorem dX2_workAll_14 : decode cX2_workAll 14 = .ok (.iload_n 2, 1) := by decide +kernel
theorem dX2_workAll_15 : decode cX2_workAll 15 = .ok (.iload_n 1, 1) := by decide +kernel
theorem dX2_workAll_16 : decode cX2_workAll 16 = .ok (.invokestatic 50, 3) := by decide +kernel
theorem dX2_workAll_19 : decode cX2_workAll 19 = .ok (.iinc 2 1, 3) := by decide +kernel
theorem dX2_workAll_22 : decode cX2_workAll 22 = .ok (.goto (-20), 3) := by decide +kernel
theorem dX2_workAll_25 : decode cX2_workAll 25 = .ok (.return_, 1) := by decide +kernel
theorem dX2_noteHours_0 : decode cX2_noteHours 0 = .ok (.iconst 0, 1) := by decide +kernel
theorem dX2_noteHours_1 : decode cX2_noteHours 1 = .ok (.istore_n 1, 1) := by decide +kernel
theorem dX2_noteHours_2 : decode cX2_noteHours 2 = .ok (.iload_n 1, 1) := by decide +kernel
theorem dX2_noteHours_3 : decode cX2_noteHours 3 = .ok (.aload_n 0, 1) := by decide +kernel
theorem dX2_noteHours_4 : decode cX2_noteHours 4 = .ok (.getfield 42, 3) := by decide +kernel
theorem dX2_noteHours_7 : decode cX2_noteHours 7 = .ok (.if_icmp .ge 25, 3) := by decide +kernel
theorem dX2_noteHours_10 : decode cX2_noteHours 10 = .ok (.aload_n 0, 1) := by decide +kernel
theorem dX2_noteHours_11 : decode cX2_noteHours 11 = .ok (.getfield 36, 3) := by decide +kernel
theorem dX2_noteHours_14 : decode cX2_noteHours 14 = .ok (.iload_n 1, 1) := by decide +kernel
theorem dX2_noteHours_15 : decode cX2_noteHours 15 = .ok (.aload_n 0, 1) := by decide +kernel
theorem dX2_noteHours_16 : decode cX2_noteHours 16 = .ok (.getfield 33, 3) := by decide +kernel
theorem dX2_noteHours_19 : decode cX2_noteHours 19 = .ok (.iload_n 1, 1) := by decide +kernel
theorem dX2_noteHours_20 : decode cX2_noteHours 20 = .ok (.invokestatic 46, 3) := by decide +kernel
theorem dX2_noteHours_23 : decode cX2_noteHours 23 = .ok (.invokestatic 50, 3) := by decide +kernel
theorem dX2_noteHours_26 : decode cX2_noteHours 26 = .ok (.iinc 1 1, 3) := by decide +kernel
theorem dX2_noteHours_29 : decode cX2_noteHours 29 = .ok (.goto (-27), 3) := by decide +kernel
theorem dX2_noteHours_32 : decode cX2_noteHours 32 = .ok (.return_, 1) := by decide +kernel
theorem dX2_workAsNoted_0 : decode cX2_workAsNoted 0 = .ok (.iconst 0, 1) := by decide +kernel
theorem dX2_workAsNoted_1 : decode cX2_workAsNoted 1 = .ok (.istore_n 1, 1) := by decide +kernel
theorem dX2_workAsNoted_2 : decode cX2_workAsNoted 2 = .ok (.iload_n 1, 1) := by decide +kernel
theorem dX2_workAsNoted_3 : decode cX2_workAsNoted 3 = .ok (.aload_n 0, 1) := by decide +kernel
theorem dX2_workAsNoted_4 : decode cX2_workAsNoted 4 = .ok (.getfield 42, 3) := by decide +kernel
theorem dX2_workAsNoted_7 : decode cX2_workAsNoted 7 = .ok (.if_icmp .ge 30, 3) := by decide +kernel
theorem dX2_workAsNoted_10 : decode cX2_workAsNoted 10 = .ok (.aload_n 0, 1) := by decide +kernel
theorem dX2_workAsNoted_11 : decode cX2_workAsNoted 11 = .ok (.getfield 36, 3) := by decide +kernel
theorem dX2_workAsNoted_14 : decode cX2_workAsNoted 14 = .ok (.iload_n 1, 1) := by decide +kernel
theorem dX2_workAsNoted_15 : decode cX2_workAsNoted 15 = .ok (.invokestatic 46, 3) := by decide +kernel
theorem dX2_workAsNoted_18 : decode cX2_workAsNoted 18 = .ok (.aload_n 0, 1) := by decide +kernel
theorem dX2_workAsNoted_19 : decode cX2_workAsNoted 19 = .ok (.getfield 33, 3) := by decide +kernel
theorem dX2_workAsNoted_22 : decode cX2_workAsNoted 22 = .ok (.iload_n 1, 1) := by decide +kernel
theorem dX2_workAsNoted_23 : decode cX2_workAsNoted 23 = .ok (.invokestatic 46, 3) := by decide +kernel
theorem dX2_workAsNoted_26 : decode cX2_workAsNoted 26 = .ok (.if_icmp .eq 5, 3) := by decide +kernel
theorem dX2_workAsNoted_29 : decode cX2_workAsNoted 29 = .ok (.iconst 0, 1) := by decide +kernel
theorem dX2_workAsNoted_30 : decode cX2_workAsNoted 30 = .ok (.ireturn, 1) := by decide +kernel
theorem dX2_workAsNoted_31 : decode cX2_workAsNoted 31 = .ok (.iinc 1 1, 3) := by decide +kernel
theorem dX2_workAsNoted_34 : decode cX2_workAsNoted 34 = .ok (.goto (-32), 3) := by decide +kernel
theorem dX2_workAsNoted_37 : decode cX2_workAsNoted 37 = .ok (.iconst 1, 1) := by decide +kernel
theorem dX2_workAsNoted_38 : decode cX2_workAsNoted 38 = .ok (.ireturn, 1) := by decide +kernel
theorem dX3_init_0 : decode cX3_init 0 = .ok (.aload_n 0, 1) := by decide +kernel
theorem dX3_init_1 : decode cX3_init 1 = .ok (.invokespecial 3, 3) := by decide +kernel
theorem dX3_init_4 : decode cX3_init 4 = .ok (.aload_n 0, 1) := by decide +kernel
theorem dX3_init_5 : decode cX3_init 5 = .ok (.new 9, 3) := by decide +kernel
theorem dX3_init_8 : decode cX3_init 8 = .ok (.dup, 1) := by decide +kernel
theorem dX3_init_9 : decode cX3_init 9 = .ok (.invokespecial 11, 3) := by decide +kernel
theorem dX3_init_12 : decode cX3_init 12 = .ok (.putfield 12, 3) := by decide +kernel
theorem dX3_init_15 : decode cX3_init 15 = .ok (.aload_n 0, 1) := by decide +kernel
theorem dX3_init_16 : decode cX3_init 16 = .ok (.iconst (-1), 1) := by decide +kernel
theorem dX3_init_17 : decode cX3_init 17 = .ok (.putfield 18, 3) := by decide +kernel
theorem dX3_init_20 : decode cX3_init 20 = .ok (.aload_n 0, 1) := by decide +kernel
theorem dX3_init_21 : decode cX3_init 21 = .ok (.aload_n 1, 1) := by decide +kernel
theorem dX3_init_22 : decode cX3_init 22 = .ok (.invokevirtual 22, 3) := by decide +kernel
theorem dX3_init_25 : decode cX3_init 25 = .ok (.return_, 1) := by decide +kernel
theorem dX3_aimAt_0 : decode cX3_aimAt 0 = .ok (.aload_n 0, 1) := by decide +kernel
theorem dX3_aimAt_1 : decode cX3_aimAt 1 = .ok (.aload_n 1, 1) := by decide +kernel
theorem dX3_aimAt_2 : decode cX3_aimAt 2 = .ok (.getfield 26, 3) := by decide +kernel
theorem dX3_aimAt_5 : decode cX3_aimAt 5 = .ok (.putfield 32, 3) := by decide +kernel
theorem dX3_aimAt_8 : decode cX3_aimAt 8 = .ok (.aload_n 0, 1) := by decide +kernel
theorem dX3_aimAt_9 : decode cX3_aimAt 9 = .ok (.aload_n 0, 1) := by decide +kernel
theorem dX3_aimAt_10 : decode cX3_aimAt 10 = .ok (.getfield 32, 3) := by decide +kernel
theorem dX3_aimAt_13 : decode cX3_aimAt 13 = .ok (.getfield 33, 3) := by decide +kernel
theorem dX3_aimAt_16 : decode cX3_aimAt 16 = .ok (.putfield 39, 3) := by decide +kernel
theorem dX3_aimAt_19 : decode cX3_aimAt 19 = .ok (.aload_n 0, 1) := by decide +kernel
theorem dX3_aimAt_20 : decode cX3_aimAt 20 = .ok (.aload_n 0, 1) := by decide +kernel
theorem dX3_aimAt_21 : decode cX3_aimAt 21 = .ok (.getfield 32, 3) := by decide +kernel
theorem dX3_aimAt_24 : decode cX3_aimAt 24 = .ok (.getfield 40, 3) := by decide +kernel
theorem dX3_aimAt_27 : decode cX3_aimAt 27 = .ok (.putfield 44, 3) := by decide +kernel
theorem dX3_aimAt_30 : decode cX3_aimAt 30 = .ok (.aload_n 0, 1) := by decide +kernel
theorem dX3_aimAt_31 : decode cX3_aimAt 31 = .ok (.aload_n 0, 1) := by decide +kernel
theorem dX3_aimAt_32 : decode cX3_aimAt 32 = .ok (.getfield 32, 3) := by decide +kernel
theorem dX3_aimAt_35 : decode cX3_aimAt 35 = .ok (.getfield 45, 3) := by decide +kernel
theorem dX3_aimAt_38 : decode cX3_aimAt 38 = .ok (.putfield 49, 3) := by decide +kernel
theorem dX3_aimAt_41 : decode cX3_aimAt 41 = .ok (.aload_n 0, 1) := by decide +kernel
theorem dX3_aimAt_42 : decode cX3_aimAt 42 = .ok (.aload_n 1, 1) := by decide +kernel
theorem dX3_aimAt_43 : decode cX3_aimAt 43 = .ok (.getfield 50, 3) := by decide +kernel
theorem dX3_aimAt_46 : decode cX3_aimAt 46 = .ok (.putfield 54, 3) := by decide +kernel
theorem dX3_aimAt_49 : decode cX3_aimAt 49 = .ok (.return_, 1) := by decide +kernel
theorem dX3_begin_0 : decode cX3_begin 0 = .ok (.aload_n 0, 1) := by decide +kernel
theorem dX3_begin_1 : decode cX3_begin 1 = .ok (.aload_n 3, 1) := by decide +kernel
theorem dX3_begin_2 : decode cX3_begin 2 = .ok (.invokevirtual 22, 3) := by decide +kernel
theorem dX3_begin_5 : decode cX3_begin 5 = .ok (.aload_n 0, 1) := by decide +kernel
theorem dX3_begin_6 : decode cX3_begin 6 = .ok (.getfield 32, 3) := by decide +kernel
theorem dX3_begin_9 : decode cX3_begin 9 = .ok (.invokevirtual 55, 3) := by decide +kernel
theorem dX3_begin_12 : decode cX3_begin 12 = .ok (.aload_n 0, 1) := by decide +kernel
theorem dX3_begin_13 : decode cX3_begin 13 = .ok (.getfield 54, 3) := by decide +kernel
theorem dX3_begin_16 : decode cX3_begin 16 = .ok (.invokevirtual 58, 3) := by decide +kernel
theorem dX3_begin_19 : decode cX3_begin 19 = .ok (.aload_n 0, 1) := by decide +kernel
theorem dX3_begin_20 : decode cX3_begin 20 = .ok (.getfield 12, 3) := by decide +kernel
theorem dX3_begin_23 : decode cX3_begin 23 = .ok (.aload_n 1, 1) := by decide +kernel
theorem dX3_begin_24 : decode cX3_begin 24 = .ok (.iload_n 2, 1) := by decide +kernel
theorem dX3_begin_25 : decode cX3_begin 25 = .ok (.invokevirtual 61, 3) := by decide +kernel
theorem dX3_begin_28 : decode cX3_begin 28 = .ok (.aload_n 0, 1) := by decide +kernel
theorem dX3_begin_29 : decode cX3_begin 29 = .ok (.iconst 0, 1) := by decide +kernel
theorem dX3_begin_30 : decode cX3_begin 30 = .ok (.putfield 65, 3) := by decide +kernel
theorem dX3_begin_33 : decode cX3_begin 33 = .ok (.aload_n 0, 1) := by decide +kernel
theorem dX3_begin_34 : decode cX3_begin 34 = .ok (.iconst 0, 1) := by decide +kernel
theorem dX3_begin_35 : decode cX3_begin 35 = .ok (.putfield 68, 3) := by decide +kernel
theorem dX3_begin_38 : decode cX3_begin 38 = .ok (.aload_n 0, 1) := by decide +kernel
theorem dX3_begin_39 : decode cX3_begin 39 = .ok (.iconst 0, 1) := by decide +kernel
theorem dX3_begin_40 : decode cX3_begin 40 = .ok (.putfield 71, 3) := by decide +kernel
theorem dX3_begin_43 : decode cX3_begin 43 = .ok (.aload_n 0, 1) := by decide +kernel
theorem dX3_begin_44 : decode cX3_begin 44 = .ok (.iconst (-1), 1) := by decide +kernel
theorem dX3_begin_45 : decode cX3_begin 45 = .ok (.putfield 18, 3) := by decide +kernel
theorem dX3_begin_48 : decode cX3_begin 48 = .ok (.return_, 1) := by decide +kernel
theorem dX3_isGood_0 : decode cX3_isGood 0 = .ok (.aload_n 0, 1) := by decide +kernel
theorem dX3_isGood_1 : decode cX3_isGood 1 = .ok (.getfield 71, 3) := by decide +kernel
theorem dX3_isGood_4 : decode cX3_isGood 4 = .ok (.ifCond .ne 7, 3) := by decide +kernel
theorem dX3_isGood_7 : decode cX3_isGood 7 = .ok (.iconst 1, 1) := by decide +kernel
theorem dX3_isGood_8 : decode cX3_isGood 8 = .ok (.goto 4, 3) := by decide +kernel
theorem dX3_isGood_11 : decode cX3_isGood 11 = .ok (.iconst 0, 1) := by decide +kernel
theorem dX3_isGood_12 : decode cX3_isGood 12 = .ok (.ireturn, 1) := by decide +kernel
theorem dX3_hasMore_0 : decode cX3_hasMore 0 = .ok (.aload_n 0, 1) := by decide +kernel
theorem dX3_hasMore_1 : decode cX3_hasMore 1 = .ok (.invokevirtual 74, 3) := by decide +kernel
theorem dX3_hasMore_4 : decode cX3_hasMore 4 = .ok (.bipush 43, 2) := by decide +kernel
theorem dX3_hasMore_6 : decode cX3_hasMore 6 = .ok (.if_icmp .eq 7, 3) := by decide +kernel
theorem dX3_hasMore_9 : decode cX3_hasMore 9 = .ok (.iconst 1, 1) := by decide +kernel
theorem dX3_hasMore_10 : decode cX3_hasMore 10 = .ok (.goto 4, 3) := by decide +kernel
theorem dX3_hasMore_13 : decode cX3_hasMore 13 = .ok (.iconst 0, 1) := by decide +kernel
theorem dX3_hasMore_14 : decode cX3_hasMore 14 = .ok (.ireturn, 1) := by decide +kernel
theorem dX3_ahead_0 : decode cX3_ahead 0 = .ok (.aload_n 0, 1) := by decide +kernel
theorem dX3_ahead_1 : decode cX3_ahead 1 = .ok (.getfield 71, 3) := by decide +kernel
theorem dX3_ahead_4 : decode cX3_ahead 4 = .ok (.ifCond .ne 20, 3) := by decide +kernel
theorem dX3_ahead_7 : decode cX3_ahead 7 = .ok (.aload_n 0, 1) := by decide +kernel
theorem dX3_ahead_8 : decode cX3_ahead 8 = .ok (.getfield 12, 3) := by decide +kernel
theorem dX3_ahead_11 : decode cX3_ahead 11 = .ok (.getfield 78, 3) := by decide +kernel
theorem dX3_ahead_14 : decode cX3_ahead 14 = .ok (.aload_n 0, 1) := by decide +kernel
theorem dX3_ahead_15 : decode cX3_ahead 15 = .ok (.getfield 65, 3) := by decide +kernel
theorem dX3_ahead_18 : decode cX3_ahead 18 = .ok (.invokestatic 82, 3) := by decide +kernel
theorem dX3_ahead_21 : decode cX3_ahead 21 = .ok (.goto 5, 3) := by decide +kernel
theorem dX3_ahead_24 : decode cX3_ahead 24 = .ok (.bipush 43, 2) := by decide +kernel
theorem dX3_ahead_26 : decode cX3_ahead 26 = .ok (.ireturn, 1) := by decide +kernel
theorem dX3_fail_0 : decode cX3_fail 0 = .ok (.aload_n 0, 1) := by decide +kernel
theorem dX3_fail_1 : decode cX3_fail 1 = .ok (.getfield 71, 3) := by decide +kernel
theorem dX3_fail_4 : decode cX3_fail 4 = .ok (.ifCond .ne 28, 3) := by decide +kernel
theorem dX3_fail_7 : decode cX3_fail 7 = .ok (.aload_n 0, 1) := by decide +kernel
theorem dX3_fail_8 : decode cX3_fail 8 = .ok (.iload_n 1, 1) := by decide +kernel
theorem dX3_fail_9 : decode cX3_fail 9 = .ok (.putfield 71, 3) := by decide +kernel
theorem dX3_fail_12 : decode cX3_fail 12 = .ok (.aload_n 0, 1) := by decide +kernel
theorem dX3_fail_13 : decode cX3_fail 13 = .ok (.aload_n 0, 1) := by decide +kernel
theorem dX3_fail_14 : decode cX3_fail 14 = .ok (.getfield 12, 3) := by decide +kernel
theorem dX3_fail_17 : decode cX3_fail 17 = .ok (.getfield 86, 3) := by decide +kernel
theorem dX3_fail_20 : decode cX3_fail 20 = .ok (.aload_n 0, 1) := by decide +kernel
theorem dX3_fail_21 : decode cX3_fail 21 = .ok (.getfield 65, 3) := by decide +kernel
theorem dX3_fail_24 : decode cX3_fail 24 = .ok (.invokestatic 82, 3) := by decide +kernel
theorem dX3_fail_27 : decode cX3_fail 27 = .ok (.iload_n 2, 1) := by decide +kernel
theorem dX3_fail_28 : decode cX3_fail 28 = .ok (.iadd, 1) := by decide +kernel
theorem dX3_fail_29 : decode cX3_fail 29 = .ok (.putfield 18, 3) := by decide +kernel
theorem dX3_fail_32 : decode cX3_fail 32 = .ok (.return_, 1) := by decide +kernel
theorem dX3_takes_0 : decode cX3_takes 0 = .ok (.aload_n 0, 1) := by decide +kernel
theorem dX3_takes_1 : decode cX3_takes 1 = .ok (.invokevirtual 74, 3) := by decide +kernel
theorem dX3_takes_4 : decode cX3_takes 4 = .ok (.iload_n 1, 1) := by decide +kernel
theorem dX3_takes_5 : decode cX3_takes 5 = .ok (.if_icmp .eq 5, 3) := by decide +kernel
theorem dX3_takes_8 : decode cX3_takes 8 = .ok (.iconst 0, 1) := by decide +kernel
theorem dX3_takes_9 : decode cX3_takes 9 = .ok (.ireturn, 1) := by decide +kernel
theorem dX3_takes_10 : decode cX3_takes 10 = .ok (.aload_n 0, 1) := by decide +kernel
theorem dX3_takes_11 : decode cX3_takes 11 = .ok (.dup, 1) := by decide +kernel
theorem dX3_takes_12 : decode cX3_takes 12 = .ok (.getfield 65, 3) := by decide +kernel
theorem dX3_takes_15 : decode cX3_takes 15 = .ok (.iconst 1, 1) := by decide +kernel
theorem dX3_takes_16 : decode cX3_takes 16 = .ok (.iadd, 1) := by decide +kernel
theorem dX3_takes_17 : decode cX3_takes 17 = .ok (.putfield 65, 3) := by decide +kernel
theorem dX3_takes_20 : decode cX3_takes 20 = .ok (.iconst 1, 1) := by decide +kernel
theorem dX3_takes_21 : decode cX3_takes 21 = .ok (.ireturn, 1) := by decide +kernel
theorem dX3_need_0 : decode cX3_need 0 = .ok (.aload_n 0, 1) := by decide +kernel
theorem dX3_need_1 : decode cX3_need 1 = .ok (.invokevirtual 74, 3) := by decide +kernel
theorem dX3_need_4 : decode cX3_need 4 = .ok (.iload_n 1, 1) := by decide +kernel
theorem dX3_need_5 : decode cX3_need 5 = .ok (.if_icmp .ne 16, 3) := by decide +kernel
theorem dX3_need_8 : decode cX3_need 8 = .ok (.aload_n 0, 1) := by decide +kernel
theorem dX3_need_9 : decode cX3_need 9 = .ok (.dup, 1) := by decide +kernel
theorem dX3_need_10 : decode cX3_need 10 = .ok (.getfield 65, 3) := by decide +kernel
theorem dX3_need_13 : decode cX3_need 13 = .ok (.iconst 1, 1) := by decide +kernel
theorem dX3_need_14 : decode cX3_need 14 = .ok (.iadd, 1) := by decide +kernel
theorem dX3_need_15 : decode cX3_need 15 = .ok (.putfield 65, 3) := by decide +kernel
theorem dX3_need_18 : decode cX3_need 18 = .ok (.goto 9, 3) := by decide +kernel
theorem dX3_need_21 : decode cX3_need 21 = .ok (.aload_n 0, 1) := by decide +kernel
theorem dX3_need_22 : decode cX3_need 22 = .ok (.iconst 1, 1) := by decide +kernel
theorem dX3_need_23 : decode cX3_need 23 = .ok (.iconst 0, 1) := by decide +kernel
theorem dX3_need_24 : decode cX3_need 24 = .ok (.invokevirtual 89, 3) := by decide +kernel
theorem dX3_need_27 : decode cX3_need 27 = .ok (.return_, 1) := by decide +kernel
theorem dX3_readNumber_0 : decode cX3_readNumber 0 = .ok (.aload_n 0, 1) := by decide +kernel
theorem dX3_readNumber_1 : decode cX3_readNumber 1 = .ok (.getfield 12, 3) := by decide +kernel
theorem dX3_readNumber_4 : decode cX3_readNumber 4 = .ok (.getfield 93, 3) := by decide +kernel
theorem dX3_readNumber_7 : decode cX3_readNumber 7 = .ok (.aload_n 0, 1) := by decide +kernel
theorem dX3_readNumber_8 : decode cX3_readNumber 8 = .ok (.getfield 65, 3) := by decide +kernel
theorem dX3_readNumber_11 : decode cX3_readNumber 11 = .ok (.invokestatic 82, 3) := by decide +kernel
theorem dX3_readNumber_14 : decode cX3_readNumber 14 = .ok (.istore_n 3, 1) := by decide +kernel
theorem dX3_readNumber_15 : decode cX3_readNumber 15 = .ok (.aload_n 0, 1) := by decide +kernel
theorem dX3_readNumber_16 : decode cX3_readNumber 16 = .ok (.invokevirtual 74, 3) := by decide +kernel
theorem dX3_readNumber_19 : decode cX3_readNumber 19 = .ok (.bipush 41, 2) := by decide +kernel
theorem dX3_readNumber_21 : decode cX3_readNumber 21 = .ok (.if_icmp .eq 12, 3) := by decide +kernel
theorem dX3_readNumber_24 : decode cX3_readNumber 24 = .ok (.aload_n 0, 1) := by decide +kernel
theorem dX3_readNumber_25 : decode cX3_readNumber 25 = .ok (.iconst 1, 1) := by decide +kernel
theorem dX3_readNumber_26 : decode cX3_readNumber 26 = .ok (.iconst 0, 1) := by decide +kernel
theorem dX3_readNumber_27 : decode cX3_readNumber 27 = .ok (.invokevirtual 89, 3) := by decide +kernel
theorem dX3_readNumber_30 : decode cX3_readNumber 30 = .ok (.goto 46, 3) := by decide +kernel
theorem dX3_readNumber_33 : decode cX3_readNumber 33 = .ok (.aload_n 0, 1) := by decide +kernel
theorem dX3_readNumber_34 : decode cX3_readNumber 34 = .ok (.getfield 12, 3) := by decide +kernel
theorem dX3_readNumber_37 : decode cX3_readNumber 37 = .ok (.getfield 96, 3) := by decide +kernel
theorem dX3_readNumber_40 : decode cX3_readNumber 40 = .ok (.aload_n 0, 1) := by decide +kernel
theorem dX3_readNumber_41 : decode cX3_readNumber 41 = .ok (.getfield 65, 3) := by decide +kernel
theorem dX3_readNumber_44 : decode cX3_readNumber 44 = .ok (.invokestatic 82, 3) := by decide +kernel
theorem dX3_readNumber_47 : decode cX3_readNumber 47 = .ok (.iconst 4, 1) := by decide +kernel
theorem dX3_readNumber_48 : decode cX3_readNumber 48 = .ok (.if_icmp .le 12, 3) := by decide +kernel
theorem dX3_readNumber_51 : decode cX3_readNumber 51 = .ok (.aload_n 0, 1) := by decide +kernel
theorem dX3_readNumber_52 : decode cX3_readNumber 52 = .ok (.iconst 1, 1) := by decide +kernel
theorem dX3_readNumber_53 : decode cX3_readNumber 53 = .ok (.iconst 4, 1) := by decide +kernel
theorem dX3_readNumber_54 : decode cX3_readNumber 54 = .ok (.invokevirtual 89, 3) := by decide +kernel
theorem dX3_readNumber_57 : decode cX3_readNumber 57 = .ok (.goto 19, 3) := by decide +kernel
theorem dX3_readNumber_60 : decode cX3_readNumber 60 = .ok (.iload_n 3, 1) := by decide +kernel
theorem dX3_readNumber_61 : decode cX3_readNumber 61 = .ok (.iload_n 1, 1) := by decide +kernel
theorem dX3_readNumber_62 : decode cX3_readNumber 62 = .ok (.if_icmp .lt 8, 3) := by decide +kernel
theorem dX3_readNumber_65 : decode cX3_readNumber 65 = .ok (.iload_n 3, 1) := by decide +kernel
theorem dX3_readNumber_66 : decode cX3_readNumber 66 = .ok (.iload_n 2, 1) := by decide +kernel
theorem dX3_readNumber_67 : decode cX3_readNumber 67 = .ok (.if_icmp .le 9, 3) := by decide +kernel
theorem dX3_readNumber_70 : decode cX3_readNumber 70 = .ok (.aload_n 0, 1) := by decide +kernel
theorem dX3_readNumber_71 : decode cX3_readNumber 71 = .ok (.iconst 2, 1) := by decide +kernel
theorem dX3_readNumber_72 : decode cX3_readNumber 72 = .ok (.iconst 0, 1) := by decide +kernel
theorem dX3_readNumber_73 : decode cX3_readNumber 73 = .ok (.invokevirtual 89, 3) := by decide +kernel
theorem dX3_readNumber_76 : decode cX3_readNumber 76 = .ok (.aload_n 0, 1) := by decide +kernel
theorem dX3_readNumber_77 : decode cX3_readNumber 77 = .ok (.dup, 1) := by decide +kernel
theorem dX3_readNumber_78 : decode cX3_readNumber 78 = .ok (.getfield 65, 3) := by decide +kernel
theorem dX3_readNumber_81 : decode cX3_readNumber 81 = .ok (.iconst 1, 1) := by decide +kernel
theorem dX3_readNumber_82 : decode cX3_readNumber 82 = .ok (.iadd, 1) := by decide +kernel
theorem dX3_readNumber_83 : decode cX3_readNumber 83 = .ok (.putfield 65, 3) := by decide +kernel
theorem dX3_readNumber_86 : decode cX3_readNumber 86 = .ok (.iload_n 3, 1) := by decide +kernel
theorem dX3_readNumber_87 : decode cX3_readNumber 87 = .ok (.ireturn, 1) := by decide +kernel
theorem dX3_numberAfter_0 : decode cX3_numberAfter 0 = .ok (.aload_n 0, 1) := by decide +kernel
theorem dX3_numberAfter_1 : decode cX3_numberAfter 1 = .ok (.iload_n 1, 1) := by decide +kernel
theorem dX3_numberAfter_2 : decode cX3_numberAfter 2 = .ok (.invokevirtual 99, 3) := by decide +kernel
theorem dX3_numberAfter_5 : decode cX3_numberAfter 5 = .ok (.aload_n 0, 1) := by decide +kernel
theorem dX3_numberAfter_6 : decode cX3_numberAfter 6 = .ok (.iload_n 2, 1) := by decide +kernel
theorem dX3_numberAfter_7 : decode cX3_numberAfter 7 = .ok (.iload_n 3, 1) := by decide +kernel
theorem dX3_numberAfter_8 : decode cX3_numberAfter 8 = .ok (.invokevirtual 103, 3) := by decide +kernel
theorem dX3_numberAfter_11 : decode cX3_numberAfter 11 = .ok (.ireturn, 1) := by decide +kernel
theorem dX3_isNameNext_0 : decode cX3_isNameNext 0 = .ok (.aload_n 0, 1) := by decide +kernel
theorem dX3_isNameNext_1 : decode cX3_isNameNext 1 = .ok (.invokevirtual 74, 3) := by decide +kernel
theorem dX3_isNameNext_4 : decode cX3_isNameNext 4 = .ok (.bipush 40, 2) := by decide +kernel
theorem dX3_isNameNext_6 : decode cX3_isNameNext 6 = .ok (.if_icmp .eq 12, 3) := by decide +kernel
theorem dX3_isNameNext_9 : decode cX3_isNameNext 9 = .ok (.aload_n 0, 1) := by decide +kernel
theorem dX3_isNameNext_10 : decode cX3_isNameNext 10 = .ok (.iconst 1, 1) := by decide +kernel
theorem dX3_isNameNext_11 : decode cX3_isNameNext 11 = .ok (.iconst 0, 1) := by decide +kernel
theorem dX3_isNameNext_12 : decode cX3_isNameNext 12 = .ok (.invokevirtual 89, 3) := by decide +kernel
theorem dX3_isNameNext_15 : decode cX3_isNameNext 15 = .ok (.goto 29, 3) := by decide +kernel
theorem dX3_isNameNext_18 : decode cX3_isNameNext 18 = .ok (.aload_n 0, 1) := by decide +kernel
theorem dX3_isNameNext_19 : decode cX3_isNameNext 19 = .ok (.getfield 12, 3) := by decide +kernel
theorem dX3_isNameNext_22 : decode cX3_isNameNext 22 = .ok (.getfield 96, 3) := by decide +kernel
theorem dX3_isNameNext_25 : decode cX3_isNameNext 25 = .ok (.aload_n 0, 1) := by decide +kernel
theorem dX3_isNameNext_26 : decode cX3_isNameNext 26 = .ok (.getfield 65, 3) := by decide +kernel
theorem dX3_isNameNext_29 : decode cX3_isNameNext 29 = .ok (.invokestatic 82, 3) := by decide +kernel
theorem dX3_isNameNext_32 : decode cX3_isNameNext 32 = .ok (.bipush 6, 2) := by decide +kernel
theorem dX3_isNameNext_34 : decode cX3_isNameNext 34 = .ok (.if_icmp .le 10, 3) := by decide +kernel
theorem dX3_isNameNext_37 : decode cX3_isNameNext 37 = .ok (.aload_n 0, 1) := by decide +kernel
theorem dX3_isNameNext_38 : decode cX3_isNameNext 38 = .ok (.iconst 1, 1) := by decide +kernel
theorem dX3_isNameNext_39 : decode cX3_isNameNext 39 = .ok (.bipush 6, 2) := by decide +kernel
theorem dX3_isNameNext_41 : decode cX3_isNameNext 41 = .ok (.invokevirtual 89, 3) := by decide +kernel
theorem dX3_isNameNext_44 : decode cX3_isNameNext 44 = .ok (.aload_n 0, 1) := by decide +kernel
theorem dX3_isNameNext_45 : decode cX3_isNameNext 45 = .ok (.invokevirtual 107, 3) := by decide +kernel
theorem dX3_isNameNext_48 : decode cX3_isNameNext 48 = .ok (.ireturn, 1) := by decide +kernel
theorem dX3_readNewName_0 : decode cX3_readNewName 0 = .ok (.aload_n 0, 1) := by decide +kernel
theorem dX3_readNewName_1 : decode cX3_readNewName 1 = .ok (.getfield 12, 3) := by decide +kernel
theorem dX3_readNewName_4 : decode cX3_readNewName 4 = .ok (.getfield 93, 3) := by decide +kernel
theorem dX3_readNewName_7 : decode cX3_readNewName 7 = .ok (.aload_n 0, 1) := by decide +kernel
theorem dX3_readNewName_8 : decode cX3_readNewName 8 = .ok (.getfield 65, 3) := by decide +kernel
theorem dX3_readNewName_11 : decode cX3_readNewName 11 = .ok (.invokestatic 82, 3) := by decide +kernel
theorem dX3_readNewName_14 : decode cX3_readNewName 14 = .ok (.istore_n 1, 1) := by decide +kernel
theorem dX3_readNewName_15 : decode cX3_readNewName 15 = .ok (.aload_n 0, 1) := by decide +kernel
theorem dX3_readNewName_16 : decode cX3_readNewName 16 = .ok (.invokevirtual 111, 3) := by decide +kernel
theorem dX3_readNewName_19 : decode cX3_readNewName 19 = .ok (.ifCond .eq 17, 3) := by decide +kernel
theorem dX3_readNewName_22 : decode cX3_readNewName 22 = .ok (.aload_n 0, 1) := by decide +kernel
theorem dX3_readNewName_23 : decode cX3_readNewName 23 = .ok (.iload_n 1, 1) := by decide +kernel
theorem dX3_readNewName_24 : decode cX3_readNewName 24 = .ok (.invokevirtual 114, 3) := by decide +kernel
theorem dX3_readNewName_27 : decode cX3_readNewName 27 = .ok (.ifCond .eq 9, 3) := by decide +kernel
theorem dX3_readNewName_30 : decode cX3_readNewName 30 = .ok (.aload_n 0, 1) := by decide +kernel
theorem dX3_readNewName_31 : decode cX3_readNewName 31 = .ok (.iconst 3, 1) := by decide +kernel
theorem dX3_readNewName_32 : decode cX3_readNewName 32 = .ok (.iconst 0, 1) := by decide +kernel
theorem dX3_readNewName_33 : decode cX3_readNewName 33 = .ok (.invokevirtual 89, 3) := by decide +kernel
theorem dX3_readNewName_36 : decode cX3_readNewName 36 = .ok (.aload_n 0, 1) := by decide +kernel
theorem dX3_readNewName_37 : decode cX3_readNewName 37 = .ok (.dup, 1) := by decide +kernel
theorem dX3_readNewName_38 : decode cX3_readNewName 38 = .ok (.getfield 65, 3) := by decide +kernel
theorem dX3_readNewName_41 : decode cX3_readNewName 41 = .ok (.iconst 1, 1) := by decide +kernel
theorem dX3_readNewName_42 : decode cX3_readNewName 42 = .ok (.iadd, 1) := by decide +kernel
theorem dX3_readNewName_43 : decode cX3_readNewName 43 = .ok (.putfield 65, 3) := by decide +kernel
theorem dX3_readNewName_46 : decode cX3_readNewName 46 = .ok (.iload_n 1, 1) := by decide +kernel
theorem dX3_readNewName_47 : decode cX3_readNewName 47 = .ok (.ireturn, 1) := by decide +kernel
theorem dX3_isGiven_0 : decode cX3_isGiven 0 = .ok (.aload_n 0, 1) := by decide +kernel
theorem dX3_isGiven_1 : decode cX3_isGiven 1 = .ok (.getfield 39, 3) := by decide +kernel
theorem dX3_isGiven_4 : decode cX3_isGiven 4 = .ok (.getfield 118, 3) := by decide +kernel
theorem dX3_isGiven_7 : decode cX3_isGiven 7 = .ok (.aload_n 0, 1) := by decide +kernel
theorem dX3_isGiven_8 : decode cX3_isGiven 8 = .ok (.getfield 39, 3) := by decide +kernel
theorem dX3_isGiven_11 : decode cX3_isGiven 11 = .ok (.getfield 123, 3) := by decide +kernel
theorem dX3_isGiven_14 : decode cX3_isGiven 14 = .ok (.iload_n 1, 1) := by decide +kernel
theorem dX3_isGiven_15 : decode cX3_isGiven 15 = .ok (.invokestatic 126, 3) := by decide +kernel
theorem dX3_isGiven_18 : decode cX3_isGiven 18 = .ok (.iconst (-1), 1) := by decide +kernel
theorem dX3_isGiven_19 : decode cX3_isGiven 19 = .ok (.if_icmp .ne 47, 3) := by decide +kernel
theorem dX3_isGiven_22 : decode cX3_isGiven 22 = .ok (.aload_n 0, 1) := by decide +kernel
theorem dX3_isGiven_23 : decode cX3_isGiven 23 = .ok (.getfield 44, 3) := by decide +kernel
theorem dX3_isGiven_26 : decode cX3_isGiven 26 = .ok (.getfield 130, 3) := by decide +kernel
theorem dX3_isGiven_29 : decode cX3_isGiven 29 = .ok (.aload_n 0, 1) := by decide +kernel
theorem dX3_isGiven_30 : decode cX3_isGiven 30 = .ok (.getfield 44, 3) := by decide +kernel
theorem dX3_isGiven_33 : decode cX3_isGiven 33 = .ok (.getfield 133, 3) := by decide +kernel
theorem dX3_isGiven_36 : decode cX3_isGiven 36 = .ok (.iload_n 1, 1) := by decide +kernel
theorem dX3_isGiven_37 : decode cX3_isGiven 37 = .ok (.invokestatic 126, 3) := by decide +kernel
theorem dX3_isGiven_40 : decode cX3_isGiven 40 = .ok (.iconst (-1), 1) := by decide +kernel
theorem dX3_isGiven_41 : decode cX3_isGiven 41 = .ok (.if_icmp .ne 25, 3) := by decide +kernel
theorem dX3_isGiven_44 : decode cX3_isGiven 44 = .ok (.aload_n 0, 1) := by decide +kernel
theorem dX3_isGiven_45 : decode cX3_isGiven 45 = .ok (.getfield 49, 3) := by decide +kernel
theorem dX3_isGiven_48 : decode cX3_isGiven 48 = .ok (.getfield 134, 3) := by decide +kernel
theorem dX3_isGiven_51 : decode cX3_isGiven 51 = .ok (.aload_n 0, 1) := by decide +kernel
theorem dX3_isGiven_52 : decode cX3_isGiven 52 = .ok (.getfield 49, 3) := by decide +kernel
theorem dX3_isGiven_55 : decode cX3_isGiven 55 = .ok (.getfield 137, 3) := by decide +kernel
theorem dX3_isGiven_58 : decode cX3_isGiven 58 = .ok (.iload_n 1, 1) := by decide +kernel
theorem dX3_isGiven_59 : decode cX3_isGiven 59 = .ok (.invokestatic 126, 3) := by decide +kernel
theorem dX3_isGiven_62 : decode cX3_isGiven 62 = .ok (.iconst (-1), 1) := by decide +kernel
theorem dX3_isGiven_63 : decode cX3_isGiven 63 = .ok (.if_icmp .eq 7, 3) := by decide +kernel
theorem dX3_isGiven_66 : decode cX3_isGiven 66 = .ok (.iconst 1, 1) := by decide +kernel
theorem dX3_isGiven_67 : decode cX3_isGiven 67 = .ok (.goto 4, 3) := by decide +kernel
theorem dX3_isGiven_70 : decode cX3_isGiven 70 = .ok (.iconst 0, 1) := by decide +kernel
theorem dX3_isGiven_71 : decode cX3_isGiven 71 = .ok (.ireturn, 1) := by decide +kernel
theorem dX3_readKnown_0 : decode cX3_readKnown 0 = .ok (.aload_n 1, 1) := by decide +kernel
theorem dX3_readKnown_1 : decode cX3_readKnown 1 = .ok (.iload_n 2, 1) := by decide +kernel
theorem dX3_readKnown_2 : decode cX3_readKnown 2 = .ok (.aload_n 0, 1) := by decide +kernel
theorem dX3_readKnown_3 : decode cX3_readKnown 3 = .ok (.getfield 12, 3) := by decide +kernel
theorem dX3_readKnown_6 : decode cX3_readKnown 6 = .ok (.getfield 93, 3) := by decide +kernel
theorem dX3_readKnown_9 : decode cX3_readKnown 9 = .ok (.aload_n 0, 1) := by decide +kernel
theorem dX3_readKnown_10 : decode cX3_readKnown 10 = .ok (.getfield 65, 3) := by decide +kernel
theorem dX3_readKnown_13 : decode cX3_readKnown 13 = .ok (.invokestatic 82, 3) := by decide +kernel
theorem dX3_readKnown_16 : decode cX3_readKnown 16 = .ok (.invokestatic 126, 3) := by decide +kernel
theorem dX3_readKnown_19 : decode cX3_readKnown 19 = .ok (.istore_n 3, 1) := by decide +kernel
theorem dX3_readKnown_20 : decode cX3_readKnown 20 = .ok (.aload_n 0, 1) := by decide +kernel
theorem dX3_readKnown_21 : decode cX3_readKnown 21 = .ok (.invokevirtual 111, 3) := by decide +kernel
theorem dX3_readKnown_24 : decode cX3_readKnown 24 = .ok (.ifCond .eq 14, 3) := by decide +kernel
theorem dX3_readKnown_27 : decode cX3_readKnown 27 = .ok (.iload_n 3, 1) := by decide +kernel
theorem dX3_readKnown_28 : decode cX3_readKnown 28 = .ok (.iconst (-1), 1) := by decide +kernel
theorem dX3_readKnown_29 : decode cX3_readKnown 29 = .ok (.if_icmp .ne 9, 3) := by decide +kernel
theorem dX3_readKnown_32 : decode cX3_readKnown 32 = .ok (.aload_n 0, 1) := by decide +kernel
theorem dX3_readKnown_33 : decode cX3_readKnown 33 = .ok (.iconst 3, 1) := by decide +kernel
theorem dX3_readKnown_34 : decode cX3_readKnown 34 = .ok (.iconst 0, 1) := by decide +kernel
theorem dX3_readKnown_35 : decode cX3_readKnown 35 = .ok (.invokevirtual 89, 3) := by decide +kernel
theorem dX3_readKnown_38 : decode cX3_readKnown 38 = .ok (.aload_n 0, 1) := by decide +kernel
theorem dX3_readKnown_39 : decode cX3_readKnown 39 = .ok (.dup, 1) := by decide +kernel
theorem dX3_readKnown_40 : decode cX3_readKnown 40 = .ok (.getfield 65, 3) := by decide +kernel
theorem dX3_readKnown_43 : decode cX3_readKnown 43 = .ok (.iconst 1, 1) := by decide +kernel
theorem dX3_readKnown_44 : decode cX3_readKnown 44 = .ok (.iadd, 1) := by decide +kernel
theorem dX3_readKnown_45 : decode cX3_readKnown 45 = .ok (.putfield 65, 3) := by decide +kernel
theorem dX3_readKnown_48 : decode cX3_readKnown 48 = .ok (.iload_n 3, 1) := by decide +kernel
theorem dX3_readKnown_49 : decode cX3_readKnown 49 = .ok (.ireturn, 1) := by decide +kernel
theorem dX3_readUnpaired_0 : decode cX3_readUnpaired 0 = .ok (.aload_n 0, 1) := by decide +kernel
theorem dX3_readUnpaired_1 : decode cX3_readUnpaired 1 = .ok (.getfield 49, 3) := by decide +kernel
theorem dX3_readUnpaired_4 : decode cX3_readUnpaired 4 = .ok (.getfield 134, 3) := by decide +kernel
theorem dX3_readUnpaired_7 : decode cX3_readUnpaired 7 = .ok (.aload_n 0, 1) := by decide +kernel
theorem dX3_readUnpaired_8 : decode cX3_readUnpaired 8 = .ok (.getfield 49, 3) := by decide +kernel
theorem dX3_readUnpaired_11 : decode cX3_readUnpaired 11 = .ok (.getfield 137, 3) := by decide +kernel
theorem dX3_readUnpaired_14 : decode cX3_readUnpaired 14 = .ok (.aload_n 0, 1) := by decide +kernel
theorem dX3_readUnpaired_15 : decode cX3_readUnpaired 15 = .ok (.getfield 12, 3) := by decide +kernel
theorem dX3_readUnpaired_18 : decode cX3_readUnpaired 18 = .ok (.getfield 93, 3) := by decide +kernel
theorem dX3_readUnpaired_21 : decode cX3_readUnpaired 21 = .ok (.aload_n 0, 1) := by decide +kernel
theorem dX3_readUnpaired_22 : decode cX3_readUnpaired 22 = .ok (.getfield 65, 3) := by decide +kernel
theorem dX3_readUnpaired_25 : decode cX3_readUnpaired 25 = .ok (.invokestatic 82, 3) := by decide +kernel
theorem dX3_readUnpaired_28 : decode cX3_readUnpaired 28 = .ok (.invokestatic 126, 3) := by decide +kernel
theorem dX3_readUnpaired_31 : decode cX3_readUnpaired 31 = .ok (.istore_n 2, 1) := by decide +kernel
theorem dX3_readUnpaired_32 : decode cX3_readUnpaired 32 = .ok (.iload_n 2, 1) := by decide +kernel
theorem dX3_readUnpaired_33 : decode cX3_readUnpaired 33 = .ok (.iconst (-1), 1) := by decide +kernel
theorem dX3_readUnpaired_34 : decode cX3_readUnpaired 34 = .ok (.if_icmp .eq 27, 3) := by decide +kernel
theorem dX3_readUnpaired_37 : decode cX3_readUnpaired 37 = .ok (.iload_n 2, 1) := by decide +kernel
theorem dX3_readUnpaired_38 : decode cX3_readUnpaired 38 = .ok (.iload_n 1, 1) := by decide +kernel
theorem dX3_readUnpaired_39 : decode cX3_readUnpaired 39 = .ok (.if_icmp .eq 22, 3) := by decide +kernel
theorem dX3_readUnpaired_42 : decode cX3_readUnpaired 42 = .ok (.aload_n 0, 1) := by decide +kernel
theorem dX3_readUnpaired_43 : decode cX3_readUnpaired 43 = .ok (.getfield 49, 3) := by decide +kernel
theorem dX3_readUnpaired_46 : decode cX3_readUnpaired 46 = .ok (.getfield 138, 3) := by decide +kernel
theorem dX3_readUnpaired_49 : decode cX3_readUnpaired 49 = .ok (.iload_n 2, 1) := by decide +kernel
theorem dX3_readUnpaired_50 : decode cX3_readUnpaired 50 = .ok (.invokestatic 82, 3) := by decide +kernel
theorem dX3_readUnpaired_53 : decode cX3_readUnpaired 53 = .ok (.iconst (-1), 1) := by decide +kernel
theorem dX3_readUnpaired_54 : decode cX3_readUnpaired 54 = .ok (.if_icmp .ne 7, 3) := by decide +kernel
theorem dX3_readUnpaired_57 : decode cX3_readUnpaired 57 = .ok (.iconst 1, 1) := by decide +kernel
theorem dX3_readUnpaired_58 : decode cX3_readUnpaired 58 = .ok (.goto 4, 3) := by decide +kernel
theorem dX3_readUnpaired_61 : decode cX3_readUnpaired 61 = .ok (.iconst 0, 1) := by decide +kernel
theorem dX3_readUnpaired_62 : decode cX3_readUnpaired 62 = .ok (.istore_n 3, 1) := by decide +kernel
theorem dX3_readUnpaired_63 : decode cX3_readUnpaired 63 = .ok (.aload_n 0, 1) := by decide +kernel
theorem dX3_readUnpaired_64 : decode cX3_readUnpaired 64 = .ok (.invokevirtual 111, 3) := by decide +kernel
theorem dX3_readUnpaired_67 : decode cX3_readUnpaired 67 = .ok (.ifCond .eq 13, 3) := by decide +kernel
theorem dX3_readUnpaired_70 : decode cX3_readUnpaired 70 = .ok (.iload_n 3, 1) := by decide +kernel
theorem dX3_readUnpaired_71 : decode cX3_readUnpaired 71 = .ok (.ifCond .ne 9, 3) := by decide +kernel
theorem dX3_readUnpaired_74 : decode cX3_readUnpaired 74 = .ok (.aload_n 0, 1) := by decide +kernel
theorem dX3_readUnpaired_75 : decode cX3_readUnpaired 75 = .ok (.iconst 3, 1) := by decide +kernel
theorem dX3_readUnpaired_76 : decode cX3_readUnpaired 76 = .ok (.iconst 0, 1) := by decide +kernel
theorem dX3_readUnpaired_77 : decode cX3_readUnpaired 77 = .ok (.invokevirtual 89, 3) := by decide +kernel
theorem dX3_readUnpaired_80 : decode cX3_readUnpaired 80 = .ok (.aload_n 0, 1) := by decide +kernel
theorem dX3_readUnpaired_81 : decode cX3_readUnpaired 81 = .ok (.dup, 1) := by decide +kernel
theorem dX3_readUnpaired_82 : decode cX3_readUnpaired 82 = .ok (.getfield 65, 3) := by decide +kernel
theorem dX3_readUnpaired_85 : decode cX3_readUnpaired 85 = .ok (.iconst 1, 1) := by decide +kernel
theorem dX3_readUnpaired_86 : decode cX3_readUnpaired 86 = .ok (.iadd, 1) := by decide +kernel
theorem dX3_readUnpaired_87 : decode cX3_readUnpaired 87 = .ok (.putfield 65, 3) := by decide +kernel
theorem dX3_readUnpaired_90 : decode cX3_readUnpaired 90 = .ok (.iload_n 2, 1) := by decide +kernel
theorem dX3_readUnpaired_91 : decode cX3_readUnpaired 91 = .ok (.ireturn, 1) := by decide +kernel
theorem dX3_readStatement_0 : decode cX3_readStatement 0 = .ok (.aload_n 0, 1) := by decide +kernel
theorem dX3_readStatement_1 : decode cX3_readStatement 1 = .ok (.invokevirtual 74, 3) := by decide +kernel
theorem dX3_readStatement_4 : decode cX3_readStatement 4 = .ok (.istore_n 1, 1) := by decide +kernel
theorem dX3_readStatement_5 : decode cX3_readStatement 5 = .ok (.aload_n 0, 1) := by decide +kernel
theorem dX3_readStatement_6 : decode cX3_readStatement 6 = .ok (.getfield 68, 3) := by decide +kernel
theorem dX3_readStatement_9 : decode cX3_readStatement 9 = .ok (.bipush 100, 2) := by decide +kernel
theorem dX3_readStatement_11 : decode cX3_readStatement 11 = .ok (.if_icmp .ge 11, 3) := by decide +kernel
theorem dX3_readStatement_14 : decode cX3_readStatement 14 = .ok (.aload_n 0, 1) := by decide +kernel
theorem dX3_readStatement_15 : decode cX3_readStatement 15 = .ok (.iload_n 1, 1) := by decide +kernel
theorem dX3_readStatement_16 : decode cX3_readStatement 16 = .ok (.invokevirtual 141, 3) := by decide +kernel
theorem dX3_readStatement_19 : decode cX3_readStatement 19 = .ok (.ifCond .eq 12, 3) := by decide +kernel
theorem dX3_readStatement_22 : decode cX3_readStatement 22 = .ok (.aload_n 0, 1) := by decide +kernel
theorem dX3_readStatement_23 : decode cX3_readStatement 23 = .ok (.iconst 5, 1) := by decide +kernel
theorem dX3_readStatement_24 : decode cX3_readStatement 24 = .ok (.iconst 0, 1) := by decide +kernel
theorem dX3_readStatement_25 : decode cX3_readStatement 25 = .ok (.invokevirtual 89, 3) := by decide +kernel
theorem dX3_readStatement_28 : decode cX3_readStatement 28 = .ok (.goto 16, 3) := by decide +kernel
theorem dX3_readStatement_31 : decode cX3_readStatement 31 = .ok (.iload_n 1, 1) := by decide +kernel
theorem dX3_readStatement_32 : decode cX3_readStatement 32 = .ok (.invokestatic 144, 3) := by decide +kernel
theorem dX3_readStatement_35 : decode cX3_readStatement 35 = .ok (.ifCond .ne 9, 3) := by decide +kernel
theorem dX3_readStatement_38 : decode cX3_readStatement 38 = .ok (.aload_n 0, 1) := by decide +kernel
theorem dX3_readStatement_39 : decode cX3_readStatement 39 = .ok (.iconst 1, 1) := by decide +kernel
theorem dX3_readStatement_40 : decode cX3_readStatement 40 = .ok (.iconst 0, 1) := by decide +kernel
theorem dX3_readStatement_41 : decode cX3_readStatement 41 = .ok (.invokevirtual 89, 3) := by decide +kernel
theorem dX3_readStatement_44 : decode cX3_readStatement 44 = .ok (.aload_n 0, 1) := by decide +kernel
theorem dX3_readStatement_45 : decode cX3_readStatement 45 = .ok (.invokevirtual 107, 3) := by decide +kernel
theorem dX3_readStatement_48 : decode cX3_readStatement 48 = .ok (.ifCond .ne 4, 3) := by decide +kernel
theorem dX3_readStatement_51 : decode cX3_readStatement 51 = .ok (.return_, 1) := by decide +kernel
theorem dX3_readStatement_52 : decode cX3_readStatement 52 = .ok (.aload_n 0, 1) := by decide +kernel
theorem dX3_readStatement_53 : decode cX3_readStatement 53 = .ok (.dup, 1) := by decide +kernel
theorem dX3_readStatement_54 : decode cX3_readStatement 54 = .ok (.getfield 65, 3) := by decide +kernel
theorem dX3_readStatement_57 : decode cX3_readStatement 57 = .ok (.iconst 1, 1) := by decide +kernel
theorem dX3_readStatement_58 : decode cX3_readStatement 58 = .ok (.iadd, 1) := by decide +kernel
theorem dX3_readStatement_59 : decode cX3_readStatement 59 = .ok (.putfield 65, 3) := by decide +kernel
theorem dX3_readStatement_62 : decode cX3_readStatement 62 = .ok (.iload_n 1, 1) := by decide +kernel
theorem dX3_readStatement_63 : decode cX3_readStatement 63 = .ok (.tableswitch 137 0 17 #[85, 102, 137, 137, 137, 137, 137, 109, 137, 137, 137, 137, 137, 137, 137, 116, 123, 130], 85) := by decide +kernel
theorem dX3_readStatement_148 : decode cX3_readStatement 148 = .ok (.aload_n 0, 1) := by decide +kernel
theorem dX3_readStatement_149 : decode cX3_readStatement 149 = .ok (.getfield 32, 3) := by decide +kernel
theorem dX3_readStatement_152 : decode cX3_readStatement 152 = .ok (.aload_n 0, 1) := by decide +kernel
theorem dX3_readStatement_153 : decode cX3_readStatement 153 = .ok (.iconst 0, 1) := by decide +kernel
theorem dX3_readStatement_154 : decode cX3_readStatement 154 = .ok (.bipush 60, 2) := by decide +kernel
theorem dX3_readStatement_156 : decode cX3_readStatement 156 = .ok (.invokevirtual 103, 3) := by decide +kernel
theorem dX3_readStatement_159 : decode cX3_readStatement 159 = .ok (.putfield 147, 3) := by decide +kernel
theorem dX3_readStatement_162 : decode cX3_readStatement 162 = .ok (.goto 42, 3) := by decide +kernel
theorem dX3_readStatement_165 : decode cX3_readStatement 165 = .ok (.aload_n 0, 1) := by decide +kernel
theorem dX3_readStatement_166 : decode cX3_readStatement 166 = .ok (.invokevirtual 150, 3) := by decide +kernel
theorem dX3_readStatement_169 : decode cX3_readStatement 169 = .ok (.goto 35, 3) := by decide +kernel
theorem dX3_readStatement_172 : decode cX3_readStatement 172 = .ok (.aload_n 0, 1) := by decide +kernel
theorem dX3_readStatement_173 : decode cX3_readStatement 173 = .ok (.invokevirtual 153, 3) := by decide +kernel
theorem dX3_readStatement_176 : decode cX3_readStatement 176 = .ok (.goto 28, 3) := by decide +kernel
theorem dX3_readStatement_179 : decode cX3_readStatement 179 = .ok (.aload_n 0, 1) := by decide +kernel
theorem dX3_readStatement_180 : decode cX3_readStatement 180 = .ok (.invokevirtual 156, 3) := by decide +kernel
theorem dX3_readStatement_183 : decode cX3_readStatement 183 = .ok (.goto 21, 3) := by decide +kernel
theorem dX3_readStatement_186 : decode cX3_readStatement 186 = .ok (.aload_n 0, 1) := by decide +kernel
theorem dX3_readStatement_187 : decode cX3_readStatement 187 = .ok (.invokevirtual 159, 3) := by decide +kernel
theorem dX3_readStatement_190 : decode cX3_readStatement 190 = .ok (.goto 14, 3) := by decide +kernel
theorem dX3_readStatement_193 : decode cX3_readStatement 193 = .ok (.aload_n 0, 1) := by decide +kernel
theorem dX3_readStatement_194 : decode cX3_readStatement 194 = .ok (.invokevirtual 162, 3) := by decide +kernel
theorem dX3_readStatement_197 : decode cX3_readStatement 197 = .ok (.goto 7, 3) := by decide +kernel
theorem dX3_readStatement_200 : decode cX3_readStatement 200 = .ok (.aload_n 0, 1) := by decide +kernel
theorem dX3_readStatement_201 : decode cX3_readStatement 201 = .ok (.invokevirtual 165, 3) := by decide +kernel
theorem dX3_readStatement_204 : decode cX3_readStatement 204 = .ok (.aload_n 0, 1) := by decide +kernel
theorem dX3_readStatement_205 : decode cX3_readStatement 205 = .ok (.sipush 315, 3) := by decide +kernel
theorem dX3_readStatement_208 : decode cX3_readStatement 208 = .ok (.invokevirtual 99, 3) := by decide +kernel
theorem dX3_readStatement_211 : decode cX3_readStatement 211 = .ok (.aload_n 0, 1) := by decide +kernel
theorem dX3_readStatement_212 : decode cX3_readStatement 212 = .ok (.dup, 1) := by decide +kernel
theorem dX3_readStatement_213 : decode cX3_readStatement 213 = .ok (.getfield 68, 3) := by decide +kernel
theorem dX3_readStatement_216 : decode cX3_readStatement 216 = .ok (.iconst 1, 1) := by decide +kernel
theorem dX3_readStatement_217 : decode cX3_readStatement 217 = .ok (.iadd, 1) := by decide +kernel
theorem dX3_readStatement_218 : decode cX3_readStatement 218 = .ok (.putfield 68, 3) := by decide +kernel
theorem dX3_readStatement_221 : decode cX3_readStatement 221 = .ok (.return_, 1) := by decide +kernel
theorem dX3_isFull_0 : decode cX3_isFull 0 = .ok (.iload_n 1, 1) := by decide +kernel
theorem dX3_isFull_1 : decode cX3_isFull 1 = .ok (.lookupswitch 114 #[(1, 43), (7, 61), (15, 78), (18, 96)], 43) := by decide +kernel
theorem dX3_isFull_44 : decode cX3_isFull 44 = .ok (.aload_n 0, 1) := by decide +kernel
theorem dX3_isFull_45 : decode cX3_isFull 45 = .ok (.getfield 39, 3) := by decide +kernel
theorem dX3_isFull_48 : decode cX3_isFull 48 = .ok (.getfield 123, 3) := by decide +kernel
theorem dX3_isFull_51 : decode cX3_isFull 51 = .ok (.bipush 6, 2) := by decide +kernel
theorem dX3_isFull_53 : decode cX3_isFull 53 = .ok (.if_icmp .lt 7, 3) := by decide +kernel
theorem dX3_isFull_56 : decode cX3_isFull 56 = .ok (.iconst 1, 1) := by decide +kernel
theorem dX3_isFull_57 : decode cX3_isFull 57 = .ok (.goto 4, 3) := by decide +kernel
theorem dX3_isFull_60 : decode cX3_isFull 60 = .ok (.iconst 0, 1) := by decide +kernel
theorem dX3_isFull_61 : decode cX3_isFull 61 = .ok (.ireturn, 1) := by decide +kernel
theorem dX3_isFull_62 : decode cX3_isFull 62 = .ok (.aload_n 0, 1) := by decide +kernel
theorem dX3_isFull_63 : decode cX3_isFull 63 = .ok (.getfield 44, 3) := by decide +kernel
theorem dX3_isFull_66 : decode cX3_isFull 66 = .ok (.getfield 133, 3) := by decide +kernel
theorem dX3_isFull_69 : decode cX3_isFull 69 = .ok (.iconst 4, 1) := by decide +kernel
theorem dX3_isFull_70 : decode cX3_isFull 70 = .ok (.if_icmp .lt 7, 3) := by decide +kernel
theorem dX3_isFull_73 : decode cX3_isFull 73 = .ok (.iconst 1, 1) := by decide +kernel
theorem dX3_isFull_74 : decode cX3_isFull 74 = .ok (.goto 4, 3) := by decide +kernel
theorem dX3_isFull_77 : decode cX3_isFull 77 = .ok (.iconst 0, 1) := by decide +kernel
theorem dX3_isFull_78 : decode cX3_isFull 78 = .ok (.ireturn, 1) := by decide +kernel
theorem dX3_isFull_79 : decode cX3_isFull 79 = .ok (.aload_n 0, 1) := by decide +kernel
theorem dX3_isFull_80 : decode cX3_isFull 80 = .ok (.getfield 49, 3) := by decide +kernel
theorem dX3_isFull_83 : decode cX3_isFull 83 = .ok (.getfield 137, 3) := by decide +kernel
theorem dX3_isFull_86 : decode cX3_isFull 86 = .ok (.bipush 12, 2) := by decide +kernel
theorem dX3_isFull_88 : decode cX3_isFull 88 = .ok (.if_icmp .lt 7, 3) := by decide +kernel
theorem dX3_isFull_91 : decode cX3_isFull 91 = .ok (.iconst 1, 1) := by decide +kernel
theorem dX3_isFull_92 : decode cX3_isFull 92 = .ok (.goto 4, 3) := by decide +kernel
theorem dX3_isFull_95 : decode cX3_isFull 95 = .ok (.iconst 0, 1) := by decide +kernel
theorem dX3_isFull_96 : decode cX3_isFull 96 = .ok (.ireturn, 1) := by decide +kernel
theorem dX3_isFull_97 : decode cX3_isFull 97 = .ok (.aload_n 0, 1) := by decide +kernel
theorem dX3_isFull_98 : decode cX3_isFull 98 = .ok (.getfield 54, 3) := by decide +kernel
theorem dX3_isFull_101 : decode cX3_isFull 101 = .ok (.getfield 168, 3) := by decide +kernel
theorem dX3_isFull_104 : decode cX3_isFull 104 = .ok (.bipush 12, 2) := by decide +kernel
theorem dX3_isFull_106 : decode cX3_isFull 106 = .ok (.if_icmp .lt 7, 3) := by decide +kernel
theorem dX3_isFull_109 : decode cX3_isFull 109 = .ok (.iconst 1, 1) := by decide +kernel
theorem dX3_isFull_110 : decode cX3_isFull 110 = .ok (.goto 4, 3) := by decide +kernel
theorem dX3_isFull_113 : decode cX3_isFull 113 = .ok (.iconst 0, 1) := by decide +kernel
theorem dX3_isFull_114 : decode cX3_isFull 114 = .ok (.ireturn, 1) := by decide +kernel
theorem dX3_isFull_115 : decode cX3_isFull 115 = .ok (.iconst 0, 1) := by decide +kernel
theorem dX3_isFull_116 : decode cX3_isFull 116 = .ok (.ireturn, 1) := by decide +kernel
theorem dX3_starts_0 : decode cX3_starts 0 = .ok (.iload_n 0, 1) := by decide +kernel
theorem dX3_starts_1 : decode cX3_starts 1 = .ok (.ifCond .eq 38, 3) := by decide +kernel
theorem dX3_starts_4 : decode cX3_starts 4 = .ok (.iload_n 0, 1) := by decide +kernel
theorem dX3_starts_5 : decode cX3_starts 5 = .ok (.iconst 1, 1) := by decide +kernel
theorem dX3_starts_6 : decode cX3_starts 6 = .ok (.if_icmp .eq 33, 3) := by decide +kernel
theorem dX3_starts_9 : decode cX3_starts 9 = .ok (.iload_n 0, 1) := by decide +kernel
theorem dX3_starts_10 : decode cX3_starts 10 = .ok (.bipush 7, 2) := by decide +kernel
theorem dX3_starts_12 : decode cX3_starts 12 = .ok (.if_icmp .eq 27, 3) := by decide +kernel
theorem dX3_starts_15 : decode cX3_starts 15 = .ok (.iload_n 0, 1) := by decide +kernel
theorem dX3_starts_16 : decode cX3_starts 16 = .ok (.bipush 15, 2) := by decide +kernel
theorem dX3_starts_18 : decode cX3_starts 18 = .ok (.if_icmp .eq 21, 3) := by decide +kernel
theorem dX3_starts_21 : decode cX3_starts 21 = .ok (.iload_n 0, 1) := by decide +kernel
theorem dX3_starts_22 : decode cX3_starts 22 = .ok (.bipush 16, 2) := by decide +kernel
theorem dX3_starts_24 : decode cX3_starts 24 = .ok (.if_icmp .eq 15, 3) := by decide +kernel
theorem dX3_starts_27 : decode cX3_starts 27 = .ok (.iload_n 0, 1) := by decide +kernel
theorem dX3_starts_28 : decode cX3_starts 28 = .ok (.bipush 17, 2) := by decide +kernel
theorem dX3_starts_30 : decode cX3_starts 30 = .ok (.if_icmp .eq 9, 3) := by decide +kernel
theorem dX3_starts_33 : decode cX3_starts 33 = .ok (.iload_n 0, 1) := by decide +kernel
theorem dX3_starts_34 : decode cX3_starts 34 = .ok (.bipush 18, 2) := by decide +kernel
theorem dX3_starts_36 : decode cX3_starts 36 = .ok (.if_icmp .ne 7, 3) := by decide +kernel
theorem dX3_starts_39 : decode cX3_starts 39 = .ok (.iconst 1, 1) := by decide +kernel
theorem dX3_starts_40 : decode cX3_starts 40 = .ok (.goto 4, 3) := by decide +kernel
theorem dX3_starts_43 : decode cX3_starts 43 = .ok (.iconst 0, 1) := by decide +kernel
theorem dX3_starts_44 : decode cX3_starts 44 = .ok (.ireturn, 1) := by decide +kernel
theorem dX3_readSort_0 : decode cX3_readSort 0 = .ok (.aload_n 0, 1) := by decide +kernel
theorem dX3_readSort_1 : decode cX3_readSort 1 = .ok (.getfield 39, 3) := by decide +kernel
theorem dX3_readSort_4 : decode cX3_readSort 4 = .ok (.getfield 123, 3) := by decide +kernel
theorem dX3_readSort_7 : decode cX3_readSort 7 = .ok (.istore_n 1, 1) := by decide +kernel
theorem dX3_readSort_8 : decode cX3_readSort 8 = .ok (.aload_n 0, 1) := by decide +kernel
theorem dX3_readSort_9 : decode cX3_readSort 9 = .ok (.getfield 39, 3) := by decide +kernel
theorem dX3_readSort_12 : decode cX3_readSort 12 = .ok (.getfield 118, 3) := by decide +kernel
theorem dX3_readSort_15 : decode cX3_readSort 15 = .ok (.iload_n 1, 1) := by decide +kernel
theorem dX3_readSort_16 : decode cX3_readSort 16 = .ok (.aload_n 0, 1) := by decide +kernel
theorem dX3_readSort_17 : decode cX3_readSort 17 = .ok (.invokevirtual 169, 3) := by decide +kernel
theorem dX3_readSort_20 : decode cX3_readSort 20 = .ok (.invokestatic 172, 3) := by decide +kernel
theorem dX3_readSort_23 : decode cX3_readSort 23 = .ok (.aload_n 0, 1) := by decide +kernel
theorem dX3_readSort_24 : decode cX3_readSort 24 = .ok (.getfield 39, 3) := by decide +kernel
theorem dX3_readSort_27 : decode cX3_readSort 27 = .ok (.getfield 176, 3) := by decide +kernel
theorem dX3_readSort_30 : decode cX3_readSort 30 = .ok (.iload_n 1, 1) := by decide +kernel
theorem dX3_readSort_31 : decode cX3_readSort 31 = .ok (.aload_n 0, 1) := by decide +kernel
theorem dX3_readSort_32 : decode cX3_readSort 32 = .ok (.iconst 2, 1) := by decide +kernel
theorem dX3_readSort_33 : decode cX3_readSort 33 = .ok (.iconst 0, 1) := by decide +kernel
theorem dX3_readSort_34 : decode cX3_readSort 34 = .ok (.bipush 99, 2) := by decide +kernel
theorem dX3_readSort_36 : decode cX3_readSort 36 = .ok (.invokevirtual 179, 3) := by decide +kernel
theorem dX3_readSort_39 : decode cX3_readSort 39 = .ok (.invokestatic 172, 3) := by decide +kernel
theorem dX3_readSort_42 : decode cX3_readSort 42 = .ok (.aload_n 0, 1) := by decide +kernel
theorem dX3_readSort_43 : decode cX3_readSort 43 = .ok (.getfield 39, 3) := by decide +kernel
theorem dX3_readSort_46 : decode cX3_readSort 46 = .ok (.getfield 183, 3) := by decide +kernel
theorem dX3_readSort_49 : decode cX3_readSort 49 = .ok (.iload_n 1, 1) := by decide +kernel
theorem dX3_readSort_50 : decode cX3_readSort 50 = .ok (.aload_n 0, 1) := by decide +kernel
theorem dX3_readSort_51 : decode cX3_readSort 51 = .ok (.iconst 3, 1) := by decide +kernel
theorem dX3_readSort_52 : decode cX3_readSort 52 = .ok (.iconst 0, 1) := by decide +kernel
theorem dX3_readSort_53 : decode cX3_readSort 53 = .ok (.bipush 99, 2) := by decide +kernel
theorem dX3_readSort_55 : decode cX3_readSort 55 = .ok (.invokevirtual 179, 3) := by decide +kernel
theorem dX3_readSort_58 : decode cX3_readSort 58 = .ok (.invokestatic 172, 3) := by decide +kernel
theorem dX3_readSort_61 : decode cX3_readSort 61 = .ok (.aload_n 0, 1) := by decide +kernel
theorem dX3_readSort_62 : decode cX3_readSort 62 = .ok (.getfield 39, 3) := by decide +kernel
theorem dX3_readSort_65 : decode cX3_readSort 65 = .ok (.getfield 186, 3) := by decide +kernel
theorem dX3_readSort_68 : decode cX3_readSort 68 = .ok (.iload_n 1, 1) := by decide +kernel
theorem dX3_readSort_69 : decode cX3_readSort 69 = .ok (.aload_n 0, 1) := by decide +kernel
theorem dX3_readSort_70 : decode cX3_readSort 70 = .ok (.iconst 4, 1) := by decide +kernel
theorem dX3_readSort_71 : decode cX3_readSort 71 = .ok (.iconst 0, 1) := by decide +kernel
theorem dX3_readSort_72 : decode cX3_readSort 72 = .ok (.bipush 100, 2) := by decide +kernel
theorem dX3_readSort_74 : decode cX3_readSort 74 = .ok (.invokevirtual 179, 3) := by decide +kernel
theorem dX3_readSort_77 : decode cX3_readSort 77 = .ok (.invokestatic 172, 3) := by decide +kernel
theorem dX3_readSort_80 : decode cX3_readSort 80 = .ok (.aload_n 0, 1) := by decide +kernel
theorem dX3_readSort_81 : decode cX3_readSort 81 = .ok (.getfield 39, 3) := by decide +kernel
theorem dX3_readSort_84 : decode cX3_readSort 84 = .ok (.getfield 189, 3) := by decide +kernel
theorem dX3_readSort_87 : decode cX3_readSort 87 = .ok (.iload_n 1, 1) := by decide +kernel
theorem dX3_readSort_88 : decode cX3_readSort 88 = .ok (.aload_n 0, 1) := by decide +kernel
theorem dX3_readSort_89 : decode cX3_readSort 89 = .ok (.iconst 5, 1) := by decide +kernel
theorem dX3_readSort_90 : decode cX3_readSort 90 = .ok (.iconst 0, 1) := by decide +kernel
theorem dX3_readSort_91 : decode cX3_readSort 91 = .ok (.sipush 999, 3) := by decide +kernel
theorem dX3_readSort_94 : decode cX3_readSort 94 = .ok (.invokevirtual 179, 3) := by decide +kernel
theorem dX3_readSort_97 : decode cX3_readSort 97 = .ok (.invokestatic 172, 3) := by decide +kernel
theorem dX3_readSort_100 : decode cX3_readSort 100 = .ok (.aload_n 0, 1) := by decide +kernel
theorem dX3_readSort_101 : decode cX3_readSort 101 = .ok (.getfield 39, 3) := by decide +kernel
theorem dX3_readSort_104 : decode cX3_readSort 104 = .ok (.getfield 192, 3) := by decide +kernel
theorem dX3_readSort_107 : decode cX3_readSort 107 = .ok (.iload_n 1, 1) := by decide +kernel
theorem dX3_readSort_108 : decode cX3_readSort 108 = .ok (.aload_n 0, 1) := by decide +kernel
theorem dX3_readSort_109 : decode cX3_readSort 109 = .ok (.bipush 6, 2) := by decide +kernel
theorem dX3_readSort_111 : decode cX3_readSort 111 = .ok (.iconst 1, 1) := by decide +kernel
theorem dX3_readSort_112 : decode cX3_readSort 112 = .ok (.bipush 9, 2) := by decide +kernel
theorem dX3_readSort_114 : decode cX3_readSort 114 = .ok (.invokevirtual 179, 3) := by decide +kernel
theorem dX3_readSort_117 : decode cX3_readSort 117 = .ok (.invokestatic 172, 3) := by decide +kernel
theorem dX3_readSort_120 : decode cX3_readSort 120 = .ok (.aload_n 0, 1) := by decide +kernel
theorem dX3_readSort_121 : decode cX3_readSort 121 = .ok (.getfield 39, 3) := by decide +kernel
theorem dX3_readSort_124 : decode cX3_readSort 124 = .ok (.dup, 1) := by decide +kernel
theorem dX3_readSort_125 : decode cX3_readSort 125 = .ok (.getfield 123, 3) := by decide +kernel
theorem dX3_readSort_128 : decode cX3_readSort 128 = .ok (.iconst 1, 1) := by decide +kernel
theorem dX3_readSort_129 : decode cX3_readSort 129 = .ok (.iadd, 1) := by decide +kernel
theorem dX3_readSort_130 : decode cX3_readSort 130 = .ok (.putfield 123, 3) := by decide +kernel
theorem dX3_readSort_133 : decode cX3_readSort 133 = .ok (.return_, 1) := by decide +kernel
theorem dX3_readHat_0 : decode cX3_readHat 0 = .ok (.aload_n 0, 1) := by decide +kernel
theorem dX3_readHat_1 : decode cX3_readHat 1 = .ok (.getfield 44, 3) := by decide +kernel
theorem dX3_readHat_4 : decode cX3_readHat 4 = .ok (.getfield 133, 3) := by decide +kernel
theorem dX3_readHat_7 : decode cX3_readHat 7 = .ok (.istore_n 1, 1) := by decide +kernel
theorem dX3_readHat_8 : decode cX3_readHat 8 = .ok (.aload_n 0, 1) := by decide +kernel
theorem dX3_readHat_9 : decode cX3_readHat 9 = .ok (.getfield 44, 3) := by decide +kernel
theorem dX3_readHat_12 : decode cX3_readHat 12 = .ok (.getfield 130, 3) := by decide +kernel
theorem dX3_readHat_15 : decode cX3_readHat 15 = .ok (.iload_n 1, 1) := by decide +kernel
theorem dX3_readHat_16 : decode cX3_readHat 16 = .ok (.aload_n 0, 1) := by decide +kernel
theorem dX3_readHat_17 : decode cX3_readHat 17 = .ok (.invokevirtual 169, 3) := by decide +kernel
theorem dX3_readHat_20 : decode cX3_readHat 20 = .ok (.invokestatic 172, 3) := by decide +kernel
theorem dX3_readHat_23 : decode cX3_readHat 23 = .ok (.aload_n 0, 1) := by decide +kernel
theorem dX3_readHat_24 : decode cX3_readHat 24 = .ok (.getfield 44, 3) := by decide +kernel
theorem dX3_readHat_27 : decode cX3_readHat 27 = .ok (.getfield 194, 3) := by decide +kernel
theorem dX3_readHat_30 : decode cX3_readHat 30 = .ok (.iload_n 1, 1) := by decide +kernel
theorem dX3_readHat_31 : decode cX3_readHat 31 = .ok (.aload_n 0, 1) := by decide +kernel
theorem dX3_readHat_32 : decode cX3_readHat 32 = .ok (.bipush 8, 2) := by decide +kernel
theorem dX3_readHat_34 : decode cX3_readHat 34 = .ok (.iconst 0, 1) := by decide +kernel
theorem dX3_readHat_35 : decode cX3_readHat 35 = .ok (.bipush 100, 2) := by decide +kernel
theorem dX3_readHat_37 : decode cX3_readHat 37 = .ok (.invokevirtual 179, 3) := by decide +kernel
theorem dX3_readHat_40 : decode cX3_readHat 40 = .ok (.invokestatic 172, 3) := by decide +kernel
theorem dX3_readHat_43 : decode cX3_readHat 43 = .ok (.aload_n 0, 1) := by decide +kernel
theorem dX3_readHat_44 : decode cX3_readHat 44 = .ok (.getfield 44, 3) := by decide +kernel
theorem dX3_readHat_47 : decode cX3_readHat 47 = .ok (.getfield 197, 3) := by decide +kernel
theorem dX3_readHat_50 : decode cX3_readHat 50 = .ok (.iload_n 1, 1) := by decide +kernel
theorem dX3_readHat_51 : decode cX3_readHat 51 = .ok (.aload_n 0, 1) := by decide +kernel
theorem dX3_readHat_52 : decode cX3_readHat 52 = .ok (.bipush 9, 2) := by decide +kernel
theorem dX3_readHat_54 : decode cX3_readHat 54 = .ok (.iconst 0, 1) := by decide +kernel
theorem dX3_readHat_55 : decode cX3_readHat 55 = .ok (.bipush 60, 2) := by decide +kernel
theorem dX3_readHat_57 : decode cX3_readHat 57 = .ok (.invokevirtual 179, 3) := by decide +kernel
theorem dX3_readHat_60 : decode cX3_readHat 60 = .ok (.invokestatic 172, 3) := by decide +kernel
theorem dX3_readHat_63 : decode cX3_readHat 63 = .ok (.aload_n 0, 1) := by decide +kernel
theorem dX3_readHat_64 : decode cX3_readHat 64 = .ok (.getfield 44, 3) := by decide +kernel
theorem dX3_readHat_67 : decode cX3_readHat 67 = .ok (.getfield 200, 3) := by decide +kernel
theorem dX3_readHat_70 : decode cX3_readHat 70 = .ok (.iload_n 1, 1) := by decide +kernel
theorem dX3_readHat_71 : decode cX3_readHat 71 = .ok (.aload_n 0, 1) := by decide +kernel
theorem dX3_readHat_72 : decode cX3_readHat 72 = .ok (.bipush 10, 2) := by decide +kernel
theorem dX3_readHat_74 : decode cX3_readHat 74 = .ok (.iconst 0, 1) := by decide +kernel
theorem dX3_readHat_75 : decode cX3_readHat 75 = .ok (.bipush 100, 2) := by decide +kernel
theorem dX3_readHat_77 : decode cX3_readHat 77 = .ok (.invokevirtual 179, 3) := by decide +kernel
theorem dX3_readHat_80 : decode cX3_readHat 80 = .ok (.invokestatic 172, 3) := by decide +kernel
theorem dX3_readHat_83 : decode cX3_readHat 83 = .ok (.aload_n 0, 1) := by decide +kernel
theorem dX3_readHat_84 : decode cX3_readHat 84 = .ok (.invokevirtual 74, 3) := by decide +kernel
theorem dX3_readHat_87 : decode cX3_readHat 87 = .ok (.bipush 11, 2) := by decide +kernel
theorem dX3_readHat_89 : decode cX3_readHat 89 = .ok (.isub, 1) := by decide +kernel
theorem dX3_readHat_90 : decode cX3_readHat 90 = .ok (.istore_n 2, 1) := by decide +kernel
theorem dX3_readHat_91 : decode cX3_readHat 91 = .ok (.iload_n 2, 1) := by decide +kernel
theorem dX3_readHat_92 : decode cX3_readHat 92 = .ok (.ifCond .lt 8, 3) := by decide +kernel
theorem dX3_readHat_95 : decode cX3_readHat 95 = .ok (.iload_n 2, 1) := by decide +kernel
theorem dX3_readHat_96 : decode cX3_readHat 96 = .ok (.iconst 3, 1) := by decide +kernel
theorem dX3_readHat_97 : decode cX3_readHat 97 = .ok (.if_icmp .le 9, 3) := by decide +kernel
theorem dX3_readHat_100 : decode cX3_readHat 100 = .ok (.aload_n 0, 1) := by decide +kernel
theorem dX3_readHat_101 : decode cX3_readHat 101 = .ok (.iconst 1, 1) := by decide +kernel
theorem dX3_readHat_102 : decode cX3_readHat 102 = .ok (.iconst 0, 1) := by decide +kernel
theorem dX3_readHat_103 : decode cX3_readHat 103 = .ok (.invokevirtual 89, 3) := by decide +kernel
theorem dX3_readHat_106 : decode cX3_readHat 106 = .ok (.aload_n 0, 1) := by decide +kernel
theorem dX3_readHat_107 : decode cX3_readHat 107 = .ok (.dup, 1) := by decide +kernel
theorem dX3_readHat_108 : decode cX3_readHat 108 = .ok (.getfield 65, 3) := by decide +kernel
theorem dX3_readHat_111 : decode cX3_readHat 111 = .ok (.iconst 1, 1) := by decide +kernel
theorem dX3_readHat_112 : decode cX3_readHat 112 = .ok (.iadd, 1) := by decide +kernel
theorem dX3_readHat_113 : decode cX3_readHat 113 = .ok (.putfield 65, 3) := by decide +kernel
theorem dX3_readHat_116 : decode cX3_readHat 116 = .ok (.aload_n 0, 1) := by decide +kernel
theorem dX3_readHat_117 : decode cX3_readHat 117 = .ok (.getfield 44, 3) := by decide +kernel
theorem dX3_readHat_120 : decode cX3_readHat 120 = .ok (.getfield 203, 3) := by decide +kernel
theorem dX3_readHat_123 : decode cX3_readHat 123 = .ok (.iload_n 1, 1) := by decide +kernel
theorem dX3_readHat_124 : decode cX3_readHat 124 = .ok (.iload_n 2, 1) := by decide +kernel
theorem dX3_readHat_125 : decode cX3_readHat 125 = .ok (.invokestatic 172, 3) := by decide +kernel
theorem dX3_readHat_128 : decode cX3_readHat 128 = .ok (.aload_n 0, 1) := by decide +kernel
theorem dX3_readHat_129 : decode cX3_readHat 129 = .ok (.getfield 44, 3) := by decide +kernel
theorem dX3_readHat_132 : decode cX3_readHat 132 = .ok (.dup, 1) := by decide +kernel
theorem dX3_readHat_133 : decode cX3_readHat 133 = .ok (.getfield 133, 3) := by decide +kernel
theorem dX3_readHat_136 : decode cX3_readHat 136 = .ok (.iconst 1, 1) := by decide +kernel
theorem dX3_readHat_137 : decode cX3_readHat 137 = .ok (.iadd, 1) := by decide +kernel
theorem dX3_readHat_138 : decode cX3_readHat 138 = .ok (.putfield 133, 3) := by decide +kernel
theorem dX3_readHat_141 : decode cX3_readHat 141 = .ok (.return_, 1) := by decide +kernel
theorem dX3_readPerson_0 : decode cX3_readPerson 0 = .ok (.aload_n 0, 1) := by decide +kernel
theorem dX3_readPerson_1 : decode cX3_readPerson 1 = .ok (.getfield 49, 3) := by decide +kernel
theorem dX3_readPerson_4 : decode cX3_readPerson 4 = .ok (.getfield 137, 3) := by decide +kernel
theorem dX3_readPerson_7 : decode cX3_readPerson 7 = .ok (.istore_n 1, 1) := by decide +kernel
theorem dX3_readPerson_8 : decode cX3_readPerson 8 = .ok (.aload_n 0, 1) := by decide +kernel
theorem dX3_readPerson_9 : decode cX3_readPerson 9 = .ok (.getfield 49, 3) := by decide +kernel
theorem dX3_readPerson_12 : decode cX3_readPerson 12 = .ok (.getfield 134, 3) := by decide +kernel
theorem dX3_readPerson_15 : decode cX3_readPerson 15 = .ok (.iload_n 1, 1) := by decide +kernel
theorem dX3_readPerson_16 : decode cX3_readPerson 16 = .ok (.aload_n 0, 1) := by decide +kernel
theorem dX3_readPerson_17 : decode cX3_readPerson 17 = .ok (.invokevirtual 169, 3) := by decide +kernel
theorem dX3_readPerson_20 : decode cX3_readPerson 20 = .ok (.invokestatic 172, 3) := by decide +kernel
theorem dX3_readPerson_23 : decode cX3_readPerson 23 = .ok (.aload_n 0, 1) := by decide +kernel
theorem dX3_readPerson_24 : decode cX3_readPerson 24 = .ok (.iconst 1, 1) := by decide +kernel
theorem dX3_readPerson_25 : decode cX3_readPerson 25 = .ok (.invokevirtual 99, 3) := by decide +kernel
theorem dX3_readPerson_28 : decode cX3_readPerson 28 = .ok (.aload_n 0, 1) := by decide +kernel
theorem dX3_readPerson_29 : decode cX3_readPerson 29 = .ok (.getfield 49, 3) := by decide +kernel
theorem dX3_readPerson_32 : decode cX3_readPerson 32 = .ok (.getfield 206, 3) := by decide +kernel
theorem dX3_readPerson_35 : decode cX3_readPerson 35 = .ok (.iload_n 1, 1) := by decide +kernel
theorem dX3_readPerson_36 : decode cX3_readPerson 36 = .ok (.aload_n 0, 1) := by decide +kernel
theorem dX3_readPerson_37 : decode cX3_readPerson 37 = .ok (.aload_n 0, 1) := by decide +kernel
theorem dX3_readPerson_38 : decode cX3_readPerson 38 = .ok (.getfield 39, 3) := by decide +kernel
theorem dX3_readPerson_41 : decode cX3_readPerson 41 = .ok (.getfield 118, 3) := by decide +kernel
theorem dX3_readPerson_44 : decode cX3_readPerson 44 = .ok (.aload_n 0, 1) := by decide +kernel
theorem dX3_readPerson_45 : decode cX3_readPerson 45 = .ok (.getfield 39, 3) := by decide +kernel
theorem dX3_readPerson_48 : decode cX3_readPerson 48 = .ok (.getfield 123, 3) := by decide +kernel
theorem dX3_readPerson_51 : decode cX3_readPerson 51 = .ok (.invokevirtual 209, 3) := by decide +kernel
theorem dX3_readPerson_54 : decode cX3_readPerson 54 = .ok (.invokestatic 172, 3) := by decide +kernel
theorem dX3_readPerson_57 : decode cX3_readPerson 57 = .ok (.aload_n 0, 1) := by decide +kernel
theorem dX3_readPerson_58 : decode cX3_readPerson 58 = .ok (.getfield 49, 3) := by decide +kernel
theorem dX3_readPerson_61 : decode cX3_readPerson 61 = .ok (.getfield 212, 3) := by decide +kernel
theorem dX3_readPerson_64 : decode cX3_readPerson 64 = .ok (.iload_n 1, 1) := by decide +kernel
theorem dX3_readPerson_65 : decode cX3_readPerson 65 = .ok (.iconst (-1), 1) := by decide +kernel
theorem dX3_readPerson_66 : decode cX3_readPerson 66 = .ok (.invokestatic 172, 3) := by decide +kernel
theorem dX3_readPerson_69 : decode cX3_readPerson 69 = .ok (.aload_n 0, 1) := by decide +kernel
theorem dX3_readPerson_70 : decode cX3_readPerson 70 = .ok (.getfield 49, 3) := by decide +kernel
theorem dX3_readPerson_73 : decode cX3_readPerson 73 = .ok (.getfield 138, 3) := by decide +kernel
theorem dX3_readPerson_76 : decode cX3_readPerson 76 = .ok (.iload_n 1, 1) := by decide +kernel
theorem dX3_readPerson_77 : decode cX3_readPerson 77 = .ok (.iconst (-1), 1) := by decide +kernel
theorem dX3_readPerson_78 : decode cX3_readPerson 78 = .ok (.invokestatic 172, 3) := by decide +kernel
theorem dX3_readPerson_81 : decode cX3_readPerson 81 = .ok (.aload_n 0, 1) := by decide +kernel
theorem dX3_readPerson_82 : decode cX3_readPerson 82 = .ok (.getfield 49, 3) := by decide +kernel
theorem dX3_readPerson_85 : decode cX3_readPerson 85 = .ok (.getfield 215, 3) := by decide +kernel
theorem dX3_readPerson_88 : decode cX3_readPerson 88 = .ok (.iload_n 1, 1) := by decide +kernel
theorem dX3_readPerson_89 : decode cX3_readPerson 89 = .ok (.iconst 0, 1) := by decide +kernel
theorem dX3_readPerson_90 : decode cX3_readPerson 90 = .ok (.invokestatic 172, 3) := by decide +kernel
theorem dX3_readPerson_93 : decode cX3_readPerson 93 = .ok (.aload_n 0, 1) := by decide +kernel
theorem dX3_readPerson_94 : decode cX3_readPerson 94 = .ok (.getfield 49, 3) := by decide +kernel
theorem dX3_readPerson_97 : decode cX3_readPerson 97 = .ok (.dup, 1) := by decide +kernel
theorem dX3_readPerson_98 : decode cX3_readPerson 98 = .ok (.getfield 137, 3) := by decide +kernel
theorem dX3_readPerson_101 : decode cX3_readPerson 101 = .ok (.iconst 1, 1) := by decide +kernel
theorem dX3_readPerson_102 : decode cX3_readPerson 102 = .ok (.iadd, 1) := by decide +kernel
theorem dX3_readPerson_103 : decode cX3_readPerson 103 = .ok (.putfield 137, 3) := by decide +kernel
theorem dX3_readPerson_106 : decode cX3_readPerson 106 = .ok (.return_, 1) := by decide +kernel
theorem dX3_readIn_0 : decode cX3_readIn 0 = .ok (.aload_n 0, 1) := by decide +kernel
theorem dX3_readIn_1 : decode cX3_readIn 1 = .ok (.aload_n 0, 1) := by decide +kernel
theorem dX3_readIn_2 : decode cX3_readIn 2 = .ok (.getfield 49, 3) := by decide +kernel
theorem dX3_readIn_5 : decode cX3_readIn 5 = .ok (.getfield 134, 3) := by decide +kernel
theorem dX3_readIn_8 : decode cX3_readIn 8 = .ok (.aload_n 0, 1) := by decide +kernel
theorem dX3_readIn_9 : decode cX3_readIn 9 = .ok (.getfield 49, 3) := by decide +kernel
theorem dX3_readIn_12 : decode cX3_readIn 12 = .ok (.getfield 137, 3) := by decide +kernel
theorem dX3_readIn_15 : decode cX3_readIn 15 = .ok (.invokevirtual 209, 3) := by decide +kernel
theorem dX3_readIn_18 : decode cX3_readIn 18 = .ok (.istore_n 1, 1) := by decide +kernel
theorem dX3_readIn_19 : decode cX3_readIn 19 = .ok (.aload_n 0, 1) := by decide +kernel
theorem dX3_readIn_20 : decode cX3_readIn 20 = .ok (.getfield 49, 3) := by decide +kernel
theorem dX3_readIn_23 : decode cX3_readIn 23 = .ok (.getfield 212, 3) := by decide +kernel
theorem dX3_readIn_26 : decode cX3_readIn 26 = .ok (.iload_n 1, 1) := by decide +kernel
theorem dX3_readIn_27 : decode cX3_readIn 27 = .ok (.aload_n 0, 1) := by decide +kernel
theorem dX3_readIn_28 : decode cX3_readIn 28 = .ok (.aload_n 0, 1) := by decide +kernel
theorem dX3_readIn_29 : decode cX3_readIn 29 = .ok (.getfield 44, 3) := by decide +kernel
theorem dX3_readIn_32 : decode cX3_readIn 32 = .ok (.getfield 130, 3) := by decide +kernel
theorem dX3_readIn_35 : decode cX3_readIn 35 = .ok (.aload_n 0, 1) := by decide +kernel
theorem dX3_readIn_36 : decode cX3_readIn 36 = .ok (.getfield 44, 3) := by decide +kernel
theorem dX3_readIn_39 : decode cX3_readIn 39 = .ok (.getfield 133, 3) := by decide +kernel
theorem dX3_readIn_42 : decode cX3_readIn 42 = .ok (.invokevirtual 209, 3) := by decide +kernel
theorem dX3_readIn_45 : decode cX3_readIn 45 = .ok (.invokestatic 172, 3) := by decide +kernel
theorem dX3_readIn_48 : decode cX3_readIn 48 = .ok (.return_, 1) := by decide +kernel
theorem dX3_readPair_0 : decode cX3_readPair 0 = .ok (.aload_n 0, 1) := by decide +kernel
theorem dX3_readPair_1 : decode cX3_readPair 1 = .ok (.iconst (-1), 1) := by decide +kernel
theorem dX3_readPair_2 : decode cX3_readPair 2 = .ok (.invokevirtual 218, 3) := by decide +kernel
theorem dX3_readPair_5 : decode cX3_readPair 5 = .ok (.istore_n 1, 1) := by decide +kernel
theorem dX3_readPair_6 : decode cX3_readPair 6 = .ok (.aload_n 0, 1) := by decide +kernel
theorem dX3_readPair_7 : decode cX3_readPair 7 = .ok (.iload_n 1, 1) := by decide +kernel
theorem dX3_readPair_8 : decode cX3_readPair 8 = .ok (.invokevirtual 218, 3) := by decide +kernel
theorem dX3_readPair_11 : decode cX3_readPair 11 = .ok (.istore_n 2, 1) := by decide +kernel
theorem dX3_readPair_12 : decode cX3_readPair 12 = .ok (.aload_n 0, 1) := by decide +kernel
theorem dX3_readPair_13 : decode cX3_readPair 13 = .ok (.getfield 49, 3) := by decide +kernel
theorem dX3_readPair_16 : decode cX3_readPair 16 = .ok (.getfield 138, 3) := by decide +kernel
theorem dX3_readPair_19 : decode cX3_readPair 19 = .ok (.iload_n 1, 1) := by decide +kernel
theorem dX3_readPair_20 : decode cX3_readPair 20 = .ok (.iload_n 2, 1) := by decide +kernel
theorem dX3_readPair_21 : decode cX3_readPair 21 = .ok (.invokestatic 172, 3) := by decide +kernel
theorem dX3_readPair_24 : decode cX3_readPair 24 = .ok (.aload_n 0, 1) := by decide +kernel
theorem dX3_readPair_25 : decode cX3_readPair 25 = .ok (.getfield 49, 3) := by decide +kernel
theorem dX3_readPair_28 : decode cX3_readPair 28 = .ok (.getfield 138, 3) := by decide +kernel
theorem dX3_readPair_31 : decode cX3_readPair 31 = .ok (.iload_n 2, 1) := by decide +kernel
theorem dX3_readPair_32 : decode cX3_readPair 32 = .ok (.iload_n 1, 1) := by decide +kernel
theorem dX3_readPair_33 : decode cX3_readPair 33 = .ok (.invokestatic 172, 3) := by decide +kernel
theorem dX3_readPair_36 : decode cX3_readPair 36 = .ok (.aload_n 0, 1) := by decide +kernel
theorem dX3_readPair_37 : decode cX3_readPair 37 = .ok (.getfield 49, 3) := by decide +kernel
theorem dX3_readPair_40 : decode cX3_readPair 40 = .ok (.getfield 222, 3) := by decide +kernel
theorem dX3_readPair_43 : decode cX3_readPair 43 = .ok (.aload_n 0, 1) := by decide +kernel
theorem dX3_readPair_44 : decode cX3_readPair 44 = .ok (.getfield 49, 3) := by decide +kernel
theorem dX3_readPair_47 : decode cX3_readPair 47 = .ok (.getfield 225, 3) := by decide +kernel
theorem dX3_readPair_50 : decode cX3_readPair 50 = .ok (.iload_n 1, 1) := by decide +kernel
theorem dX3_readPair_51 : decode cX3_readPair 51 = .ok (.invokestatic 172, 3) := by decide +kernel
theorem dX3_readPair_54 : decode cX3_readPair 54 = .ok (.aload_n 0, 1) := by decide +kernel
theorem dX3_readPair_55 : decode cX3_readPair 55 = .ok (.getfield 49, 3) := by decide +kernel
theorem dX3_readPair_58 : decode cX3_readPair 58 = .ok (.getfield 228, 3) := by decide +kernel
theorem dX3_readPair_61 : decode cX3_readPair 61 = .ok (.aload_n 0, 1) := by decide +kernel
theorem dX3_readPair_62 : decode cX3_readPair 62 = .ok (.getfield 49, 3) := by decide +kernel
theorem dX3_readPair_65 : decode cX3_readPair 65 = .ok (.getfield 225, 3) := by decide +kernel
theorem dX3_readPair_68 : decode cX3_readPair 68 = .ok (.iload_n 2, 1) := by decide +kernel
theorem dX3_readPair_69 : decode cX3_readPair 69 = .ok (.invokestatic 172, 3) := by decide +kernel
theorem dX3_readPair_72 : decode cX3_readPair 72 = .ok (.aload_n 0, 1) := by decide +kernel
theorem dX3_readPair_73 : decode cX3_readPair 73 = .ok (.getfield 49, 3) := by decide +kernel
theorem dX3_readPair_76 : decode cX3_readPair 76 = .ok (.dup, 1) := by decide +kernel
theorem dX3_readPair_77 : decode cX3_readPair 77 = .ok (.getfield 225, 3) := by decide +kernel
theorem dX3_readPair_80 : decode cX3_readPair 80 = .ok (.iconst 1, 1) := by decide +kernel
theorem dX3_readPair_81 : decode cX3_readPair 81 = .ok (.iadd, 1) := by decide +kernel
theorem dX3_readPair_82 : decode cX3_readPair 82 = .ok (.putfield 225, 3) := by decide +kernel
theorem dX3_readPair_85 : decode cX3_readPair 85 = .ok (.return_, 1) := by decide +kernel
theorem dX3_readWorks_0 : decode cX3_readWorks 0 = .ok (.aload_n 0, 1) := by decide +kernel
theorem dX3_readWorks_1 : decode cX3_readWorks 1 = .ok (.getfield 54, 3) := by decide +kernel
theorem dX3_readWorks_4 : decode cX3_readWorks 4 = .ok (.getfield 168, 3) := by decide +kernel
theorem dX3_readWorks_7 : decode cX3_readWorks 7 = .ok (.istore_n 1, 1) := by decide +kernel
theorem dX3_readWorks_8 : decode cX3_readWorks 8 = .ok (.aload_n 0, 1) := by decide +kernel
theorem dX3_readWorks_9 : decode cX3_readWorks 9 = .ok (.getfield 54, 3) := by decide +kernel
theorem dX3_readWorks_12 : decode cX3_readWorks 12 = .ok (.getfield 231, 3) := by decide +kernel
theorem dX3_readWorks_15 : decode cX3_readWorks 15 = .ok (.iload_n 1, 1) := by decide +kernel
theorem dX3_readWorks_16 : decode cX3_readWorks 16 = .ok (.aload_n 0, 1) := by decide +kernel
theorem dX3_readWorks_17 : decode cX3_readWorks 17 = .ok (.aload_n 0, 1) := by decide +kernel
theorem dX3_readWorks_18 : decode cX3_readWorks 18 = .ok (.getfield 39, 3) := by decide +kernel
theorem dX3_readWorks_21 : decode cX3_readWorks 21 = .ok (.getfield 118, 3) := by decide +kernel
theorem dX3_readWorks_24 : decode cX3_readWorks 24 = .ok (.aload_n 0, 1) := by decide +kernel
theorem dX3_readWorks_25 : decode cX3_readWorks 25 = .ok (.getfield 39, 3) := by decide +kernel
theorem dX3_readWorks_28 : decode cX3_readWorks 28 = .ok (.getfield 123, 3) := by decide +kernel
theorem dX3_readWorks_31 : decode cX3_readWorks 31 = .ok (.invokevirtual 209, 3) := by decide +kernel
theorem dX3_readWorks_34 : decode cX3_readWorks 34 = .ok (.invokestatic 172, 3) := by decide +kernel
theorem dX3_readWorks_37 : decode cX3_readWorks 37 = .ok (.aload_n 0, 1) := by decide +kernel
theorem dX3_readWorks_38 : decode cX3_readWorks 38 = .ok (.getfield 54, 3) := by decide +kernel
theorem dX3_readWorks_41 : decode cX3_readWorks 41 = .ok (.getfield 232, 3) := by decide +kernel
theorem dX3_readWorks_44 : decode cX3_readWorks 44 = .ok (.iload_n 1, 1) := by decide +kernel
theorem dX3_readWorks_45 : decode cX3_readWorks 45 = .ok (.aload_n 0, 1) := by decide +kernel
theorem dX3_readWorks_46 : decode cX3_readWorks 46 = .ok (.getfield 54, 3) := by decide +kernel
theorem dX3_readWorks_49 : decode cX3_readWorks 49 = .ok (.getfield 235, 3) := by decide +kernel
theorem dX3_readWorks_52 : decode cX3_readWorks 52 = .ok (.invokestatic 172, 3) := by decide +kernel
theorem dX3_readWorks_55 : decode cX3_readWorks 55 = .ok (.aload_n 0, 1) := by decide +kernel
theorem dX3_readWorks_56 : decode cX3_readWorks 56 = .ok (.iconst 0, 1) := by decide +kernel
theorem dX3_readWorks_57 : decode cX3_readWorks 57 = .ok (.invokevirtual 238, 3) := by decide +kernel
theorem dX3_readWorks_60 : decode cX3_readWorks 60 = .ok (.aload_n 0, 1) := by decide +kernel
theorem dX3_readWorks_61 : decode cX3_readWorks 61 = .ok (.bipush 19, 2) := by decide +kernel
theorem dX3_readWorks_63 : decode cX3_readWorks 63 = .ok (.invokevirtual 99, 3) := by decide +kernel
theorem dX3_readWorks_66 : decode cX3_readWorks 66 = .ok (.aload_n 0, 1) := by decide +kernel
theorem dX3_readWorks_67 : decode cX3_readWorks 67 = .ok (.getfield 54, 3) := by decide +kernel
theorem dX3_readWorks_70 : decode cX3_readWorks 70 = .ok (.getfield 241, 3) := by decide +kernel
theorem dX3_readWorks_73 : decode cX3_readWorks 73 = .ok (.iload_n 1, 1) := by decide +kernel
theorem dX3_readWorks_74 : decode cX3_readWorks 74 = .ok (.aload_n 0, 1) := by decide +kernel
theorem dX3_readWorks_75 : decode cX3_readWorks 75 = .ok (.getfield 54, 3) := by decide +kernel
theorem dX3_readWorks_78 : decode cX3_readWorks 78 = .ok (.getfield 235, 3) := by decide +kernel
theorem dX3_readWorks_81 : decode cX3_readWorks 81 = .ok (.invokestatic 172, 3) := by decide +kernel
theorem dX3_readWorks_84 : decode cX3_readWorks 84 = .ok (.aload_n 0, 1) := by decide +kernel
theorem dX3_readWorks_85 : decode cX3_readWorks 85 = .ok (.iconst 0, 1) := by decide +kernel
theorem dX3_readWorks_86 : decode cX3_readWorks 86 = .ok (.invokevirtual 244, 3) := by decide +kernel
theorem dX3_readWorks_89 : decode cX3_readWorks 89 = .ok (.aload_n 0, 1) := by decide +kernel
theorem dX3_readWorks_90 : decode cX3_readWorks 90 = .ok (.getfield 54, 3) := by decide +kernel
theorem dX3_readWorks_93 : decode cX3_readWorks 93 = .ok (.getfield 247, 3) := by decide +kernel
theorem dX3_readWorks_96 : decode cX3_readWorks 96 = .ok (.iload_n 1, 1) := by decide +kernel
theorem dX3_readWorks_97 : decode cX3_readWorks 97 = .ok (.aload_n 0, 1) := by decide +kernel
theorem dX3_readWorks_98 : decode cX3_readWorks 98 = .ok (.getfield 54, 3) := by decide +kernel
theorem dX3_readWorks_101 : decode cX3_readWorks 101 = .ok (.getfield 235, 3) := by decide +kernel
theorem dX3_readWorks_104 : decode cX3_readWorks 104 = .ok (.invokestatic 172, 3) := by decide +kernel
theorem dX3_readWorks_107 : decode cX3_readWorks 107 = .ok (.aload_n 0, 1) := by decide +kernel
theorem dX3_readWorks_108 : decode cX3_readWorks 108 = .ok (.getfield 54, 3) := by decide +kernel
theorem dX3_readWorks_111 : decode cX3_readWorks 111 = .ok (.dup, 1) := by decide +kernel
theorem dX3_readWorks_112 : decode cX3_readWorks 112 = .ok (.getfield 168, 3) := by decide +kernel
theorem dX3_readWorks_115 : decode cX3_readWorks 115 = .ok (.iconst 1, 1) := by decide +kernel
theorem dX3_readWorks_116 : decode cX3_readWorks 116 = .ok (.iadd, 1) := by decide +kernel
theorem dX3_readWorks_117 : decode cX3_readWorks 117 = .ok (.putfield 168, 3) := by decide +kernel
theorem dX3_readWorks_120 : decode cX3_readWorks 120 = .ok (.return_, 1) := by decide +kernel
theorem dX3_readTest_0 : decode cX3_readTest 0 = .ok (.aload_n 0, 1) := by decide +kernel
theorem dX3_readTest_1 : decode cX3_readTest 1 = .ok (.iload_n 1, 1) := by decide +kernel
theorem dX3_readTest_2 : decode cX3_readTest 2 = .ok (.invokevirtual 250, 3) := by decide +kernel
theorem dX3_readTest_5 : decode cX3_readTest 5 = .ok (.iconst 0, 1) := by decide +kernel
theorem dX3_readTest_6 : decode cX3_readTest 6 = .ok (.istore_n 2, 1) := by decide +kernel
theorem dX3_readTest_7 : decode cX3_readTest 7 = .ok (.iload_n 2, 1) := by decide +kernel
theorem dX3_readTest_8 : decode cX3_readTest 8 = .ok (.sipush 1600, 3) := by decide +kernel
theorem dX3_readTest_11 : decode cX3_readTest 11 = .ok (.if_icmp .ge 33, 3) := by decide +kernel
theorem dX3_readTest_14 : decode cX3_readTest 14 = .ok (.aload_n 0, 1) := by decide +kernel
theorem dX3_readTest_15 : decode cX3_readTest 15 = .ok (.bipush 20, 2) := by decide +kernel
theorem dX3_readTest_17 : decode cX3_readTest 17 = .ok (.invokevirtual 253, 3) := by decide +kernel
theorem dX3_readTest_20 : decode cX3_readTest 20 = .ok (.ifCond .eq 24, 3) := by decide +kernel
theorem dX3_readTest_23 : decode cX3_readTest 23 = .ok (.aload_n 0, 1) := by decide +kernel
theorem dX3_readTest_24 : decode cX3_readTest 24 = .ok (.iload_n 1, 1) := by decide +kernel
theorem dX3_readTest_25 : decode cX3_readTest 25 = .ok (.invokevirtual 250, 3) := by decide +kernel
theorem dX3_readTest_28 : decode cX3_readTest 28 = .ok (.aload_n 0, 1) := by decide +kernel
theorem dX3_readTest_29 : decode cX3_readTest 29 = .ok (.getfield 54, 3) := by decide +kernel
theorem dX3_readTest_32 : decode cX3_readTest 32 = .ok (.sipush 10016, 3) := by decide +kernel
theorem dX3_readTest_35 : decode cX3_readTest 35 = .ok (.invokevirtual 256, 3) := by decide +kernel
theorem dX3_readTest_38 : decode cX3_readTest 38 = .ok (.iinc 2 1, 3) := by decide +kernel
theorem dX3_readTest_41 : decode cX3_readTest 41 = .ok (.goto (-34), 3) := by decide +kernel
theorem dX3_readTest_44 : decode cX3_readTest 44 = .ok (.return_, 1) := by decide +kernel
theorem dX3_readBoth_0 : decode cX3_readBoth 0 = .ok (.aload_n 0, 1) := by decide +kernel
theorem dX3_readBoth_1 : decode cX3_readBoth 1 = .ok (.iload_n 1, 1) := by decide +kernel
theorem dX3_readBoth_2 : decode cX3_readBoth 2 = .ok (.invokevirtual 259, 3) := by decide +kernel
theorem dX3_readBoth_5 : decode cX3_readBoth 5 = .ok (.iconst 0, 1) := by decide +kernel
theorem dX3_readBoth_6 : decode cX3_readBoth 6 = .ok (.istore_n 2, 1) := by decide +kernel
theorem dX3_readBoth_7 : decode cX3_readBoth 7 = .ok (.iload_n 2, 1) := by decide +kernel
theorem dX3_readBoth_8 : decode cX3_readBoth 8 = .ok (.sipush 1600, 3) := by decide +kernel
theorem dX3_readBoth_11 : decode cX3_readBoth 11 = .ok (.if_icmp .ge 33, 3) := by decide +kernel
theorem dX3_readBoth_14 : decode cX3_readBoth 14 = .ok (.aload_n 0, 1) := by decide +kernel
theorem dX3_readBoth_15 : decode cX3_readBoth 15 = .ok (.bipush 21, 2) := by decide +kernel
theorem dX3_readBoth_17 : decode cX3_readBoth 17 = .ok (.invokevirtual 253, 3) := by decide +kernel
theorem dX3_readBoth_20 : decode cX3_readBoth 20 = .ok (.ifCond .eq 24, 3) := by decide +kernel
theorem dX3_readBoth_23 : decode cX3_readBoth 23 = .ok (.aload_n 0, 1) := by decide +kernel
theorem dX3_readBoth_24 : decode cX3_readBoth 24 = .ok (.iload_n 1, 1) := by decide +kernel
theorem dX3_readBoth_25 : decode cX3_readBoth 25 = .ok (.invokevirtual 259, 3) := by decide +kernel
theorem dX3_readBoth_28 : decode cX3_readBoth 28 = .ok (.aload_n 0, 1) := by decide +kernel
theorem dX3_readBoth_29 : decode cX3_readBoth 29 = .ok (.getfield 54, 3) := by decide +kernel
theorem dX3_readBoth_32 : decode cX3_readBoth 32 = .ok (.sipush 10015, 3) := by decide +kernel
theorem dX3_readBoth_35 : decode cX3_readBoth 35 = .ok (.invokevirtual 256, 3) := by decide +kernel
theorem dX3_readBoth_38 : decode cX3_readBoth 38 = .ok (.iinc 2 1, 3) := by decide +kernel
theorem dX3_readBoth_41 : decode cX3_readBoth 41 = .ok (.goto (-34), 3) := by decide +kernel
theorem dX3_readBoth_44 : decode cX3_readBoth 44 = .ok (.return_, 1) := by decide +kernel
theorem dX3_readFact_0 : decode cX3_readFact 0 = .ok (.aload_n 0, 1) := by decide +kernel
theorem dX3_readFact_1 : decode cX3_readFact 1 = .ok (.invokevirtual 74, 3) := by decide +kernel
theorem dX3_readFact_4 : decode cX3_readFact 4 = .ok (.istore_n 2, 1) := by decide +kernel
theorem dX3_readFact_5 : decode cX3_readFact 5 = .ok (.iload_n 2, 1) := by decide +kernel
theorem dX3_readFact_6 : decode cX3_readFact 6 = .ok (.bipush 22, 2) := by decide +kernel
theorem dX3_readFact_8 : decode cX3_readFact 8 = .ok (.if_icmp .ne 31, 3) := by decide +kernel
theorem dX3_readFact_11 : decode cX3_readFact 11 = .ok (.aload_n 0, 1) := by decide +kernel
theorem dX3_readFact_12 : decode cX3_readFact 12 = .ok (.iload_n 1, 1) := by decide +kernel
theorem dX3_readFact_13 : decode cX3_readFact 13 = .ok (.invokevirtual 262, 3) := by decide +kernel
theorem dX3_readFact_16 : decode cX3_readFact 16 = .ok (.ifCond .eq 98, 3) := by decide +kernel
theorem dX3_readFact_19 : decode cX3_readFact 19 = .ok (.aload_n 0, 1) := by decide +kernel
theorem dX3_readFact_20 : decode cX3_readFact 20 = .ok (.iload_n 1, 1) := by decide +kernel
theorem dX3_readFact_21 : decode cX3_readFact 21 = .ok (.iconst 1, 1) := by decide +kernel
theorem dX3_readFact_22 : decode cX3_readFact 22 = .ok (.iadd, 1) := by decide +kernel
theorem dX3_readFact_23 : decode cX3_readFact 23 = .ok (.invokevirtual 259, 3) := by decide +kernel
theorem dX3_readFact_26 : decode cX3_readFact 26 = .ok (.aload_n 0, 1) := by decide +kernel
theorem dX3_readFact_27 : decode cX3_readFact 27 = .ok (.getfield 54, 3) := by decide +kernel
theorem dX3_readFact_30 : decode cX3_readFact 30 = .ok (.sipush 10010, 3) := by decide +kernel
theorem dX3_readFact_33 : decode cX3_readFact 33 = .ok (.invokevirtual 256, 3) := by decide +kernel
theorem dX3_readFact_36 : decode cX3_readFact 36 = .ok (.goto 78, 3) := by decide +kernel
theorem dX3_readFact_39 : decode cX3_readFact 39 = .ok (.iload_n 2, 1) := by decide +kernel
theorem dX3_readFact_40 : decode cX3_readFact 40 = .ok (.sipush 347, 3) := by decide +kernel
theorem dX3_readFact_43 : decode cX3_readFact 43 = .ok (.if_icmp .ne 28, 3) := by decide +kernel
theorem dX3_readFact_46 : decode cX3_readFact 46 = .ok (.aload_n 0, 1) := by decide +kernel
theorem dX3_readFact_47 : decode cX3_readFact 47 = .ok (.iload_n 1, 1) := by decide +kernel
theorem dX3_readFact_48 : decode cX3_readFact 48 = .ok (.invokevirtual 262, 3) := by decide +kernel
theorem dX3_readFact_51 : decode cX3_readFact 51 = .ok (.ifCond .eq 63, 3) := by decide +kernel
theorem dX3_readFact_54 : decode cX3_readFact 54 = .ok (.aload_n 0, 1) := by decide +kernel
theorem dX3_readFact_55 : decode cX3_readFact 55 = .ok (.iload_n 1, 1) := by decide +kernel
theorem dX3_readFact_56 : decode cX3_readFact 56 = .ok (.iconst 1, 1) := by decide +kernel
theorem dX3_readFact_57 : decode cX3_readFact 57 = .ok (.iadd, 1) := by decide +kernel
theorem dX3_readFact_58 : decode cX3_readFact 58 = .ok (.invokevirtual 244, 3) := by decide +kernel
theorem dX3_readFact_61 : decode cX3_readFact 61 = .ok (.aload_n 0, 1) := by decide +kernel
theorem dX3_readFact_62 : decode cX3_readFact 62 = .ok (.sipush 349, 3) := by decide +kernel
theorem dX3_readFact_65 : decode cX3_readFact 65 = .ok (.invokevirtual 99, 3) := by decide +kernel
theorem dX3_readFact_68 : decode cX3_readFact 68 = .ok (.goto 46, 3) := by decide +kernel
theorem dX3_readFact_71 : decode cX3_readFact 71 = .ok (.aload_n 0, 1) := by decide +kernel
theorem dX3_readFact_72 : decode cX3_readFact 72 = .ok (.bipush 23, 2) := by decide +kernel
theorem dX3_readFact_74 : decode cX3_readFact 74 = .ok (.invokevirtual 253, 3) := by decide +kernel
theorem dX3_readFact_77 : decode cX3_readFact 77 = .ok (.ifCond .eq 14, 3) := by decide +kernel
theorem dX3_readFact_80 : decode cX3_readFact 80 = .ok (.aload_n 0, 1) := by decide +kernel
theorem dX3_readFact_81 : decode cX3_readFact 81 = .ok (.getfield 54, 3) := by decide +kernel
theorem dX3_readFact_84 : decode cX3_readFact 84 = .ok (.iconst 1, 1) := by decide +kernel
theorem dX3_readFact_85 : decode cX3_readFact 85 = .ok (.invokevirtual 256, 3) := by decide +kernel
theorem dX3_readFact_88 : decode cX3_readFact 88 = .ok (.goto 26, 3) := by decide +kernel
theorem dX3_readFact_91 : decode cX3_readFact 91 = .ok (.aload_n 0, 1) := by decide +kernel
theorem dX3_readFact_92 : decode cX3_readFact 92 = .ok (.iload_n 1, 1) := by decide +kernel
theorem dX3_readFact_93 : decode cX3_readFact 93 = .ok (.invokevirtual 238, 3) := by decide +kernel
theorem dX3_readFact_96 : decode cX3_readFact 96 = .ok (.aload_n 0, 1) := by decide +kernel
theorem dX3_readFact_97 : decode cX3_readFact 97 = .ok (.invokevirtual 265, 3) := by decide +kernel
theorem dX3_readFact_100 : decode cX3_readFact 100 = .ok (.istore_n 3, 1) := by decide +kernel
theorem dX3_readFact_101 : decode cX3_readFact 101 = .ok (.aload_n 0, 1) := by decide +kernel
theorem dX3_readFact_102 : decode cX3_readFact 102 = .ok (.iload_n 1, 1) := by decide +kernel
theorem dX3_readFact_103 : decode cX3_readFact 103 = .ok (.invokevirtual 238, 3) := by decide +kernel
theorem dX3_readFact_106 : decode cX3_readFact 106 = .ok (.aload_n 0, 1) := by decide +kernel
theorem dX3_readFact_107 : decode cX3_readFact 107 = .ok (.getfield 54, 3) := by decide +kernel
theorem dX3_readFact_110 : decode cX3_readFact 110 = .ok (.iload_n 3, 1) := by decide +kernel
theorem dX3_readFact_111 : decode cX3_readFact 111 = .ok (.invokevirtual 256, 3) := by decide +kernel
theorem dX3_readFact_114 : decode cX3_readFact 114 = .ok (.return_, 1) := by decide +kernel
theorem dX3_readCompare_0 : decode cX3_readCompare 0 = .ok (.aload_n 0, 1) := by decide +kernel
theorem dX3_readCompare_1 : decode cX3_readCompare 1 = .ok (.sipush 316, 3) := by decide +kernel
theorem dX3_readCompare_4 : decode cX3_readCompare 4 = .ok (.invokevirtual 253, 3) := by decide +kernel
theorem dX3_readCompare_7 : decode cX3_readCompare 7 = .ok (.ifCond .eq 7, 3) := by decide +kernel
theorem dX3_readCompare_10 : decode cX3_readCompare 10 = .ok (.sipush 10017, 3) := by decide +kernel
theorem dX3_readCompare_13 : decode cX3_readCompare 13 = .ok (.ireturn, 1) := by decide +kernel
theorem dX3_readCompare_14 : decode cX3_readCompare 14 = .ok (.aload_n 0, 1) := by decide +kernel
theorem dX3_readCompare_15 : decode cX3_readCompare 15 = .ok (.sipush 318, 3) := by decide +kernel
theorem dX3_readCompare_18 : decode cX3_readCompare 18 = .ok (.invokevirtual 253, 3) := by decide +kernel
theorem dX3_readCompare_21 : decode cX3_readCompare 21 = .ok (.ifCond .eq 7, 3) := by decide +kernel
theorem dX3_readCompare_24 : decode cX3_readCompare 24 = .ok (.sipush 10018, 3) := by decide +kernel
theorem dX3_readCompare_27 : decode cX3_readCompare 27 = .ok (.ireturn, 1) := by decide +kernel
theorem dX3_readCompare_28 : decode cX3_readCompare 28 = .ok (.aload_n 0, 1) := by decide +kernel
theorem dX3_readCompare_29 : decode cX3_readCompare 29 = .ok (.sipush 317, 3) := by decide +kernel
theorem dX3_readCompare_32 : decode cX3_readCompare 32 = .ok (.invokevirtual 99, 3) := by decide +kernel
theorem dX3_readCompare_35 : decode cX3_readCompare 35 = .ok (.sipush 10019, 3) := by decide +kernel
theorem dX3_readCompare_38 : decode cX3_readCompare 38 = .ok (.ireturn, 1) := by decide +kernel
theorem dX3_opens_0 : decode cX3_opens 0 = .ok (.iload_n 1, 1) := by decide +kernel
theorem dX3_opens_1 : decode cX3_opens 1 = .ok (.bipush 6, 2) := by decide +kernel
theorem dX3_opens_3 : decode cX3_opens 3 = .ok (.if_icmp .lt 9, 3) := by decide +kernel
theorem dX3_opens_6 : decode cX3_opens 6 = .ok (.aload_n 0, 1) := by decide +kernel
theorem dX3_opens_7 : decode cX3_opens 7 = .ok (.iconst 4, 1) := by decide +kernel
theorem dX3_opens_8 : decode cX3_opens 8 = .ok (.iconst 0, 1) := by decide +kernel
theorem dX3_opens_9 : decode cX3_opens 9 = .ok (.invokevirtual 89, 3) := by decide +kernel
theorem dX3_opens_12 : decode cX3_opens 12 = .ok (.aload_n 0, 1) := by decide +kernel
theorem dX3_opens_13 : decode cX3_opens 13 = .ok (.dup, 1) := by decide +kernel
theorem dX3_opens_14 : decode cX3_opens 14 = .ok (.getfield 65, 3) := by decide +kernel
theorem dX3_opens_17 : decode cX3_opens 17 = .ok (.iconst 1, 1) := by decide +kernel
theorem dX3_opens_18 : decode cX3_opens 18 = .ok (.iadd, 1) := by decide +kernel
theorem dX3_opens_19 : decode cX3_opens 19 = .ok (.putfield 65, 3) := by decide +kernel
theorem dX3_opens_22 : decode cX3_opens 22 = .ok (.aload_n 0, 1) := by decide +kernel
theorem dX3_opens_23 : decode cX3_opens 23 = .ok (.invokevirtual 107, 3) := by decide +kernel
theorem dX3_opens_26 : decode cX3_opens 26 = .ok (.ireturn, 1) := by decide +kernel
theorem dX3_readSum_0 : decode cX3_readSum 0 = .ok (.aload_n 0, 1) := by decide +kernel
theorem dX3_readSum_1 : decode cX3_readSum 1 = .ok (.iload_n 1, 1) := by decide +kernel
theorem dX3_readSum_2 : decode cX3_readSum 2 = .ok (.invokevirtual 268, 3) := by decide +kernel
theorem dX3_readSum_5 : decode cX3_readSum 5 = .ok (.iconst 0, 1) := by decide +kernel
theorem dX3_readSum_6 : decode cX3_readSum 6 = .ok (.istore_n 2, 1) := by decide +kernel
theorem dX3_readSum_7 : decode cX3_readSum 7 = .ok (.iload_n 2, 1) := by decide +kernel
theorem dX3_readSum_8 : decode cX3_readSum 8 = .ok (.sipush 1600, 3) := by decide +kernel
theorem dX3_readSum_11 : decode cX3_readSum 11 = .ok (.if_icmp .ge 73, 3) := by decide +kernel
theorem dX3_readSum_14 : decode cX3_readSum 14 = .ok (.aload_n 0, 1) := by decide +kernel
theorem dX3_readSum_15 : decode cX3_readSum 15 = .ok (.invokevirtual 107, 3) := by decide +kernel
theorem dX3_readSum_18 : decode cX3_readSum 18 = .ok (.ifCond .eq 66, 3) := by decide +kernel
theorem dX3_readSum_21 : decode cX3_readSum 21 = .ok (.aload_n 0, 1) := by decide +kernel
theorem dX3_readSum_22 : decode cX3_readSum 22 = .ok (.sipush 299, 3) := by decide +kernel
theorem dX3_readSum_25 : decode cX3_readSum 25 = .ok (.invokevirtual 253, 3) := by decide +kernel
theorem dX3_readSum_28 : decode cX3_readSum 28 = .ok (.ifCond .eq 21, 3) := by decide +kernel
theorem dX3_readSum_31 : decode cX3_readSum 31 = .ok (.aload_n 0, 1) := by decide +kernel
theorem dX3_readSum_32 : decode cX3_readSum 32 = .ok (.iload_n 1, 1) := by decide +kernel
theorem dX3_readSum_33 : decode cX3_readSum 33 = .ok (.invokevirtual 268, 3) := by decide +kernel
theorem dX3_readSum_36 : decode cX3_readSum 36 = .ok (.aload_n 0, 1) := by decide +kernel
theorem dX3_readSum_37 : decode cX3_readSum 37 = .ok (.getfield 54, 3) := by decide +kernel
theorem dX3_readSum_40 : decode cX3_readSum 40 = .ok (.sipush 10011, 3) := by decide +kernel
theorem dX3_readSum_43 : decode cX3_readSum 43 = .ok (.invokevirtual 256, 3) := by decide +kernel
theorem dX3_readSum_46 : decode cX3_readSum 46 = .ok (.goto 32, 3) := by decide +kernel
theorem dX3_readSum_49 : decode cX3_readSum 49 = .ok (.aload_n 0, 1) := by decide +kernel
theorem dX3_readSum_50 : decode cX3_readSum 50 = .ok (.sipush 301, 3) := by decide +kernel
theorem dX3_readSum_53 : decode cX3_readSum 53 = .ok (.invokevirtual 253, 3) := by decide +kernel
theorem dX3_readSum_56 : decode cX3_readSum 56 = .ok (.ifCond .eq 21, 3) := by decide +kernel
theorem dX3_readSum_59 : decode cX3_readSum 59 = .ok (.aload_n 0, 1) := by decide +kernel
theorem dX3_readSum_60 : decode cX3_readSum 60 = .ok (.iload_n 1, 1) := by decide +kernel
theorem dX3_readSum_61 : decode cX3_readSum 61 = .ok (.invokevirtual 268, 3) := by decide +kernel
theorem dX3_readSum_64 : decode cX3_readSum 64 = .ok (.aload_n 0, 1) := by decide +kernel
theorem dX3_readSum_65 : decode cX3_readSum 65 = .ok (.getfield 54, 3) := by decide +kernel
theorem dX3_readSum_68 : decode cX3_readSum 68 = .ok (.sipush 10012, 3) := by decide +kernel
theorem dX3_readSum_71 : decode cX3_readSum 71 = .ok (.invokevirtual 256, 3) := by decide +kernel
theorem dX3_readSum_74 : decode cX3_readSum 74 = .ok (.goto 4, 3) := by decide +kernel
theorem dX3_readSum_77 : decode cX3_readSum 77 = .ok (.return_, 1) := by decide +kernel
theorem dX3_readSum_78 : decode cX3_readSum 78 = .ok (.iinc 2 1, 3) := by decide +kernel
theorem dX3_readSum_81 : decode cX3_readSum 81 = .ok (.goto (-74), 3) := by decide +kernel
theorem dX3_readSum_84 : decode cX3_readSum 84 = .ok (.return_, 1) := by decide +kernel
theorem dX3_readProduct_0 : decode cX3_readProduct 0 = .ok (.aload_n 0, 1) := by decide +kernel
theorem dX3_readProduct_1 : decode cX3_readProduct 1 = .ok (.iload_n 1, 1) := by decide +kernel
theorem dX3_readProduct_2 : decode cX3_readProduct 2 = .ok (.invokevirtual 271, 3) := by decide +kernel
theorem dX3_readProduct_5 : decode cX3_readProduct 5 = .ok (.iconst 0, 1) := by decide +kernel
theorem dX3_readProduct_6 : decode cX3_readProduct 6 = .ok (.istore_n 2, 1) := by decide +kernel
theorem dX3_readProduct_7 : decode cX3_readProduct 7 = .ok (.iload_n 2, 1) := by decide +kernel
theorem dX3_readProduct_8 : decode cX3_readProduct 8 = .ok (.sipush 1600, 3) := by decide +kernel
theorem dX3_readProduct_11 : decode cX3_readProduct 11 = .ok (.if_icmp .ge 73, 3) := by decide +kernel
theorem dX3_readProduct_14 : decode cX3_readProduct 14 = .ok (.aload_n 0, 1) := by decide +kernel
theorem dX3_readProduct_15 : decode cX3_readProduct 15 = .ok (.invokevirtual 107, 3) := by decide +kernel
theorem dX3_readProduct_18 : decode cX3_readProduct 18 = .ok (.ifCond .eq 66, 3) := by decide +kernel
theorem dX3_readProduct_21 : decode cX3_readProduct 21 = .ok (.aload_n 0, 1) := by decide +kernel
theorem dX3_readProduct_22 : decode cX3_readProduct 22 = .ok (.sipush 298, 3) := by decide +kernel
theorem dX3_readProduct_25 : decode cX3_readProduct 25 = .ok (.invokevirtual 253, 3) := by decide +kernel
theorem dX3_readProduct_28 : decode cX3_readProduct 28 = .ok (.ifCond .eq 21, 3) := by decide +kernel
theorem dX3_readProduct_31 : decode cX3_readProduct 31 = .ok (.aload_n 0, 1) := by decide +kernel
theorem dX3_readProduct_32 : decode cX3_readProduct 32 = .ok (.iload_n 1, 1) := by decide +kernel
theorem dX3_readProduct_33 : decode cX3_readProduct 33 = .ok (.invokevirtual 271, 3) := by decide +kernel
theorem dX3_readProduct_36 : decode cX3_readProduct 36 = .ok (.aload_n 0, 1) := by decide +kernel
theorem dX3_readProduct_37 : decode cX3_readProduct 37 = .ok (.getfield 54, 3) := by decide +kernel
theorem dX3_readProduct_40 : decode cX3_readProduct 40 = .ok (.sipush 10013, 3) := by decide +kernel
theorem dX3_readProduct_43 : decode cX3_readProduct 43 = .ok (.invokevirtual 256, 3) := by decide +kernel
theorem dX3_readProduct_46 : decode cX3_readProduct 46 = .ok (.goto 32, 3) := by decide +kernel
theorem dX3_readProduct_49 : decode cX3_readProduct 49 = .ok (.aload_n 0, 1) := by decide +kernel
theorem dX3_readProduct_50 : decode cX3_readProduct 50 = .ok (.sipush 303, 3) := by decide +kernel
theorem dX3_readProduct_53 : decode cX3_readProduct 53 = .ok (.invokevirtual 253, 3) := by decide +kernel
theorem dX3_readProduct_56 : decode cX3_readProduct 56 = .ok (.ifCond .eq 21, 3) := by decide +kernel
theorem dX3_readProduct_59 : decode cX3_readProduct 59 = .ok (.aload_n 0, 1) := by decide +kernel
theorem dX3_readProduct_60 : decode cX3_readProduct 60 = .ok (.iload_n 1, 1) := by decide +kernel
theorem dX3_readProduct_61 : decode cX3_readProduct 61 = .ok (.invokevirtual 271, 3) := by decide +kernel
theorem dX3_readProduct_64 : decode cX3_readProduct 64 = .ok (.aload_n 0, 1) := by decide +kernel
theorem dX3_readProduct_65 : decode cX3_readProduct 65 = .ok (.getfield 54, 3) := by decide +kernel
theorem dX3_readProduct_68 : decode cX3_readProduct 68 = .ok (.sipush 10014, 3) := by decide +kernel
theorem dX3_readProduct_71 : decode cX3_readProduct 71 = .ok (.invokevirtual 256, 3) := by decide +kernel
theorem dX3_readProduct_74 : decode cX3_readProduct 74 = .ok (.goto 4, 3) := by decide +kernel
theorem dX3_readProduct_77 : decode cX3_readProduct 77 = .ok (.return_, 1) := by decide +kernel
theorem dX3_readProduct_78 : decode cX3_readProduct 78 = .ok (.iinc 2 1, 3) := by decide +kernel
theorem dX3_readProduct_81 : decode cX3_readProduct 81 = .ok (.goto (-74), 3) := by decide +kernel
theorem dX3_readProduct_84 : decode cX3_readProduct 84 = .ok (.return_, 1) := by decide +kernel
theorem dX3_readPiece_0 : decode cX3_readPiece 0 = .ok (.aload_n 0, 1) := by decide +kernel
theorem dX3_readPiece_1 : decode cX3_readPiece 1 = .ok (.invokevirtual 74, 3) := by decide +kernel
theorem dX3_readPiece_4 : decode cX3_readPiece 4 = .ok (.istore_n 2, 1) := by decide +kernel
theorem dX3_readPiece_5 : decode cX3_readPiece 5 = .ok (.iload_n 2, 1) := by decide +kernel
theorem dX3_readPiece_6 : decode cX3_readPiece 6 = .ok (.invokestatic 274, 3) := by decide +kernel
theorem dX3_readPiece_9 : decode cX3_readPiece 9 = .ok (.istore_n 3, 1) := by decide +kernel
theorem dX3_readPiece_10 : decode cX3_readPiece 10 = .ok (.aload_n 0, 1) := by decide +kernel
theorem dX3_readPiece_11 : decode cX3_readPiece 11 = .ok (.bipush 31, 2) := by decide +kernel
theorem dX3_readPiece_13 : decode cX3_readPiece 13 = .ok (.invokevirtual 253, 3) := by decide +kernel
theorem dX3_readPiece_16 : decode cX3_readPiece 16 = .ok (.ifCond .eq 14, 3) := by decide +kernel
theorem dX3_readPiece_19 : decode cX3_readPiece 19 = .ok (.aload_n 0, 1) := by decide +kernel
theorem dX3_readPiece_20 : decode cX3_readPiece 20 = .ok (.iload_n 1, 1) := by decide +kernel
theorem dX3_readPiece_21 : decode cX3_readPiece 21 = .ok (.sipush 10015, 3) := by decide +kernel
theorem dX3_readPiece_24 : decode cX3_readPiece 24 = .ok (.invokevirtual 277, 3) := by decide +kernel
theorem dX3_readPiece_27 : decode cX3_readPiece 27 = .ok (.goto 100, 3) := by decide +kernel
theorem dX3_readPiece_30 : decode cX3_readPiece 30 = .ok (.aload_n 0, 1) := by decide +kernel
theorem dX3_readPiece_31 : decode cX3_readPiece 31 = .ok (.bipush 32, 2) := by decide +kernel
theorem dX3_readPiece_33 : decode cX3_readPiece 33 = .ok (.invokevirtual 253, 3) := by decide +kernel
theorem dX3_readPiece_36 : decode cX3_readPiece 36 = .ok (.ifCond .eq 14, 3) := by decide +kernel
theorem dX3_readPiece_39 : decode cX3_readPiece 39 = .ok (.aload_n 0, 1) := by decide +kernel
theorem dX3_readPiece_40 : decode cX3_readPiece 40 = .ok (.iload_n 1, 1) := by decide +kernel
theorem dX3_readPiece_41 : decode cX3_readPiece 41 = .ok (.sipush 10016, 3) := by decide +kernel
theorem dX3_readPiece_44 : decode cX3_readPiece 44 = .ok (.invokevirtual 277, 3) := by decide +kernel
theorem dX3_readPiece_47 : decode cX3_readPiece 47 = .ok (.goto 80, 3) := by decide +kernel
theorem dX3_readPiece_50 : decode cX3_readPiece 50 = .ok (.iload_n 3, 1) := by decide +kernel
theorem dX3_readPiece_51 : decode cX3_readPiece 51 = .ok (.iconst (-1), 1) := by decide +kernel
theorem dX3_readPiece_52 : decode cX3_readPiece 52 = .ok (.if_icmp .eq 28, 3) := by decide +kernel
theorem dX3_readPiece_55 : decode cX3_readPiece 55 = .ok (.aload_n 0, 1) := by decide +kernel
theorem dX3_readPiece_56 : decode cX3_readPiece 56 = .ok (.dup, 1) := by decide +kernel
theorem dX3_readPiece_57 : decode cX3_readPiece 57 = .ok (.getfield 65, 3) := by decide +kernel
theorem dX3_readPiece_60 : decode cX3_readPiece 60 = .ok (.iconst 1, 1) := by decide +kernel
theorem dX3_readPiece_61 : decode cX3_readPiece 61 = .ok (.iadd, 1) := by decide +kernel
theorem dX3_readPiece_62 : decode cX3_readPiece 62 = .ok (.putfield 65, 3) := by decide +kernel
theorem dX3_readPiece_65 : decode cX3_readPiece 65 = .ok (.aload_n 0, 1) := by decide +kernel
theorem dX3_readPiece_66 : decode cX3_readPiece 66 = .ok (.getfield 54, 3) := by decide +kernel
theorem dX3_readPiece_69 : decode cX3_readPiece 69 = .ok (.sipush 10000, 3) := by decide +kernel
theorem dX3_readPiece_72 : decode cX3_readPiece 72 = .ok (.iload_n 3, 1) := by decide +kernel
theorem dX3_readPiece_73 : decode cX3_readPiece 73 = .ok (.iadd, 1) := by decide +kernel
theorem dX3_readPiece_74 : decode cX3_readPiece 74 = .ok (.invokevirtual 256, 3) := by decide +kernel
theorem dX3_readPiece_77 : decode cX3_readPiece 77 = .ok (.goto 50, 3) := by decide +kernel
theorem dX3_readPiece_80 : decode cX3_readPiece 80 = .ok (.iload_n 2, 1) := by decide +kernel
theorem dX3_readPiece_81 : decode cX3_readPiece 81 = .ok (.sipush 296, 3) := by decide +kernel
theorem dX3_readPiece_84 : decode cX3_readPiece 84 = .ok (.if_icmp .ne 28, 3) := by decide +kernel
theorem dX3_readPiece_87 : decode cX3_readPiece 87 = .ok (.aload_n 0, 1) := by decide +kernel
theorem dX3_readPiece_88 : decode cX3_readPiece 88 = .ok (.iload_n 1, 1) := by decide +kernel
theorem dX3_readPiece_89 : decode cX3_readPiece 89 = .ok (.invokevirtual 262, 3) := by decide +kernel
theorem dX3_readPiece_92 : decode cX3_readPiece 92 = .ok (.ifCond .eq 35, 3) := by decide +kernel
theorem dX3_readPiece_95 : decode cX3_readPiece 95 = .ok (.aload_n 0, 1) := by decide +kernel
theorem dX3_readPiece_96 : decode cX3_readPiece 96 = .ok (.iload_n 1, 1) := by decide +kernel
theorem dX3_readPiece_97 : decode cX3_readPiece 97 = .ok (.iconst 1, 1) := by decide +kernel
theorem dX3_readPiece_98 : decode cX3_readPiece 98 = .ok (.iadd, 1) := by decide +kernel
theorem dX3_readPiece_99 : decode cX3_readPiece 99 = .ok (.invokevirtual 238, 3) := by decide +kernel
theorem dX3_readPiece_102 : decode cX3_readPiece 102 = .ok (.aload_n 0, 1) := by decide +kernel
theorem dX3_readPiece_103 : decode cX3_readPiece 103 = .ok (.sipush 297, 3) := by decide +kernel
theorem dX3_readPiece_106 : decode cX3_readPiece 106 = .ok (.invokevirtual 99, 3) := by decide +kernel
theorem dX3_readPiece_109 : decode cX3_readPiece 109 = .ok (.goto 18, 3) := by decide +kernel
theorem dX3_readPiece_112 : decode cX3_readPiece 112 = .ok (.aload_n 0, 1) := by decide +kernel
theorem dX3_readPiece_113 : decode cX3_readPiece 113 = .ok (.getfield 54, 3) := by decide +kernel
theorem dX3_readPiece_116 : decode cX3_readPiece 116 = .ok (.aload_n 0, 1) := by decide +kernel
theorem dX3_readPiece_117 : decode cX3_readPiece 117 = .ok (.iconst 0, 1) := by decide +kernel
theorem dX3_readPiece_118 : decode cX3_readPiece 118 = .ok (.sipush 9999, 3) := by decide +kernel
theorem dX3_readPiece_121 : decode cX3_readPiece 121 = .ok (.invokevirtual 103, 3) := by decide +kernel
theorem dX3_readPiece_124 : decode cX3_readPiece 124 = .ok (.invokevirtual 256, 3) := by decide +kernel
theorem dX3_readPiece_127 : decode cX3_readPiece 127 = .ok (.return_, 1) := by decide +kernel
theorem dX3_readOfTwo_0 : decode cX3_readOfTwo 0 = .ok (.aload_n 0, 1) := by decide +kernel
theorem dX3_readOfTwo_1 : decode cX3_readOfTwo 1 = .ok (.invokevirtual 74, 3) := by decide +kernel
theorem dX3_readOfTwo_4 : decode cX3_readOfTwo 4 = .ok (.sipush 296, 3) := by decide +kernel
theorem dX3_readOfTwo_7 : decode cX3_readOfTwo 7 = .ok (.if_icmp .eq 12, 3) := by decide +kernel
theorem dX3_readOfTwo_10 : decode cX3_readOfTwo 10 = .ok (.aload_n 0, 1) := by decide +kernel
theorem dX3_readOfTwo_11 : decode cX3_readOfTwo 11 = .ok (.iconst 1, 1) := by decide +kernel
theorem dX3_readOfTwo_12 : decode cX3_readOfTwo 12 = .ok (.iconst 0, 1) := by decide +kernel
theorem dX3_readOfTwo_13 : decode cX3_readOfTwo 13 = .ok (.invokevirtual 89, 3) := by decide +kernel
theorem dX3_readOfTwo_16 : decode cX3_readOfTwo 16 = .ok (.goto 47, 3) := by decide +kernel
theorem dX3_readOfTwo_19 : decode cX3_readOfTwo 19 = .ok (.aload_n 0, 1) := by decide +kernel
theorem dX3_readOfTwo_20 : decode cX3_readOfTwo 20 = .ok (.iload_n 1, 1) := by decide +kernel
theorem dX3_readOfTwo_21 : decode cX3_readOfTwo 21 = .ok (.invokevirtual 262, 3) := by decide +kernel
theorem dX3_readOfTwo_24 : decode cX3_readOfTwo 24 = .ok (.ifCond .eq 39, 3) := by decide +kernel
theorem dX3_readOfTwo_27 : decode cX3_readOfTwo 27 = .ok (.aload_n 0, 1) := by decide +kernel
theorem dX3_readOfTwo_28 : decode cX3_readOfTwo 28 = .ok (.iload_n 1, 1) := by decide +kernel
theorem dX3_readOfTwo_29 : decode cX3_readOfTwo 29 = .ok (.iconst 1, 1) := by decide +kernel
theorem dX3_readOfTwo_30 : decode cX3_readOfTwo 30 = .ok (.iadd, 1) := by decide +kernel
theorem dX3_readOfTwo_31 : decode cX3_readOfTwo 31 = .ok (.invokevirtual 238, 3) := by decide +kernel
theorem dX3_readOfTwo_34 : decode cX3_readOfTwo 34 = .ok (.aload_n 0, 1) := by decide +kernel
theorem dX3_readOfTwo_35 : decode cX3_readOfTwo 35 = .ok (.sipush 300, 3) := by decide +kernel
theorem dX3_readOfTwo_38 : decode cX3_readOfTwo 38 = .ok (.invokevirtual 99, 3) := by decide +kernel
theorem dX3_readOfTwo_41 : decode cX3_readOfTwo 41 = .ok (.aload_n 0, 1) := by decide +kernel
theorem dX3_readOfTwo_42 : decode cX3_readOfTwo 42 = .ok (.iload_n 1, 1) := by decide +kernel
theorem dX3_readOfTwo_43 : decode cX3_readOfTwo 43 = .ok (.iconst 1, 1) := by decide +kernel
theorem dX3_readOfTwo_44 : decode cX3_readOfTwo 44 = .ok (.iadd, 1) := by decide +kernel
theorem dX3_readOfTwo_45 : decode cX3_readOfTwo 45 = .ok (.invokevirtual 238, 3) := by decide +kernel
theorem dX3_readOfTwo_48 : decode cX3_readOfTwo 48 = .ok (.aload_n 0, 1) := by decide +kernel
theorem dX3_readOfTwo_49 : decode cX3_readOfTwo 49 = .ok (.sipush 297, 3) := by decide +kernel
theorem dX3_readOfTwo_52 : decode cX3_readOfTwo 52 = .ok (.invokevirtual 99, 3) := by decide +kernel
theorem dX3_readOfTwo_55 : decode cX3_readOfTwo 55 = .ok (.aload_n 0, 1) := by decide +kernel
theorem dX3_readOfTwo_56 : decode cX3_readOfTwo 56 = .ok (.getfield 54, 3) := by decide +kernel
theorem dX3_readOfTwo_59 : decode cX3_readOfTwo 59 = .ok (.iload_n 2, 1) := by decide +kernel
theorem dX3_readOfTwo_60 : decode cX3_readOfTwo 60 = .ok (.invokevirtual 256, 3) := by decide +kernel
theorem dX3_readOfTwo_63 : decode cX3_readOfTwo 63 = .ok (.return_, 1) := by decide +kernel
theorem dX3_factOf_0 : decode cX3_factOf 0 = .ok (.iload_n 0, 1) := by decide +kernel
theorem dX3_factOf_1 : decode cX3_factOf 1 = .ok (.iconst 2, 1) := by decide +kernel
theorem dX3_factOf_2 : decode cX3_factOf 2 = .ok (.if_icmp .ne 6, 3) := by decide +kernel
theorem dX3_factOf_5 : decode cX3_factOf 5 = .ok (.bipush 7, 2) := by decide +kernel
theorem dX3_factOf_7 : decode cX3_factOf 7 = .ok (.ireturn, 1) := by decide +kernel
theorem dX3_factOf_8 : decode cX3_factOf 8 = .ok (.iload_n 0, 1) := by decide +kernel
theorem dX3_factOf_9 : decode cX3_factOf 9 = .ok (.bipush 24, 2) := by decide +kernel
theorem dX3_factOf_11 : decode cX3_factOf 11 = .ok (.if_icmp .lt 16, 3) := by decide +kernel
theorem dX3_factOf_14 : decode cX3_factOf 14 = .ok (.iload_n 0, 1) := by decide +kernel
theorem dX3_factOf_15 : decode cX3_factOf 15 = .ok (.bipush 30, 2) := by decide +kernel
theorem dX3_factOf_17 : decode cX3_factOf 17 = .ok (.if_icmp .gt 10, 3) := by decide +kernel
theorem dX3_factOf_20 : decode cX3_factOf 20 = .ok (.iload_n 0, 1) := by decide +kernel
theorem dX3_factOf_21 : decode cX3_factOf 21 = .ok (.bipush 24, 2) := by decide +kernel
theorem dX3_factOf_23 : decode cX3_factOf 23 = .ok (.isub, 1) := by decide +kernel
theorem dX3_factOf_24 : decode cX3_factOf 24 = .ok (.goto 4, 3) := by decide +kernel
theorem dX3_factOf_27 : decode cX3_factOf 27 = .ok (.iconst (-1), 1) := by decide +kernel
theorem dX3_factOf_28 : decode cX3_factOf 28 = .ok (.ireturn, 1) := by decide +kernel
theorem dX4_init_0 : decode cX4_init 0 = .ok (.aload_n 0, 1) := by decide +kernel
theorem dX4_init_1 : decode cX4_init 1 = .ok (.invokespecial 3, 3) := by decide +kernel
theorem dX4_init_4 : decode cX4_init 4 = .ok (.aload_n 0, 1) := by decide +kernel
theorem dX4_init_5 : decode cX4_init 5 = .ok (.bipush 12, 2) := by decide +kernel
theorem dX4_init_7 : decode cX4_init 7 = .ok (.newarray .int, 2) := by decide +kernel
theorem dX4_init_9 : decode cX4_init 9 = .ok (.putfield 9, 3) := by decide +kernel
theorem dX4_init_12 : decode cX4_init 12 = .ok (.aload_n 0, 1) := by decide +kernel
theorem dX4_init_13 : decode cX4_init 13 = .ok (.bipush 12, 2) := by decide +kernel
theorem dX4_init_15 : decode cX4_init 15 = .ok (.newarray .int, 2) := by decide +kernel
theorem dX4_init_17 : decode cX4_init 17 = .ok (.putfield 15, 3) := by decide +kernel
theorem dX4_init_20 : decode cX4_init 20 = .ok (.aload_n 0, 1) := by decide +kernel
theorem dX4_init_21 : decode cX4_init 21 = .ok (.bipush 12, 2) := by decide +kernel
theorem dX4_init_23 : decode cX4_init 23 = .ok (.newarray .int, 2) := by decide +kernel
theorem dX4_init_25 : decode cX4_init 25 = .ok (.putfield 18, 3) := by decide +kernel
theorem dX4_init_28 : decode cX4_init 28 = .ok (.aload_n 0, 1) := by decide +kernel
theorem dX4_init_29 : decode cX4_init 29 = .ok (.bipush 12, 2) := by decide +kernel
theorem dX4_init_31 : decode cX4_init 31 = .ok (.newarray .int, 2) := by decide +kernel
theorem dX4_init_33 : decode cX4_init 33 = .ok (.putfield 21, 3) := by decide +kernel
theorem dX4_init_36 : decode cX4_init 36 = .ok (.aload_n 0, 1) := by decide +kernel
theorem dX4_init_37 : decode cX4_init 37 = .ok (.sipush 1600, 3) := by decide +kernel
theorem dX4_init_40 : decode cX4_init 40 = .ok (.newarray .int, 2) := by decide +kernel
theorem dX4_init_42 : decode cX4_init 42 = .ok (.putfield 24, 3) := by decide +kernel
theorem dX4_init_45 : decode cX4_init 45 = .ok (.aload_n 0, 1) := by decide +kernel
theorem dX4_init_46 : decode cX4_init 46 = .ok (.bipush 64, 2) := by decide +kernel
theorem dX4_init_48 : decode cX4_init 48 = .ok (.newarray .int, 2) := by decide +kernel
theorem dX4_init_50 : decode cX4_init 50 = .ok (.putfield 27, 3) := by decide +kernel
theorem dX4_init_53 : decode cX4_init 53 = .ok (.return_, 1) := by decide +kernel
theorem dX4_clear_0 : decode cX4_clear 0 = .ok (.aload_n 0, 1) := by decide +kernel
theorem dX4_clear_1 : decode cX4_clear 1 = .ok (.iconst 0, 1) := by decide +kernel
theorem dX4_clear_2 : decode cX4_clear 2 = .ok (.putfield 30, 3) := by decide +kernel
theorem dX4_clear_5 : decode cX4_clear 5 = .ok (.aload_n 0, 1) := by decide +kernel
theorem dX4_clear_6 : decode cX4_clear 6 = .ok (.iconst 0, 1) := by decide +kernel
theorem dX4_clear_7 : decode cX4_clear 7 = .ok (.putfield 34, 3) := by decide +kernel
theorem dX4_clear_10 : decode cX4_clear 10 = .ok (.return_, 1) := by decide +kernel
theorem dX4_add_0 : decode cX4_add 0 = .ok (.aload_n 0, 1) := by decide +kernel
theorem dX4_add_1 : decode cX4_add 1 = .ok (.getfield 34, 3) := by decide +kernel
theorem dX4_add_4 : decode cX4_add 4 = .ok (.aload_n 0, 1) := by decide +kernel
theorem dX4_add_5 : decode cX4_add 5 = .ok (.getfield 24, 3) := by decide +kernel
theorem dX4_add_8 : decode cX4_add 8 = .ok (.arraylength, 1) := by decide +kernel
theorem dX4_add_9 : decode cX4_add 9 = .ok (.if_icmp .ge 23, 3) := by decide +kernel
theorem dX4_add_12 : decode cX4_add 12 = .ok (.aload_n 0, 1) := by decide +kernel
theorem dX4_add_13 : decode cX4_add 13 = .ok (.getfield 24, 3) := by decide +kernel
theorem dX4_add_16 : decode cX4_add 16 = .ok (.aload_n 0, 1) := by decide +kernel
theorem dX4_add_17 : decode cX4_add 17 = .ok (.getfield 34, 3) := by decide +kernel
theorem dX4_add_20 : decode cX4_add 20 = .ok (.iload_n 1, 1) := by decide +kernel
theorem dX4_add_21 : decode cX4_add 21 = .ok (.iastore, 1) := by decide +kernel
theorem dX4_add_22 : decode cX4_add 22 = .ok (.aload_n 0, 1) := by decide +kernel
theorem dX4_add_23 : decode cX4_add 23 = .ok (.dup, 1) := by decide +kernel
theorem dX4_add_24 : decode cX4_add 24 = .ok (.getfield 34, 3) := by decide +kernel
theorem dX4_add_27 : decode cX4_add 27 = .ok (.iconst 1, 1) := by decide +kernel
theorem dX4_add_28 : decode cX4_add 28 = .ok (.iadd, 1) := by decide +kernel
theorem dX4_add_29 : decode cX4_add 29 = .ok (.putfield 34, 3) := by decide +kernel
theorem dX4_add_32 : decode cX4_add 32 = .ok (.return_, 1) := by decide +kernel
theorem dX4_ruleFor_0 : decode cX4_ruleFor 0 = .ok (.iconst 0, 1) := by decide +kernel
theorem dX4_ruleFor_1 : decode cX4_ruleFor 1 = .ok (.istore_n 3, 1) := by decide +kernel
theorem dX4_ruleFor_2 : decode cX4_ruleFor 2 = .ok (.iload_n 3, 1) := by decide +kernel
theorem dX4_ruleFor_3 : decode cX4_ruleFor 3 = .ok (.aload_n 0, 1) := by decide +kernel
theorem dX4_ruleFor_4 : decode cX4_ruleFor 4 = .ok (.getfield 30, 3) := by decide +kernel
theorem dX4_ruleFor_7 : decode cX4_ruleFor 7 = .ok (.if_icmp .ge 47, 3) := by decide +kernel
theorem dX4_ruleFor_10 : decode cX4_ruleFor 10 = .ok (.aload_n 0, 1) := by decide +kernel
theorem dX4_ruleFor_11 : decode cX4_ruleFor 11 = .ok (.getfield 9, 3) := by decide +kernel
theorem dX4_ruleFor_14 : decode cX4_ruleFor 14 = .ok (.iload_n 3, 1) := by decide +kernel
theorem dX4_ruleFor_15 : decode cX4_ruleFor 15 = .ok (.invokestatic 37, 3) := by decide +kernel
theorem dX4_ruleFor_18 : decode cX4_ruleFor 18 = .ok (.iload_n 1, 1) := by decide +kernel
theorem dX4_ruleFor_19 : decode cX4_ruleFor 19 = .ok (.if_icmp .ne 29, 3) := by decide +kernel
theorem dX4_ruleFor_22 : decode cX4_ruleFor 22 = .ok (.aload_n 0, 1) := by decide +kernel
theorem dX4_ruleFor_23 : decode cX4_ruleFor 23 = .ok (.aload_n 0, 1) := by decide +kernel
theorem dX4_ruleFor_24 : decode cX4_ruleFor 24 = .ok (.getfield 18, 3) := by decide +kernel
theorem dX4_ruleFor_27 : decode cX4_ruleFor 27 = .ok (.iload_n 3, 1) := by decide +kernel
theorem dX4_ruleFor_28 : decode cX4_ruleFor 28 = .ok (.invokestatic 37, 3) := by decide +kernel
theorem dX4_ruleFor_31 : decode cX4_ruleFor 31 = .ok (.aload_n 0, 1) := by decide +kernel
theorem dX4_ruleFor_32 : decode cX4_ruleFor 32 = .ok (.getfield 21, 3) := by decide +kernel
theorem dX4_ruleFor_35 : decode cX4_ruleFor 35 = .ok (.iload_n 3, 1) := by decide +kernel
theorem dX4_ruleFor_36 : decode cX4_ruleFor 36 = .ok (.invokestatic 37, 3) := by decide +kernel
theorem dX4_ruleFor_39 : decode cX4_ruleFor 39 = .ok (.aload_n 2, 1) := by decide +kernel
theorem dX4_ruleFor_40 : decode cX4_ruleFor 40 = .ok (.invokevirtual 41, 3) := by decide +kernel
theorem dX4_ruleFor_43 : decode cX4_ruleFor 43 = .ok (.ifCond .eq 5, 3) := by decide +kernel
theorem dX4_ruleFor_46 : decode cX4_ruleFor 46 = .ok (.iload_n 3, 1) := by decide +kernel
theorem dX4_ruleFor_47 : decode cX4_ruleFor 47 = .ok (.ireturn, 1) := by decide +kernel
theorem dX4_ruleFor_48 : decode cX4_ruleFor 48 = .ok (.iinc 3 1, 3) := by decide +kernel
theorem dX4_ruleFor_51 : decode cX4_ruleFor 51 = .ok (.goto (-49), 3) := by decide +kernel
theorem dX4_ruleFor_54 : decode cX4_ruleFor 54 = .ok (.iconst (-1), 1) := by decide +kernel
theorem dX4_ruleFor_55 : decode cX4_ruleFor 55 = .ok (.ireturn, 1) := by decide +kernel
theorem dX4_hoursOf_0 : decode cX4_hoursOf 0 = .ok (.aload_n 0, 1) := by decide +kernel
theorem dX4_hoursOf_1 : decode cX4_hoursOf 1 = .ok (.aload_n 0, 1) := by decide +kernel
theorem dX4_hoursOf_2 : decode cX4_hoursOf 2 = .ok (.getfield 15, 3) := by decide +kernel
theorem dX4_hoursOf_5 : decode cX4_hoursOf 5 = .ok (.iload_n 1, 1) := by decide +kernel
theorem dX4_hoursOf_6 : decode cX4_hoursOf 6 = .ok (.invokestatic 37, 3) := by decide +kernel
theorem dX4_hoursOf_9 : decode cX4_hoursOf 9 = .ok (.aload_n 0, 1) := by decide +kernel
theorem dX4_hoursOf_10 : decode cX4_hoursOf 10 = .ok (.getfield 18, 3) := by decide +kernel
theorem dX4_hoursOf_13 : decode cX4_hoursOf 13 = .ok (.iload_n 1, 1) := by decide +kernel
theorem dX4_hoursOf_14 : decode cX4_hoursOf 14 = .ok (.invokestatic 37, 3) := by decide +kernel
theorem dX4_hoursOf_17 : decode cX4_hoursOf 17 = .ok (.aload_n 2, 1) := by decide +kernel
theorem dX4_hoursOf_18 : decode cX4_hoursOf 18 = .ok (.invokevirtual 41, 3) := by decide +kernel
theorem dX4_hoursOf_21 : decode cX4_hoursOf 21 = .ok (.ireturn, 1) := by decide +kernel
theorem dX4_valueOf_0 : decode cX4_valueOf 0 = .ok (.iconst 0, 1) := by decide +kernel
theorem dX4_valueOf_1 : decode cX4_valueOf 1 = .ok (.istore 4, 2) := by decide +kernel
theorem dX4_valueOf_3 : decode cX4_valueOf 3 = .ok (.iconst 0, 1) := by decide +kernel
theorem dX4_valueOf_4 : decode cX4_valueOf 4 = .ok (.iload_n 1, 1) := by decide +kernel
theorem dX4_valueOf_5 : decode cX4_valueOf 5 = .ok (.invokestatic 45, 3) := by decide +kernel
theorem dX4_valueOf_8 : decode cX4_valueOf 8 = .ok (.istore 5, 2) := by decide +kernel
theorem dX4_valueOf_10 : decode cX4_valueOf 10 = .ok (.iload 5, 2) := by decide +kernel
theorem dX4_valueOf_12 : decode cX4_valueOf 12 = .ok (.iload_n 2, 1) := by decide +kernel
theorem dX4_valueOf_13 : decode cX4_valueOf 13 = .ok (.if_icmp .ge 148, 3) := by decide +kernel
theorem dX4_valueOf_16 : decode cX4_valueOf 16 = .ok (.iload 5, 2) := by decide +kernel
theorem dX4_valueOf_18 : decode cX4_valueOf 18 = .ok (.aload_n 0, 1) := by decide +kernel
theorem dX4_valueOf_19 : decode cX4_valueOf 19 = .ok (.getfield 24, 3) := by decide +kernel
theorem dX4_valueOf_22 : decode cX4_valueOf 22 = .ok (.arraylength, 1) := by decide +kernel
theorem dX4_valueOf_23 : decode cX4_valueOf 23 = .ok (.if_icmp .ge 138, 3) := by decide +kernel
theorem dX4_valueOf_26 : decode cX4_valueOf 26 = .ok (.aload_n 0, 1) := by decide +kernel
theorem dX4_valueOf_27 : decode cX4_valueOf 27 = .ok (.getfield 24, 3) := by decide +kernel
theorem dX4_valueOf_30 : decode cX4_valueOf 30 = .ok (.iload 5, 2) := by decide +kernel
theorem dX4_valueOf_32 : decode cX4_valueOf 32 = .ok (.iaload, 1) := by decide +kernel
theorem dX4_valueOf_33 : decode cX4_valueOf 33 = .ok (.istore 6, 2) := by decide +kernel
theorem dX4_valueOf_35 : decode cX4_valueOf 35 = .ok (.iload 6, 2) := by decide +kernel
theorem dX4_valueOf_37 : decode cX4_valueOf 37 = .ok (.sipush 10008, 3) := by decide +kernel
theorem dX4_valueOf_40 : decode cX4_valueOf 40 = .ok (.if_icmp .ge 41, 3) := by decide +kernel
theorem dX4_valueOf_43 : decode cX4_valueOf 43 = .ok (.aload_n 0, 1) := by decide +kernel
theorem dX4_valueOf_44 : decode cX4_valueOf 44 = .ok (.getfield 27, 3) := by decide +kernel
theorem dX4_valueOf_47 : decode cX4_valueOf 47 = .ok (.iload 4, 2) := by decide +kernel
theorem dX4_valueOf_49 : decode cX4_valueOf 49 = .ok (.iload 6, 2) := by decide +kernel
theorem dX4_valueOf_51 : decode cX4_valueOf 51 = .ok (.sipush 10000, 3) := by decide +kernel
theorem dX4_valueOf_54 : decode cX4_valueOf 54 = .ok (.if_icmp .ge 8, 3) := by decide +kernel
theorem dX4_valueOf_57 : decode cX4_valueOf 57 = .ok (.iload 6, 2) := by decide +kernel
theorem dX4_valueOf_59 : decode cX4_valueOf 59 = .ok (.goto 13, 3) := by decide +kernel
theorem dX4_valueOf_62 : decode cX4_valueOf 62 = .ok (.aload_n 3, 1) := by decide +kernel
theorem dX4_valueOf_63 : decode cX4_valueOf 63 = .ok (.iload 6, 2) := by decide +kernel
theorem dX4_valueOf_65 : decode cX4_valueOf 65 = .ok (.sipush 10000, 3) := by decide +kernel
theorem dX4_valueOf_68 : decode cX4_valueOf 68 = .ok (.isub, 1) := by decide +kernel
theorem dX4_valueOf_69 : decode cX4_valueOf 69 = .ok (.invokestatic 37, 3) := by decide +kernel
theorem dX4_valueOf_72 : decode cX4_valueOf 72 = .ok (.invokestatic 51, 3) := by decide +kernel
theorem dX4_valueOf_75 : decode cX4_valueOf 75 = .ok (.iinc 4 1, 3) := by decide +kernel
theorem dX4_valueOf_78 : decode cX4_valueOf 78 = .ok (.goto 77, 3) := by decide +kernel
theorem dX4_valueOf_81 : decode cX4_valueOf 81 = .ok (.iload 6, 2) := by decide +kernel
theorem dX4_valueOf_83 : decode cX4_valueOf 83 = .ok (.sipush 10010, 3) := by decide +kernel
theorem dX4_valueOf_86 : decode cX4_valueOf 86 = .ok (.if_icmp .ne 30, 3) := by decide +kernel
theorem dX4_valueOf_89 : decode cX4_valueOf 89 = .ok (.aload_n 0, 1) := by decide +kernel
theorem dX4_valueOf_90 : decode cX4_valueOf 90 = .ok (.getfield 27, 3) := by decide +kernel
theorem dX4_valueOf_93 : decode cX4_valueOf 93 = .ok (.iload 4, 2) := by decide +kernel
theorem dX4_valueOf_95 : decode cX4_valueOf 95 = .ok (.iconst 1, 1) := by decide +kernel
theorem dX4_valueOf_96 : decode cX4_valueOf 96 = .ok (.isub, 1) := by decide +kernel
theorem dX4_valueOf_97 : decode cX4_valueOf 97 = .ok (.iconst 1, 1) := by decide +kernel
theorem dX4_valueOf_98 : decode cX4_valueOf 98 = .ok (.aload_n 0, 1) := by decide +kernel
theorem dX4_valueOf_99 : decode cX4_valueOf 99 = .ok (.getfield 27, 3) := by decide +kernel
theorem dX4_valueOf_102 : decode cX4_valueOf 102 = .ok (.iload 4, 2) := by decide +kernel
theorem dX4_valueOf_104 : decode cX4_valueOf 104 = .ok (.iconst 1, 1) := by decide +kernel
theorem dX4_valueOf_105 : decode cX4_valueOf 105 = .ok (.isub, 1) := by decide +kernel
theorem dX4_valueOf_106 : decode cX4_valueOf 106 = .ok (.invokestatic 37, 3) := by decide +kernel
theorem dX4_valueOf_109 : decode cX4_valueOf 109 = .ok (.isub, 1) := by decide +kernel
theorem dX4_valueOf_110 : decode cX4_valueOf 110 = .ok (.invokestatic 51, 3) := by decide +kernel
theorem dX4_valueOf_113 : decode cX4_valueOf 113 = .ok (.goto 42, 3) := by decide +kernel
theorem dX4_valueOf_116 : decode cX4_valueOf 116 = .ok (.iinc 4 (-1), 3) := by decide +kernel
theorem dX4_valueOf_119 : decode cX4_valueOf 119 = .ok (.aload_n 0, 1) := by decide +kernel
theorem dX4_valueOf_120 : decode cX4_valueOf 120 = .ok (.getfield 27, 3) := by decide +kernel
theorem dX4_valueOf_123 : decode cX4_valueOf 123 = .ok (.iload 4, 2) := by decide +kernel
theorem dX4_valueOf_125 : decode cX4_valueOf 125 = .ok (.iconst 1, 1) := by decide +kernel
theorem dX4_valueOf_126 : decode cX4_valueOf 126 = .ok (.isub, 1) := by decide +kernel
theorem dX4_valueOf_127 : decode cX4_valueOf 127 = .ok (.iload 6, 2) := by decide +kernel
theorem dX4_valueOf_129 : decode cX4_valueOf 129 = .ok (.aload_n 0, 1) := by decide +kernel
theorem dX4_valueOf_130 : decode cX4_valueOf 130 = .ok (.getfield 27, 3) := by decide +kernel
theorem dX4_valueOf_133 : decode cX4_valueOf 133 = .ok (.iload 4, 2) := by decide +kernel
theorem dX4_valueOf_135 : decode cX4_valueOf 135 = .ok (.iconst 1, 1) := by decide +kernel
theorem dX4_valueOf_136 : decode cX4_valueOf 136 = .ok (.isub, 1) := by decide +kernel
theorem dX4_valueOf_137 : decode cX4_valueOf 137 = .ok (.invokestatic 37, 3) := by decide +kernel
theorem dX4_valueOf_140 : decode cX4_valueOf 140 = .ok (.aload_n 0, 1) := by decide +kernel
theorem dX4_valueOf_141 : decode cX4_valueOf 141 = .ok (.getfield 27, 3) := by decide +kernel
theorem dX4_valueOf_144 : decode cX4_valueOf 144 = .ok (.iload 4, 2) := by decide +kernel
theorem dX4_valueOf_146 : decode cX4_valueOf 146 = .ok (.invokestatic 37, 3) := by decide +kernel
theorem dX4_valueOf_149 : decode cX4_valueOf 149 = .ok (.invokestatic 55, 3) := by decide +kernel
theorem dX4_valueOf_152 : decode cX4_valueOf 152 = .ok (.invokestatic 51, 3) := by decide +kernel
theorem dX4_valueOf_155 : decode cX4_valueOf 155 = .ok (.iinc 5 1, 3) := by decide +kernel
theorem dX4_valueOf_158 : decode cX4_valueOf 158 = .ok (.goto (-148), 3) := by decide +kernel
theorem dX4_valueOf_161 : decode cX4_valueOf 161 = .ok (.aload_n 0, 1) := by decide +kernel
theorem dX4_valueOf_162 : decode cX4_valueOf 162 = .ok (.getfield 27, 3) := by decide +kernel
theorem dX4_valueOf_165 : decode cX4_valueOf 165 = .ok (.iconst 0, 1) := by decide +kernel
theorem dX4_valueOf_166 : decode cX4_valueOf 166 = .ok (.invokestatic 37, 3) := by decide +kernel
theorem dX4_valueOf_169 : decode cX4_valueOf 169 = .ok (.ireturn, 1) := by decide +kernel
theorem dX4_joined_0 : decode cX4_joined 0 = .ok (.iload_n 0, 1) := by decide +kernel
theorem dX4_joined_1 : decode cX4_joined 1 = .ok (.tableswitch 122 10011 10018 #[47, 56, 65, 74, 88, 94, 100, 111], 47) := by decide +kernel
theorem dX4_joined_48 : decode cX4_joined 48 = .ok (.iload_n 1, 1) := by decide +kernel
theorem dX4_joined_49 : decode cX4_joined 49 = .ok (.i2l, 1) := by decide +kernel
theorem dX4_joined_50 : decode cX4_joined 50 = .ok (.iload_n 2, 1) := by decide +kernel
theorem dX4_joined_51 : decode cX4_joined 51 = .ok (.i2l, 1) := by decide +kernel
theorem dX4_joined_52 : decode cX4_joined 52 = .ok (.ladd, 1) := by decide +kernel
theorem dX4_joined_53 : decode cX4_joined 53 = .ok (.invokestatic 59, 3) := by decide +kernel
theorem dX4_joined_56 : decode cX4_joined 56 = .ok (.ireturn, 1) := by decide +kernel
theorem dX4_joined_57 : decode cX4_joined 57 = .ok (.iload_n 1, 1) := by decide +kernel
theorem dX4_joined_58 : decode cX4_joined 58 = .ok (.i2l, 1) := by decide +kernel
theorem dX4_joined_59 : decode cX4_joined 59 = .ok (.iload_n 2, 1) := by decide +kernel
theorem dX4_joined_60 : decode cX4_joined 60 = .ok (.i2l, 1) := by decide +kernel
theorem dX4_joined_61 : decode cX4_joined 61 = .ok (.lsub, 1) := by decide +kernel
theorem dX4_joined_62 : decode cX4_joined 62 = .ok (.invokestatic 59, 3) := by decide +kernel
theorem dX4_joined_65 : decode cX4_joined 65 = .ok (.ireturn, 1) := by decide +kernel
theorem dX4_joined_66 : decode cX4_joined 66 = .ok (.iload_n 1, 1) := by decide +kernel
theorem dX4_joined_67 : decode cX4_joined 67 = .ok (.i2l, 1) := by decide +kernel
theorem dX4_joined_68 : decode cX4_joined 68 = .ok (.iload_n 2, 1) := by decide +kernel
theorem dX4_joined_69 : decode cX4_joined 69 = .ok (.i2l, 1) := by decide +kernel
theorem dX4_joined_70 : decode cX4_joined 70 = .ok (.lmul, 1) := by decide +kernel
theorem dX4_joined_71 : decode cX4_joined 71 = .ok (.invokestatic 59, 3) := by decide +kernel
theorem dX4_joined_74 : decode cX4_joined 74 = .ok (.ireturn, 1) := by decide +kernel
theorem dX4_joined_75 : decode cX4_joined 75 = .ok (.iload_n 2, 1) := by decide +kernel
theorem dX4_joined_76 : decode cX4_joined 76 = .ok (.ifCond .ne 7, 3) := by decide +kernel
theorem dX4_joined_79 : decode cX4_joined 79 = .ok (.iconst 0, 1) := by decide +kernel
theorem dX4_joined_80 : decode cX4_joined 80 = .ok (.goto 8, 3) := by decide +kernel
theorem dX4_joined_83 : decode cX4_joined 83 = .ok (.iload_n 1, 1) := by decide +kernel
theorem dX4_joined_84 : decode cX4_joined 84 = .ok (.iload_n 2, 1) := by decide +kernel
theorem dX4_joined_85 : decode cX4_joined 85 = .ok (.invokestatic 63, 3) := by decide +kernel
theorem dX4_joined_88 : decode cX4_joined 88 = .ok (.ireturn, 1) := by decide +kernel
theorem dX4_joined_89 : decode cX4_joined 89 = .ok (.iload_n 1, 1) := by decide +kernel
theorem dX4_joined_90 : decode cX4_joined 90 = .ok (.iload_n 2, 1) := by decide +kernel
theorem dX4_joined_91 : decode cX4_joined 91 = .ok (.invokestatic 66, 3) := by decide +kernel
theorem dX4_joined_94 : decode cX4_joined 94 = .ok (.ireturn, 1) := by decide +kernel
theorem dX4_joined_95 : decode cX4_joined 95 = .ok (.iload_n 1, 1) := by decide +kernel
theorem dX4_joined_96 : decode cX4_joined 96 = .ok (.iload_n 2, 1) := by decide +kernel
theorem dX4_joined_97 : decode cX4_joined 97 = .ok (.invokestatic 45, 3) := by decide +kernel
theorem dX4_joined_100 : decode cX4_joined 100 = .ok (.ireturn, 1) := by decide +kernel
theorem dX4_joined_101 : decode cX4_joined 101 = .ok (.iload_n 1, 1) := by decide +kernel
theorem dX4_joined_102 : decode cX4_joined 102 = .ok (.iload_n 2, 1) := by decide +kernel
theorem dX4_joined_103 : decode cX4_joined 103 = .ok (.if_icmp .ge 7, 3) := by decide +kernel
theorem dX4_joined_106 : decode cX4_joined 106 = .ok (.iconst 1, 1) := by decide +kernel
theorem dX4_joined_107 : decode cX4_joined 107 = .ok (.goto 4, 3) := by decide +kernel
theorem dX4_joined_110 : decode cX4_joined 110 = .ok (.iconst 0, 1) := by decide +kernel
theorem dX4_joined_111 : decode cX4_joined 111 = .ok (.ireturn, 1) := by decide +kernel
theorem dX4_joined_112 : decode cX4_joined 112 = .ok (.iload_n 1, 1) := by decide +kernel
theorem dX4_joined_113 : decode cX4_joined 113 = .ok (.iload_n 2, 1) := by decide +kernel
theorem dX4_joined_114 : decode cX4_joined 114 = .ok (.if_icmp .le 7, 3) := by decide +kernel
theorem dX4_joined_117 : decode cX4_joined 117 = .ok (.iconst 1, 1) := by decide +kernel
theorem dX4_joined_118 : decode cX4_joined 118 = .ok (.goto 4, 3) := by decide +kernel
theorem dX4_joined_121 : decode cX4_joined 121 = .ok (.iconst 0, 1) := by decide +kernel
theorem dX4_joined_122 : decode cX4_joined 122 = .ok (.ireturn, 1) := by decide +kernel
theorem dX4_joined_123 : decode cX4_joined 123 = .ok (.iload_n 1, 1) := by decide +kernel
theorem dX4_joined_124 : decode cX4_joined 124 = .ok (.iload_n 2, 1) := by decide +kernel
theorem dX4_joined_125 : decode cX4_joined 125 = .ok (.if_icmp .ne 7, 3) := by decide +kernel
theorem dX4_joined_128 : decode cX4_joined 128 = .ok (.iconst 1, 1) := by decide +kernel
theorem dX4_joined_129 : decode cX4_joined 129 = .ok (.goto 4, 3) := by decide +kernel
theorem dX4_joined_132 : decode cX4_joined 132 = .ok (.iconst 0, 1) := by decide +kernel
theorem dX4_joined_133 : decode cX4_joined 133 = .ok (.ireturn, 1) := by decide +kernel
theorem dX4_within_0 : decode cX4_within 0 = .ok (.ldc2_w 69, 3) := by decide +kernel
theorem dX4_within_3 : decode cX4_within 3 = .ok (.ldc2_w 71, 3) := by decide +kernel
theorem dX4_within_6 : decode cX4_within 6 = .ok (.lload_n 0, 1) := by decide +kernel
theorem dX4_within_7 : decode cX4_within 7 = .ok (.invokestatic 73, 3) := by decide +kernel
theorem dX4_within_10 : decode cX4_within 10 = .ok (.invokestatic 76, 3) := by decide +kernel
theorem dX4_within_13 : decode cX4_within 13 = .ok (.l2i, 1) := by decide +kernel
theorem dX4_within_14 : decode cX4_within 14 = .ok (.ireturn, 1) := by decide +kernel
theorem dX5_init_0 : decode cX5_init 0 = .ok (.aload_n 0, 1) := by decide +kernel
theorem dX5_init_1 : decode cX5_init 1 = .ok (.invokespecial 3, 3) := by decide +kernel
theorem dX5_init_4 : decode cX5_init 4 = .ok (.aload_n 0, 1) := by decide +kernel
theorem dX5_init_5 : decode cX5_init 5 = .ok (.new 9, 3) := by decide +kernel
theorem dX5_init_8 : decode cX5_init 8 = .ok (.dup, 1) := by decide +kernel
theorem dX5_init_9 : decode cX5_init 9 = .ok (.invokespecial 11, 3) := by decide +kernel
theorem dX5_init_12 : decode cX5_init 12 = .ok (.putfield 12, 3) := by decide +kernel
theorem dX5_init_15 : decode cX5_init 15 = .ok (.aload_n 0, 1) := by decide +kernel
theorem dX5_init_16 : decode cX5_init 16 = .ok (.new 18, 3) := by decide +kernel
theorem dX5_init_19 : decode cX5_init 19 = .ok (.dup, 1) := by decide +kernel
theorem dX5_init_20 : decode cX5_init 20 = .ok (.invokespecial 20, 3) := by decide +kernel
theorem dX5_init_23 : decode cX5_init 23 = .ok (.putfield 21, 3) := by decide +kernel
theorem dX5_init_26 : decode cX5_init 26 = .ok (.aload_n 0, 1) := by decide +kernel
theorem dX5_init_27 : decode cX5_init 27 = .ok (.new 25, 3) := by decide +kernel
theorem dX5_init_30 : decode cX5_init 30 = .ok (.dup, 1) := by decide +kernel
theorem dX5_init_31 : decode cX5_init 31 = .ok (.invokespecial 27, 3) := by decide +kernel
theorem dX5_init_34 : decode cX5_init 34 = .ok (.putfield 28, 3) := by decide +kernel
theorem dX5_init_37 : decode cX5_init 37 = .ok (.aload_n 0, 1) := by decide +kernel
theorem dX5_init_38 : decode cX5_init 38 = .ok (.bipush 40, 2) := by decide +kernel
theorem dX5_init_40 : decode cX5_init 40 = .ok (.putfield 32, 3) := by decide +kernel
theorem dX5_init_43 : decode cX5_init 43 = .ok (.aload_n 0, 1) := by decide +kernel
theorem dX5_init_44 : decode cX5_init 44 = .ok (.iconst 0, 1) := by decide +kernel
theorem dX5_init_45 : decode cX5_init 45 = .ok (.iload_n 1, 1) := by decide +kernel
theorem dX5_init_46 : decode cX5_init 46 = .ok (.invokestatic 36, 3) := by decide +kernel
theorem dX5_init_49 : decode cX5_init 49 = .ok (.putfield 42, 3) := by decide +kernel
theorem dX5_init_52 : decode cX5_init 52 = .ok (.aload_n 0, 1) := by decide +kernel
theorem dX5_init_53 : decode cX5_init 53 = .ok (.new 45, 3) := by decide +kernel
theorem dX5_init_56 : decode cX5_init 56 = .ok (.dup, 1) := by decide +kernel
theorem dX5_init_57 : decode cX5_init 57 = .ok (.aload_n 0, 1) := by decide +kernel
theorem dX5_init_58 : decode cX5_init 58 = .ok (.getfield 42, 3) := by decide +kernel
theorem dX5_init_61 : decode cX5_init 61 = .ok (.invokespecial 47, 3) := by decide +kernel
theorem dX5_init_64 : decode cX5_init 64 = .ok (.putfield 50, 3) := by decide +kernel
theorem dX5_init_67 : decode cX5_init 67 = .ok (.aload_n 0, 1) := by decide +kernel
theorem dX5_init_68 : decode cX5_init 68 = .ok (.bipush 60, 2) := by decide +kernel
theorem dX5_init_70 : decode cX5_init 70 = .ok (.aload_n 0, 1) := by decide +kernel
theorem dX5_init_71 : decode cX5_init 71 = .ok (.getfield 42, 3) := by decide +kernel
theorem dX5_init_74 : decode cX5_init 74 = .ok (.imul, 1) := by decide +kernel
theorem dX5_init_75 : decode cX5_init 75 = .ok (.newarray .int, 2) := by decide +kernel
theorem dX5_init_77 : decode cX5_init 77 = .ok (.putfield 54, 3) := by decide +kernel
theorem dX5_init_80 : decode cX5_init 80 = .ok (.return_, 1) := by decide +kernel
theorem dX5_clear_0 : decode cX5_clear 0 = .ok (.aload_n 0, 1) := by decide +kernel
theorem dX5_clear_1 : decode cX5_clear 1 = .ok (.getfield 28, 3) := by decide +kernel
theorem dX5_clear_4 : decode cX5_clear 4 = .ok (.iconst 0, 1) := by decide +kernel
theorem dX5_clear_5 : decode cX5_clear 5 = .ok (.putfield 58, 3) := by decide +kernel
theorem dX5_clear_8 : decode cX5_clear 8 = .ok (.aload_n 0, 1) := by decide +kernel
theorem dX5_clear_9 : decode cX5_clear 9 = .ok (.getfield 12, 3) := by decide +kernel
theorem dX5_clear_12 : decode cX5_clear 12 = .ok (.iconst 0, 1) := by decide +kernel
theorem dX5_clear_13 : decode cX5_clear 13 = .ok (.putfield 61, 3) := by decide +kernel
theorem dX5_clear_16 : decode cX5_clear 16 = .ok (.aload_n 0, 1) := by decide +kernel
theorem dX5_clear_17 : decode cX5_clear 17 = .ok (.getfield 50, 3) := by decide +kernel
theorem dX5_clear_20 : decode cX5_clear 20 = .ok (.iconst 0, 1) := by decide +kernel
theorem dX5_clear_21 : decode cX5_clear 21 = .ok (.putfield 62, 3) := by decide +kernel
theorem dX5_clear_24 : decode cX5_clear 24 = .ok (.aload_n 0, 1) := by decide +kernel
theorem dX5_clear_25 : decode cX5_clear 25 = .ok (.getfield 50, 3) := by decide +kernel
theorem dX5_clear_28 : decode cX5_clear 28 = .ok (.iconst 0, 1) := by decide +kernel
theorem dX5_clear_29 : decode cX5_clear 29 = .ok (.putfield 63, 3) := by decide +kernel
theorem dX5_clear_32 : decode cX5_clear 32 = .ok (.aload_n 0, 1) := by decide +kernel
theorem dX5_clear_33 : decode cX5_clear 33 = .ok (.bipush 40, 2) := by decide +kernel
theorem dX5_clear_35 : decode cX5_clear 35 = .ok (.putfield 32, 3) := by decide +kernel
theorem dX5_clear_38 : decode cX5_clear 38 = .ok (.return_, 1) := by decide +kernel
theorem dX5_copyOf_0 : decode cX5_copyOf 0 = .ok (.aload_n 0, 1) := by decide +kernel
theorem dX5_copyOf_1 : decode cX5_copyOf 1 = .ok (.aload_n 1, 1) := by decide +kernel
theorem dX5_copyOf_2 : decode cX5_copyOf 2 = .ok (.getfield 28, 3) := by decide +kernel
theorem dX5_copyOf_5 : decode cX5_copyOf 5 = .ok (.putfield 28, 3) := by decide +kernel
theorem dX5_copyOf_8 : decode cX5_copyOf 8 = .ok (.aload_n 0, 1) := by decide +kernel
theorem dX5_copyOf_9 : decode cX5_copyOf 9 = .ok (.aload_n 1, 1) := by decide +kernel
theorem dX5_copyOf_10 : decode cX5_copyOf 10 = .ok (.getfield 32, 3) := by decide +kernel
theorem dX5_copyOf_13 : decode cX5_copyOf 13 = .ok (.putfield 32, 3) := by decide +kernel
theorem dX5_copyOf_16 : decode cX5_copyOf 16 = .ok (.aload_n 0, 1) := by decide +kernel
theorem dX5_copyOf_17 : decode cX5_copyOf 17 = .ok (.getfield 12, 3) := by decide +kernel
theorem dX5_copyOf_20 : decode cX5_copyOf 20 = .ok (.aload_n 1, 1) := by decide +kernel
theorem dX5_copyOf_21 : decode cX5_copyOf 21 = .ok (.getfield 12, 3) := by decide +kernel
theorem dX5_copyOf_24 : decode cX5_copyOf 24 = .ok (.invokevirtual 66, 3) := by decide +kernel
theorem dX5_copyOf_27 : decode cX5_copyOf 27 = .ok (.aload_n 0, 1) := by decide +kernel
theorem dX5_copyOf_28 : decode cX5_copyOf 28 = .ok (.getfield 50, 3) := by decide +kernel
theorem dX5_copyOf_31 : decode cX5_copyOf 31 = .ok (.aload_n 1, 1) := by decide +kernel
theorem dX5_copyOf_32 : decode cX5_copyOf 32 = .ok (.getfield 50, 3) := by decide +kernel
theorem dX5_copyOf_35 : decode cX5_copyOf 35 = .ok (.invokevirtual 70, 3) := by decide +kernel
theorem dX5_copyOf_38 : decode cX5_copyOf 38 = .ok (.return_, 1) := by decide +kernel
theorem dX5_hasPerson_0 : decode cX5_hasPerson 0 = .ok (.iload_n 1, 1) := by decide +kernel
theorem dX5_hasPerson_1 : decode cX5_hasPerson 1 = .ok (.aload_n 0, 1) := by decide +kernel
theorem dX5_hasPerson_2 : decode cX5_hasPerson 2 = .ok (.getfield 50, 3) := by decide +kernel
theorem dX5_hasPerson_5 : decode cX5_hasPerson 5 = .ok (.getfield 62, 3) := by decide +kernel
theorem dX5_hasPerson_8 : decode cX5_hasPerson 8 = .ok (.invokestatic 73, 3) := by decide +kernel
theorem dX5_hasPerson_11 : decode cX5_hasPerson 11 = .ok (.ireturn, 1) := by decide +kernel
theorem dX5_canWork_0 : decode cX5_canWork 0 = .ok (.iload_n 1, 1) := by decide +kernel
theorem dX5_canWork_1 : decode cX5_canWork 1 = .ok (.ifCond .lt 15, 3) := by decide +kernel
theorem dX5_canWork_4 : decode cX5_canWork 4 = .ok (.iload_n 1, 1) := by decide +kernel
theorem dX5_canWork_5 : decode cX5_canWork 5 = .ok (.aload_n 0, 1) := by decide +kernel
theorem dX5_canWork_6 : decode cX5_canWork 6 = .ok (.getfield 32, 3) := by decide +kernel
theorem dX5_canWork_9 : decode cX5_canWork 9 = .ok (.if_icmp .gt 7, 3) := by decide +kernel
theorem dX5_canWork_12 : decode cX5_canWork 12 = .ok (.iconst 1, 1) := by decide +kernel
theorem dX5_canWork_13 : decode cX5_canWork 13 = .ok (.goto 4, 3) := by decide +kernel
theorem dX5_canWork_16 : decode cX5_canWork 16 = .ok (.iconst 0, 1) := by decide +kernel
theorem dX5_canWork_17 : decode cX5_canWork 17 = .ok (.ireturn, 1) := by decide +kernel
theorem dX5_isPlace_0 : decode cX5_isPlace 0 = .ok (.iload_n 1, 1) := by decide +kernel
theorem dX5_isPlace_1 : decode cX5_isPlace 1 = .ok (.iconst (-1), 1) := by decide +kernel
theorem dX5_isPlace_2 : decode cX5_isPlace 2 = .ok (.if_icmp .eq 17, 3) := by decide +kernel
theorem dX5_isPlace_5 : decode cX5_isPlace 5 = .ok (.iload_n 1, 1) := by decide +kernel
theorem dX5_isPlace_6 : decode cX5_isPlace 6 = .ok (.aload_n 0, 1) := by decide +kernel
theorem dX5_isPlace_7 : decode cX5_isPlace 7 = .ok (.getfield 12, 3) := by decide +kernel
theorem dX5_isPlace_10 : decode cX5_isPlace 10 = .ok (.getfield 61, 3) := by decide +kernel
theorem dX5_isPlace_13 : decode cX5_isPlace 13 = .ok (.invokestatic 73, 3) := by decide +kernel
theorem dX5_isPlace_16 : decode cX5_isPlace 16 = .ok (.ifCond .eq 7, 3) := by decide +kernel
theorem dX5_isPlace_19 : decode cX5_isPlace 19 = .ok (.iconst 1, 1) := by decide +kernel
theorem dX5_isPlace_20 : decode cX5_isPlace 20 = .ok (.goto 4, 3) := by decide +kernel
theorem dX5_isPlace_23 : decode cX5_isPlace 23 = .ok (.iconst 0, 1) := by decide +kernel
theorem dX5_isPlace_24 : decode cX5_isPlace 24 = .ok (.ireturn, 1) := by decide +kernel
theorem dX5_earned_0 : decode cX5_earned 0 = .ok (.aload_n 0, 1) := by decide +kernel
theorem dX5_earned_1 : decode cX5_earned 1 = .ok (.getfield 50, 3) := by decide +kernel
theorem dX5_earned_4 : decode cX5_earned 4 = .ok (.getfield 77, 3) := by decide +kernel
theorem dX5_earned_7 : decode cX5_earned 7 = .ok (.iload_n 1, 1) := by decide +kernel
theorem dX5_earned_8 : decode cX5_earned 8 = .ok (.invokestatic 80, 3) := by decide +kernel
theorem dX5_earned_11 : decode cX5_earned 11 = .ok (.aload_n 0, 1) := by decide +kernel
theorem dX5_earned_12 : decode cX5_earned 12 = .ok (.getfield 28, 3) := by decide +kernel
theorem dX5_earned_15 : decode cX5_earned 15 = .ok (.getfield 84, 3) := by decide +kernel
theorem dX5_earned_18 : decode cX5_earned 18 = .ok (.aload_n 0, 1) := by decide +kernel
theorem dX5_earned_19 : decode cX5_earned 19 = .ok (.getfield 50, 3) := by decide +kernel
theorem dX5_earned_22 : decode cX5_earned 22 = .ok (.getfield 87, 3) := by decide +kernel
theorem dX5_earned_25 : decode cX5_earned 25 = .ok (.iload_n 1, 1) := by decide +kernel
theorem dX5_earned_26 : decode cX5_earned 26 = .ok (.invokestatic 80, 3) := by decide +kernel
theorem dX5_earned_29 : decode cX5_earned 29 = .ok (.invokestatic 80, 3) := by decide +kernel
theorem dX5_earned_32 : decode cX5_earned 32 = .ok (.imul, 1) := by decide +kernel
theorem dX5_earned_33 : decode cX5_earned 33 = .ok (.ireturn, 1) := by decide +kernel
theorem dX5_needOf_0 : decode cX5_needOf 0 = .ok (.aload_n 0, 1) := by decide +kernel
theorem dX5_needOf_1 : decode cX5_needOf 1 = .ok (.getfield 28, 3) := by decide +kernel
theorem dX5_needOf_4 : decode cX5_needOf 4 = .ok (.getfield 90, 3) := by decide +kernel
theorem dX5_needOf_7 : decode cX5_needOf 7 = .ok (.aload_n 0, 1) := by decide +kernel
theorem dX5_needOf_8 : decode cX5_needOf 8 = .ok (.getfield 50, 3) := by decide +kernel
theorem dX5_needOf_11 : decode cX5_needOf 11 = .ok (.getfield 87, 3) := by decide +kernel
theorem dX5_needOf_14 : decode cX5_needOf 14 = .ok (.iload_n 1, 1) := by decide +kernel
theorem dX5_needOf_15 : decode cX5_needOf 15 = .ok (.invokestatic 80, 3) := by decide +kernel
theorem dX5_needOf_18 : decode cX5_needOf 18 = .ok (.invokestatic 80, 3) := by decide +kernel
theorem dX5_needOf_21 : decode cX5_needOf 21 = .ok (.ireturn, 1) := by decide +kernel
theorem dX5_slip_0 : decode cX5_slip 0 = .ok (.aload_n 0, 1) := by decide +kernel
theorem dX5_slip_1 : decode cX5_slip 1 = .ok (.getfield 50, 3) := by decide +kernel
theorem dX5_slip_4 : decode cX5_slip 4 = .ok (.getfield 93, 3) := by decide +kernel
theorem dX5_slip_7 : decode cX5_slip 7 = .ok (.iload_n 1, 1) := by decide +kernel
theorem dX5_slip_8 : decode cX5_slip 8 = .ok (.invokestatic 80, 3) := by decide +kernel
theorem dX5_slip_11 : decode cX5_slip 11 = .ok (.istore_n 2, 1) := by decide +kernel
theorem dX5_slip_12 : decode cX5_slip 12 = .ok (.iload_n 2, 1) := by decide +kernel
theorem dX5_slip_13 : decode cX5_slip 13 = .ok (.ifCond .ge 7, 3) := by decide +kernel
theorem dX5_slip_16 : decode cX5_slip 16 = .ok (.iconst 0, 1) := by decide +kernel
theorem dX5_slip_17 : decode cX5_slip 17 = .ok (.goto 22, 3) := by decide +kernel
theorem dX5_slip_20 : decode cX5_slip 20 = .ok (.aload_n 0, 1) := by decide +kernel
theorem dX5_slip_21 : decode cX5_slip 21 = .ok (.iload_n 1, 1) := by decide +kernel
theorem dX5_slip_22 : decode cX5_slip 22 = .ok (.invokevirtual 96, 3) := by decide +kernel
theorem dX5_slip_25 : decode cX5_slip 25 = .ok (.aload_n 0, 1) := by decide +kernel
theorem dX5_slip_26 : decode cX5_slip 26 = .ok (.getfield 12, 3) := by decide +kernel
theorem dX5_slip_29 : decode cX5_slip 29 = .ok (.getfield 100, 3) := by decide +kernel
theorem dX5_slip_32 : decode cX5_slip 32 = .ok (.iload_n 2, 1) := by decide +kernel
theorem dX5_slip_33 : decode cX5_slip 33 = .ok (.invokestatic 80, 3) := by decide +kernel
theorem dX5_slip_36 : decode cX5_slip 36 = .ok (.invokestatic 103, 3) := by decide +kernel
theorem dX5_slip_39 : decode cX5_slip 39 = .ok (.ireturn, 1) := by decide +kernel
theorem dX5_sumIn_0 : decode cX5_sumIn 0 = .ok (.iconst 0, 1) := by decide +kernel
theorem dX5_sumIn_1 : decode cX5_sumIn 1 = .ok (.istore_n 2, 1) := by decide +kernel
theorem dX5_sumIn_2 : decode cX5_sumIn 2 = .ok (.iconst 0, 1) := by decide +kernel
theorem dX5_sumIn_3 : decode cX5_sumIn 3 = .ok (.istore_n 3, 1) := by decide +kernel
theorem dX5_sumIn_4 : decode cX5_sumIn 4 = .ok (.iload_n 3, 1) := by decide +kernel
theorem dX5_sumIn_5 : decode cX5_sumIn 5 = .ok (.aload_n 0, 1) := by decide +kernel
theorem dX5_sumIn_6 : decode cX5_sumIn 6 = .ok (.getfield 50, 3) := by decide +kernel
theorem dX5_sumIn_9 : decode cX5_sumIn 9 = .ok (.getfield 62, 3) := by decide +kernel
theorem dX5_sumIn_12 : decode cX5_sumIn 12 = .ok (.if_icmp .ge 32, 3) := by decide +kernel
theorem dX5_sumIn_15 : decode cX5_sumIn 15 = .ok (.aload_n 0, 1) := by decide +kernel
theorem dX5_sumIn_16 : decode cX5_sumIn 16 = .ok (.getfield 50, 3) := by decide +kernel
theorem dX5_sumIn_19 : decode cX5_sumIn 19 = .ok (.getfield 93, 3) := by decide +kernel
theorem dX5_sumIn_22 : decode cX5_sumIn 22 = .ok (.iload_n 3, 1) := by decide +kernel
theorem dX5_sumIn_23 : decode cX5_sumIn 23 = .ok (.invokestatic 80, 3) := by decide +kernel
theorem dX5_sumIn_26 : decode cX5_sumIn 26 = .ok (.iload_n 1, 1) := by decide +kernel
theorem dX5_sumIn_27 : decode cX5_sumIn 27 = .ok (.if_icmp .ne 11, 3) := by decide +kernel
theorem dX5_sumIn_30 : decode cX5_sumIn 30 = .ok (.iload_n 2, 1) := by decide +kernel
theorem dX5_sumIn_31 : decode cX5_sumIn 31 = .ok (.aload_n 0, 1) := by decide +kernel
theorem dX5_sumIn_32 : decode cX5_sumIn 32 = .ok (.iload_n 3, 1) := by decide +kernel
theorem dX5_sumIn_33 : decode cX5_sumIn 33 = .ok (.invokevirtual 106, 3) := by decide +kernel
theorem dX5_sumIn_36 : decode cX5_sumIn 36 = .ok (.iadd, 1) := by decide +kernel
theorem dX5_sumIn_37 : decode cX5_sumIn 37 = .ok (.istore_n 2, 1) := by decide +kernel
theorem dX5_sumIn_38 : decode cX5_sumIn 38 = .ok (.iinc 3 1, 3) := by decide +kernel
theorem dX5_sumIn_41 : decode cX5_sumIn 41 = .ok (.goto (-37), 3) := by decide +kernel
theorem dX5_sumIn_44 : decode cX5_sumIn 44 = .ok (.iload_n 2, 1) := by decide +kernel
theorem dX5_sumIn_45 : decode cX5_sumIn 45 = .ok (.ireturn, 1) := by decide +kernel
theorem dX5_needsIn_0 : decode cX5_needsIn 0 = .ok (.iconst 0, 1) := by decide +kernel
theorem dX5_needsIn_1 : decode cX5_needsIn 1 = .ok (.istore_n 2, 1) := by decide +kernel
theorem dX5_needsIn_2 : decode cX5_needsIn 2 = .ok (.iconst 0, 1) := by decide +kernel
theorem dX5_needsIn_3 : decode cX5_needsIn 3 = .ok (.istore_n 3, 1) := by decide +kernel
theorem dX5_needsIn_4 : decode cX5_needsIn 4 = .ok (.iload_n 3, 1) := by decide +kernel
theorem dX5_needsIn_5 : decode cX5_needsIn 5 = .ok (.aload_n 0, 1) := by decide +kernel
theorem dX5_needsIn_6 : decode cX5_needsIn 6 = .ok (.getfield 50, 3) := by decide +kernel
theorem dX5_needsIn_9 : decode cX5_needsIn 9 = .ok (.getfield 62, 3) := by decide +kernel
theorem dX5_needsIn_12 : decode cX5_needsIn 12 = .ok (.if_icmp .ge 32, 3) := by decide +kernel
theorem dX5_needsIn_15 : decode cX5_needsIn 15 = .ok (.aload_n 0, 1) := by decide +kernel
theorem dX5_needsIn_16 : decode cX5_needsIn 16 = .ok (.getfield 50, 3) := by decide +kernel
theorem dX5_needsIn_19 : decode cX5_needsIn 19 = .ok (.getfield 93, 3) := by decide +kernel
theorem dX5_needsIn_22 : decode cX5_needsIn 22 = .ok (.iload_n 3, 1) := by decide +kernel
theorem dX5_needsIn_23 : decode cX5_needsIn 23 = .ok (.invokestatic 80, 3) := by decide +kernel
theorem dX5_needsIn_26 : decode cX5_needsIn 26 = .ok (.iload_n 1, 1) := by decide +kernel
theorem dX5_needsIn_27 : decode cX5_needsIn 27 = .ok (.if_icmp .ne 11, 3) := by decide +kernel
theorem dX5_needsIn_30 : decode cX5_needsIn 30 = .ok (.iload_n 2, 1) := by decide +kernel
theorem dX5_needsIn_31 : decode cX5_needsIn 31 = .ok (.aload_n 0, 1) := by decide +kernel
theorem dX5_needsIn_32 : decode cX5_needsIn 32 = .ok (.iload_n 3, 1) := by decide +kernel
theorem dX5_needsIn_33 : decode cX5_needsIn 33 = .ok (.invokevirtual 109, 3) := by decide +kernel
theorem dX5_needsIn_36 : decode cX5_needsIn 36 = .ok (.iadd, 1) := by decide +kernel
theorem dX5_needsIn_37 : decode cX5_needsIn 37 = .ok (.istore_n 2, 1) := by decide +kernel
theorem dX5_needsIn_38 : decode cX5_needsIn 38 = .ok (.iinc 3 1, 3) := by decide +kernel
theorem dX5_needsIn_41 : decode cX5_needsIn 41 = .ok (.goto (-37), 3) := by decide +kernel
theorem dX5_needsIn_44 : decode cX5_needsIn 44 = .ok (.iload_n 2, 1) := by decide +kernel
theorem dX5_needsIn_45 : decode cX5_needsIn 45 = .ok (.ireturn, 1) := by decide +kernel
theorem dX5_meanIn_0 : decode cX5_meanIn 0 = .ok (.aload_n 0, 1) := by decide +kernel
theorem dX5_meanIn_1 : decode cX5_meanIn 1 = .ok (.getfield 50, 3) := by decide +kernel
theorem dX5_meanIn_4 : decode cX5_meanIn 4 = .ok (.iload_n 1, 1) := by decide +kernel
theorem dX5_meanIn_5 : decode cX5_meanIn 5 = .ok (.invokevirtual 112, 3) := by decide +kernel
theorem dX5_meanIn_8 : decode cX5_meanIn 8 = .ok (.istore_n 2, 1) := by decide +kernel
theorem dX5_meanIn_9 : decode cX5_meanIn 9 = .ok (.iload_n 2, 1) := by decide +kernel
theorem dX5_meanIn_10 : decode cX5_meanIn 10 = .ok (.ifCond .le 16, 3) := by decide +kernel
theorem dX5_meanIn_13 : decode cX5_meanIn 13 = .ok (.bipush 100, 2) := by decide +kernel
theorem dX5_meanIn_15 : decode cX5_meanIn 15 = .ok (.aload_n 0, 1) := by decide +kernel
theorem dX5_meanIn_16 : decode cX5_meanIn 16 = .ok (.iload_n 1, 1) := by decide +kernel
theorem dX5_meanIn_17 : decode cX5_meanIn 17 = .ok (.invokevirtual 115, 3) := by decide +kernel
theorem dX5_meanIn_20 : decode cX5_meanIn 20 = .ok (.imul, 1) := by decide +kernel
theorem dX5_meanIn_21 : decode cX5_meanIn 21 = .ok (.iload_n 2, 1) := by decide +kernel
theorem dX5_meanIn_22 : decode cX5_meanIn 22 = .ok (.idiv, 1) := by decide +kernel
theorem dX5_meanIn_23 : decode cX5_meanIn 23 = .ok (.goto 4, 3) := by decide +kernel
theorem dX5_meanIn_26 : decode cX5_meanIn 26 = .ok (.iconst 0, 1) := by decide +kernel
theorem dX5_meanIn_27 : decode cX5_meanIn 27 = .ok (.ireturn, 1) := by decide +kernel
theorem dX5_spreadIn_0 : decode cX5_spreadIn 0 = .ok (.iconst 0, 1) := by decide +kernel
theorem dX5_spreadIn_1 : decode cX5_spreadIn 1 = .ok (.istore_n 2, 1) := by decide +kernel
theorem dX5_spreadIn_2 : decode cX5_spreadIn 2 = .ok (.iconst 0, 1) := by decide +kernel
theorem dX5_spreadIn_3 : decode cX5_spreadIn 3 = .ok (.istore_n 3, 1) := by decide +kernel
theorem dX5_spreadIn_4 : decode cX5_spreadIn 4 = .ok (.iload_n 3, 1) := by decide +kernel
theorem dX5_spreadIn_5 : decode cX5_spreadIn 5 = .ok (.aload_n 0, 1) := by decide +kernel
theorem dX5_spreadIn_6 : decode cX5_spreadIn 6 = .ok (.getfield 50, 3) := by decide +kernel
theorem dX5_spreadIn_9 : decode cX5_spreadIn 9 = .ok (.getfield 62, 3) := by decide +kernel
theorem dX5_spreadIn_12 : decode cX5_spreadIn 12 = .ok (.if_icmp .ge 43, 3) := by decide +kernel
theorem dX5_spreadIn_15 : decode cX5_spreadIn 15 = .ok (.aload_n 0, 1) := by decide +kernel
theorem dX5_spreadIn_16 : decode cX5_spreadIn 16 = .ok (.getfield 50, 3) := by decide +kernel
theorem dX5_spreadIn_19 : decode cX5_spreadIn 19 = .ok (.getfield 93, 3) := by decide +kernel
theorem dX5_spreadIn_22 : decode cX5_spreadIn 22 = .ok (.iload_n 3, 1) := by decide +kernel
theorem dX5_spreadIn_23 : decode cX5_spreadIn 23 = .ok (.invokestatic 80, 3) := by decide +kernel
theorem dX5_spreadIn_26 : decode cX5_spreadIn 26 = .ok (.iload_n 1, 1) := by decide +kernel
theorem dX5_spreadIn_27 : decode cX5_spreadIn 27 = .ok (.if_icmp .ne 22, 3) := by decide +kernel
theorem dX5_spreadIn_30 : decode cX5_spreadIn 30 = .ok (.aload_n 0, 1) := by decide +kernel
theorem dX5_spreadIn_31 : decode cX5_spreadIn 31 = .ok (.getfield 21, 3) := by decide +kernel
theorem dX5_spreadIn_34 : decode cX5_spreadIn 34 = .ok (.getfield 118, 3) := by decide +kernel
theorem dX5_spreadIn_37 : decode cX5_spreadIn 37 = .ok (.iload_n 2, 1) := by decide +kernel
theorem dX5_spreadIn_38 : decode cX5_spreadIn 38 = .ok (.aload_n 0, 1) := by decide +kernel
theorem dX5_spreadIn_39 : decode cX5_spreadIn 39 = .ok (.iload_n 3, 1) := by decide +kernel
theorem dX5_spreadIn_40 : decode cX5_spreadIn 40 = .ok (.invokevirtual 106, 3) := by decide +kernel
theorem dX5_spreadIn_43 : decode cX5_spreadIn 43 = .ok (.invokestatic 121, 3) := by decide +kernel
theorem dX5_spreadIn_46 : decode cX5_spreadIn 46 = .ok (.iinc 2 1, 3) := by decide +kernel
theorem dX5_spreadIn_49 : decode cX5_spreadIn 49 = .ok (.iinc 3 1, 3) := by decide +kernel
theorem dX5_spreadIn_52 : decode cX5_spreadIn 52 = .ok (.goto (-48), 3) := by decide +kernel
theorem dX5_spreadIn_55 : decode cX5_spreadIn 55 = .ok (.aload_n 0, 1) := by decide +kernel
theorem dX5_spreadIn_56 : decode cX5_spreadIn 56 = .ok (.getfield 21, 3) := by decide +kernel
theorem dX5_spreadIn_59 : decode cX5_spreadIn 59 = .ok (.getfield 118, 3) := by decide +kernel
theorem dX5_spreadIn_62 : decode cX5_spreadIn 62 = .ok (.iload_n 2, 1) := by decide +kernel
theorem dX5_spreadIn_63 : decode cX5_spreadIn 63 = .ok (.aload_n 0, 1) := by decide +kernel
theorem dX5_spreadIn_64 : decode cX5_spreadIn 64 = .ok (.iload_n 1, 1) := by decide +kernel
theorem dX5_spreadIn_65 : decode cX5_spreadIn 65 = .ok (.invokevirtual 115, 3) := by decide +kernel
theorem dX5_spreadIn_68 : decode cX5_spreadIn 68 = .ok (.invokestatic 125, 3) := by decide +kernel
theorem dX5_spreadIn_71 : decode cX5_spreadIn 71 = .ok (.ireturn, 1) := by decide +kernel
theorem dX5_worthIn_0 : decode cX5_worthIn 0 = .ok (.aload_n 0, 1) := by decide +kernel
theorem dX5_worthIn_1 : decode cX5_worthIn 1 = .ok (.getfield 21, 3) := by decide +kernel
theorem dX5_worthIn_4 : decode cX5_worthIn 4 = .ok (.aload_n 0, 1) := by decide +kernel
theorem dX5_worthIn_5 : decode cX5_worthIn 5 = .ok (.iload_n 1, 1) := by decide +kernel
theorem dX5_worthIn_6 : decode cX5_worthIn 6 = .ok (.iload_n 3, 1) := by decide +kernel
theorem dX5_worthIn_7 : decode cX5_worthIn 7 = .ok (.invokevirtual 129, 3) := by decide +kernel
theorem dX5_worthIn_10 : decode cX5_worthIn 10 = .ok (.aload_n 0, 1) := by decide +kernel
theorem dX5_worthIn_11 : decode cX5_worthIn 11 = .ok (.getfield 21, 3) := by decide +kernel
theorem dX5_worthIn_14 : decode cX5_worthIn 14 = .ok (.iload_n 2, 1) := by decide +kernel
theorem dX5_worthIn_15 : decode cX5_worthIn 15 = .ok (.invokevirtual 133, 3) := by decide +kernel
theorem dX5_worthIn_18 : decode cX5_worthIn 18 = .ok (.ireturn, 1) := by decide +kernel
theorem dX5_worthNow_0 : decode cX5_worthNow 0 = .ok (.aload_n 0, 1) := by decide +kernel
theorem dX5_worthNow_1 : decode cX5_worthNow 1 = .ok (.iload_n 1, 1) := by decide +kernel
theorem dX5_worthNow_2 : decode cX5_worthNow 2 = .ok (.aload_n 0, 1) := by decide +kernel
theorem dX5_worthNow_3 : decode cX5_worthNow 3 = .ok (.getfield 50, 3) := by decide +kernel
theorem dX5_worthNow_6 : decode cX5_worthNow 6 = .ok (.getfield 77, 3) := by decide +kernel
theorem dX5_worthNow_9 : decode cX5_worthNow 9 = .ok (.iload_n 1, 1) := by decide +kernel
theorem dX5_worthNow_10 : decode cX5_worthNow 10 = .ok (.invokestatic 80, 3) := by decide +kernel
theorem dX5_worthNow_13 : decode cX5_worthNow 13 = .ok (.aload_n 0, 1) := by decide +kernel
theorem dX5_worthNow_14 : decode cX5_worthNow 14 = .ok (.getfield 50, 3) := by decide +kernel
theorem dX5_worthNow_17 : decode cX5_worthNow 17 = .ok (.getfield 93, 3) := by decide +kernel
theorem dX5_worthNow_20 : decode cX5_worthNow 20 = .ok (.iload_n 1, 1) := by decide +kernel
theorem dX5_worthNow_21 : decode cX5_worthNow 21 = .ok (.invokestatic 80, 3) := by decide +kernel
theorem dX5_worthNow_24 : decode cX5_worthNow 24 = .ok (.invokevirtual 136, 3) := by decide +kernel
theorem dX5_worthNow_27 : decode cX5_worthNow 27 = .ok (.ireturn, 1) := by decide +kernel
theorem dX5_allWorths_0 : decode cX5_allWorths 0 = .ok (.iconst 0, 1) := by decide +kernel
theorem dX5_allWorths_1 : decode cX5_allWorths 1 = .ok (.istore_n 1, 1) := by decide +kernel
theorem dX5_allWorths_2 : decode cX5_allWorths 2 = .ok (.iconst 0, 1) := by decide +kernel
theorem dX5_allWorths_3 : decode cX5_allWorths 3 = .ok (.istore_n 2, 1) := by decide +kernel
theorem dX5_allWorths_4 : decode cX5_allWorths 4 = .ok (.iload_n 2, 1) := by decide +kernel
theorem dX5_allWorths_5 : decode cX5_allWorths 5 = .ok (.aload_n 0, 1) := by decide +kernel
theorem dX5_allWorths_6 : decode cX5_allWorths 6 = .ok (.getfield 50, 3) := by decide +kernel
theorem dX5_allWorths_9 : decode cX5_allWorths 9 = .ok (.getfield 62, 3) := by decide +kernel
theorem dX5_allWorths_12 : decode cX5_allWorths 12 = .ok (.if_icmp .ge 17, 3) := by decide +kernel
theorem dX5_allWorths_15 : decode cX5_allWorths 15 = .ok (.iload_n 1, 1) := by decide +kernel
theorem dX5_allWorths_16 : decode cX5_allWorths 16 = .ok (.aload_n 0, 1) := by decide +kernel
theorem dX5_allWorths_17 : decode cX5_allWorths 17 = .ok (.iload_n 2, 1) := by decide +kernel
theorem dX5_allWorths_18 : decode cX5_allWorths 18 = .ok (.invokevirtual 140, 3) := by decide +kernel
theorem dX5_allWorths_21 : decode cX5_allWorths 21 = .ok (.iadd, 1) := by decide +kernel
theorem dX5_allWorths_22 : decode cX5_allWorths 22 = .ok (.istore_n 1, 1) := by decide +kernel
theorem dX5_allWorths_23 : decode cX5_allWorths 23 = .ok (.iinc 2 1, 3) := by decide +kernel
theorem dX5_allWorths_26 : decode cX5_allWorths 26 = .ok (.goto (-22), 3) := by decide +kernel
theorem dX5_allWorths_29 : decode cX5_allWorths 29 = .ok (.iload_n 1, 1) := by decide +kernel
theorem dX5_allWorths_30 : decode cX5_allWorths 30 = .ok (.ireturn, 1) := by decide +kernel
theorem dX5_allHours_0 : decode cX5_allHours 0 = .ok (.iconst 0, 1) := by decide +kernel
theorem dX5_allHours_1 : decode cX5_allHours 1 = .ok (.istore_n 1, 1) := by decide +kernel
theorem dX5_allHours_2 : decode cX5_allHours 2 = .ok (.iconst 0, 1) := by decide +kernel
theorem dX5_allHours_3 : decode cX5_allHours 3 = .ok (.istore_n 2, 1) := by decide +kernel
theorem dX5_allHours_4 : decode cX5_allHours 4 = .ok (.iload_n 2, 1) := by decide +kernel
theorem dX5_allHours_5 : decode cX5_allHours 5 = .ok (.aload_n 0, 1) := by decide +kernel
theorem dX5_allHours_6 : decode cX5_allHours 6 = .ok (.getfield 50, 3) := by decide +kernel
theorem dX5_allHours_9 : decode cX5_allHours 9 = .ok (.getfield 62, 3) := by decide +kernel
theorem dX5_allHours_12 : decode cX5_allHours 12 = .ok (.if_icmp .ge 23, 3) := by decide +kernel
theorem dX5_allHours_15 : decode cX5_allHours 15 = .ok (.iload_n 1, 1) := by decide +kernel
theorem dX5_allHours_16 : decode cX5_allHours 16 = .ok (.aload_n 0, 1) := by decide +kernel
theorem dX5_allHours_17 : decode cX5_allHours 17 = .ok (.getfield 50, 3) := by decide +kernel
theorem dX5_allHours_20 : decode cX5_allHours 20 = .ok (.getfield 77, 3) := by decide +kernel
theorem dX5_allHours_23 : decode cX5_allHours 23 = .ok (.iload_n 2, 1) := by decide +kernel
theorem dX5_allHours_24 : decode cX5_allHours 24 = .ok (.invokestatic 80, 3) := by decide +kernel
theorem dX5_allHours_27 : decode cX5_allHours 27 = .ok (.iadd, 1) := by decide +kernel
theorem dX5_allHours_28 : decode cX5_allHours 28 = .ok (.istore_n 1, 1) := by decide +kernel
theorem dX5_allHours_29 : decode cX5_allHours 29 = .ok (.iinc 2 1, 3) := by decide +kernel
theorem dX5_allHours_32 : decode cX5_allHours 32 = .ok (.goto (-28), 3) := by decide +kernel
theorem dX5_allHours_35 : decode cX5_allHours 35 = .ok (.iload_n 1, 1) := by decide +kernel
theorem dX5_allHours_36 : decode cX5_allHours 36 = .ok (.ireturn, 1) := by decide +kernel
theorem dX5_hoursIn_0 : decode cX5_hoursIn 0 = .ok (.iconst 0, 1) := by decide +kernel
theorem dX5_hoursIn_1 : decode cX5_hoursIn 1 = .ok (.istore_n 2, 1) := by decide +kernel
theorem dX5_hoursIn_2 : decode cX5_hoursIn 2 = .ok (.iconst 0, 1) := by decide +kernel
theorem dX5_hoursIn_3 : decode cX5_hoursIn 3 = .ok (.istore_n 3, 1) := by decide +kernel
theorem dX5_hoursIn_4 : decode cX5_hoursIn 4 = .ok (.iload_n 3, 1) := by decide +kernel
theorem dX5_hoursIn_5 : decode cX5_hoursIn 5 = .ok (.aload_n 0, 1) := by decide +kernel
theorem dX5_hoursIn_6 : decode cX5_hoursIn 6 = .ok (.getfield 50, 3) := by decide +kernel
theorem dX5_hoursIn_9 : decode cX5_hoursIn 9 = .ok (.getfield 62, 3) := by decide +kernel
theorem dX5_hoursIn_12 : decode cX5_hoursIn 12 = .ok (.if_icmp .ge 38, 3) := by decide +kernel
theorem dX5_hoursIn_15 : decode cX5_hoursIn 15 = .ok (.aload_n 0, 1) := by decide +kernel
theorem dX5_hoursIn_16 : decode cX5_hoursIn 16 = .ok (.getfield 50, 3) := by decide +kernel
theorem dX5_hoursIn_19 : decode cX5_hoursIn 19 = .ok (.getfield 93, 3) := by decide +kernel
theorem dX5_hoursIn_22 : decode cX5_hoursIn 22 = .ok (.iload_n 3, 1) := by decide +kernel
theorem dX5_hoursIn_23 : decode cX5_hoursIn 23 = .ok (.invokestatic 80, 3) := by decide +kernel
theorem dX5_hoursIn_26 : decode cX5_hoursIn 26 = .ok (.iload_n 1, 1) := by decide +kernel
theorem dX5_hoursIn_27 : decode cX5_hoursIn 27 = .ok (.if_icmp .ne 17, 3) := by decide +kernel
theorem dX5_hoursIn_30 : decode cX5_hoursIn 30 = .ok (.iload_n 2, 1) := by decide +kernel
theorem dX5_hoursIn_31 : decode cX5_hoursIn 31 = .ok (.aload_n 0, 1) := by decide +kernel
theorem dX5_hoursIn_32 : decode cX5_hoursIn 32 = .ok (.getfield 50, 3) := by decide +kernel
theorem dX5_hoursIn_35 : decode cX5_hoursIn 35 = .ok (.getfield 77, 3) := by decide +kernel
theorem dX5_hoursIn_38 : decode cX5_hoursIn 38 = .ok (.iload_n 3, 1) := by decide +kernel
theorem dX5_hoursIn_39 : decode cX5_hoursIn 39 = .ok (.invokestatic 80, 3) := by decide +kernel
theorem dX5_hoursIn_42 : decode cX5_hoursIn 42 = .ok (.iadd, 1) := by decide +kernel
theorem dX5_hoursIn_43 : decode cX5_hoursIn 43 = .ok (.istore_n 2, 1) := by decide +kernel
theorem dX5_hoursIn_44 : decode cX5_hoursIn 44 = .ok (.iinc 3 1, 3) := by decide +kernel
theorem dX5_hoursIn_47 : decode cX5_hoursIn 47 = .ok (.goto (-43), 3) := by decide +kernel
theorem dX5_hoursIn_50 : decode cX5_hoursIn 50 = .ok (.iload_n 2, 1) := by decide +kernel
theorem dX5_hoursIn_51 : decode cX5_hoursIn 51 = .ok (.ireturn, 1) := by decide +kernel
theorem dX5_allWorkLeast_0 : decode cX5_allWorkLeast 0 = .ok (.iconst 0, 1) := by decide +kernel
theorem dX5_allWorkLeast_1 : decode cX5_allWorkLeast 1 = .ok (.istore_n 2, 1) := by decide +kernel
theorem dX5_allWorkLeast_2 : decode cX5_allWorkLeast 2 = .ok (.iload_n 2, 1) := by decide +kernel
theorem dX5_allWorkLeast_3 : decode cX5_allWorkLeast 3 = .ok (.aload_n 0, 1) := by decide +kernel
theorem dX5_allWorkLeast_4 : decode cX5_allWorkLeast 4 = .ok (.getfield 50, 3) := by decide +kernel
theorem dX5_allWorkLeast_7 : decode cX5_allWorkLeast 7 = .ok (.getfield 62, 3) := by decide +kernel
theorem dX5_allWorkLeast_10 : decode cX5_allWorkLeast 10 = .ok (.if_icmp .ge 51, 3) := by decide +kernel
theorem dX5_allWorkLeast_13 : decode cX5_allWorkLeast 13 = .ok (.aload_n 0, 1) := by decide +kernel
theorem dX5_allWorkLeast_14 : decode cX5_allWorkLeast 14 = .ok (.getfield 50, 3) := by decide +kernel
theorem dX5_allWorkLeast_17 : decode cX5_allWorkLeast 17 = .ok (.getfield 93, 3) := by decide +kernel
theorem dX5_allWorkLeast_20 : decode cX5_allWorkLeast 20 = .ok (.iload_n 2, 1) := by decide +kernel
theorem dX5_allWorkLeast_21 : decode cX5_allWorkLeast 21 = .ok (.invokestatic 80, 3) := by decide +kernel
theorem dX5_allWorkLeast_24 : decode cX5_allWorkLeast 24 = .ok (.iload_n 1, 1) := by decide +kernel
theorem dX5_allWorkLeast_25 : decode cX5_allWorkLeast 25 = .ok (.if_icmp .ne 30, 3) := by decide +kernel
theorem dX5_allWorkLeast_28 : decode cX5_allWorkLeast 28 = .ok (.aload_n 0, 1) := by decide +kernel
theorem dX5_allWorkLeast_29 : decode cX5_allWorkLeast 29 = .ok (.getfield 50, 3) := by decide +kernel
theorem dX5_allWorkLeast_32 : decode cX5_allWorkLeast 32 = .ok (.getfield 77, 3) := by decide +kernel
theorem dX5_allWorkLeast_35 : decode cX5_allWorkLeast 35 = .ok (.iload_n 2, 1) := by decide +kernel
theorem dX5_allWorkLeast_36 : decode cX5_allWorkLeast 36 = .ok (.invokestatic 80, 3) := by decide +kernel
theorem dX5_allWorkLeast_39 : decode cX5_allWorkLeast 39 = .ok (.aload_n 0, 1) := by decide +kernel
theorem dX5_allWorkLeast_40 : decode cX5_allWorkLeast 40 = .ok (.getfield 12, 3) := by decide +kernel
theorem dX5_allWorkLeast_43 : decode cX5_allWorkLeast 43 = .ok (.getfield 143, 3) := by decide +kernel
theorem dX5_allWorkLeast_46 : decode cX5_allWorkLeast 46 = .ok (.iload_n 1, 1) := by decide +kernel
theorem dX5_allWorkLeast_47 : decode cX5_allWorkLeast 47 = .ok (.invokestatic 80, 3) := by decide +kernel
theorem dX5_allWorkLeast_50 : decode cX5_allWorkLeast 50 = .ok (.if_icmp .ge 5, 3) := by decide +kernel
theorem dX5_allWorkLeast_53 : decode cX5_allWorkLeast 53 = .ok (.iconst 0, 1) := by decide +kernel
theorem dX5_allWorkLeast_54 : decode cX5_allWorkLeast 54 = .ok (.ireturn, 1) := by decide +kernel
theorem dX5_allWorkLeast_55 : decode cX5_allWorkLeast 55 = .ok (.iinc 2 1, 3) := by decide +kernel
theorem dX5_allWorkLeast_58 : decode cX5_allWorkLeast 58 = .ok (.goto (-56), 3) := by decide +kernel
theorem dX5_allWorkLeast_61 : decode cX5_allWorkLeast 61 = .ok (.iconst 1, 1) := by decide +kernel
theorem dX5_allWorkLeast_62 : decode cX5_allWorkLeast 62 = .ok (.ireturn, 1) := by decide +kernel
theorem dX5_bestHours_0 : decode cX5_bestHours 0 = .ok (.aload_n 0, 1) := by decide +kernel
theorem dX5_bestHours_1 : decode cX5_bestHours 1 = .ok (.getfield 21, 3) := by decide +kernel
theorem dX5_bestHours_4 : decode cX5_bestHours 4 = .ok (.aload_n 0, 1) := by decide +kernel
theorem dX5_bestHours_5 : decode cX5_bestHours 5 = .ok (.iload_n 1, 1) := by decide +kernel
theorem dX5_bestHours_6 : decode cX5_bestHours 6 = .ok (.iload_n 2, 1) := by decide +kernel
theorem dX5_bestHours_7 : decode cX5_bestHours 7 = .ok (.invokevirtual 129, 3) := by decide +kernel
theorem dX5_bestHours_10 : decode cX5_bestHours 10 = .ok (.iconst 0, 1) := by decide +kernel
theorem dX5_bestHours_11 : decode cX5_bestHours 11 = .ok (.istore_n 3, 1) := by decide +kernel
theorem dX5_bestHours_12 : decode cX5_bestHours 12 = .ok (.aload_n 0, 1) := by decide +kernel
theorem dX5_bestHours_13 : decode cX5_bestHours 13 = .ok (.getfield 21, 3) := by decide +kernel
theorem dX5_bestHours_16 : decode cX5_bestHours 16 = .ok (.iconst 0, 1) := by decide +kernel
theorem dX5_bestHours_17 : decode cX5_bestHours 17 = .ok (.invokevirtual 133, 3) := by decide +kernel
theorem dX5_bestHours_20 : decode cX5_bestHours 20 = .ok (.istore 4, 2) := by decide +kernel
theorem dX5_bestHours_22 : decode cX5_bestHours 22 = .ok (.iconst 1, 1) := by decide +kernel
theorem dX5_bestHours_23 : decode cX5_bestHours 23 = .ok (.istore 5, 2) := by decide +kernel
theorem dX5_bestHours_25 : decode cX5_bestHours 25 = .ok (.iload 5, 2) := by decide +kernel
theorem dX5_bestHours_27 : decode cX5_bestHours 27 = .ok (.aload_n 0, 1) := by decide +kernel
theorem dX5_bestHours_28 : decode cX5_bestHours 28 = .ok (.getfield 32, 3) := by decide +kernel
theorem dX5_bestHours_31 : decode cX5_bestHours 31 = .ok (.if_icmp .gt 34, 3) := by decide +kernel
theorem dX5_bestHours_34 : decode cX5_bestHours 34 = .ok (.aload_n 0, 1) := by decide +kernel
theorem dX5_bestHours_35 : decode cX5_bestHours 35 = .ok (.getfield 21, 3) := by decide +kernel
theorem dX5_bestHours_38 : decode cX5_bestHours 38 = .ok (.iload 5, 2) := by decide +kernel
theorem dX5_bestHours_40 : decode cX5_bestHours 40 = .ok (.invokevirtual 133, 3) := by decide +kernel
theorem dX5_bestHours_43 : decode cX5_bestHours 43 = .ok (.istore 6, 2) := by decide +kernel
theorem dX5_bestHours_45 : decode cX5_bestHours 45 = .ok (.iload 6, 2) := by decide +kernel
theorem dX5_bestHours_47 : decode cX5_bestHours 47 = .ok (.iload 4, 2) := by decide +kernel
theorem dX5_bestHours_49 : decode cX5_bestHours 49 = .ok (.if_icmp .le 10, 3) := by decide +kernel
theorem dX5_bestHours_52 : decode cX5_bestHours 52 = .ok (.iload 5, 2) := by decide +kernel
theorem dX5_bestHours_54 : decode cX5_bestHours 54 = .ok (.istore_n 3, 1) := by decide +kernel
theorem dX5_bestHours_55 : decode cX5_bestHours 55 = .ok (.iload 6, 2) := by decide +kernel
theorem dX5_bestHours_57 : decode cX5_bestHours 57 = .ok (.istore 4, 2) := by decide +kernel
theorem dX5_bestHours_59 : decode cX5_bestHours 59 = .ok (.iinc 5 1, 3) := by decide +kernel
theorem dX5_bestHours_62 : decode cX5_bestHours 62 = .ok (.goto (-37), 3) := by decide +kernel
theorem dX5_bestHours_65 : decode cX5_bestHours 65 = .ok (.iload_n 3, 1) := by decide +kernel
theorem dX5_bestHours_66 : decode cX5_bestHours 66 = .ok (.ireturn, 1) := by decide +kernel
theorem dX5_changesInRound_0 : decode cX5_changesInRound 0 = .ok (.iconst 0, 1) := by decide +kernel
theorem dX5_changesInRound_1 : decode cX5_changesInRound 1 = .ok (.istore_n 1, 1) := by decide +kernel
theorem dX5_changesInRound_2 : decode cX5_changesInRound 2 = .ok (.iconst 0, 1) := by decide +kernel
theorem dX5_changesInRound_3 : decode cX5_changesInRound 3 = .ok (.istore_n 2, 1) := by decide +kernel
theorem dX5_changesInRound_4 : decode cX5_changesInRound 4 = .ok (.iload_n 2, 1) := by decide +kernel
theorem dX5_changesInRound_5 : decode cX5_changesInRound 5 = .ok (.aload_n 0, 1) := by decide +kernel
theorem dX5_changesInRound_6 : decode cX5_changesInRound 6 = .ok (.getfield 50, 3) := by decide +kernel
theorem dX5_changesInRound_9 : decode cX5_changesInRound 9 = .ok (.getfield 62, 3) := by decide +kernel
theorem dX5_changesInRound_12 : decode cX5_changesInRound 12 = .ok (.if_icmp .ge 55, 3) := by decide +kernel
theorem dX5_changesInRound_15 : decode cX5_changesInRound 15 = .ok (.aload_n 0, 1) := by decide +kernel
theorem dX5_changesInRound_16 : decode cX5_changesInRound 16 = .ok (.iload_n 2, 1) := by decide +kernel
theorem dX5_changesInRound_17 : decode cX5_changesInRound 17 = .ok (.aload_n 0, 1) := by decide +kernel
theorem dX5_changesInRound_18 : decode cX5_changesInRound 18 = .ok (.getfield 50, 3) := by decide +kernel
theorem dX5_changesInRound_21 : decode cX5_changesInRound 21 = .ok (.getfield 93, 3) := by decide +kernel
theorem dX5_changesInRound_24 : decode cX5_changesInRound 24 = .ok (.iload_n 2, 1) := by decide +kernel
theorem dX5_changesInRound_25 : decode cX5_changesInRound 25 = .ok (.invokestatic 80, 3) := by decide +kernel
theorem dX5_changesInRound_28 : decode cX5_changesInRound 28 = .ok (.invokevirtual 146, 3) := by decide +kernel
theorem dX5_changesInRound_31 : decode cX5_changesInRound 31 = .ok (.istore_n 3, 1) := by decide +kernel
theorem dX5_changesInRound_32 : decode cX5_changesInRound 32 = .ok (.iload_n 3, 1) := by decide +kernel
theorem dX5_changesInRound_33 : decode cX5_changesInRound 33 = .ok (.aload_n 0, 1) := by decide +kernel
theorem dX5_changesInRound_34 : decode cX5_changesInRound 34 = .ok (.getfield 50, 3) := by decide +kernel
theorem dX5_changesInRound_37 : decode cX5_changesInRound 37 = .ok (.getfield 77, 3) := by decide +kernel
theorem dX5_changesInRound_40 : decode cX5_changesInRound 40 = .ok (.iload_n 2, 1) := by decide +kernel
theorem dX5_changesInRound_41 : decode cX5_changesInRound 41 = .ok (.invokestatic 80, 3) := by decide +kernel
theorem dX5_changesInRound_44 : decode cX5_changesInRound 44 = .ok (.if_icmp .eq 17, 3) := by decide +kernel
theorem dX5_changesInRound_47 : decode cX5_changesInRound 47 = .ok (.aload_n 0, 1) := by decide +kernel
theorem dX5_changesInRound_48 : decode cX5_changesInRound 48 = .ok (.getfield 50, 3) := by decide +kernel
theorem dX5_changesInRound_51 : decode cX5_changesInRound 51 = .ok (.getfield 77, 3) := by decide +kernel
theorem dX5_changesInRound_54 : decode cX5_changesInRound 54 = .ok (.iload_n 2, 1) := by decide +kernel
theorem dX5_changesInRound_55 : decode cX5_changesInRound 55 = .ok (.iload_n 3, 1) := by decide +kernel
theorem dX5_changesInRound_56 : decode cX5_changesInRound 56 = .ok (.invokestatic 121, 3) := by decide +kernel
theorem dX5_changesInRound_59 : decode cX5_changesInRound 59 = .ok (.iconst 1, 1) := by decide +kernel
theorem dX5_changesInRound_60 : decode cX5_changesInRound 60 = .ok (.istore_n 1, 1) := by decide +kernel
theorem dX5_changesInRound_61 : decode cX5_changesInRound 61 = .ok (.iinc 2 1, 3) := by decide +kernel
theorem dX5_changesInRound_64 : decode cX5_changesInRound 64 = .ok (.goto (-60), 3) := by decide +kernel
theorem dX5_changesInRound_67 : decode cX5_changesInRound 67 = .ok (.iload_n 1, 1) := by decide +kernel
theorem dX5_changesInRound_68 : decode cX5_changesInRound 68 = .ok (.ireturn, 1) := by decide +kernel
theorem dX5_settle_0 : decode cX5_settle 0 = .ok (.bipush 60, 2) := by decide +kernel
theorem dX5_settle_2 : decode cX5_settle 2 = .ok (.istore_n 1, 1) := by decide +kernel
theorem dX5_settle_3 : decode cX5_settle 3 = .ok (.iconst 1, 1) := by decide +kernel
theorem dX5_settle_4 : decode cX5_settle 4 = .ok (.istore_n 2, 1) := by decide +kernel
theorem dX5_settle_5 : decode cX5_settle 5 = .ok (.iload_n 2, 1) := by decide +kernel
theorem dX5_settle_6 : decode cX5_settle 6 = .ok (.iload_n 1, 1) := by decide +kernel
theorem dX5_settle_7 : decode cX5_settle 7 = .ok (.if_icmp .gt 66, 3) := by decide +kernel
theorem dX5_settle_10 : decode cX5_settle 10 = .ok (.iload_n 2, 1) := by decide +kernel
theorem dX5_settle_11 : decode cX5_settle 11 = .ok (.bipush 60, 2) := by decide +kernel
theorem dX5_settle_13 : decode cX5_settle 13 = .ok (.if_icmp .gt 60, 3) := by decide +kernel
theorem dX5_settle_16 : decode cX5_settle 16 = .ok (.aload_n 0, 1) := by decide +kernel
theorem dX5_settle_17 : decode cX5_settle 17 = .ok (.iload_n 2, 1) := by decide +kernel
theorem dX5_settle_18 : decode cX5_settle 18 = .ok (.iconst 1, 1) := by decide +kernel
theorem dX5_settle_19 : decode cX5_settle 19 = .ok (.isub, 1) := by decide +kernel
theorem dX5_settle_20 : decode cX5_settle 20 = .ok (.invokevirtual 149, 3) := by decide +kernel
theorem dX5_settle_23 : decode cX5_settle 23 = .ok (.aload_n 0, 1) := by decide +kernel
theorem dX5_settle_24 : decode cX5_settle 24 = .ok (.invokevirtual 152, 3) := by decide +kernel
theorem dX5_settle_27 : decode cX5_settle 27 = .ok (.ifCond .ne 4, 3) := by decide +kernel
theorem dX5_settle_30 : decode cX5_settle 30 = .ok (.return_, 1) := by decide +kernel
theorem dX5_settle_31 : decode cX5_settle 31 = .ok (.iload_n 1, 1) := by decide +kernel
theorem dX5_settle_32 : decode cX5_settle 32 = .ok (.bipush 60, 2) := by decide +kernel
theorem dX5_settle_34 : decode cX5_settle 34 = .ok (.if_icmp .ne 11, 3) := by decide +kernel
theorem dX5_settle_37 : decode cX5_settle 37 = .ok (.aload_n 0, 1) := by decide +kernel
theorem dX5_settle_38 : decode cX5_settle 38 = .ok (.iload_n 2, 1) := by decide +kernel
theorem dX5_settle_39 : decode cX5_settle 39 = .ok (.invokevirtual 156, 3) := by decide +kernel
theorem dX5_settle_42 : decode cX5_settle 42 = .ok (.goto 4, 3) := by decide +kernel
theorem dX5_settle_45 : decode cX5_settle 45 = .ok (.iconst (-1), 1) := by decide +kernel
theorem dX5_settle_46 : decode cX5_settle 46 = .ok (.istore_n 3, 1) := by decide +kernel
theorem dX5_settle_47 : decode cX5_settle 47 = .ok (.iload_n 3, 1) := by decide +kernel
theorem dX5_settle_48 : decode cX5_settle 48 = .ok (.ifCond .lt 19, 3) := by decide +kernel
theorem dX5_settle_51 : decode cX5_settle 51 = .ok (.iload_n 3, 1) := by decide +kernel
theorem dX5_settle_52 : decode cX5_settle 52 = .ok (.iload_n 2, 1) := by decide +kernel
theorem dX5_settle_53 : decode cX5_settle 53 = .ok (.if_icmp .ge 14, 3) := by decide +kernel
theorem dX5_settle_56 : decode cX5_settle 56 = .ok (.iload_n 2, 1) := by decide +kernel
theorem dX5_settle_57 : decode cX5_settle 57 = .ok (.bipush 60, 2) := by decide +kernel
theorem dX5_settle_59 : decode cX5_settle 59 = .ok (.iload_n 2, 1) := by decide +kernel
theorem dX5_settle_60 : decode cX5_settle 60 = .ok (.isub, 1) := by decide +kernel
theorem dX5_settle_61 : decode cX5_settle 61 = .ok (.iload_n 2, 1) := by decide +kernel
theorem dX5_settle_62 : decode cX5_settle 62 = .ok (.iload_n 3, 1) := by decide +kernel
theorem dX5_settle_63 : decode cX5_settle 63 = .ok (.isub, 1) := by decide +kernel
theorem dX5_settle_64 : decode cX5_settle 64 = .ok (.irem, 1) := by decide +kernel
theorem dX5_settle_65 : decode cX5_settle 65 = .ok (.iadd, 1) := by decide +kernel
theorem dX5_settle_66 : decode cX5_settle 66 = .ok (.istore_n 1, 1) := by decide +kernel
theorem dX5_settle_67 : decode cX5_settle 67 = .ok (.iinc 2 1, 3) := by decide +kernel
theorem dX5_settle_70 : decode cX5_settle 70 = .ok (.goto (-65), 3) := by decide +kernel
theorem dX5_settle_73 : decode cX5_settle 73 = .ok (.return_, 1) := by decide +kernel
theorem dX5_noteTrail_0 : decode cX5_noteTrail 0 = .ok (.iconst 0, 1) := by decide +kernel
theorem dX5_noteTrail_1 : decode cX5_noteTrail 1 = .ok (.istore_n 2, 1) := by decide +kernel
theorem dX5_noteTrail_2 : decode cX5_noteTrail 2 = .ok (.iload_n 2, 1) := by decide +kernel
theorem dX5_noteTrail_3 : decode cX5_noteTrail 3 = .ok (.aload_n 0, 1) := by decide +kernel
theorem dX5_noteTrail_4 : decode cX5_noteTrail 4 = .ok (.getfield 50, 3) := by decide +kernel
theorem dX5_noteTrail_7 : decode cX5_noteTrail 7 = .ok (.getfield 62, 3) := by decide +kernel
theorem dX5_noteTrail_10 : decode cX5_noteTrail 10 = .ok (.if_icmp .ge 35, 3) := by decide +kernel
theorem dX5_noteTrail_13 : decode cX5_noteTrail 13 = .ok (.aload_n 0, 1) := by decide +kernel
theorem dX5_noteTrail_14 : decode cX5_noteTrail 14 = .ok (.getfield 54, 3) := by decide +kernel
theorem dX5_noteTrail_17 : decode cX5_noteTrail 17 = .ok (.iload_n 1, 1) := by decide +kernel
theorem dX5_noteTrail_18 : decode cX5_noteTrail 18 = .ok (.aload_n 0, 1) := by decide +kernel
theorem dX5_noteTrail_19 : decode cX5_noteTrail 19 = .ok (.getfield 42, 3) := by decide +kernel
theorem dX5_noteTrail_22 : decode cX5_noteTrail 22 = .ok (.imul, 1) := by decide +kernel
theorem dX5_noteTrail_23 : decode cX5_noteTrail 23 = .ok (.iload_n 2, 1) := by decide +kernel
theorem dX5_noteTrail_24 : decode cX5_noteTrail 24 = .ok (.iadd, 1) := by decide +kernel
theorem dX5_noteTrail_25 : decode cX5_noteTrail 25 = .ok (.aload_n 0, 1) := by decide +kernel
theorem dX5_noteTrail_26 : decode cX5_noteTrail 26 = .ok (.getfield 50, 3) := by decide +kernel
theorem dX5_noteTrail_29 : decode cX5_noteTrail 29 = .ok (.getfield 77, 3) := by decide +kernel
theorem dX5_noteTrail_32 : decode cX5_noteTrail 32 = .ok (.iload_n 2, 1) := by decide +kernel
theorem dX5_noteTrail_33 : decode cX5_noteTrail 33 = .ok (.invokestatic 80, 3) := by decide +kernel
theorem dX5_noteTrail_36 : decode cX5_noteTrail 36 = .ok (.invokestatic 121, 3) := by decide +kernel
theorem dX5_noteTrail_39 : decode cX5_noteTrail 39 = .ok (.iinc 2 1, 3) := by decide +kernel
theorem dX5_noteTrail_42 : decode cX5_noteTrail 42 = .ok (.goto (-40), 3) := by decide +kernel
theorem dX5_noteTrail_45 : decode cX5_noteTrail 45 = .ok (.return_, 1) := by decide +kernel
theorem dX5_firstOfTrail_0 : decode cX5_firstOfTrail 0 = .ok (.iconst 0, 1) := by decide +kernel
theorem dX5_firstOfTrail_1 : decode cX5_firstOfTrail 1 = .ok (.istore_n 2, 1) := by decide +kernel
theorem dX5_firstOfTrail_2 : decode cX5_firstOfTrail 2 = .ok (.iload_n 2, 1) := by decide +kernel
theorem dX5_firstOfTrail_3 : decode cX5_firstOfTrail 3 = .ok (.iload_n 1, 1) := by decide +kernel
theorem dX5_firstOfTrail_4 : decode cX5_firstOfTrail 4 = .ok (.if_icmp .ge 19, 3) := by decide +kernel
theorem dX5_firstOfTrail_7 : decode cX5_firstOfTrail 7 = .ok (.aload_n 0, 1) := by decide +kernel
theorem dX5_firstOfTrail_8 : decode cX5_firstOfTrail 8 = .ok (.iload_n 2, 1) := by decide +kernel
theorem dX5_firstOfTrail_9 : decode cX5_firstOfTrail 9 = .ok (.invokevirtual 159, 3) := by decide +kernel
theorem dX5_firstOfTrail_12 : decode cX5_firstOfTrail 12 = .ok (.ifCond .eq 5, 3) := by decide +kernel
theorem dX5_firstOfTrail_15 : decode cX5_firstOfTrail 15 = .ok (.iload_n 2, 1) := by decide +kernel
theorem dX5_firstOfTrail_16 : decode cX5_firstOfTrail 16 = .ok (.ireturn, 1) := by decide +kernel
theorem dX5_firstOfTrail_17 : decode cX5_firstOfTrail 17 = .ok (.iinc 2 1, 3) := by decide +kernel
theorem dX5_firstOfTrail_20 : decode cX5_firstOfTrail 20 = .ok (.goto (-18), 3) := by decide +kernel
theorem dX5_firstOfTrail_23 : decode cX5_firstOfTrail 23 = .ok (.iconst (-1), 1) := by decide +kernel
theorem dX5_firstOfTrail_24 : decode cX5_firstOfTrail 24 = .ok (.ireturn, 1) := by decide +kernel
theorem dX5_isOnTrail_0 : decode cX5_isOnTrail 0 = .ok (.iconst 0, 1) := by decide +kernel
theorem dX5_isOnTrail_1 : decode cX5_isOnTrail 1 = .ok (.istore_n 2, 1) := by decide +kernel
theorem dX5_isOnTrail_2 : decode cX5_isOnTrail 2 = .ok (.iload_n 2, 1) := by decide +kernel
theorem dX5_isOnTrail_3 : decode cX5_isOnTrail 3 = .ok (.aload_n 0, 1) := by decide +kernel
theorem dX5_isOnTrail_4 : decode cX5_isOnTrail 4 = .ok (.getfield 50, 3) := by decide +kernel
theorem dX5_isOnTrail_7 : decode cX5_isOnTrail 7 = .ok (.getfield 62, 3) := by decide +kernel
theorem dX5_isOnTrail_10 : decode cX5_isOnTrail 10 = .ok (.if_icmp .ge 40, 3) := by decide +kernel
theorem dX5_isOnTrail_13 : decode cX5_isOnTrail 13 = .ok (.aload_n 0, 1) := by decide +kernel
theorem dX5_isOnTrail_14 : decode cX5_isOnTrail 14 = .ok (.getfield 54, 3) := by decide +kernel
theorem dX5_isOnTrail_17 : decode cX5_isOnTrail 17 = .ok (.iload_n 1, 1) := by decide +kernel
theorem dX5_isOnTrail_18 : decode cX5_isOnTrail 18 = .ok (.aload_n 0, 1) := by decide +kernel
theorem dX5_isOnTrail_19 : decode cX5_isOnTrail 19 = .ok (.getfield 42, 3) := by decide +kernel
theorem dX5_isOnTrail_22 : decode cX5_isOnTrail 22 = .ok (.imul, 1) := by decide +kernel
theorem dX5_isOnTrail_23 : decode cX5_isOnTrail 23 = .ok (.iload_n 2, 1) := by decide +kernel
theorem dX5_isOnTrail_24 : decode cX5_isOnTrail 24 = .ok (.iadd, 1) := by decide +kernel
theorem dX5_isOnTrail_25 : decode cX5_isOnTrail 25 = .ok (.invokestatic 80, 3) := by decide +kernel
theorem dX5_isOnTrail_28 : decode cX5_isOnTrail 28 = .ok (.aload_n 0, 1) := by decide +kernel
theorem dX5_isOnTrail_29 : decode cX5_isOnTrail 29 = .ok (.getfield 50, 3) := by decide +kernel
theorem dX5_isOnTrail_32 : decode cX5_isOnTrail 32 = .ok (.getfield 77, 3) := by decide +kernel
theorem dX5_isOnTrail_35 : decode cX5_isOnTrail 35 = .ok (.iload_n 2, 1) := by decide +kernel
theorem dX5_isOnTrail_36 : decode cX5_isOnTrail 36 = .ok (.invokestatic 80, 3) := by decide +kernel
theorem dX5_isOnTrail_39 : decode cX5_isOnTrail 39 = .ok (.if_icmp .eq 5, 3) := by decide +kernel
theorem dX5_isOnTrail_42 : decode cX5_isOnTrail 42 = .ok (.iconst 0, 1) := by decide +kernel
theorem dX5_isOnTrail_43 : decode cX5_isOnTrail 43 = .ok (.ireturn, 1) := by decide +kernel
theorem dX5_isOnTrail_44 : decode cX5_isOnTrail 44 = .ok (.iinc 2 1, 3) := by decide +kernel
theorem dX5_isOnTrail_47 : decode cX5_isOnTrail 47 = .ok (.goto (-45), 3) := by decide +kernel
theorem dX5_isOnTrail_50 : decode cX5_isOnTrail 50 = .ok (.iconst 1, 1) := by decide +kernel
theorem dX5_isOnTrail_51 : decode cX5_isOnTrail 51 = .ok (.ireturn, 1) := by decide +kernel
theorem dX5_wishOf_0 : decode cX5_wishOf 0 = .ok (.aload_n 0, 1) := by decide +kernel
theorem dX5_wishOf_1 : decode cX5_wishOf 1 = .ok (.getfield 50, 3) := by decide +kernel
theorem dX5_wishOf_4 : decode cX5_wishOf 4 = .ok (.getfield 77, 3) := by decide +kernel
theorem dX5_wishOf_7 : decode cX5_wishOf 7 = .ok (.iload_n 1, 1) := by decide +kernel
theorem dX5_wishOf_8 : decode cX5_wishOf 8 = .ok (.invokestatic 80, 3) := by decide +kernel
theorem dX5_wishOf_11 : decode cX5_wishOf 11 = .ok (.istore_n 2, 1) := by decide +kernel
theorem dX5_wishOf_12 : decode cX5_wishOf 12 = .ok (.aload_n 0, 1) := by decide +kernel
theorem dX5_wishOf_13 : decode cX5_wishOf 13 = .ok (.getfield 50, 3) := by decide +kernel
theorem dX5_wishOf_16 : decode cX5_wishOf 16 = .ok (.getfield 93, 3) := by decide +kernel
theorem dX5_wishOf_19 : decode cX5_wishOf 19 = .ok (.iload_n 1, 1) := by decide +kernel
theorem dX5_wishOf_20 : decode cX5_wishOf 20 = .ok (.invokestatic 80, 3) := by decide +kernel
theorem dX5_wishOf_23 : decode cX5_wishOf 23 = .ok (.istore_n 3, 1) := by decide +kernel
theorem dX5_wishOf_24 : decode cX5_wishOf 24 = .ok (.aload_n 0, 1) := by decide +kernel
theorem dX5_wishOf_25 : decode cX5_wishOf 25 = .ok (.iload_n 1, 1) := by decide +kernel
theorem dX5_wishOf_26 : decode cX5_wishOf 26 = .ok (.iload_n 2, 1) := by decide +kernel
theorem dX5_wishOf_27 : decode cX5_wishOf 27 = .ok (.iload_n 3, 1) := by decide +kernel
theorem dX5_wishOf_28 : decode cX5_wishOf 28 = .ok (.invokevirtual 136, 3) := by decide +kernel
theorem dX5_wishOf_31 : decode cX5_wishOf 31 = .ok (.istore 4, 2) := by decide +kernel
theorem dX5_wishOf_33 : decode cX5_wishOf 33 = .ok (.iconst (-1), 1) := by decide +kernel
theorem dX5_wishOf_34 : decode cX5_wishOf 34 = .ok (.istore 5, 2) := by decide +kernel
theorem dX5_wishOf_36 : decode cX5_wishOf 36 = .ok (.iload 5, 2) := by decide +kernel
theorem dX5_wishOf_38 : decode cX5_wishOf 38 = .ok (.aload_n 0, 1) := by decide +kernel
theorem dX5_wishOf_39 : decode cX5_wishOf 39 = .ok (.getfield 12, 3) := by decide +kernel
theorem dX5_wishOf_42 : decode cX5_wishOf 42 = .ok (.getfield 61, 3) := by decide +kernel
theorem dX5_wishOf_45 : decode cX5_wishOf 45 = .ok (.if_icmp .ge 33, 3) := by decide +kernel
theorem dX5_wishOf_48 : decode cX5_wishOf 48 = .ok (.aload_n 0, 1) := by decide +kernel
theorem dX5_wishOf_49 : decode cX5_wishOf 49 = .ok (.iload_n 1, 1) := by decide +kernel
theorem dX5_wishOf_50 : decode cX5_wishOf 50 = .ok (.iload_n 2, 1) := by decide +kernel
theorem dX5_wishOf_51 : decode cX5_wishOf 51 = .ok (.iload 5, 2) := by decide +kernel
theorem dX5_wishOf_53 : decode cX5_wishOf 53 = .ok (.invokevirtual 136, 3) := by decide +kernel
theorem dX5_wishOf_56 : decode cX5_wishOf 56 = .ok (.istore 6, 2) := by decide +kernel
theorem dX5_wishOf_58 : decode cX5_wishOf 58 = .ok (.iload 6, 2) := by decide +kernel
theorem dX5_wishOf_60 : decode cX5_wishOf 60 = .ok (.iload 4, 2) := by decide +kernel
theorem dX5_wishOf_62 : decode cX5_wishOf 62 = .ok (.if_icmp .le 10, 3) := by decide +kernel
theorem dX5_wishOf_65 : decode cX5_wishOf 65 = .ok (.iload 5, 2) := by decide +kernel
theorem dX5_wishOf_67 : decode cX5_wishOf 67 = .ok (.istore_n 3, 1) := by decide +kernel
theorem dX5_wishOf_68 : decode cX5_wishOf 68 = .ok (.iload 6, 2) := by decide +kernel
theorem dX5_wishOf_70 : decode cX5_wishOf 70 = .ok (.istore 4, 2) := by decide +kernel
theorem dX5_wishOf_72 : decode cX5_wishOf 72 = .ok (.iinc 5 1, 3) := by decide +kernel
theorem dX5_wishOf_75 : decode cX5_wishOf 75 = .ok (.goto (-39), 3) := by decide +kernel
theorem dX5_wishOf_78 : decode cX5_wishOf 78 = .ok (.iload_n 3, 1) := by decide +kernel
theorem dX5_wishOf_79 : decode cX5_wishOf 79 = .ok (.ireturn, 1) := by decide +kernel
theorem dX5_goesInRound_0 : decode cX5_goesInRound 0 = .ok (.iconst 0, 1) := by decide +kernel
theorem dX5_goesInRound_1 : decode cX5_goesInRound 1 = .ok (.istore_n 1, 1) := by decide +kernel
theorem dX5_goesInRound_2 : decode cX5_goesInRound 2 = .ok (.iconst 0, 1) := by decide +kernel
theorem dX5_goesInRound_3 : decode cX5_goesInRound 3 = .ok (.istore_n 2, 1) := by decide +kernel
theorem dX5_goesInRound_4 : decode cX5_goesInRound 4 = .ok (.iload_n 2, 1) := by decide +kernel
theorem dX5_goesInRound_5 : decode cX5_goesInRound 5 = .ok (.aload_n 0, 1) := by decide +kernel
theorem dX5_goesInRound_6 : decode cX5_goesInRound 6 = .ok (.getfield 50, 3) := by decide +kernel
theorem dX5_goesInRound_9 : decode cX5_goesInRound 9 = .ok (.getfield 62, 3) := by decide +kernel
theorem dX5_goesInRound_12 : decode cX5_goesInRound 12 = .ok (.if_icmp .ge 44, 3) := by decide +kernel
theorem dX5_goesInRound_15 : decode cX5_goesInRound 15 = .ok (.aload_n 0, 1) := by decide +kernel
theorem dX5_goesInRound_16 : decode cX5_goesInRound 16 = .ok (.iload_n 2, 1) := by decide +kernel
theorem dX5_goesInRound_17 : decode cX5_goesInRound 17 = .ok (.invokevirtual 163, 3) := by decide +kernel
theorem dX5_goesInRound_20 : decode cX5_goesInRound 20 = .ok (.istore_n 3, 1) := by decide +kernel
theorem dX5_goesInRound_21 : decode cX5_goesInRound 21 = .ok (.iload_n 3, 1) := by decide +kernel
theorem dX5_goesInRound_22 : decode cX5_goesInRound 22 = .ok (.aload_n 0, 1) := by decide +kernel
theorem dX5_goesInRound_23 : decode cX5_goesInRound 23 = .ok (.getfield 50, 3) := by decide +kernel
theorem dX5_goesInRound_26 : decode cX5_goesInRound 26 = .ok (.getfield 93, 3) := by decide +kernel
theorem dX5_goesInRound_29 : decode cX5_goesInRound 29 = .ok (.iload_n 2, 1) := by decide +kernel
theorem dX5_goesInRound_30 : decode cX5_goesInRound 30 = .ok (.invokestatic 80, 3) := by decide +kernel
theorem dX5_goesInRound_33 : decode cX5_goesInRound 33 = .ok (.if_icmp .eq 17, 3) := by decide +kernel
theorem dX5_goesInRound_36 : decode cX5_goesInRound 36 = .ok (.aload_n 0, 1) := by decide +kernel
theorem dX5_goesInRound_37 : decode cX5_goesInRound 37 = .ok (.getfield 50, 3) := by decide +kernel
theorem dX5_goesInRound_40 : decode cX5_goesInRound 40 = .ok (.getfield 93, 3) := by decide +kernel
theorem dX5_goesInRound_43 : decode cX5_goesInRound 43 = .ok (.iload_n 2, 1) := by decide +kernel
theorem dX5_goesInRound_44 : decode cX5_goesInRound 44 = .ok (.iload_n 3, 1) := by decide +kernel
theorem dX5_goesInRound_45 : decode cX5_goesInRound 45 = .ok (.invokestatic 121, 3) := by decide +kernel
theorem dX5_goesInRound_48 : decode cX5_goesInRound 48 = .ok (.iconst 1, 1) := by decide +kernel
theorem dX5_goesInRound_49 : decode cX5_goesInRound 49 = .ok (.istore_n 1, 1) := by decide +kernel
theorem dX5_goesInRound_50 : decode cX5_goesInRound 50 = .ok (.iinc 2 1, 3) := by decide +kernel
theorem dX5_goesInRound_53 : decode cX5_goesInRound 53 = .ok (.goto (-49), 3) := by decide +kernel
theorem dX5_goesInRound_56 : decode cX5_goesInRound 56 = .ok (.iload_n 1, 1) := by decide +kernel
theorem dX5_goesInRound_57 : decode cX5_goesInRound 57 = .ok (.ireturn, 1) := by decide +kernel
theorem dX5_nextToLeave_0 : decode cX5_nextToLeave 0 = .ok (.iconst (-1), 1) := by decide +kernel
theorem dX5_nextToLeave_1 : decode cX5_nextToLeave 1 = .ok (.istore_n 2, 1) := by decide +kernel
theorem dX5_nextToLeave_2 : decode cX5_nextToLeave 2 = .ok (.iconst 0, 1) := by decide +kernel
theorem dX5_nextToLeave_3 : decode cX5_nextToLeave 3 = .ok (.istore_n 3, 1) := by decide +kernel
theorem dX5_nextToLeave_4 : decode cX5_nextToLeave 4 = .ok (.iconst 0, 1) := by decide +kernel
theorem dX5_nextToLeave_5 : decode cX5_nextToLeave 5 = .ok (.istore 4, 2) := by decide +kernel
theorem dX5_nextToLeave_7 : decode cX5_nextToLeave 7 = .ok (.iload 4, 2) := by decide +kernel
theorem dX5_nextToLeave_9 : decode cX5_nextToLeave 9 = .ok (.aload_n 0, 1) := by decide +kernel
theorem dX5_nextToLeave_10 : decode cX5_nextToLeave 10 = .ok (.getfield 50, 3) := by decide +kernel
theorem dX5_nextToLeave_13 : decode cX5_nextToLeave 13 = .ok (.getfield 62, 3) := by decide +kernel
theorem dX5_nextToLeave_16 : decode cX5_nextToLeave 16 = .ok (.if_icmp .ge 60, 3) := by decide +kernel
theorem dX5_nextToLeave_19 : decode cX5_nextToLeave 19 = .ok (.aload_n 0, 1) := by decide +kernel
theorem dX5_nextToLeave_20 : decode cX5_nextToLeave 20 = .ok (.getfield 50, 3) := by decide +kernel
theorem dX5_nextToLeave_23 : decode cX5_nextToLeave 23 = .ok (.getfield 93, 3) := by decide +kernel
theorem dX5_nextToLeave_26 : decode cX5_nextToLeave 26 = .ok (.iload 4, 2) := by decide +kernel
theorem dX5_nextToLeave_28 : decode cX5_nextToLeave 28 = .ok (.invokestatic 80, 3) := by decide +kernel
theorem dX5_nextToLeave_31 : decode cX5_nextToLeave 31 = .ok (.iload_n 1, 1) := by decide +kernel
theorem dX5_nextToLeave_32 : decode cX5_nextToLeave 32 = .ok (.if_icmp .ne 38, 3) := by decide +kernel
theorem dX5_nextToLeave_35 : decode cX5_nextToLeave 35 = .ok (.aload_n 0, 1) := by decide +kernel
theorem dX5_nextToLeave_36 : decode cX5_nextToLeave 36 = .ok (.iload 4, 2) := by decide +kernel
theorem dX5_nextToLeave_38 : decode cX5_nextToLeave 38 = .ok (.aload_n 0, 1) := by decide +kernel
theorem dX5_nextToLeave_39 : decode cX5_nextToLeave 39 = .ok (.iload 4, 2) := by decide +kernel
theorem dX5_nextToLeave_41 : decode cX5_nextToLeave 41 = .ok (.iconst (-1), 1) := by decide +kernel
theorem dX5_nextToLeave_42 : decode cX5_nextToLeave 42 = .ok (.invokevirtual 146, 3) := by decide +kernel
theorem dX5_nextToLeave_45 : decode cX5_nextToLeave 45 = .ok (.iconst (-1), 1) := by decide +kernel
theorem dX5_nextToLeave_46 : decode cX5_nextToLeave 46 = .ok (.invokevirtual 136, 3) := by decide +kernel
theorem dX5_nextToLeave_49 : decode cX5_nextToLeave 49 = .ok (.aload_n 0, 1) := by decide +kernel
theorem dX5_nextToLeave_50 : decode cX5_nextToLeave 50 = .ok (.iload 4, 2) := by decide +kernel
theorem dX5_nextToLeave_52 : decode cX5_nextToLeave 52 = .ok (.invokevirtual 140, 3) := by decide +kernel
theorem dX5_nextToLeave_55 : decode cX5_nextToLeave 55 = .ok (.isub, 1) := by decide +kernel
theorem dX5_nextToLeave_56 : decode cX5_nextToLeave 56 = .ok (.istore 5, 2) := by decide +kernel
theorem dX5_nextToLeave_58 : decode cX5_nextToLeave 58 = .ok (.iload 5, 2) := by decide +kernel
theorem dX5_nextToLeave_60 : decode cX5_nextToLeave 60 = .ok (.iload_n 3, 1) := by decide +kernel
theorem dX5_nextToLeave_61 : decode cX5_nextToLeave 61 = .ok (.if_icmp .le 9, 3) := by decide +kernel
theorem dX5_nextToLeave_64 : decode cX5_nextToLeave 64 = .ok (.iload 4, 2) := by decide +kernel
theorem dX5_nextToLeave_66 : decode cX5_nextToLeave 66 = .ok (.istore_n 2, 1) := by decide +kernel
theorem dX5_nextToLeave_67 : decode cX5_nextToLeave 67 = .ok (.iload 5, 2) := by decide +kernel
theorem dX5_nextToLeave_69 : decode cX5_nextToLeave 69 = .ok (.istore_n 3, 1) := by decide +kernel
theorem dX5_nextToLeave_70 : decode cX5_nextToLeave 70 = .ok (.iinc 4 1, 3) := by decide +kernel
theorem dX5_nextToLeave_73 : decode cX5_nextToLeave 73 = .ok (.goto (-66), 3) := by decide +kernel
theorem dX5_nextToLeave_76 : decode cX5_nextToLeave 76 = .ok (.iload_n 2, 1) := by decide +kernel
theorem dX5_nextToLeave_77 : decode cX5_nextToLeave 77 = .ok (.ireturn, 1) := by decide +kernel
theorem dX6_init_0 : decode cX6_init 0 = .ok (.aload_n 0, 1) := by decide +kernel
theorem dX6_init_1 : decode cX6_init 1 = .ok (.invokespecial 3, 3) := by decide +kernel
theorem dX6_init_4 : decode cX6_init 4 = .ok (.aload_n 0, 1) := by decide +kernel
theorem dX6_init_5 : decode cX6_init 5 = .ok (.bipush 6, 2) := by decide +kernel
theorem dX6_init_7 : decode cX6_init 7 = .ok (.newarray .int, 2) := by decide +kernel
theorem dX6_init_9 : decode cX6_init 9 = .ok (.putfield 9, 3) := by decide +kernel
theorem dX6_init_12 : decode cX6_init 12 = .ok (.aload_n 0, 1) := by decide +kernel
theorem dX6_init_13 : decode cX6_init 13 = .ok (.bipush 6, 2) := by decide +kernel
theorem dX6_init_15 : decode cX6_init 15 = .ok (.newarray .int, 2) := by decide +kernel
theorem dX6_init_17 : decode cX6_init 17 = .ok (.putfield 15, 3) := by decide +kernel
theorem dX6_init_20 : decode cX6_init 20 = .ok (.aload_n 0, 1) := by decide +kernel
theorem dX6_init_21 : decode cX6_init 21 = .ok (.bipush 6, 2) := by decide +kernel
theorem dX6_init_23 : decode cX6_init 23 = .ok (.newarray .int, 2) := by decide +kernel
theorem dX6_init_25 : decode cX6_init 25 = .ok (.putfield 18, 3) := by decide +kernel
theorem dX6_init_28 : decode cX6_init 28 = .ok (.aload_n 0, 1) := by decide +kernel
theorem dX6_init_29 : decode cX6_init 29 = .ok (.bipush 6, 2) := by decide +kernel
theorem dX6_init_31 : decode cX6_init 31 = .ok (.newarray .int, 2) := by decide +kernel
theorem dX6_init_33 : decode cX6_init 33 = .ok (.putfield 21, 3) := by decide +kernel
theorem dX6_init_36 : decode cX6_init 36 = .ok (.aload_n 0, 1) := by decide +kernel
theorem dX6_init_37 : decode cX6_init 37 = .ok (.bipush 6, 2) := by decide +kernel
theorem dX6_init_39 : decode cX6_init 39 = .ok (.newarray .int, 2) := by decide +kernel
theorem dX6_init_41 : decode cX6_init 41 = .ok (.putfield 24, 3) := by decide +kernel
theorem dX6_init_44 : decode cX6_init 44 = .ok (.aload_n 0, 1) := by decide +kernel
theorem dX6_init_45 : decode cX6_init 45 = .ok (.bipush 6, 2) := by decide +kernel
theorem dX6_init_47 : decode cX6_init 47 = .ok (.newarray .int, 2) := by decide +kernel
theorem dX6_init_49 : decode cX6_init 49 = .ok (.putfield 27, 3) := by decide +kernel
theorem dX6_init_52 : decode cX6_init 52 = .ok (.return_, 1) := by decide +kernel
theorem dX7_init_0 : decode cX7_init 0 = .ok (.aload_n 0, 1) := by decide +kernel
theorem dX7_init_1 : decode cX7_init 1 = .ok (.invokespecial 3, 3) := by decide +kernel
theorem dX7_init_4 : decode cX7_init 4 = .ok (.aload_n 0, 1) := by decide +kernel
theorem dX7_init_5 : decode cX7_init 5 = .ok (.bipush 33, 2) := by decide +kernel
theorem dX7_init_7 : decode cX7_init 7 = .ok (.newarray .int, 2) := by decide +kernel
theorem dX7_init_9 : decode cX7_init 9 = .ok (.putfield 11, 3) := by decide +kernel
theorem dX7_init_12 : decode cX7_init 12 = .ok (.aload_n 0, 1) := by decide +kernel
theorem dX7_init_13 : decode cX7_init 13 = .ok (.sipush 1601, 3) := by decide +kernel
theorem dX7_init_16 : decode cX7_init 16 = .ok (.newarray .int, 2) := by decide +kernel
theorem dX7_init_18 : decode cX7_init 18 = .ok (.putfield 15, 3) := by decide +kernel
theorem dX7_init_21 : decode cX7_init 21 = .ok (.aload_n 0, 1) := by decide +kernel
theorem dX7_init_22 : decode cX7_init 22 = .ok (.sipush 1601, 3) := by decide +kernel
theorem dX7_init_25 : decode cX7_init 25 = .ok (.newarray .int, 2) := by decide +kernel
theorem dX7_init_27 : decode cX7_init 27 = .ok (.putfield 18, 3) := by decide +kernel
theorem dX7_init_30 : decode cX7_init 30 = .ok (.aload_n 0, 1) := by decide +kernel
theorem dX7_init_31 : decode cX7_init 31 = .ok (.sipush 1601, 3) := by decide +kernel
theorem dX7_init_34 : decode cX7_init 34 = .ok (.newarray .int, 2) := by decide +kernel
theorem dX7_init_36 : decode cX7_init 36 = .ok (.putfield 21, 3) := by decide +kernel
theorem dX7_init_39 : decode cX7_init 39 = .ok (.aload_n 0, 1) := by decide +kernel
theorem dX7_init_40 : decode cX7_init 40 = .ok (.sipush 1601, 3) := by decide +kernel
theorem dX7_init_43 : decode cX7_init 43 = .ok (.newarray .int, 2) := by decide +kernel
theorem dX7_init_45 : decode cX7_init 45 = .ok (.putfield 24, 3) := by decide +kernel
theorem dX7_init_48 : decode cX7_init 48 = .ok (.iconst 0, 1) := by decide +kernel
theorem dX7_init_49 : decode cX7_init 49 = .ok (.istore_n 1, 1) := by decide +kernel
theorem dX7_init_50 : decode cX7_init 50 = .ok (.iconst 0, 1) := by decide +kernel
theorem dX7_init_51 : decode cX7_init 51 = .ok (.istore_n 2, 1) := by decide +kernel
theorem dX7_init_52 : decode cX7_init 52 = .ok (.iconst 0, 1) := by decide +kernel
theorem dX7_init_53 : decode cX7_init 53 = .ok (.istore_n 3, 1) := by decide +kernel
theorem dX7_init_54 : decode cX7_init 54 = .ok (.iload_n 3, 1) := by decide +kernel
theorem dX7_init_55 : decode cX7_init 55 = .ok (.ldc 27, 2) := by decide +kernel
theorem dX7_init_57 : decode cX7_init 57 = .ok (.invokevirtual 29, 3) := by decide +kernel
theorem dX7_init_60 : decode cX7_init 60 = .ok (.if_icmp .ge 40, 3) := by decide +kernel
theorem dX7_init_63 : decode cX7_init 63 = .ok (.ldc 27, 2) := by decide +kernel
theorem dX7_init_65 : decode cX7_init 65 = .ok (.iload_n 3, 1) := by decide +kernel
theorem dX7_init_66 : decode cX7_init 66 = .ok (.invokevirtual 35, 3) := by decide +kernel
theorem dX7_init_69 : decode cX7_init 69 = .ok (.bipush 32, 2) := by decide +kernel
theorem dX7_init_71 : decode cX7_init 71 = .ok (.if_icmp .ne 23, 3) := by decide +kernel
theorem dX7_init_74 : decode cX7_init 74 = .ok (.aload_n 0, 1) := by decide +kernel
theorem dX7_init_75 : decode cX7_init 75 = .ok (.getfield 11, 3) := by decide +kernel
theorem dX7_init_78 : decode cX7_init 78 = .ok (.iload_n 1, 1) := by decide +kernel
theorem dX7_init_79 : decode cX7_init 79 = .ok (.iload_n 2, 1) := by decide +kernel
theorem dX7_init_80 : decode cX7_init 80 = .ok (.iload_n 3, 1) := by decide +kernel
theorem dX7_init_81 : decode cX7_init 81 = .ok (.invokestatic 39, 3) := by decide +kernel
theorem dX7_init_84 : decode cX7_init 84 = .ok (.invokestatic 43, 3) := by decide +kernel
theorem dX7_init_87 : decode cX7_init 87 = .ok (.iinc 1 1, 3) := by decide +kernel
theorem dX7_init_90 : decode cX7_init 90 = .ok (.iload_n 3, 1) := by decide +kernel
theorem dX7_init_91 : decode cX7_init 91 = .ok (.iconst 1, 1) := by decide +kernel
theorem dX7_init_92 : decode cX7_init 92 = .ok (.iadd, 1) := by decide +kernel
theorem dX7_init_93 : decode cX7_init 93 = .ok (.istore_n 2, 1) := by decide +kernel
theorem dX7_init_94 : decode cX7_init 94 = .ok (.iinc 3 1, 3) := by decide +kernel
theorem dX7_init_97 : decode cX7_init 97 = .ok (.goto (-43), 3) := by decide +kernel
theorem dX7_init_100 : decode cX7_init 100 = .ok (.return_, 1) := by decide +kernel
theorem dX7_ownNameOf_0 : decode cX7_ownNameOf 0 = .ok (.iconst 0, 1) := by decide +kernel
theorem dX7_ownNameOf_1 : decode cX7_ownNameOf 1 = .ok (.istore_n 2, 1) := by decide +kernel
theorem dX7_ownNameOf_2 : decode cX7_ownNameOf 2 = .ok (.iload_n 0, 1) := by decide +kernel
theorem dX7_ownNameOf_3 : decode cX7_ownNameOf 3 = .ok (.istore_n 3, 1) := by decide +kernel
theorem dX7_ownNameOf_4 : decode cX7_ownNameOf 4 = .ok (.iload_n 3, 1) := by decide +kernel
theorem dX7_ownNameOf_5 : decode cX7_ownNameOf 5 = .ok (.iload_n 0, 1) := by decide +kernel
theorem dX7_ownNameOf_6 : decode cX7_ownNameOf 6 = .ok (.bipush 6, 2) := by decide +kernel
theorem dX7_ownNameOf_8 : decode cX7_ownNameOf 8 = .ok (.iadd, 1) := by decide +kernel
theorem dX7_ownNameOf_9 : decode cX7_ownNameOf 9 = .ok (.if_icmp .ge 48, 3) := by decide +kernel
theorem dX7_ownNameOf_12 : decode cX7_ownNameOf 12 = .ok (.iload_n 3, 1) := by decide +kernel
theorem dX7_ownNameOf_13 : decode cX7_ownNameOf 13 = .ok (.iload_n 1, 1) := by decide +kernel
theorem dX7_ownNameOf_14 : decode cX7_ownNameOf 14 = .ok (.if_icmp .ge 26, 3) := by decide +kernel
theorem dX7_ownNameOf_17 : decode cX7_ownNameOf 17 = .ok (.iload_n 3, 1) := by decide +kernel
theorem dX7_ownNameOf_18 : decode cX7_ownNameOf 18 = .ok (.ldc 27, 2) := by decide +kernel
theorem dX7_ownNameOf_20 : decode cX7_ownNameOf 20 = .ok (.invokevirtual 29, 3) := by decide +kernel
theorem dX7_ownNameOf_23 : decode cX7_ownNameOf 23 = .ok (.if_icmp .ge 17, 3) := by decide +kernel
theorem dX7_ownNameOf_26 : decode cX7_ownNameOf 26 = .ok (.ldc 27, 2) := by decide +kernel
theorem dX7_ownNameOf_28 : decode cX7_ownNameOf 28 = .ok (.iload_n 3, 1) := by decide +kernel
theorem dX7_ownNameOf_29 : decode cX7_ownNameOf 29 = .ok (.invokevirtual 35, 3) := by decide +kernel
theorem dX7_ownNameOf_32 : decode cX7_ownNameOf 32 = .ok (.bipush 97, 2) := by decide +kernel
theorem dX7_ownNameOf_34 : decode cX7_ownNameOf 34 = .ok (.isub, 1) := by decide +kernel
theorem dX7_ownNameOf_35 : decode cX7_ownNameOf 35 = .ok (.iconst 1, 1) := by decide +kernel
theorem dX7_ownNameOf_36 : decode cX7_ownNameOf 36 = .ok (.iadd, 1) := by decide +kernel
theorem dX7_ownNameOf_37 : decode cX7_ownNameOf 37 = .ok (.goto 4, 3) := by decide +kernel
theorem dX7_ownNameOf_40 : decode cX7_ownNameOf 40 = .ok (.iconst 0, 1) := by decide +kernel
theorem dX7_ownNameOf_41 : decode cX7_ownNameOf 41 = .ok (.istore 4, 2) := by decide +kernel
theorem dX7_ownNameOf_43 : decode cX7_ownNameOf 43 = .ok (.iload_n 2, 1) := by decide +kernel
theorem dX7_ownNameOf_44 : decode cX7_ownNameOf 44 = .ok (.bipush 27, 2) := by decide +kernel
theorem dX7_ownNameOf_46 : decode cX7_ownNameOf 46 = .ok (.imul, 1) := by decide +kernel
theorem dX7_ownNameOf_47 : decode cX7_ownNameOf 47 = .ok (.iload 4, 2) := by decide +kernel
theorem dX7_ownNameOf_49 : decode cX7_ownNameOf 49 = .ok (.iadd, 1) := by decide +kernel
theorem dX7_ownNameOf_50 : decode cX7_ownNameOf 50 = .ok (.istore_n 2, 1) := by decide +kernel
theorem dX7_ownNameOf_51 : decode cX7_ownNameOf 51 = .ok (.iinc 3 1, 3) := by decide +kernel
theorem dX7_ownNameOf_54 : decode cX7_ownNameOf 54 = .ok (.goto (-50), 3) := by decide +kernel
theorem dX7_ownNameOf_57 : decode cX7_ownNameOf 57 = .ok (.iload_n 2, 1) := by decide +kernel
theorem dX7_ownNameOf_58 : decode cX7_ownNameOf 58 = .ok (.ireturn, 1) := by decide +kernel
theorem dX7_cut_0 : decode cX7_cut 0 = .ok (.aload_n 0, 1) := by decide +kernel
theorem dX7_cut_1 : decode cX7_cut 1 = .ok (.iconst 0, 1) := by decide +kernel
theorem dX7_cut_2 : decode cX7_cut 2 = .ok (.putfield 47, 3) := by decide +kernel
theorem dX7_cut_5 : decode cX7_cut 5 = .ok (.iconst 0, 1) := by decide +kernel
theorem dX7_cut_6 : decode cX7_cut 6 = .ok (.istore_n 3, 1) := by decide +kernel
theorem dX7_cut_7 : decode cX7_cut 7 = .ok (.iload_n 3, 1) := by decide +kernel
theorem dX7_cut_8 : decode cX7_cut 8 = .ok (.iload_n 2, 1) := by decide +kernel
theorem dX7_cut_9 : decode cX7_cut 9 = .ok (.if_icmp .ge 57, 3) := by decide +kernel
theorem dX7_cut_12 : decode cX7_cut 12 = .ok (.aload_n 1, 1) := by decide +kernel
theorem dX7_cut_13 : decode cX7_cut 13 = .ok (.iload_n 3, 1) := by decide +kernel
theorem dX7_cut_14 : decode cX7_cut 14 = .ok (.invokestatic 51, 3) := by decide +kernel
theorem dX7_cut_17 : decode cX7_cut 17 = .ok (.istore 4, 2) := by decide +kernel
theorem dX7_cut_19 : decode cX7_cut 19 = .ok (.iload 4, 2) := by decide +kernel
theorem dX7_cut_21 : decode cX7_cut 21 = .ok (.bipush 32, 2) := by decide +kernel
theorem dX7_cut_23 : decode cX7_cut 23 = .ok (.if_icmp .eq 37, 3) := by decide +kernel
theorem dX7_cut_26 : decode cX7_cut 26 = .ok (.iload 4, 2) := by decide +kernel
theorem dX7_cut_28 : decode cX7_cut 28 = .ok (.bipush 10, 2) := by decide +kernel
theorem dX7_cut_30 : decode cX7_cut 30 = .ok (.if_icmp .eq 30, 3) := by decide +kernel
theorem dX7_cut_33 : decode cX7_cut 33 = .ok (.aload_n 1, 1) := by decide +kernel
theorem dX7_cut_34 : decode cX7_cut 34 = .ok (.iload_n 2, 1) := by decide +kernel
theorem dX7_cut_35 : decode cX7_cut 35 = .ok (.iload_n 3, 1) := by decide +kernel
theorem dX7_cut_36 : decode cX7_cut 36 = .ok (.invokestatic 55, 3) := by decide +kernel
theorem dX7_cut_39 : decode cX7_cut 39 = .ok (.istore 5, 2) := by decide +kernel
theorem dX7_cut_41 : decode cX7_cut 41 = .ok (.aload_n 0, 1) := by decide +kernel
theorem dX7_cut_42 : decode cX7_cut 42 = .ok (.aload_n 1, 1) := by decide +kernel
theorem dX7_cut_43 : decode cX7_cut 43 = .ok (.iload_n 3, 1) := by decide +kernel
theorem dX7_cut_44 : decode cX7_cut 44 = .ok (.iload 5, 2) := by decide +kernel
theorem dX7_cut_46 : decode cX7_cut 46 = .ok (.invokevirtual 59, 3) := by decide +kernel
theorem dX7_cut_49 : decode cX7_cut 49 = .ok (.iload_n 3, 1) := by decide +kernel
theorem dX7_cut_50 : decode cX7_cut 50 = .ok (.iconst 0, 1) := by decide +kernel
theorem dX7_cut_51 : decode cX7_cut 51 = .ok (.iload 5, 2) := by decide +kernel
theorem dX7_cut_53 : decode cX7_cut 53 = .ok (.iconst 1, 1) := by decide +kernel
theorem dX7_cut_54 : decode cX7_cut 54 = .ok (.isub, 1) := by decide +kernel
theorem dX7_cut_55 : decode cX7_cut 55 = .ok (.invokestatic 62, 3) := by decide +kernel
theorem dX7_cut_58 : decode cX7_cut 58 = .ok (.iadd, 1) := by decide +kernel
theorem dX7_cut_59 : decode cX7_cut 59 = .ok (.istore_n 3, 1) := by decide +kernel
theorem dX7_cut_60 : decode cX7_cut 60 = .ok (.iinc 3 1, 3) := by decide +kernel
theorem dX7_cut_63 : decode cX7_cut 63 = .ok (.goto (-56), 3) := by decide +kernel
theorem dX7_cut_66 : decode cX7_cut 66 = .ok (.aload_n 0, 1) := by decide +kernel
theorem dX7_cut_67 : decode cX7_cut 67 = .ok (.getfield 15, 3) := by decide +kernel
theorem dX7_cut_70 : decode cX7_cut 70 = .ok (.aload_n 0, 1) := by decide +kernel
theorem dX7_cut_71 : decode cX7_cut 71 = .ok (.getfield 47, 3) := by decide +kernel
theorem dX7_cut_74 : decode cX7_cut 74 = .ok (.bipush 43, 2) := by decide +kernel
theorem dX7_cut_76 : decode cX7_cut 76 = .ok (.invokestatic 43, 3) := by decide +kernel
theorem dX7_cut_79 : decode cX7_cut 79 = .ok (.aload_n 0, 1) := by decide +kernel
theorem dX7_cut_80 : decode cX7_cut 80 = .ok (.getfield 18, 3) := by decide +kernel
theorem dX7_cut_83 : decode cX7_cut 83 = .ok (.aload_n 0, 1) := by decide +kernel
theorem dX7_cut_84 : decode cX7_cut 84 = .ok (.getfield 47, 3) := by decide +kernel
theorem dX7_cut_87 : decode cX7_cut 87 = .ok (.iload_n 2, 1) := by decide +kernel
theorem dX7_cut_88 : decode cX7_cut 88 = .ok (.invokestatic 43, 3) := by decide +kernel
theorem dX7_cut_91 : decode cX7_cut 91 = .ok (.return_, 1) := by decide +kernel
theorem dX7_isLetter_0 : decode cX7_isLetter 0 = .ok (.iload_n 0, 1) := by decide +kernel
theorem dX7_isLetter_1 : decode cX7_isLetter 1 = .ok (.bipush 97, 2) := by decide +kernel
theorem dX7_isLetter_3 : decode cX7_isLetter 3 = .ok (.if_icmp .lt 13, 3) := by decide +kernel
theorem dX7_isLetter_6 : decode cX7_isLetter 6 = .ok (.iload_n 0, 1) := by decide +kernel
theorem dX7_isLetter_7 : decode cX7_isLetter 7 = .ok (.bipush 122, 2) := by decide +kernel
theorem dX7_isLetter_9 : decode cX7_isLetter 9 = .ok (.if_icmp .gt 7, 3) := by decide +kernel
theorem dX7_isLetter_12 : decode cX7_isLetter 12 = .ok (.iconst 1, 1) := by decide +kernel
theorem dX7_isLetter_13 : decode cX7_isLetter 13 = .ok (.goto 4, 3) := by decide +kernel
theorem dX7_isLetter_16 : decode cX7_isLetter 16 = .ok (.iconst 0, 1) := by decide +kernel
theorem dX7_isLetter_17 : decode cX7_isLetter 17 = .ok (.ireturn, 1) := by decide +kernel
theorem dX7_isDigit_0 : decode cX7_isDigit 0 = .ok (.iload_n 0, 1) := by decide +kernel
theorem dX7_isDigit_1 : decode cX7_isDigit 1 = .ok (.bipush 48, 2) := by decide +kernel
theorem dX7_isDigit_3 : decode cX7_isDigit 3 = .ok (.if_icmp .lt 13, 3) := by decide +kernel
theorem dX7_isDigit_6 : decode cX7_isDigit 6 = .ok (.iload_n 0, 1) := by decide +kernel
theorem dX7_isDigit_7 : decode cX7_isDigit 7 = .ok (.bipush 57, 2) := by decide +kernel
theorem dX7_isDigit_9 : decode cX7_isDigit 9 = .ok (.if_icmp .gt 7, 3) := by decide +kernel
theorem dX7_isDigit_12 : decode cX7_isDigit 12 = .ok (.iconst 1, 1) := by decide +kernel
theorem dX7_isDigit_13 : decode cX7_isDigit 13 = .ok (.goto 4, 3) := by decide +kernel
theorem dX7_isDigit_16 : decode cX7_isDigit 16 = .ok (.iconst 0, 1) := by decide +kernel
theorem dX7_isDigit_17 : decode cX7_isDigit 17 = .ok (.ireturn, 1) := by decide +kernel
theorem dX7_spanAt_0 : decode cX7_spanAt 0 = .ok (.aload_n 0, 1) := by decide +kernel
theorem dX7_spanAt_1 : decode cX7_spanAt 1 = .ok (.iload_n 2, 1) := by decide +kernel
theorem dX7_spanAt_2 : decode cX7_spanAt 2 = .ok (.invokestatic 51, 3) := by decide +kernel
theorem dX7_spanAt_5 : decode cX7_spanAt 5 = .ok (.invokestatic 67, 3) := by decide +kernel
theorem dX7_spanAt_8 : decode cX7_spanAt 8 = .ok (.istore_n 3, 1) := by decide +kernel
theorem dX7_spanAt_9 : decode cX7_spanAt 9 = .ok (.aload_n 0, 1) := by decide +kernel
theorem dX7_spanAt_10 : decode cX7_spanAt 10 = .ok (.iload_n 2, 1) := by decide +kernel
theorem dX7_spanAt_11 : decode cX7_spanAt 11 = .ok (.invokestatic 51, 3) := by decide +kernel
theorem dX7_spanAt_14 : decode cX7_spanAt 14 = .ok (.invokestatic 71, 3) := by decide +kernel
theorem dX7_spanAt_17 : decode cX7_spanAt 17 = .ok (.istore 4, 2) := by decide +kernel
theorem dX7_spanAt_19 : decode cX7_spanAt 19 = .ok (.iload_n 2, 1) := by decide +kernel
theorem dX7_spanAt_20 : decode cX7_spanAt 20 = .ok (.iconst 1, 1) := by decide +kernel
theorem dX7_spanAt_21 : decode cX7_spanAt 21 = .ok (.iadd, 1) := by decide +kernel
theorem dX7_spanAt_22 : decode cX7_spanAt 22 = .ok (.istore 5, 2) := by decide +kernel
theorem dX7_spanAt_24 : decode cX7_spanAt 24 = .ok (.iload 5, 2) := by decide +kernel
theorem dX7_spanAt_26 : decode cX7_spanAt 26 = .ok (.iload_n 1, 1) := by decide +kernel
theorem dX7_spanAt_27 : decode cX7_spanAt 27 = .ok (.if_icmp .ge 47, 3) := by decide +kernel
theorem dX7_spanAt_30 : decode cX7_spanAt 30 = .ok (.aload_n 0, 1) := by decide +kernel
theorem dX7_spanAt_31 : decode cX7_spanAt 31 = .ok (.iload 5, 2) := by decide +kernel
theorem dX7_spanAt_33 : decode cX7_spanAt 33 = .ok (.invokestatic 51, 3) := by decide +kernel
theorem dX7_spanAt_36 : decode cX7_spanAt 36 = .ok (.istore 6, 2) := by decide +kernel
theorem dX7_spanAt_38 : decode cX7_spanAt 38 = .ok (.iload_n 3, 1) := by decide +kernel
theorem dX7_spanAt_39 : decode cX7_spanAt 39 = .ok (.ifCond .eq 11, 3) := by decide +kernel
theorem dX7_spanAt_42 : decode cX7_spanAt 42 = .ok (.iload 6, 2) := by decide +kernel
theorem dX7_spanAt_44 : decode cX7_spanAt 44 = .ok (.invokestatic 67, 3) := by decide +kernel
theorem dX7_spanAt_47 : decode cX7_spanAt 47 = .ok (.ifCond .ne 21, 3) := by decide +kernel
theorem dX7_spanAt_50 : decode cX7_spanAt 50 = .ok (.iload 4, 2) := by decide +kernel
theorem dX7_spanAt_52 : decode cX7_spanAt 52 = .ok (.ifCond .eq 11, 3) := by decide +kernel
theorem dX7_spanAt_55 : decode cX7_spanAt 55 = .ok (.iload 6, 2) := by decide +kernel
theorem dX7_spanAt_57 : decode cX7_spanAt 57 = .ok (.invokestatic 71, 3) := by decide +kernel
theorem dX7_spanAt_60 : decode cX7_spanAt 60 = .ok (.ifCond .ne 8, 3) := by decide +kernel
theorem dX7_spanAt_63 : decode cX7_spanAt 63 = .ok (.iload 5, 2) := by decide +kernel
theorem dX7_spanAt_65 : decode cX7_spanAt 65 = .ok (.iload_n 2, 1) := by decide +kernel
theorem dX7_spanAt_66 : decode cX7_spanAt 66 = .ok (.isub, 1) := by decide +kernel
theorem dX7_spanAt_67 : decode cX7_spanAt 67 = .ok (.ireturn, 1) := by decide +kernel
theorem dX7_spanAt_68 : decode cX7_spanAt 68 = .ok (.iinc 5 1, 3) := by decide +kernel
theorem dX7_spanAt_71 : decode cX7_spanAt 71 = .ok (.goto (-47), 3) := by decide +kernel
theorem dX7_spanAt_74 : decode cX7_spanAt 74 = .ok (.iload_n 1, 1) := by decide +kernel
theorem dX7_spanAt_75 : decode cX7_spanAt 75 = .ok (.iload_n 2, 1) := by decide +kernel
theorem dX7_spanAt_76 : decode cX7_spanAt 76 = .ok (.isub, 1) := by decide +kernel
theorem dX7_spanAt_77 : decode cX7_spanAt 77 = .ok (.ireturn, 1) := by decide +kernel
theorem dX7_add_0 : decode cX7_add 0 = .ok (.aload_n 1, 1) := by decide +kernel
theorem dX7_add_1 : decode cX7_add 1 = .ok (.iload_n 2, 1) := by decide +kernel
theorem dX7_add_2 : decode cX7_add 2 = .ok (.invokestatic 51, 3) := by decide +kernel
theorem dX7_add_5 : decode cX7_add 5 = .ok (.istore 4, 2) := by decide +kernel
theorem dX7_add_7 : decode cX7_add 7 = .ok (.aload_n 0, 1) := by decide +kernel
theorem dX7_add_8 : decode cX7_add 8 = .ok (.iload_n 2, 1) := by decide +kernel
theorem dX7_add_9 : decode cX7_add 9 = .ok (.invokevirtual 74, 3) := by decide +kernel
theorem dX7_add_12 : decode cX7_add 12 = .ok (.istore 5, 2) := by decide +kernel
theorem dX7_add_14 : decode cX7_add 14 = .ok (.iload 4, 2) := by decide +kernel
theorem dX7_add_16 : decode cX7_add 16 = .ok (.invokestatic 67, 3) := by decide +kernel
theorem dX7_add_19 : decode cX7_add 19 = .ok (.ifCond .eq 84, 3) := by decide +kernel
theorem dX7_add_22 : decode cX7_add 22 = .ok (.aload_n 1, 1) := by decide +kernel
theorem dX7_add_23 : decode cX7_add 23 = .ok (.iload_n 2, 1) := by decide +kernel
theorem dX7_add_24 : decode cX7_add 24 = .ok (.iload_n 3, 1) := by decide +kernel
theorem dX7_add_25 : decode cX7_add 25 = .ok (.invokestatic 77, 3) := by decide +kernel
theorem dX7_add_28 : decode cX7_add 28 = .ok (.istore 6, 2) := by decide +kernel
theorem dX7_add_30 : decode cX7_add 30 = .ok (.iload_n 3, 1) := by decide +kernel
theorem dX7_add_31 : decode cX7_add 31 = .ok (.bipush 6, 2) := by decide +kernel
theorem dX7_add_33 : decode cX7_add 33 = .ok (.if_icmp .le 7, 3) := by decide +kernel
theorem dX7_add_36 : decode cX7_add 36 = .ok (.iconst (-1), 1) := by decide +kernel
theorem dX7_add_37 : decode cX7_add 37 = .ok (.goto 14, 3) := by decide +kernel
theorem dX7_add_40 : decode cX7_add 40 = .ok (.aload_n 0, 1) := by decide +kernel
theorem dX7_add_41 : decode cX7_add 41 = .ok (.getfield 11, 3) := by decide +kernel
theorem dX7_add_44 : decode cX7_add 44 = .ok (.bipush 33, 2) := by decide +kernel
theorem dX7_add_46 : decode cX7_add 46 = .ok (.iload 6, 2) := by decide +kernel
theorem dX7_add_48 : decode cX7_add 48 = .ok (.invokestatic 80, 3) := by decide +kernel
theorem dX7_add_51 : decode cX7_add 51 = .ok (.istore 7, 2) := by decide +kernel
theorem dX7_add_53 : decode cX7_add 53 = .ok (.aload_n 0, 1) := by decide +kernel
theorem dX7_add_54 : decode cX7_add 54 = .ok (.getfield 15, 3) := by decide +kernel
theorem dX7_add_57 : decode cX7_add 57 = .ok (.aload_n 0, 1) := by decide +kernel
theorem dX7_add_58 : decode cX7_add 58 = .ok (.getfield 47, 3) := by decide +kernel
theorem dX7_add_61 : decode cX7_add 61 = .ok (.iload 5, 2) := by decide +kernel
theorem dX7_add_63 : decode cX7_add 63 = .ok (.ifCond .eq 8, 3) := by decide +kernel
theorem dX7_add_66 : decode cX7_add 66 = .ok (.bipush 42, 2) := by decide +kernel
theorem dX7_add_68 : decode cX7_add 68 = .ok (.goto 16, 3) := by decide +kernel
theorem dX7_add_71 : decode cX7_add 71 = .ok (.iload 7, 2) := by decide +kernel
theorem dX7_add_73 : decode cX7_add 73 = .ok (.iconst (-1), 1) := by decide +kernel
theorem dX7_add_74 : decode cX7_add 74 = .ok (.if_icmp .ne 8, 3) := by decide +kernel
theorem dX7_add_77 : decode cX7_add 77 = .ok (.bipush 40, 2) := by decide +kernel
theorem dX7_add_79 : decode cX7_add 79 = .ok (.goto 5, 3) := by decide +kernel
theorem dX7_add_82 : decode cX7_add 82 = .ok (.iload 7, 2) := by decide +kernel
theorem dX7_add_84 : decode cX7_add 84 = .ok (.invokestatic 43, 3) := by decide +kernel
theorem dX7_add_87 : decode cX7_add 87 = .ok (.aload_n 0, 1) := by decide +kernel
theorem dX7_add_88 : decode cX7_add 88 = .ok (.getfield 24, 3) := by decide +kernel
theorem dX7_add_91 : decode cX7_add 91 = .ok (.aload_n 0, 1) := by decide +kernel
theorem dX7_add_92 : decode cX7_add 92 = .ok (.getfield 47, 3) := by decide +kernel
theorem dX7_add_95 : decode cX7_add 95 = .ok (.iload 6, 2) := by decide +kernel
theorem dX7_add_97 : decode cX7_add 97 = .ok (.invokestatic 43, 3) := by decide +kernel
theorem dX7_add_100 : decode cX7_add 100 = .ok (.goto 71, 3) := by decide +kernel
theorem dX7_add_103 : decode cX7_add 103 = .ok (.iload 4, 2) := by decide +kernel
theorem dX7_add_105 : decode cX7_add 105 = .ok (.invokestatic 71, 3) := by decide +kernel
theorem dX7_add_108 : decode cX7_add 108 = .ok (.ifCond .eq 46, 3) := by decide +kernel
theorem dX7_add_111 : decode cX7_add 111 = .ok (.aload_n 0, 1) := by decide +kernel
theorem dX7_add_112 : decode cX7_add 112 = .ok (.getfield 15, 3) := by decide +kernel
theorem dX7_add_115 : decode cX7_add 115 = .ok (.aload_n 0, 1) := by decide +kernel
theorem dX7_add_116 : decode cX7_add 116 = .ok (.getfield 47, 3) := by decide +kernel
theorem dX7_add_119 : decode cX7_add 119 = .ok (.iload 5, 2) := by decide +kernel
theorem dX7_add_121 : decode cX7_add 121 = .ok (.ifCond .eq 8, 3) := by decide +kernel
theorem dX7_add_124 : decode cX7_add 124 = .ok (.bipush 42, 2) := by decide +kernel
theorem dX7_add_126 : decode cX7_add 126 = .ok (.goto 5, 3) := by decide +kernel
theorem dX7_add_129 : decode cX7_add 129 = .ok (.bipush 41, 2) := by decide +kernel
theorem dX7_add_131 : decode cX7_add 131 = .ok (.invokestatic 43, 3) := by decide +kernel
theorem dX7_add_134 : decode cX7_add 134 = .ok (.aload_n 0, 1) := by decide +kernel
theorem dX7_add_135 : decode cX7_add 135 = .ok (.getfield 24, 3) := by decide +kernel
theorem dX7_add_138 : decode cX7_add 138 = .ok (.aload_n 0, 1) := by decide +kernel
theorem dX7_add_139 : decode cX7_add 139 = .ok (.getfield 47, 3) := by decide +kernel
theorem dX7_add_142 : decode cX7_add 142 = .ok (.aload_n 1, 1) := by decide +kernel
theorem dX7_add_143 : decode cX7_add 143 = .ok (.iload_n 2, 1) := by decide +kernel
theorem dX7_add_144 : decode cX7_add 144 = .ok (.iload_n 3, 1) := by decide +kernel
theorem dX7_add_145 : decode cX7_add 145 = .ok (.invokestatic 83, 3) := by decide +kernel
theorem dX7_add_148 : decode cX7_add 148 = .ok (.invokestatic 43, 3) := by decide +kernel
theorem dX7_add_151 : decode cX7_add 151 = .ok (.goto 20, 3) := by decide +kernel
theorem dX7_add_154 : decode cX7_add 154 = .ok (.aload_n 0, 1) := by decide +kernel
theorem dX7_add_155 : decode cX7_add 155 = .ok (.getfield 15, 3) := by decide +kernel
theorem dX7_add_158 : decode cX7_add 158 = .ok (.aload_n 0, 1) := by decide +kernel
theorem dX7_add_159 : decode cX7_add 159 = .ok (.getfield 47, 3) := by decide +kernel
theorem dX7_add_162 : decode cX7_add 162 = .ok (.sipush 256, 3) := by decide +kernel
theorem dX7_add_165 : decode cX7_add 165 = .ok (.iload 4, 2) := by decide +kernel
theorem dX7_add_167 : decode cX7_add 167 = .ok (.iadd, 1) := by decide +kernel
theorem dX7_add_168 : decode cX7_add 168 = .ok (.invokestatic 43, 3) := by decide +kernel
theorem dX7_add_171 : decode cX7_add 171 = .ok (.aload_n 0, 1) := by decide +kernel
theorem dX7_add_172 : decode cX7_add 172 = .ok (.getfield 18, 3) := by decide +kernel
theorem dX7_add_175 : decode cX7_add 175 = .ok (.aload_n 0, 1) := by decide +kernel
theorem dX7_add_176 : decode cX7_add 176 = .ok (.getfield 47, 3) := by decide +kernel
theorem dX7_add_179 : decode cX7_add 179 = .ok (.iload_n 2, 1) := by decide +kernel
theorem dX7_add_180 : decode cX7_add 180 = .ok (.invokestatic 43, 3) := by decide +kernel
theorem dX7_add_183 : decode cX7_add 183 = .ok (.aload_n 0, 1) := by decide +kernel
theorem dX7_add_184 : decode cX7_add 184 = .ok (.getfield 21, 3) := by decide +kernel
theorem dX7_add_187 : decode cX7_add 187 = .ok (.aload_n 0, 1) := by decide +kernel
theorem dX7_add_188 : decode cX7_add 188 = .ok (.getfield 47, 3) := by decide +kernel
theorem dX7_add_191 : decode cX7_add 191 = .ok (.iload_n 3, 1) := by decide +kernel
theorem dX7_add_192 : decode cX7_add 192 = .ok (.invokestatic 43, 3) := by decide +kernel
theorem dX7_add_195 : decode cX7_add 195 = .ok (.aload_n 0, 1) := by decide +kernel
theorem dX7_add_196 : decode cX7_add 196 = .ok (.dup, 1) := by decide +kernel
theorem dX7_add_197 : decode cX7_add 197 = .ok (.getfield 47, 3) := by decide +kernel
theorem dX7_add_200 : decode cX7_add 200 = .ok (.iconst 1, 1) := by decide +kernel
theorem dX7_add_201 : decode cX7_add 201 = .ok (.iadd, 1) := by decide +kernel
theorem dX7_add_202 : decode cX7_add 202 = .ok (.putfield 47, 3) := by decide +kernel
theorem dX7_add_205 : decode cX7_add 205 = .ok (.return_, 1) := by decide +kernel
theorem dX7_isStuck_0 : decode cX7_isStuck 0 = .ok (.aload_n 0, 1) := by decide +kernel
theorem dX7_isStuck_1 : decode cX7_isStuck 1 = .ok (.getfield 47, 3) := by decide +kernel
theorem dX7_isStuck_4 : decode cX7_isStuck 4 = .ok (.iconst 1, 1) := by decide +kernel
theorem dX7_isStuck_5 : decode cX7_isStuck 5 = .ok (.isub, 1) := by decide +kernel
theorem dX7_isStuck_6 : decode cX7_isStuck 6 = .ok (.istore_n 2, 1) := by decide +kernel
theorem dX7_isStuck_7 : decode cX7_isStuck 7 = .ok (.iload_n 2, 1) := by decide +kernel
theorem dX7_isStuck_8 : decode cX7_isStuck 8 = .ok (.ifCond .lt 42, 3) := by decide +kernel
theorem dX7_isStuck_11 : decode cX7_isStuck 11 = .ok (.aload_n 0, 1) := by decide +kernel
theorem dX7_isStuck_12 : decode cX7_isStuck 12 = .ok (.getfield 15, 3) := by decide +kernel
theorem dX7_isStuck_15 : decode cX7_isStuck 15 = .ok (.iload_n 2, 1) := by decide +kernel
theorem dX7_isStuck_16 : decode cX7_isStuck 16 = .ok (.invokestatic 51, 3) := by decide +kernel
theorem dX7_isStuck_19 : decode cX7_isStuck 19 = .ok (.sipush 256, 3) := by decide +kernel
theorem dX7_isStuck_22 : decode cX7_isStuck 22 = .ok (.if_icmp .ge 28, 3) := by decide +kernel
theorem dX7_isStuck_25 : decode cX7_isStuck 25 = .ok (.aload_n 0, 1) := by decide +kernel
theorem dX7_isStuck_26 : decode cX7_isStuck 26 = .ok (.getfield 18, 3) := by decide +kernel
theorem dX7_isStuck_29 : decode cX7_isStuck 29 = .ok (.iload_n 2, 1) := by decide +kernel
theorem dX7_isStuck_30 : decode cX7_isStuck 30 = .ok (.invokestatic 51, 3) := by decide +kernel
theorem dX7_isStuck_33 : decode cX7_isStuck 33 = .ok (.aload_n 0, 1) := by decide +kernel
theorem dX7_isStuck_34 : decode cX7_isStuck 34 = .ok (.getfield 21, 3) := by decide +kernel
theorem dX7_isStuck_37 : decode cX7_isStuck 37 = .ok (.iload_n 2, 1) := by decide +kernel
theorem dX7_isStuck_38 : decode cX7_isStuck 38 = .ok (.invokestatic 51, 3) := by decide +kernel
theorem dX7_isStuck_41 : decode cX7_isStuck 41 = .ok (.iadd, 1) := by decide +kernel
theorem dX7_isStuck_42 : decode cX7_isStuck 42 = .ok (.iload_n 1, 1) := by decide +kernel
theorem dX7_isStuck_43 : decode cX7_isStuck 43 = .ok (.if_icmp .ne 7, 3) := by decide +kernel
theorem dX7_isStuck_46 : decode cX7_isStuck 46 = .ok (.iconst 1, 1) := by decide +kernel
theorem dX7_isStuck_47 : decode cX7_isStuck 47 = .ok (.goto 4, 3) := by decide +kernel
theorem dX7_isStuck_50 : decode cX7_isStuck 50 = .ok (.iconst 0, 1) := by decide +kernel
theorem dX7_isStuck_51 : decode cX7_isStuck 51 = .ok (.ireturn, 1) := by decide +kernel
theorem dX7_nameAt_0 : decode cX7_nameAt 0 = .ok (.iconst 0, 1) := by decide +kernel
theorem dX7_nameAt_1 : decode cX7_nameAt 1 = .ok (.istore_n 3, 1) := by decide +kernel
theorem dX7_nameAt_2 : decode cX7_nameAt 2 = .ok (.iconst 0, 1) := by decide +kernel
theorem dX7_nameAt_3 : decode cX7_nameAt 3 = .ok (.istore 4, 2) := by decide +kernel
theorem dX7_nameAt_5 : decode cX7_nameAt 5 = .ok (.iload 4, 2) := by decide +kernel
theorem dX7_nameAt_7 : decode cX7_nameAt 7 = .ok (.bipush 6, 2) := by decide +kernel
theorem dX7_nameAt_9 : decode cX7_nameAt 9 = .ok (.if_icmp .ge 38, 3) := by decide +kernel
theorem dX7_nameAt_12 : decode cX7_nameAt 12 = .ok (.iload_n 3, 1) := by decide +kernel
theorem dX7_nameAt_13 : decode cX7_nameAt 13 = .ok (.bipush 27, 2) := by decide +kernel
theorem dX7_nameAt_15 : decode cX7_nameAt 15 = .ok (.imul, 1) := by decide +kernel
theorem dX7_nameAt_16 : decode cX7_nameAt 16 = .ok (.iload 4, 2) := by decide +kernel
theorem dX7_nameAt_18 : decode cX7_nameAt 18 = .ok (.iload_n 2, 1) := by decide +kernel
theorem dX7_nameAt_19 : decode cX7_nameAt 19 = .ok (.if_icmp .ge 19, 3) := by decide +kernel
theorem dX7_nameAt_22 : decode cX7_nameAt 22 = .ok (.aload_n 0, 1) := by decide +kernel
theorem dX7_nameAt_23 : decode cX7_nameAt 23 = .ok (.iload_n 1, 1) := by decide +kernel
theorem dX7_nameAt_24 : decode cX7_nameAt 24 = .ok (.iload 4, 2) := by decide +kernel
theorem dX7_nameAt_26 : decode cX7_nameAt 26 = .ok (.iadd, 1) := by decide +kernel
theorem dX7_nameAt_27 : decode cX7_nameAt 27 = .ok (.invokestatic 51, 3) := by decide +kernel
theorem dX7_nameAt_30 : decode cX7_nameAt 30 = .ok (.bipush 97, 2) := by decide +kernel
theorem dX7_nameAt_32 : decode cX7_nameAt 32 = .ok (.isub, 1) := by decide +kernel
theorem dX7_nameAt_33 : decode cX7_nameAt 33 = .ok (.iconst 1, 1) := by decide +kernel
theorem dX7_nameAt_34 : decode cX7_nameAt 34 = .ok (.iadd, 1) := by decide +kernel
theorem dX7_nameAt_35 : decode cX7_nameAt 35 = .ok (.goto 4, 3) := by decide +kernel
theorem dX7_nameAt_38 : decode cX7_nameAt 38 = .ok (.iconst 0, 1) := by decide +kernel
theorem dX7_nameAt_39 : decode cX7_nameAt 39 = .ok (.iadd, 1) := by decide +kernel
theorem dX7_nameAt_40 : decode cX7_nameAt 40 = .ok (.istore_n 3, 1) := by decide +kernel
theorem dX7_nameAt_41 : decode cX7_nameAt 41 = .ok (.iinc 4 1, 3) := by decide +kernel
theorem dX7_nameAt_44 : decode cX7_nameAt 44 = .ok (.goto (-39), 3) := by decide +kernel
theorem dX7_nameAt_47 : decode cX7_nameAt 47 = .ok (.iload_n 3, 1) := by decide +kernel
theorem dX7_nameAt_48 : decode cX7_nameAt 48 = .ok (.ireturn, 1) := by decide +kernel
theorem dX7_numberAt_0 : decode cX7_numberAt 0 = .ok (.iconst 0, 1) := by decide +kernel
theorem dX7_numberAt_1 : decode cX7_numberAt 1 = .ok (.istore_n 3, 1) := by decide +kernel
theorem dX7_numberAt_2 : decode cX7_numberAt 2 = .ok (.iconst 0, 1) := by decide +kernel
theorem dX7_numberAt_3 : decode cX7_numberAt 3 = .ok (.istore 4, 2) := by decide +kernel
theorem dX7_numberAt_5 : decode cX7_numberAt 5 = .ok (.iload 4, 2) := by decide +kernel
theorem dX7_numberAt_7 : decode cX7_numberAt 7 = .ok (.iload_n 2, 1) := by decide +kernel
theorem dX7_numberAt_8 : decode cX7_numberAt 8 = .ok (.if_icmp .ge 32, 3) := by decide +kernel
theorem dX7_numberAt_11 : decode cX7_numberAt 11 = .ok (.iload 4, 2) := by decide +kernel
theorem dX7_numberAt_13 : decode cX7_numberAt 13 = .ok (.iconst 4, 1) := by decide +kernel
theorem dX7_numberAt_14 : decode cX7_numberAt 14 = .ok (.if_icmp .ge 26, 3) := by decide +kernel
theorem dX7_numberAt_17 : decode cX7_numberAt 17 = .ok (.bipush 10, 2) := by decide +kernel
theorem dX7_numberAt_19 : decode cX7_numberAt 19 = .ok (.iload_n 3, 1) := by decide +kernel
theorem dX7_numberAt_20 : decode cX7_numberAt 20 = .ok (.imul, 1) := by decide +kernel
theorem dX7_numberAt_21 : decode cX7_numberAt 21 = .ok (.aload_n 0, 1) := by decide +kernel
theorem dX7_numberAt_22 : decode cX7_numberAt 22 = .ok (.iload_n 1, 1) := by decide +kernel
theorem dX7_numberAt_23 : decode cX7_numberAt 23 = .ok (.iload 4, 2) := by decide +kernel
theorem dX7_numberAt_25 : decode cX7_numberAt 25 = .ok (.iadd, 1) := by decide +kernel
theorem dX7_numberAt_26 : decode cX7_numberAt 26 = .ok (.invokestatic 51, 3) := by decide +kernel
theorem dX7_numberAt_29 : decode cX7_numberAt 29 = .ok (.iadd, 1) := by decide +kernel
theorem dX7_numberAt_30 : decode cX7_numberAt 30 = .ok (.bipush 48, 2) := by decide +kernel
theorem dX7_numberAt_32 : decode cX7_numberAt 32 = .ok (.isub, 1) := by decide +kernel
theorem dX7_numberAt_33 : decode cX7_numberAt 33 = .ok (.istore_n 3, 1) := by decide +kernel
theorem dX7_numberAt_34 : decode cX7_numberAt 34 = .ok (.iinc 4 1, 3) := by decide +kernel
theorem dX7_numberAt_37 : decode cX7_numberAt 37 = .ok (.goto (-32), 3) := by decide +kernel
theorem dX7_numberAt_40 : decode cX7_numberAt 40 = .ok (.iload_n 3, 1) := by decide +kernel
theorem dX7_numberAt_41 : decode cX7_numberAt 41 = .ok (.ireturn, 1) := by decide +kernel
theorem dX8_init_0 : decode cX8_init 0 = .ok (.aload_n 0, 1) := by decide +kernel
theorem dX8_init_1 : decode cX8_init 1 = .ok (.invokespecial 3, 3) := by decide +kernel
theorem dX8_init_4 : decode cX8_init 4 = .ok (.aload_n 0, 1) := by decide +kernel
theorem dX8_init_5 : decode cX8_init 5 = .ok (.new 9, 3) := by decide +kernel
theorem dX8_init_8 : decode cX8_init 8 = .ok (.dup, 1) := by decide +kernel
theorem dX8_init_9 : decode cX8_init 9 = .ok (.bipush 12, 2) := by decide +kernel
theorem dX8_init_11 : decode cX8_init 11 = .ok (.invokespecial 11, 3) := by decide +kernel
theorem dX8_init_14 : decode cX8_init 14 = .ok (.putfield 14, 3) := by decide +kernel
theorem dX8_init_17 : decode cX8_init 17 = .ok (.aload_n 0, 1) := by decide +kernel
theorem dX8_init_18 : decode cX8_init 18 = .ok (.new 20, 3) := by decide +kernel
theorem dX8_init_21 : decode cX8_init 21 = .ok (.dup, 1) := by decide +kernel
theorem dX8_init_22 : decode cX8_init 22 = .ok (.invokespecial 22, 3) := by decide +kernel
theorem dX8_init_25 : decode cX8_init 25 = .ok (.putfield 23, 3) := by decide +kernel
theorem dX8_init_28 : decode cX8_init 28 = .ok (.return_, 1) := by decide +kernel
theorem dX9_init_0 : decode cX9_init 0 = .ok (.aload_n 0, 1) := by decide +kernel
theorem dX9_init_1 : decode cX9_init 1 = .ok (.invokespecial 3, 3) := by decide +kernel
theorem dX9_init_4 : decode cX9_init 4 = .ok (.aload_n 0, 1) := by decide +kernel
theorem dX9_init_5 : decode cX9_init 5 = .ok (.bipush 12, 2) := by decide +kernel
theorem dX9_init_7 : decode cX9_init 7 = .ok (.newarray .int, 2) := by decide +kernel
theorem dX9_init_9 : decode cX9_init 9 = .ok (.putfield 9, 3) := by decide +kernel
theorem dX9_init_12 : decode cX9_init 12 = .ok (.aload_n 0, 1) := by decide +kernel
theorem dX9_init_13 : decode cX9_init 13 = .ok (.bipush 12, 2) := by decide +kernel
theorem dX9_init_15 : decode cX9_init 15 = .ok (.newarray .int, 2) := by decide +kernel
theorem dX9_init_17 : decode cX9_init 17 = .ok (.putfield 15, 3) := by decide +kernel
theorem dX9_init_20 : decode cX9_init 20 = .ok (.aload_n 0, 1) := by decide +kernel
theorem dX9_init_21 : decode cX9_init 21 = .ok (.bipush 12, 2) := by decide +kernel
theorem dX9_init_23 : decode cX9_init 23 = .ok (.newarray .int, 2) := by decide +kernel
theorem dX9_init_25 : decode cX9_init 25 = .ok (.putfield 18, 3) := by decide +kernel
theorem dX9_init_28 : decode cX9_init 28 = .ok (.aload_n 0, 1) := by decide +kernel
theorem dX9_init_29 : decode cX9_init 29 = .ok (.bipush 12, 2) := by decide +kernel
theorem dX9_init_31 : decode cX9_init 31 = .ok (.newarray .int, 2) := by decide +kernel
theorem dX9_init_33 : decode cX9_init 33 = .ok (.putfield 21, 3) := by decide +kernel
theorem dX9_init_36 : decode cX9_init 36 = .ok (.aload_n 0, 1) := by decide +kernel
theorem dX9_init_37 : decode cX9_init 37 = .ok (.bipush 12, 2) := by decide +kernel
theorem dX9_init_39 : decode cX9_init 39 = .ok (.newarray .int, 2) := by decide +kernel
theorem dX9_init_41 : decode cX9_init 41 = .ok (.putfield 24, 3) := by decide +kernel
theorem dX9_init_44 : decode cX9_init 44 = .ok (.aload_n 0, 1) := by decide +kernel
theorem dX9_init_45 : decode cX9_init 45 = .ok (.bipush 12, 2) := by decide +kernel
theorem dX9_init_47 : decode cX9_init 47 = .ok (.newarray .int, 2) := by decide +kernel
theorem dX9_init_49 : decode cX9_init 49 = .ok (.putfield 27, 3) := by decide +kernel
theorem dX9_init_52 : decode cX9_init 52 = .ok (.aload_n 0, 1) := by decide +kernel
theorem dX9_init_53 : decode cX9_init 53 = .ok (.bipush 8, 2) := by decide +kernel
theorem dX9_init_55 : decode cX9_init 55 = .ok (.newarray .int, 2) := by decide +kernel
theorem dX9_init_57 : decode cX9_init 57 = .ok (.putfield 32, 3) := by decide +kernel
theorem dX9_init_60 : decode cX9_init 60 = .ok (.aload_n 0, 1) := by decide +kernel
theorem dX9_init_61 : decode cX9_init 61 = .ok (.iconst 1, 1) := by decide +kernel
theorem dX9_init_62 : decode cX9_init 62 = .ok (.putfield 35, 3) := by decide +kernel
theorem dX9_init_65 : decode cX9_init 65 = .ok (.return_, 1) := by decide +kernel
theorem dX9_startAnew_0 : decode cX9_startAnew 0 = .ok (.aload_n 0, 1) := by decide +kernel
theorem dX9_startAnew_1 : decode cX9_startAnew 1 = .ok (.getfield 9, 3) := by decide +kernel
theorem dX9_startAnew_4 : decode cX9_startAnew 4 = .ok (.iconst 0, 1) := by decide +kernel
theorem dX9_startAnew_5 : decode cX9_startAnew 5 = .ok (.invokestatic 39, 3) := by decide +kernel
theorem dX9_startAnew_8 : decode cX9_startAnew 8 = .ok (.aload_n 0, 1) := by decide +kernel
theorem dX9_startAnew_9 : decode cX9_startAnew 9 = .ok (.getfield 15, 3) := by decide +kernel
theorem dX9_startAnew_12 : decode cX9_startAnew 12 = .ok (.iconst 0, 1) := by decide +kernel
theorem dX9_startAnew_13 : decode cX9_startAnew 13 = .ok (.invokestatic 39, 3) := by decide +kernel
theorem dX9_startAnew_16 : decode cX9_startAnew 16 = .ok (.aload_n 0, 1) := by decide +kernel
theorem dX9_startAnew_17 : decode cX9_startAnew 17 = .ok (.getfield 21, 3) := by decide +kernel
theorem dX9_startAnew_20 : decode cX9_startAnew 20 = .ok (.iconst (-1), 1) := by decide +kernel
theorem dX9_startAnew_21 : decode cX9_startAnew 21 = .ok (.invokestatic 39, 3) := by decide +kernel
theorem dX9_startAnew_24 : decode cX9_startAnew 24 = .ok (.aload_n 0, 1) := by decide +kernel
theorem dX9_startAnew_25 : decode cX9_startAnew 25 = .ok (.invokevirtual 45, 3) := by decide +kernel
theorem dX9_startAnew_28 : decode cX9_startAnew 28 = .ok (.aload_n 0, 1) := by decide +kernel
theorem dX9_startAnew_29 : decode cX9_startAnew 29 = .ok (.iconst 0, 1) := by decide +kernel
theorem dX9_startAnew_30 : decode cX9_startAnew 30 = .ok (.putfield 48, 3) := by decide +kernel
theorem dX9_startAnew_33 : decode cX9_startAnew 33 = .ok (.aload_n 0, 1) := by decide +kernel
theorem dX9_startAnew_34 : decode cX9_startAnew 34 = .ok (.iconst 0, 1) := by decide +kernel
theorem dX9_startAnew_35 : decode cX9_startAnew 35 = .ok (.putfield 51, 3) := by decide +kernel
theorem dX9_startAnew_38 : decode cX9_startAnew 38 = .ok (.return_, 1) := by decide +kernel
theorem dX9_forgetSlips_0 : decode cX9_forgetSlips 0 = .ok (.aload_n 0, 1) := by decide +kernel
theorem dX9_forgetSlips_1 : decode cX9_forgetSlips 1 = .ok (.getfield 18, 3) := by decide +kernel
theorem dX9_forgetSlips_4 : decode cX9_forgetSlips 4 = .ok (.iconst (-1), 1) := by decide +kernel
theorem dX9_forgetSlips_5 : decode cX9_forgetSlips 5 = .ok (.invokestatic 39, 3) := by decide +kernel
theorem dX9_forgetSlips_8 : decode cX9_forgetSlips 8 = .ok (.return_, 1) := by decide +kernel
theorem dX9_pass_0 : decode cX9_pass 0 = .ok (.aload_n 1, 1) := by decide +kernel
theorem dX9_pass_1 : decode cX9_pass 1 = .ok (.getfield 54, 3) := by decide +kernel
theorem dX9_pass_4 : decode cX9_pass 4 = .ok (.astore_n 2, 1) := by decide +kernel
theorem dX9_pass_5 : decode cX9_pass 5 = .ok (.aload_n 0, 1) := by decide +kernel
theorem dX9_pass_6 : decode cX9_pass 6 = .ok (.invokevirtual 45, 3) := by decide +kernel
theorem dX9_pass_9 : decode cX9_pass 9 = .ok (.aload_n 0, 1) := by decide +kernel
theorem dX9_pass_10 : decode cX9_pass 10 = .ok (.aload_n 2, 1) := by decide +kernel
theorem dX9_pass_11 : decode cX9_pass 11 = .ok (.iconst 1, 1) := by decide +kernel
theorem dX9_pass_12 : decode cX9_pass 12 = .ok (.invokevirtual 60, 3) := by decide +kernel
theorem dX9_pass_15 : decode cX9_pass 15 = .ok (.aload_n 0, 1) := by decide +kernel
theorem dX9_pass_16 : decode cX9_pass 16 = .ok (.aload_n 1, 1) := by decide +kernel
theorem dX9_pass_17 : decode cX9_pass 17 = .ok (.invokevirtual 64, 3) := by decide +kernel
theorem dX9_pass_20 : decode cX9_pass 20 = .ok (.aload_n 0, 1) := by decide +kernel
theorem dX9_pass_21 : decode cX9_pass 21 = .ok (.aload_n 2, 1) := by decide +kernel
theorem dX9_pass_22 : decode cX9_pass 22 = .ok (.iconst 0, 1) := by decide +kernel
theorem dX9_pass_23 : decode cX9_pass 23 = .ok (.invokevirtual 60, 3) := by decide +kernel
theorem dX9_pass_26 : decode cX9_pass 26 = .ok (.aload_n 0, 1) := by decide +kernel
theorem dX9_pass_27 : decode cX9_pass 27 = .ok (.aload_n 2, 1) := by decide +kernel
theorem dX9_pass_28 : decode cX9_pass 28 = .ok (.invokevirtual 68, 3) := by decide +kernel
theorem dX9_pass_31 : decode cX9_pass 31 = .ok (.aload_n 0, 1) := by decide +kernel
theorem dX9_pass_32 : decode cX9_pass 32 = .ok (.aload_n 2, 1) := by decide +kernel
theorem dX9_pass_33 : decode cX9_pass 33 = .ok (.invokevirtual 72, 3) := by decide +kernel
theorem dX9_pass_36 : decode cX9_pass 36 = .ok (.aload_n 0, 1) := by decide +kernel
theorem dX9_pass_37 : decode cX9_pass 37 = .ok (.aload_n 2, 1) := by decide +kernel
theorem dX9_pass_38 : decode cX9_pass 38 = .ok (.getfield 75, 3) := by decide +kernel
theorem dX9_pass_41 : decode cX9_pass 41 = .ok (.invokevirtual 81, 3) := by decide +kernel
theorem dX9_pass_44 : decode cX9_pass 44 = .ok (.aload_n 0, 1) := by decide +kernel
theorem dX9_pass_45 : decode cX9_pass 45 = .ok (.dup, 1) := by decide +kernel
theorem dX9_pass_46 : decode cX9_pass 46 = .ok (.getfield 48, 3) := by decide +kernel
theorem dX9_pass_49 : decode cX9_pass 49 = .ok (.iconst 1, 1) := by decide +kernel
theorem dX9_pass_50 : decode cX9_pass 50 = .ok (.iadd, 1) := by decide +kernel
theorem dX9_pass_51 : decode cX9_pass 51 = .ok (.putfield 48, 3) := by decide +kernel
theorem dX9_pass_54 : decode cX9_pass 54 = .ok (.aload_n 0, 1) := by decide +kernel
theorem dX9_pass_55 : decode cX9_pass 55 = .ok (.aload_n 2, 1) := by decide +kernel
theorem dX9_pass_56 : decode cX9_pass 56 = .ok (.invokevirtual 85, 3) := by decide +kernel
theorem dX9_pass_59 : decode cX9_pass 59 = .ok (.ireturn, 1) := by decide +kernel
theorem dX9_draw_0 : decode cX9_draw 0 = .ok (.aload_n 0, 1) := by decide +kernel
theorem dX9_draw_1 : decode cX9_draw 1 = .ok (.ldc2_w 89, 3) := by decide +kernel
theorem dX9_draw_4 : decode cX9_draw 4 = .ok (.aload_n 0, 1) := by decide +kernel
theorem dX9_draw_5 : decode cX9_draw 5 = .ok (.getfield 35, 3) := by decide +kernel
theorem dX9_draw_8 : decode cX9_draw 8 = .ok (.i2l, 1) := by decide +kernel
theorem dX9_draw_9 : decode cX9_draw 9 = .ok (.lmul, 1) := by decide +kernel
theorem dX9_draw_10 : decode cX9_draw 10 = .ok (.ldc2_w 91, 3) := by decide +kernel
theorem dX9_draw_13 : decode cX9_draw 13 = .ok (.ladd, 1) := by decide +kernel
theorem dX9_draw_14 : decode cX9_draw 14 = .ok (.ldc2_w 93, 3) := by decide +kernel
theorem dX9_draw_17 : decode cX9_draw 17 = .ok (.land, 1) := by decide +kernel
theorem dX9_draw_18 : decode cX9_draw 18 = .ok (.l2i, 1) := by decide +kernel
theorem dX9_draw_19 : decode cX9_draw 19 = .ok (.putfield 35, 3) := by decide +kernel
theorem dX9_draw_22 : decode cX9_draw 22 = .ok (.iload_n 1, 1) := by decide +kernel
theorem dX9_draw_23 : decode cX9_draw 23 = .ok (.ifCond .le 15, 3) := by decide +kernel
theorem dX9_draw_26 : decode cX9_draw 26 = .ok (.aload_n 0, 1) := by decide +kernel
theorem dX9_draw_27 : decode cX9_draw 27 = .ok (.getfield 35, 3) := by decide +kernel
theorem dX9_draw_30 : decode cX9_draw 30 = .ok (.bipush 64, 2) := by decide +kernel
theorem dX9_draw_32 : decode cX9_draw 32 = .ok (.idiv, 1) := by decide +kernel
theorem dX9_draw_33 : decode cX9_draw 33 = .ok (.iload_n 1, 1) := by decide +kernel
theorem dX9_draw_34 : decode cX9_draw 34 = .ok (.irem, 1) := by decide +kernel
theorem dX9_draw_35 : decode cX9_draw 35 = .ok (.goto 4, 3) := by decide +kernel
theorem dX9_draw_38 : decode cX9_draw 38 = .ok (.iconst 0, 1) := by decide +kernel
theorem dX9_draw_39 : decode cX9_draw 39 = .ok (.ireturn, 1) := by decide +kernel
theorem dX9_drawFrom_0 : decode cX9_drawFrom 0 = .ok (.iconst 0, 1) := by decide +kernel
theorem dX9_drawFrom_1 : decode cX9_drawFrom 1 = .ok (.istore_n 3, 1) := by decide +kernel
theorem dX9_drawFrom_2 : decode cX9_drawFrom 2 = .ok (.iload_n 3, 1) := by decide +kernel
theorem dX9_drawFrom_3 : decode cX9_drawFrom 3 = .ok (.aload_n 1, 1) := by decide +kernel
theorem dX9_drawFrom_4 : decode cX9_drawFrom 4 = .ok (.getfield 95, 3) := by decide +kernel
theorem dX9_drawFrom_7 : decode cX9_drawFrom 7 = .ok (.getfield 99, 3) := by decide +kernel
theorem dX9_drawFrom_10 : decode cX9_drawFrom 10 = .ok (.if_icmp .ge 33, 3) := by decide +kernel
theorem dX9_drawFrom_13 : decode cX9_drawFrom 13 = .ok (.aload_n 1, 1) := by decide +kernel
theorem dX9_drawFrom_14 : decode cX9_drawFrom 14 = .ok (.getfield 95, 3) := by decide +kernel
theorem dX9_drawFrom_17 : decode cX9_drawFrom 17 = .ok (.getfield 104, 3) := by decide +kernel
theorem dX9_drawFrom_20 : decode cX9_drawFrom 20 = .ok (.iload_n 3, 1) := by decide +kernel
theorem dX9_drawFrom_21 : decode cX9_drawFrom 21 = .ok (.invokestatic 107, 3) := by decide +kernel
theorem dX9_drawFrom_24 : decode cX9_drawFrom 24 = .ok (.iload_n 2, 1) := by decide +kernel
theorem dX9_drawFrom_25 : decode cX9_drawFrom 25 = .ok (.if_icmp .ne 12, 3) := by decide +kernel
theorem dX9_drawFrom_28 : decode cX9_drawFrom 28 = .ok (.aload_n 0, 1) := by decide +kernel
theorem dX9_drawFrom_29 : decode cX9_drawFrom 29 = .ok (.aload_n 1, 1) := by decide +kernel
theorem dX9_drawFrom_30 : decode cX9_drawFrom 30 = .ok (.getfield 75, 3) := by decide +kernel
theorem dX9_drawFrom_33 : decode cX9_drawFrom 33 = .ok (.iload_n 3, 1) := by decide +kernel
theorem dX9_drawFrom_34 : decode cX9_drawFrom 34 = .ok (.invokevirtual 111, 3) := by decide +kernel
theorem dX9_drawFrom_37 : decode cX9_drawFrom 37 = .ok (.iinc 3 1, 3) := by decide +kernel
theorem dX9_drawFrom_40 : decode cX9_drawFrom 40 = .ok (.goto (-38), 3) := by decide +kernel
theorem dX9_drawFrom_43 : decode cX9_drawFrom 43 = .ok (.return_, 1) := by decide +kernel
theorem dX9_drawHat_0 : decode cX9_drawHat 0 = .ok (.iconst 0, 1) := by decide +kernel
theorem dX9_drawHat_1 : decode cX9_drawHat 1 = .ok (.istore_n 3, 1) := by decide +kernel
theorem dX9_drawHat_2 : decode cX9_drawHat 2 = .ok (.iconst 0, 1) := by decide +kernel
theorem dX9_drawHat_3 : decode cX9_drawHat 3 = .ok (.istore 4, 2) := by decide +kernel
theorem dX9_drawHat_5 : decode cX9_drawHat 5 = .ok (.iload 4, 2) := by decide +kernel
theorem dX9_drawHat_7 : decode cX9_drawHat 7 = .ok (.aload_n 1, 1) := by decide +kernel
theorem dX9_drawHat_8 : decode cX9_drawHat 8 = .ok (.getfield 115, 3) := by decide +kernel
theorem dX9_drawHat_11 : decode cX9_drawHat 11 = .ok (.if_icmp .ge 35, 3) := by decide +kernel
theorem dX9_drawHat_14 : decode cX9_drawHat 14 = .ok (.aload_n 1, 1) := by decide +kernel
theorem dX9_drawHat_15 : decode cX9_drawHat 15 = .ok (.getfield 118, 3) := by decide +kernel
theorem dX9_drawHat_18 : decode cX9_drawHat 18 = .ok (.iload 4, 2) := by decide +kernel
theorem dX9_drawHat_20 : decode cX9_drawHat 20 = .ok (.invokestatic 107, 3) := by decide +kernel
theorem dX9_drawHat_23 : decode cX9_drawHat 23 = .ok (.iload_n 2, 1) := by decide +kernel
theorem dX9_drawHat_24 : decode cX9_drawHat 24 = .ok (.if_icmp .ne 16, 3) := by decide +kernel
theorem dX9_drawHat_27 : decode cX9_drawHat 27 = .ok (.aload_n 0, 1) := by decide +kernel
theorem dX9_drawHat_28 : decode cX9_drawHat 28 = .ok (.getfield 24, 3) := by decide +kernel
theorem dX9_drawHat_31 : decode cX9_drawHat 31 = .ok (.iload_n 3, 1) := by decide +kernel
theorem dX9_drawHat_32 : decode cX9_drawHat 32 = .ok (.iload 4, 2) := by decide +kernel
theorem dX9_drawHat_34 : decode cX9_drawHat 34 = .ok (.invokestatic 121, 3) := by decide +kernel
theorem dX9_drawHat_37 : decode cX9_drawHat 37 = .ok (.iinc 3 1, 3) := by decide +kernel
theorem dX9_drawHat_40 : decode cX9_drawHat 40 = .ok (.iinc 4 1, 3) := by decide +kernel
theorem dX9_drawHat_43 : decode cX9_drawHat 43 = .ok (.goto (-38), 3) := by decide +kernel
theorem dX9_drawHat_46 : decode cX9_drawHat 46 = .ok (.iconst 0, 1) := by decide +kernel
theorem dX9_drawHat_47 : decode cX9_drawHat 47 = .ok (.istore 4, 2) := by decide +kernel
theorem dX9_drawHat_49 : decode cX9_drawHat 49 = .ok (.iload 4, 2) := by decide +kernel
theorem dX9_drawHat_51 : decode cX9_drawHat 51 = .ok (.aload_n 1, 1) := by decide +kernel
theorem dX9_drawHat_52 : decode cX9_drawHat 52 = .ok (.getfield 115, 3) := by decide +kernel
theorem dX9_drawHat_55 : decode cX9_drawHat 55 = .ok (.if_icmp .ge 86, 3) := by decide +kernel
theorem dX9_drawHat_58 : decode cX9_drawHat 58 = .ok (.aload_n 1, 1) := by decide +kernel
theorem dX9_drawHat_59 : decode cX9_drawHat 59 = .ok (.getfield 118, 3) := by decide +kernel
theorem dX9_drawHat_62 : decode cX9_drawHat 62 = .ok (.iload 4, 2) := by decide +kernel
theorem dX9_drawHat_64 : decode cX9_drawHat 64 = .ok (.invokestatic 107, 3) := by decide +kernel
theorem dX9_drawHat_67 : decode cX9_drawHat 67 = .ok (.iload_n 2, 1) := by decide +kernel
theorem dX9_drawHat_68 : decode cX9_drawHat 68 = .ok (.if_icmp .ne 67, 3) := by decide +kernel
theorem dX9_drawHat_71 : decode cX9_drawHat 71 = .ok (.aload_n 0, 1) := by decide +kernel
theorem dX9_drawHat_72 : decode cX9_drawHat 72 = .ok (.iload_n 3, 1) := by decide +kernel
theorem dX9_drawHat_73 : decode cX9_drawHat 73 = .ok (.invokevirtual 125, 3) := by decide +kernel
theorem dX9_drawHat_76 : decode cX9_drawHat 76 = .ok (.istore 5, 2) := by decide +kernel
theorem dX9_drawHat_78 : decode cX9_drawHat 78 = .ok (.aload_n 0, 1) := by decide +kernel
theorem dX9_drawHat_79 : decode cX9_drawHat 79 = .ok (.getfield 18, 3) := by decide +kernel
theorem dX9_drawHat_82 : decode cX9_drawHat 82 = .ok (.iload 4, 2) := by decide +kernel
theorem dX9_drawHat_84 : decode cX9_drawHat 84 = .ok (.aload_n 0, 1) := by decide +kernel
theorem dX9_drawHat_85 : decode cX9_drawHat 85 = .ok (.getfield 24, 3) := by decide +kernel
theorem dX9_drawHat_88 : decode cX9_drawHat 88 = .ok (.iload 5, 2) := by decide +kernel
theorem dX9_drawHat_90 : decode cX9_drawHat 90 = .ok (.invokestatic 107, 3) := by decide +kernel
theorem dX9_drawHat_93 : decode cX9_drawHat 93 = .ok (.invokestatic 121, 3) := by decide +kernel
theorem dX9_drawHat_96 : decode cX9_drawHat 96 = .ok (.iinc 3 (-1), 3) := by decide +kernel
theorem dX9_drawHat_99 : decode cX9_drawHat 99 = .ok (.iload 5, 2) := by decide +kernel
theorem dX9_drawHat_101 : decode cX9_drawHat 101 = .ok (.istore 6, 2) := by decide +kernel
theorem dX9_drawHat_103 : decode cX9_drawHat 103 = .ok (.iload 6, 2) := by decide +kernel
theorem dX9_drawHat_105 : decode cX9_drawHat 105 = .ok (.iload_n 3, 1) := by decide +kernel
theorem dX9_drawHat_106 : decode cX9_drawHat 106 = .ok (.if_icmp .ge 29, 3) := by decide +kernel
theorem dX9_drawHat_109 : decode cX9_drawHat 109 = .ok (.aload_n 0, 1) := by decide +kernel
theorem dX9_drawHat_110 : decode cX9_drawHat 110 = .ok (.getfield 24, 3) := by decide +kernel
theorem dX9_drawHat_113 : decode cX9_drawHat 113 = .ok (.iload 6, 2) := by decide +kernel
theorem dX9_drawHat_115 : decode cX9_drawHat 115 = .ok (.aload_n 0, 1) := by decide +kernel
theorem dX9_drawHat_116 : decode cX9_drawHat 116 = .ok (.getfield 24, 3) := by decide +kernel
theorem dX9_drawHat_119 : decode cX9_drawHat 119 = .ok (.iload 6, 2) := by decide +kernel
theorem dX9_drawHat_121 : decode cX9_drawHat 121 = .ok (.iconst 1, 1) := by decide +kernel
theorem dX9_drawHat_122 : decode cX9_drawHat 122 = .ok (.iadd, 1) := by decide +kernel
theorem dX9_drawHat_123 : decode cX9_drawHat 123 = .ok (.invokestatic 107, 3) := by decide +kernel
theorem dX9_drawHat_126 : decode cX9_drawHat 126 = .ok (.invokestatic 121, 3) := by decide +kernel
theorem dX9_drawHat_129 : decode cX9_drawHat 129 = .ok (.iinc 6 1, 3) := by decide +kernel
theorem dX9_drawHat_132 : decode cX9_drawHat 132 = .ok (.goto (-29), 3) := by decide +kernel
theorem dX9_drawHat_135 : decode cX9_drawHat 135 = .ok (.iinc 4 1, 3) := by decide +kernel
theorem dX9_drawHat_138 : decode cX9_drawHat 138 = .ok (.goto (-89), 3) := by decide +kernel
theorem dX9_drawHat_141 : decode cX9_drawHat 141 = .ok (.return_, 1) := by decide +kernel
theorem dX9_takeHours_0 : decode cX9_takeHours 0 = .ok (.aload_n 1, 1) := by decide +kernel
theorem dX9_takeHours_1 : decode cX9_takeHours 1 = .ok (.getfield 54, 3) := by decide +kernel
theorem dX9_takeHours_4 : decode cX9_takeHours 4 = .ok (.getfield 75, 3) := by decide +kernel
theorem dX9_takeHours_7 : decode cX9_takeHours 7 = .ok (.astore_n 2, 1) := by decide +kernel
theorem dX9_takeHours_8 : decode cX9_takeHours 8 = .ok (.iconst 0, 1) := by decide +kernel
theorem dX9_takeHours_9 : decode cX9_takeHours 9 = .ok (.istore_n 3, 1) := by decide +kernel
theorem dX9_takeHours_10 : decode cX9_takeHours 10 = .ok (.iload_n 3, 1) := by decide +kernel
theorem dX9_takeHours_11 : decode cX9_takeHours 11 = .ok (.aload_n 2, 1) := by decide +kernel
theorem dX9_takeHours_12 : decode cX9_takeHours 12 = .ok (.getfield 115, 3) := by decide +kernel
theorem dX9_takeHours_15 : decode cX9_takeHours 15 = .ok (.if_icmp .ge 95, 3) := by decide +kernel
theorem dX9_takeHours_18 : decode cX9_takeHours 18 = .ok (.aload_n 0, 1) := by decide +kernel
theorem dX9_takeHours_19 : decode cX9_takeHours 19 = .ok (.aload_n 1, 1) := by decide +kernel
theorem dX9_takeHours_20 : decode cX9_takeHours 20 = .ok (.getfield 54, 3) := by decide +kernel
theorem dX9_takeHours_23 : decode cX9_takeHours 23 = .ok (.iload_n 3, 1) := by decide +kernel
theorem dX9_takeHours_24 : decode cX9_takeHours 24 = .ok (.invokevirtual 129, 3) := by decide +kernel
theorem dX9_takeHours_27 : decode cX9_takeHours 27 = .ok (.aload_n 1, 1) := by decide +kernel
theorem dX9_takeHours_28 : decode cX9_takeHours 28 = .ok (.getfield 132, 3) := by decide +kernel
theorem dX9_takeHours_31 : decode cX9_takeHours 31 = .ok (.aload_n 2, 1) := by decide +kernel
theorem dX9_takeHours_32 : decode cX9_takeHours 32 = .ok (.getfield 136, 3) := by decide +kernel
theorem dX9_takeHours_35 : decode cX9_takeHours 35 = .ok (.iload_n 3, 1) := by decide +kernel
theorem dX9_takeHours_36 : decode cX9_takeHours 36 = .ok (.invokestatic 107, 3) := by decide +kernel
theorem dX9_takeHours_39 : decode cX9_takeHours 39 = .ok (.aload_n 0, 1) := by decide +kernel
theorem dX9_takeHours_40 : decode cX9_takeHours 40 = .ok (.getfield 32, 3) := by decide +kernel
theorem dX9_takeHours_43 : decode cX9_takeHours 43 = .ok (.invokevirtual 139, 3) := by decide +kernel
theorem dX9_takeHours_46 : decode cX9_takeHours 46 = .ok (.istore 4, 2) := by decide +kernel
theorem dX9_takeHours_48 : decode cX9_takeHours 48 = .ok (.iload 4, 2) := by decide +kernel
theorem dX9_takeHours_50 : decode cX9_takeHours 50 = .ok (.iconst (-1), 1) := by decide +kernel
theorem dX9_takeHours_51 : decode cX9_takeHours 51 = .ok (.if_icmp .ne 14, 3) := by decide +kernel
theorem dX9_takeHours_54 : decode cX9_takeHours 54 = .ok (.aload_n 2, 1) := by decide +kernel
theorem dX9_takeHours_55 : decode cX9_takeHours 55 = .ok (.getfield 143, 3) := by decide +kernel
theorem dX9_takeHours_58 : decode cX9_takeHours 58 = .ok (.iload_n 3, 1) := by decide +kernel
theorem dX9_takeHours_59 : decode cX9_takeHours 59 = .ok (.invokestatic 107, 3) := by decide +kernel
theorem dX9_takeHours_62 : decode cX9_takeHours 62 = .ok (.goto 16, 3) := by decide +kernel
theorem dX9_takeHours_65 : decode cX9_takeHours 65 = .ok (.aload_n 1, 1) := by decide +kernel
theorem dX9_takeHours_66 : decode cX9_takeHours 66 = .ok (.getfield 132, 3) := by decide +kernel
theorem dX9_takeHours_69 : decode cX9_takeHours 69 = .ok (.iload 4, 2) := by decide +kernel
theorem dX9_takeHours_71 : decode cX9_takeHours 71 = .ok (.aload_n 0, 1) := by decide +kernel
theorem dX9_takeHours_72 : decode cX9_takeHours 72 = .ok (.getfield 32, 3) := by decide +kernel
theorem dX9_takeHours_75 : decode cX9_takeHours 75 = .ok (.invokevirtual 146, 3) := by decide +kernel
theorem dX9_takeHours_78 : decode cX9_takeHours 78 = .ok (.istore 5, 2) := by decide +kernel
theorem dX9_takeHours_80 : decode cX9_takeHours 80 = .ok (.aload_n 0, 1) := by decide +kernel
theorem dX9_takeHours_81 : decode cX9_takeHours 81 = .ok (.getfield 27, 3) := by decide +kernel
theorem dX9_takeHours_84 : decode cX9_takeHours 84 = .ok (.iload_n 3, 1) := by decide +kernel
theorem dX9_takeHours_85 : decode cX9_takeHours 85 = .ok (.iconst 0, 1) := by decide +kernel
theorem dX9_takeHours_86 : decode cX9_takeHours 86 = .ok (.aload_n 1, 1) := by decide +kernel
theorem dX9_takeHours_87 : decode cX9_takeHours 87 = .ok (.getfield 54, 3) := by decide +kernel
theorem dX9_takeHours_90 : decode cX9_takeHours 90 = .ok (.getfield 149, 3) := by decide +kernel
theorem dX9_takeHours_93 : decode cX9_takeHours 93 = .ok (.iload 5, 2) := by decide +kernel
theorem dX9_takeHours_95 : decode cX9_takeHours 95 = .ok (.invokestatic 152, 3) := by decide +kernel
theorem dX9_takeHours_98 : decode cX9_takeHours 98 = .ok (.invokestatic 158, 3) := by decide +kernel
theorem dX9_takeHours_101 : decode cX9_takeHours 101 = .ok (.invokestatic 121, 3) := by decide +kernel
theorem dX9_takeHours_104 : decode cX9_takeHours 104 = .ok (.iinc 3 1, 3) := by decide +kernel
theorem dX9_takeHours_107 : decode cX9_takeHours 107 = .ok (.goto (-97), 3) := by decide +kernel
theorem dX9_takeHours_110 : decode cX9_takeHours 110 = .ok (.iconst 0, 1) := by decide +kernel
theorem dX9_takeHours_111 : decode cX9_takeHours 111 = .ok (.istore_n 3, 1) := by decide +kernel
theorem dX9_takeHours_112 : decode cX9_takeHours 112 = .ok (.iload_n 3, 1) := by decide +kernel
theorem dX9_takeHours_113 : decode cX9_takeHours 113 = .ok (.aload_n 2, 1) := by decide +kernel
theorem dX9_takeHours_114 : decode cX9_takeHours 114 = .ok (.getfield 115, 3) := by decide +kernel
theorem dX9_takeHours_117 : decode cX9_takeHours 117 = .ok (.if_icmp .ge 25, 3) := by decide +kernel
theorem dX9_takeHours_120 : decode cX9_takeHours 120 = .ok (.aload_n 2, 1) := by decide +kernel
theorem dX9_takeHours_121 : decode cX9_takeHours 121 = .ok (.getfield 143, 3) := by decide +kernel
theorem dX9_takeHours_124 : decode cX9_takeHours 124 = .ok (.iload_n 3, 1) := by decide +kernel
theorem dX9_takeHours_125 : decode cX9_takeHours 125 = .ok (.aload_n 0, 1) := by decide +kernel
theorem dX9_takeHours_126 : decode cX9_takeHours 126 = .ok (.getfield 27, 3) := by decide +kernel
theorem dX9_takeHours_129 : decode cX9_takeHours 129 = .ok (.iload_n 3, 1) := by decide +kernel
theorem dX9_takeHours_130 : decode cX9_takeHours 130 = .ok (.invokestatic 107, 3) := by decide +kernel
theorem dX9_takeHours_133 : decode cX9_takeHours 133 = .ok (.invokestatic 121, 3) := by decide +kernel
theorem dX9_takeHours_136 : decode cX9_takeHours 136 = .ok (.iinc 3 1, 3) := by decide +kernel
theorem dX9_takeHours_139 : decode cX9_takeHours 139 = .ok (.goto (-27), 3) := by decide +kernel
theorem dX9_takeHours_142 : decode cX9_takeHours 142 = .ok (.return_, 1) := by decide +kernel
theorem dX9_gatherFacts_0 : decode cX9_gatherFacts 0 = .ok (.aload_n 1, 1) := by decide +kernel
theorem dX9_gatherFacts_1 : decode cX9_gatherFacts 1 = .ok (.getfield 75, 3) := by decide +kernel
theorem dX9_gatherFacts_4 : decode cX9_gatherFacts 4 = .ok (.astore_n 3, 1) := by decide +kernel
theorem dX9_gatherFacts_5 : decode cX9_gatherFacts 5 = .ok (.aload_n 3, 1) := by decide +kernel
theorem dX9_gatherFacts_6 : decode cX9_gatherFacts 6 = .ok (.getfield 118, 3) := by decide +kernel
theorem dX9_gatherFacts_9 : decode cX9_gatherFacts 9 = .ok (.iload_n 2, 1) := by decide +kernel
theorem dX9_gatherFacts_10 : decode cX9_gatherFacts 10 = .ok (.invokestatic 107, 3) := by decide +kernel
theorem dX9_gatherFacts_13 : decode cX9_gatherFacts 13 = .ok (.istore 4, 2) := by decide +kernel
theorem dX9_gatherFacts_15 : decode cX9_gatherFacts 15 = .ok (.iload 4, 2) := by decide +kernel
theorem dX9_gatherFacts_17 : decode cX9_gatherFacts 17 = .ok (.iconst (-1), 1) := by decide +kernel
theorem dX9_gatherFacts_18 : decode cX9_gatherFacts 18 = .ok (.if_icmp .ne 7, 3) := by decide +kernel
theorem dX9_gatherFacts_21 : decode cX9_gatherFacts 21 = .ok (.iconst 1, 1) := by decide +kernel
theorem dX9_gatherFacts_22 : decode cX9_gatherFacts 22 = .ok (.goto 4, 3) := by decide +kernel
theorem dX9_gatherFacts_25 : decode cX9_gatherFacts 25 = .ok (.iconst 0, 1) := by decide +kernel
theorem dX9_gatherFacts_26 : decode cX9_gatherFacts 26 = .ok (.istore 5, 2) := by decide +kernel
theorem dX9_gatherFacts_28 : decode cX9_gatherFacts 28 = .ok (.iload 5, 2) := by decide +kernel
theorem dX9_gatherFacts_30 : decode cX9_gatherFacts 30 = .ok (.ifCond .ne 35, 3) := by decide +kernel
theorem dX9_gatherFacts_33 : decode cX9_gatherFacts 33 = .ok (.aload_n 1, 1) := by decide +kernel
theorem dX9_gatherFacts_34 : decode cX9_gatherFacts 34 = .ok (.getfield 95, 3) := by decide +kernel
theorem dX9_gatherFacts_37 : decode cX9_gatherFacts 37 = .ok (.getfield 104, 3) := by decide +kernel
theorem dX9_gatherFacts_40 : decode cX9_gatherFacts 40 = .ok (.iload 4, 2) := by decide +kernel
theorem dX9_gatherFacts_42 : decode cX9_gatherFacts 42 = .ok (.invokestatic 107, 3) := by decide +kernel
theorem dX9_gatherFacts_45 : decode cX9_gatherFacts 45 = .ok (.iconst 1, 1) := by decide +kernel
theorem dX9_gatherFacts_46 : decode cX9_gatherFacts 46 = .ok (.if_icmp .ne 19, 3) := by decide +kernel
theorem dX9_gatherFacts_49 : decode cX9_gatherFacts 49 = .ok (.aload_n 0, 1) := by decide +kernel
theorem dX9_gatherFacts_50 : decode cX9_gatherFacts 50 = .ok (.getfield 18, 3) := by decide +kernel
theorem dX9_gatherFacts_53 : decode cX9_gatherFacts 53 = .ok (.iload_n 2, 1) := by decide +kernel
theorem dX9_gatherFacts_54 : decode cX9_gatherFacts 54 = .ok (.invokestatic 107, 3) := by decide +kernel
theorem dX9_gatherFacts_57 : decode cX9_gatherFacts 57 = .ok (.iload_n 2, 1) := by decide +kernel
theorem dX9_gatherFacts_58 : decode cX9_gatherFacts 58 = .ok (.if_icmp .ne 7, 3) := by decide +kernel
theorem dX9_gatherFacts_61 : decode cX9_gatherFacts 61 = .ok (.iconst 1, 1) := by decide +kernel
theorem dX9_gatherFacts_62 : decode cX9_gatherFacts 62 = .ok (.goto 4, 3) := by decide +kernel
theorem dX9_gatherFacts_65 : decode cX9_gatherFacts 65 = .ok (.iconst 0, 1) := by decide +kernel
theorem dX9_gatherFacts_66 : decode cX9_gatherFacts 66 = .ok (.istore 6, 2) := by decide +kernel
theorem dX9_gatherFacts_68 : decode cX9_gatherFacts 68 = .ok (.aload_n 0, 1) := by decide +kernel
theorem dX9_gatherFacts_69 : decode cX9_gatherFacts 69 = .ok (.getfield 32, 3) := by decide +kernel
theorem dX9_gatherFacts_72 : decode cX9_gatherFacts 72 = .ok (.iconst 0, 1) := by decide +kernel
theorem dX9_gatherFacts_73 : decode cX9_gatherFacts 73 = .ok (.iload 5, 2) := by decide +kernel
theorem dX9_gatherFacts_75 : decode cX9_gatherFacts 75 = .ok (.ifCond .eq 7, 3) := by decide +kernel
theorem dX9_gatherFacts_78 : decode cX9_gatherFacts 78 = .ok (.iconst 1, 1) := by decide +kernel
theorem dX9_gatherFacts_79 : decode cX9_gatherFacts 79 = .ok (.goto 9, 3) := by decide +kernel
theorem dX9_gatherFacts_82 : decode cX9_gatherFacts 82 = .ok (.aload_n 3, 1) := by decide +kernel
theorem dX9_gatherFacts_83 : decode cX9_gatherFacts 83 = .ok (.iload 4, 2) := by decide +kernel
theorem dX9_gatherFacts_85 : decode cX9_gatherFacts 85 = .ok (.invokevirtual 161, 3) := by decide +kernel
theorem dX9_gatherFacts_88 : decode cX9_gatherFacts 88 = .ok (.invokestatic 121, 3) := by decide +kernel
theorem dX9_gatherFacts_91 : decode cX9_gatherFacts 91 = .ok (.aload_n 0, 1) := by decide +kernel
theorem dX9_gatherFacts_92 : decode cX9_gatherFacts 92 = .ok (.getfield 32, 3) := by decide +kernel
theorem dX9_gatherFacts_95 : decode cX9_gatherFacts 95 = .ok (.iconst 1, 1) := by decide +kernel
theorem dX9_gatherFacts_96 : decode cX9_gatherFacts 96 = .ok (.aload_n 0, 1) := by decide +kernel
theorem dX9_gatherFacts_97 : decode cX9_gatherFacts 97 = .ok (.getfield 48, 3) := by decide +kernel
theorem dX9_gatherFacts_100 : decode cX9_gatherFacts 100 = .ok (.invokestatic 121, 3) := by decide +kernel
theorem dX9_gatherFacts_103 : decode cX9_gatherFacts 103 = .ok (.aload_n 0, 1) := by decide +kernel
theorem dX9_gatherFacts_104 : decode cX9_gatherFacts 104 = .ok (.getfield 32, 3) := by decide +kernel
theorem dX9_gatherFacts_107 : decode cX9_gatherFacts 107 = .ok (.iconst 2, 1) := by decide +kernel
theorem dX9_gatherFacts_108 : decode cX9_gatherFacts 108 = .ok (.aload_n 3, 1) := by decide +kernel
theorem dX9_gatherFacts_109 : decode cX9_gatherFacts 109 = .ok (.getfield 143, 3) := by decide +kernel
theorem dX9_gatherFacts_112 : decode cX9_gatherFacts 112 = .ok (.iload_n 2, 1) := by decide +kernel
theorem dX9_gatherFacts_113 : decode cX9_gatherFacts 113 = .ok (.invokestatic 107, 3) := by decide +kernel
theorem dX9_gatherFacts_116 : decode cX9_gatherFacts 116 = .ok (.invokestatic 121, 3) := by decide +kernel
theorem dX9_gatherFacts_119 : decode cX9_gatherFacts 119 = .ok (.aload_n 0, 1) := by decide +kernel
theorem dX9_gatherFacts_120 : decode cX9_gatherFacts 120 = .ok (.getfield 32, 3) := by decide +kernel
theorem dX9_gatherFacts_123 : decode cX9_gatherFacts 123 = .ok (.iconst 3, 1) := by decide +kernel
theorem dX9_gatherFacts_124 : decode cX9_gatherFacts 124 = .ok (.iload 5, 2) := by decide +kernel
theorem dX9_gatherFacts_126 : decode cX9_gatherFacts 126 = .ok (.ifCond .eq 7, 3) := by decide +kernel
theorem dX9_gatherFacts_129 : decode cX9_gatherFacts 129 = .ok (.iconst 0, 1) := by decide +kernel
theorem dX9_gatherFacts_130 : decode cX9_gatherFacts 130 = .ok (.goto 10, 3) := by decide +kernel
theorem dX9_gatherFacts_133 : decode cX9_gatherFacts 133 = .ok (.aload_n 3, 1) := by decide +kernel
theorem dX9_gatherFacts_134 : decode cX9_gatherFacts 134 = .ok (.iload_n 2, 1) := by decide +kernel
theorem dX9_gatherFacts_135 : decode cX9_gatherFacts 135 = .ok (.iload 4, 2) := by decide +kernel
theorem dX9_gatherFacts_137 : decode cX9_gatherFacts 137 = .ok (.invokevirtual 164, 3) := by decide +kernel
theorem dX9_gatherFacts_140 : decode cX9_gatherFacts 140 = .ok (.invokestatic 121, 3) := by decide +kernel
theorem dX9_gatherFacts_143 : decode cX9_gatherFacts 143 = .ok (.aload_n 0, 1) := by decide +kernel
theorem dX9_gatherFacts_144 : decode cX9_gatherFacts 144 = .ok (.getfield 32, 3) := by decide +kernel
theorem dX9_gatherFacts_147 : decode cX9_gatherFacts 147 = .ok (.iconst 4, 1) := by decide +kernel
theorem dX9_gatherFacts_148 : decode cX9_gatherFacts 148 = .ok (.aload_n 0, 1) := by decide +kernel
theorem dX9_gatherFacts_149 : decode cX9_gatherFacts 149 = .ok (.getfield 9, 3) := by decide +kernel
theorem dX9_gatherFacts_152 : decode cX9_gatherFacts 152 = .ok (.iload_n 2, 1) := by decide +kernel
theorem dX9_gatherFacts_153 : decode cX9_gatherFacts 153 = .ok (.invokestatic 107, 3) := by decide +kernel
theorem dX9_gatherFacts_156 : decode cX9_gatherFacts 156 = .ok (.invokestatic 121, 3) := by decide +kernel
theorem dX9_gatherFacts_159 : decode cX9_gatherFacts 159 = .ok (.aload_n 0, 1) := by decide +kernel
theorem dX9_gatherFacts_160 : decode cX9_gatherFacts 160 = .ok (.getfield 32, 3) := by decide +kernel
theorem dX9_gatherFacts_163 : decode cX9_gatherFacts 163 = .ok (.iconst 5, 1) := by decide +kernel
theorem dX9_gatherFacts_164 : decode cX9_gatherFacts 164 = .ok (.iload 6, 2) := by decide +kernel
theorem dX9_gatherFacts_166 : decode cX9_gatherFacts 166 = .ok (.ifCond .eq 7, 3) := by decide +kernel
theorem dX9_gatherFacts_169 : decode cX9_gatherFacts 169 = .ok (.iconst 1, 1) := by decide +kernel
theorem dX9_gatherFacts_170 : decode cX9_gatherFacts 170 = .ok (.goto 4, 3) := by decide +kernel
theorem dX9_gatherFacts_173 : decode cX9_gatherFacts 173 = .ok (.iconst 0, 1) := by decide +kernel
theorem dX9_gatherFacts_174 : decode cX9_gatherFacts 174 = .ok (.invokestatic 121, 3) := by decide +kernel
theorem dX9_gatherFacts_177 : decode cX9_gatherFacts 177 = .ok (.aload_n 0, 1) := by decide +kernel
theorem dX9_gatherFacts_178 : decode cX9_gatherFacts 178 = .ok (.getfield 32, 3) := by decide +kernel
theorem dX9_gatherFacts_181 : decode cX9_gatherFacts 181 = .ok (.bipush 6, 2) := by decide +kernel
theorem dX9_gatherFacts_183 : decode cX9_gatherFacts 183 = .ok (.iload 5, 2) := by decide +kernel
theorem dX9_gatherFacts_185 : decode cX9_gatherFacts 185 = .ok (.ifCond .eq 8, 3) := by decide +kernel
theorem dX9_gatherFacts_188 : decode cX9_gatherFacts 188 = .ok (.bipush 100, 2) := by decide +kernel
theorem dX9_gatherFacts_190 : decode cX9_gatherFacts 190 = .ok (.goto 15, 3) := by decide +kernel
theorem dX9_gatherFacts_193 : decode cX9_gatherFacts 193 = .ok (.aload_n 1, 1) := by decide +kernel
theorem dX9_gatherFacts_194 : decode cX9_gatherFacts 194 = .ok (.getfield 95, 3) := by decide +kernel
theorem dX9_gatherFacts_197 : decode cX9_gatherFacts 197 = .ok (.getfield 167, 3) := by decide +kernel
theorem dX9_gatherFacts_200 : decode cX9_gatherFacts 200 = .ok (.iload 4, 2) := by decide +kernel
theorem dX9_gatherFacts_202 : decode cX9_gatherFacts 202 = .ok (.invokestatic 107, 3) := by decide +kernel
theorem dX9_gatherFacts_205 : decode cX9_gatherFacts 205 = .ok (.invokestatic 121, 3) := by decide +kernel
theorem dX9_gatherFacts_208 : decode cX9_gatherFacts 208 = .ok (.aload_n 0, 1) := by decide +kernel
theorem dX9_gatherFacts_209 : decode cX9_gatherFacts 209 = .ok (.getfield 32, 3) := by decide +kernel
theorem dX9_gatherFacts_212 : decode cX9_gatherFacts 212 = .ok (.bipush 7, 2) := by decide +kernel
theorem dX9_gatherFacts_214 : decode cX9_gatherFacts 214 = .ok (.aload_n 1, 1) := by decide +kernel
theorem dX9_gatherFacts_215 : decode cX9_gatherFacts 215 = .ok (.getfield 170, 3) := by decide +kernel
theorem dX9_gatherFacts_218 : decode cX9_gatherFacts 218 = .ok (.getfield 174, 3) := by decide +kernel
theorem dX9_gatherFacts_221 : decode cX9_gatherFacts 221 = .ok (.aload_n 3, 1) := by decide +kernel
theorem dX9_gatherFacts_222 : decode cX9_gatherFacts 222 = .ok (.getfield 136, 3) := by decide +kernel
theorem dX9_gatherFacts_225 : decode cX9_gatherFacts 225 = .ok (.iload_n 2, 1) := by decide +kernel
theorem dX9_gatherFacts_226 : decode cX9_gatherFacts 226 = .ok (.invokestatic 107, 3) := by decide +kernel
theorem dX9_gatherFacts_229 : decode cX9_gatherFacts 229 = .ok (.invokestatic 107, 3) := by decide +kernel
theorem dX9_gatherFacts_232 : decode cX9_gatherFacts 232 = .ok (.invokestatic 121, 3) := by decide +kernel
theorem dX9_gatherFacts_235 : decode cX9_gatherFacts 235 = .ok (.return_, 1) := by decide +kernel
theorem dX9_handOut_0 : decode cX9_handOut 0 = .ok (.iconst 0, 1) := by decide +kernel
theorem dX9_handOut_1 : decode cX9_handOut 1 = .ok (.istore_n 2, 1) := by decide +kernel
theorem dX9_handOut_2 : decode cX9_handOut 2 = .ok (.iload_n 2, 1) := by decide +kernel
theorem dX9_handOut_3 : decode cX9_handOut 3 = .ok (.aload_n 1, 1) := by decide +kernel
theorem dX9_handOut_4 : decode cX9_handOut 4 = .ok (.getfield 75, 3) := by decide +kernel
theorem dX9_handOut_7 : decode cX9_handOut 7 = .ok (.getfield 115, 3) := by decide +kernel
theorem dX9_handOut_10 : decode cX9_handOut 10 = .ok (.if_icmp .ge 23, 3) := by decide +kernel
theorem dX9_handOut_13 : decode cX9_handOut 13 = .ok (.aload_n 0, 1) := by decide +kernel
theorem dX9_handOut_14 : decode cX9_handOut 14 = .ok (.getfield 9, 3) := by decide +kernel
theorem dX9_handOut_17 : decode cX9_handOut 17 = .ok (.iload_n 2, 1) := by decide +kernel
theorem dX9_handOut_18 : decode cX9_handOut 18 = .ok (.aload_n 0, 1) := by decide +kernel
theorem dX9_handOut_19 : decode cX9_handOut 19 = .ok (.aload_n 1, 1) := by decide +kernel
theorem dX9_handOut_20 : decode cX9_handOut 20 = .ok (.iload_n 2, 1) := by decide +kernel
theorem dX9_handOut_21 : decode cX9_handOut 21 = .ok (.invokevirtual 179, 3) := by decide +kernel
theorem dX9_handOut_24 : decode cX9_handOut 24 = .ok (.invokestatic 121, 3) := by decide +kernel
theorem dX9_handOut_27 : decode cX9_handOut 27 = .ok (.iinc 2 1, 3) := by decide +kernel
theorem dX9_handOut_30 : decode cX9_handOut 30 = .ok (.goto (-28), 3) := by decide +kernel
theorem dX9_handOut_33 : decode cX9_handOut 33 = .ok (.return_, 1) := by decide +kernel
theorem dX9_handed_0 : decode cX9_handed 0 = .ok (.aload_n 1, 1) := by decide +kernel
theorem dX9_handed_1 : decode cX9_handed 1 = .ok (.getfield 75, 3) := by decide +kernel
theorem dX9_handed_4 : decode cX9_handed 4 = .ok (.getfield 118, 3) := by decide +kernel
theorem dX9_handed_7 : decode cX9_handed 7 = .ok (.iload_n 2, 1) := by decide +kernel
theorem dX9_handed_8 : decode cX9_handed 8 = .ok (.invokestatic 107, 3) := by decide +kernel
theorem dX9_handed_11 : decode cX9_handed 11 = .ok (.istore_n 3, 1) := by decide +kernel
theorem dX9_handed_12 : decode cX9_handed 12 = .ok (.iload_n 3, 1) := by decide +kernel
theorem dX9_handed_13 : decode cX9_handed 13 = .ok (.iconst (-1), 1) := by decide +kernel
theorem dX9_handed_14 : decode cX9_handed 14 = .ok (.if_icmp .ne 5, 3) := by decide +kernel
theorem dX9_handed_17 : decode cX9_handed 17 = .ok (.iconst 0, 1) := by decide +kernel
theorem dX9_handed_18 : decode cX9_handed 18 = .ok (.ireturn, 1) := by decide +kernel
theorem dX9_handed_19 : decode cX9_handed 19 = .ok (.aload_n 1, 1) := by decide +kernel
theorem dX9_handed_20 : decode cX9_handed 20 = .ok (.getfield 95, 3) := by decide +kernel
theorem dX9_handed_23 : decode cX9_handed 23 = .ok (.getfield 104, 3) := by decide +kernel
theorem dX9_handed_26 : decode cX9_handed 26 = .ok (.iload_n 3, 1) := by decide +kernel
theorem dX9_handed_27 : decode cX9_handed 27 = .ok (.invokestatic 107, 3) := by decide +kernel
theorem dX9_handed_30 : decode cX9_handed 30 = .ok (.istore 4, 2) := by decide +kernel
theorem dX9_handed_32 : decode cX9_handed 32 = .ok (.iload 4, 2) := by decide +kernel
theorem dX9_handed_34 : decode cX9_handed 34 = .ok (.iconst 1, 1) := by decide +kernel
theorem dX9_handed_35 : decode cX9_handed 35 = .ok (.if_icmp .gt 16, 3) := by decide +kernel
theorem dX9_handed_38 : decode cX9_handed 38 = .ok (.aload_n 1, 1) := by decide +kernel
theorem dX9_handed_39 : decode cX9_handed 39 = .ok (.aload_n 0, 1) := by decide +kernel
theorem dX9_handed_40 : decode cX9_handed 40 = .ok (.getfield 18, 3) := by decide +kernel
theorem dX9_handed_43 : decode cX9_handed 43 = .ok (.iload_n 2, 1) := by decide +kernel
theorem dX9_handed_44 : decode cX9_handed 44 = .ok (.invokestatic 107, 3) := by decide +kernel
theorem dX9_handed_47 : decode cX9_handed 47 = .ok (.invokevirtual 183, 3) := by decide +kernel
theorem dX9_handed_50 : decode cX9_handed 50 = .ok (.ireturn, 1) := by decide +kernel
theorem dX9_handed_51 : decode cX9_handed 51 = .ok (.iload 4, 2) := by decide +kernel
theorem dX9_handed_53 : decode cX9_handed 53 = .ok (.iconst 3, 1) := by decide +kernel
theorem dX9_handed_54 : decode cX9_handed 54 = .ok (.if_icmp .ne 11, 3) := by decide +kernel
theorem dX9_handed_57 : decode cX9_handed 57 = .ok (.aload_n 1, 1) := by decide +kernel
theorem dX9_handed_58 : decode cX9_handed 58 = .ok (.iload_n 2, 1) := by decide +kernel
theorem dX9_handed_59 : decode cX9_handed 59 = .ok (.invokevirtual 186, 3) := by decide +kernel
theorem dX9_handed_62 : decode cX9_handed 62 = .ok (.goto 4, 3) := by decide +kernel
theorem dX9_handed_65 : decode cX9_handed 65 = .ok (.iconst 1, 1) := by decide +kernel
theorem dX9_handed_66 : decode cX9_handed 66 = .ok (.istore 5, 2) := by decide +kernel
theorem dX9_handed_68 : decode cX9_handed 68 = .ok (.iload 4, 2) := by decide +kernel
theorem dX9_handed_70 : decode cX9_handed 70 = .ok (.iconst 3, 1) := by decide +kernel
theorem dX9_handed_71 : decode cX9_handed 71 = .ok (.if_icmp .ne 11, 3) := by decide +kernel
theorem dX9_handed_74 : decode cX9_handed 74 = .ok (.aload_n 1, 1) := by decide +kernel
theorem dX9_handed_75 : decode cX9_handed 75 = .ok (.iload_n 3, 1) := by decide +kernel
theorem dX9_handed_76 : decode cX9_handed 76 = .ok (.invokevirtual 189, 3) := by decide +kernel
theorem dX9_handed_79 : decode cX9_handed 79 = .ok (.goto 11, 3) := by decide +kernel
theorem dX9_handed_82 : decode cX9_handed 82 = .ok (.aload_n 1, 1) := by decide +kernel
theorem dX9_handed_83 : decode cX9_handed 83 = .ok (.getfield 75, 3) := by decide +kernel
theorem dX9_handed_86 : decode cX9_handed 86 = .ok (.iload_n 3, 1) := by decide +kernel
theorem dX9_handed_87 : decode cX9_handed 87 = .ok (.invokevirtual 161, 3) := by decide +kernel
theorem dX9_handed_90 : decode cX9_handed 90 = .ok (.istore 6, 2) := by decide +kernel
theorem dX9_handed_92 : decode cX9_handed 92 = .ok (.iload 6, 2) := by decide +kernel
theorem dX9_handed_94 : decode cX9_handed 94 = .ok (.ifCond .le 17, 3) := by decide +kernel
theorem dX9_handed_97 : decode cX9_handed 97 = .ok (.aload_n 1, 1) := by decide +kernel
theorem dX9_handed_98 : decode cX9_handed 98 = .ok (.iload_n 3, 1) := by decide +kernel
theorem dX9_handed_99 : decode cX9_handed 99 = .ok (.invokevirtual 192, 3) := by decide +kernel
theorem dX9_handed_102 : decode cX9_handed 102 = .ok (.iload 5, 2) := by decide +kernel
theorem dX9_handed_104 : decode cX9_handed 104 = .ok (.imul, 1) := by decide +kernel
theorem dX9_handed_105 : decode cX9_handed 105 = .ok (.iload 6, 2) := by decide +kernel
theorem dX9_handed_107 : decode cX9_handed 107 = .ok (.idiv, 1) := by decide +kernel
theorem dX9_handed_108 : decode cX9_handed 108 = .ok (.goto 4, 3) := by decide +kernel
theorem dX9_handed_111 : decode cX9_handed 111 = .ok (.iconst 0, 1) := by decide +kernel
theorem dX9_handed_112 : decode cX9_handed 112 = .ok (.ireturn, 1) := by decide +kernel
theorem dX9_lookAtAll_0 : decode cX9_lookAtAll 0 = .ok (.iconst 0, 1) := by decide +kernel
theorem dX9_lookAtAll_1 : decode cX9_lookAtAll 1 = .ok (.istore_n 2, 1) := by decide +kernel
theorem dX9_lookAtAll_2 : decode cX9_lookAtAll 2 = .ok (.iload_n 2, 1) := by decide +kernel
theorem dX9_lookAtAll_3 : decode cX9_lookAtAll 3 = .ok (.aload_n 1, 1) := by decide +kernel
theorem dX9_lookAtAll_4 : decode cX9_lookAtAll 4 = .ok (.getfield 75, 3) := by decide +kernel
theorem dX9_lookAtAll_7 : decode cX9_lookAtAll 7 = .ok (.getfield 115, 3) := by decide +kernel
theorem dX9_lookAtAll_10 : decode cX9_lookAtAll 10 = .ok (.if_icmp .ge 102, 3) := by decide +kernel
theorem dX9_lookAtAll_13 : decode cX9_lookAtAll 13 = .ok (.aload_n 1, 1) := by decide +kernel
theorem dX9_lookAtAll_14 : decode cX9_lookAtAll 14 = .ok (.getfield 75, 3) := by decide +kernel
theorem dX9_lookAtAll_17 : decode cX9_lookAtAll 17 = .ok (.getfield 118, 3) := by decide +kernel
theorem dX9_lookAtAll_20 : decode cX9_lookAtAll 20 = .ok (.iload_n 2, 1) := by decide +kernel
theorem dX9_lookAtAll_21 : decode cX9_lookAtAll 21 = .ok (.invokestatic 107, 3) := by decide +kernel
theorem dX9_lookAtAll_24 : decode cX9_lookAtAll 24 = .ok (.istore_n 3, 1) := by decide +kernel
theorem dX9_lookAtAll_25 : decode cX9_lookAtAll 25 = .ok (.iload_n 3, 1) := by decide +kernel
theorem dX9_lookAtAll_26 : decode cX9_lookAtAll 26 = .ok (.iconst (-1), 1) := by decide +kernel
theorem dX9_lookAtAll_27 : decode cX9_lookAtAll 27 = .ok (.if_icmp .eq 79, 3) := by decide +kernel
theorem dX9_lookAtAll_30 : decode cX9_lookAtAll 30 = .ok (.aload_n 1, 1) := by decide +kernel
theorem dX9_lookAtAll_31 : decode cX9_lookAtAll 31 = .ok (.getfield 75, 3) := by decide +kernel
theorem dX9_lookAtAll_34 : decode cX9_lookAtAll 34 = .ok (.getfield 143, 3) := by decide +kernel
theorem dX9_lookAtAll_37 : decode cX9_lookAtAll 37 = .ok (.iload_n 2, 1) := by decide +kernel
theorem dX9_lookAtAll_38 : decode cX9_lookAtAll 38 = .ok (.invokestatic 107, 3) := by decide +kernel
theorem dX9_lookAtAll_41 : decode cX9_lookAtAll 41 = .ok (.aload_n 1, 1) := by decide +kernel
theorem dX9_lookAtAll_42 : decode cX9_lookAtAll 42 = .ok (.getfield 95, 3) := by decide +kernel
theorem dX9_lookAtAll_45 : decode cX9_lookAtAll 45 = .ok (.getfield 195, 3) := by decide +kernel
theorem dX9_lookAtAll_48 : decode cX9_lookAtAll 48 = .ok (.iload_n 3, 1) := by decide +kernel
theorem dX9_lookAtAll_49 : decode cX9_lookAtAll 49 = .ok (.invokestatic 107, 3) := by decide +kernel
theorem dX9_lookAtAll_52 : decode cX9_lookAtAll 52 = .ok (.if_icmp .ge 54, 3) := by decide +kernel
theorem dX9_lookAtAll_55 : decode cX9_lookAtAll 55 = .ok (.aload_n 0, 1) := by decide +kernel
theorem dX9_lookAtAll_56 : decode cX9_lookAtAll 56 = .ok (.bipush 100, 2) := by decide +kernel
theorem dX9_lookAtAll_58 : decode cX9_lookAtAll 58 = .ok (.invokevirtual 125, 3) := by decide +kernel
theorem dX9_lookAtAll_61 : decode cX9_lookAtAll 61 = .ok (.aload_n 1, 1) := by decide +kernel
theorem dX9_lookAtAll_62 : decode cX9_lookAtAll 62 = .ok (.getfield 95, 3) := by decide +kernel
theorem dX9_lookAtAll_65 : decode cX9_lookAtAll 65 = .ok (.getfield 198, 3) := by decide +kernel
theorem dX9_lookAtAll_68 : decode cX9_lookAtAll 68 = .ok (.iload_n 3, 1) := by decide +kernel
theorem dX9_lookAtAll_69 : decode cX9_lookAtAll 69 = .ok (.invokestatic 107, 3) := by decide +kernel
theorem dX9_lookAtAll_72 : decode cX9_lookAtAll 72 = .ok (.if_icmp .ge 34, 3) := by decide +kernel
theorem dX9_lookAtAll_75 : decode cX9_lookAtAll 75 = .ok (.aload_n 0, 1) := by decide +kernel
theorem dX9_lookAtAll_76 : decode cX9_lookAtAll 76 = .ok (.ldc 201, 2) := by decide +kernel
theorem dX9_lookAtAll_78 : decode cX9_lookAtAll 78 = .ok (.aload_n 0, 1) := by decide +kernel
theorem dX9_lookAtAll_79 : decode cX9_lookAtAll 79 = .ok (.getfield 51, 3) := by decide +kernel
theorem dX9_lookAtAll_82 : decode cX9_lookAtAll 82 = .ok (.aload_n 0, 1) := by decide +kernel
theorem dX9_lookAtAll_83 : decode cX9_lookAtAll 83 = .ok (.getfield 9, 3) := by decide +kernel
theorem dX9_lookAtAll_86 : decode cX9_lookAtAll 86 = .ok (.iload_n 2, 1) := by decide +kernel
theorem dX9_lookAtAll_87 : decode cX9_lookAtAll 87 = .ok (.invokestatic 107, 3) := by decide +kernel
theorem dX9_lookAtAll_90 : decode cX9_lookAtAll 90 = .ok (.iadd, 1) := by decide +kernel
theorem dX9_lookAtAll_91 : decode cX9_lookAtAll 91 = .ok (.invokestatic 152, 3) := by decide +kernel
theorem dX9_lookAtAll_94 : decode cX9_lookAtAll 94 = .ok (.putfield 51, 3) := by decide +kernel
theorem dX9_lookAtAll_97 : decode cX9_lookAtAll 97 = .ok (.aload_n 0, 1) := by decide +kernel
theorem dX9_lookAtAll_98 : decode cX9_lookAtAll 98 = .ok (.getfield 9, 3) := by decide +kernel
theorem dX9_lookAtAll_101 : decode cX9_lookAtAll 101 = .ok (.iload_n 2, 1) := by decide +kernel
theorem dX9_lookAtAll_102 : decode cX9_lookAtAll 102 = .ok (.iconst 0, 1) := by decide +kernel
theorem dX9_lookAtAll_103 : decode cX9_lookAtAll 103 = .ok (.invokestatic 121, 3) := by decide +kernel
theorem dX9_lookAtAll_106 : decode cX9_lookAtAll 106 = .ok (.iinc 2 1, 3) := by decide +kernel
theorem dX9_lookAtAll_109 : decode cX9_lookAtAll 109 = .ok (.goto (-107), 3) := by decide +kernel
theorem dX9_lookAtAll_112 : decode cX9_lookAtAll 112 = .ok (.return_, 1) := by decide +kernel
theorem dX9_halvePairs_0 : decode cX9_halvePairs 0 = .ok (.iconst 0, 1) := by decide +kernel
theorem dX9_halvePairs_1 : decode cX9_halvePairs 1 = .ok (.istore_n 2, 1) := by decide +kernel
theorem dX9_halvePairs_2 : decode cX9_halvePairs 2 = .ok (.iload_n 2, 1) := by decide +kernel
theorem dX9_halvePairs_3 : decode cX9_halvePairs 3 = .ok (.aload_n 1, 1) := by decide +kernel
theorem dX9_halvePairs_4 : decode cX9_halvePairs 4 = .ok (.getfield 202, 3) := by decide +kernel
theorem dX9_halvePairs_7 : decode cX9_halvePairs 7 = .ok (.if_icmp .ge 76, 3) := by decide +kernel
theorem dX9_halvePairs_10 : decode cX9_halvePairs 10 = .ok (.aload_n 1, 1) := by decide +kernel
theorem dX9_halvePairs_11 : decode cX9_halvePairs 11 = .ok (.getfield 205, 3) := by decide +kernel
theorem dX9_halvePairs_14 : decode cX9_halvePairs 14 = .ok (.iload_n 2, 1) := by decide +kernel
theorem dX9_halvePairs_15 : decode cX9_halvePairs 15 = .ok (.invokestatic 107, 3) := by decide +kernel
theorem dX9_halvePairs_18 : decode cX9_halvePairs 18 = .ok (.istore_n 3, 1) := by decide +kernel
theorem dX9_halvePairs_19 : decode cX9_halvePairs 19 = .ok (.aload_n 1, 1) := by decide +kernel
theorem dX9_halvePairs_20 : decode cX9_halvePairs 20 = .ok (.getfield 208, 3) := by decide +kernel
theorem dX9_halvePairs_23 : decode cX9_halvePairs 23 = .ok (.iload_n 2, 1) := by decide +kernel
theorem dX9_halvePairs_24 : decode cX9_halvePairs 24 = .ok (.invokestatic 107, 3) := by decide +kernel
theorem dX9_halvePairs_27 : decode cX9_halvePairs 27 = .ok (.istore 4, 2) := by decide +kernel
theorem dX9_halvePairs_29 : decode cX9_halvePairs 29 = .ok (.aload_n 0, 1) := by decide +kernel
theorem dX9_halvePairs_30 : decode cX9_halvePairs 30 = .ok (.getfield 9, 3) := by decide +kernel
theorem dX9_halvePairs_33 : decode cX9_halvePairs 33 = .ok (.iload_n 3, 1) := by decide +kernel
theorem dX9_halvePairs_34 : decode cX9_halvePairs 34 = .ok (.invokestatic 107, 3) := by decide +kernel
theorem dX9_halvePairs_37 : decode cX9_halvePairs 37 = .ok (.aload_n 0, 1) := by decide +kernel
theorem dX9_halvePairs_38 : decode cX9_halvePairs 38 = .ok (.getfield 9, 3) := by decide +kernel
theorem dX9_halvePairs_41 : decode cX9_halvePairs 41 = .ok (.iload 4, 2) := by decide +kernel
theorem dX9_halvePairs_43 : decode cX9_halvePairs 43 = .ok (.invokestatic 107, 3) := by decide +kernel
theorem dX9_halvePairs_46 : decode cX9_halvePairs 46 = .ok (.iadd, 1) := by decide +kernel
theorem dX9_halvePairs_47 : decode cX9_halvePairs 47 = .ok (.istore 5, 2) := by decide +kernel
theorem dX9_halvePairs_49 : decode cX9_halvePairs 49 = .ok (.aload_n 0, 1) := by decide +kernel
theorem dX9_halvePairs_50 : decode cX9_halvePairs 50 = .ok (.getfield 9, 3) := by decide +kernel
theorem dX9_halvePairs_53 : decode cX9_halvePairs 53 = .ok (.iload 4, 2) := by decide +kernel
theorem dX9_halvePairs_55 : decode cX9_halvePairs 55 = .ok (.iload 5, 2) := by decide +kernel
theorem dX9_halvePairs_57 : decode cX9_halvePairs 57 = .ok (.iconst 2, 1) := by decide +kernel
theorem dX9_halvePairs_58 : decode cX9_halvePairs 58 = .ok (.idiv, 1) := by decide +kernel
theorem dX9_halvePairs_59 : decode cX9_halvePairs 59 = .ok (.invokestatic 121, 3) := by decide +kernel
theorem dX9_halvePairs_62 : decode cX9_halvePairs 62 = .ok (.aload_n 0, 1) := by decide +kernel
theorem dX9_halvePairs_63 : decode cX9_halvePairs 63 = .ok (.getfield 9, 3) := by decide +kernel
theorem dX9_halvePairs_66 : decode cX9_halvePairs 66 = .ok (.iload_n 3, 1) := by decide +kernel
theorem dX9_halvePairs_67 : decode cX9_halvePairs 67 = .ok (.iload 5, 2) := by decide +kernel
theorem dX9_halvePairs_69 : decode cX9_halvePairs 69 = .ok (.iload 5, 2) := by decide +kernel
theorem dX9_halvePairs_71 : decode cX9_halvePairs 71 = .ok (.iconst 2, 1) := by decide +kernel
theorem dX9_halvePairs_72 : decode cX9_halvePairs 72 = .ok (.idiv, 1) := by decide +kernel
theorem dX9_halvePairs_73 : decode cX9_halvePairs 73 = .ok (.isub, 1) := by decide +kernel
theorem dX9_halvePairs_74 : decode cX9_halvePairs 74 = .ok (.invokestatic 121, 3) := by decide +kernel
theorem dX9_halvePairs_77 : decode cX9_halvePairs 77 = .ok (.iinc 2 1, 3) := by decide +kernel
theorem dX9_halvePairs_80 : decode cX9_halvePairs 80 = .ok (.goto (-78), 3) := by decide +kernel
theorem dX9_halvePairs_83 : decode cX9_halvePairs 83 = .ok (.return_, 1) := by decide +kernel
theorem dX9_payAll_0 : decode cX9_payAll 0 = .ok (.iconst 0, 1) := by decide +kernel
theorem dX9_payAll_1 : decode cX9_payAll 1 = .ok (.istore_n 2, 1) := by decide +kernel
theorem dX9_payAll_2 : decode cX9_payAll 2 = .ok (.iconst 0, 1) := by decide +kernel
theorem dX9_payAll_3 : decode cX9_payAll 3 = .ok (.istore_n 3, 1) := by decide +kernel
theorem dX9_payAll_4 : decode cX9_payAll 4 = .ok (.iload_n 3, 1) := by decide +kernel
theorem dX9_payAll_5 : decode cX9_payAll 5 = .ok (.aload_n 1, 1) := by decide +kernel
theorem dX9_payAll_6 : decode cX9_payAll 6 = .ok (.getfield 75, 3) := by decide +kernel
theorem dX9_payAll_9 : decode cX9_payAll 9 = .ok (.getfield 115, 3) := by decide +kernel
theorem dX9_payAll_12 : decode cX9_payAll 12 = .ok (.if_icmp .ge 60, 3) := by decide +kernel
theorem dX9_payAll_15 : decode cX9_payAll 15 = .ok (.aload_n 1, 1) := by decide +kernel
theorem dX9_payAll_16 : decode cX9_payAll 16 = .ok (.iload_n 3, 1) := by decide +kernel
theorem dX9_payAll_17 : decode cX9_payAll 17 = .ok (.invokevirtual 211, 3) := by decide +kernel
theorem dX9_payAll_20 : decode cX9_payAll 20 = .ok (.aload_n 1, 1) := by decide +kernel
theorem dX9_payAll_21 : decode cX9_payAll 21 = .ok (.iload_n 3, 1) := by decide +kernel
theorem dX9_payAll_22 : decode cX9_payAll 22 = .ok (.invokevirtual 183, 3) := by decide +kernel
theorem dX9_payAll_25 : decode cX9_payAll 25 = .ok (.isub, 1) := by decide +kernel
theorem dX9_payAll_26 : decode cX9_payAll 26 = .ok (.aload_n 0, 1) := by decide +kernel
theorem dX9_payAll_27 : decode cX9_payAll 27 = .ok (.getfield 9, 3) := by decide +kernel
theorem dX9_payAll_30 : decode cX9_payAll 30 = .ok (.iload_n 3, 1) := by decide +kernel
theorem dX9_payAll_31 : decode cX9_payAll 31 = .ok (.invokestatic 107, 3) := by decide +kernel
theorem dX9_payAll_34 : decode cX9_payAll 34 = .ok (.iadd, 1) := by decide +kernel
theorem dX9_payAll_35 : decode cX9_payAll 35 = .ok (.istore 4, 2) := by decide +kernel
theorem dX9_payAll_37 : decode cX9_payAll 37 = .ok (.aload_n 0, 1) := by decide +kernel
theorem dX9_payAll_38 : decode cX9_payAll 38 = .ok (.getfield 15, 3) := by decide +kernel
theorem dX9_payAll_41 : decode cX9_payAll 41 = .ok (.iload_n 3, 1) := by decide +kernel
theorem dX9_payAll_42 : decode cX9_payAll 42 = .ok (.ldc 201, 2) := by decide +kernel
theorem dX9_payAll_44 : decode cX9_payAll 44 = .ok (.aload_n 0, 1) := by decide +kernel
theorem dX9_payAll_45 : decode cX9_payAll 45 = .ok (.getfield 15, 3) := by decide +kernel
theorem dX9_payAll_48 : decode cX9_payAll 48 = .ok (.iload_n 3, 1) := by decide +kernel
theorem dX9_payAll_49 : decode cX9_payAll 49 = .ok (.invokestatic 107, 3) := by decide +kernel
theorem dX9_payAll_52 : decode cX9_payAll 52 = .ok (.iload 4, 2) := by decide +kernel
theorem dX9_payAll_54 : decode cX9_payAll 54 = .ok (.iadd, 1) := by decide +kernel
theorem dX9_payAll_55 : decode cX9_payAll 55 = .ok (.invokestatic 152, 3) := by decide +kernel
theorem dX9_payAll_58 : decode cX9_payAll 58 = .ok (.invokestatic 121, 3) := by decide +kernel
theorem dX9_payAll_61 : decode cX9_payAll 61 = .ok (.iload_n 2, 1) := by decide +kernel
theorem dX9_payAll_62 : decode cX9_payAll 62 = .ok (.iload 4, 2) := by decide +kernel
theorem dX9_payAll_64 : decode cX9_payAll 64 = .ok (.iadd, 1) := by decide +kernel
theorem dX9_payAll_65 : decode cX9_payAll 65 = .ok (.istore_n 2, 1) := by decide +kernel
theorem dX9_payAll_66 : decode cX9_payAll 66 = .ok (.iinc 3 1, 3) := by decide +kernel
theorem dX9_payAll_69 : decode cX9_payAll 69 = .ok (.goto (-65), 3) := by decide +kernel
theorem dX9_payAll_72 : decode cX9_payAll 72 = .ok (.iload_n 2, 1) := by decide +kernel
theorem dX9_payAll_73 : decode cX9_payAll 73 = .ok (.ireturn, 1) := by decide +kernel
theorem dX10_init_0 : decode cX10_init 0 = .ok (.aload_n 0, 1) := by decide +kernel
theorem dX10_init_1 : decode cX10_init 1 = .ok (.invokespecial 1, 3) := by decide +kernel
theorem dX10_init_4 : decode cX10_init 4 = .ok (.aload_n 0, 1) := by decide +kernel
theorem dX10_init_5 : decode cX10_init 5 = .ok (.sipush 1600, 3) := by decide +kernel
theorem dX10_init_8 : decode cX10_init 8 = .ok (.newarray .int, 2) := by decide +kernel
theorem dX10_init_10 : decode cX10_init 10 = .ok (.putfield 9, 3) := by decide +kernel
theorem dX10_init_13 : decode cX10_init 13 = .ok (.aload_n 0, 1) := by decide +kernel
theorem dX10_init_14 : decode cX10_init 14 = .ok (.bipush 52, 2) := by decide +kernel
theorem dX10_init_16 : decode cX10_init 16 = .ok (.newarray .int, 2) := by decide +kernel
theorem dX10_init_18 : decode cX10_init 18 = .ok (.putfield 13, 3) := by decide +kernel
theorem dX10_init_21 : decode cX10_init 21 = .ok (.aload_n 0, 1) := by decide +kernel
theorem dX10_init_22 : decode cX10_init 22 = .ok (.new 16, 3) := by decide +kernel
theorem dX10_init_25 : decode cX10_init 25 = .ok (.dup, 1) := by decide +kernel
theorem dX10_init_26 : decode cX10_init 26 = .ok (.invokespecial 18, 3) := by decide +kernel
theorem dX10_init_29 : decode cX10_init 29 = .ok (.putfield 19, 3) := by decide +kernel
theorem dX10_init_32 : decode cX10_init 32 = .ok (.aload_n 0, 1) := by decide +kernel
theorem dX10_init_33 : decode cX10_init 33 = .ok (.new 23, 3) := by decide +kernel
theorem dX10_init_36 : decode cX10_init 36 = .ok (.dup, 1) := by decide +kernel
theorem dX10_init_37 : decode cX10_init 37 = .ok (.bipush 20, 2) := by decide +kernel
theorem dX10_init_39 : decode cX10_init 39 = .ok (.invokespecial 25, 3) := by decide +kernel
theorem dX10_init_42 : decode cX10_init 42 = .ok (.putfield 28, 3) := by decide +kernel
theorem dX10_init_45 : decode cX10_init 45 = .ok (.aload_n 0, 1) := by decide +kernel
theorem dX10_init_46 : decode cX10_init 46 = .ok (.new 32, 3) := by decide +kernel
theorem dX10_init_49 : decode cX10_init 49 = .ok (.dup, 1) := by decide +kernel
theorem dX10_init_50 : decode cX10_init 50 = .ok (.invokespecial 34, 3) := by decide +kernel
theorem dX10_init_53 : decode cX10_init 53 = .ok (.putfield 35, 3) := by decide +kernel
theorem dX10_init_56 : decode cX10_init 56 = .ok (.aload_n 0, 1) := by decide +kernel
theorem dX10_init_57 : decode cX10_init 57 = .ok (.new 32, 3) := by decide +kernel
theorem dX10_init_60 : decode cX10_init 60 = .ok (.dup, 1) := by decide +kernel
theorem dX10_init_61 : decode cX10_init 61 = .ok (.invokespecial 34, 3) := by decide +kernel
theorem dX10_init_64 : decode cX10_init 64 = .ok (.putfield 39, 3) := by decide +kernel
theorem dX10_init_67 : decode cX10_init 67 = .ok (.aload_n 0, 1) := by decide +kernel
theorem dX10_init_68 : decode cX10_init 68 = .ok (.new 42, 3) := by decide +kernel
theorem dX10_init_71 : decode cX10_init 71 = .ok (.dup, 1) := by decide +kernel
theorem dX10_init_72 : decode cX10_init 72 = .ok (.aload_n 0, 1) := by decide +kernel
theorem dX10_init_73 : decode cX10_init 73 = .ok (.getfield 39, 3) := by decide +kernel
theorem dX10_init_76 : decode cX10_init 76 = .ok (.invokespecial 44, 3) := by decide +kernel
theorem dX10_init_79 : decode cX10_init 79 = .ok (.putfield 47, 3) := by decide +kernel
theorem dX10_init_82 : decode cX10_init 82 = .ok (.return_, 1) := by decide +kernel
theorem dX10_feed_0 : decode cX10_feed 0 = .ok (.aload_n 0, 1) := by decide +kernel
theorem dX10_feed_1 : decode cX10_feed 1 = .ok (.getfield 51, 3) := by decide +kernel
theorem dX10_feed_4 : decode cX10_feed 4 = .ok (.bipush 20, 2) := by decide +kernel
theorem dX10_feed_6 : decode cX10_feed 6 = .ok (.iadd, 1) := by decide +kernel
theorem dX10_feed_7 : decode cX10_feed 7 = .ok (.sipush 1600, 3) := by decide +kernel
theorem dX10_feed_10 : decode cX10_feed 10 = .ok (.if_icmp .le 5, 3) := by decide +kernel
theorem dX10_feed_13 : decode cX10_feed 13 = .ok (.iconst (-1), 1) := by decide +kernel
theorem dX10_feed_14 : decode cX10_feed 14 = .ok (.ireturn, 1) := by decide +kernel
theorem dX10_feed_15 : decode cX10_feed 15 = .ok (.aload_n 0, 1) := by decide +kernel
theorem dX10_feed_16 : decode cX10_feed 16 = .ok (.iload_n 1, 1) := by decide +kernel
theorem dX10_feed_17 : decode cX10_feed 17 = .ok (.invokevirtual 55, 3) := by decide +kernel
theorem dX10_feed_20 : decode cX10_feed 20 = .ok (.aload_n 0, 1) := by decide +kernel
theorem dX10_feed_21 : decode cX10_feed 21 = .ok (.iload_n 2, 1) := by decide +kernel
theorem dX10_feed_22 : decode cX10_feed 22 = .ok (.invokevirtual 55, 3) := by decide +kernel
theorem dX10_feed_25 : decode cX10_feed 25 = .ok (.aload_n 0, 1) := by decide +kernel
theorem dX10_feed_26 : decode cX10_feed 26 = .ok (.iload_n 3, 1) := by decide +kernel
theorem dX10_feed_27 : decode cX10_feed 27 = .ok (.invokevirtual 55, 3) := by decide +kernel
theorem dX10_feed_30 : decode cX10_feed 30 = .ok (.aload_n 0, 1) := by decide +kernel
theorem dX10_feed_31 : decode cX10_feed 31 = .ok (.iload 4, 2) := by decide +kernel
theorem dX10_feed_33 : decode cX10_feed 33 = .ok (.invokevirtual 55, 3) := by decide +kernel
theorem dX10_feed_36 : decode cX10_feed 36 = .ok (.aload_n 0, 1) := by decide +kernel
theorem dX10_feed_37 : decode cX10_feed 37 = .ok (.iload 5, 2) := by decide +kernel
theorem dX10_feed_39 : decode cX10_feed 39 = .ok (.invokevirtual 55, 3) := by decide +kernel
theorem dX10_feed_42 : decode cX10_feed 42 = .ok (.aload_n 0, 1) := by decide +kernel
theorem dX10_feed_43 : decode cX10_feed 43 = .ok (.getfield 51, 3) := by decide +kernel
theorem dX10_feed_46 : decode cX10_feed 46 = .ok (.ireturn, 1) := by decide +kernel
theorem dX10_lay_0 : decode cX10_lay 0 = .ok (.bipush 24, 2) := by decide +kernel
theorem dX10_lay_2 : decode cX10_lay 2 = .ok (.istore_n 2, 1) := by decide +kernel
theorem dX10_lay_3 : decode cX10_lay 3 = .ok (.iload_n 2, 1) := by decide +kernel
theorem dX10_lay_4 : decode cX10_lay 4 = .ok (.ifCond .lt 45, 3) := by decide +kernel
theorem dX10_lay_7 : decode cX10_lay 7 = .ok (.aload_n 0, 1) := by decide +kernel
theorem dX10_lay_8 : decode cX10_lay 8 = .ok (.getfield 51, 3) := by decide +kernel
theorem dX10_lay_11 : decode cX10_lay 11 = .ok (.sipush 1600, 3) := by decide +kernel
theorem dX10_lay_14 : decode cX10_lay 14 = .ok (.if_icmp .ge 35, 3) := by decide +kernel
theorem dX10_lay_17 : decode cX10_lay 17 = .ok (.aload_n 0, 1) := by decide +kernel
theorem dX10_lay_18 : decode cX10_lay 18 = .ok (.getfield 9, 3) := by decide +kernel
theorem dX10_lay_21 : decode cX10_lay 21 = .ok (.aload_n 0, 1) := by decide +kernel
theorem dX10_lay_22 : decode cX10_lay 22 = .ok (.getfield 51, 3) := by decide +kernel
theorem dX10_lay_25 : decode cX10_lay 25 = .ok (.iload_n 1, 1) := by decide +kernel
theorem dX10_lay_26 : decode cX10_lay 26 = .ok (.iload_n 2, 1) := by decide +kernel
theorem dX10_lay_27 : decode cX10_lay 27 = .ok (.iushr, 1) := by decide +kernel
theorem dX10_lay_28 : decode cX10_lay 28 = .ok (.sipush 255, 3) := by decide +kernel
theorem dX10_lay_31 : decode cX10_lay 31 = .ok (.iand, 1) := by decide +kernel
theorem dX10_lay_32 : decode cX10_lay 32 = .ok (.iastore, 1) := by decide +kernel
theorem dX10_lay_33 : decode cX10_lay 33 = .ok (.aload_n 0, 1) := by decide +kernel
theorem dX10_lay_34 : decode cX10_lay 34 = .ok (.dup, 1) := by decide +kernel
theorem dX10_lay_35 : decode cX10_lay 35 = .ok (.getfield 51, 3) := by decide +kernel
theorem dX10_lay_38 : decode cX10_lay 38 = .ok (.iconst 1, 1) := by decide +kernel
theorem dX10_lay_39 : decode cX10_lay 39 = .ok (.iadd, 1) := by decide +kernel
theorem dX10_lay_40 : decode cX10_lay 40 = .ok (.putfield 51, 3) := by decide +kernel
theorem dX10_lay_43 : decode cX10_lay 43 = .ok (.iinc 2 (-8), 3) := by decide +kernel
theorem dX10_lay_46 : decode cX10_lay 46 = .ok (.goto (-43), 3) := by decide +kernel
theorem dX10_lay_49 : decode cX10_lay 49 = .ok (.return_, 1) := by decide +kernel
theorem dX10_end_0 : decode cX10_end 0 = .ok (.iload_n 1, 1) := by decide +kernel
theorem dX10_end_1 : decode cX10_end 1 = .ok (.ifCond .lt 11, 3) := by decide +kernel
theorem dX10_end_4 : decode cX10_end 4 = .ok (.iload_n 1, 1) := by decide +kernel
theorem dX10_end_5 : decode cX10_end 5 = .ok (.aload_n 0, 1) := by decide +kernel
theorem dX10_end_6 : decode cX10_end 6 = .ok (.getfield 51, 3) := by decide +kernel
theorem dX10_end_9 : decode cX10_end 9 = .ok (.if_icmp .le 5, 3) := by decide +kernel
theorem dX10_end_12 : decode cX10_end 12 = .ok (.iconst 0, 1) := by decide +kernel
theorem dX10_end_13 : decode cX10_end 13 = .ok (.ireturn, 1) := by decide +kernel
theorem dX10_end_14 : decode cX10_end 14 = .ok (.aload_n 0, 1) := by decide +kernel
theorem dX10_end_15 : decode cX10_end 15 = .ok (.iload_n 1, 1) := by decide +kernel
theorem dX10_end_16 : decode cX10_end 16 = .ok (.putfield 51, 3) := by decide +kernel
theorem dX10_end_19 : decode cX10_end 19 = .ok (.iconst 1, 1) := by decide +kernel
theorem dX10_end_20 : decode cX10_end 20 = .ok (.ireturn, 1) := by decide +kernel
theorem dX10_town_0 : decode cX10_town 0 = .ok (.aload_n 0, 1) := by decide +kernel
theorem dX10_town_1 : decode cX10_town 1 = .ok (.getfield 47, 3) := by decide +kernel
theorem dX10_town_4 : decode cX10_town 4 = .ok (.aload_n 0, 1) := by decide +kernel
theorem dX10_town_5 : decode cX10_town 5 = .ok (.getfield 9, 3) := by decide +kernel
theorem dX10_town_8 : decode cX10_town 8 = .ok (.aload_n 0, 1) := by decide +kernel
theorem dX10_town_9 : decode cX10_town 9 = .ok (.getfield 51, 3) := by decide +kernel
theorem dX10_town_12 : decode cX10_town 12 = .ok (.aload_n 0, 1) := by decide +kernel
theorem dX10_town_13 : decode cX10_town 13 = .ok (.getfield 39, 3) := by decide +kernel
theorem dX10_town_16 : decode cX10_town 16 = .ok (.invokevirtual 58, 3) := by decide +kernel
theorem dX10_town_19 : decode cX10_town 19 = .ok (.aload_n 0, 1) := by decide +kernel
theorem dX10_town_20 : decode cX10_town 20 = .ok (.iconst 0, 1) := by decide +kernel
theorem dX10_town_21 : decode cX10_town 21 = .ok (.putfield 51, 3) := by decide +kernel
theorem dX10_town_24 : decode cX10_town 24 = .ok (.iconst 0, 1) := by decide +kernel
theorem dX10_town_25 : decode cX10_town 25 = .ok (.istore_n 1, 1) := by decide +kernel
theorem dX10_town_26 : decode cX10_town 26 = .ok (.iload_n 1, 1) := by decide +kernel
theorem dX10_town_27 : decode cX10_town 27 = .ok (.bipush 100, 2) := by decide +kernel
theorem dX10_town_29 : decode cX10_town 29 = .ok (.if_icmp .gt 26, 3) := by decide +kernel
theorem dX10_town_32 : decode cX10_town 32 = .ok (.aload_n 0, 1) := by decide +kernel
theorem dX10_town_33 : decode cX10_town 33 = .ok (.getfield 47, 3) := by decide +kernel
theorem dX10_town_36 : decode cX10_town 36 = .ok (.invokevirtual 62, 3) := by decide +kernel
theorem dX10_town_39 : decode cX10_town 39 = .ok (.ifCond .eq 16, 3) := by decide +kernel
theorem dX10_town_42 : decode cX10_town 42 = .ok (.aload_n 0, 1) := by decide +kernel
theorem dX10_town_43 : decode cX10_town 43 = .ok (.getfield 47, 3) := by decide +kernel
theorem dX10_town_46 : decode cX10_town 46 = .ok (.invokevirtual 66, 3) := by decide +kernel
theorem dX10_town_49 : decode cX10_town 49 = .ok (.iinc 1 1, 3) := by decide +kernel
theorem dX10_town_52 : decode cX10_town 52 = .ok (.goto (-26), 3) := by decide +kernel
theorem dX10_town_55 : decode cX10_town 55 = .ok (.aload_n 0, 1) := by decide +kernel
theorem dX10_town_56 : decode cX10_town 56 = .ok (.getfield 47, 3) := by decide +kernel
theorem dX10_town_59 : decode cX10_town 59 = .ok (.invokevirtual 69, 3) := by decide +kernel
theorem dX10_town_62 : decode cX10_town 62 = .ok (.ifCond .ne 5, 3) := by decide +kernel
theorem dX10_town_65 : decode cX10_town 65 = .ok (.iconst (-1), 1) := by decide +kernel
theorem dX10_town_66 : decode cX10_town 66 = .ok (.ireturn, 1) := by decide +kernel
theorem dX10_town_67 : decode cX10_town 67 = .ok (.aload_n 0, 1) := by decide +kernel
theorem dX10_town_68 : decode cX10_town 68 = .ok (.getfield 35, 3) := by decide +kernel
theorem dX10_town_71 : decode cX10_town 71 = .ok (.astore_n 1, 1) := by decide +kernel
theorem dX10_town_72 : decode cX10_town 72 = .ok (.aload_n 0, 1) := by decide +kernel
theorem dX10_town_73 : decode cX10_town 73 = .ok (.aload_n 0, 1) := by decide +kernel
theorem dX10_town_74 : decode cX10_town 74 = .ok (.getfield 39, 3) := by decide +kernel
theorem dX10_town_77 : decode cX10_town 77 = .ok (.putfield 35, 3) := by decide +kernel
theorem dX10_town_80 : decode cX10_town 80 = .ok (.aload_n 0, 1) := by decide +kernel
theorem dX10_town_81 : decode cX10_town 81 = .ok (.aload_n 1, 1) := by decide +kernel
theorem dX10_town_82 : decode cX10_town 82 = .ok (.putfield 39, 3) := by decide +kernel
theorem dX10_town_85 : decode cX10_town 85 = .ok (.aload_n 0, 1) := by decide +kernel
theorem dX10_town_86 : decode cX10_town 86 = .ok (.getfield 19, 3) := by decide +kernel
theorem dX10_town_89 : decode cX10_town 89 = .ok (.invokevirtual 72, 3) := by decide +kernel
theorem dX10_town_92 : decode cX10_town 92 = .ok (.aload_n 0, 1) := by decide +kernel
theorem dX10_town_93 : decode cX10_town 93 = .ok (.getfield 47, 3) := by decide +kernel
theorem dX10_town_96 : decode cX10_town 96 = .ok (.getfield 75, 3) := by decide +kernel
theorem dX10_town_99 : decode cX10_town 99 = .ok (.ireturn, 1) := by decide +kernel
theorem dX10_fault_0 : decode cX10_fault 0 = .ok (.iload_n 1, 1) := by decide +kernel
theorem dX10_fault_1 : decode cX10_fault 1 = .ok (.ifCond .ne 11, 3) := by decide +kernel
theorem dX10_fault_4 : decode cX10_fault 4 = .ok (.aload_n 0, 1) := by decide +kernel
theorem dX10_fault_5 : decode cX10_fault 5 = .ok (.getfield 47, 3) := by decide +kernel
theorem dX10_fault_8 : decode cX10_fault 8 = .ok (.getfield 78, 3) := by decide +kernel
theorem dX10_fault_11 : decode cX10_fault 11 = .ok (.ireturn, 1) := by decide +kernel
theorem dX10_fault_12 : decode cX10_fault 12 = .ok (.iload_n 1, 1) := by decide +kernel
theorem dX10_fault_13 : decode cX10_fault 13 = .ok (.iconst 1, 1) := by decide +kernel
theorem dX10_fault_14 : decode cX10_fault 14 = .ok (.if_icmp .ne 13, 3) := by decide +kernel
theorem dX10_fault_17 : decode cX10_fault 17 = .ok (.aload_n 0, 1) := by decide +kernel
theorem dX10_fault_18 : decode cX10_fault 18 = .ok (.getfield 47, 3) := by decide +kernel
theorem dX10_fault_21 : decode cX10_fault 21 = .ok (.getfield 81, 3) := by decide +kernel
theorem dX10_fault_24 : decode cX10_fault 24 = .ok (.goto 4, 3) := by decide +kernel
theorem dX10_fault_27 : decode cX10_fault 27 = .ok (.iconst (-1), 1) := by decide +kernel
theorem dX10_fault_28 : decode cX10_fault 28 = .ok (.ireturn, 1) := by decide +kernel
theorem dX10_has_0 : decode cX10_has 0 = .ok (.aload_n 0, 1) := by decide +kernel
theorem dX10_has_1 : decode cX10_has 1 = .ok (.getfield 35, 3) := by decide +kernel
theorem dX10_has_4 : decode cX10_has 4 = .ok (.getfield 84, 3) := by decide +kernel
theorem dX10_has_7 : decode cX10_has 7 = .ok (.astore_n 2, 1) := by decide +kernel
theorem dX10_has_8 : decode cX10_has 8 = .ok (.iload_n 1, 1) := by decide +kernel
theorem dX10_has_9 : decode cX10_has 9 = .ok (.tableswitch 124 0 8 #[51, 59, 67, 75, 83, 94, 99, 107, 115], 51) := by decide +kernel
theorem dX10_has_60 : decode cX10_has 60 = .ok (.aload_n 2, 1) := by decide +kernel
theorem dX10_has_61 : decode cX10_has 61 = .ok (.getfield 87, 3) := by decide +kernel
theorem dX10_has_64 : decode cX10_has 64 = .ok (.getfield 91, 3) := by decide +kernel
theorem dX10_has_67 : decode cX10_has 67 = .ok (.ireturn, 1) := by decide +kernel
theorem dX10_has_68 : decode cX10_has 68 = .ok (.aload_n 2, 1) := by decide +kernel
theorem dX10_has_69 : decode cX10_has 69 = .ok (.getfield 96, 3) := by decide +kernel
theorem dX10_has_72 : decode cX10_has 72 = .ok (.getfield 100, 3) := by decide +kernel
theorem dX10_has_75 : decode cX10_has 75 = .ok (.ireturn, 1) := by decide +kernel
theorem dX10_has_76 : decode cX10_has 76 = .ok (.aload_n 2, 1) := by decide +kernel
theorem dX10_has_77 : decode cX10_has 77 = .ok (.getfield 103, 3) := by decide +kernel
theorem dX10_has_80 : decode cX10_has 80 = .ok (.getfield 107, 3) := by decide +kernel
theorem dX10_has_83 : decode cX10_has 83 = .ok (.ireturn, 1) := by decide +kernel
theorem dX10_has_84 : decode cX10_has 84 = .ok (.aload_n 2, 1) := by decide +kernel
theorem dX10_has_85 : decode cX10_has 85 = .ok (.getfield 103, 3) := by decide +kernel
theorem dX10_has_88 : decode cX10_has 88 = .ok (.getfield 110, 3) := by decide +kernel
theorem dX10_has_91 : decode cX10_has 91 = .ok (.ireturn, 1) := by decide +kernel
theorem dX10_has_92 : decode cX10_has 92 = .ok (.aload_n 0, 1) := by decide +kernel
theorem dX10_has_93 : decode cX10_has 93 = .ok (.getfield 35, 3) := by decide +kernel
theorem dX10_has_96 : decode cX10_has 96 = .ok (.getfield 113, 3) := by decide +kernel
theorem dX10_has_99 : decode cX10_has 99 = .ok (.getfield 117, 3) := by decide +kernel
theorem dX10_has_102 : decode cX10_has 102 = .ok (.ireturn, 1) := by decide +kernel
theorem dX10_has_103 : decode cX10_has 103 = .ok (.aload_n 2, 1) := by decide +kernel
theorem dX10_has_104 : decode cX10_has 104 = .ok (.getfield 120, 3) := by decide +kernel
theorem dX10_has_107 : decode cX10_has 107 = .ok (.ireturn, 1) := by decide +kernel
theorem dX10_has_108 : decode cX10_has 108 = .ok (.aload_n 0, 1) := by decide +kernel
theorem dX10_has_109 : decode cX10_has 109 = .ok (.getfield 19, 3) := by decide +kernel
theorem dX10_has_112 : decode cX10_has 112 = .ok (.getfield 123, 3) := by decide +kernel
theorem dX10_has_115 : decode cX10_has 115 = .ok (.ireturn, 1) := by decide +kernel
theorem dX10_has_116 : decode cX10_has 116 = .ok (.aload_n 0, 1) := by decide +kernel
theorem dX10_has_117 : decode cX10_has 117 = .ok (.getfield 19, 3) := by decide +kernel
theorem dX10_has_120 : decode cX10_has 120 = .ok (.getfield 126, 3) := by decide +kernel
theorem dX10_has_123 : decode cX10_has 123 = .ok (.ireturn, 1) := by decide +kernel
theorem dX10_has_124 : decode cX10_has 124 = .ok (.aload_n 2, 1) := by decide +kernel
theorem dX10_has_125 : decode cX10_has 125 = .ok (.getfield 103, 3) := by decide +kernel
theorem dX10_has_128 : decode cX10_has 128 = .ok (.iconst (-1), 1) := by decide +kernel
theorem dX10_has_129 : decode cX10_has 129 = .ok (.invokevirtual 129, 3) := by decide +kernel
theorem dX10_has_132 : decode cX10_has 132 = .ok (.ireturn, 1) := by decide +kernel
theorem dX10_has_133 : decode cX10_has 133 = .ok (.iconst (-1), 1) := by decide +kernel
theorem dX10_has_134 : decode cX10_has 134 = .ok (.ireturn, 1) := by decide +kernel
theorem dX10_letter_0 : decode cX10_letter 0 = .ok (.aload_n 0, 1) := by decide +kernel
theorem dX10_letter_1 : decode cX10_letter 1 = .ok (.getfield 35, 3) := by decide +kernel
theorem dX10_letter_4 : decode cX10_letter 4 = .ok (.getfield 84, 3) := by decide +kernel
theorem dX10_letter_7 : decode cX10_letter 7 = .ok (.astore 4, 2) := by decide +kernel
theorem dX10_letter_9 : decode cX10_letter 9 = .ok (.iload_n 3, 1) := by decide +kernel
theorem dX10_letter_10 : decode cX10_letter 10 = .ok (.ifCond .lt 9, 3) := by decide +kernel
theorem dX10_letter_13 : decode cX10_letter 13 = .ok (.iload_n 3, 1) := by decide +kernel
theorem dX10_letter_14 : decode cX10_letter 14 = .ok (.bipush 6, 2) := by decide +kernel
theorem dX10_letter_16 : decode cX10_letter 16 = .ok (.if_icmp .lt 5, 3) := by decide +kernel
theorem dX10_letter_19 : decode cX10_letter 19 = .ok (.iconst (-1), 1) := by decide +kernel
theorem dX10_letter_20 : decode cX10_letter 20 = .ok (.ireturn, 1) := by decide +kernel
theorem dX10_letter_21 : decode cX10_letter 21 = .ok (.iload_n 1, 1) := by decide +kernel
theorem dX10_letter_22 : decode cX10_letter 22 = .ok (.tableswitch 134 0 2 #[26, 62, 98], 26) := by decide +kernel
theorem dX10_letter_48 : decode cX10_letter 48 = .ok (.iload_n 2, 1) := by decide +kernel
theorem dX10_letter_49 : decode cX10_letter 49 = .ok (.aload 4, 2) := by decide +kernel
theorem dX10_letter_51 : decode cX10_letter 51 = .ok (.getfield 87, 3) := by decide +kernel
theorem dX10_letter_54 : decode cX10_letter 54 = .ok (.getfield 91, 3) := by decide +kernel
theorem dX10_letter_57 : decode cX10_letter 57 = .ok (.invokestatic 133, 3) := by decide +kernel
theorem dX10_letter_60 : decode cX10_letter 60 = .ok (.ifCond .eq 22, 3) := by decide +kernel
theorem dX10_letter_63 : decode cX10_letter 63 = .ok (.aload 4, 2) := by decide +kernel
theorem dX10_letter_65 : decode cX10_letter 65 = .ok (.getfield 87, 3) := by decide +kernel
theorem dX10_letter_68 : decode cX10_letter 68 = .ok (.getfield 137, 3) := by decide +kernel
theorem dX10_letter_71 : decode cX10_letter 71 = .ok (.iload_n 2, 1) := by decide +kernel
theorem dX10_letter_72 : decode cX10_letter 72 = .ok (.invokestatic 140, 3) := by decide +kernel
theorem dX10_letter_75 : decode cX10_letter 75 = .ok (.iload_n 3, 1) := by decide +kernel
theorem dX10_letter_76 : decode cX10_letter 76 = .ok (.invokestatic 144, 3) := by decide +kernel
theorem dX10_letter_79 : decode cX10_letter 79 = .ok (.goto 4, 3) := by decide +kernel
theorem dX10_letter_82 : decode cX10_letter 82 = .ok (.iconst (-1), 1) := by decide +kernel
theorem dX10_letter_83 : decode cX10_letter 83 = .ok (.ireturn, 1) := by decide +kernel
theorem dX10_letter_84 : decode cX10_letter 84 = .ok (.iload_n 2, 1) := by decide +kernel
theorem dX10_letter_85 : decode cX10_letter 85 = .ok (.aload 4, 2) := by decide +kernel
theorem dX10_letter_87 : decode cX10_letter 87 = .ok (.getfield 96, 3) := by decide +kernel
theorem dX10_letter_90 : decode cX10_letter 90 = .ok (.getfield 100, 3) := by decide +kernel
theorem dX10_letter_93 : decode cX10_letter 93 = .ok (.invokestatic 133, 3) := by decide +kernel
theorem dX10_letter_96 : decode cX10_letter 96 = .ok (.ifCond .eq 22, 3) := by decide +kernel
theorem dX10_letter_99 : decode cX10_letter 99 = .ok (.aload 4, 2) := by decide +kernel
theorem dX10_letter_101 : decode cX10_letter 101 = .ok (.getfield 96, 3) := by decide +kernel
theorem dX10_letter_104 : decode cX10_letter 104 = .ok (.getfield 148, 3) := by decide +kernel
theorem dX10_letter_107 : decode cX10_letter 107 = .ok (.iload_n 2, 1) := by decide +kernel
theorem dX10_letter_108 : decode cX10_letter 108 = .ok (.invokestatic 140, 3) := by decide +kernel
theorem dX10_letter_111 : decode cX10_letter 111 = .ok (.iload_n 3, 1) := by decide +kernel
theorem dX10_letter_112 : decode cX10_letter 112 = .ok (.invokestatic 144, 3) := by decide +kernel
theorem dX10_letter_115 : decode cX10_letter 115 = .ok (.goto 4, 3) := by decide +kernel
theorem dX10_letter_118 : decode cX10_letter 118 = .ok (.iconst (-1), 1) := by decide +kernel
theorem dX10_letter_119 : decode cX10_letter 119 = .ok (.ireturn, 1) := by decide +kernel
theorem dX10_letter_120 : decode cX10_letter 120 = .ok (.iload_n 2, 1) := by decide +kernel
theorem dX10_letter_121 : decode cX10_letter 121 = .ok (.aload 4, 2) := by decide +kernel
theorem dX10_letter_123 : decode cX10_letter 123 = .ok (.getfield 103, 3) := by decide +kernel
theorem dX10_letter_126 : decode cX10_letter 126 = .ok (.getfield 107, 3) := by decide +kernel
theorem dX10_letter_129 : decode cX10_letter 129 = .ok (.invokestatic 133, 3) := by decide +kernel
theorem dX10_letter_132 : decode cX10_letter 132 = .ok (.ifCond .eq 22, 3) := by decide +kernel
theorem dX10_letter_135 : decode cX10_letter 135 = .ok (.aload 4, 2) := by decide +kernel
theorem dX10_letter_137 : decode cX10_letter 137 = .ok (.getfield 103, 3) := by decide +kernel
theorem dX10_letter_140 : decode cX10_letter 140 = .ok (.getfield 149, 3) := by decide +kernel
theorem dX10_letter_143 : decode cX10_letter 143 = .ok (.iload_n 2, 1) := by decide +kernel
theorem dX10_letter_144 : decode cX10_letter 144 = .ok (.invokestatic 140, 3) := by decide +kernel
theorem dX10_letter_147 : decode cX10_letter 147 = .ok (.iload_n 3, 1) := by decide +kernel
theorem dX10_letter_148 : decode cX10_letter 148 = .ok (.invokestatic 144, 3) := by decide +kernel
theorem dX10_letter_151 : decode cX10_letter 151 = .ok (.goto 4, 3) := by decide +kernel
theorem dX10_letter_154 : decode cX10_letter 154 = .ok (.iconst (-1), 1) := by decide +kernel
theorem dX10_letter_155 : decode cX10_letter 155 = .ok (.ireturn, 1) := by decide +kernel
theorem dX10_letter_156 : decode cX10_letter 156 = .ok (.iconst (-1), 1) := by decide +kernel
theorem dX10_letter_157 : decode cX10_letter 157 = .ok (.ireturn, 1) := by decide +kernel
theorem dX10_person_0 : decode cX10_person 0 = .ok (.aload_n 0, 1) := by decide +kernel
theorem dX10_person_1 : decode cX10_person 1 = .ok (.getfield 35, 3) := by decide +kernel
theorem dX10_person_4 : decode cX10_person 4 = .ok (.getfield 84, 3) := by decide +kernel
theorem dX10_person_7 : decode cX10_person 7 = .ok (.astore_n 3, 1) := by decide +kernel
theorem dX10_person_8 : decode cX10_person 8 = .ok (.aload_n 3, 1) := by decide +kernel
theorem dX10_person_9 : decode cX10_person 9 = .ok (.iload_n 1, 1) := by decide +kernel
theorem dX10_person_10 : decode cX10_person 10 = .ok (.invokevirtual 150, 3) := by decide +kernel
theorem dX10_person_13 : decode cX10_person 13 = .ok (.ifCond .ne 5, 3) := by decide +kernel
theorem dX10_person_16 : decode cX10_person 16 = .ok (.iconst (-1), 1) := by decide +kernel
theorem dX10_person_17 : decode cX10_person 17 = .ok (.ireturn, 1) := by decide +kernel
theorem dX10_person_18 : decode cX10_person 18 = .ok (.iload_n 2, 1) := by decide +kernel
theorem dX10_person_19 : decode cX10_person 19 = .ok (.tableswitch 166 0 9 #[53, 65, 77, 89, 101, 107, 113, 125, 137, 149], 53) := by decide +kernel
theorem dX10_person_72 : decode cX10_person 72 = .ok (.aload_n 3, 1) := by decide +kernel
theorem dX10_person_73 : decode cX10_person 73 = .ok (.getfield 103, 3) := by decide +kernel
theorem dX10_person_76 : decode cX10_person 76 = .ok (.getfield 154, 3) := by decide +kernel
theorem dX10_person_79 : decode cX10_person 79 = .ok (.iload_n 1, 1) := by decide +kernel
theorem dX10_person_80 : decode cX10_person 80 = .ok (.invokestatic 140, 3) := by decide +kernel
theorem dX10_person_83 : decode cX10_person 83 = .ok (.ireturn, 1) := by decide +kernel
theorem dX10_person_84 : decode cX10_person 84 = .ok (.aload_n 3, 1) := by decide +kernel
theorem dX10_person_85 : decode cX10_person 85 = .ok (.getfield 103, 3) := by decide +kernel
theorem dX10_person_88 : decode cX10_person 88 = .ok (.getfield 157, 3) := by decide +kernel
theorem dX10_person_91 : decode cX10_person 91 = .ok (.iload_n 1, 1) := by decide +kernel
theorem dX10_person_92 : decode cX10_person 92 = .ok (.invokestatic 140, 3) := by decide +kernel
theorem dX10_person_95 : decode cX10_person 95 = .ok (.ireturn, 1) := by decide +kernel
theorem dX10_person_96 : decode cX10_person 96 = .ok (.aload_n 3, 1) := by decide +kernel
theorem dX10_person_97 : decode cX10_person 97 = .ok (.getfield 103, 3) := by decide +kernel
theorem dX10_person_100 : decode cX10_person 100 = .ok (.getfield 160, 3) := by decide +kernel
theorem dX10_person_103 : decode cX10_person 103 = .ok (.iload_n 1, 1) := by decide +kernel
theorem dX10_person_104 : decode cX10_person 104 = .ok (.invokestatic 140, 3) := by decide +kernel
theorem dX10_person_107 : decode cX10_person 107 = .ok (.ireturn, 1) := by decide +kernel
theorem dX10_person_108 : decode cX10_person 108 = .ok (.aload_n 3, 1) := by decide +kernel
theorem dX10_person_109 : decode cX10_person 109 = .ok (.getfield 103, 3) := by decide +kernel
theorem dX10_person_112 : decode cX10_person 112 = .ok (.getfield 163, 3) := by decide +kernel
theorem dX10_person_115 : decode cX10_person 115 = .ok (.iload_n 1, 1) := by decide +kernel
theorem dX10_person_116 : decode cX10_person 116 = .ok (.invokestatic 140, 3) := by decide +kernel
theorem dX10_person_119 : decode cX10_person 119 = .ok (.ireturn, 1) := by decide +kernel
theorem dX10_person_120 : decode cX10_person 120 = .ok (.aload_n 3, 1) := by decide +kernel
theorem dX10_person_121 : decode cX10_person 121 = .ok (.iload_n 1, 1) := by decide +kernel
theorem dX10_person_122 : decode cX10_person 122 = .ok (.invokevirtual 166, 3) := by decide +kernel
theorem dX10_person_125 : decode cX10_person 125 = .ok (.ireturn, 1) := by decide +kernel
theorem dX10_person_126 : decode cX10_person 126 = .ok (.aload_n 3, 1) := by decide +kernel
theorem dX10_person_127 : decode cX10_person 127 = .ok (.iload_n 1, 1) := by decide +kernel
theorem dX10_person_128 : decode cX10_person 128 = .ok (.invokevirtual 169, 3) := by decide +kernel
theorem dX10_person_131 : decode cX10_person 131 = .ok (.ireturn, 1) := by decide +kernel
theorem dX10_person_132 : decode cX10_person 132 = .ok (.aload_n 3, 1) := by decide +kernel
theorem dX10_person_133 : decode cX10_person 133 = .ok (.iload_n 1, 1) := by decide +kernel
theorem dX10_person_134 : decode cX10_person 134 = .ok (.invokevirtual 166, 3) := by decide +kernel
theorem dX10_person_137 : decode cX10_person 137 = .ok (.aload_n 3, 1) := by decide +kernel
theorem dX10_person_138 : decode cX10_person 138 = .ok (.iload_n 1, 1) := by decide +kernel
theorem dX10_person_139 : decode cX10_person 139 = .ok (.invokevirtual 169, 3) := by decide +kernel
theorem dX10_person_142 : decode cX10_person 142 = .ok (.isub, 1) := by decide +kernel
theorem dX10_person_143 : decode cX10_person 143 = .ok (.ireturn, 1) := by decide +kernel
theorem dX10_person_144 : decode cX10_person 144 = .ok (.aload_n 0, 1) := by decide +kernel
theorem dX10_person_145 : decode cX10_person 145 = .ok (.getfield 19, 3) := by decide +kernel
theorem dX10_person_148 : decode cX10_person 148 = .ok (.getfield 172, 3) := by decide +kernel
theorem dX10_person_151 : decode cX10_person 151 = .ok (.iload_n 1, 1) := by decide +kernel
theorem dX10_person_152 : decode cX10_person 152 = .ok (.invokestatic 140, 3) := by decide +kernel
theorem dX10_person_155 : decode cX10_person 155 = .ok (.ireturn, 1) := by decide +kernel
theorem dX10_person_156 : decode cX10_person 156 = .ok (.aload_n 0, 1) := by decide +kernel
theorem dX10_person_157 : decode cX10_person 157 = .ok (.getfield 19, 3) := by decide +kernel
theorem dX10_person_160 : decode cX10_person 160 = .ok (.getfield 175, 3) := by decide +kernel
theorem dX10_person_163 : decode cX10_person 163 = .ok (.iload_n 1, 1) := by decide +kernel
theorem dX10_person_164 : decode cX10_person 164 = .ok (.invokestatic 140, 3) := by decide +kernel
theorem dX10_person_167 : decode cX10_person 167 = .ok (.ireturn, 1) := by decide +kernel
theorem dX10_person_168 : decode cX10_person 168 = .ok (.aload_n 3, 1) := by decide +kernel
theorem dX10_person_169 : decode cX10_person 169 = .ok (.iload_n 1, 1) := by decide +kernel
theorem dX10_person_170 : decode cX10_person 170 = .ok (.aload_n 3, 1) := by decide +kernel
theorem dX10_person_171 : decode cX10_person 171 = .ok (.getfield 103, 3) := by decide +kernel
theorem dX10_person_174 : decode cX10_person 174 = .ok (.getfield 157, 3) := by decide +kernel
theorem dX10_person_177 : decode cX10_person 177 = .ok (.iload_n 1, 1) := by decide +kernel
theorem dX10_person_178 : decode cX10_person 178 = .ok (.invokestatic 140, 3) := by decide +kernel
theorem dX10_person_181 : decode cX10_person 181 = .ok (.invokevirtual 178, 3) := by decide +kernel
theorem dX10_person_184 : decode cX10_person 184 = .ok (.ireturn, 1) := by decide +kernel
theorem dX10_person_185 : decode cX10_person 185 = .ok (.iconst (-1), 1) := by decide +kernel
theorem dX10_person_186 : decode cX10_person 186 = .ok (.ireturn, 1) := by decide +kernel
theorem dX10_hat_0 : decode cX10_hat 0 = .ok (.aload_n 0, 1) := by decide +kernel
theorem dX10_hat_1 : decode cX10_hat 1 = .ok (.getfield 35, 3) := by decide +kernel
theorem dX10_hat_4 : decode cX10_hat 4 = .ok (.getfield 84, 3) := by decide +kernel
theorem dX10_hat_7 : decode cX10_hat 7 = .ok (.astore_n 3, 1) := by decide +kernel
theorem dX10_hat_8 : decode cX10_hat 8 = .ok (.iload_n 1, 1) := by decide +kernel
theorem dX10_hat_9 : decode cX10_hat 9 = .ok (.aload_n 3, 1) := by decide +kernel
theorem dX10_hat_10 : decode cX10_hat 10 = .ok (.getfield 96, 3) := by decide +kernel
theorem dX10_hat_13 : decode cX10_hat 13 = .ok (.getfield 100, 3) := by decide +kernel
theorem dX10_hat_16 : decode cX10_hat 16 = .ok (.invokestatic 133, 3) := by decide +kernel
theorem dX10_hat_19 : decode cX10_hat 19 = .ok (.ifCond .ne 5, 3) := by decide +kernel
theorem dX10_hat_22 : decode cX10_hat 22 = .ok (.iconst (-1), 1) := by decide +kernel
theorem dX10_hat_23 : decode cX10_hat 23 = .ok (.ireturn, 1) := by decide +kernel
theorem dX10_hat_24 : decode cX10_hat 24 = .ok (.iload_n 2, 1) := by decide +kernel
theorem dX10_hat_25 : decode cX10_hat 25 = .ok (.tableswitch 122 0 7 #[47, 59, 71, 83, 95, 104, 110, 116], 47) := by decide +kernel
theorem dX10_hat_72 : decode cX10_hat 72 = .ok (.aload_n 3, 1) := by decide +kernel
theorem dX10_hat_73 : decode cX10_hat 73 = .ok (.getfield 96, 3) := by decide +kernel
theorem dX10_hat_76 : decode cX10_hat 76 = .ok (.getfield 181, 3) := by decide +kernel
theorem dX10_hat_79 : decode cX10_hat 79 = .ok (.iload_n 1, 1) := by decide +kernel
theorem dX10_hat_80 : decode cX10_hat 80 = .ok (.invokestatic 140, 3) := by decide +kernel
theorem dX10_hat_83 : decode cX10_hat 83 = .ok (.ireturn, 1) := by decide +kernel
theorem dX10_hat_84 : decode cX10_hat 84 = .ok (.aload_n 3, 1) := by decide +kernel
theorem dX10_hat_85 : decode cX10_hat 85 = .ok (.getfield 96, 3) := by decide +kernel
theorem dX10_hat_88 : decode cX10_hat 88 = .ok (.getfield 184, 3) := by decide +kernel
theorem dX10_hat_91 : decode cX10_hat 91 = .ok (.iload_n 1, 1) := by decide +kernel
theorem dX10_hat_92 : decode cX10_hat 92 = .ok (.invokestatic 140, 3) := by decide +kernel
theorem dX10_hat_95 : decode cX10_hat 95 = .ok (.ireturn, 1) := by decide +kernel
theorem dX10_hat_96 : decode cX10_hat 96 = .ok (.aload_n 3, 1) := by decide +kernel
theorem dX10_hat_97 : decode cX10_hat 97 = .ok (.getfield 96, 3) := by decide +kernel
theorem dX10_hat_100 : decode cX10_hat 100 = .ok (.getfield 187, 3) := by decide +kernel
theorem dX10_hat_103 : decode cX10_hat 103 = .ok (.iload_n 1, 1) := by decide +kernel
theorem dX10_hat_104 : decode cX10_hat 104 = .ok (.invokestatic 140, 3) := by decide +kernel
theorem dX10_hat_107 : decode cX10_hat 107 = .ok (.ireturn, 1) := by decide +kernel
theorem dX10_hat_108 : decode cX10_hat 108 = .ok (.aload_n 3, 1) := by decide +kernel
theorem dX10_hat_109 : decode cX10_hat 109 = .ok (.getfield 96, 3) := by decide +kernel
theorem dX10_hat_112 : decode cX10_hat 112 = .ok (.getfield 190, 3) := by decide +kernel
theorem dX10_hat_115 : decode cX10_hat 115 = .ok (.iload_n 1, 1) := by decide +kernel
theorem dX10_hat_116 : decode cX10_hat 116 = .ok (.invokestatic 140, 3) := by decide +kernel
theorem dX10_hat_119 : decode cX10_hat 119 = .ok (.ireturn, 1) := by decide +kernel
theorem dX10_hat_120 : decode cX10_hat 120 = .ok (.aload_n 3, 1) := by decide +kernel
theorem dX10_hat_121 : decode cX10_hat 121 = .ok (.getfield 103, 3) := by decide +kernel
theorem dX10_hat_124 : decode cX10_hat 124 = .ok (.iload_n 1, 1) := by decide +kernel
theorem dX10_hat_125 : decode cX10_hat 125 = .ok (.invokevirtual 129, 3) := by decide +kernel
theorem dX10_hat_128 : decode cX10_hat 128 = .ok (.ireturn, 1) := by decide +kernel
theorem dX10_hat_129 : decode cX10_hat 129 = .ok (.aload_n 3, 1) := by decide +kernel
theorem dX10_hat_130 : decode cX10_hat 130 = .ok (.iload_n 1, 1) := by decide +kernel
theorem dX10_hat_131 : decode cX10_hat 131 = .ok (.invokevirtual 193, 3) := by decide +kernel
theorem dX10_hat_134 : decode cX10_hat 134 = .ok (.ireturn, 1) := by decide +kernel
theorem dX10_hat_135 : decode cX10_hat 135 = .ok (.aload_n 3, 1) := by decide +kernel
theorem dX10_hat_136 : decode cX10_hat 136 = .ok (.iload_n 1, 1) := by decide +kernel
theorem dX10_hat_137 : decode cX10_hat 137 = .ok (.invokevirtual 196, 3) := by decide +kernel
theorem dX10_hat_140 : decode cX10_hat 140 = .ok (.ireturn, 1) := by decide +kernel
theorem dX10_hat_141 : decode cX10_hat 141 = .ok (.aload_n 3, 1) := by decide +kernel
theorem dX10_hat_142 : decode cX10_hat 142 = .ok (.iload_n 1, 1) := by decide +kernel
theorem dX10_hat_143 : decode cX10_hat 143 = .ok (.invokevirtual 199, 3) := by decide +kernel
theorem dX10_hat_146 : decode cX10_hat 146 = .ok (.ireturn, 1) := by decide +kernel
theorem dX10_hat_147 : decode cX10_hat 147 = .ok (.iconst (-1), 1) := by decide +kernel
theorem dX10_hat_148 : decode cX10_hat 148 = .ok (.ireturn, 1) := by decide +kernel
theorem dX10_put_0 : decode cX10_put 0 = .ok (.aload_n 0, 1) := by decide +kernel
theorem dX10_put_1 : decode cX10_put 1 = .ok (.getfield 35, 3) := by decide +kernel
theorem dX10_put_4 : decode cX10_put 4 = .ok (.getfield 84, 3) := by decide +kernel
theorem dX10_put_7 : decode cX10_put 7 = .ok (.astore_n 3, 1) := by decide +kernel
theorem dX10_put_8 : decode cX10_put 8 = .ok (.aload_n 3, 1) := by decide +kernel
theorem dX10_put_9 : decode cX10_put 9 = .ok (.iload_n 1, 1) := by decide +kernel
theorem dX10_put_10 : decode cX10_put 10 = .ok (.invokevirtual 150, 3) := by decide +kernel
theorem dX10_put_13 : decode cX10_put 13 = .ok (.ifCond .eq 11, 3) := by decide +kernel
theorem dX10_put_16 : decode cX10_put 16 = .ok (.aload_n 3, 1) := by decide +kernel
theorem dX10_put_17 : decode cX10_put 17 = .ok (.iload_n 2, 1) := by decide +kernel
theorem dX10_put_18 : decode cX10_put 18 = .ok (.invokevirtual 202, 3) := by decide +kernel
theorem dX10_put_21 : decode cX10_put 21 = .ok (.ifCond .ne 5, 3) := by decide +kernel
theorem dX10_put_24 : decode cX10_put 24 = .ok (.iconst (-1), 1) := by decide +kernel
theorem dX10_put_25 : decode cX10_put 25 = .ok (.ireturn, 1) := by decide +kernel
theorem dX10_put_26 : decode cX10_put 26 = .ok (.aload_n 3, 1) := by decide +kernel
theorem dX10_put_27 : decode cX10_put 27 = .ok (.getfield 103, 3) := by decide +kernel
theorem dX10_put_30 : decode cX10_put 30 = .ok (.getfield 160, 3) := by decide +kernel
theorem dX10_put_33 : decode cX10_put 33 = .ok (.iload_n 1, 1) := by decide +kernel
theorem dX10_put_34 : decode cX10_put 34 = .ok (.invokestatic 140, 3) := by decide +kernel
theorem dX10_put_37 : decode cX10_put 37 = .ok (.istore 4, 2) := by decide +kernel
theorem dX10_put_39 : decode cX10_put 39 = .ok (.aload_n 3, 1) := by decide +kernel
theorem dX10_put_40 : decode cX10_put 40 = .ok (.getfield 103, 3) := by decide +kernel
theorem dX10_put_43 : decode cX10_put 43 = .ok (.getfield 160, 3) := by decide +kernel
theorem dX10_put_46 : decode cX10_put 46 = .ok (.iload_n 1, 1) := by decide +kernel
theorem dX10_put_47 : decode cX10_put 47 = .ok (.iload_n 2, 1) := by decide +kernel
theorem dX10_put_48 : decode cX10_put 48 = .ok (.invokestatic 205, 3) := by decide +kernel
theorem dX10_put_51 : decode cX10_put 51 = .ok (.iload 4, 2) := by decide +kernel
theorem dX10_put_53 : decode cX10_put 53 = .ok (.ireturn, 1) := by decide +kernel
theorem dX10_move_0 : decode cX10_move 0 = .ok (.aload_n 0, 1) := by decide +kernel
theorem dX10_move_1 : decode cX10_move 1 = .ok (.getfield 35, 3) := by decide +kernel
theorem dX10_move_4 : decode cX10_move 4 = .ok (.getfield 84, 3) := by decide +kernel
theorem dX10_move_7 : decode cX10_move 7 = .ok (.astore_n 3, 1) := by decide +kernel
theorem dX10_move_8 : decode cX10_move 8 = .ok (.aload_n 3, 1) := by decide +kernel
theorem dX10_move_9 : decode cX10_move 9 = .ok (.iload_n 1, 1) := by decide +kernel
theorem dX10_move_10 : decode cX10_move 10 = .ok (.invokevirtual 150, 3) := by decide +kernel
theorem dX10_move_13 : decode cX10_move 13 = .ok (.ifCond .eq 26, 3) := by decide +kernel
theorem dX10_move_16 : decode cX10_move 16 = .ok (.aload_n 3, 1) := by decide +kernel
theorem dX10_move_17 : decode cX10_move 17 = .ok (.iload_n 2, 1) := by decide +kernel
theorem dX10_move_18 : decode cX10_move 18 = .ok (.invokevirtual 209, 3) := by decide +kernel
theorem dX10_move_21 : decode cX10_move 21 = .ok (.ifCond .eq 18, 3) := by decide +kernel
theorem dX10_move_24 : decode cX10_move 24 = .ok (.aload_n 3, 1) := by decide +kernel
theorem dX10_move_25 : decode cX10_move 25 = .ok (.getfield 103, 3) := by decide +kernel
theorem dX10_move_28 : decode cX10_move 28 = .ok (.getfield 157, 3) := by decide +kernel
theorem dX10_move_31 : decode cX10_move 31 = .ok (.iload_n 1, 1) := by decide +kernel
theorem dX10_move_32 : decode cX10_move 32 = .ok (.invokestatic 140, 3) := by decide +kernel
theorem dX10_move_35 : decode cX10_move 35 = .ok (.iload_n 2, 1) := by decide +kernel
theorem dX10_move_36 : decode cX10_move 36 = .ok (.if_icmp .ne 5, 3) := by decide +kernel
theorem dX10_move_39 : decode cX10_move 39 = .ok (.iconst 0, 1) := by decide +kernel
theorem dX10_move_40 : decode cX10_move 40 = .ok (.ireturn, 1) := by decide +kernel
theorem dX10_move_41 : decode cX10_move 41 = .ok (.aload_n 3, 1) := by decide +kernel
theorem dX10_move_42 : decode cX10_move 42 = .ok (.getfield 103, 3) := by decide +kernel
theorem dX10_move_45 : decode cX10_move 45 = .ok (.getfield 157, 3) := by decide +kernel
theorem dX10_move_48 : decode cX10_move 48 = .ok (.iload_n 1, 1) := by decide +kernel
theorem dX10_move_49 : decode cX10_move 49 = .ok (.iload_n 2, 1) := by decide +kernel
theorem dX10_move_50 : decode cX10_move 50 = .ok (.invokestatic 205, 3) := by decide +kernel
theorem dX10_move_53 : decode cX10_move 53 = .ok (.iconst 1, 1) := by decide +kernel
theorem dX10_move_54 : decode cX10_move 54 = .ok (.ireturn, 1) := by decide +kernel
theorem dX10_keep_0 : decode cX10_keep 0 = .ok (.aload_n 0, 1) := by decide +kernel
theorem dX10_keep_1 : decode cX10_keep 1 = .ok (.getfield 35, 3) := by decide +kernel
theorem dX10_keep_4 : decode cX10_keep 4 = .ok (.getfield 84, 3) := by decide +kernel
theorem dX10_keep_7 : decode cX10_keep 7 = .ok (.getfield 96, 3) := by decide +kernel
theorem dX10_keep_10 : decode cX10_keep 10 = .ok (.astore_n 3, 1) := by decide +kernel
theorem dX10_keep_11 : decode cX10_keep 11 = .ok (.iload_n 1, 1) := by decide +kernel
theorem dX10_keep_12 : decode cX10_keep 12 = .ok (.aload_n 3, 1) := by decide +kernel
theorem dX10_keep_13 : decode cX10_keep 13 = .ok (.getfield 100, 3) := by decide +kernel
theorem dX10_keep_16 : decode cX10_keep 16 = .ok (.invokestatic 133, 3) := by decide +kernel
theorem dX10_keep_19 : decode cX10_keep 19 = .ok (.ifCond .eq 13, 3) := by decide +kernel
theorem dX10_keep_22 : decode cX10_keep 22 = .ok (.iload_n 2, 1) := by decide +kernel
theorem dX10_keep_23 : decode cX10_keep 23 = .ok (.ifCond .lt 9, 3) := by decide +kernel
theorem dX10_keep_26 : decode cX10_keep 26 = .ok (.iload_n 2, 1) := by decide +kernel
theorem dX10_keep_27 : decode cX10_keep 27 = .ok (.bipush 100, 2) := by decide +kernel
theorem dX10_keep_29 : decode cX10_keep 29 = .ok (.if_icmp .le 5, 3) := by decide +kernel
theorem dX10_keep_32 : decode cX10_keep 32 = .ok (.iconst (-1), 1) := by decide +kernel
theorem dX10_keep_33 : decode cX10_keep 33 = .ok (.ireturn, 1) := by decide +kernel
theorem dX10_keep_34 : decode cX10_keep 34 = .ok (.aload_n 3, 1) := by decide +kernel
theorem dX10_keep_35 : decode cX10_keep 35 = .ok (.getfield 181, 3) := by decide +kernel
theorem dX10_keep_38 : decode cX10_keep 38 = .ok (.iload_n 1, 1) := by decide +kernel
theorem dX10_keep_39 : decode cX10_keep 39 = .ok (.invokestatic 140, 3) := by decide +kernel
theorem dX10_keep_42 : decode cX10_keep 42 = .ok (.istore 4, 2) := by decide +kernel
theorem dX10_keep_44 : decode cX10_keep 44 = .ok (.aload_n 3, 1) := by decide +kernel
theorem dX10_keep_45 : decode cX10_keep 45 = .ok (.getfield 181, 3) := by decide +kernel
theorem dX10_keep_48 : decode cX10_keep 48 = .ok (.iload_n 1, 1) := by decide +kernel
theorem dX10_keep_49 : decode cX10_keep 49 = .ok (.iload_n 2, 1) := by decide +kernel
theorem dX10_keep_50 : decode cX10_keep 50 = .ok (.invokestatic 205, 3) := by decide +kernel
theorem dX10_keep_53 : decode cX10_keep 53 = .ok (.iload 4, 2) := by decide +kernel
theorem dX10_keep_55 : decode cX10_keep 55 = .ok (.ireturn, 1) := by decide +kernel
theorem dX10_worth_0 : decode cX10_worth 0 = .ok (.aload_n 0, 1) := by decide +kernel
theorem dX10_worth_1 : decode cX10_worth 1 = .ok (.getfield 35, 3) := by decide +kernel
theorem dX10_worth_4 : decode cX10_worth 4 = .ok (.getfield 84, 3) := by decide +kernel
theorem dX10_worth_7 : decode cX10_worth 7 = .ok (.astore_n 3, 1) := by decide +kernel
theorem dX10_worth_8 : decode cX10_worth 8 = .ok (.aload_n 3, 1) := by decide +kernel
theorem dX10_worth_9 : decode cX10_worth 9 = .ok (.iload_n 1, 1) := by decide +kernel
theorem dX10_worth_10 : decode cX10_worth 10 = .ok (.invokevirtual 150, 3) := by decide +kernel
theorem dX10_worth_13 : decode cX10_worth 13 = .ok (.ifCond .ne 6, 3) := by decide +kernel
theorem dX10_worth_16 : decode cX10_worth 16 = .ok (.ldc 212, 2) := by decide +kernel
theorem dX10_worth_18 : decode cX10_worth 18 = .ok (.ireturn, 1) := by decide +kernel
theorem dX10_worth_19 : decode cX10_worth 19 = .ok (.iload_n 2, 1) := by decide +kernel
theorem dX10_worth_20 : decode cX10_worth 20 = .ok (.iconst (-1), 1) := by decide +kernel
theorem dX10_worth_21 : decode cX10_worth 21 = .ok (.if_icmp .ne 9, 3) := by decide +kernel
theorem dX10_worth_24 : decode cX10_worth 24 = .ok (.aload_n 3, 1) := by decide +kernel
theorem dX10_worth_25 : decode cX10_worth 25 = .ok (.iload_n 1, 1) := by decide +kernel
theorem dX10_worth_26 : decode cX10_worth 26 = .ok (.invokevirtual 213, 3) := by decide +kernel
theorem dX10_worth_29 : decode cX10_worth 29 = .ok (.ireturn, 1) := by decide +kernel
theorem dX10_worth_30 : decode cX10_worth 30 = .ok (.aload_n 3, 1) := by decide +kernel
theorem dX10_worth_31 : decode cX10_worth 31 = .ok (.iload_n 2, 1) := by decide +kernel
theorem dX10_worth_32 : decode cX10_worth 32 = .ok (.invokevirtual 202, 3) := by decide +kernel
theorem dX10_worth_35 : decode cX10_worth 35 = .ok (.ifCond .eq 23, 3) := by decide +kernel
theorem dX10_worth_38 : decode cX10_worth 38 = .ok (.aload_n 3, 1) := by decide +kernel
theorem dX10_worth_39 : decode cX10_worth 39 = .ok (.iload_n 1, 1) := by decide +kernel
theorem dX10_worth_40 : decode cX10_worth 40 = .ok (.iload_n 2, 1) := by decide +kernel
theorem dX10_worth_41 : decode cX10_worth 41 = .ok (.aload_n 3, 1) := by decide +kernel
theorem dX10_worth_42 : decode cX10_worth 42 = .ok (.getfield 103, 3) := by decide +kernel
theorem dX10_worth_45 : decode cX10_worth 45 = .ok (.getfield 157, 3) := by decide +kernel
theorem dX10_worth_48 : decode cX10_worth 48 = .ok (.iload_n 1, 1) := by decide +kernel
theorem dX10_worth_49 : decode cX10_worth 49 = .ok (.invokestatic 140, 3) := by decide +kernel
theorem dX10_worth_52 : decode cX10_worth 52 = .ok (.invokevirtual 216, 3) := by decide +kernel
theorem dX10_worth_55 : decode cX10_worth 55 = .ok (.goto 5, 3) := by decide +kernel
theorem dX10_worth_58 : decode cX10_worth 58 = .ok (.ldc 212, 2) := by decide +kernel
theorem dX10_worth_60 : decode cX10_worth 60 = .ok (.ireturn, 1) := by decide +kernel
theorem dX10_all_0 : decode cX10_all 0 = .ok (.aload_n 0, 1) := by decide +kernel
theorem dX10_all_1 : decode cX10_all 1 = .ok (.getfield 35, 3) := by decide +kernel
theorem dX10_all_4 : decode cX10_all 4 = .ok (.getfield 84, 3) := by decide +kernel
theorem dX10_all_7 : decode cX10_all 7 = .ok (.invokevirtual 220, 3) := by decide +kernel
theorem dX10_all_10 : decode cX10_all 10 = .ok (.ireturn, 1) := by decide +kernel
theorem dX10_rest_0 : decode cX10_rest 0 = .ok (.iload_n 1, 1) := by decide +kernel
theorem dX10_rest_1 : decode cX10_rest 1 = .ok (.iconst 1, 1) := by decide +kernel
theorem dX10_rest_2 : decode cX10_rest 2 = .ok (.if_icmp .lt 9, 3) := by decide +kernel
theorem dX10_rest_5 : decode cX10_rest 5 = .ok (.iload_n 1, 1) := by decide +kernel
theorem dX10_rest_6 : decode cX10_rest 6 = .ok (.bipush 60, 2) := by decide +kernel
theorem dX10_rest_8 : decode cX10_rest 8 = .ok (.if_icmp .le 5, 3) := by decide +kernel
theorem dX10_rest_11 : decode cX10_rest 11 = .ok (.iconst (-1), 1) := by decide +kernel
theorem dX10_rest_12 : decode cX10_rest 12 = .ok (.ireturn, 1) := by decide +kernel
theorem dX10_rest_13 : decode cX10_rest 13 = .ok (.iconst 1, 1) := by decide +kernel
theorem dX10_rest_14 : decode cX10_rest 14 = .ok (.istore_n 2, 1) := by decide +kernel
theorem dX10_rest_15 : decode cX10_rest 15 = .ok (.iload_n 2, 1) := by decide +kernel
theorem dX10_rest_16 : decode cX10_rest 16 = .ok (.iload_n 1, 1) := by decide +kernel
theorem dX10_rest_17 : decode cX10_rest 17 = .ok (.if_icmp .gt 24, 3) := by decide +kernel
theorem dX10_rest_20 : decode cX10_rest 20 = .ok (.aload_n 0, 1) := by decide +kernel
theorem dX10_rest_21 : decode cX10_rest 21 = .ok (.getfield 35, 3) := by decide +kernel
theorem dX10_rest_24 : decode cX10_rest 24 = .ok (.getfield 84, 3) := by decide +kernel
theorem dX10_rest_27 : decode cX10_rest 27 = .ok (.invokevirtual 224, 3) := by decide +kernel
theorem dX10_rest_30 : decode cX10_rest 30 = .ok (.ifCond .ne 5, 3) := by decide +kernel
theorem dX10_rest_33 : decode cX10_rest 33 = .ok (.iload_n 2, 1) := by decide +kernel
theorem dX10_rest_34 : decode cX10_rest 34 = .ok (.ireturn, 1) := by decide +kernel
theorem dX10_rest_35 : decode cX10_rest 35 = .ok (.iinc 2 1, 3) := by decide +kernel
theorem dX10_rest_38 : decode cX10_rest 38 = .ok (.goto (-23), 3) := by decide +kernel
theorem dX10_rest_41 : decode cX10_rest 41 = .ok (.bipush (-2), 2) := by decide +kernel
theorem dX10_rest_43 : decode cX10_rest 43 = .ok (.ireturn, 1) := by decide +kernel
theorem dX10_proof_0 : decode cX10_proof 0 = .ok (.aload_n 0, 1) := by decide +kernel
theorem dX10_proof_1 : decode cX10_proof 1 = .ok (.getfield 35, 3) := by decide +kernel
theorem dX10_proof_4 : decode cX10_proof 4 = .ok (.getfield 84, 3) := by decide +kernel
theorem dX10_proof_7 : decode cX10_proof 7 = .ok (.astore_n 1, 1) := by decide +kernel
theorem dX10_proof_8 : decode cX10_proof 8 = .ok (.iconst 0, 1) := by decide +kernel
theorem dX10_proof_9 : decode cX10_proof 9 = .ok (.istore_n 2, 1) := by decide +kernel
theorem dX10_proof_10 : decode cX10_proof 10 = .ok (.iconst 0, 1) := by decide +kernel
theorem dX10_proof_11 : decode cX10_proof 11 = .ok (.istore_n 3, 1) := by decide +kernel
theorem dX10_proof_12 : decode cX10_proof 12 = .ok (.iload_n 3, 1) := by decide +kernel
theorem dX10_proof_13 : decode cX10_proof 13 = .ok (.aload_n 1, 1) := by decide +kernel
theorem dX10_proof_14 : decode cX10_proof 14 = .ok (.getfield 103, 3) := by decide +kernel
theorem dX10_proof_17 : decode cX10_proof 17 = .ok (.getfield 107, 3) := by decide +kernel
theorem dX10_proof_20 : decode cX10_proof 20 = .ok (.if_icmp .ge 51, 3) := by decide +kernel
theorem dX10_proof_23 : decode cX10_proof 23 = .ok (.aload_n 1, 1) := by decide +kernel
theorem dX10_proof_24 : decode cX10_proof 24 = .ok (.getfield 103, 3) := by decide +kernel
theorem dX10_proof_27 : decode cX10_proof 27 = .ok (.getfield 157, 3) := by decide +kernel
theorem dX10_proof_30 : decode cX10_proof 30 = .ok (.iload_n 3, 1) := by decide +kernel
theorem dX10_proof_31 : decode cX10_proof 31 = .ok (.invokestatic 140, 3) := by decide +kernel
theorem dX10_proof_34 : decode cX10_proof 34 = .ok (.istore 4, 2) := by decide +kernel
theorem dX10_proof_36 : decode cX10_proof 36 = .ok (.aload_n 1, 1) := by decide +kernel
theorem dX10_proof_37 : decode cX10_proof 37 = .ok (.iload_n 3, 1) := by decide +kernel
theorem dX10_proof_38 : decode cX10_proof 38 = .ok (.aload_n 1, 1) := by decide +kernel
theorem dX10_proof_39 : decode cX10_proof 39 = .ok (.iload_n 3, 1) := by decide +kernel
theorem dX10_proof_40 : decode cX10_proof 40 = .ok (.iload 4, 2) := by decide +kernel
theorem dX10_proof_42 : decode cX10_proof 42 = .ok (.invokevirtual 178, 3) := by decide +kernel
theorem dX10_proof_45 : decode cX10_proof 45 = .ok (.iload 4, 2) := by decide +kernel
theorem dX10_proof_47 : decode cX10_proof 47 = .ok (.invokevirtual 216, 3) := by decide +kernel
theorem dX10_proof_50 : decode cX10_proof 50 = .ok (.istore 5, 2) := by decide +kernel
theorem dX10_proof_52 : decode cX10_proof 52 = .ok (.iload_n 2, 1) := by decide +kernel
theorem dX10_proof_53 : decode cX10_proof 53 = .ok (.iload 5, 2) := by decide +kernel
theorem dX10_proof_55 : decode cX10_proof 55 = .ok (.aload_n 1, 1) := by decide +kernel
theorem dX10_proof_56 : decode cX10_proof 56 = .ok (.iload_n 3, 1) := by decide +kernel
theorem dX10_proof_57 : decode cX10_proof 57 = .ok (.invokevirtual 213, 3) := by decide +kernel
theorem dX10_proof_60 : decode cX10_proof 60 = .ok (.isub, 1) := by decide +kernel
theorem dX10_proof_61 : decode cX10_proof 61 = .ok (.invokestatic 227, 3) := by decide +kernel
theorem dX10_proof_64 : decode cX10_proof 64 = .ok (.istore_n 2, 1) := by decide +kernel
theorem dX10_proof_65 : decode cX10_proof 65 = .ok (.iinc 3 1, 3) := by decide +kernel
theorem dX10_proof_68 : decode cX10_proof 68 = .ok (.goto (-56), 3) := by decide +kernel
theorem dX10_proof_71 : decode cX10_proof 71 = .ok (.iload_n 2, 1) := by decide +kernel
theorem dX10_proof_72 : decode cX10_proof 72 = .ok (.ireturn, 1) := by decide +kernel
theorem dX10_part_0 : decode cX10_part 0 = .ok (.aload_n 0, 1) := by decide +kernel
theorem dX10_part_1 : decode cX10_part 1 = .ok (.getfield 35, 3) := by decide +kernel
theorem dX10_part_4 : decode cX10_part 4 = .ok (.getfield 84, 3) := by decide +kernel
theorem dX10_part_7 : decode cX10_part 7 = .ok (.astore_n 3, 1) := by decide +kernel
theorem dX10_part_8 : decode cX10_part 8 = .ok (.iload_n 1, 1) := by decide +kernel
