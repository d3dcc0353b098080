theorem dX7_tellRow_75 : decode cX7_tellRow 75 = .ok (.aload_n 0, 1) := by decide +kernel
theorem dX7_tellRow_76 : decode cX7_tellRow 76 = .ok (.getfield 110, 3) := by decide +kernel
theorem dX7_tellRow_79 : decode cX7_tellRow 79 = .ok (.iconst 3, 1) := by decide +kernel
theorem dX7_tellRow_80 : decode cX7_tellRow 80 = .ok (.iload_n 1, 1) := by decide +kernel
theorem dX7_tellRow_81 : decode cX7_tellRow 81 = .ok (.imul, 1) := by decide +kernel
theorem dX7_tellRow_82 : decode cX7_tellRow 82 = .ok (.iload_n 3, 1) := by decide +kernel
theorem dX7_tellRow_83 : decode cX7_tellRow 83 = .ok (.iadd, 1) := by decide +kernel
theorem dX7_tellRow_84 : decode cX7_tellRow 84 = .ok (.aload_n 0, 1) := by decide +kernel
theorem dX7_tellRow_85 : decode cX7_tellRow 85 = .ok (.aload_n 0, 1) := by decide +kernel
theorem dX7_tellRow_86 : decode cX7_tellRow 86 = .ok (.getfield 107, 3) := by decide +kernel
theorem dX7_tellRow_89 : decode cX7_tellRow 89 = .ok (.iload_n 3, 1) := by decide +kernel
theorem dX7_tellRow_90 : decode cX7_tellRow 90 = .ok (.iaload, 1) := by decide +kernel
theorem dX7_tellRow_91 : decode cX7_tellRow 91 = .ok (.invokevirtual 326, 3) := by decide +kernel
theorem dX7_tellRow_94 : decode cX7_tellRow 94 = .ok (.iastore, 1) := by decide +kernel
theorem dX7_tellRow_95 : decode cX7_tellRow 95 = .ok (.iinc 3 1, 3) := by decide +kernel
theorem dX7_tellRow_98 : decode cX7_tellRow 98 = .ok (.goto (-31), 3) := by decide +kernel
theorem dX7_tellRow_101 : decode cX7_tellRow 101 = .ok (.return_, 1) := by decide +kernel
theorem dX7_rests_0 : decode cX7_rests 0 = .ok (.iconst 0, 1) := by decide +kernel
theorem dX7_rests_1 : decode cX7_rests 1 = .ok (.istore_n 2, 1) := by decide +kernel
theorem dX7_rests_2 : decode cX7_rests 2 = .ok (.iload_n 2, 1) := by decide +kernel
theorem dX7_rests_3 : decode cX7_rests 3 = .ok (.aload_n 0, 1) := by decide +kernel
theorem dX7_rests_4 : decode cX7_rests 4 = .ok (.getfield 329, 3) := by decide +kernel
theorem dX7_rests_7 : decode cX7_rests 7 = .ok (.if_icmp .ge 95, 3) := by decide +kernel
theorem dX7_rests_10 : decode cX7_rests 10 = .ok (.aload_n 0, 1) := by decide +kernel
theorem dX7_rests_11 : decode cX7_rests 11 = .ok (.getfield 329, 3) := by decide +kernel
theorem dX7_rests_14 : decode cX7_rests 14 = .ok (.iconst 1, 1) := by decide +kernel
theorem dX7_rests_15 : decode cX7_rests 15 = .ok (.isub, 1) := by decide +kernel
theorem dX7_rests_16 : decode cX7_rests 16 = .ok (.iload_n 2, 1) := by decide +kernel
theorem dX7_rests_17 : decode cX7_rests 17 = .ok (.isub, 1) := by decide +kernel
theorem dX7_rests_18 : decode cX7_rests 18 = .ok (.invokestatic 332, 3) := by decide +kernel
theorem dX7_rests_21 : decode cX7_rests 21 = .ok (.istore_n 3, 1) := by decide +kernel
theorem dX7_rests_22 : decode cX7_rests 22 = .ok (.iload_n 1, 1) := by decide +kernel
theorem dX7_rests_23 : decode cX7_rests 23 = .ok (.iload_n 1, 1) := by decide +kernel
theorem dX7_rests_24 : decode cX7_rests 24 = .ok (.iload_n 3, 1) := by decide +kernel
theorem dX7_rests_25 : decode cX7_rests 25 = .ok (.idiv, 1) := by decide +kernel
theorem dX7_rests_26 : decode cX7_rests 26 = .ok (.bipush 9, 2) := by decide +kernel
theorem dX7_rests_28 : decode cX7_rests 28 = .ok (.irem, 1) := by decide +kernel
theorem dX7_rests_29 : decode cX7_rests 29 = .ok (.iload_n 3, 1) := by decide +kernel
theorem dX7_rests_30 : decode cX7_rests 30 = .ok (.imul, 1) := by decide +kernel
theorem dX7_rests_31 : decode cX7_rests 31 = .ok (.isub, 1) := by decide +kernel
theorem dX7_rests_32 : decode cX7_rests 32 = .ok (.istore 4, 2) := by decide +kernel
theorem dX7_rests_34 : decode cX7_rests 34 = .ok (.iconst 0, 1) := by decide +kernel
theorem dX7_rests_35 : decode cX7_rests 35 = .ok (.istore 5, 2) := by decide +kernel
theorem dX7_rests_37 : decode cX7_rests 37 = .ok (.iload 5, 2) := by decide +kernel
theorem dX7_rests_39 : decode cX7_rests 39 = .ok (.bipush 9, 2) := by decide +kernel
theorem dX7_rests_41 : decode cX7_rests 41 = .ok (.if_icmp .ge 55, 3) := by decide +kernel
theorem dX7_rests_44 : decode cX7_rests 44 = .ok (.aload_n 0, 1) := by decide +kernel
theorem dX7_rests_45 : decode cX7_rests 45 = .ok (.aload_n 0, 1) := by decide +kernel
theorem dX7_rests_46 : decode cX7_rests 46 = .ok (.getfield 107, 3) := by decide +kernel
theorem dX7_rests_49 : decode cX7_rests 49 = .ok (.iload_n 2, 1) := by decide +kernel
theorem dX7_rests_50 : decode cX7_rests 50 = .ok (.iaload, 1) := by decide +kernel
theorem dX7_rests_51 : decode cX7_rests 51 = .ok (.iload 5, 2) := by decide +kernel
theorem dX7_rests_53 : decode cX7_rests 53 = .ok (.invokevirtual 320, 3) := by decide +kernel
theorem dX7_rests_56 : decode cX7_rests 56 = .ok (.ifCond .eq 34, 3) := by decide +kernel
theorem dX7_rests_59 : decode cX7_rests 59 = .ok (.aload_n 0, 1) := by decide +kernel
theorem dX7_rests_60 : decode cX7_rests 60 = .ok (.getfield 110, 3) := by decide +kernel
theorem dX7_rests_63 : decode cX7_rests 63 = .ok (.iconst 3, 1) := by decide +kernel
theorem dX7_rests_64 : decode cX7_rests 64 = .ok (.iload 4, 2) := by decide +kernel
theorem dX7_rests_66 : decode cX7_rests 66 = .ok (.iload 5, 2) := by decide +kernel
theorem dX7_rests_68 : decode cX7_rests 68 = .ok (.iload_n 3, 1) := by decide +kernel
theorem dX7_rests_69 : decode cX7_rests 69 = .ok (.imul, 1) := by decide +kernel
theorem dX7_rests_70 : decode cX7_rests 70 = .ok (.iadd, 1) := by decide +kernel
theorem dX7_rests_71 : decode cX7_rests 71 = .ok (.imul, 1) := by decide +kernel
theorem dX7_rests_72 : decode cX7_rests 72 = .ok (.iload_n 2, 1) := by decide +kernel
theorem dX7_rests_73 : decode cX7_rests 73 = .ok (.iadd, 1) := by decide +kernel
theorem dX7_rests_74 : decode cX7_rests 74 = .ok (.iaload, 1) := by decide +kernel
theorem dX7_rests_75 : decode cX7_rests 75 = .ok (.aload_n 0, 1) := by decide +kernel
theorem dX7_rests_76 : decode cX7_rests 76 = .ok (.getfield 110, 3) := by decide +kernel
theorem dX7_rests_79 : decode cX7_rests 79 = .ok (.iconst 3, 1) := by decide +kernel
theorem dX7_rests_80 : decode cX7_rests 80 = .ok (.iload_n 1, 1) := by decide +kernel
theorem dX7_rests_81 : decode cX7_rests 81 = .ok (.imul, 1) := by decide +kernel
theorem dX7_rests_82 : decode cX7_rests 82 = .ok (.iload_n 2, 1) := by decide +kernel
theorem dX7_rests_83 : decode cX7_rests 83 = .ok (.iadd, 1) := by decide +kernel
theorem dX7_rests_84 : decode cX7_rests 84 = .ok (.iaload, 1) := by decide +kernel
theorem dX7_rests_85 : decode cX7_rests 85 = .ok (.if_icmp .ge 5, 3) := by decide +kernel
theorem dX7_rests_88 : decode cX7_rests 88 = .ok (.iconst 0, 1) := by decide +kernel
theorem dX7_rests_89 : decode cX7_rests 89 = .ok (.ireturn, 1) := by decide +kernel
theorem dX7_rests_90 : decode cX7_rests 90 = .ok (.iinc 5 1, 3) := by decide +kernel
theorem dX7_rests_93 : decode cX7_rests 93 = .ok (.goto (-56), 3) := by decide +kernel
theorem dX7_rests_96 : decode cX7_rests 96 = .ok (.iinc 2 1, 3) := by decide +kernel
theorem dX7_rests_99 : decode cX7_rests 99 = .ok (.goto (-97), 3) := by decide +kernel
theorem dX7_rests_102 : decode cX7_rests 102 = .ok (.iconst 1, 1) := by decide +kernel
theorem dX7_rests_103 : decode cX7_rests 103 = .ok (.ireturn, 1) := by decide +kernel
theorem dX7_mothers_0 : decode cX7_mothers 0 = .ok (.aload_n 0, 1) := by decide +kernel
theorem dX7_mothers_1 : decode cX7_mothers 1 = .ok (.iconst 0, 1) := by decide +kernel
theorem dX7_mothers_2 : decode cX7_mothers 2 = .ok (.putfield 131, 3) := by decide +kernel
theorem dX7_mothers_5 : decode cX7_mothers 5 = .ok (.iload_n 2, 1) := by decide +kernel
theorem dX7_mothers_6 : decode cX7_mothers 6 = .ok (.ifCond .lt 8, 3) := by decide +kernel
theorem dX7_mothers_9 : decode cX7_mothers 9 = .ok (.iload_n 2, 1) := by decide +kernel
theorem dX7_mothers_10 : decode cX7_mothers 10 = .ok (.iconst 1, 1) := by decide +kernel
theorem dX7_mothers_11 : decode cX7_mothers 11 = .ok (.if_icmp .le 9, 3) := by decide +kernel
theorem dX7_mothers_14 : decode cX7_mothers 14 = .ok (.aload_n 0, 1) := by decide +kernel
theorem dX7_mothers_15 : decode cX7_mothers 15 = .ok (.iconst 1, 1) := by decide +kernel
theorem dX7_mothers_16 : decode cX7_mothers 16 = .ok (.invokevirtual 235, 3) := by decide +kernel
theorem dX7_mothers_19 : decode cX7_mothers 19 = .ok (.ireturn, 1) := by decide +kernel
theorem dX7_mothers_20 : decode cX7_mothers 20 = .ok (.aload_n 0, 1) := by decide +kernel
theorem dX7_mothers_21 : decode cX7_mothers 21 = .ok (.iconst 0, 1) := by decide +kernel
theorem dX7_mothers_22 : decode cX7_mothers 22 = .ok (.putfield 329, 3) := by decide +kernel
theorem dX7_mothers_25 : decode cX7_mothers 25 = .ok (.iload_n 1, 1) := by decide +kernel
theorem dX7_mothers_26 : decode cX7_mothers 26 = .ok (.iconst 1, 1) := by decide +kernel
theorem dX7_mothers_27 : decode cX7_mothers 27 = .ok (.iconst 1, 1) := by decide +kernel
theorem dX7_mothers_28 : decode cX7_mothers 28 = .ok (.aload_n 0, 1) := by decide +kernel
theorem dX7_mothers_29 : decode cX7_mothers 29 = .ok (.getfield 43, 3) := by decide +kernel
theorem dX7_mothers_32 : decode cX7_mothers 32 = .ok (.iconst 1, 1) := by decide +kernel
theorem dX7_mothers_33 : decode cX7_mothers 33 = .ok (.iaload, 1) := by decide +kernel
theorem dX7_mothers_34 : decode cX7_mothers 34 = .ok (.ishl, 1) := by decide +kernel
theorem dX7_mothers_35 : decode cX7_mothers 35 = .ok (.iconst 1, 1) := by decide +kernel
theorem dX7_mothers_36 : decode cX7_mothers 36 = .ok (.isub, 1) := by decide +kernel
theorem dX7_mothers_37 : decode cX7_mothers 37 = .ok (.invokestatic 134, 3) := by decide +kernel
theorem dX7_mothers_40 : decode cX7_mothers 40 = .ok (.ifCond .eq 20, 3) := by decide +kernel
theorem dX7_mothers_43 : decode cX7_mothers 43 = .ok (.iload_n 1, 1) := by decide +kernel
theorem dX7_mothers_44 : decode cX7_mothers 44 = .ok (.aload_n 0, 1) := by decide +kernel
theorem dX7_mothers_45 : decode cX7_mothers 45 = .ok (.aload_n 0, 1) := by decide +kernel
theorem dX7_mothers_46 : decode cX7_mothers 46 = .ok (.getfield 77, 3) := by decide +kernel
theorem dX7_mothers_49 : decode cX7_mothers 49 = .ok (.invokevirtual 302, 3) := by decide +kernel
theorem dX7_mothers_52 : decode cX7_mothers 52 = .ok (.iand, 1) := by decide +kernel
theorem dX7_mothers_53 : decode cX7_mothers 53 = .ok (.ifCond .ne 7, 3) := by decide +kernel
theorem dX7_mothers_56 : decode cX7_mothers 56 = .ok (.iconst 1, 1) := by decide +kernel
theorem dX7_mothers_57 : decode cX7_mothers 57 = .ok (.goto 4, 3) := by decide +kernel
theorem dX7_mothers_60 : decode cX7_mothers 60 = .ok (.iconst 0, 1) := by decide +kernel
theorem dX7_mothers_61 : decode cX7_mothers 61 = .ok (.istore_n 3, 1) := by decide +kernel
theorem dX7_mothers_62 : decode cX7_mothers 62 = .ok (.iconst 0, 1) := by decide +kernel
theorem dX7_mothers_63 : decode cX7_mothers 63 = .ok (.istore 4, 2) := by decide +kernel
theorem dX7_mothers_65 : decode cX7_mothers 65 = .ok (.iload 4, 2) := by decide +kernel
theorem dX7_mothers_67 : decode cX7_mothers 67 = .ok (.aload_n 0, 1) := by decide +kernel
theorem dX7_mothers_68 : decode cX7_mothers 68 = .ok (.getfield 43, 3) := by decide +kernel
theorem dX7_mothers_71 : decode cX7_mothers 71 = .ok (.iconst 1, 1) := by decide +kernel
theorem dX7_mothers_72 : decode cX7_mothers 72 = .ok (.iaload, 1) := by decide +kernel
theorem dX7_mothers_73 : decode cX7_mothers 73 = .ok (.if_icmp .ge 67, 3) := by decide +kernel
theorem dX7_mothers_76 : decode cX7_mothers 76 = .ok (.iload_n 3, 1) := by decide +kernel
theorem dX7_mothers_77 : decode cX7_mothers 77 = .ok (.ifCond .eq 63, 3) := by decide +kernel
theorem dX7_mothers_80 : decode cX7_mothers 80 = .ok (.iload_n 1, 1) := by decide +kernel
theorem dX7_mothers_81 : decode cX7_mothers 81 = .ok (.iload 4, 2) := by decide +kernel
theorem dX7_mothers_83 : decode cX7_mothers 83 = .ok (.ishr, 1) := by decide +kernel
theorem dX7_mothers_84 : decode cX7_mothers 84 = .ok (.iconst 1, 1) := by decide +kernel
theorem dX7_mothers_85 : decode cX7_mothers 85 = .ok (.iand, 1) := by decide +kernel
theorem dX7_mothers_86 : decode cX7_mothers 86 = .ok (.ifCond .ne 6, 3) := by decide +kernel
theorem dX7_mothers_89 : decode cX7_mothers 89 = .ok (.goto 45, 3) := by decide +kernel
theorem dX7_mothers_92 : decode cX7_mothers 92 = .ok (.aload_n 0, 1) := by decide +kernel
theorem dX7_mothers_93 : decode cX7_mothers 93 = .ok (.getfield 329, 3) := by decide +kernel
theorem dX7_mothers_96 : decode cX7_mothers 96 = .ok (.iconst 3, 1) := by decide +kernel
theorem dX7_mothers_97 : decode cX7_mothers 97 = .ok (.if_icmp .ge 7, 3) := by decide +kernel
theorem dX7_mothers_100 : decode cX7_mothers 100 = .ok (.iconst 1, 1) := by decide +kernel
theorem dX7_mothers_101 : decode cX7_mothers 101 = .ok (.goto 4, 3) := by decide +kernel
theorem dX7_mothers_104 : decode cX7_mothers 104 = .ok (.iconst 0, 1) := by decide +kernel
theorem dX7_mothers_105 : decode cX7_mothers 105 = .ok (.istore_n 3, 1) := by decide +kernel
theorem dX7_mothers_106 : decode cX7_mothers 106 = .ok (.iload_n 3, 1) := by decide +kernel
theorem dX7_mothers_107 : decode cX7_mothers 107 = .ok (.ifCond .ne 6, 3) := by decide +kernel
theorem dX7_mothers_110 : decode cX7_mothers 110 = .ok (.goto 24, 3) := by decide +kernel
theorem dX7_mothers_113 : decode cX7_mothers 113 = .ok (.aload_n 0, 1) := by decide +kernel
theorem dX7_mothers_114 : decode cX7_mothers 114 = .ok (.getfield 107, 3) := by decide +kernel
theorem dX7_mothers_117 : decode cX7_mothers 117 = .ok (.aload_n 0, 1) := by decide +kernel
theorem dX7_mothers_118 : decode cX7_mothers 118 = .ok (.getfield 329, 3) := by decide +kernel
theorem dX7_mothers_121 : decode cX7_mothers 121 = .ok (.iload 4, 2) := by decide +kernel
theorem dX7_mothers_123 : decode cX7_mothers 123 = .ok (.iastore, 1) := by decide +kernel
theorem dX7_mothers_124 : decode cX7_mothers 124 = .ok (.aload_n 0, 1) := by decide +kernel
theorem dX7_mothers_125 : decode cX7_mothers 125 = .ok (.dup, 1) := by decide +kernel
theorem dX7_mothers_126 : decode cX7_mothers 126 = .ok (.getfield 329, 3) := by decide +kernel
theorem dX7_mothers_129 : decode cX7_mothers 129 = .ok (.iconst 1, 1) := by decide +kernel
theorem dX7_mothers_130 : decode cX7_mothers 130 = .ok (.iadd, 1) := by decide +kernel
theorem dX7_mothers_131 : decode cX7_mothers 131 = .ok (.putfield 329, 3) := by decide +kernel
theorem dX7_mothers_134 : decode cX7_mothers 134 = .ok (.iinc 4 1, 3) := by decide +kernel
theorem dX7_mothers_137 : decode cX7_mothers 137 = .ok (.goto (-72), 3) := by decide +kernel
theorem dX7_mothers_140 : decode cX7_mothers 140 = .ok (.iload_n 3, 1) := by decide +kernel
theorem dX7_mothers_141 : decode cX7_mothers 141 = .ok (.ifCond .ne 9, 3) := by decide +kernel
theorem dX7_mothers_144 : decode cX7_mothers 144 = .ok (.aload_n 0, 1) := by decide +kernel
theorem dX7_mothers_145 : decode cX7_mothers 145 = .ok (.iconst 2, 1) := by decide +kernel
theorem dX7_mothers_146 : decode cX7_mothers 146 = .ok (.invokevirtual 235, 3) := by decide +kernel
theorem dX7_mothers_149 : decode cX7_mothers 149 = .ok (.ireturn, 1) := by decide +kernel
theorem dX7_mothers_150 : decode cX7_mothers 150 = .ok (.aload_n 0, 1) := by decide +kernel
theorem dX7_mothers_151 : decode cX7_mothers 151 = .ok (.getfield 329, 3) := by decide +kernel
theorem dX7_mothers_154 : decode cX7_mothers 154 = .ok (.invokestatic 332, 3) := by decide +kernel
theorem dX7_mothers_157 : decode cX7_mothers 157 = .ok (.istore 4, 2) := by decide +kernel
theorem dX7_mothers_159 : decode cX7_mothers 159 = .ok (.iconst 0, 1) := by decide +kernel
theorem dX7_mothers_160 : decode cX7_mothers 160 = .ok (.istore 5, 2) := by decide +kernel
theorem dX7_mothers_162 : decode cX7_mothers 162 = .ok (.iload 5, 2) := by decide +kernel
theorem dX7_mothers_164 : decode cX7_mothers 164 = .ok (.iload 4, 2) := by decide +kernel
theorem dX7_mothers_166 : decode cX7_mothers 166 = .ok (.if_icmp .ge 24, 3) := by decide +kernel
theorem dX7_mothers_169 : decode cX7_mothers 169 = .ok (.aload_n 0, 1) := by decide +kernel
theorem dX7_mothers_170 : decode cX7_mothers 170 = .ok (.iload 5, 2) := by decide +kernel
theorem dX7_mothers_172 : decode cX7_mothers 172 = .ok (.invokevirtual 335, 3) := by decide +kernel
theorem dX7_mothers_175 : decode cX7_mothers 175 = .ok (.ifCond .eq 9, 3) := by decide +kernel
theorem dX7_mothers_178 : decode cX7_mothers 178 = .ok (.aload_n 0, 1) := by decide +kernel
theorem dX7_mothers_179 : decode cX7_mothers 179 = .ok (.iload 5, 2) := by decide +kernel
theorem dX7_mothers_181 : decode cX7_mothers 181 = .ok (.invokevirtual 338, 3) := by decide +kernel
theorem dX7_mothers_184 : decode cX7_mothers 184 = .ok (.iinc 5 1, 3) := by decide +kernel
theorem dX7_mothers_187 : decode cX7_mothers 187 = .ok (.goto (-25), 3) := by decide +kernel
theorem dX7_mothers_190 : decode cX7_mothers 190 = .ok (.iconst 0, 1) := by decide +kernel
theorem dX7_mothers_191 : decode cX7_mothers 191 = .ok (.istore 5, 2) := by decide +kernel
theorem dX7_mothers_193 : decode cX7_mothers 193 = .ok (.iconst (-1), 1) := by decide +kernel
theorem dX7_mothers_194 : decode cX7_mothers 194 = .ok (.istore 6, 2) := by decide +kernel
theorem dX7_mothers_196 : decode cX7_mothers 196 = .ok (.iconst 0, 1) := by decide +kernel
theorem dX7_mothers_197 : decode cX7_mothers 197 = .ok (.istore 7, 2) := by decide +kernel
theorem dX7_mothers_199 : decode cX7_mothers 199 = .ok (.iload 7, 2) := by decide +kernel
theorem dX7_mothers_201 : decode cX7_mothers 201 = .ok (.iload 4, 2) := by decide +kernel
theorem dX7_mothers_203 : decode cX7_mothers 203 = .ok (.if_icmp .ge 48, 3) := by decide +kernel
theorem dX7_mothers_206 : decode cX7_mothers 206 = .ok (.aload_n 0, 1) := by decide +kernel
theorem dX7_mothers_207 : decode cX7_mothers 207 = .ok (.iload 7, 2) := by decide +kernel
theorem dX7_mothers_209 : decode cX7_mothers 209 = .ok (.invokevirtual 335, 3) := by decide +kernel
theorem dX7_mothers_212 : decode cX7_mothers 212 = .ok (.ifCond .eq 33, 3) := by decide +kernel
theorem dX7_mothers_215 : decode cX7_mothers 215 = .ok (.aload_n 0, 1) := by decide +kernel
theorem dX7_mothers_216 : decode cX7_mothers 216 = .ok (.iload 7, 2) := by decide +kernel
theorem dX7_mothers_218 : decode cX7_mothers 218 = .ok (.invokevirtual 341, 3) := by decide +kernel
theorem dX7_mothers_221 : decode cX7_mothers 221 = .ok (.ifCond .ne 6, 3) := by decide +kernel
theorem dX7_mothers_224 : decode cX7_mothers 224 = .ok (.goto 21, 3) := by decide +kernel
theorem dX7_mothers_227 : decode cX7_mothers 227 = .ok (.iinc 5 1, 3) := by decide +kernel
theorem dX7_mothers_230 : decode cX7_mothers 230 = .ok (.iload 6, 2) := by decide +kernel
theorem dX7_mothers_232 : decode cX7_mothers 232 = .ok (.iconst (-1), 1) := by decide +kernel
theorem dX7_mothers_233 : decode cX7_mothers 233 = .ok (.if_icmp .ne 8, 3) := by decide +kernel
theorem dX7_mothers_236 : decode cX7_mothers 236 = .ok (.iload 7, 2) := by decide +kernel
theorem dX7_mothers_238 : decode cX7_mothers 238 = .ok (.goto 5, 3) := by decide +kernel
theorem dX7_mothers_241 : decode cX7_mothers 241 = .ok (.iload 6, 2) := by decide +kernel
theorem dX7_mothers_243 : decode cX7_mothers 243 = .ok (.istore 6, 2) := by decide +kernel
theorem dX7_mothers_245 : decode cX7_mothers 245 = .ok (.iinc 7 1, 3) := by decide +kernel
theorem dX7_mothers_248 : decode cX7_mothers 248 = .ok (.goto (-49), 3) := by decide +kernel
theorem dX7_mothers_251 : decode cX7_mothers 251 = .ok (.iload_n 2, 1) := by decide +kernel
theorem dX7_mothers_252 : decode cX7_mothers 252 = .ok (.ifCond .ne 8, 3) := by decide +kernel
theorem dX7_mothers_255 : decode cX7_mothers 255 = .ok (.iload 5, 2) := by decide +kernel
theorem dX7_mothers_257 : decode cX7_mothers 257 = .ok (.goto 19, 3) := by decide +kernel
theorem dX7_mothers_260 : decode cX7_mothers 260 = .ok (.iload 6, 2) := by decide +kernel
theorem dX7_mothers_262 : decode cX7_mothers 262 = .ok (.iconst (-1), 1) := by decide +kernel
theorem dX7_mothers_263 : decode cX7_mothers 263 = .ok (.if_icmp .ne 7, 3) := by decide +kernel
theorem dX7_mothers_266 : decode cX7_mothers 266 = .ok (.iconst (-1), 1) := by decide +kernel
theorem dX7_mothers_267 : decode cX7_mothers 267 = .ok (.goto 9, 3) := by decide +kernel
theorem dX7_mothers_270 : decode cX7_mothers 270 = .ok (.aload_n 0, 1) := by decide +kernel
theorem dX7_mothers_271 : decode cX7_mothers 271 = .ok (.iload 6, 2) := by decide +kernel
theorem dX7_mothers_273 : decode cX7_mothers 273 = .ok (.invokevirtual 344, 3) := by decide +kernel
theorem dX7_mothers_276 : decode cX7_mothers 276 = .ok (.ireturn, 1) := by decide +kernel
theorem dX7_byTens_0 : decode cX7_byTens 0 = .ok (.iconst 0, 1) := by decide +kernel
theorem dX7_byTens_1 : decode cX7_byTens 1 = .ok (.istore_n 2, 1) := by decide +kernel
theorem dX7_byTens_2 : decode cX7_byTens 2 = .ok (.iconst 0, 1) := by decide +kernel
theorem dX7_byTens_3 : decode cX7_byTens 3 = .ok (.istore_n 3, 1) := by decide +kernel
theorem dX7_byTens_4 : decode cX7_byTens 4 = .ok (.iload_n 3, 1) := by decide +kernel
theorem dX7_byTens_5 : decode cX7_byTens 5 = .ok (.aload_n 0, 1) := by decide +kernel
theorem dX7_byTens_6 : decode cX7_byTens 6 = .ok (.getfield 329, 3) := by decide +kernel
theorem dX7_byTens_9 : decode cX7_byTens 9 = .ok (.if_icmp .ge 31, 3) := by decide +kernel
theorem dX7_byTens_12 : decode cX7_byTens 12 = .ok (.bipush 10, 2) := by decide +kernel
theorem dX7_byTens_14 : decode cX7_byTens 14 = .ok (.iload_n 2, 1) := by decide +kernel
theorem dX7_byTens_15 : decode cX7_byTens 15 = .ok (.imul, 1) := by decide +kernel
theorem dX7_byTens_16 : decode cX7_byTens 16 = .ok (.iload_n 1, 1) := by decide +kernel
theorem dX7_byTens_17 : decode cX7_byTens 17 = .ok (.aload_n 0, 1) := by decide +kernel
theorem dX7_byTens_18 : decode cX7_byTens 18 = .ok (.getfield 329, 3) := by decide +kernel
theorem dX7_byTens_21 : decode cX7_byTens 21 = .ok (.iconst 1, 1) := by decide +kernel
theorem dX7_byTens_22 : decode cX7_byTens 22 = .ok (.isub, 1) := by decide +kernel
theorem dX7_byTens_23 : decode cX7_byTens 23 = .ok (.iload_n 3, 1) := by decide +kernel
theorem dX7_byTens_24 : decode cX7_byTens 24 = .ok (.isub, 1) := by decide +kernel
theorem dX7_byTens_25 : decode cX7_byTens 25 = .ok (.invokestatic 332, 3) := by decide +kernel
theorem dX7_byTens_28 : decode cX7_byTens 28 = .ok (.idiv, 1) := by decide +kernel
theorem dX7_byTens_29 : decode cX7_byTens 29 = .ok (.bipush 9, 2) := by decide +kernel
theorem dX7_byTens_31 : decode cX7_byTens 31 = .ok (.irem, 1) := by decide +kernel
theorem dX7_byTens_32 : decode cX7_byTens 32 = .ok (.iadd, 1) := by decide +kernel
theorem dX7_byTens_33 : decode cX7_byTens 33 = .ok (.istore_n 2, 1) := by decide +kernel
theorem dX7_byTens_34 : decode cX7_byTens 34 = .ok (.iinc 3 1, 3) := by decide +kernel
theorem dX7_byTens_37 : decode cX7_byTens 37 = .ok (.goto (-33), 3) := by decide +kernel
theorem dX7_byTens_40 : decode cX7_byTens 40 = .ok (.iload_n 2, 1) := by decide +kernel
theorem dX7_byTens_41 : decode cX7_byTens 41 = .ok (.ireturn, 1) := by decide +kernel
theorem dX7_movesTo_0 : decode cX7_movesTo 0 = .ok (.aload_n 0, 1) := by decide +kernel
theorem dX7_movesTo_1 : decode cX7_movesTo 1 = .ok (.aload_n 1, 1) := by decide +kernel
theorem dX7_movesTo_2 : decode cX7_movesTo 2 = .ok (.iload_n 2, 1) := by decide +kernel
theorem dX7_movesTo_3 : decode cX7_movesTo 3 = .ok (.iload_n 3, 1) := by decide +kernel
theorem dX7_movesTo_4 : decode cX7_movesTo 4 = .ok (.iload 4, 2) := by decide +kernel
theorem dX7_movesTo_6 : decode cX7_movesTo 6 = .ok (.iconst 0, 1) := by decide +kernel
theorem dX7_movesTo_7 : decode cX7_movesTo 7 = .ok (.invokevirtual 291, 3) := by decide +kernel
theorem dX7_movesTo_10 : decode cX7_movesTo 10 = .ok (.iconst 0, 1) := by decide +kernel
theorem dX7_movesTo_11 : decode cX7_movesTo 11 = .ok (.istore 7, 2) := by decide +kernel
theorem dX7_movesTo_13 : decode cX7_movesTo 13 = .ok (.iload 7, 2) := by decide +kernel
theorem dX7_movesTo_15 : decode cX7_movesTo 15 = .ok (.iconst 3, 1) := by decide +kernel
theorem dX7_movesTo_16 : decode cX7_movesTo 16 = .ok (.if_icmp .ge 33, 3) := by decide +kernel
theorem dX7_movesTo_19 : decode cX7_movesTo 19 = .ok (.aload_n 0, 1) := by decide +kernel
theorem dX7_movesTo_20 : decode cX7_movesTo 20 = .ok (.getfield 89, 3) := by decide +kernel
theorem dX7_movesTo_23 : decode cX7_movesTo 23 = .ok (.iload 7, 2) := by decide +kernel
theorem dX7_movesTo_25 : decode cX7_movesTo 25 = .ok (.iaload, 1) := by decide +kernel
theorem dX7_movesTo_26 : decode cX7_movesTo 26 = .ok (.aload 5, 2) := by decide +kernel
theorem dX7_movesTo_28 : decode cX7_movesTo 28 = .ok (.iload 6, 2) := by decide +kernel
theorem dX7_movesTo_30 : decode cX7_movesTo 30 = .ok (.iconst 3, 1) := by decide +kernel
theorem dX7_movesTo_31 : decode cX7_movesTo 31 = .ok (.iload_n 3, 1) := by decide +kernel
theorem dX7_movesTo_32 : decode cX7_movesTo 32 = .ok (.imul, 1) := by decide +kernel
theorem dX7_movesTo_33 : decode cX7_movesTo 33 = .ok (.iadd, 1) := by decide +kernel
theorem dX7_movesTo_34 : decode cX7_movesTo 34 = .ok (.iload 7, 2) := by decide +kernel
theorem dX7_movesTo_36 : decode cX7_movesTo 36 = .ok (.iadd, 1) := by decide +kernel
theorem dX7_movesTo_37 : decode cX7_movesTo 37 = .ok (.iaload, 1) := by decide +kernel
theorem dX7_movesTo_38 : decode cX7_movesTo 38 = .ok (.if_icmp .eq 5, 3) := by decide +kernel
theorem dX7_movesTo_41 : decode cX7_movesTo 41 = .ok (.iconst 0, 1) := by decide +kernel
theorem dX7_movesTo_42 : decode cX7_movesTo 42 = .ok (.ireturn, 1) := by decide +kernel
theorem dX7_movesTo_43 : decode cX7_movesTo 43 = .ok (.iinc 7 1, 3) := by decide +kernel
theorem dX7_movesTo_46 : decode cX7_movesTo 46 = .ok (.goto (-33), 3) := by decide +kernel
theorem dX7_movesTo_49 : decode cX7_movesTo 49 = .ok (.iconst 1, 1) := by decide +kernel
theorem dX7_movesTo_50 : decode cX7_movesTo 50 = .ok (.ireturn, 1) := by decide +kernel
theorem dX7_mayOf_0 : decode cX7_mayOf 0 = .ok (.iconst 0, 1) := by decide +kernel
theorem dX7_mayOf_1 : decode cX7_mayOf 1 = .ok (.istore_n 2, 1) := by decide +kernel
theorem dX7_mayOf_2 : decode cX7_mayOf 2 = .ok (.iconst 0, 1) := by decide +kernel
theorem dX7_mayOf_3 : decode cX7_mayOf 3 = .ok (.istore_n 3, 1) := by decide +kernel
theorem dX7_mayOf_4 : decode cX7_mayOf 4 = .ok (.iload_n 3, 1) := by decide +kernel
theorem dX7_mayOf_5 : decode cX7_mayOf 5 = .ok (.aload_n 0, 1) := by decide +kernel
theorem dX7_mayOf_6 : decode cX7_mayOf 6 = .ok (.getfield 43, 3) := by decide +kernel
theorem dX7_mayOf_9 : decode cX7_mayOf 9 = .ok (.iconst 1, 1) := by decide +kernel
theorem dX7_mayOf_10 : decode cX7_mayOf 10 = .ok (.iaload, 1) := by decide +kernel
theorem dX7_mayOf_11 : decode cX7_mayOf 11 = .ok (.if_icmp .gt 60, 3) := by decide +kernel
theorem dX7_mayOf_14 : decode cX7_mayOf 14 = .ok (.iload_n 3, 1) := by decide +kernel
theorem dX7_mayOf_15 : decode cX7_mayOf 15 = .ok (.aload_n 0, 1) := by decide +kernel
theorem dX7_mayOf_16 : decode cX7_mayOf 16 = .ok (.getfield 43, 3) := by decide +kernel
theorem dX7_mayOf_19 : decode cX7_mayOf 19 = .ok (.iconst 1, 1) := by decide +kernel
theorem dX7_mayOf_20 : decode cX7_mayOf 20 = .ok (.iaload, 1) := by decide +kernel
theorem dX7_mayOf_21 : decode cX7_mayOf 21 = .ok (.if_icmp .ne 7, 3) := by decide +kernel
theorem dX7_mayOf_24 : decode cX7_mayOf 24 = .ok (.iconst (-1), 1) := by decide +kernel
theorem dX7_mayOf_25 : decode cX7_mayOf 25 = .ok (.goto 4, 3) := by decide +kernel
theorem dX7_mayOf_28 : decode cX7_mayOf 28 = .ok (.iload_n 3, 1) := by decide +kernel
theorem dX7_mayOf_29 : decode cX7_mayOf 29 = .ok (.istore 4, 2) := by decide +kernel
theorem dX7_mayOf_31 : decode cX7_mayOf 31 = .ok (.iload 4, 2) := by decide +kernel
theorem dX7_mayOf_33 : decode cX7_mayOf 33 = .ok (.iload_n 1, 1) := by decide +kernel
theorem dX7_mayOf_34 : decode cX7_mayOf 34 = .ok (.if_icmp .eq 31, 3) := by decide +kernel
theorem dX7_mayOf_37 : decode cX7_mayOf 37 = .ok (.aload_n 0, 1) := by decide +kernel
theorem dX7_mayOf_38 : decode cX7_mayOf 38 = .ok (.iload_n 1, 1) := by decide +kernel
theorem dX7_mayOf_39 : decode cX7_mayOf 39 = .ok (.iload 4, 2) := by decide +kernel
theorem dX7_mayOf_41 : decode cX7_mayOf 41 = .ok (.invokevirtual 347, 3) := by decide +kernel
theorem dX7_mayOf_44 : decode cX7_mayOf 44 = .ok (.ifCond .eq 21, 3) := by decide +kernel
theorem dX7_mayOf_47 : decode cX7_mayOf 47 = .ok (.iload_n 2, 1) := by decide +kernel
theorem dX7_mayOf_48 : decode cX7_mayOf 48 = .ok (.iload 4, 2) := by decide +kernel
theorem dX7_mayOf_50 : decode cX7_mayOf 50 = .ok (.iconst (-1), 1) := by decide +kernel
theorem dX7_mayOf_51 : decode cX7_mayOf 51 = .ok (.if_icmp .ne 8, 3) := by decide +kernel
theorem dX7_mayOf_54 : decode cX7_mayOf 54 = .ok (.bipush 64, 2) := by decide +kernel
theorem dX7_mayOf_56 : decode cX7_mayOf 56 = .ok (.goto 7, 3) := by decide +kernel
theorem dX7_mayOf_59 : decode cX7_mayOf 59 = .ok (.iconst 1, 1) := by decide +kernel
theorem dX7_mayOf_60 : decode cX7_mayOf 60 = .ok (.iload 4, 2) := by decide +kernel
theorem dX7_mayOf_62 : decode cX7_mayOf 62 = .ok (.ishl, 1) := by decide +kernel
theorem dX7_mayOf_63 : decode cX7_mayOf 63 = .ok (.ior, 1) := by decide +kernel
theorem dX7_mayOf_64 : decode cX7_mayOf 64 = .ok (.istore_n 2, 1) := by decide +kernel
theorem dX7_mayOf_65 : decode cX7_mayOf 65 = .ok (.iinc 3 1, 3) := by decide +kernel
theorem dX7_mayOf_68 : decode cX7_mayOf 68 = .ok (.goto (-64), 3) := by decide +kernel
theorem dX7_mayOf_71 : decode cX7_mayOf 71 = .ok (.iload_n 2, 1) := by decide +kernel
theorem dX7_mayOf_72 : decode cX7_mayOf 72 = .ok (.ireturn, 1) := by decide +kernel
theorem dX7_fitsBook_0 : decode cX7_fitsBook 0 = .ok (.iconst 0, 1) := by decide +kernel
theorem dX7_fitsBook_1 : decode cX7_fitsBook 1 = .ok (.istore_n 3, 1) := by decide +kernel
theorem dX7_fitsBook_2 : decode cX7_fitsBook 2 = .ok (.iload_n 3, 1) := by decide +kernel
theorem dX7_fitsBook_3 : decode cX7_fitsBook 3 = .ok (.aload_n 0, 1) := by decide +kernel
theorem dX7_fitsBook_4 : decode cX7_fitsBook 4 = .ok (.getfield 248, 3) := by decide +kernel
theorem dX7_fitsBook_7 : decode cX7_fitsBook 7 = .ok (.if_icmp .ge 133, 3) := by decide +kernel
theorem dX7_fitsBook_10 : decode cX7_fitsBook 10 = .ok (.aload_n 0, 1) := by decide +kernel
theorem dX7_fitsBook_11 : decode cX7_fitsBook 11 = .ok (.getfield 98, 3) := by decide +kernel
theorem dX7_fitsBook_14 : decode cX7_fitsBook 14 = .ok (.iload_n 3, 1) := by decide +kernel
theorem dX7_fitsBook_15 : decode cX7_fitsBook 15 = .ok (.iaload, 1) := by decide +kernel
theorem dX7_fitsBook_16 : decode cX7_fitsBook 16 = .ok (.iload_n 1, 1) := by decide +kernel
theorem dX7_fitsBook_17 : decode cX7_fitsBook 17 = .ok (.ishr, 1) := by decide +kernel
theorem dX7_fitsBook_18 : decode cX7_fitsBook 18 = .ok (.iconst 1, 1) := by decide +kernel
theorem dX7_fitsBook_19 : decode cX7_fitsBook 19 = .ok (.iand, 1) := by decide +kernel
theorem dX7_fitsBook_20 : decode cX7_fitsBook 20 = .ok (.iconst 1, 1) := by decide +kernel
theorem dX7_fitsBook_21 : decode cX7_fitsBook 21 = .ok (.if_icmp .ne 6, 3) := by decide +kernel
theorem dX7_fitsBook_24 : decode cX7_fitsBook 24 = .ok (.goto 110, 3) := by decide +kernel
theorem dX7_fitsBook_27 : decode cX7_fitsBook 27 = .ok (.iconst 0, 1) := by decide +kernel
theorem dX7_fitsBook_28 : decode cX7_fitsBook 28 = .ok (.istore 4, 2) := by decide +kernel
theorem dX7_fitsBook_30 : decode cX7_fitsBook 30 = .ok (.iload 4, 2) := by decide +kernel
theorem dX7_fitsBook_32 : decode cX7_fitsBook 32 = .ok (.bipush 18, 2) := by decide +kernel
theorem dX7_fitsBook_34 : decode cX7_fitsBook 34 = .ok (.if_icmp .ge 28, 3) := by decide +kernel
theorem dX7_fitsBook_37 : decode cX7_fitsBook 37 = .ok (.aload_n 0, 1) := by decide +kernel
theorem dX7_fitsBook_38 : decode cX7_fitsBook 38 = .ok (.getfield 80, 3) := by decide +kernel
theorem dX7_fitsBook_41 : decode cX7_fitsBook 41 = .ok (.iload 4, 2) := by decide +kernel
theorem dX7_fitsBook_43 : decode cX7_fitsBook 43 = .ok (.aload_n 0, 1) := by decide +kernel
theorem dX7_fitsBook_44 : decode cX7_fitsBook 44 = .ok (.getfield 92, 3) := by decide +kernel
theorem dX7_fitsBook_47 : decode cX7_fitsBook 47 = .ok (.bipush 18, 2) := by decide +kernel
theorem dX7_fitsBook_49 : decode cX7_fitsBook 49 = .ok (.iload_n 3, 1) := by decide +kernel
theorem dX7_fitsBook_50 : decode cX7_fitsBook 50 = .ok (.imul, 1) := by decide +kernel
theorem dX7_fitsBook_51 : decode cX7_fitsBook 51 = .ok (.iload 4, 2) := by decide +kernel
theorem dX7_fitsBook_53 : decode cX7_fitsBook 53 = .ok (.iadd, 1) := by decide +kernel
theorem dX7_fitsBook_54 : decode cX7_fitsBook 54 = .ok (.iaload, 1) := by decide +kernel
theorem dX7_fitsBook_55 : decode cX7_fitsBook 55 = .ok (.iastore, 1) := by decide +kernel
theorem dX7_fitsBook_56 : decode cX7_fitsBook 56 = .ok (.iinc 4 1, 3) := by decide +kernel
theorem dX7_fitsBook_59 : decode cX7_fitsBook 59 = .ok (.goto (-29), 3) := by decide +kernel
theorem dX7_fitsBook_62 : decode cX7_fitsBook 62 = .ok (.iconst 0, 1) := by decide +kernel
theorem dX7_fitsBook_63 : decode cX7_fitsBook 63 = .ok (.istore 4, 2) := by decide +kernel
theorem dX7_fitsBook_65 : decode cX7_fitsBook 65 = .ok (.iload 4, 2) := by decide +kernel
theorem dX7_fitsBook_67 : decode cX7_fitsBook 67 = .ok (.bipush 6, 2) := by decide +kernel
theorem dX7_fitsBook_69 : decode cX7_fitsBook 69 = .ok (.if_icmp .ge 39, 3) := by decide +kernel
theorem dX7_fitsBook_72 : decode cX7_fitsBook 72 = .ok (.aload_n 0, 1) := by decide +kernel
theorem dX7_fitsBook_73 : decode cX7_fitsBook 73 = .ok (.getfield 80, 3) := by decide +kernel
theorem dX7_fitsBook_76 : decode cX7_fitsBook 76 = .ok (.bipush 18, 2) := by decide +kernel
theorem dX7_fitsBook_78 : decode cX7_fitsBook 78 = .ok (.iload 4, 2) := by decide +kernel
theorem dX7_fitsBook_80 : decode cX7_fitsBook 80 = .ok (.iadd, 1) := by decide +kernel
theorem dX7_fitsBook_81 : decode cX7_fitsBook 81 = .ok (.aload_n 0, 1) := by decide +kernel
theorem dX7_fitsBook_82 : decode cX7_fitsBook 82 = .ok (.getfield 98, 3) := by decide +kernel
theorem dX7_fitsBook_85 : decode cX7_fitsBook 85 = .ok (.iload_n 3, 1) := by decide +kernel
theorem dX7_fitsBook_86 : decode cX7_fitsBook 86 = .ok (.iaload, 1) := by decide +kernel
theorem dX7_fitsBook_87 : decode cX7_fitsBook 87 = .ok (.iload 4, 2) := by decide +kernel
theorem dX7_fitsBook_89 : decode cX7_fitsBook 89 = .ok (.ishr, 1) := by decide +kernel
theorem dX7_fitsBook_90 : decode cX7_fitsBook 90 = .ok (.iconst 1, 1) := by decide +kernel
theorem dX7_fitsBook_91 : decode cX7_fitsBook 91 = .ok (.iand, 1) := by decide +kernel
theorem dX7_fitsBook_92 : decode cX7_fitsBook 92 = .ok (.iconst 1, 1) := by decide +kernel
theorem dX7_fitsBook_93 : decode cX7_fitsBook 93 = .ok (.if_icmp .ne 7, 3) := by decide +kernel
theorem dX7_fitsBook_96 : decode cX7_fitsBook 96 = .ok (.iconst 0, 1) := by decide +kernel
theorem dX7_fitsBook_97 : decode cX7_fitsBook 97 = .ok (.goto 4, 3) := by decide +kernel
theorem dX7_fitsBook_100 : decode cX7_fitsBook 100 = .ok (.iconst (-1), 1) := by decide +kernel
theorem dX7_fitsBook_101 : decode cX7_fitsBook 101 = .ok (.iastore, 1) := by decide +kernel
theorem dX7_fitsBook_102 : decode cX7_fitsBook 102 = .ok (.iinc 4 1, 3) := by decide +kernel
theorem dX7_fitsBook_105 : decode cX7_fitsBook 105 = .ok (.goto (-40), 3) := by decide +kernel
theorem dX7_fitsBook_108 : decode cX7_fitsBook 108 = .ok (.aload_n 0, 1) := by decide +kernel
theorem dX7_fitsBook_109 : decode cX7_fitsBook 109 = .ok (.aload_n 0, 1) := by decide +kernel
theorem dX7_fitsBook_110 : decode cX7_fitsBook 110 = .ok (.getfield 80, 3) := by decide +kernel
theorem dX7_fitsBook_113 : decode cX7_fitsBook 113 = .ok (.iload_n 3, 1) := by decide +kernel
theorem dX7_fitsBook_114 : decode cX7_fitsBook 114 = .ok (.iload_n 1, 1) := by decide +kernel
theorem dX7_fitsBook_115 : decode cX7_fitsBook 115 = .ok (.iload_n 2, 1) := by decide +kernel
theorem dX7_fitsBook_116 : decode cX7_fitsBook 116 = .ok (.aload_n 0, 1) := by decide +kernel
theorem dX7_fitsBook_117 : decode cX7_fitsBook 117 = .ok (.getfield 95, 3) := by decide +kernel
theorem dX7_fitsBook_120 : decode cX7_fitsBook 120 = .ok (.bipush 18, 2) := by decide +kernel
theorem dX7_fitsBook_122 : decode cX7_fitsBook 122 = .ok (.iload_n 3, 1) := by decide +kernel
theorem dX7_fitsBook_123 : decode cX7_fitsBook 123 = .ok (.iconst 1, 1) := by decide +kernel
theorem dX7_fitsBook_124 : decode cX7_fitsBook 124 = .ok (.iadd, 1) := by decide +kernel
theorem dX7_fitsBook_125 : decode cX7_fitsBook 125 = .ok (.imul, 1) := by decide +kernel
theorem dX7_fitsBook_126 : decode cX7_fitsBook 126 = .ok (.invokevirtual 350, 3) := by decide +kernel
theorem dX7_fitsBook_129 : decode cX7_fitsBook 129 = .ok (.ifCond .ne 5, 3) := by decide +kernel
theorem dX7_fitsBook_132 : decode cX7_fitsBook 132 = .ok (.iconst 0, 1) := by decide +kernel
theorem dX7_fitsBook_133 : decode cX7_fitsBook 133 = .ok (.ireturn, 1) := by decide +kernel
theorem dX7_fitsBook_134 : decode cX7_fitsBook 134 = .ok (.iinc 3 1, 3) := by decide +kernel
theorem dX7_fitsBook_137 : decode cX7_fitsBook 137 = .ok (.goto (-135), 3) := by decide +kernel
theorem dX7_fitsBook_140 : decode cX7_fitsBook 140 = .ok (.iconst 1, 1) := by decide +kernel
theorem dX7_fitsBook_141 : decode cX7_fitsBook 141 = .ok (.ireturn, 1) := by decide +kernel
theorem dX7_may_0 : decode cX7_may 0 = .ok (.aload_n 0, 1) := by decide +kernel
theorem dX7_may_1 : decode cX7_may 1 = .ok (.iconst 0, 1) := by decide +kernel
theorem dX7_may_2 : decode cX7_may 2 = .ok (.putfield 131, 3) := by decide +kernel
theorem dX7_may_5 : decode cX7_may 5 = .ok (.aload_n 0, 1) := by decide +kernel
theorem dX7_may_6 : decode cX7_may 6 = .ok (.iload_n 1, 1) := by decide +kernel
theorem dX7_may_7 : decode cX7_may 7 = .ok (.invokevirtual 299, 3) := by decide +kernel
theorem dX7_may_10 : decode cX7_may 10 = .ok (.ifCond .eq 11, 3) := by decide +kernel
theorem dX7_may_13 : decode cX7_may 13 = .ok (.aload_n 0, 1) := by decide +kernel
theorem dX7_may_14 : decode cX7_may 14 = .ok (.iload_n 1, 1) := by decide +kernel
theorem dX7_may_15 : decode cX7_may 15 = .ok (.invokevirtual 354, 3) := by decide +kernel
theorem dX7_may_18 : decode cX7_may 18 = .ok (.goto 8, 3) := by decide +kernel
theorem dX7_may_21 : decode cX7_may 21 = .ok (.aload_n 0, 1) := by decide +kernel
theorem dX7_may_22 : decode cX7_may 22 = .ok (.iconst 1, 1) := by decide +kernel
theorem dX7_may_23 : decode cX7_may 23 = .ok (.invokevirtual 235, 3) := by decide +kernel
theorem dX7_may_26 : decode cX7_may 26 = .ok (.ireturn, 1) := by decide +kernel
theorem dX7_leftBy_0 : decode cX7_leftBy 0 = .ok (.iconst 0, 1) := by decide +kernel
theorem dX7_leftBy_1 : decode cX7_leftBy 1 = .ok (.istore 4, 2) := by decide +kernel
theorem dX7_leftBy_3 : decode cX7_leftBy 3 = .ok (.iconst 0, 1) := by decide +kernel
theorem dX7_leftBy_4 : decode cX7_leftBy 4 = .ok (.istore 5, 2) := by decide +kernel
theorem dX7_leftBy_6 : decode cX7_leftBy 6 = .ok (.iload 5, 2) := by decide +kernel
theorem dX7_leftBy_8 : decode cX7_leftBy 8 = .ok (.aload_n 0, 1) := by decide +kernel
theorem dX7_leftBy_9 : decode cX7_leftBy 9 = .ok (.getfield 43, 3) := by decide +kernel
theorem dX7_leftBy_12 : decode cX7_leftBy 12 = .ok (.iconst 1, 1) := by decide +kernel
theorem dX7_leftBy_13 : decode cX7_leftBy 13 = .ok (.iaload, 1) := by decide +kernel
theorem dX7_leftBy_14 : decode cX7_leftBy 14 = .ok (.if_icmp .gt 95, 3) := by decide +kernel
theorem dX7_leftBy_17 : decode cX7_leftBy 17 = .ok (.iload_n 3, 1) := by decide +kernel
theorem dX7_leftBy_18 : decode cX7_leftBy 18 = .ok (.iload 5, 2) := by decide +kernel
theorem dX7_leftBy_20 : decode cX7_leftBy 20 = .ok (.aload_n 0, 1) := by decide +kernel
theorem dX7_leftBy_21 : decode cX7_leftBy 21 = .ok (.getfield 43, 3) := by decide +kernel
theorem dX7_leftBy_24 : decode cX7_leftBy 24 = .ok (.iconst 1, 1) := by decide +kernel
theorem dX7_leftBy_25 : decode cX7_leftBy 25 = .ok (.iaload, 1) := by decide +kernel
theorem dX7_leftBy_26 : decode cX7_leftBy 26 = .ok (.if_icmp .ne 8, 3) := by decide +kernel
theorem dX7_leftBy_29 : decode cX7_leftBy 29 = .ok (.bipush 64, 2) := by decide +kernel
theorem dX7_leftBy_31 : decode cX7_leftBy 31 = .ok (.goto 7, 3) := by decide +kernel
theorem dX7_leftBy_34 : decode cX7_leftBy 34 = .ok (.iconst 1, 1) := by decide +kernel
theorem dX7_leftBy_35 : decode cX7_leftBy 35 = .ok (.iload 5, 2) := by decide +kernel
theorem dX7_leftBy_37 : decode cX7_leftBy 37 = .ok (.ishl, 1) := by decide +kernel
theorem dX7_leftBy_38 : decode cX7_leftBy 38 = .ok (.iand, 1) := by decide +kernel
theorem dX7_leftBy_39 : decode cX7_leftBy 39 = .ok (.ifCond .eq 7, 3) := by decide +kernel
theorem dX7_leftBy_42 : decode cX7_leftBy 42 = .ok (.iconst 1, 1) := by decide +kernel
theorem dX7_leftBy_43 : decode cX7_leftBy 43 = .ok (.goto 4, 3) := by decide +kernel
theorem dX7_leftBy_46 : decode cX7_leftBy 46 = .ok (.iconst 0, 1) := by decide +kernel
theorem dX7_leftBy_47 : decode cX7_leftBy 47 = .ok (.istore 6, 2) := by decide +kernel
theorem dX7_leftBy_49 : decode cX7_leftBy 49 = .ok (.iload 6, 2) := by decide +kernel
theorem dX7_leftBy_51 : decode cX7_leftBy 51 = .ok (.ifCond .eq 52, 3) := by decide +kernel
theorem dX7_leftBy_54 : decode cX7_leftBy 54 = .ok (.aload_n 0, 1) := by decide +kernel
theorem dX7_leftBy_55 : decode cX7_leftBy 55 = .ok (.getfield 113, 3) := by decide +kernel
theorem dX7_leftBy_58 : decode cX7_leftBy 58 = .ok (.iload_n 2, 1) := by decide +kernel
theorem dX7_leftBy_59 : decode cX7_leftBy 59 = .ok (.invokestatic 261, 3) := by decide +kernel
theorem dX7_leftBy_62 : decode cX7_leftBy 62 = .ok (.ifCond .ne 38, 3) := by decide +kernel
theorem dX7_leftBy_65 : decode cX7_leftBy 65 = .ok (.aload_n 0, 1) := by decide +kernel
theorem dX7_leftBy_66 : decode cX7_leftBy 66 = .ok (.aload_n 0, 1) := by decide +kernel
theorem dX7_leftBy_67 : decode cX7_leftBy 67 = .ok (.getfield 113, 3) := by decide +kernel
theorem dX7_leftBy_70 : decode cX7_leftBy 70 = .ok (.iload_n 1, 1) := by decide +kernel
theorem dX7_leftBy_71 : decode cX7_leftBy 71 = .ok (.iload_n 2, 1) := by decide +kernel
theorem dX7_leftBy_72 : decode cX7_leftBy 72 = .ok (.iload 5, 2) := by decide +kernel
theorem dX7_leftBy_74 : decode cX7_leftBy 74 = .ok (.aload_n 0, 1) := by decide +kernel
theorem dX7_leftBy_75 : decode cX7_leftBy 75 = .ok (.getfield 43, 3) := by decide +kernel
theorem dX7_leftBy_78 : decode cX7_leftBy 78 = .ok (.iconst 1, 1) := by decide +kernel
theorem dX7_leftBy_79 : decode cX7_leftBy 79 = .ok (.iaload, 1) := by decide +kernel
theorem dX7_leftBy_80 : decode cX7_leftBy 80 = .ok (.if_icmp .ne 7, 3) := by decide +kernel
theorem dX7_leftBy_83 : decode cX7_leftBy 83 = .ok (.iconst (-1), 1) := by decide +kernel
theorem dX7_leftBy_84 : decode cX7_leftBy 84 = .ok (.goto 5, 3) := by decide +kernel
theorem dX7_leftBy_87 : decode cX7_leftBy 87 = .ok (.iload 5, 2) := by decide +kernel
theorem dX7_leftBy_89 : decode cX7_leftBy 89 = .ok (.aload_n 0, 1) := by decide +kernel
theorem dX7_leftBy_90 : decode cX7_leftBy 90 = .ok (.getfield 80, 3) := by decide +kernel
theorem dX7_leftBy_93 : decode cX7_leftBy 93 = .ok (.iconst 0, 1) := by decide +kernel
theorem dX7_leftBy_94 : decode cX7_leftBy 94 = .ok (.invokevirtual 350, 3) := by decide +kernel
theorem dX7_leftBy_97 : decode cX7_leftBy 97 = .ok (.ifCond .eq 6, 3) := by decide +kernel
theorem dX7_leftBy_100 : decode cX7_leftBy 100 = .ok (.iinc 4 1, 3) := by decide +kernel
theorem dX7_leftBy_103 : decode cX7_leftBy 103 = .ok (.iinc 5 1, 3) := by decide +kernel
theorem dX7_leftBy_106 : decode cX7_leftBy 106 = .ok (.goto (-100), 3) := by decide +kernel
theorem dX7_leftBy_109 : decode cX7_leftBy 109 = .ok (.iload 4, 2) := by decide +kernel
theorem dX7_leftBy_111 : decode cX7_leftBy 111 = .ok (.ireturn, 1) := by decide +kernel
theorem dX7_tells_0 : decode cX7_tells 0 = .ok (.aload_n 0, 1) := by decide +kernel
theorem dX7_tells_1 : decode cX7_tells 1 = .ok (.iconst 0, 1) := by decide +kernel
theorem dX7_tells_2 : decode cX7_tells 2 = .ok (.putfield 131, 3) := by decide +kernel
theorem dX7_tells_5 : decode cX7_tells 5 = .ok (.aload_n 0, 1) := by decide +kernel
theorem dX7_tells_6 : decode cX7_tells 6 = .ok (.iload_n 1, 1) := by decide +kernel
theorem dX7_tells_7 : decode cX7_tells 7 = .ok (.invokevirtual 299, 3) := by decide +kernel
theorem dX7_tells_10 : decode cX7_tells 10 = .ok (.ifCond .eq 12, 3) := by decide +kernel
theorem dX7_tells_13 : decode cX7_tells 13 = .ok (.iload_n 2, 1) := by decide +kernel
theorem dX7_tells_14 : decode cX7_tells 14 = .ok (.ifCond .lt 8, 3) := by decide +kernel
theorem dX7_tells_17 : decode cX7_tells 17 = .ok (.iload_n 2, 1) := by decide +kernel
theorem dX7_tells_18 : decode cX7_tells 18 = .ok (.iconst 1, 1) := by decide +kernel
theorem dX7_tells_19 : decode cX7_tells 19 = .ok (.if_icmp .le 9, 3) := by decide +kernel
theorem dX7_tells_22 : decode cX7_tells 22 = .ok (.aload_n 0, 1) := by decide +kernel
theorem dX7_tells_23 : decode cX7_tells 23 = .ok (.iconst 1, 1) := by decide +kernel
theorem dX7_tells_24 : decode cX7_tells 24 = .ok (.invokevirtual 235, 3) := by decide +kernel
theorem dX7_tells_27 : decode cX7_tells 27 = .ok (.ireturn, 1) := by decide +kernel
theorem dX7_tells_28 : decode cX7_tells 28 = .ok (.aload_n 0, 1) := by decide +kernel
theorem dX7_tells_29 : decode cX7_tells 29 = .ok (.iload_n 1, 1) := by decide +kernel
theorem dX7_tells_30 : decode cX7_tells 30 = .ok (.invokevirtual 354, 3) := by decide +kernel
theorem dX7_tells_33 : decode cX7_tells 33 = .ok (.istore_n 3, 1) := by decide +kernel
theorem dX7_tells_34 : decode cX7_tells 34 = .ok (.iconst (-1), 1) := by decide +kernel
theorem dX7_tells_35 : decode cX7_tells 35 = .ok (.istore 4, 2) := by decide +kernel
theorem dX7_tells_37 : decode cX7_tells 37 = .ok (.iconst (-1), 1) := by decide +kernel
theorem dX7_tells_38 : decode cX7_tells 38 = .ok (.istore 5, 2) := by decide +kernel
theorem dX7_tells_40 : decode cX7_tells 40 = .ok (.aload_n 0, 1) := by decide +kernel
theorem dX7_tells_41 : decode cX7_tells 41 = .ok (.getfield 80, 3) := by decide +kernel
theorem dX7_tells_44 : decode cX7_tells 44 = .ok (.aload_n 0, 1) := by decide +kernel
theorem dX7_tells_45 : decode cX7_tells 45 = .ok (.getfield 77, 3) := by decide +kernel
theorem dX7_tells_48 : decode cX7_tells 48 = .ok (.invokestatic 287, 3) := by decide +kernel
theorem dX7_tells_51 : decode cX7_tells 51 = .ok (.aload_n 0, 1) := by decide +kernel
theorem dX7_tells_52 : decode cX7_tells 52 = .ok (.getfield 248, 3) := by decide +kernel
theorem dX7_tells_55 : decode cX7_tells 55 = .ok (.istore 6, 2) := by decide +kernel
theorem dX7_tells_57 : decode cX7_tells 57 = .ok (.iload 6, 2) := by decide +kernel
theorem dX7_tells_59 : decode cX7_tells 59 = .ok (.aload_n 0, 1) := by decide +kernel
theorem dX7_tells_60 : decode cX7_tells 60 = .ok (.getfield 43, 3) := by decide +kernel
theorem dX7_tells_63 : decode cX7_tells 63 = .ok (.iconst 5, 1) := by decide +kernel
theorem dX7_tells_64 : decode cX7_tells 64 = .ok (.iaload, 1) := by decide +kernel
theorem dX7_tells_65 : decode cX7_tells 65 = .ok (.if_icmp .ge 70, 3) := by decide +kernel
theorem dX7_tells_68 : decode cX7_tells 68 = .ok (.aload_n 0, 1) := by decide +kernel
theorem dX7_tells_69 : decode cX7_tells 69 = .ok (.getfield 113, 3) := by decide +kernel
theorem dX7_tells_72 : decode cX7_tells 72 = .ok (.aload_n 0, 1) := by decide +kernel
theorem dX7_tells_73 : decode cX7_tells 73 = .ok (.getfield 80, 3) := by decide +kernel
theorem dX7_tells_76 : decode cX7_tells 76 = .ok (.invokestatic 287, 3) := by decide +kernel
theorem dX7_tells_79 : decode cX7_tells 79 = .ok (.aload_n 0, 1) := by decide +kernel
theorem dX7_tells_80 : decode cX7_tells 80 = .ok (.aload_n 0, 1) := by decide +kernel
theorem dX7_tells_81 : decode cX7_tells 81 = .ok (.getfield 80, 3) := by decide +kernel
theorem dX7_tells_84 : decode cX7_tells 84 = .ok (.iload 6, 2) := by decide +kernel
theorem dX7_tells_86 : decode cX7_tells 86 = .ok (.aload_n 0, 1) := by decide +kernel
theorem dX7_tells_87 : decode cX7_tells 87 = .ok (.getfield 55, 3) := by decide +kernel
theorem dX7_tells_90 : decode cX7_tells 90 = .ok (.iconst 0, 1) := by decide +kernel
theorem dX7_tells_91 : decode cX7_tells 91 = .ok (.invokevirtual 305, 3) := by decide +kernel
theorem dX7_tells_94 : decode cX7_tells 94 = .ok (.pop, 1) := by decide +kernel
theorem dX7_tells_95 : decode cX7_tells 95 = .ok (.aload_n 0, 1) := by decide +kernel
theorem dX7_tells_96 : decode cX7_tells 96 = .ok (.iload 6, 2) := by decide +kernel
theorem dX7_tells_98 : decode cX7_tells 98 = .ok (.iload_n 1, 1) := by decide +kernel
theorem dX7_tells_99 : decode cX7_tells 99 = .ok (.iload_n 3, 1) := by decide +kernel
theorem dX7_tells_100 : decode cX7_tells 100 = .ok (.invokevirtual 357, 3) := by decide +kernel
theorem dX7_tells_103 : decode cX7_tells 103 = .ok (.istore 7, 2) := by decide +kernel
theorem dX7_tells_105 : decode cX7_tells 105 = .ok (.iload 4, 2) := by decide +kernel
theorem dX7_tells_107 : decode cX7_tells 107 = .ok (.iconst (-1), 1) := by decide +kernel
theorem dX7_tells_108 : decode cX7_tells 108 = .ok (.if_icmp .eq 13, 3) := by decide +kernel
theorem dX7_tells_111 : decode cX7_tells 111 = .ok (.iload 7, 2) := by decide +kernel
theorem dX7_tells_113 : decode cX7_tells 113 = .ok (.iload 5, 2) := by decide +kernel
theorem dX7_tells_115 : decode cX7_tells 115 = .ok (.if_icmp .lt 6, 3) := by decide +kernel
theorem dX7_tells_118 : decode cX7_tells 118 = .ok (.goto 11, 3) := by decide +kernel
theorem dX7_tells_121 : decode cX7_tells 121 = .ok (.iload 6, 2) := by decide +kernel
theorem dX7_tells_123 : decode cX7_tells 123 = .ok (.istore 4, 2) := by decide +kernel
theorem dX7_tells_125 : decode cX7_tells 125 = .ok (.iload 7, 2) := by decide +kernel
theorem dX7_tells_127 : decode cX7_tells 127 = .ok (.istore 5, 2) := by decide +kernel
theorem dX7_tells_129 : decode cX7_tells 129 = .ok (.iinc 6 1, 3) := by decide +kernel
theorem dX7_tells_132 : decode cX7_tells 132 = .ok (.goto (-75), 3) := by decide +kernel
theorem dX7_tells_135 : decode cX7_tells 135 = .ok (.iload_n 2, 1) := by decide +kernel
theorem dX7_tells_136 : decode cX7_tells 136 = .ok (.ifCond .ne 8, 3) := by decide +kernel
theorem dX7_tells_139 : decode cX7_tells 139 = .ok (.iload 4, 2) := by decide +kernel
theorem dX7_tells_141 : decode cX7_tells 141 = .ok (.goto 5, 3) := by decide +kernel
theorem dX7_tells_144 : decode cX7_tells 144 = .ok (.iload 5, 2) := by decide +kernel
theorem dX7_tells_146 : decode cX7_tells 146 = .ok (.ireturn, 1) := by decide +kernel
theorem dX7_near_0 : decode cX7_near 0 = .ok (.aload_n 0, 1) := by decide +kernel
theorem dX7_near_1 : decode cX7_near 1 = .ok (.iconst 0, 1) := by decide +kernel
theorem dX7_near_2 : decode cX7_near 2 = .ok (.putfield 131, 3) := by decide +kernel
theorem dX7_near_5 : decode cX7_near 5 = .ok (.iload_n 1, 1) := by decide +kernel
theorem dX7_near_6 : decode cX7_near 6 = .ok (.iconst 0, 1) := by decide +kernel
theorem dX7_near_7 : decode cX7_near 7 = .ok (.bipush 30, 2) := by decide +kernel
theorem dX7_near_9 : decode cX7_near 9 = .ok (.invokestatic 134, 3) := by decide +kernel
theorem dX7_near_12 : decode cX7_near 12 = .ok (.ifCond .ne 9, 3) := by decide +kernel
theorem dX7_near_15 : decode cX7_near 15 = .ok (.aload_n 0, 1) := by decide +kernel
theorem dX7_near_16 : decode cX7_near 16 = .ok (.iconst 1, 1) := by decide +kernel
theorem dX7_near_17 : decode cX7_near 17 = .ok (.invokevirtual 235, 3) := by decide +kernel
theorem dX7_near_20 : decode cX7_near 20 = .ok (.ireturn, 1) := by decide +kernel
theorem dX7_near_21 : decode cX7_near 21 = .ok (.iconst 0, 1) := by decide +kernel
theorem dX7_near_22 : decode cX7_near 22 = .ok (.istore_n 2, 1) := by decide +kernel
theorem dX7_near_23 : decode cX7_near 23 = .ok (.iconst 0, 1) := by decide +kernel
theorem dX7_near_24 : decode cX7_near 24 = .ok (.istore_n 3, 1) := by decide +kernel
theorem dX7_near_25 : decode cX7_near 25 = .ok (.iload_n 3, 1) := by decide +kernel
theorem dX7_near_26 : decode cX7_near 26 = .ok (.aload_n 0, 1) := by decide +kernel
theorem dX7_near_27 : decode cX7_near 27 = .ok (.getfield 43, 3) := by decide +kernel
theorem dX7_near_30 : decode cX7_near 30 = .ok (.iconst 1, 1) := by decide +kernel
theorem dX7_near_31 : decode cX7_near 31 = .ok (.iaload, 1) := by decide +kernel
theorem dX7_near_32 : decode cX7_near 32 = .ok (.if_icmp .ge 76, 3) := by decide +kernel
theorem dX7_near_35 : decode cX7_near 35 = .ok (.iload_n 3, 1) := by decide +kernel
theorem dX7_near_36 : decode cX7_near 36 = .ok (.iconst 1, 1) := by decide +kernel
theorem dX7_near_37 : decode cX7_near 37 = .ok (.iadd, 1) := by decide +kernel
theorem dX7_near_38 : decode cX7_near 38 = .ok (.istore 4, 2) := by decide +kernel
theorem dX7_near_40 : decode cX7_near 40 = .ok (.iload 4, 2) := by decide +kernel
theorem dX7_near_42 : decode cX7_near 42 = .ok (.aload_n 0, 1) := by decide +kernel
theorem dX7_near_43 : decode cX7_near 43 = .ok (.getfield 43, 3) := by decide +kernel
theorem dX7_near_46 : decode cX7_near 46 = .ok (.iconst 1, 1) := by decide +kernel
theorem dX7_near_47 : decode cX7_near 47 = .ok (.iaload, 1) := by decide +kernel
theorem dX7_near_48 : decode cX7_near 48 = .ok (.if_icmp .ge 54, 3) := by decide +kernel
theorem dX7_near_51 : decode cX7_near 51 = .ok (.iload_n 2, 1) := by decide +kernel
theorem dX7_near_52 : decode cX7_near 52 = .ok (.aload_n 0, 1) := by decide +kernel
theorem dX7_near_53 : decode cX7_near 53 = .ok (.getfield 77, 3) := by decide +kernel
theorem dX7_near_56 : decode cX7_near 56 = .ok (.iload_n 3, 1) := by decide +kernel
theorem dX7_near_57 : decode cX7_near 57 = .ok (.invokestatic 261, 3) := by decide +kernel
theorem dX7_near_60 : decode cX7_near 60 = .ok (.ifCond .ne 33, 3) := by decide +kernel
theorem dX7_near_63 : decode cX7_near 63 = .ok (.aload_n 0, 1) := by decide +kernel
theorem dX7_near_64 : decode cX7_near 64 = .ok (.getfield 77, 3) := by decide +kernel
theorem dX7_near_67 : decode cX7_near 67 = .ok (.iload 4, 2) := by decide +kernel
theorem dX7_near_69 : decode cX7_near 69 = .ok (.invokestatic 261, 3) := by decide +kernel
theorem dX7_near_72 : decode cX7_near 72 = .ok (.ifCond .ne 21, 3) := by decide +kernel
theorem dX7_near_75 : decode cX7_near 75 = .ok (.aload_n 0, 1) := by decide +kernel
theorem dX7_near_76 : decode cX7_near 76 = .ok (.getfield 77, 3) := by decide +kernel
theorem dX7_near_79 : decode cX7_near 79 = .ok (.iload_n 3, 1) := by decide +kernel
theorem dX7_near_80 : decode cX7_near 80 = .ok (.iload 4, 2) := by decide +kernel
theorem dX7_near_82 : decode cX7_near 82 = .ok (.invokestatic 265, 3) := by decide +kernel
theorem dX7_near_85 : decode cX7_near 85 = .ok (.iload_n 1, 1) := by decide +kernel
theorem dX7_near_86 : decode cX7_near 86 = .ok (.if_icmp .gt 7, 3) := by decide +kernel
theorem dX7_near_89 : decode cX7_near 89 = .ok (.iconst 1, 1) := by decide +kernel
theorem dX7_near_90 : decode cX7_near 90 = .ok (.goto 4, 3) := by decide +kernel
theorem dX7_near_93 : decode cX7_near 93 = .ok (.iconst 0, 1) := by decide +kernel
theorem dX7_near_94 : decode cX7_near 94 = .ok (.iadd, 1) := by decide +kernel
theorem dX7_near_95 : decode cX7_near 95 = .ok (.istore_n 2, 1) := by decide +kernel
theorem dX7_near_96 : decode cX7_near 96 = .ok (.iinc 4 1, 3) := by decide +kernel
theorem dX7_near_99 : decode cX7_near 99 = .ok (.goto (-59), 3) := by decide +kernel
theorem dX7_near_102 : decode cX7_near 102 = .ok (.iinc 3 1, 3) := by decide +kernel
theorem dX7_near_105 : decode cX7_near 105 = .ok (.goto (-80), 3) := by decide +kernel
theorem dX7_near_108 : decode cX7_near 108 = .ok (.iload_n 2, 1) := by decide +kernel
theorem dX7_near_109 : decode cX7_near 109 = .ok (.ireturn, 1) := by decide +kernel
theorem dX7_other_0 : decode cX7_other 0 = .ok (.iload_n 2, 1) := by decide +kernel
theorem dX7_other_1 : decode cX7_other 1 = .ok (.istore_n 3, 1) := by decide +kernel
theorem dX7_other_2 : decode cX7_other 2 = .ok (.iconst 0, 1) := by decide +kernel
theorem dX7_other_3 : decode cX7_other 3 = .ok (.istore 4, 2) := by decide +kernel
theorem dX7_other_5 : decode cX7_other 5 = .ok (.iload 4, 2) := by decide +kernel
theorem dX7_other_7 : decode cX7_other 7 = .ok (.aload_n 0, 1) := by decide +kernel
theorem dX7_other_8 : decode cX7_other 8 = .ok (.getfield 43, 3) := by decide +kernel
theorem dX7_other_11 : decode cX7_other 11 = .ok (.iconst 1, 1) := by decide +kernel
theorem dX7_other_12 : decode cX7_other 12 = .ok (.iaload, 1) := by decide +kernel
theorem dX7_other_13 : decode cX7_other 13 = .ok (.if_icmp .ge 38, 3) := by decide +kernel
theorem dX7_other_16 : decode cX7_other 16 = .ok (.aload_n 0, 1) := by decide +kernel
theorem dX7_other_17 : decode cX7_other 17 = .ok (.getfield 49, 3) := by decide +kernel
theorem dX7_other_20 : decode cX7_other 20 = .ok (.iload 4, 2) := by decide +kernel
theorem dX7_other_22 : decode cX7_other 22 = .ok (.iaload, 1) := by decide +kernel
theorem dX7_other_23 : decode cX7_other 23 = .ok (.aload_n 0, 1) := by decide +kernel
theorem dX7_other_24 : decode cX7_other 24 = .ok (.getfield 49, 3) := by decide +kernel
theorem dX7_other_27 : decode cX7_other 27 = .ok (.iload_n 1, 1) := by decide +kernel
theorem dX7_other_28 : decode cX7_other 28 = .ok (.iaload, 1) := by decide +kernel
theorem dX7_other_29 : decode cX7_other 29 = .ok (.if_icmp .ne 6, 3) := by decide +kernel
theorem dX7_other_32 : decode cX7_other 32 = .ok (.goto 13, 3) := by decide +kernel
theorem dX7_other_35 : decode cX7_other 35 = .ok (.iload_n 3, 1) := by decide +kernel
theorem dX7_other_36 : decode cX7_other 36 = .ok (.ifCond .ne 6, 3) := by decide +kernel
theorem dX7_other_39 : decode cX7_other 39 = .ok (.iload 4, 2) := by decide +kernel
theorem dX7_other_41 : decode cX7_other 41 = .ok (.ireturn, 1) := by decide +kernel
theorem dX7_other_42 : decode cX7_other 42 = .ok (.iinc 3 (-1), 3) := by decide +kernel
theorem dX7_other_45 : decode cX7_other 45 = .ok (.iinc 4 1, 3) := by decide +kernel
theorem dX7_other_48 : decode cX7_other 48 = .ok (.goto (-43), 3) := by decide +kernel
theorem dX7_other_51 : decode cX7_other 51 = .ok (.iconst (-1), 1) := by decide +kernel
theorem dX7_other_52 : decode cX7_other 52 = .ok (.ireturn, 1) := by decide +kernel
theorem dX7_drawLiked_0 : decode cX7_drawLiked 0 = .ok (.iconst 0, 1) := by decide +kernel
theorem dX7_drawLiked_1 : decode cX7_drawLiked 1 = .ok (.istore_n 1, 1) := by decide +kernel
theorem dX7_drawLiked_2 : decode cX7_drawLiked 2 = .ok (.iload_n 1, 1) := by decide +kernel
theorem dX7_drawLiked_3 : decode cX7_drawLiked 3 = .ok (.aload_n 0, 1) := by decide +kernel
theorem dX7_drawLiked_4 : decode cX7_drawLiked 4 = .ok (.getfield 43, 3) := by decide +kernel
theorem dX7_drawLiked_7 : decode cX7_drawLiked 7 = .ok (.iconst 1, 1) := by decide +kernel
theorem dX7_drawLiked_8 : decode cX7_drawLiked 8 = .ok (.iaload, 1) := by decide +kernel
theorem dX7_drawLiked_9 : decode cX7_drawLiked 9 = .ok (.if_icmp .ge 91, 3) := by decide +kernel
theorem dX7_drawLiked_12 : decode cX7_drawLiked 12 = .ok (.aload_n 0, 1) := by decide +kernel
theorem dX7_drawLiked_13 : decode cX7_drawLiked 13 = .ok (.getfield 86, 3) := by decide +kernel
theorem dX7_drawLiked_16 : decode cX7_drawLiked 16 = .ok (.iload_n 1, 1) := by decide +kernel
theorem dX7_drawLiked_17 : decode cX7_drawLiked 17 = .ok (.iconst (-1), 1) := by decide +kernel
theorem dX7_drawLiked_18 : decode cX7_drawLiked 18 = .ok (.iastore, 1) := by decide +kernel
theorem dX7_drawLiked_19 : decode cX7_drawLiked 19 = .ok (.iconst 0, 1) := by decide +kernel
theorem dX7_drawLiked_20 : decode cX7_drawLiked 20 = .ok (.istore_n 2, 1) := by decide +kernel
theorem dX7_drawLiked_21 : decode cX7_drawLiked 21 = .ok (.aload_n 0, 1) := by decide +kernel
theorem dX7_drawLiked_22 : decode cX7_drawLiked 22 = .ok (.iload_n 1, 1) := by decide +kernel
theorem dX7_drawLiked_23 : decode cX7_drawLiked 23 = .ok (.iload_n 2, 1) := by decide +kernel
theorem dX7_drawLiked_24 : decode cX7_drawLiked 24 = .ok (.invokevirtual 360, 3) := by decide +kernel
theorem dX7_drawLiked_27 : decode cX7_drawLiked 27 = .ok (.iconst (-1), 1) := by decide +kernel
theorem dX7_drawLiked_28 : decode cX7_drawLiked 28 = .ok (.if_icmp .eq 9, 3) := by decide +kernel
theorem dX7_drawLiked_31 : decode cX7_drawLiked 31 = .ok (.iinc 2 1, 3) := by decide +kernel
theorem dX7_drawLiked_34 : decode cX7_drawLiked 34 = .ok (.goto (-13), 3) := by decide +kernel
theorem dX7_drawLiked_37 : decode cX7_drawLiked 37 = .ok (.aload_n 0, 1) := by decide +kernel
theorem dX7_drawLiked_38 : decode cX7_drawLiked 38 = .ok (.getfield 46, 3) := by decide +kernel
theorem dX7_drawLiked_41 : decode cX7_drawLiked 41 = .ok (.iload_n 1, 1) := by decide +kernel
theorem dX7_drawLiked_42 : decode cX7_drawLiked 42 = .ok (.iaload, 1) := by decide +kernel
theorem dX7_drawLiked_43 : decode cX7_drawLiked 43 = .ok (.iconst 4, 1) := by decide +kernel
theorem dX7_drawLiked_44 : decode cX7_drawLiked 44 = .ok (.if_icmp .eq 50, 3) := by decide +kernel
theorem dX7_drawLiked_47 : decode cX7_drawLiked 47 = .ok (.iload_n 2, 1) := by decide +kernel
theorem dX7_drawLiked_48 : decode cX7_drawLiked 48 = .ok (.ifCond .ne 6, 3) := by decide +kernel
theorem dX7_drawLiked_51 : decode cX7_drawLiked 51 = .ok (.goto 43, 3) := by decide +kernel
theorem dX7_drawLiked_54 : decode cX7_drawLiked 54 = .ok (.aload_n 0, 1) := by decide +kernel
theorem dX7_drawLiked_55 : decode cX7_drawLiked 55 = .ok (.aload_n 0, 1) := by decide +kernel
theorem dX7_drawLiked_56 : decode cX7_drawLiked 56 = .ok (.getfield 363, 3) := by decide +kernel
theorem dX7_drawLiked_59 : decode cX7_drawLiked 59 = .ok (.ldc_w 366, 3) := by decide +kernel
theorem dX7_drawLiked_62 : decode cX7_drawLiked 62 = .ok (.imul, 1) := by decide +kernel
theorem dX7_drawLiked_63 : decode cX7_drawLiked 63 = .ok (.sipush 12345, 3) := by decide +kernel
theorem dX7_drawLiked_66 : decode cX7_drawLiked 66 = .ok (.iadd, 1) := by decide +kernel
theorem dX7_drawLiked_67 : decode cX7_drawLiked 67 = .ok (.putfield 363, 3) := by decide +kernel
theorem dX7_drawLiked_70 : decode cX7_drawLiked 70 = .ok (.aload_n 0, 1) := by decide +kernel
theorem dX7_drawLiked_71 : decode cX7_drawLiked 71 = .ok (.getfield 86, 3) := by decide +kernel
theorem dX7_drawLiked_74 : decode cX7_drawLiked 74 = .ok (.iload_n 1, 1) := by decide +kernel
theorem dX7_drawLiked_75 : decode cX7_drawLiked 75 = .ok (.aload_n 0, 1) := by decide +kernel
theorem dX7_drawLiked_76 : decode cX7_drawLiked 76 = .ok (.iload_n 1, 1) := by decide +kernel
theorem dX7_drawLiked_77 : decode cX7_drawLiked 77 = .ok (.aload_n 0, 1) := by decide +kernel
theorem dX7_drawLiked_78 : decode cX7_drawLiked 78 = .ok (.getfield 363, 3) := by decide +kernel
theorem dX7_drawLiked_81 : decode cX7_drawLiked 81 = .ok (.bipush 16, 2) := by decide +kernel
theorem dX7_drawLiked_83 : decode cX7_drawLiked 83 = .ok (.ishr, 1) := by decide +kernel
theorem dX7_drawLiked_84 : decode cX7_drawLiked 84 = .ok (.sipush 32767, 3) := by decide +kernel
theorem dX7_drawLiked_87 : decode cX7_drawLiked 87 = .ok (.iand, 1) := by decide +kernel
theorem dX7_drawLiked_88 : decode cX7_drawLiked 88 = .ok (.iload_n 2, 1) := by decide +kernel
theorem dX7_drawLiked_89 : decode cX7_drawLiked 89 = .ok (.irem, 1) := by decide +kernel
theorem dX7_drawLiked_90 : decode cX7_drawLiked 90 = .ok (.invokevirtual 360, 3) := by decide +kernel
theorem dX7_drawLiked_93 : decode cX7_drawLiked 93 = .ok (.iastore, 1) := by decide +kernel
theorem dX7_drawLiked_94 : decode cX7_drawLiked 94 = .ok (.iinc 1 1, 3) := by decide +kernel
theorem dX7_drawLiked_97 : decode cX7_drawLiked 97 = .ok (.goto (-95), 3) := by decide +kernel
theorem dX7_drawLiked_100 : decode cX7_drawLiked 100 = .ok (.return_, 1) := by decide +kernel
theorem dX7_years_0 : decode cX7_years 0 = .ok (.aload_n 0, 1) := by decide +kernel
theorem dX7_years_1 : decode cX7_years 1 = .ok (.iconst 0, 1) := by decide +kernel
theorem dX7_years_2 : decode cX7_years 2 = .ok (.putfield 131, 3) := by decide +kernel
theorem dX7_years_5 : decode cX7_years 5 = .ok (.aload_n 0, 1) := by decide +kernel
theorem dX7_years_6 : decode cX7_years 6 = .ok (.iload_n 1, 1) := by decide +kernel
theorem dX7_years_7 : decode cX7_years 7 = .ok (.invokevirtual 299, 3) := by decide +kernel
theorem dX7_years_10 : decode cX7_years 10 = .ok (.ifCond .ne 9, 3) := by decide +kernel
theorem dX7_years_13 : decode cX7_years 13 = .ok (.aload_n 0, 1) := by decide +kernel
theorem dX7_years_14 : decode cX7_years 14 = .ok (.iconst 1, 1) := by decide +kernel
theorem dX7_years_15 : decode cX7_years 15 = .ok (.invokevirtual 235, 3) := by decide +kernel
theorem dX7_years_18 : decode cX7_years 18 = .ok (.ireturn, 1) := by decide +kernel
theorem dX7_years_19 : decode cX7_years 19 = .ok (.iload_n 3, 1) := by decide +kernel
theorem dX7_years_20 : decode cX7_years 20 = .ok (.iconst 0, 1) := by decide +kernel
theorem dX7_years_21 : decode cX7_years 21 = .ok (.bipush 40, 2) := by decide +kernel
theorem dX7_years_23 : decode cX7_years 23 = .ok (.invokestatic 134, 3) := by decide +kernel
theorem dX7_years_26 : decode cX7_years 26 = .ok (.ifCond .ne 9, 3) := by decide +kernel
theorem dX7_years_29 : decode cX7_years 29 = .ok (.aload_n 0, 1) := by decide +kernel
theorem dX7_years_30 : decode cX7_years 30 = .ok (.iconst 2, 1) := by decide +kernel
theorem dX7_years_31 : decode cX7_years 31 = .ok (.invokevirtual 235, 3) := by decide +kernel
theorem dX7_years_34 : decode cX7_years 34 = .ok (.ireturn, 1) := by decide +kernel
theorem dX7_years_35 : decode cX7_years 35 = .ok (.aload_n 0, 1) := by decide +kernel
theorem dX7_years_36 : decode cX7_years 36 = .ok (.iload_n 2, 1) := by decide +kernel
theorem dX7_years_37 : decode cX7_years 37 = .ok (.putfield 363, 3) := by decide +kernel
theorem dX7_years_40 : decode cX7_years 40 = .ok (.iconst 0, 1) := by decide +kernel
theorem dX7_years_41 : decode cX7_years 41 = .ok (.istore 4, 2) := by decide +kernel
theorem dX7_years_43 : decode cX7_years 43 = .ok (.iconst 0, 1) := by decide +kernel
theorem dX7_years_44 : decode cX7_years 44 = .ok (.istore 5, 2) := by decide +kernel
theorem dX7_years_46 : decode cX7_years 46 = .ok (.iload 5, 2) := by decide +kernel
theorem dX7_years_48 : decode cX7_years 48 = .ok (.iload_n 3, 1) := by decide +kernel
theorem dX7_years_49 : decode cX7_years 49 = .ok (.if_icmp .ge 78, 3) := by decide +kernel
theorem dX7_years_52 : decode cX7_years 52 = .ok (.aload_n 0, 1) := by decide +kernel
theorem dX7_years_53 : decode cX7_years 53 = .ok (.invokevirtual 367, 3) := by decide +kernel
theorem dX7_years_56 : decode cX7_years 56 = .ok (.aload_n 0, 1) := by decide +kernel
theorem dX7_years_57 : decode cX7_years 57 = .ok (.aload_n 0, 1) := by decide +kernel
theorem dX7_years_58 : decode cX7_years 58 = .ok (.getfield 80, 3) := by decide +kernel
theorem dX7_years_61 : decode cX7_years 61 = .ok (.invokevirtual 251, 3) := by decide +kernel
theorem dX7_years_64 : decode cX7_years 64 = .ok (.iconst 0, 1) := by decide +kernel
theorem dX7_years_65 : decode cX7_years 65 = .ok (.istore 6, 2) := by decide +kernel
theorem dX7_years_67 : decode cX7_years 67 = .ok (.iload 6, 2) := by decide +kernel
theorem dX7_years_69 : decode cX7_years 69 = .ok (.aload_n 0, 1) := by decide +kernel
theorem dX7_years_70 : decode cX7_years 70 = .ok (.getfield 43, 3) := by decide +kernel
theorem dX7_years_73 : decode cX7_years 73 = .ok (.iconst 5, 1) := by decide +kernel
theorem dX7_years_74 : decode cX7_years 74 = .ok (.iaload, 1) := by decide +kernel
theorem dX7_years_75 : decode cX7_years 75 = .ok (.if_icmp .ge 25, 3) := by decide +kernel
theorem dX7_years_78 : decode cX7_years 78 = .ok (.aload_n 0, 1) := by decide +kernel
theorem dX7_years_79 : decode cX7_years 79 = .ok (.aload_n 0, 1) := by decide +kernel
theorem dX7_years_80 : decode cX7_years 80 = .ok (.getfield 80, 3) := by decide +kernel
theorem dX7_years_83 : decode cX7_years 83 = .ok (.iload 6, 2) := by decide +kernel
theorem dX7_years_85 : decode cX7_years 85 = .ok (.aload_n 0, 1) := by decide +kernel
theorem dX7_years_86 : decode cX7_years 86 = .ok (.getfield 86, 3) := by decide +kernel
theorem dX7_years_89 : decode cX7_years 89 = .ok (.iconst 0, 1) := by decide +kernel
theorem dX7_years_90 : decode cX7_years 90 = .ok (.invokevirtual 305, 3) := by decide +kernel
theorem dX7_years_93 : decode cX7_years 93 = .ok (.pop, 1) := by decide +kernel
theorem dX7_years_94 : decode cX7_years 94 = .ok (.iinc 6 1, 3) := by decide +kernel
theorem dX7_years_97 : decode cX7_years 97 = .ok (.goto (-30), 3) := by decide +kernel
theorem dX7_years_100 : decode cX7_years 100 = .ok (.iload 4, 2) := by decide +kernel
theorem dX7_years_102 : decode cX7_years 102 = .ok (.aload_n 0, 1) := by decide +kernel
theorem dX7_years_103 : decode cX7_years 103 = .ok (.getfield 80, 3) := by decide +kernel
theorem dX7_years_106 : decode cX7_years 106 = .ok (.iload_n 1, 1) := by decide +kernel
theorem dX7_years_107 : decode cX7_years 107 = .ok (.invokestatic 261, 3) := by decide +kernel
theorem dX7_years_110 : decode cX7_years 110 = .ok (.ifCond .eq 7, 3) := by decide +kernel
theorem dX7_years_113 : decode cX7_years 113 = .ok (.iconst 0, 1) := by decide +kernel
theorem dX7_years_114 : decode cX7_years 114 = .ok (.goto 4, 3) := by decide +kernel
theorem dX7_years_117 : decode cX7_years 117 = .ok (.iconst 1, 1) := by decide +kernel
theorem dX7_years_118 : decode cX7_years 118 = .ok (.iadd, 1) := by decide +kernel
theorem dX7_years_119 : decode cX7_years 119 = .ok (.istore 4, 2) := by decide +kernel
theorem dX7_years_121 : decode cX7_years 121 = .ok (.iinc 5 1, 3) := by decide +kernel
theorem dX7_years_124 : decode cX7_years 124 = .ok (.goto (-78), 3) := by decide +kernel
theorem dX7_years_127 : decode cX7_years 127 = .ok (.iload 4, 2) := by decide +kernel
theorem dX7_years_129 : decode cX7_years 129 = .ok (.ireturn, 1) := by decide +kernel
theorem dX7_image_0 : decode cX7_image 0 = .ok (.aload_n 0, 1) := by decide +kernel
theorem dX7_image_1 : decode cX7_image 1 = .ok (.iconst 0, 1) := by decide +kernel
theorem dX7_image_2 : decode cX7_image 2 = .ok (.putfield 131, 3) := by decide +kernel
theorem dX7_image_5 : decode cX7_image 5 = .ok (.aload_n 0, 1) := by decide +kernel
theorem dX7_image_6 : decode cX7_image 6 = .ok (.iconst 1, 1) := by decide +kernel
theorem dX7_image_7 : decode cX7_image 7 = .ok (.putfield 254, 3) := by decide +kernel
theorem dX7_image_10 : decode cX7_image 10 = .ok (.aload_n 0, 1) := by decide +kernel
theorem dX7_image_11 : decode cX7_image 11 = .ok (.aload_n 0, 1) := by decide +kernel
theorem dX7_image_12 : decode cX7_image 12 = .ok (.getfield 248, 3) := by decide +kernel
theorem dX7_image_15 : decode cX7_image 15 = .ok (.putfield 370, 3) := by decide +kernel
theorem dX7_image_18 : decode cX7_image 18 = .ok (.aload_n 0, 1) := by decide +kernel
theorem dX7_image_19 : decode cX7_image 19 = .ok (.getfield 116, 3) := by decide +kernel
theorem dX7_image_22 : decode cX7_image 22 = .ok (.aload_n 0, 1) := by decide +kernel
theorem dX7_image_23 : decode cX7_image 23 = .ok (.getfield 77, 3) := by decide +kernel
theorem dX7_image_26 : decode cX7_image 26 = .ok (.invokestatic 287, 3) := by decide +kernel
theorem dX7_image_29 : decode cX7_image 29 = .ok (.aload_n 0, 1) := by decide +kernel
theorem dX7_image_30 : decode cX7_image 30 = .ok (.getfield 119, 3) := by decide +kernel
theorem dX7_image_33 : decode cX7_image 33 = .ok (.aload_n 0, 1) := by decide +kernel
theorem dX7_image_34 : decode cX7_image 34 = .ok (.getfield 92, 3) := by decide +kernel
theorem dX7_image_37 : decode cX7_image 37 = .ok (.invokestatic 287, 3) := by decide +kernel
theorem dX7_image_40 : decode cX7_image 40 = .ok (.aload_n 0, 1) := by decide +kernel
theorem dX7_image_41 : decode cX7_image 41 = .ok (.getfield 122, 3) := by decide +kernel
theorem dX7_image_44 : decode cX7_image 44 = .ok (.aload_n 0, 1) := by decide +kernel
theorem dX7_image_45 : decode cX7_image 45 = .ok (.getfield 95, 3) := by decide +kernel
theorem dX7_image_48 : decode cX7_image 48 = .ok (.invokestatic 287, 3) := by decide +kernel
theorem dX7_image_51 : decode cX7_image 51 = .ok (.aload_n 0, 1) := by decide +kernel
theorem dX7_image_52 : decode cX7_image 52 = .ok (.getfield 125, 3) := by decide +kernel
theorem dX7_image_55 : decode cX7_image 55 = .ok (.aload_n 0, 1) := by decide +kernel
theorem dX7_image_56 : decode cX7_image 56 = .ok (.getfield 98, 3) := by decide +kernel
theorem dX7_image_59 : decode cX7_image 59 = .ok (.invokestatic 287, 3) := by decide +kernel
theorem dX7_image_62 : decode cX7_image 62 = .ok (.aload_n 0, 1) := by decide +kernel
theorem dX7_image_63 : decode cX7_image 63 = .ok (.getfield 128, 3) := by decide +kernel
theorem dX7_image_66 : decode cX7_image 66 = .ok (.aload_n 0, 1) := by decide +kernel
theorem dX7_image_67 : decode cX7_image 67 = .ok (.getfield 67, 3) := by decide +kernel
theorem dX7_image_70 : decode cX7_image 70 = .ok (.invokestatic 287, 3) := by decide +kernel
theorem dX7_image_73 : decode cX7_image 73 = .ok (.return_, 1) := by decide +kernel
theorem dX7_restore_0 : decode cX7_restore 0 = .ok (.aload_n 0, 1) := by decide +kernel
theorem dX7_restore_1 : decode cX7_restore 1 = .ok (.iconst 0, 1) := by decide +kernel
theorem dX7_restore_2 : decode cX7_restore 2 = .ok (.putfield 131, 3) := by decide +kernel
theorem dX7_restore_5 : decode cX7_restore 5 = .ok (.aload_n 0, 1) := by decide +kernel
theorem dX7_restore_6 : decode cX7_restore 6 = .ok (.getfield 254, 3) := by decide +kernel
theorem dX7_restore_9 : decode cX7_restore 9 = .ok (.ifCond .ne 5, 3) := by decide +kernel
theorem dX7_restore_12 : decode cX7_restore 12 = .ok (.iconst 0, 1) := by decide +kernel
theorem dX7_restore_13 : decode cX7_restore 13 = .ok (.ireturn, 1) := by decide +kernel
theorem dX7_restore_14 : decode cX7_restore 14 = .ok (.aload_n 0, 1) := by decide +kernel
theorem dX7_restore_15 : decode cX7_restore 15 = .ok (.aload_n 0, 1) := by decide +kernel
theorem dX7_restore_16 : decode cX7_restore 16 = .ok (.getfield 370, 3) := by decide +kernel
theorem dX7_restore_19 : decode cX7_restore 19 = .ok (.putfield 248, 3) := by decide +kernel
theorem dX7_restore_22 : decode cX7_restore 22 = .ok (.aload_n 0, 1) := by decide +kernel
theorem dX7_restore_23 : decode cX7_restore 23 = .ok (.getfield 77, 3) := by decide +kernel
theorem dX7_restore_26 : decode cX7_restore 26 = .ok (.aload_n 0, 1) := by decide +kernel
theorem dX7_restore_27 : decode cX7_restore 27 = .ok (.getfield 116, 3) := by decide +kernel
theorem dX7_restore_30 : decode cX7_restore 30 = .ok (.invokestatic 287, 3) := by decide +kernel
theorem dX7_restore_33 : decode cX7_restore 33 = .ok (.aload_n 0, 1) := by decide +kernel
theorem dX7_restore_34 : decode cX7_restore 34 = .ok (.getfield 92, 3) := by decide +kernel
theorem dX7_restore_37 : decode cX7_restore 37 = .ok (.aload_n 0, 1) := by decide +kernel
theorem dX7_restore_38 : decode cX7_restore 38 = .ok (.getfield 119, 3) := by decide +kernel
theorem dX7_restore_41 : decode cX7_restore 41 = .ok (.invokestatic 287, 3) := by decide +kernel
theorem dX7_restore_44 : decode cX7_restore 44 = .ok (.aload_n 0, 1) := by decide +kernel
theorem dX7_restore_45 : decode cX7_restore 45 = .ok (.getfield 95, 3) := by decide +kernel
theorem dX7_restore_48 : decode cX7_restore 48 = .ok (.aload_n 0, 1) := by decide +kernel
theorem dX7_restore_49 : decode cX7_restore 49 = .ok (.getfield 122, 3) := by decide +kernel
theorem dX7_restore_52 : decode cX7_restore 52 = .ok (.invokestatic 287, 3) := by decide +kernel
theorem dX7_restore_55 : decode cX7_restore 55 = .ok (.aload_n 0, 1) := by decide +kernel
theorem dX7_restore_56 : decode cX7_restore 56 = .ok (.getfield 98, 3) := by decide +kernel
theorem dX7_restore_59 : decode cX7_restore 59 = .ok (.aload_n 0, 1) := by decide +kernel
theorem dX7_restore_60 : decode cX7_restore 60 = .ok (.getfield 125, 3) := by decide +kernel
theorem dX7_restore_63 : decode cX7_restore 63 = .ok (.invokestatic 287, 3) := by decide +kernel
theorem dX7_restore_66 : decode cX7_restore 66 = .ok (.aload_n 0, 1) := by decide +kernel
theorem dX7_restore_67 : decode cX7_restore 67 = .ok (.getfield 67, 3) := by decide +kernel
theorem dX7_restore_70 : decode cX7_restore 70 = .ok (.aload_n 0, 1) := by decide +kernel
theorem dX7_restore_71 : decode cX7_restore 71 = .ok (.getfield 128, 3) := by decide +kernel
theorem dX7_restore_74 : decode cX7_restore 74 = .ok (.invokestatic 287, 3) := by decide +kernel
theorem dX7_restore_77 : decode cX7_restore 77 = .ok (.iconst 1, 1) := by decide +kernel
theorem dX7_restore_78 : decode cX7_restore 78 = .ok (.ireturn, 1) := by decide +kernel
theorem dJ6_bitCount_0f7a4_0 : decode cJ6_bitCount_0f7a4 0 = .ok (.iload_n 0, 1) := by decide +kernel
theorem dJ6_bitCount_0f7a4_1 : decode cJ6_bitCount_0f7a4 1 = .ok (.iload_n 0, 1) := by decide +kernel
theorem dJ6_bitCount_0f7a4_2 : decode cJ6_bitCount_0f7a4 2 = .ok (.iconst 1, 1) := by decide +kernel
theorem dJ6_bitCount_0f7a4_3 : decode cJ6_bitCount_0f7a4 3 = .ok (.iushr, 1) := by decide +kernel
theorem dJ6_bitCount_0f7a4_4 : decode cJ6_bitCount_0f7a4 4 = .ok (.ldc_w 265, 3) := by decide +kernel
theorem dJ6_bitCount_0f7a4_7 : decode cJ6_bitCount_0f7a4 7 = .ok (.iand, 1) := by decide +kernel
theorem dJ6_bitCount_0f7a4_8 : decode cJ6_bitCount_0f7a4 8 = .ok (.isub, 1) := by decide +kernel
theorem dJ6_bitCount_0f7a4_9 : decode cJ6_bitCount_0f7a4 9 = .ok (.istore_n 0, 1) := by decide +kernel
theorem dJ6_bitCount_0f7a4_10 : decode cJ6_bitCount_0f7a4 10 = .ok (.iload_n 0, 1) := by decide +kernel
theorem dJ6_bitCount_0f7a4_11 : decode cJ6_bitCount_0f7a4 11 = .ok (.ldc_w 266, 3) := by decide +kernel
theorem dJ6_bitCount_0f7a4_14 : decode cJ6_bitCount_0f7a4 14 = .ok (.iand, 1) := by decide +kernel
theorem dJ6_bitCount_0f7a4_15 : decode cJ6_bitCount_0f7a4 15 = .ok (.iload_n 0, 1) := by decide +kernel
theorem dJ6_bitCount_0f7a4_16 : decode cJ6_bitCount_0f7a4 16 = .ok (.iconst 2, 1) := by decide +kernel
theorem dJ6_bitCount_0f7a4_17 : decode cJ6_bitCount_0f7a4 17 = .ok (.iushr, 1) := by decide +kernel
theorem dJ6_bitCount_0f7a4_18 : decode cJ6_bitCount_0f7a4 18 = .ok (.ldc_w 266, 3) := by decide +kernel
theorem dJ6_bitCount_0f7a4_21 : decode cJ6_bitCount_0f7a4 21 = .ok (.iand, 1) := by decide +kernel
theorem dJ6_bitCount_0f7a4_22 : decode cJ6_bitCount_0f7a4 22 = .ok (.iadd, 1) := by decide +kernel
theorem dJ6_bitCount_0f7a4_23 : decode cJ6_bitCount_0f7a4 23 = .ok (.istore_n 0, 1) := by decide +kernel
theorem dJ6_bitCount_0f7a4_24 : decode cJ6_bitCount_0f7a4 24 = .ok (.iload_n 0, 1) := by decide +kernel
theorem dJ6_bitCount_0f7a4_25 : decode cJ6_bitCount_0f7a4 25 = .ok (.iload_n 0, 1) := by decide +kernel
theorem dJ6_bitCount_0f7a4_26 : decode cJ6_bitCount_0f7a4 26 = .ok (.iconst 4, 1) := by decide +kernel
theorem dJ6_bitCount_0f7a4_27 : decode cJ6_bitCount_0f7a4 27 = .ok (.iushr, 1) := by decide +kernel
theorem dJ6_bitCount_0f7a4_28 : decode cJ6_bitCount_0f7a4 28 = .ok (.iadd, 1) := by decide +kernel
theorem dJ6_bitCount_0f7a4_29 : decode cJ6_bitCount_0f7a4 29 = .ok (.ldc_w 267, 3) := by decide +kernel
theorem dJ6_bitCount_0f7a4_32 : decode cJ6_bitCount_0f7a4 32 = .ok (.iand, 1) := by decide +kernel
theorem dJ6_bitCount_0f7a4_33 : decode cJ6_bitCount_0f7a4 33 = .ok (.istore_n 0, 1) := by decide +kernel
theorem dJ6_bitCount_0f7a4_34 : decode cJ6_bitCount_0f7a4 34 = .ok (.iload_n 0, 1) := by decide +kernel
theorem dJ6_bitCount_0f7a4_35 : decode cJ6_bitCount_0f7a4 35 = .ok (.iload_n 0, 1) := by decide +kernel
theorem dJ6_bitCount_0f7a4_36 : decode cJ6_bitCount_0f7a4 36 = .ok (.bipush 8, 2) := by decide +kernel
theorem dJ6_bitCount_0f7a4_38 : decode cJ6_bitCount_0f7a4 38 = .ok (.iushr, 1) := by decide +kernel
theorem dJ6_bitCount_0f7a4_39 : decode cJ6_bitCount_0f7a4 39 = .ok (.iadd, 1) := by decide +kernel
theorem dJ6_bitCount_0f7a4_40 : decode cJ6_bitCount_0f7a4 40 = .ok (.istore_n 0, 1) := by decide +kernel
theorem dJ6_bitCount_0f7a4_41 : decode cJ6_bitCount_0f7a4 41 = .ok (.iload_n 0, 1) := by decide +kernel
theorem dJ6_bitCount_0f7a4_42 : decode cJ6_bitCount_0f7a4 42 = .ok (.iload_n 0, 1) := by decide +kernel
theorem dJ6_bitCount_0f7a4_43 : decode cJ6_bitCount_0f7a4 43 = .ok (.bipush 16, 2) := by decide +kernel
theorem dJ6_bitCount_0f7a4_45 : decode cJ6_bitCount_0f7a4 45 = .ok (.iushr, 1) := by decide +kernel
theorem dJ6_bitCount_0f7a4_46 : decode cJ6_bitCount_0f7a4 46 = .ok (.iadd, 1) := by decide +kernel
theorem dJ6_bitCount_0f7a4_47 : decode cJ6_bitCount_0f7a4 47 = .ok (.istore_n 0, 1) := by decide +kernel
theorem dJ6_bitCount_0f7a4_48 : decode cJ6_bitCount_0f7a4 48 = .ok (.iload_n 0, 1) := by decide +kernel
theorem dJ6_bitCount_0f7a4_49 : decode cJ6_bitCount_0f7a4 49 = .ok (.bipush 63, 2) := by decide +kernel
theorem dJ6_bitCount_0f7a4_51 : decode cJ6_bitCount_0f7a4 51 = .ok (.iand, 1) := by decide +kernel
theorem dJ6_bitCount_0f7a4_52 : decode cJ6_bitCount_0f7a4 52 = .ok (.ireturn, 1) := by decide +kernel
theorem dJ9_abs_0f7a4_0 : decode cJ9_abs_0f7a4 0 = .ok (.iload_n 0, 1) := by decide +kernel
theorem dJ9_abs_0f7a4_1 : decode cJ9_abs_0f7a4 1 = .ok (.ifCond .ge 8, 3) := by decide +kernel
theorem dJ9_abs_0f7a4_4 : decode cJ9_abs_0f7a4 4 = .ok (.iload_n 0, 1) := by decide +kernel
theorem dJ9_abs_0f7a4_5 : decode cJ9_abs_0f7a4 5 = .ok (.ineg, 1) := by decide +kernel
theorem dJ9_abs_0f7a4_6 : decode cJ9_abs_0f7a4 6 = .ok (.goto 4, 3) := by decide +kernel
theorem dJ9_abs_0f7a4_9 : decode cJ9_abs_0f7a4 9 = .ok (.iload_n 0, 1) := by decide +kernel
theorem dJ9_abs_0f7a4_10 : decode cJ9_abs_0f7a4 10 = .ok (.ireturn, 1) := by decide +kernel
theorem dJ9_max_7cf53_0 : decode cJ9_max_7cf53 0 = .ok (.iload_n 0, 1) := by decide +kernel
theorem dJ9_max_7cf53_1 : decode cJ9_max_7cf53 1 = .ok (.iload_n 1, 1) := by decide +kernel
theorem dJ9_max_7cf53_2 : decode cJ9_max_7cf53 2 = .ok (.if_icmp .lt 7, 3) := by decide +kernel
theorem dJ9_max_7cf53_5 : decode cJ9_max_7cf53 5 = .ok (.iload_n 0, 1) := by decide +kernel
theorem dJ9_max_7cf53_6 : decode cJ9_max_7cf53 6 = .ok (.goto 4, 3) := by decide +kernel
theorem dJ9_max_7cf53_9 : decode cJ9_max_7cf53 9 = .ok (.iload_n 1, 1) := by decide +kernel
theorem dJ9_max_7cf53_10 : decode cJ9_max_7cf53 10 = .ok (.ireturn, 1) := by decide +kernel
theorem dJ9_min_7cf53_0 : decode cJ9_min_7cf53 0 = .ok (.iload_n 0, 1) := by decide +kernel
theorem dJ9_min_7cf53_1 : decode cJ9_min_7cf53 1 = .ok (.iload_n 1, 1) := by decide +kernel
theorem dJ9_min_7cf53_2 : decode cJ9_min_7cf53 2 = .ok (.if_icmp .gt 7, 3) := by decide +kernel
theorem dJ9_min_7cf53_5 : decode cJ9_min_7cf53 5 = .ok (.iload_n 0, 1) := by decide +kernel
theorem dJ9_min_7cf53_6 : decode cJ9_min_7cf53 6 = .ok (.goto 4, 3) := by decide +kernel
theorem dJ9_min_7cf53_9 : decode cJ9_min_7cf53 9 = .ok (.iload_n 1, 1) := by decide +kernel
theorem dJ9_min_7cf53_10 : decode cJ9_min_7cf53 10 = .ok (.ireturn, 1) := by decide +kernel
theorem dJ0_length_8abf5_0 : decode cJ0_length_8abf5 0 = .ok (.aload_n 0, 1) := by decide +kernel
theorem dJ0_length_8abf5_1 : decode cJ0_length_8abf5 1 = .ok (.getfield 9, 3) := by decide +kernel
theorem dJ0_length_8abf5_4 : decode cJ0_length_8abf5 4 = .ok (.arraylength, 1) := by decide +kernel
theorem dJ0_length_8abf5_5 : decode cJ0_length_8abf5 5 = .ok (.aload_n 0, 1) := by decide +kernel
theorem dJ0_length_8abf5_6 : decode cJ0_length_8abf5 6 = .ok (.invokevirtual 335, 3) := by decide +kernel
theorem dJ0_length_8abf5_9 : decode cJ0_length_8abf5 9 = .ok (.ishr, 1) := by decide +kernel
theorem dJ0_length_8abf5_10 : decode cJ0_length_8abf5 10 = .ok (.ireturn, 1) := by decide +kernel
theorem dJ0_charAt_5068e_0 : decode cJ0_charAt_5068e 0 = .ok (.aload_n 0, 1) := by decide +kernel
theorem dJ0_charAt_5068e_1 : decode cJ0_charAt_5068e 1 = .ok (.invokevirtual 492, 3) := by decide +kernel
theorem dJ0_charAt_5068e_4 : decode cJ0_charAt_5068e 4 = .ok (.ifCond .eq 12, 3) := by decide +kernel
theorem dJ0_charAt_5068e_7 : decode cJ0_charAt_5068e 7 = .ok (.aload_n 0, 1) := by decide +kernel
theorem dJ0_charAt_5068e_8 : decode cJ0_charAt_5068e 8 = .ok (.getfield 9, 3) := by decide +kernel
theorem dJ0_charAt_5068e_11 : decode cJ0_charAt_5068e 11 = .ok (.iload_n 1, 1) := by decide +kernel
theorem dJ0_charAt_5068e_12 : decode cJ0_charAt_5068e 12 = .ok (.invokestatic 495, 3) := by decide +kernel
theorem dJ0_charAt_5068e_15 : decode cJ0_charAt_5068e 15 = .ok (.ireturn, 1) := by decide +kernel
theorem dJ0_charAt_5068e_16 : decode cJ0_charAt_5068e 16 = .ok (.aload_n 0, 1) := by decide +kernel
theorem dJ0_charAt_5068e_17 : decode cJ0_charAt_5068e 17 = .ok (.getfield 9, 3) := by decide +kernel
theorem dJ0_charAt_5068e_20 : decode cJ0_charAt_5068e 20 = .ok (.iload_n 1, 1) := by decide +kernel
theorem dJ0_charAt_5068e_21 : decode cJ0_charAt_5068e 21 = .ok (.invokestatic 498, 3) := by decide +kernel
theorem dJ0_charAt_5068e_24 : decode cJ0_charAt_5068e 24 = .ok (.ireturn, 1) := by decide +kernel
theorem dJ0_coder_7d493_0 : decode cJ0_coder_7d493 0 = .ok (.getstatic 38, 3) := by decide +kernel
theorem dJ0_coder_7d493_3 : decode cJ0_coder_7d493 3 = .ok (.ifCond .eq 10, 3) := by decide +kernel
theorem dJ0_coder_7d493_6 : decode cJ0_coder_7d493 6 = .ok (.aload_n 0, 1) := by decide +kernel
theorem dJ0_coder_7d493_7 : decode cJ0_coder_7d493 7 = .ok (.getfield 15, 3) := by decide +kernel
theorem dJ0_coder_7d493_10 : decode cJ0_coder_7d493 10 = .ok (.goto 4, 3) := by decide +kernel
theorem dJ0_coder_7d493_13 : decode cJ0_coder_7d493 13 = .ok (.iconst 1, 1) := by decide +kernel
theorem dJ0_coder_7d493_14 : decode cJ0_coder_7d493 14 = .ok (.ireturn, 1) := by decide +kernel
theorem dJ0_isLatin1_aae02_0 : decode cJ0_isLatin1_aae02 0 = .ok (.getstatic 38, 3) := by decide +kernel
theorem dJ0_isLatin1_aae02_3 : decode cJ0_isLatin1_aae02 3 = .ok (.ifCond .eq 14, 3) := by decide +kernel
theorem dJ0_isLatin1_aae02_6 : decode cJ0_isLatin1_aae02 6 = .ok (.aload_n 0, 1) := by decide +kernel
theorem dJ0_isLatin1_aae02_7 : decode cJ0_isLatin1_aae02 7 = .ok (.getfield 15, 3) := by decide +kernel
theorem dJ0_isLatin1_aae02_10 : decode cJ0_isLatin1_aae02 10 = .ok (.ifCond .ne 7, 3) := by decide +kernel
theorem dJ0_isLatin1_aae02_13 : decode cJ0_isLatin1_aae02 13 = .ok (.iconst 1, 1) := by decide +kernel
theorem dJ0_isLatin1_aae02_14 : decode cJ0_isLatin1_aae02 14 = .ok (.goto 4, 3) := by decide +kernel
theorem dJ0_isLatin1_aae02_17 : decode cJ0_isLatin1_aae02 17 = .ok (.iconst 0, 1) := by decide +kernel
theorem dJ0_isLatin1_aae02_18 : decode cJ0_isLatin1_aae02 18 = .ok (.ireturn, 1) := by decide +kernel
theorem dJ0_checkIndex_df160_0 : decode cJ0_checkIndex_df160 0 = .ok (.iload_n 0, 1) := by decide +kernel
theorem dJ0_checkIndex_df160_1 : decode cJ0_checkIndex_df160 1 = .ok (.iload_n 1, 1) := by decide +kernel
theorem dJ0_checkIndex_df160_2 : decode cJ0_checkIndex_df160 2 = .ok (.getstatic 1053, 3) := by decide +kernel
theorem dJ0_checkIndex_df160_5 : decode cJ0_checkIndex_df160 5 = .ok (.invokestatic 1059, 3) := by decide +kernel
theorem dJ0_checkIndex_df160_8 : decode cJ0_checkIndex_df160 8 = .ok (.pop, 1) := by decide +kernel
theorem dJ0_checkIndex_df160_9 : decode cJ0_checkIndex_df160 9 = .ok (.return_, 1) := by decide +kernel
theorem dJ1_charAt_3b067_0 : decode cJ1_charAt_3b067 0 = .ok (.iload_n 1, 1) := by decide +kernel
theorem dJ1_charAt_3b067_1 : decode cJ1_charAt_3b067 1 = .ok (.aload_n 0, 1) := by decide +kernel
theorem dJ1_charAt_3b067_2 : decode cJ1_charAt_3b067 2 = .ok (.arraylength, 1) := by decide +kernel
theorem dJ1_charAt_3b067_3 : decode cJ1_charAt_3b067 3 = .ok (.invokestatic 9, 3) := by decide +kernel
theorem dJ1_charAt_3b067_6 : decode cJ1_charAt_3b067 6 = .ok (.aload_n 0, 1) := by decide +kernel
theorem dJ1_charAt_3b067_7 : decode cJ1_charAt_3b067 7 = .ok (.iload_n 1, 1) := by decide +kernel
theorem dJ1_charAt_3b067_8 : decode cJ1_charAt_3b067 8 = .ok (.baload, 1) := by decide +kernel
theorem dJ1_charAt_3b067_9 : decode cJ1_charAt_3b067 9 = .ok (.sipush 255, 3) := by decide +kernel
theorem dJ1_charAt_3b067_12 : decode cJ1_charAt_3b067 12 = .ok (.iand, 1) := by decide +kernel
theorem dJ1_charAt_3b067_13 : decode cJ1_charAt_3b067 13 = .ok (.i2c, 1) := by decide +kernel
theorem dJ1_charAt_3b067_14 : decode cJ1_charAt_3b067 14 = .ok (.ireturn, 1) := by decide +kernel
theorem dJ2_getChar_3b067_0 : decode cJ2_getChar_3b067 0 = .ok (.getstatic 44, 3) := by decide +kernel
theorem dJ2_getChar_3b067_3 : decode cJ2_getChar_3b067 3 = .ok (.ifCond .ne 25, 3) := by decide +kernel
theorem dJ2_getChar_3b067_6 : decode cJ2_getChar_3b067 6 = .ok (.iload_n 1, 1) := by decide +kernel
theorem dJ2_getChar_3b067_7 : decode cJ2_getChar_3b067 7 = .ok (.ifCond .lt 11, 3) := by decide +kernel
theorem dJ2_getChar_3b067_10 : decode cJ2_getChar_3b067 10 = .ok (.iload_n 1, 1) := by decide +kernel
theorem dJ2_getChar_3b067_11 : decode cJ2_getChar_3b067 11 = .ok (.aload_n 0, 1) := by decide +kernel
theorem dJ2_getChar_3b067_12 : decode cJ2_getChar_3b067 12 = .ok (.invokestatic 48, 3) := by decide +kernel
theorem dJ2_getChar_3b067_15 : decode cJ2_getChar_3b067 15 = .ok (.if_icmp .lt 13, 3) := by decide +kernel
theorem dJ2_getChar_3b067_18 : decode cJ2_getChar_3b067 18 = .ok (.new 52, 3) := by decide +kernel
theorem dJ2_getChar_3b067_21 : decode cJ2_getChar_3b067 21 = .ok (.dup, 1) := by decide +kernel
theorem dJ2_getChar_3b067_22 : decode cJ2_getChar_3b067 22 = .ok (.ldc 54, 2) := by decide +kernel
theorem dJ2_getChar_3b067_24 : decode cJ2_getChar_3b067 24 = .ok (.invokespecial 56, 3) := by decide +kernel
theorem dJ2_getChar_3b067_27 : decode cJ2_getChar_3b067 27 = .ok (.athrow, 1) := by decide +kernel
theorem dJ2_getChar_3b067_28 : decode cJ2_getChar_3b067 28 = .ok (.iload_n 1, 1) := by decide +kernel
theorem dJ2_getChar_3b067_29 : decode cJ2_getChar_3b067 29 = .ok (.iconst 1, 1) := by decide +kernel
theorem dJ2_getChar_3b067_30 : decode cJ2_getChar_3b067 30 = .ok (.ishl, 1) := by decide +kernel
theorem dJ2_getChar_3b067_31 : decode cJ2_getChar_3b067 31 = .ok (.istore_n 1, 1) := by decide +kernel
theorem dJ2_getChar_3b067_32 : decode cJ2_getChar_3b067 32 = .ok (.aload_n 0, 1) := by decide +kernel
theorem dJ2_getChar_3b067_33 : decode cJ2_getChar_3b067 33 = .ok (.iload_n 1, 1) := by decide +kernel
theorem dJ2_getChar_3b067_34 : decode cJ2_getChar_3b067 34 = .ok (.iinc 1 1, 3) := by decide +kernel
theorem dJ2_getChar_3b067_37 : decode cJ2_getChar_3b067 37 = .ok (.baload, 1) := by decide +kernel
theorem dJ2_getChar_3b067_38 : decode cJ2_getChar_3b067 38 = .ok (.sipush 255, 3) := by decide +kernel
theorem dJ2_getChar_3b067_41 : decode cJ2_getChar_3b067 41 = .ok (.iand, 1) := by decide +kernel
theorem dJ2_getChar_3b067_42 : decode cJ2_getChar_3b067 42 = .ok (.getstatic 59, 3) := by decide +kernel
theorem dJ2_getChar_3b067_45 : decode cJ2_getChar_3b067 45 = .ok (.ishl, 1) := by decide +kernel
theorem dJ2_getChar_3b067_46 : decode cJ2_getChar_3b067 46 = .ok (.aload_n 0, 1) := by decide +kernel
theorem dJ2_getChar_3b067_47 : decode cJ2_getChar_3b067 47 = .ok (.iload_n 1, 1) := by decide +kernel
theorem dJ2_getChar_3b067_48 : decode cJ2_getChar_3b067 48 = .ok (.baload, 1) := by decide +kernel
theorem dJ2_getChar_3b067_49 : decode cJ2_getChar_3b067 49 = .ok (.sipush 255, 3) := by decide +kernel
theorem dJ2_getChar_3b067_52 : decode cJ2_getChar_3b067 52 = .ok (.iand, 1) := by decide +kernel
theorem dJ2_getChar_3b067_53 : decode cJ2_getChar_3b067 53 = .ok (.getstatic 63, 3) := by decide +kernel
theorem dJ2_getChar_3b067_56 : decode cJ2_getChar_3b067 56 = .ok (.ishl, 1) := by decide +kernel
theorem dJ2_getChar_3b067_57 : decode cJ2_getChar_3b067 57 = .ok (.ior, 1) := by decide +kernel
theorem dJ2_getChar_3b067_58 : decode cJ2_getChar_3b067 58 = .ok (.i2c, 1) := by decide +kernel
theorem dJ2_getChar_3b067_59 : decode cJ2_getChar_3b067 59 = .ok (.ireturn, 1) := by decide +kernel
theorem dJ2_length_9d52b_0 : decode cJ2_length_9d52b 0 = .ok (.aload_n 0, 1) := by decide +kernel
theorem dJ2_length_9d52b_1 : decode cJ2_length_9d52b 1 = .ok (.arraylength, 1) := by decide +kernel
theorem dJ2_length_9d52b_2 : decode cJ2_length_9d52b 2 = .ok (.iconst 1, 1) := by decide +kernel
theorem dJ2_length_9d52b_3 : decode cJ2_length_9d52b 3 = .ok (.ishr, 1) := by decide +kernel
theorem dJ2_length_9d52b_4 : decode cJ2_length_9d52b 4 = .ok (.ireturn, 1) := by decide +kernel
theorem dJ2_charAt_3b067_0 : decode cJ2_charAt_3b067 0 = .ok (.iload_n 1, 1) := by decide +kernel
theorem dJ2_charAt_3b067_1 : decode cJ2_charAt_3b067 1 = .ok (.aload_n 0, 1) := by decide +kernel
theorem dJ2_charAt_3b067_2 : decode cJ2_charAt_3b067 2 = .ok (.invokestatic 67, 3) := by decide +kernel
theorem dJ2_charAt_3b067_5 : decode cJ2_charAt_3b067 5 = .ok (.aload_n 0, 1) := by decide +kernel
theorem dJ2_charAt_3b067_6 : decode cJ2_charAt_3b067 6 = .ok (.iload_n 1, 1) := by decide +kernel
theorem dJ2_charAt_3b067_7 : decode cJ2_charAt_3b067 7 = .ok (.invokestatic 71, 3) := by decide +kernel
theorem dJ2_charAt_3b067_10 : decode cJ2_charAt_3b067 10 = .ok (.ireturn, 1) := by decide +kernel
theorem dJ2_checkIndex_2214a_0 : decode cJ2_checkIndex_2214a 0 = .ok (.iload_n 0, 1) := by decide +kernel
