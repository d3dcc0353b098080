theorem dX7_goNight_70 : decode cX7_goNight 70 = .ok (.iadd, 1) := by decide +kernel
theorem dX7_goNight_71 : decode cX7_goNight 71 = .ok (.aload_n 0, 1) := by decide +kernel
theorem dX7_goNight_72 : decode cX7_goNight 72 = .ok (.getfield 89, 3) := by decide +kernel
theorem dX7_goNight_75 : decode cX7_goNight 75 = .ok (.iload 6, 2) := by decide +kernel
theorem dX7_goNight_77 : decode cX7_goNight 77 = .ok (.iaload, 1) := by decide +kernel
theorem dX7_goNight_78 : decode cX7_goNight 78 = .ok (.iastore, 1) := by decide +kernel
theorem dX7_goNight_79 : decode cX7_goNight 79 = .ok (.iinc 6 1, 3) := by decide +kernel
theorem dX7_goNight_82 : decode cX7_goNight 82 = .ok (.goto (-25), 3) := by decide +kernel
theorem dX7_goNight_85 : decode cX7_goNight 85 = .ok (.iinc 5 1, 3) := by decide +kernel
theorem dX7_goNight_88 : decode cX7_goNight 88 = .ok (.goto (-77), 3) := by decide +kernel
theorem dX7_goNight_91 : decode cX7_goNight 91 = .ok (.iconst 0, 1) := by decide +kernel
theorem dX7_goNight_92 : decode cX7_goNight 92 = .ok (.istore 5, 2) := by decide +kernel
theorem dX7_goNight_94 : decode cX7_goNight 94 = .ok (.iconst 0, 1) := by decide +kernel
theorem dX7_goNight_95 : decode cX7_goNight 95 = .ok (.istore 6, 2) := by decide +kernel
theorem dX7_goNight_97 : decode cX7_goNight 97 = .ok (.iload 6, 2) := by decide +kernel
theorem dX7_goNight_99 : decode cX7_goNight 99 = .ok (.aload_n 0, 1) := by decide +kernel
theorem dX7_goNight_100 : decode cX7_goNight 100 = .ok (.getfield 43, 3) := by decide +kernel
theorem dX7_goNight_103 : decode cX7_goNight 103 = .ok (.iconst 1, 1) := by decide +kernel
theorem dX7_goNight_104 : decode cX7_goNight 104 = .ok (.iaload, 1) := by decide +kernel
theorem dX7_goNight_105 : decode cX7_goNight 105 = .ok (.if_icmp .ge 124, 3) := by decide +kernel
theorem dX7_goNight_108 : decode cX7_goNight 108 = .ok (.iload 6, 2) := by decide +kernel
theorem dX7_goNight_110 : decode cX7_goNight 110 = .ok (.iconst 1, 1) := by decide +kernel
theorem dX7_goNight_111 : decode cX7_goNight 111 = .ok (.iadd, 1) := by decide +kernel
theorem dX7_goNight_112 : decode cX7_goNight 112 = .ok (.istore 7, 2) := by decide +kernel
theorem dX7_goNight_114 : decode cX7_goNight 114 = .ok (.iload 7, 2) := by decide +kernel
theorem dX7_goNight_116 : decode cX7_goNight 116 = .ok (.aload_n 0, 1) := by decide +kernel
theorem dX7_goNight_117 : decode cX7_goNight 117 = .ok (.getfield 43, 3) := by decide +kernel
theorem dX7_goNight_120 : decode cX7_goNight 120 = .ok (.iconst 1, 1) := by decide +kernel
theorem dX7_goNight_121 : decode cX7_goNight 121 = .ok (.iaload, 1) := by decide +kernel
theorem dX7_goNight_122 : decode cX7_goNight 122 = .ok (.if_icmp .ge 101, 3) := by decide +kernel
theorem dX7_goNight_125 : decode cX7_goNight 125 = .ok (.aload_n 1, 1) := by decide +kernel
theorem dX7_goNight_126 : decode cX7_goNight 126 = .ok (.iload 6, 2) := by decide +kernel
theorem dX7_goNight_128 : decode cX7_goNight 128 = .ok (.invokestatic 261, 3) := by decide +kernel
theorem dX7_goNight_131 : decode cX7_goNight 131 = .ok (.ifCond .ne 92, 3) := by decide +kernel
theorem dX7_goNight_134 : decode cX7_goNight 134 = .ok (.aload_n 1, 1) := by decide +kernel
theorem dX7_goNight_135 : decode cX7_goNight 135 = .ok (.iload 7, 2) := by decide +kernel
theorem dX7_goNight_137 : decode cX7_goNight 137 = .ok (.invokestatic 261, 3) := by decide +kernel
theorem dX7_goNight_140 : decode cX7_goNight 140 = .ok (.ifCond .ne 77, 3) := by decide +kernel
theorem dX7_goNight_143 : decode cX7_goNight 143 = .ok (.aload_n 0, 1) := by decide +kernel
theorem dX7_goNight_144 : decode cX7_goNight 144 = .ok (.getfield 49, 3) := by decide +kernel
theorem dX7_goNight_147 : decode cX7_goNight 147 = .ok (.iload 6, 2) := by decide +kernel
theorem dX7_goNight_149 : decode cX7_goNight 149 = .ok (.iaload, 1) := by decide +kernel
theorem dX7_goNight_150 : decode cX7_goNight 150 = .ok (.aload_n 0, 1) := by decide +kernel
theorem dX7_goNight_151 : decode cX7_goNight 151 = .ok (.getfield 49, 3) := by decide +kernel
theorem dX7_goNight_154 : decode cX7_goNight 154 = .ok (.iload 7, 2) := by decide +kernel
theorem dX7_goNight_156 : decode cX7_goNight 156 = .ok (.iaload, 1) := by decide +kernel
theorem dX7_goNight_157 : decode cX7_goNight 157 = .ok (.if_icmp .eq 60, 3) := by decide +kernel
theorem dX7_goNight_160 : decode cX7_goNight 160 = .ok (.aload_n 1, 1) := by decide +kernel
theorem dX7_goNight_161 : decode cX7_goNight 161 = .ok (.iload 6, 2) := by decide +kernel
theorem dX7_goNight_163 : decode cX7_goNight 163 = .ok (.iload 7, 2) := by decide +kernel
theorem dX7_goNight_165 : decode cX7_goNight 165 = .ok (.invokestatic 265, 3) := by decide +kernel
theorem dX7_goNight_168 : decode cX7_goNight 168 = .ok (.aload_n 0, 1) := by decide +kernel
theorem dX7_goNight_169 : decode cX7_goNight 169 = .ok (.getfield 43, 3) := by decide +kernel
theorem dX7_goNight_172 : decode cX7_goNight 172 = .ok (.iconst 3, 1) := by decide +kernel
theorem dX7_goNight_173 : decode cX7_goNight 173 = .ok (.iaload, 1) := by decide +kernel
theorem dX7_goNight_174 : decode cX7_goNight 174 = .ok (.if_icmp .le 6, 3) := by decide +kernel
theorem dX7_goNight_177 : decode cX7_goNight 177 = .ok (.goto 40, 3) := by decide +kernel
theorem dX7_goNight_180 : decode cX7_goNight 180 = .ok (.aload_n 1, 1) := by decide +kernel
theorem dX7_goNight_181 : decode cX7_goNight 181 = .ok (.bipush 18, 2) := by decide +kernel
theorem dX7_goNight_183 : decode cX7_goNight 183 = .ok (.iload 6, 2) := by decide +kernel
theorem dX7_goNight_185 : decode cX7_goNight 185 = .ok (.iadd, 1) := by decide +kernel
theorem dX7_goNight_186 : decode cX7_goNight 186 = .ok (.iload 7, 2) := by decide +kernel
theorem dX7_goNight_188 : decode cX7_goNight 188 = .ok (.iastore, 1) := by decide +kernel
theorem dX7_goNight_189 : decode cX7_goNight 189 = .ok (.aload_n 1, 1) := by decide +kernel
theorem dX7_goNight_190 : decode cX7_goNight 190 = .ok (.bipush 18, 2) := by decide +kernel
theorem dX7_goNight_192 : decode cX7_goNight 192 = .ok (.iload 7, 2) := by decide +kernel
theorem dX7_goNight_194 : decode cX7_goNight 194 = .ok (.iadd, 1) := by decide +kernel
theorem dX7_goNight_195 : decode cX7_goNight 195 = .ok (.iload 6, 2) := by decide +kernel
theorem dX7_goNight_197 : decode cX7_goNight 197 = .ok (.iastore, 1) := by decide +kernel
theorem dX7_goNight_198 : decode cX7_goNight 198 = .ok (.aload_n 1, 1) := by decide +kernel
theorem dX7_goNight_199 : decode cX7_goNight 199 = .ok (.bipush 24, 2) := by decide +kernel
theorem dX7_goNight_201 : decode cX7_goNight 201 = .ok (.iload 6, 2) := by decide +kernel
theorem dX7_goNight_203 : decode cX7_goNight 203 = .ok (.iadd, 1) := by decide +kernel
theorem dX7_goNight_204 : decode cX7_goNight 204 = .ok (.iload_n 2, 1) := by decide +kernel
theorem dX7_goNight_205 : decode cX7_goNight 205 = .ok (.iastore, 1) := by decide +kernel
theorem dX7_goNight_206 : decode cX7_goNight 206 = .ok (.aload_n 1, 1) := by decide +kernel
theorem dX7_goNight_207 : decode cX7_goNight 207 = .ok (.bipush 24, 2) := by decide +kernel
theorem dX7_goNight_209 : decode cX7_goNight 209 = .ok (.iload 7, 2) := by decide +kernel
theorem dX7_goNight_211 : decode cX7_goNight 211 = .ok (.iadd, 1) := by decide +kernel
theorem dX7_goNight_212 : decode cX7_goNight 212 = .ok (.iload_n 2, 1) := by decide +kernel
theorem dX7_goNight_213 : decode cX7_goNight 213 = .ok (.iastore, 1) := by decide +kernel
theorem dX7_goNight_214 : decode cX7_goNight 214 = .ok (.iinc 5 1, 3) := by decide +kernel
theorem dX7_goNight_217 : decode cX7_goNight 217 = .ok (.iinc 7 1, 3) := by decide +kernel
theorem dX7_goNight_220 : decode cX7_goNight 220 = .ok (.goto (-106), 3) := by decide +kernel
theorem dX7_goNight_223 : decode cX7_goNight 223 = .ok (.iinc 6 1, 3) := by decide +kernel
theorem dX7_goNight_226 : decode cX7_goNight 226 = .ok (.goto (-129), 3) := by decide +kernel
theorem dX7_goNight_229 : decode cX7_goNight 229 = .ok (.iload 5, 2) := by decide +kernel
theorem dX7_goNight_231 : decode cX7_goNight 231 = .ok (.ireturn, 1) := by decide +kernel
theorem dX7_couples_0 : decode cX7_couples 0 = .ok (.iconst 0, 1) := by decide +kernel
theorem dX7_couples_1 : decode cX7_couples 1 = .ok (.istore_n 2, 1) := by decide +kernel
theorem dX7_couples_2 : decode cX7_couples 2 = .ok (.iconst 0, 1) := by decide +kernel
theorem dX7_couples_3 : decode cX7_couples 3 = .ok (.istore_n 3, 1) := by decide +kernel
theorem dX7_couples_4 : decode cX7_couples 4 = .ok (.iload_n 3, 1) := by decide +kernel
theorem dX7_couples_5 : decode cX7_couples 5 = .ok (.aload_n 0, 1) := by decide +kernel
theorem dX7_couples_6 : decode cX7_couples 6 = .ok (.getfield 43, 3) := by decide +kernel
theorem dX7_couples_9 : decode cX7_couples 9 = .ok (.iconst 1, 1) := by decide +kernel
theorem dX7_couples_10 : decode cX7_couples 10 = .ok (.iaload, 1) := by decide +kernel
theorem dX7_couples_11 : decode cX7_couples 11 = .ok (.if_icmp .ge 25, 3) := by decide +kernel
theorem dX7_couples_14 : decode cX7_couples 14 = .ok (.iload_n 2, 1) := by decide +kernel
theorem dX7_couples_15 : decode cX7_couples 15 = .ok (.aload_n 1, 1) := by decide +kernel
theorem dX7_couples_16 : decode cX7_couples 16 = .ok (.iload_n 3, 1) := by decide +kernel
theorem dX7_couples_17 : decode cX7_couples 17 = .ok (.invokestatic 261, 3) := by decide +kernel
theorem dX7_couples_20 : decode cX7_couples 20 = .ok (.ifCond .eq 7, 3) := by decide +kernel
theorem dX7_couples_23 : decode cX7_couples 23 = .ok (.iconst 1, 1) := by decide +kernel
theorem dX7_couples_24 : decode cX7_couples 24 = .ok (.goto 4, 3) := by decide +kernel
theorem dX7_couples_27 : decode cX7_couples 27 = .ok (.iconst 0, 1) := by decide +kernel
theorem dX7_couples_28 : decode cX7_couples 28 = .ok (.iadd, 1) := by decide +kernel
theorem dX7_couples_29 : decode cX7_couples 29 = .ok (.istore_n 2, 1) := by decide +kernel
theorem dX7_couples_30 : decode cX7_couples 30 = .ok (.iinc 3 1, 3) := by decide +kernel
theorem dX7_couples_33 : decode cX7_couples 33 = .ok (.goto (-29), 3) := by decide +kernel
theorem dX7_couples_36 : decode cX7_couples 36 = .ok (.iload_n 2, 1) := by decide +kernel
theorem dX7_couples_37 : decode cX7_couples 37 = .ok (.iconst 2, 1) := by decide +kernel
theorem dX7_couples_38 : decode cX7_couples 38 = .ok (.idiv, 1) := by decide +kernel
theorem dX7_couples_39 : decode cX7_couples 39 = .ok (.ireturn, 1) := by decide +kernel
theorem dX7_count_0 : decode cX7_count 0 = .ok (.aload_n 0, 1) := by decide +kernel
theorem dX7_count_1 : decode cX7_count 1 = .ok (.iconst 0, 1) := by decide +kernel
theorem dX7_count_2 : decode cX7_count 2 = .ok (.putfield 131, 3) := by decide +kernel
theorem dX7_count_5 : decode cX7_count 5 = .ok (.iload_n 1, 1) := by decide +kernel
theorem dX7_count_6 : decode cX7_count 6 = .ok (.iconst 0, 1) := by decide +kernel
theorem dX7_count_7 : decode cX7_count 7 = .ok (.bipush 6, 2) := by decide +kernel
theorem dX7_count_9 : decode cX7_count 9 = .ok (.invokestatic 134, 3) := by decide +kernel
theorem dX7_count_12 : decode cX7_count 12 = .ok (.ifCond .eq 10, 3) := by decide +kernel
theorem dX7_count_15 : decode cX7_count 15 = .ok (.aload_n 0, 1) := by decide +kernel
theorem dX7_count_16 : decode cX7_count 16 = .ok (.getfield 43, 3) := by decide +kernel
theorem dX7_count_19 : decode cX7_count 19 = .ok (.iload_n 1, 1) := by decide +kernel
theorem dX7_count_20 : decode cX7_count 20 = .ok (.iaload, 1) := by decide +kernel
theorem dX7_count_21 : decode cX7_count 21 = .ok (.ireturn, 1) := by decide +kernel
theorem dX7_count_22 : decode cX7_count 22 = .ok (.iload_n 1, 1) := by decide +kernel
theorem dX7_count_23 : decode cX7_count 23 = .ok (.tableswitch 66 7 12 #[37, 42, 51, 56, 56, 56], 37) := by decide +kernel
theorem dX7_count_60 : decode cX7_count 60 = .ok (.aload_n 0, 1) := by decide +kernel
theorem dX7_count_61 : decode cX7_count 61 = .ok (.getfield 248, 3) := by decide +kernel
theorem dX7_count_64 : decode cX7_count 64 = .ok (.ireturn, 1) := by decide +kernel
theorem dX7_count_65 : decode cX7_count 65 = .ok (.aload_n 0, 1) := by decide +kernel
theorem dX7_count_66 : decode cX7_count 66 = .ok (.aload_n 0, 1) := by decide +kernel
theorem dX7_count_67 : decode cX7_count 67 = .ok (.getfield 77, 3) := by decide +kernel
theorem dX7_count_70 : decode cX7_count 70 = .ok (.invokevirtual 295, 3) := by decide +kernel
theorem dX7_count_73 : decode cX7_count 73 = .ok (.ireturn, 1) := by decide +kernel
theorem dX7_count_74 : decode cX7_count 74 = .ok (.aload_n 0, 1) := by decide +kernel
theorem dX7_count_75 : decode cX7_count 75 = .ok (.getfield 138, 3) := by decide +kernel
theorem dX7_count_78 : decode cX7_count 78 = .ok (.ireturn, 1) := by decide +kernel
theorem dX7_count_79 : decode cX7_count 79 = .ok (.aload_n 0, 1) := by decide +kernel
theorem dX7_count_80 : decode cX7_count 80 = .ok (.getfield 67, 3) := by decide +kernel
theorem dX7_count_83 : decode cX7_count 83 = .ok (.iload_n 1, 1) := by decide +kernel
theorem dX7_count_84 : decode cX7_count 84 = .ok (.bipush 10, 2) := by decide +kernel
theorem dX7_count_86 : decode cX7_count 86 = .ok (.isub, 1) := by decide +kernel
theorem dX7_count_87 : decode cX7_count 87 = .ok (.iaload, 1) := by decide +kernel
theorem dX7_count_88 : decode cX7_count 88 = .ok (.ireturn, 1) := by decide +kernel
theorem dX7_count_89 : decode cX7_count 89 = .ok (.aload_n 0, 1) := by decide +kernel
theorem dX7_count_90 : decode cX7_count 90 = .ok (.iconst 1, 1) := by decide +kernel
theorem dX7_count_91 : decode cX7_count 91 = .ok (.invokevirtual 235, 3) := by decide +kernel
theorem dX7_count_94 : decode cX7_count 94 = .ok (.ireturn, 1) := by decide +kernel
theorem dX7_lamp_0 : decode cX7_lamp 0 = .ok (.aload_n 0, 1) := by decide +kernel
theorem dX7_lamp_1 : decode cX7_lamp 1 = .ok (.iconst 0, 1) := by decide +kernel
theorem dX7_lamp_2 : decode cX7_lamp 2 = .ok (.putfield 131, 3) := by decide +kernel
theorem dX7_lamp_5 : decode cX7_lamp 5 = .ok (.aload_n 0, 1) := by decide +kernel
theorem dX7_lamp_6 : decode cX7_lamp 6 = .ok (.iload_n 1, 1) := by decide +kernel
theorem dX7_lamp_7 : decode cX7_lamp 7 = .ok (.invokevirtual 299, 3) := by decide +kernel
theorem dX7_lamp_10 : decode cX7_lamp 10 = .ok (.ifCond .ne 9, 3) := by decide +kernel
theorem dX7_lamp_13 : decode cX7_lamp 13 = .ok (.aload_n 0, 1) := by decide +kernel
theorem dX7_lamp_14 : decode cX7_lamp 14 = .ok (.iconst 1, 1) := by decide +kernel
theorem dX7_lamp_15 : decode cX7_lamp 15 = .ok (.invokevirtual 235, 3) := by decide +kernel
theorem dX7_lamp_18 : decode cX7_lamp 18 = .ok (.ireturn, 1) := by decide +kernel
theorem dX7_lamp_19 : decode cX7_lamp 19 = .ok (.iload_n 2, 1) := by decide +kernel
theorem dX7_lamp_20 : decode cX7_lamp 20 = .ok (.iconst 2, 1) := by decide +kernel
theorem dX7_lamp_21 : decode cX7_lamp 21 = .ok (.iconst 4, 1) := by decide +kernel
theorem dX7_lamp_22 : decode cX7_lamp 22 = .ok (.invokestatic 134, 3) := by decide +kernel
theorem dX7_lamp_25 : decode cX7_lamp 25 = .ok (.ifCond .eq 16, 3) := by decide +kernel
theorem dX7_lamp_28 : decode cX7_lamp 28 = .ok (.aload_n 0, 1) := by decide +kernel
theorem dX7_lamp_29 : decode cX7_lamp 29 = .ok (.getfield 77, 3) := by decide +kernel
theorem dX7_lamp_32 : decode cX7_lamp 32 = .ok (.iconst 3, 1) := by decide +kernel
theorem dX7_lamp_33 : decode cX7_lamp 33 = .ok (.iload_n 1, 1) := by decide +kernel
theorem dX7_lamp_34 : decode cX7_lamp 34 = .ok (.imul, 1) := by decide +kernel
theorem dX7_lamp_35 : decode cX7_lamp 35 = .ok (.iload_n 2, 1) := by decide +kernel
theorem dX7_lamp_36 : decode cX7_lamp 36 = .ok (.iadd, 1) := by decide +kernel
theorem dX7_lamp_37 : decode cX7_lamp 37 = .ok (.iconst 2, 1) := by decide +kernel
theorem dX7_lamp_38 : decode cX7_lamp 38 = .ok (.isub, 1) := by decide +kernel
theorem dX7_lamp_39 : decode cX7_lamp 39 = .ok (.iaload, 1) := by decide +kernel
theorem dX7_lamp_40 : decode cX7_lamp 40 = .ok (.ireturn, 1) := by decide +kernel
theorem dX7_lamp_41 : decode cX7_lamp 41 = .ok (.iload_n 2, 1) := by decide +kernel
theorem dX7_lamp_42 : decode cX7_lamp 42 = .ok (.ifCond .ne 12, 3) := by decide +kernel
theorem dX7_lamp_45 : decode cX7_lamp 45 = .ok (.aload_n 0, 1) := by decide +kernel
theorem dX7_lamp_46 : decode cX7_lamp 46 = .ok (.getfield 46, 3) := by decide +kernel
theorem dX7_lamp_49 : decode cX7_lamp 49 = .ok (.iload_n 1, 1) := by decide +kernel
theorem dX7_lamp_50 : decode cX7_lamp 50 = .ok (.iaload, 1) := by decide +kernel
theorem dX7_lamp_51 : decode cX7_lamp 51 = .ok (.goto 72, 3) := by decide +kernel
theorem dX7_lamp_54 : decode cX7_lamp 54 = .ok (.iload_n 2, 1) := by decide +kernel
theorem dX7_lamp_55 : decode cX7_lamp 55 = .ok (.iconst 1, 1) := by decide +kernel
theorem dX7_lamp_56 : decode cX7_lamp 56 = .ok (.if_icmp .ne 12, 3) := by decide +kernel
theorem dX7_lamp_59 : decode cX7_lamp 59 = .ok (.aload_n 0, 1) := by decide +kernel
theorem dX7_lamp_60 : decode cX7_lamp 60 = .ok (.getfield 49, 3) := by decide +kernel
theorem dX7_lamp_63 : decode cX7_lamp 63 = .ok (.iload_n 1, 1) := by decide +kernel
theorem dX7_lamp_64 : decode cX7_lamp 64 = .ok (.iaload, 1) := by decide +kernel
theorem dX7_lamp_65 : decode cX7_lamp 65 = .ok (.goto 58, 3) := by decide +kernel
theorem dX7_lamp_68 : decode cX7_lamp 68 = .ok (.iload_n 2, 1) := by decide +kernel
theorem dX7_lamp_69 : decode cX7_lamp 69 = .ok (.iconst 5, 1) := by decide +kernel
theorem dX7_lamp_70 : decode cX7_lamp 70 = .ok (.if_icmp .ne 12, 3) := by decide +kernel
theorem dX7_lamp_73 : decode cX7_lamp 73 = .ok (.aload_n 0, 1) := by decide +kernel
theorem dX7_lamp_74 : decode cX7_lamp 74 = .ok (.getfield 55, 3) := by decide +kernel
theorem dX7_lamp_77 : decode cX7_lamp 77 = .ok (.iload_n 1, 1) := by decide +kernel
theorem dX7_lamp_78 : decode cX7_lamp 78 = .ok (.iaload, 1) := by decide +kernel
theorem dX7_lamp_79 : decode cX7_lamp 79 = .ok (.goto 44, 3) := by decide +kernel
theorem dX7_lamp_82 : decode cX7_lamp 82 = .ok (.iload_n 2, 1) := by decide +kernel
theorem dX7_lamp_83 : decode cX7_lamp 83 = .ok (.bipush 6, 2) := by decide +kernel
theorem dX7_lamp_85 : decode cX7_lamp 85 = .ok (.if_icmp .ne 15, 3) := by decide +kernel
theorem dX7_lamp_88 : decode cX7_lamp 88 = .ok (.aload_n 0, 1) := by decide +kernel
theorem dX7_lamp_89 : decode cX7_lamp 89 = .ok (.getfield 77, 3) := by decide +kernel
theorem dX7_lamp_92 : decode cX7_lamp 92 = .ok (.bipush 18, 2) := by decide +kernel
theorem dX7_lamp_94 : decode cX7_lamp 94 = .ok (.iload_n 1, 1) := by decide +kernel
theorem dX7_lamp_95 : decode cX7_lamp 95 = .ok (.iadd, 1) := by decide +kernel
theorem dX7_lamp_96 : decode cX7_lamp 96 = .ok (.iaload, 1) := by decide +kernel
theorem dX7_lamp_97 : decode cX7_lamp 97 = .ok (.goto 26, 3) := by decide +kernel
theorem dX7_lamp_100 : decode cX7_lamp 100 = .ok (.iload_n 2, 1) := by decide +kernel
theorem dX7_lamp_101 : decode cX7_lamp 101 = .ok (.bipush 7, 2) := by decide +kernel
theorem dX7_lamp_103 : decode cX7_lamp 103 = .ok (.if_icmp .ne 15, 3) := by decide +kernel
theorem dX7_lamp_106 : decode cX7_lamp 106 = .ok (.aload_n 0, 1) := by decide +kernel
theorem dX7_lamp_107 : decode cX7_lamp 107 = .ok (.getfield 77, 3) := by decide +kernel
theorem dX7_lamp_110 : decode cX7_lamp 110 = .ok (.bipush 24, 2) := by decide +kernel
theorem dX7_lamp_112 : decode cX7_lamp 112 = .ok (.iload_n 1, 1) := by decide +kernel
theorem dX7_lamp_113 : decode cX7_lamp 113 = .ok (.iadd, 1) := by decide +kernel
theorem dX7_lamp_114 : decode cX7_lamp 114 = .ok (.iaload, 1) := by decide +kernel
theorem dX7_lamp_115 : decode cX7_lamp 115 = .ok (.goto 8, 3) := by decide +kernel
theorem dX7_lamp_118 : decode cX7_lamp 118 = .ok (.aload_n 0, 1) := by decide +kernel
theorem dX7_lamp_119 : decode cX7_lamp 119 = .ok (.iconst 1, 1) := by decide +kernel
theorem dX7_lamp_120 : decode cX7_lamp 120 = .ok (.invokevirtual 235, 3) := by decide +kernel
theorem dX7_lamp_123 : decode cX7_lamp 123 = .ok (.ireturn, 1) := by decide +kernel
theorem dX7_far_0 : decode cX7_far 0 = .ok (.aload_n 0, 1) := by decide +kernel
theorem dX7_far_1 : decode cX7_far 1 = .ok (.iconst 0, 1) := by decide +kernel
theorem dX7_far_2 : decode cX7_far 2 = .ok (.putfield 131, 3) := by decide +kernel
theorem dX7_far_5 : decode cX7_far 5 = .ok (.aload_n 0, 1) := by decide +kernel
theorem dX7_far_6 : decode cX7_far 6 = .ok (.iload_n 1, 1) := by decide +kernel
theorem dX7_far_7 : decode cX7_far 7 = .ok (.invokevirtual 299, 3) := by decide +kernel
theorem dX7_far_10 : decode cX7_far 10 = .ok (.ifCond .eq 23, 3) := by decide +kernel
theorem dX7_far_13 : decode cX7_far 13 = .ok (.aload_n 0, 1) := by decide +kernel
theorem dX7_far_14 : decode cX7_far 14 = .ok (.iload_n 2, 1) := by decide +kernel
theorem dX7_far_15 : decode cX7_far 15 = .ok (.invokevirtual 299, 3) := by decide +kernel
theorem dX7_far_18 : decode cX7_far 18 = .ok (.ifCond .eq 15, 3) := by decide +kernel
theorem dX7_far_21 : decode cX7_far 21 = .ok (.aload_n 0, 1) := by decide +kernel
theorem dX7_far_22 : decode cX7_far 22 = .ok (.getfield 77, 3) := by decide +kernel
theorem dX7_far_25 : decode cX7_far 25 = .ok (.iload_n 1, 1) := by decide +kernel
theorem dX7_far_26 : decode cX7_far 26 = .ok (.iload_n 2, 1) := by decide +kernel
theorem dX7_far_27 : decode cX7_far 27 = .ok (.invokestatic 265, 3) := by decide +kernel
theorem dX7_far_30 : decode cX7_far 30 = .ok (.goto 8, 3) := by decide +kernel
theorem dX7_far_33 : decode cX7_far 33 = .ok (.aload_n 0, 1) := by decide +kernel
theorem dX7_far_34 : decode cX7_far 34 = .ok (.iconst 1, 1) := by decide +kernel
theorem dX7_far_35 : decode cX7_far 35 = .ok (.invokevirtual 235, 3) := by decide +kernel
theorem dX7_far_38 : decode cX7_far 38 = .ok (.ireturn, 1) := by decide +kernel
theorem dX7_outOf_0 : decode cX7_outOf 0 = .ok (.iconst 0, 1) := by decide +kernel
theorem dX7_outOf_1 : decode cX7_outOf 1 = .ok (.istore_n 2, 1) := by decide +kernel
theorem dX7_outOf_2 : decode cX7_outOf 2 = .ok (.iconst 0, 1) := by decide +kernel
theorem dX7_outOf_3 : decode cX7_outOf 3 = .ok (.istore_n 3, 1) := by decide +kernel
theorem dX7_outOf_4 : decode cX7_outOf 4 = .ok (.iload_n 3, 1) := by decide +kernel
theorem dX7_outOf_5 : decode cX7_outOf 5 = .ok (.aload_n 0, 1) := by decide +kernel
theorem dX7_outOf_6 : decode cX7_outOf 6 = .ok (.getfield 43, 3) := by decide +kernel
theorem dX7_outOf_9 : decode cX7_outOf 9 = .ok (.iconst 1, 1) := by decide +kernel
theorem dX7_outOf_10 : decode cX7_outOf 10 = .ok (.iaload, 1) := by decide +kernel
theorem dX7_outOf_11 : decode cX7_outOf 11 = .ok (.if_icmp .ge 27, 3) := by decide +kernel
theorem dX7_outOf_14 : decode cX7_outOf 14 = .ok (.iload_n 2, 1) := by decide +kernel
theorem dX7_outOf_15 : decode cX7_outOf 15 = .ok (.aload_n 1, 1) := by decide +kernel
theorem dX7_outOf_16 : decode cX7_outOf 16 = .ok (.iload_n 3, 1) := by decide +kernel
theorem dX7_outOf_17 : decode cX7_outOf 17 = .ok (.invokestatic 261, 3) := by decide +kernel
theorem dX7_outOf_20 : decode cX7_outOf 20 = .ok (.ifCond .eq 9, 3) := by decide +kernel
theorem dX7_outOf_23 : decode cX7_outOf 23 = .ok (.iconst 1, 1) := by decide +kernel
theorem dX7_outOf_24 : decode cX7_outOf 24 = .ok (.iload_n 3, 1) := by decide +kernel
theorem dX7_outOf_25 : decode cX7_outOf 25 = .ok (.ishl, 1) := by decide +kernel
theorem dX7_outOf_26 : decode cX7_outOf 26 = .ok (.goto 4, 3) := by decide +kernel
theorem dX7_outOf_29 : decode cX7_outOf 29 = .ok (.iconst 0, 1) := by decide +kernel
theorem dX7_outOf_30 : decode cX7_outOf 30 = .ok (.ior, 1) := by decide +kernel
theorem dX7_outOf_31 : decode cX7_outOf 31 = .ok (.istore_n 2, 1) := by decide +kernel
theorem dX7_outOf_32 : decode cX7_outOf 32 = .ok (.iinc 3 1, 3) := by decide +kernel
theorem dX7_outOf_35 : decode cX7_outOf 35 = .ok (.goto (-31), 3) := by decide +kernel
theorem dX7_outOf_38 : decode cX7_outOf 38 = .ok (.iload_n 2, 1) := by decide +kernel
theorem dX7_outOf_39 : decode cX7_outOf 39 = .ok (.ireturn, 1) := by decide +kernel
theorem dX7_nights_0 : decode cX7_nights 0 = .ok (.aload_n 0, 1) := by decide +kernel
theorem dX7_nights_1 : decode cX7_nights 1 = .ok (.iconst 0, 1) := by decide +kernel
theorem dX7_nights_2 : decode cX7_nights 2 = .ok (.putfield 131, 3) := by decide +kernel
theorem dX7_nights_5 : decode cX7_nights 5 = .ok (.iload_n 1, 1) := by decide +kernel
theorem dX7_nights_6 : decode cX7_nights 6 = .ok (.iconst 0, 1) := by decide +kernel
theorem dX7_nights_7 : decode cX7_nights 7 = .ok (.bipush 99, 2) := by decide +kernel
theorem dX7_nights_9 : decode cX7_nights 9 = .ok (.invokestatic 134, 3) := by decide +kernel
theorem dX7_nights_12 : decode cX7_nights 12 = .ok (.ifCond .ne 9, 3) := by decide +kernel
theorem dX7_nights_15 : decode cX7_nights 15 = .ok (.aload_n 0, 1) := by decide +kernel
theorem dX7_nights_16 : decode cX7_nights 16 = .ok (.iconst 1, 1) := by decide +kernel
theorem dX7_nights_17 : decode cX7_nights 17 = .ok (.invokevirtual 235, 3) := by decide +kernel
theorem dX7_nights_20 : decode cX7_nights 20 = .ok (.ireturn, 1) := by decide +kernel
theorem dX7_nights_21 : decode cX7_nights 21 = .ok (.aload_n 0, 1) := by decide +kernel
theorem dX7_nights_22 : decode cX7_nights 22 = .ok (.getfield 248, 3) := by decide +kernel
theorem dX7_nights_25 : decode cX7_nights 25 = .ok (.iload_n 1, 1) := by decide +kernel
theorem dX7_nights_26 : decode cX7_nights 26 = .ok (.iadd, 1) := by decide +kernel
theorem dX7_nights_27 : decode cX7_nights 27 = .ok (.aload_n 0, 1) := by decide +kernel
theorem dX7_nights_28 : decode cX7_nights 28 = .ok (.getfield 43, 3) := by decide +kernel
theorem dX7_nights_31 : decode cX7_nights 31 = .ok (.iconst 5, 1) := by decide +kernel
theorem dX7_nights_32 : decode cX7_nights 32 = .ok (.iaload, 1) := by decide +kernel
theorem dX7_nights_33 : decode cX7_nights 33 = .ok (.if_icmp .le 15, 3) := by decide +kernel
theorem dX7_nights_36 : decode cX7_nights 36 = .ok (.aload_n 0, 1) := by decide +kernel
theorem dX7_nights_37 : decode cX7_nights 37 = .ok (.getfield 67, 3) := by decide +kernel
theorem dX7_nights_40 : decode cX7_nights 40 = .ok (.iconst 2, 1) := by decide +kernel
theorem dX7_nights_41 : decode cX7_nights 41 = .ok (.dup2, 1) := by decide +kernel
theorem dX7_nights_42 : decode cX7_nights 42 = .ok (.iaload, 1) := by decide +kernel
theorem dX7_nights_43 : decode cX7_nights 43 = .ok (.iconst 1, 1) := by decide +kernel
theorem dX7_nights_44 : decode cX7_nights 44 = .ok (.iadd, 1) := by decide +kernel
theorem dX7_nights_45 : decode cX7_nights 45 = .ok (.iastore, 1) := by decide +kernel
theorem dX7_nights_46 : decode cX7_nights 46 = .ok (.iconst (-1), 1) := by decide +kernel
theorem dX7_nights_47 : decode cX7_nights 47 = .ok (.ireturn, 1) := by decide +kernel
theorem dX7_nights_48 : decode cX7_nights 48 = .ok (.iconst 0, 1) := by decide +kernel
theorem dX7_nights_49 : decode cX7_nights 49 = .ok (.istore_n 2, 1) := by decide +kernel
theorem dX7_nights_50 : decode cX7_nights 50 = .ok (.iconst 0, 1) := by decide +kernel
theorem dX7_nights_51 : decode cX7_nights 51 = .ok (.istore_n 3, 1) := by decide +kernel
theorem dX7_nights_52 : decode cX7_nights 52 = .ok (.iload_n 3, 1) := by decide +kernel
theorem dX7_nights_53 : decode cX7_nights 53 = .ok (.iload_n 1, 1) := by decide +kernel
theorem dX7_nights_54 : decode cX7_nights 54 = .ok (.if_icmp .ge 132, 3) := by decide +kernel
theorem dX7_nights_57 : decode cX7_nights 57 = .ok (.iconst 0, 1) := by decide +kernel
theorem dX7_nights_58 : decode cX7_nights 58 = .ok (.istore 4, 2) := by decide +kernel
theorem dX7_nights_60 : decode cX7_nights 60 = .ok (.iload 4, 2) := by decide +kernel
theorem dX7_nights_62 : decode cX7_nights 62 = .ok (.bipush 18, 2) := by decide +kernel
theorem dX7_nights_64 : decode cX7_nights 64 = .ok (.if_icmp .ge 31, 3) := by decide +kernel
theorem dX7_nights_67 : decode cX7_nights 67 = .ok (.aload_n 0, 1) := by decide +kernel
theorem dX7_nights_68 : decode cX7_nights 68 = .ok (.getfield 92, 3) := by decide +kernel
theorem dX7_nights_71 : decode cX7_nights 71 = .ok (.bipush 18, 2) := by decide +kernel
theorem dX7_nights_73 : decode cX7_nights 73 = .ok (.aload_n 0, 1) := by decide +kernel
theorem dX7_nights_74 : decode cX7_nights 74 = .ok (.getfield 248, 3) := by decide +kernel
theorem dX7_nights_77 : decode cX7_nights 77 = .ok (.imul, 1) := by decide +kernel
theorem dX7_nights_78 : decode cX7_nights 78 = .ok (.iload 4, 2) := by decide +kernel
theorem dX7_nights_80 : decode cX7_nights 80 = .ok (.iadd, 1) := by decide +kernel
theorem dX7_nights_81 : decode cX7_nights 81 = .ok (.aload_n 0, 1) := by decide +kernel
theorem dX7_nights_82 : decode cX7_nights 82 = .ok (.getfield 77, 3) := by decide +kernel
theorem dX7_nights_85 : decode cX7_nights 85 = .ok (.iload 4, 2) := by decide +kernel
theorem dX7_nights_87 : decode cX7_nights 87 = .ok (.iaload, 1) := by decide +kernel
theorem dX7_nights_88 : decode cX7_nights 88 = .ok (.iastore, 1) := by decide +kernel
theorem dX7_nights_89 : decode cX7_nights 89 = .ok (.iinc 4 1, 3) := by decide +kernel
theorem dX7_nights_92 : decode cX7_nights 92 = .ok (.goto (-32), 3) := by decide +kernel
theorem dX7_nights_95 : decode cX7_nights 95 = .ok (.aload_n 0, 1) := by decide +kernel
theorem dX7_nights_96 : decode cX7_nights 96 = .ok (.getfield 98, 3) := by decide +kernel
theorem dX7_nights_99 : decode cX7_nights 99 = .ok (.aload_n 0, 1) := by decide +kernel
theorem dX7_nights_100 : decode cX7_nights 100 = .ok (.getfield 248, 3) := by decide +kernel
theorem dX7_nights_103 : decode cX7_nights 103 = .ok (.aload_n 0, 1) := by decide +kernel
theorem dX7_nights_104 : decode cX7_nights 104 = .ok (.aload_n 0, 1) := by decide +kernel
theorem dX7_nights_105 : decode cX7_nights 105 = .ok (.getfield 77, 3) := by decide +kernel
theorem dX7_nights_108 : decode cX7_nights 108 = .ok (.invokevirtual 302, 3) := by decide +kernel
theorem dX7_nights_111 : decode cX7_nights 111 = .ok (.iastore, 1) := by decide +kernel
theorem dX7_nights_112 : decode cX7_nights 112 = .ok (.iload_n 2, 1) := by decide +kernel
theorem dX7_nights_113 : decode cX7_nights 113 = .ok (.aload_n 0, 1) := by decide +kernel
theorem dX7_nights_114 : decode cX7_nights 114 = .ok (.aload_n 0, 1) := by decide +kernel
theorem dX7_nights_115 : decode cX7_nights 115 = .ok (.getfield 77, 3) := by decide +kernel
theorem dX7_nights_118 : decode cX7_nights 118 = .ok (.aload_n 0, 1) := by decide +kernel
theorem dX7_nights_119 : decode cX7_nights 119 = .ok (.getfield 248, 3) := by decide +kernel
theorem dX7_nights_122 : decode cX7_nights 122 = .ok (.aload_n 0, 1) := by decide +kernel
theorem dX7_nights_123 : decode cX7_nights 123 = .ok (.getfield 55, 3) := by decide +kernel
theorem dX7_nights_126 : decode cX7_nights 126 = .ok (.iconst 0, 1) := by decide +kernel
theorem dX7_nights_127 : decode cX7_nights 127 = .ok (.invokevirtual 305, 3) := by decide +kernel
theorem dX7_nights_130 : decode cX7_nights 130 = .ok (.iadd, 1) := by decide +kernel
theorem dX7_nights_131 : decode cX7_nights 131 = .ok (.istore_n 2, 1) := by decide +kernel
theorem dX7_nights_132 : decode cX7_nights 132 = .ok (.aload_n 0, 1) := by decide +kernel
theorem dX7_nights_133 : decode cX7_nights 133 = .ok (.dup, 1) := by decide +kernel
theorem dX7_nights_134 : decode cX7_nights 134 = .ok (.getfield 248, 3) := by decide +kernel
theorem dX7_nights_137 : decode cX7_nights 137 = .ok (.iconst 1, 1) := by decide +kernel
theorem dX7_nights_138 : decode cX7_nights 138 = .ok (.iadd, 1) := by decide +kernel
theorem dX7_nights_139 : decode cX7_nights 139 = .ok (.putfield 248, 3) := by decide +kernel
theorem dX7_nights_142 : decode cX7_nights 142 = .ok (.iconst 0, 1) := by decide +kernel
theorem dX7_nights_143 : decode cX7_nights 143 = .ok (.istore 4, 2) := by decide +kernel
theorem dX7_nights_145 : decode cX7_nights 145 = .ok (.iload 4, 2) := by decide +kernel
theorem dX7_nights_147 : decode cX7_nights 147 = .ok (.bipush 18, 2) := by decide +kernel
theorem dX7_nights_149 : decode cX7_nights 149 = .ok (.if_icmp .ge 31, 3) := by decide +kernel
theorem dX7_nights_152 : decode cX7_nights 152 = .ok (.aload_n 0, 1) := by decide +kernel
theorem dX7_nights_153 : decode cX7_nights 153 = .ok (.getfield 95, 3) := by decide +kernel
theorem dX7_nights_156 : decode cX7_nights 156 = .ok (.bipush 18, 2) := by decide +kernel
theorem dX7_nights_158 : decode cX7_nights 158 = .ok (.aload_n 0, 1) := by decide +kernel
theorem dX7_nights_159 : decode cX7_nights 159 = .ok (.getfield 248, 3) := by decide +kernel
theorem dX7_nights_162 : decode cX7_nights 162 = .ok (.imul, 1) := by decide +kernel
theorem dX7_nights_163 : decode cX7_nights 163 = .ok (.iload 4, 2) := by decide +kernel
theorem dX7_nights_165 : decode cX7_nights 165 = .ok (.iadd, 1) := by decide +kernel
theorem dX7_nights_166 : decode cX7_nights 166 = .ok (.aload_n 0, 1) := by decide +kernel
theorem dX7_nights_167 : decode cX7_nights 167 = .ok (.getfield 77, 3) := by decide +kernel
theorem dX7_nights_170 : decode cX7_nights 170 = .ok (.iload 4, 2) := by decide +kernel
theorem dX7_nights_172 : decode cX7_nights 172 = .ok (.iaload, 1) := by decide +kernel
theorem dX7_nights_173 : decode cX7_nights 173 = .ok (.iastore, 1) := by decide +kernel
theorem dX7_nights_174 : decode cX7_nights 174 = .ok (.iinc 4 1, 3) := by decide +kernel
theorem dX7_nights_177 : decode cX7_nights 177 = .ok (.goto (-32), 3) := by decide +kernel
theorem dX7_nights_180 : decode cX7_nights 180 = .ok (.iinc 3 1, 3) := by decide +kernel
theorem dX7_nights_183 : decode cX7_nights 183 = .ok (.goto (-131), 3) := by decide +kernel
theorem dX7_nights_186 : decode cX7_nights 186 = .ok (.iload_n 2, 1) := by decide +kernel
theorem dX7_nights_187 : decode cX7_nights 187 = .ok (.ireturn, 1) := by decide +kernel
theorem dX7_undo_0 : decode cX7_undo 0 = .ok (.aload_n 0, 1) := by decide +kernel
theorem dX7_undo_1 : decode cX7_undo 1 = .ok (.iconst 0, 1) := by decide +kernel
theorem dX7_undo_2 : decode cX7_undo 2 = .ok (.putfield 131, 3) := by decide +kernel
theorem dX7_undo_5 : decode cX7_undo 5 = .ok (.iload_n 1, 1) := by decide +kernel
theorem dX7_undo_6 : decode cX7_undo 6 = .ok (.ifCond .ge 9, 3) := by decide +kernel
theorem dX7_undo_9 : decode cX7_undo 9 = .ok (.aload_n 0, 1) := by decide +kernel
theorem dX7_undo_10 : decode cX7_undo 10 = .ok (.iconst 1, 1) := by decide +kernel
theorem dX7_undo_11 : decode cX7_undo 11 = .ok (.invokevirtual 235, 3) := by decide +kernel
theorem dX7_undo_14 : decode cX7_undo 14 = .ok (.ireturn, 1) := by decide +kernel
theorem dX7_undo_15 : decode cX7_undo 15 = .ok (.iload_n 1, 1) := by decide +kernel
theorem dX7_undo_16 : decode cX7_undo 16 = .ok (.aload_n 0, 1) := by decide +kernel
theorem dX7_undo_17 : decode cX7_undo 17 = .ok (.getfield 248, 3) := by decide +kernel
theorem dX7_undo_20 : decode cX7_undo 20 = .ok (.invokestatic 167, 3) := by decide +kernel
theorem dX7_undo_23 : decode cX7_undo 23 = .ok (.istore_n 2, 1) := by decide +kernel
theorem dX7_undo_24 : decode cX7_undo 24 = .ok (.iload_n 2, 1) := by decide +kernel
theorem dX7_undo_25 : decode cX7_undo 25 = .ok (.ifCond .ne 5, 3) := by decide +kernel
theorem dX7_undo_28 : decode cX7_undo 28 = .ok (.iconst 0, 1) := by decide +kernel
theorem dX7_undo_29 : decode cX7_undo 29 = .ok (.ireturn, 1) := by decide +kernel
theorem dX7_undo_30 : decode cX7_undo 30 = .ok (.aload_n 0, 1) := by decide +kernel
theorem dX7_undo_31 : decode cX7_undo 31 = .ok (.dup, 1) := by decide +kernel
theorem dX7_undo_32 : decode cX7_undo 32 = .ok (.getfield 248, 3) := by decide +kernel
theorem dX7_undo_35 : decode cX7_undo 35 = .ok (.iload_n 2, 1) := by decide +kernel
theorem dX7_undo_36 : decode cX7_undo 36 = .ok (.isub, 1) := by decide +kernel
theorem dX7_undo_37 : decode cX7_undo 37 = .ok (.putfield 248, 3) := by decide +kernel
theorem dX7_undo_40 : decode cX7_undo 40 = .ok (.iconst 0, 1) := by decide +kernel
theorem dX7_undo_41 : decode cX7_undo 41 = .ok (.istore_n 3, 1) := by decide +kernel
theorem dX7_undo_42 : decode cX7_undo 42 = .ok (.iload_n 3, 1) := by decide +kernel
theorem dX7_undo_43 : decode cX7_undo 43 = .ok (.bipush 18, 2) := by decide +kernel
theorem dX7_undo_45 : decode cX7_undo 45 = .ok (.if_icmp .ge 29, 3) := by decide +kernel
theorem dX7_undo_48 : decode cX7_undo 48 = .ok (.aload_n 0, 1) := by decide +kernel
theorem dX7_undo_49 : decode cX7_undo 49 = .ok (.getfield 77, 3) := by decide +kernel
theorem dX7_undo_52 : decode cX7_undo 52 = .ok (.iload_n 3, 1) := by decide +kernel
theorem dX7_undo_53 : decode cX7_undo 53 = .ok (.aload_n 0, 1) := by decide +kernel
theorem dX7_undo_54 : decode cX7_undo 54 = .ok (.getfield 95, 3) := by decide +kernel
theorem dX7_undo_57 : decode cX7_undo 57 = .ok (.bipush 18, 2) := by decide +kernel
theorem dX7_undo_59 : decode cX7_undo 59 = .ok (.aload_n 0, 1) := by decide +kernel
theorem dX7_undo_60 : decode cX7_undo 60 = .ok (.getfield 248, 3) := by decide +kernel
theorem dX7_undo_63 : decode cX7_undo 63 = .ok (.imul, 1) := by decide +kernel
theorem dX7_undo_64 : decode cX7_undo 64 = .ok (.iload_n 3, 1) := by decide +kernel
theorem dX7_undo_65 : decode cX7_undo 65 = .ok (.iadd, 1) := by decide +kernel
theorem dX7_undo_66 : decode cX7_undo 66 = .ok (.iaload, 1) := by decide +kernel
theorem dX7_undo_67 : decode cX7_undo 67 = .ok (.iastore, 1) := by decide +kernel
theorem dX7_undo_68 : decode cX7_undo 68 = .ok (.iinc 3 1, 3) := by decide +kernel
theorem dX7_undo_71 : decode cX7_undo 71 = .ok (.goto (-29), 3) := by decide +kernel
theorem dX7_undo_74 : decode cX7_undo 74 = .ok (.iconst 0, 1) := by decide +kernel
theorem dX7_undo_75 : decode cX7_undo 75 = .ok (.istore_n 3, 1) := by decide +kernel
theorem dX7_undo_76 : decode cX7_undo 76 = .ok (.iload_n 3, 1) := by decide +kernel
theorem dX7_undo_77 : decode cX7_undo 77 = .ok (.bipush 6, 2) := by decide +kernel
theorem dX7_undo_79 : decode cX7_undo 79 = .ok (.if_icmp .ge 48, 3) := by decide +kernel
theorem dX7_undo_82 : decode cX7_undo 82 = .ok (.aload_n 0, 1) := by decide +kernel
theorem dX7_undo_83 : decode cX7_undo 83 = .ok (.getfield 77, 3) := by decide +kernel
theorem dX7_undo_86 : decode cX7_undo 86 = .ok (.bipush 24, 2) := by decide +kernel
theorem dX7_undo_88 : decode cX7_undo 88 = .ok (.iload_n 3, 1) := by decide +kernel
theorem dX7_undo_89 : decode cX7_undo 89 = .ok (.iadd, 1) := by decide +kernel
theorem dX7_undo_90 : decode cX7_undo 90 = .ok (.iaload, 1) := by decide +kernel
theorem dX7_undo_91 : decode cX7_undo 91 = .ok (.aload_n 0, 1) := by decide +kernel
theorem dX7_undo_92 : decode cX7_undo 92 = .ok (.getfield 248, 3) := by decide +kernel
theorem dX7_undo_95 : decode cX7_undo 95 = .ok (.if_icmp .ge 6, 3) := by decide +kernel
theorem dX7_undo_98 : decode cX7_undo 98 = .ok (.goto 23, 3) := by decide +kernel
theorem dX7_undo_101 : decode cX7_undo 101 = .ok (.aload_n 0, 1) := by decide +kernel
theorem dX7_undo_102 : decode cX7_undo 102 = .ok (.getfield 77, 3) := by decide +kernel
theorem dX7_undo_105 : decode cX7_undo 105 = .ok (.bipush 24, 2) := by decide +kernel
theorem dX7_undo_107 : decode cX7_undo 107 = .ok (.iload_n 3, 1) := by decide +kernel
theorem dX7_undo_108 : decode cX7_undo 108 = .ok (.iadd, 1) := by decide +kernel
theorem dX7_undo_109 : decode cX7_undo 109 = .ok (.iconst (-1), 1) := by decide +kernel
theorem dX7_undo_110 : decode cX7_undo 110 = .ok (.iastore, 1) := by decide +kernel
theorem dX7_undo_111 : decode cX7_undo 111 = .ok (.aload_n 0, 1) := by decide +kernel
theorem dX7_undo_112 : decode cX7_undo 112 = .ok (.getfield 77, 3) := by decide +kernel
theorem dX7_undo_115 : decode cX7_undo 115 = .ok (.bipush 18, 2) := by decide +kernel
theorem dX7_undo_117 : decode cX7_undo 117 = .ok (.iload_n 3, 1) := by decide +kernel
theorem dX7_undo_118 : decode cX7_undo 118 = .ok (.iadd, 1) := by decide +kernel
theorem dX7_undo_119 : decode cX7_undo 119 = .ok (.iconst (-1), 1) := by decide +kernel
theorem dX7_undo_120 : decode cX7_undo 120 = .ok (.iastore, 1) := by decide +kernel
theorem dX7_undo_121 : decode cX7_undo 121 = .ok (.iinc 3 1, 3) := by decide +kernel
theorem dX7_undo_124 : decode cX7_undo 124 = .ok (.goto (-48), 3) := by decide +kernel
theorem dX7_undo_127 : decode cX7_undo 127 = .ok (.iload_n 2, 1) := by decide +kernel
theorem dX7_undo_128 : decode cX7_undo 128 = .ok (.ireturn, 1) := by decide +kernel
theorem dX7_book_0 : decode cX7_book 0 = .ok (.aload_n 0, 1) := by decide +kernel
theorem dX7_book_1 : decode cX7_book 1 = .ok (.iconst 0, 1) := by decide +kernel
theorem dX7_book_2 : decode cX7_book 2 = .ok (.putfield 131, 3) := by decide +kernel
theorem dX7_book_5 : decode cX7_book 5 = .ok (.aload_n 0, 1) := by decide +kernel
theorem dX7_book_6 : decode cX7_book 6 = .ok (.iload_n 2, 1) := by decide +kernel
theorem dX7_book_7 : decode cX7_book 7 = .ok (.invokevirtual 299, 3) := by decide +kernel
theorem dX7_book_10 : decode cX7_book 10 = .ok (.ifCond .eq 42, 3) := by decide +kernel
theorem dX7_book_13 : decode cX7_book 13 = .ok (.iload_n 3, 1) := by decide +kernel
theorem dX7_book_14 : decode cX7_book 14 = .ok (.iconst 0, 1) := by decide +kernel
theorem dX7_book_15 : decode cX7_book 15 = .ok (.iconst 2, 1) := by decide +kernel
theorem dX7_book_16 : decode cX7_book 16 = .ok (.invokestatic 134, 3) := by decide +kernel
theorem dX7_book_19 : decode cX7_book 19 = .ok (.ifCond .eq 33, 3) := by decide +kernel
theorem dX7_book_22 : decode cX7_book 22 = .ok (.iload_n 1, 1) := by decide +kernel
theorem dX7_book_23 : decode cX7_book 23 = .ok (.iconst 0, 1) := by decide +kernel
theorem dX7_book_24 : decode cX7_book 24 = .ok (.aload_n 0, 1) := by decide +kernel
theorem dX7_book_25 : decode cX7_book 25 = .ok (.getfield 248, 3) := by decide +kernel
theorem dX7_book_28 : decode cX7_book 28 = .ok (.invokestatic 134, 3) := by decide +kernel
theorem dX7_book_31 : decode cX7_book 31 = .ok (.ifCond .eq 21, 3) := by decide +kernel
theorem dX7_book_34 : decode cX7_book 34 = .ok (.aload_n 0, 1) := by decide +kernel
theorem dX7_book_35 : decode cX7_book 35 = .ok (.getfield 95, 3) := by decide +kernel
theorem dX7_book_38 : decode cX7_book 38 = .ok (.bipush 18, 2) := by decide +kernel
theorem dX7_book_40 : decode cX7_book 40 = .ok (.iload_n 1, 1) := by decide +kernel
theorem dX7_book_41 : decode cX7_book 41 = .ok (.imul, 1) := by decide +kernel
theorem dX7_book_42 : decode cX7_book 42 = .ok (.iconst 3, 1) := by decide +kernel
theorem dX7_book_43 : decode cX7_book 43 = .ok (.iload_n 2, 1) := by decide +kernel
theorem dX7_book_44 : decode cX7_book 44 = .ok (.imul, 1) := by decide +kernel
theorem dX7_book_45 : decode cX7_book 45 = .ok (.iadd, 1) := by decide +kernel
theorem dX7_book_46 : decode cX7_book 46 = .ok (.iload_n 3, 1) := by decide +kernel
theorem dX7_book_47 : decode cX7_book 47 = .ok (.iadd, 1) := by decide +kernel
theorem dX7_book_48 : decode cX7_book 48 = .ok (.iaload, 1) := by decide +kernel
theorem dX7_book_49 : decode cX7_book 49 = .ok (.goto 8, 3) := by decide +kernel
theorem dX7_book_52 : decode cX7_book 52 = .ok (.aload_n 0, 1) := by decide +kernel
theorem dX7_book_53 : decode cX7_book 53 = .ok (.iconst 1, 1) := by decide +kernel
theorem dX7_book_54 : decode cX7_book 54 = .ok (.invokevirtual 235, 3) := by decide +kernel
theorem dX7_book_57 : decode cX7_book 57 = .ok (.ireturn, 1) := by decide +kernel
theorem dX7_give_0 : decode cX7_give 0 = .ok (.aload_n 0, 1) := by decide +kernel
theorem dX7_give_1 : decode cX7_give 1 = .ok (.iconst 3, 1) := by decide +kernel
theorem dX7_give_2 : decode cX7_give 2 = .ok (.iload_n 1, 1) := by decide +kernel
theorem dX7_give_3 : decode cX7_give 3 = .ok (.imul, 1) := by decide +kernel
theorem dX7_give_4 : decode cX7_give 4 = .ok (.iload_n 2, 1) := by decide +kernel
theorem dX7_give_5 : decode cX7_give 5 = .ok (.iconst 3, 1) := by decide +kernel
theorem dX7_give_6 : decode cX7_give 6 = .ok (.idiv, 1) := by decide +kernel
theorem dX7_give_7 : decode cX7_give 7 = .ok (.iadd, 1) := by decide +kernel
theorem dX7_give_8 : decode cX7_give 8 = .ok (.dup2, 1) := by decide +kernel
theorem dX7_give_9 : decode cX7_give 9 = .ok (.iaload, 1) := by decide +kernel
theorem dX7_give_10 : decode cX7_give 10 = .ok (.iconst 1, 1) := by decide +kernel
theorem dX7_give_11 : decode cX7_give 11 = .ok (.isub, 1) := by decide +kernel
theorem dX7_give_12 : decode cX7_give 12 = .ok (.iastore, 1) := by decide +kernel
theorem dX7_give_13 : decode cX7_give 13 = .ok (.aload_n 0, 1) := by decide +kernel
theorem dX7_give_14 : decode cX7_give 14 = .ok (.iconst 3, 1) := by decide +kernel
theorem dX7_give_15 : decode cX7_give 15 = .ok (.iload_n 1, 1) := by decide +kernel
theorem dX7_give_16 : decode cX7_give 16 = .ok (.imul, 1) := by decide +kernel
theorem dX7_give_17 : decode cX7_give 17 = .ok (.iload_n 2, 1) := by decide +kernel
theorem dX7_give_18 : decode cX7_give 18 = .ok (.iconst 3, 1) := by decide +kernel
theorem dX7_give_19 : decode cX7_give 19 = .ok (.irem, 1) := by decide +kernel
theorem dX7_give_20 : decode cX7_give 20 = .ok (.iadd, 1) := by decide +kernel
theorem dX7_give_21 : decode cX7_give 21 = .ok (.dup2, 1) := by decide +kernel
theorem dX7_give_22 : decode cX7_give 22 = .ok (.iaload, 1) := by decide +kernel
theorem dX7_give_23 : decode cX7_give 23 = .ok (.iconst 1, 1) := by decide +kernel
theorem dX7_give_24 : decode cX7_give 24 = .ok (.iadd, 1) := by decide +kernel
theorem dX7_give_25 : decode cX7_give 25 = .ok (.iastore, 1) := by decide +kernel
theorem dX7_give_26 : decode cX7_give 26 = .ok (.return_, 1) := by decide +kernel
theorem dX7_drop_0 : decode cX7_drop 0 = .ok (.aload_n 0, 1) := by decide +kernel
theorem dX7_drop_1 : decode cX7_drop 1 = .ok (.iconst 0, 1) := by decide +kernel
theorem dX7_drop_2 : decode cX7_drop 2 = .ok (.putfield 131, 3) := by decide +kernel
theorem dX7_drop_5 : decode cX7_drop 5 = .ok (.aload_n 0, 1) := by decide +kernel
theorem dX7_drop_6 : decode cX7_drop 6 = .ok (.iload_n 1, 1) := by decide +kernel
theorem dX7_drop_7 : decode cX7_drop 7 = .ok (.invokevirtual 299, 3) := by decide +kernel
theorem dX7_drop_10 : decode cX7_drop 10 = .ok (.ifCond .eq 26, 3) := by decide +kernel
theorem dX7_drop_13 : decode cX7_drop 13 = .ok (.iload_n 2, 1) := by decide +kernel
theorem dX7_drop_14 : decode cX7_drop 14 = .ok (.iconst 0, 1) := by decide +kernel
theorem dX7_drop_15 : decode cX7_drop 15 = .ok (.iconst 2, 1) := by decide +kernel
theorem dX7_drop_16 : decode cX7_drop 16 = .ok (.invokestatic 134, 3) := by decide +kernel
theorem dX7_drop_19 : decode cX7_drop 19 = .ok (.ifCond .eq 17, 3) := by decide +kernel
theorem dX7_drop_22 : decode cX7_drop 22 = .ok (.iload_n 3, 1) := by decide +kernel
theorem dX7_drop_23 : decode cX7_drop 23 = .ok (.iconst 0, 1) := by decide +kernel
theorem dX7_drop_24 : decode cX7_drop 24 = .ok (.iconst 2, 1) := by decide +kernel
theorem dX7_drop_25 : decode cX7_drop 25 = .ok (.invokestatic 134, 3) := by decide +kernel
theorem dX7_drop_28 : decode cX7_drop 28 = .ok (.ifCond .eq 8, 3) := by decide +kernel
theorem dX7_drop_31 : decode cX7_drop 31 = .ok (.iload_n 2, 1) := by decide +kernel
theorem dX7_drop_32 : decode cX7_drop 32 = .ok (.iload_n 3, 1) := by decide +kernel
theorem dX7_drop_33 : decode cX7_drop 33 = .ok (.if_icmp .ne 10, 3) := by decide +kernel
theorem dX7_drop_36 : decode cX7_drop 36 = .ok (.aload_n 0, 1) := by decide +kernel
theorem dX7_drop_37 : decode cX7_drop 37 = .ok (.iconst 1, 1) := by decide +kernel
theorem dX7_drop_38 : decode cX7_drop 38 = .ok (.putfield 131, 3) := by decide +kernel
theorem dX7_drop_41 : decode cX7_drop 41 = .ok (.iconst 0, 1) := by decide +kernel
theorem dX7_drop_42 : decode cX7_drop 42 = .ok (.ireturn, 1) := by decide +kernel
theorem dX7_drop_43 : decode cX7_drop 43 = .ok (.aload_n 0, 1) := by decide +kernel
theorem dX7_drop_44 : decode cX7_drop 44 = .ok (.getfield 77, 3) := by decide +kernel
theorem dX7_drop_47 : decode cX7_drop 47 = .ok (.iload_n 1, 1) := by decide +kernel
theorem dX7_drop_48 : decode cX7_drop 48 = .ok (.invokestatic 261, 3) := by decide +kernel
theorem dX7_drop_51 : decode cX7_drop 51 = .ok (.ifCond .ne 16, 3) := by decide +kernel
theorem dX7_drop_54 : decode cX7_drop 54 = .ok (.aload_n 0, 1) := by decide +kernel
theorem dX7_drop_55 : decode cX7_drop 55 = .ok (.getfield 77, 3) := by decide +kernel
theorem dX7_drop_58 : decode cX7_drop 58 = .ok (.iconst 3, 1) := by decide +kernel
theorem dX7_drop_59 : decode cX7_drop 59 = .ok (.iload_n 1, 1) := by decide +kernel
theorem dX7_drop_60 : decode cX7_drop 60 = .ok (.imul, 1) := by decide +kernel
theorem dX7_drop_61 : decode cX7_drop 61 = .ok (.iload_n 2, 1) := by decide +kernel
theorem dX7_drop_62 : decode cX7_drop 62 = .ok (.iadd, 1) := by decide +kernel
theorem dX7_drop_63 : decode cX7_drop 63 = .ok (.iaload, 1) := by decide +kernel
theorem dX7_drop_64 : decode cX7_drop 64 = .ok (.ifCond .ne 15, 3) := by decide +kernel
theorem dX7_drop_67 : decode cX7_drop 67 = .ok (.aload_n 0, 1) := by decide +kernel
theorem dX7_drop_68 : decode cX7_drop 68 = .ok (.getfield 67, 3) := by decide +kernel
theorem dX7_drop_71 : decode cX7_drop 71 = .ok (.iconst 1, 1) := by decide +kernel
theorem dX7_drop_72 : decode cX7_drop 72 = .ok (.dup2, 1) := by decide +kernel
theorem dX7_drop_73 : decode cX7_drop 73 = .ok (.iaload, 1) := by decide +kernel
theorem dX7_drop_74 : decode cX7_drop 74 = .ok (.iconst 1, 1) := by decide +kernel
theorem dX7_drop_75 : decode cX7_drop 75 = .ok (.iadd, 1) := by decide +kernel
theorem dX7_drop_76 : decode cX7_drop 76 = .ok (.iastore, 1) := by decide +kernel
theorem dX7_drop_77 : decode cX7_drop 77 = .ok (.iconst 0, 1) := by decide +kernel
theorem dX7_drop_78 : decode cX7_drop 78 = .ok (.ireturn, 1) := by decide +kernel
theorem dX7_drop_79 : decode cX7_drop 79 = .ok (.aload_n 0, 1) := by decide +kernel
theorem dX7_drop_80 : decode cX7_drop 80 = .ok (.getfield 77, 3) := by decide +kernel
theorem dX7_drop_83 : decode cX7_drop 83 = .ok (.iload_n 1, 1) := by decide +kernel
theorem dX7_drop_84 : decode cX7_drop 84 = .ok (.iconst 3, 1) := by decide +kernel
theorem dX7_drop_85 : decode cX7_drop 85 = .ok (.iload_n 2, 1) := by decide +kernel
theorem dX7_drop_86 : decode cX7_drop 86 = .ok (.imul, 1) := by decide +kernel
theorem dX7_drop_87 : decode cX7_drop 87 = .ok (.iload_n 3, 1) := by decide +kernel
theorem dX7_drop_88 : decode cX7_drop 88 = .ok (.iadd, 1) := by decide +kernel
theorem dX7_drop_89 : decode cX7_drop 89 = .ok (.invokestatic 309, 3) := by decide +kernel
theorem dX7_drop_92 : decode cX7_drop 92 = .ok (.iconst 1, 1) := by decide +kernel
theorem dX7_drop_93 : decode cX7_drop 93 = .ok (.ireturn, 1) := by decide +kernel
theorem dX7_isAs_0 : decode cX7_isAs 0 = .ok (.aload_n 0, 1) := by decide +kernel
theorem dX7_isAs_1 : decode cX7_isAs 1 = .ok (.getfield 104, 3) := by decide +kernel
theorem dX7_isAs_4 : decode cX7_isAs 4 = .ok (.iload_n 1, 1) := by decide +kernel
theorem dX7_isAs_5 : decode cX7_isAs 5 = .ok (.iaload, 1) := by decide +kernel
theorem dX7_isAs_6 : decode cX7_isAs 6 = .ok (.aload_n 0, 1) := by decide +kernel
theorem dX7_isAs_7 : decode cX7_isAs 7 = .ok (.getfield 104, 3) := by decide +kernel
theorem dX7_isAs_10 : decode cX7_isAs 10 = .ok (.iload_n 2, 1) := by decide +kernel
theorem dX7_isAs_11 : decode cX7_isAs 11 = .ok (.iaload, 1) := by decide +kernel
theorem dX7_isAs_12 : decode cX7_isAs 12 = .ok (.if_icmp .ne 7, 3) := by decide +kernel
theorem dX7_isAs_15 : decode cX7_isAs 15 = .ok (.iconst 1, 1) := by decide +kernel
theorem dX7_isAs_16 : decode cX7_isAs 16 = .ok (.goto 4, 3) := by decide +kernel
theorem dX7_isAs_19 : decode cX7_isAs 19 = .ok (.iconst 0, 1) := by decide +kernel
theorem dX7_isAs_20 : decode cX7_isAs 20 = .ok (.istore_n 3, 1) := by decide +kernel
theorem dX7_isAs_21 : decode cX7_isAs 21 = .ok (.iconst 0, 1) := by decide +kernel
theorem dX7_isAs_22 : decode cX7_isAs 22 = .ok (.istore 4, 2) := by decide +kernel
theorem dX7_isAs_24 : decode cX7_isAs 24 = .ok (.iload 4, 2) := by decide +kernel
theorem dX7_isAs_26 : decode cX7_isAs 26 = .ok (.bipush 18, 2) := by decide +kernel
theorem dX7_isAs_28 : decode cX7_isAs 28 = .ok (.if_icmp .ge 46, 3) := by decide +kernel
theorem dX7_isAs_31 : decode cX7_isAs 31 = .ok (.iload_n 3, 1) := by decide +kernel
theorem dX7_isAs_32 : decode cX7_isAs 32 = .ok (.ifCond .eq 42, 3) := by decide +kernel
theorem dX7_isAs_35 : decode cX7_isAs 35 = .ok (.aload_n 0, 1) := by decide +kernel
theorem dX7_isAs_36 : decode cX7_isAs 36 = .ok (.getfield 101, 3) := by decide +kernel
theorem dX7_isAs_39 : decode cX7_isAs 39 = .ok (.bipush 18, 2) := by decide +kernel
theorem dX7_isAs_41 : decode cX7_isAs 41 = .ok (.iload_n 1, 1) := by decide +kernel
theorem dX7_isAs_42 : decode cX7_isAs 42 = .ok (.imul, 1) := by decide +kernel
theorem dX7_isAs_43 : decode cX7_isAs 43 = .ok (.iload 4, 2) := by decide +kernel
theorem dX7_isAs_45 : decode cX7_isAs 45 = .ok (.iadd, 1) := by decide +kernel
theorem dX7_isAs_46 : decode cX7_isAs 46 = .ok (.iaload, 1) := by decide +kernel
theorem dX7_isAs_47 : decode cX7_isAs 47 = .ok (.aload_n 0, 1) := by decide +kernel
theorem dX7_isAs_48 : decode cX7_isAs 48 = .ok (.getfield 101, 3) := by decide +kernel
theorem dX7_isAs_51 : decode cX7_isAs 51 = .ok (.bipush 18, 2) := by decide +kernel
theorem dX7_isAs_53 : decode cX7_isAs 53 = .ok (.iload_n 2, 1) := by decide +kernel
theorem dX7_isAs_54 : decode cX7_isAs 54 = .ok (.imul, 1) := by decide +kernel
theorem dX7_isAs_55 : decode cX7_isAs 55 = .ok (.iload 4, 2) := by decide +kernel
theorem dX7_isAs_57 : decode cX7_isAs 57 = .ok (.iadd, 1) := by decide +kernel
theorem dX7_isAs_58 : decode cX7_isAs 58 = .ok (.iaload, 1) := by decide +kernel
theorem dX7_isAs_59 : decode cX7_isAs 59 = .ok (.if_icmp .ne 7, 3) := by decide +kernel
theorem dX7_isAs_62 : decode cX7_isAs 62 = .ok (.iconst 1, 1) := by decide +kernel
theorem dX7_isAs_63 : decode cX7_isAs 63 = .ok (.goto 4, 3) := by decide +kernel
theorem dX7_isAs_66 : decode cX7_isAs 66 = .ok (.iconst 0, 1) := by decide +kernel
theorem dX7_isAs_67 : decode cX7_isAs 67 = .ok (.istore_n 3, 1) := by decide +kernel
theorem dX7_isAs_68 : decode cX7_isAs 68 = .ok (.iinc 4 1, 3) := by decide +kernel
theorem dX7_isAs_71 : decode cX7_isAs 71 = .ok (.goto (-47), 3) := by decide +kernel
theorem dX7_isAs_74 : decode cX7_isAs 74 = .ok (.iload_n 3, 1) := by decide +kernel
theorem dX7_isAs_75 : decode cX7_isAs 75 = .ok (.ireturn, 1) := by decide +kernel
theorem dX7_roundBy_0 : decode cX7_roundBy 0 = .ok (.aload_n 0, 1) := by decide +kernel
theorem dX7_roundBy_1 : decode cX7_roundBy 1 = .ok (.getfield 80, 3) := by decide +kernel
theorem dX7_roundBy_4 : decode cX7_roundBy 4 = .ok (.aload_n 0, 1) := by decide +kernel
theorem dX7_roundBy_5 : decode cX7_roundBy 5 = .ok (.getfield 77, 3) := by decide +kernel
theorem dX7_roundBy_8 : decode cX7_roundBy 8 = .ok (.invokestatic 287, 3) := by decide +kernel
theorem dX7_roundBy_11 : decode cX7_roundBy 11 = .ok (.aload_n 0, 1) := by decide +kernel
theorem dX7_roundBy_12 : decode cX7_roundBy 12 = .ok (.getfield 248, 3) := by decide +kernel
theorem dX7_roundBy_15 : decode cX7_roundBy 15 = .ok (.istore_n 1, 1) := by decide +kernel
theorem dX7_roundBy_16 : decode cX7_roundBy 16 = .ok (.iload_n 1, 1) := by decide +kernel
theorem dX7_roundBy_17 : decode cX7_roundBy 17 = .ok (.sipush 1100, 3) := by decide +kernel
theorem dX7_roundBy_20 : decode cX7_roundBy 20 = .ok (.if_icmp .gt 107, 3) := by decide +kernel
theorem dX7_roundBy_23 : decode cX7_roundBy 23 = .ok (.iload_n 1, 1) := by decide +kernel
theorem dX7_roundBy_24 : decode cX7_roundBy 24 = .ok (.bipush 100, 2) := by decide +kernel
theorem dX7_roundBy_26 : decode cX7_roundBy 26 = .ok (.if_icmp .lt 80, 3) := by decide +kernel
theorem dX7_roundBy_29 : decode cX7_roundBy 29 = .ok (.iload_n 1, 1) := by decide +kernel
theorem dX7_roundBy_30 : decode cX7_roundBy 30 = .ok (.bipush 100, 2) := by decide +kernel
theorem dX7_roundBy_32 : decode cX7_roundBy 32 = .ok (.isub, 1) := by decide +kernel
theorem dX7_roundBy_33 : decode cX7_roundBy 33 = .ok (.istore_n 2, 1) := by decide +kernel
theorem dX7_roundBy_34 : decode cX7_roundBy 34 = .ok (.iconst 0, 1) := by decide +kernel
theorem dX7_roundBy_35 : decode cX7_roundBy 35 = .ok (.istore_n 3, 1) := by decide +kernel
theorem dX7_roundBy_36 : decode cX7_roundBy 36 = .ok (.iload_n 3, 1) := by decide +kernel
theorem dX7_roundBy_37 : decode cX7_roundBy 37 = .ok (.bipush 18, 2) := by decide +kernel
theorem dX7_roundBy_39 : decode cX7_roundBy 39 = .ok (.if_icmp .ge 26, 3) := by decide +kernel
theorem dX7_roundBy_42 : decode cX7_roundBy 42 = .ok (.aload_n 0, 1) := by decide +kernel
theorem dX7_roundBy_43 : decode cX7_roundBy 43 = .ok (.getfield 101, 3) := by decide +kernel
theorem dX7_roundBy_46 : decode cX7_roundBy 46 = .ok (.bipush 18, 2) := by decide +kernel
theorem dX7_roundBy_48 : decode cX7_roundBy 48 = .ok (.iload_n 2, 1) := by decide +kernel
theorem dX7_roundBy_49 : decode cX7_roundBy 49 = .ok (.imul, 1) := by decide +kernel
theorem dX7_roundBy_50 : decode cX7_roundBy 50 = .ok (.iload_n 3, 1) := by decide +kernel
theorem dX7_roundBy_51 : decode cX7_roundBy 51 = .ok (.iadd, 1) := by decide +kernel
theorem dX7_roundBy_52 : decode cX7_roundBy 52 = .ok (.aload_n 0, 1) := by decide +kernel
theorem dX7_roundBy_53 : decode cX7_roundBy 53 = .ok (.getfield 80, 3) := by decide +kernel
theorem dX7_roundBy_56 : decode cX7_roundBy 56 = .ok (.iload_n 3, 1) := by decide +kernel
theorem dX7_roundBy_57 : decode cX7_roundBy 57 = .ok (.iaload, 1) := by decide +kernel
theorem dX7_roundBy_58 : decode cX7_roundBy 58 = .ok (.iastore, 1) := by decide +kernel
theorem dX7_roundBy_59 : decode cX7_roundBy 59 = .ok (.iinc 3 1, 3) := by decide +kernel
theorem dX7_roundBy_62 : decode cX7_roundBy 62 = .ok (.goto (-26), 3) := by decide +kernel
theorem dX7_roundBy_65 : decode cX7_roundBy 65 = .ok (.aload_n 0, 1) := by decide +kernel
theorem dX7_roundBy_66 : decode cX7_roundBy 66 = .ok (.getfield 104, 3) := by decide +kernel
theorem dX7_roundBy_69 : decode cX7_roundBy 69 = .ok (.iload_n 2, 1) := by decide +kernel
theorem dX7_roundBy_70 : decode cX7_roundBy 70 = .ok (.aload_n 0, 1) := by decide +kernel
theorem dX7_roundBy_71 : decode cX7_roundBy 71 = .ok (.aload_n 0, 1) := by decide +kernel
theorem dX7_roundBy_72 : decode cX7_roundBy 72 = .ok (.getfield 80, 3) := by decide +kernel
theorem dX7_roundBy_75 : decode cX7_roundBy 75 = .ok (.invokevirtual 302, 3) := by decide +kernel
theorem dX7_roundBy_78 : decode cX7_roundBy 78 = .ok (.iastore, 1) := by decide +kernel
theorem dX7_roundBy_79 : decode cX7_roundBy 79 = .ok (.iload_n 2, 1) := by decide +kernel
theorem dX7_roundBy_80 : decode cX7_roundBy 80 = .ok (.iconst 2, 1) := by decide +kernel
theorem dX7_roundBy_81 : decode cX7_roundBy 81 = .ok (.isub, 1) := by decide +kernel
theorem dX7_roundBy_82 : decode cX7_roundBy 82 = .ok (.istore_n 3, 1) := by decide +kernel
theorem dX7_roundBy_83 : decode cX7_roundBy 83 = .ok (.iload_n 3, 1) := by decide +kernel
theorem dX7_roundBy_84 : decode cX7_roundBy 84 = .ok (.ifCond .lt 22, 3) := by decide +kernel
theorem dX7_roundBy_87 : decode cX7_roundBy 87 = .ok (.aload_n 0, 1) := by decide +kernel
theorem dX7_roundBy_88 : decode cX7_roundBy 88 = .ok (.iload_n 3, 1) := by decide +kernel
theorem dX7_roundBy_89 : decode cX7_roundBy 89 = .ok (.iload_n 2, 1) := by decide +kernel
theorem dX7_roundBy_90 : decode cX7_roundBy 90 = .ok (.invokevirtual 313, 3) := by decide +kernel
theorem dX7_roundBy_93 : decode cX7_roundBy 93 = .ok (.ifCond .eq 7, 3) := by decide +kernel
theorem dX7_roundBy_96 : decode cX7_roundBy 96 = .ok (.iload_n 2, 1) := by decide +kernel
theorem dX7_roundBy_97 : decode cX7_roundBy 97 = .ok (.iload_n 3, 1) := by decide +kernel
theorem dX7_roundBy_98 : decode cX7_roundBy 98 = .ok (.isub, 1) := by decide +kernel
theorem dX7_roundBy_99 : decode cX7_roundBy 99 = .ok (.ireturn, 1) := by decide +kernel
theorem dX7_roundBy_100 : decode cX7_roundBy 100 = .ok (.iinc 3 (-2), 3) := by decide +kernel
theorem dX7_roundBy_103 : decode cX7_roundBy 103 = .ok (.goto (-20), 3) := by decide +kernel
theorem dX7_roundBy_106 : decode cX7_roundBy 106 = .ok (.aload_n 0, 1) := by decide +kernel
theorem dX7_roundBy_107 : decode cX7_roundBy 107 = .ok (.aload_n 0, 1) := by decide +kernel
theorem dX7_roundBy_108 : decode cX7_roundBy 108 = .ok (.getfield 80, 3) := by decide +kernel
theorem dX7_roundBy_111 : decode cX7_roundBy 111 = .ok (.iload_n 1, 1) := by decide +kernel
theorem dX7_roundBy_112 : decode cX7_roundBy 112 = .ok (.aload_n 0, 1) := by decide +kernel
theorem dX7_roundBy_113 : decode cX7_roundBy 113 = .ok (.getfield 55, 3) := by decide +kernel
theorem dX7_roundBy_116 : decode cX7_roundBy 116 = .ok (.iconst 0, 1) := by decide +kernel
theorem dX7_roundBy_117 : decode cX7_roundBy 117 = .ok (.invokevirtual 305, 3) := by decide +kernel
theorem dX7_roundBy_120 : decode cX7_roundBy 120 = .ok (.pop, 1) := by decide +kernel
theorem dX7_roundBy_121 : decode cX7_roundBy 121 = .ok (.iinc 1 1, 3) := by decide +kernel
theorem dX7_roundBy_124 : decode cX7_roundBy 124 = .ok (.goto (-108), 3) := by decide +kernel
theorem dX7_roundBy_127 : decode cX7_roundBy 127 = .ok (.iconst (-1), 1) := by decide +kernel
theorem dX7_roundBy_128 : decode cX7_roundBy 128 = .ok (.ireturn, 1) := by decide +kernel
theorem dX7_end_0 : decode cX7_end 0 = .ok (.aload_n 0, 1) := by decide +kernel
theorem dX7_end_1 : decode cX7_end 1 = .ok (.iconst 0, 1) := by decide +kernel
theorem dX7_end_2 : decode cX7_end 2 = .ok (.putfield 131, 3) := by decide +kernel
theorem dX7_end_5 : decode cX7_end 5 = .ok (.iload_n 1, 1) := by decide +kernel
theorem dX7_end_6 : decode cX7_end 6 = .ok (.ifCond .lt 8, 3) := by decide +kernel
theorem dX7_end_9 : decode cX7_end 9 = .ok (.iload_n 1, 1) := by decide +kernel
theorem dX7_end_10 : decode cX7_end 10 = .ok (.iconst 1, 1) := by decide +kernel
theorem dX7_end_11 : decode cX7_end 11 = .ok (.if_icmp .le 9, 3) := by decide +kernel
theorem dX7_end_14 : decode cX7_end 14 = .ok (.aload_n 0, 1) := by decide +kernel
theorem dX7_end_15 : decode cX7_end 15 = .ok (.iconst 1, 1) := by decide +kernel
theorem dX7_end_16 : decode cX7_end 16 = .ok (.invokevirtual 235, 3) := by decide +kernel
theorem dX7_end_19 : decode cX7_end 19 = .ok (.ireturn, 1) := by decide +kernel
theorem dX7_end_20 : decode cX7_end 20 = .ok (.aload_n 0, 1) := by decide +kernel
theorem dX7_end_21 : decode cX7_end 21 = .ok (.invokevirtual 317, 3) := by decide +kernel
theorem dX7_end_24 : decode cX7_end 24 = .ok (.istore_n 2, 1) := by decide +kernel
theorem dX7_end_25 : decode cX7_end 25 = .ok (.iload_n 2, 1) := by decide +kernel
theorem dX7_end_26 : decode cX7_end 26 = .ok (.iconst (-1), 1) := by decide +kernel
theorem dX7_end_27 : decode cX7_end 27 = .ok (.if_icmp .eq 7, 3) := by decide +kernel
theorem dX7_end_30 : decode cX7_end 30 = .ok (.iload_n 1, 1) := by decide +kernel
theorem dX7_end_31 : decode cX7_end 31 = .ok (.ifCond .ne 7, 3) := by decide +kernel
theorem dX7_end_34 : decode cX7_end 34 = .ok (.iload_n 2, 1) := by decide +kernel
theorem dX7_end_35 : decode cX7_end 35 = .ok (.goto 24, 3) := by decide +kernel
theorem dX7_end_38 : decode cX7_end 38 = .ok (.iconst 1, 1) := by decide +kernel
theorem dX7_end_39 : decode cX7_end 39 = .ok (.aload_n 0, 1) := by decide +kernel
theorem dX7_end_40 : decode cX7_end 40 = .ok (.getfield 43, 3) := by decide +kernel
theorem dX7_end_43 : decode cX7_end 43 = .ok (.iconst 1, 1) := by decide +kernel
theorem dX7_end_44 : decode cX7_end 44 = .ok (.iaload, 1) := by decide +kernel
theorem dX7_end_45 : decode cX7_end 45 = .ok (.ishl, 1) := by decide +kernel
theorem dX7_end_46 : decode cX7_end 46 = .ok (.iconst 1, 1) := by decide +kernel
theorem dX7_end_47 : decode cX7_end 47 = .ok (.isub, 1) := by decide +kernel
theorem dX7_end_48 : decode cX7_end 48 = .ok (.aload_n 0, 1) := by decide +kernel
theorem dX7_end_49 : decode cX7_end 49 = .ok (.aload_n 0, 1) := by decide +kernel
theorem dX7_end_50 : decode cX7_end 50 = .ok (.getfield 80, 3) := by decide +kernel
theorem dX7_end_53 : decode cX7_end 53 = .ok (.invokevirtual 302, 3) := by decide +kernel
theorem dX7_end_56 : decode cX7_end 56 = .ok (.iconst (-1), 1) := by decide +kernel
theorem dX7_end_57 : decode cX7_end 57 = .ok (.ixor, 1) := by decide +kernel
theorem dX7_end_58 : decode cX7_end 58 = .ok (.iand, 1) := by decide +kernel
theorem dX7_end_59 : decode cX7_end 59 = .ok (.ireturn, 1) := by decide +kernel
theorem dX7_matches_0 : decode cX7_matches 0 = .ok (.aload_n 0, 1) := by decide +kernel
theorem dX7_matches_1 : decode cX7_matches 1 = .ok (.iconst 0, 1) := by decide +kernel
theorem dX7_matches_2 : decode cX7_matches 2 = .ok (.putfield 131, 3) := by decide +kernel
theorem dX7_matches_5 : decode cX7_matches 5 = .ok (.iload_n 1, 1) := by decide +kernel
theorem dX7_matches_6 : decode cX7_matches 6 = .ok (.iconst 0, 1) := by decide +kernel
theorem dX7_matches_7 : decode cX7_matches 7 = .ok (.iconst 3, 1) := by decide +kernel
theorem dX7_matches_8 : decode cX7_matches 8 = .ok (.invokestatic 134, 3) := by decide +kernel
theorem dX7_matches_11 : decode cX7_matches 11 = .ok (.ifCond .ne 9, 3) := by decide +kernel
theorem dX7_matches_14 : decode cX7_matches 14 = .ok (.aload_n 0, 1) := by decide +kernel
theorem dX7_matches_15 : decode cX7_matches 15 = .ok (.iconst 1, 1) := by decide +kernel
theorem dX7_matches_16 : decode cX7_matches 16 = .ok (.invokevirtual 235, 3) := by decide +kernel
theorem dX7_matches_19 : decode cX7_matches 19 = .ok (.ireturn, 1) := by decide +kernel
theorem dX7_matches_20 : decode cX7_matches 20 = .ok (.aload_n 0, 1) := by decide +kernel
theorem dX7_matches_21 : decode cX7_matches 21 = .ok (.getfield 80, 3) := by decide +kernel
theorem dX7_matches_24 : decode cX7_matches 24 = .ok (.aload_n 0, 1) := by decide +kernel
theorem dX7_matches_25 : decode cX7_matches 25 = .ok (.getfield 77, 3) := by decide +kernel
theorem dX7_matches_28 : decode cX7_matches 28 = .ok (.invokestatic 287, 3) := by decide +kernel
theorem dX7_matches_31 : decode cX7_matches 31 = .ok (.aload_n 0, 1) := by decide +kernel
theorem dX7_matches_32 : decode cX7_matches 32 = .ok (.getfield 248, 3) := by decide +kernel
theorem dX7_matches_35 : decode cX7_matches 35 = .ok (.istore_n 2, 1) := by decide +kernel
theorem dX7_matches_36 : decode cX7_matches 36 = .ok (.iload_n 2, 1) := by decide +kernel
theorem dX7_matches_37 : decode cX7_matches 37 = .ok (.aload_n 0, 1) := by decide +kernel
theorem dX7_matches_38 : decode cX7_matches 38 = .ok (.getfield 43, 3) := by decide +kernel
theorem dX7_matches_41 : decode cX7_matches 41 = .ok (.iconst 5, 1) := by decide +kernel
theorem dX7_matches_42 : decode cX7_matches 42 = .ok (.iaload, 1) := by decide +kernel
theorem dX7_matches_43 : decode cX7_matches 43 = .ok (.if_icmp .ge 24, 3) := by decide +kernel
theorem dX7_matches_46 : decode cX7_matches 46 = .ok (.aload_n 0, 1) := by decide +kernel
theorem dX7_matches_47 : decode cX7_matches 47 = .ok (.aload_n 0, 1) := by decide +kernel
theorem dX7_matches_48 : decode cX7_matches 48 = .ok (.getfield 80, 3) := by decide +kernel
theorem dX7_matches_51 : decode cX7_matches 51 = .ok (.iload_n 2, 1) := by decide +kernel
theorem dX7_matches_52 : decode cX7_matches 52 = .ok (.aload_n 0, 1) := by decide +kernel
theorem dX7_matches_53 : decode cX7_matches 53 = .ok (.getfield 55, 3) := by decide +kernel
theorem dX7_matches_56 : decode cX7_matches 56 = .ok (.iload_n 1, 1) := by decide +kernel
theorem dX7_matches_57 : decode cX7_matches 57 = .ok (.invokevirtual 305, 3) := by decide +kernel
theorem dX7_matches_60 : decode cX7_matches 60 = .ok (.pop, 1) := by decide +kernel
theorem dX7_matches_61 : decode cX7_matches 61 = .ok (.iinc 2 1, 3) := by decide +kernel
theorem dX7_matches_64 : decode cX7_matches 64 = .ok (.goto (-28), 3) := by decide +kernel
theorem dX7_matches_67 : decode cX7_matches 67 = .ok (.aload_n 0, 1) := by decide +kernel
theorem dX7_matches_68 : decode cX7_matches 68 = .ok (.aload_n 0, 1) := by decide +kernel
theorem dX7_matches_69 : decode cX7_matches 69 = .ok (.getfield 80, 3) := by decide +kernel
theorem dX7_matches_72 : decode cX7_matches 72 = .ok (.invokevirtual 295, 3) := by decide +kernel
theorem dX7_matches_75 : decode cX7_matches 75 = .ok (.ireturn, 1) := by decide +kernel
theorem dX7_goOn_0 : decode cX7_goOn 0 = .ok (.aload_n 0, 1) := by decide +kernel
theorem dX7_goOn_1 : decode cX7_goOn 1 = .ok (.getfield 248, 3) := by decide +kernel
theorem dX7_goOn_4 : decode cX7_goOn 4 = .ok (.istore_n 1, 1) := by decide +kernel
theorem dX7_goOn_5 : decode cX7_goOn 5 = .ok (.iload_n 1, 1) := by decide +kernel
theorem dX7_goOn_6 : decode cX7_goOn 6 = .ok (.aload_n 0, 1) := by decide +kernel
theorem dX7_goOn_7 : decode cX7_goOn 7 = .ok (.getfield 43, 3) := by decide +kernel
theorem dX7_goOn_10 : decode cX7_goOn 10 = .ok (.iconst 5, 1) := by decide +kernel
theorem dX7_goOn_11 : decode cX7_goOn 11 = .ok (.iaload, 1) := by decide +kernel
theorem dX7_goOn_12 : decode cX7_goOn 12 = .ok (.if_icmp .ge 24, 3) := by decide +kernel
theorem dX7_goOn_15 : decode cX7_goOn 15 = .ok (.aload_n 0, 1) := by decide +kernel
theorem dX7_goOn_16 : decode cX7_goOn 16 = .ok (.aload_n 0, 1) := by decide +kernel
theorem dX7_goOn_17 : decode cX7_goOn 17 = .ok (.getfield 80, 3) := by decide +kernel
theorem dX7_goOn_20 : decode cX7_goOn 20 = .ok (.iload_n 1, 1) := by decide +kernel
theorem dX7_goOn_21 : decode cX7_goOn 21 = .ok (.aload_n 0, 1) := by decide +kernel
theorem dX7_goOn_22 : decode cX7_goOn 22 = .ok (.getfield 55, 3) := by decide +kernel
theorem dX7_goOn_25 : decode cX7_goOn 25 = .ok (.iconst 0, 1) := by decide +kernel
theorem dX7_goOn_26 : decode cX7_goOn 26 = .ok (.invokevirtual 305, 3) := by decide +kernel
theorem dX7_goOn_29 : decode cX7_goOn 29 = .ok (.pop, 1) := by decide +kernel
theorem dX7_goOn_30 : decode cX7_goOn 30 = .ok (.iinc 1 1, 3) := by decide +kernel
theorem dX7_goOn_33 : decode cX7_goOn 33 = .ok (.goto (-28), 3) := by decide +kernel
theorem dX7_goOn_36 : decode cX7_goOn 36 = .ok (.return_, 1) := by decide +kernel
theorem dX7_weds_0 : decode cX7_weds 0 = .ok (.aload_n 0, 1) := by decide +kernel
theorem dX7_weds_1 : decode cX7_weds 1 = .ok (.getfield 55, 3) := by decide +kernel
theorem dX7_weds_4 : decode cX7_weds 4 = .ok (.iload_n 1, 1) := by decide +kernel
theorem dX7_weds_5 : decode cX7_weds 5 = .ok (.iaload, 1) := by decide +kernel
theorem dX7_weds_6 : decode cX7_weds 6 = .ok (.iconst (-1), 1) := by decide +kernel
theorem dX7_weds_7 : decode cX7_weds 7 = .ok (.if_icmp .eq 33, 3) := by decide +kernel
theorem dX7_weds_10 : decode cX7_weds 10 = .ok (.aload_n 0, 1) := by decide +kernel
theorem dX7_weds_11 : decode cX7_weds 11 = .ok (.getfield 80, 3) := by decide +kernel
theorem dX7_weds_14 : decode cX7_weds 14 = .ok (.bipush 18, 2) := by decide +kernel
theorem dX7_weds_16 : decode cX7_weds 16 = .ok (.iload_n 1, 1) := by decide +kernel
theorem dX7_weds_17 : decode cX7_weds 17 = .ok (.iadd, 1) := by decide +kernel
theorem dX7_weds_18 : decode cX7_weds 18 = .ok (.iaload, 1) := by decide +kernel
theorem dX7_weds_19 : decode cX7_weds 19 = .ok (.aload_n 0, 1) := by decide +kernel
theorem dX7_weds_20 : decode cX7_weds 20 = .ok (.getfield 55, 3) := by decide +kernel
theorem dX7_weds_23 : decode cX7_weds 23 = .ok (.iload_n 1, 1) := by decide +kernel
theorem dX7_weds_24 : decode cX7_weds 24 = .ok (.iaload, 1) := by decide +kernel
theorem dX7_weds_25 : decode cX7_weds 25 = .ok (.if_icmp .ne 15, 3) := by decide +kernel
theorem dX7_weds_28 : decode cX7_weds 28 = .ok (.aload_n 0, 1) := by decide +kernel
theorem dX7_weds_29 : decode cX7_weds 29 = .ok (.getfield 80, 3) := by decide +kernel
theorem dX7_weds_32 : decode cX7_weds 32 = .ok (.bipush 24, 2) := by decide +kernel
theorem dX7_weds_34 : decode cX7_weds 34 = .ok (.iload_n 1, 1) := by decide +kernel
theorem dX7_weds_35 : decode cX7_weds 35 = .ok (.iadd, 1) := by decide +kernel
theorem dX7_weds_36 : decode cX7_weds 36 = .ok (.iaload, 1) := by decide +kernel
theorem dX7_weds_37 : decode cX7_weds 37 = .ok (.goto 6, 3) := by decide +kernel
theorem dX7_weds_40 : decode cX7_weds 40 = .ok (.sipush 1000, 3) := by decide +kernel
theorem dX7_weds_43 : decode cX7_weds 43 = .ok (.ireturn, 1) := by decide +kernel
theorem dX7_canGive_0 : decode cX7_canGive 0 = .ok (.iload_n 2, 1) := by decide +kernel
theorem dX7_canGive_1 : decode cX7_canGive 1 = .ok (.iconst 1, 1) := by decide +kernel
theorem dX7_canGive_2 : decode cX7_canGive 2 = .ok (.isub, 1) := by decide +kernel
theorem dX7_canGive_3 : decode cX7_canGive 3 = .ok (.istore_n 3, 1) := by decide +kernel
theorem dX7_canGive_4 : decode cX7_canGive 4 = .ok (.iload_n 2, 1) := by decide +kernel
theorem dX7_canGive_5 : decode cX7_canGive 5 = .ok (.ifCond .eq 27, 3) := by decide +kernel
theorem dX7_canGive_8 : decode cX7_canGive 8 = .ok (.iload_n 3, 1) := by decide +kernel
theorem dX7_canGive_9 : decode cX7_canGive 9 = .ok (.iconst 3, 1) := by decide +kernel
theorem dX7_canGive_10 : decode cX7_canGive 10 = .ok (.idiv, 1) := by decide +kernel
theorem dX7_canGive_11 : decode cX7_canGive 11 = .ok (.iload_n 3, 1) := by decide +kernel
theorem dX7_canGive_12 : decode cX7_canGive 12 = .ok (.iconst 3, 1) := by decide +kernel
theorem dX7_canGive_13 : decode cX7_canGive 13 = .ok (.irem, 1) := by decide +kernel
theorem dX7_canGive_14 : decode cX7_canGive 14 = .ok (.if_icmp .eq 22, 3) := by decide +kernel
theorem dX7_canGive_17 : decode cX7_canGive 17 = .ok (.aload_n 0, 1) := by decide +kernel
theorem dX7_canGive_18 : decode cX7_canGive 18 = .ok (.getfield 77, 3) := by decide +kernel
theorem dX7_canGive_21 : decode cX7_canGive 21 = .ok (.iconst 3, 1) := by decide +kernel
theorem dX7_canGive_22 : decode cX7_canGive 22 = .ok (.iload_n 1, 1) := by decide +kernel
theorem dX7_canGive_23 : decode cX7_canGive 23 = .ok (.imul, 1) := by decide +kernel
theorem dX7_canGive_24 : decode cX7_canGive 24 = .ok (.iload_n 3, 1) := by decide +kernel
theorem dX7_canGive_25 : decode cX7_canGive 25 = .ok (.iconst 3, 1) := by decide +kernel
theorem dX7_canGive_26 : decode cX7_canGive 26 = .ok (.idiv, 1) := by decide +kernel
theorem dX7_canGive_27 : decode cX7_canGive 27 = .ok (.iadd, 1) := by decide +kernel
theorem dX7_canGive_28 : decode cX7_canGive 28 = .ok (.iaload, 1) := by decide +kernel
theorem dX7_canGive_29 : decode cX7_canGive 29 = .ok (.ifCond .le 7, 3) := by decide +kernel
theorem dX7_canGive_32 : decode cX7_canGive 32 = .ok (.iconst 1, 1) := by decide +kernel
theorem dX7_canGive_33 : decode cX7_canGive 33 = .ok (.goto 4, 3) := by decide +kernel
theorem dX7_canGive_36 : decode cX7_canGive 36 = .ok (.iconst 0, 1) := by decide +kernel
theorem dX7_canGive_37 : decode cX7_canGive 37 = .ok (.ireturn, 1) := by decide +kernel
theorem dX7_mother_0 : decode cX7_mother 0 = .ok (.aload_n 0, 1) := by decide +kernel
theorem dX7_mother_1 : decode cX7_mother 1 = .ok (.iconst 0, 1) := by decide +kernel
theorem dX7_mother_2 : decode cX7_mother 2 = .ok (.putfield 131, 3) := by decide +kernel
theorem dX7_mother_5 : decode cX7_mother 5 = .ok (.aload_n 0, 1) := by decide +kernel
theorem dX7_mother_6 : decode cX7_mother 6 = .ok (.iload_n 1, 1) := by decide +kernel
theorem dX7_mother_7 : decode cX7_mother 7 = .ok (.invokevirtual 299, 3) := by decide +kernel
theorem dX7_mother_10 : decode cX7_mother 10 = .ok (.ifCond .eq 12, 3) := by decide +kernel
theorem dX7_mother_13 : decode cX7_mother 13 = .ok (.iload_n 2, 1) := by decide +kernel
theorem dX7_mother_14 : decode cX7_mother 14 = .ok (.ifCond .lt 8, 3) := by decide +kernel
theorem dX7_mother_17 : decode cX7_mother 17 = .ok (.iload_n 2, 1) := by decide +kernel
theorem dX7_mother_18 : decode cX7_mother 18 = .ok (.iconst 1, 1) := by decide +kernel
theorem dX7_mother_19 : decode cX7_mother 19 = .ok (.if_icmp .le 9, 3) := by decide +kernel
theorem dX7_mother_22 : decode cX7_mother 22 = .ok (.aload_n 0, 1) := by decide +kernel
theorem dX7_mother_23 : decode cX7_mother 23 = .ok (.iconst 1, 1) := by decide +kernel
theorem dX7_mother_24 : decode cX7_mother 24 = .ok (.invokevirtual 235, 3) := by decide +kernel
theorem dX7_mother_27 : decode cX7_mother 27 = .ok (.ireturn, 1) := by decide +kernel
theorem dX7_mother_28 : decode cX7_mother 28 = .ok (.iconst (-1), 1) := by decide +kernel
theorem dX7_mother_29 : decode cX7_mother 29 = .ok (.istore_n 3, 1) := by decide +kernel
theorem dX7_mother_30 : decode cX7_mother 30 = .ok (.sipush 1000, 3) := by decide +kernel
theorem dX7_mother_33 : decode cX7_mother 33 = .ok (.istore 4, 2) := by decide +kernel
theorem dX7_mother_35 : decode cX7_mother 35 = .ok (.iconst 0, 1) := by decide +kernel
theorem dX7_mother_36 : decode cX7_mother 36 = .ok (.istore 5, 2) := by decide +kernel
theorem dX7_mother_38 : decode cX7_mother 38 = .ok (.iload 5, 2) := by decide +kernel
theorem dX7_mother_40 : decode cX7_mother 40 = .ok (.bipush 9, 2) := by decide +kernel
theorem dX7_mother_42 : decode cX7_mother 42 = .ok (.if_icmp .ge 90, 3) := by decide +kernel
theorem dX7_mother_45 : decode cX7_mother 45 = .ok (.aload_n 0, 1) := by decide +kernel
theorem dX7_mother_46 : decode cX7_mother 46 = .ok (.getfield 77, 3) := by decide +kernel
theorem dX7_mother_49 : decode cX7_mother 49 = .ok (.iload_n 1, 1) := by decide +kernel
theorem dX7_mother_50 : decode cX7_mother 50 = .ok (.invokestatic 261, 3) := by decide +kernel
theorem dX7_mother_53 : decode cX7_mother 53 = .ok (.ifCond .ne 79, 3) := by decide +kernel
theorem dX7_mother_56 : decode cX7_mother 56 = .ok (.aload_n 0, 1) := by decide +kernel
theorem dX7_mother_57 : decode cX7_mother 57 = .ok (.iload_n 1, 1) := by decide +kernel
theorem dX7_mother_58 : decode cX7_mother 58 = .ok (.iload 5, 2) := by decide +kernel
theorem dX7_mother_60 : decode cX7_mother 60 = .ok (.invokevirtual 320, 3) := by decide +kernel
theorem dX7_mother_63 : decode cX7_mother 63 = .ok (.ifCond .ne 6, 3) := by decide +kernel
theorem dX7_mother_66 : decode cX7_mother 66 = .ok (.goto 60, 3) := by decide +kernel
theorem dX7_mother_69 : decode cX7_mother 69 = .ok (.aload_n 0, 1) := by decide +kernel
theorem dX7_mother_70 : decode cX7_mother 70 = .ok (.getfield 80, 3) := by decide +kernel
theorem dX7_mother_73 : decode cX7_mother 73 = .ok (.aload_n 0, 1) := by decide +kernel
theorem dX7_mother_74 : decode cX7_mother 74 = .ok (.getfield 77, 3) := by decide +kernel
theorem dX7_mother_77 : decode cX7_mother 77 = .ok (.invokestatic 287, 3) := by decide +kernel
theorem dX7_mother_80 : decode cX7_mother 80 = .ok (.iload 5, 2) := by decide +kernel
theorem dX7_mother_82 : decode cX7_mother 82 = .ok (.ifCond .le 15, 3) := by decide +kernel
theorem dX7_mother_85 : decode cX7_mother 85 = .ok (.aload_n 0, 1) := by decide +kernel
theorem dX7_mother_86 : decode cX7_mother 86 = .ok (.getfield 80, 3) := by decide +kernel
theorem dX7_mother_89 : decode cX7_mother 89 = .ok (.iload_n 1, 1) := by decide +kernel
theorem dX7_mother_90 : decode cX7_mother 90 = .ok (.iload 5, 2) := by decide +kernel
theorem dX7_mother_92 : decode cX7_mother 92 = .ok (.iconst 1, 1) := by decide +kernel
theorem dX7_mother_93 : decode cX7_mother 93 = .ok (.isub, 1) := by decide +kernel
theorem dX7_mother_94 : decode cX7_mother 94 = .ok (.invokestatic 309, 3) := by decide +kernel
theorem dX7_mother_97 : decode cX7_mother 97 = .ok (.aload_n 0, 1) := by decide +kernel
theorem dX7_mother_98 : decode cX7_mother 98 = .ok (.invokevirtual 323, 3) := by decide +kernel
theorem dX7_mother_101 : decode cX7_mother 101 = .ok (.aload_n 0, 1) := by decide +kernel
theorem dX7_mother_102 : decode cX7_mother 102 = .ok (.iload_n 1, 1) := by decide +kernel
theorem dX7_mother_103 : decode cX7_mother 103 = .ok (.invokevirtual 326, 3) := by decide +kernel
theorem dX7_mother_106 : decode cX7_mother 106 = .ok (.iload 4, 2) := by decide +kernel
theorem dX7_mother_108 : decode cX7_mother 108 = .ok (.if_icmp .lt 6, 3) := by decide +kernel
theorem dX7_mother_111 : decode cX7_mother 111 = .ok (.goto 15, 3) := by decide +kernel
theorem dX7_mother_114 : decode cX7_mother 114 = .ok (.aload_n 0, 1) := by decide +kernel
theorem dX7_mother_115 : decode cX7_mother 115 = .ok (.iload_n 1, 1) := by decide +kernel
theorem dX7_mother_116 : decode cX7_mother 116 = .ok (.invokevirtual 326, 3) := by decide +kernel
theorem dX7_mother_119 : decode cX7_mother 119 = .ok (.istore 4, 2) := by decide +kernel
theorem dX7_mother_121 : decode cX7_mother 121 = .ok (.iload 5, 2) := by decide +kernel
theorem dX7_mother_123 : decode cX7_mother 123 = .ok (.iconst 1, 1) := by decide +kernel
theorem dX7_mother_124 : decode cX7_mother 124 = .ok (.isub, 1) := by decide +kernel
theorem dX7_mother_125 : decode cX7_mother 125 = .ok (.istore_n 3, 1) := by decide +kernel
theorem dX7_mother_126 : decode cX7_mother 126 = .ok (.iinc 5 1, 3) := by decide +kernel
theorem dX7_mother_129 : decode cX7_mother 129 = .ok (.goto (-91), 3) := by decide +kernel
theorem dX7_mother_132 : decode cX7_mother 132 = .ok (.iload_n 2, 1) := by decide +kernel
theorem dX7_mother_133 : decode cX7_mother 133 = .ok (.ifCond .ne 7, 3) := by decide +kernel
theorem dX7_mother_136 : decode cX7_mother 136 = .ok (.iload_n 3, 1) := by decide +kernel
theorem dX7_mother_137 : decode cX7_mother 137 = .ok (.goto 17, 3) := by decide +kernel
theorem dX7_mother_140 : decode cX7_mother 140 = .ok (.iload 4, 2) := by decide +kernel
theorem dX7_mother_142 : decode cX7_mother 142 = .ok (.sipush 1000, 3) := by decide +kernel
theorem dX7_mother_145 : decode cX7_mother 145 = .ok (.if_icmp .ne 7, 3) := by decide +kernel
theorem dX7_mother_148 : decode cX7_mother 148 = .ok (.iconst (-1), 1) := by decide +kernel
theorem dX7_mother_149 : decode cX7_mother 149 = .ok (.goto 5, 3) := by decide +kernel
theorem dX7_mother_152 : decode cX7_mother 152 = .ok (.iload 4, 2) := by decide +kernel
theorem dX7_mother_154 : decode cX7_mother 154 = .ok (.ireturn, 1) := by decide +kernel
theorem dX7_isRow_0 : decode cX7_isRow 0 = .ok (.iload_n 1, 1) := by decide +kernel
theorem dX7_isRow_1 : decode cX7_isRow 1 = .ok (.istore_n 2, 1) := by decide +kernel
theorem dX7_isRow_2 : decode cX7_isRow 2 = .ok (.aload_n 0, 1) := by decide +kernel
theorem dX7_isRow_3 : decode cX7_isRow 3 = .ok (.getfield 329, 3) := by decide +kernel
theorem dX7_isRow_6 : decode cX7_isRow 6 = .ok (.iconst 1, 1) := by decide +kernel
theorem dX7_isRow_7 : decode cX7_isRow 7 = .ok (.isub, 1) := by decide +kernel
theorem dX7_isRow_8 : decode cX7_isRow 8 = .ok (.istore_n 3, 1) := by decide +kernel
theorem dX7_isRow_9 : decode cX7_isRow 9 = .ok (.iload_n 3, 1) := by decide +kernel
theorem dX7_isRow_10 : decode cX7_isRow 10 = .ok (.ifCond .lt 33, 3) := by decide +kernel
theorem dX7_isRow_13 : decode cX7_isRow 13 = .ok (.aload_n 0, 1) := by decide +kernel
theorem dX7_isRow_14 : decode cX7_isRow 14 = .ok (.aload_n 0, 1) := by decide +kernel
theorem dX7_isRow_15 : decode cX7_isRow 15 = .ok (.getfield 107, 3) := by decide +kernel
theorem dX7_isRow_18 : decode cX7_isRow 18 = .ok (.iload_n 3, 1) := by decide +kernel
theorem dX7_isRow_19 : decode cX7_isRow 19 = .ok (.iaload, 1) := by decide +kernel
theorem dX7_isRow_20 : decode cX7_isRow 20 = .ok (.iload_n 2, 1) := by decide +kernel
theorem dX7_isRow_21 : decode cX7_isRow 21 = .ok (.bipush 9, 2) := by decide +kernel
theorem dX7_isRow_23 : decode cX7_isRow 23 = .ok (.irem, 1) := by decide +kernel
theorem dX7_isRow_24 : decode cX7_isRow 24 = .ok (.invokevirtual 320, 3) := by decide +kernel
theorem dX7_isRow_27 : decode cX7_isRow 27 = .ok (.ifCond .ne 5, 3) := by decide +kernel
theorem dX7_isRow_30 : decode cX7_isRow 30 = .ok (.iconst 0, 1) := by decide +kernel
theorem dX7_isRow_31 : decode cX7_isRow 31 = .ok (.ireturn, 1) := by decide +kernel
theorem dX7_isRow_32 : decode cX7_isRow 32 = .ok (.iload_n 2, 1) := by decide +kernel
theorem dX7_isRow_33 : decode cX7_isRow 33 = .ok (.bipush 9, 2) := by decide +kernel
theorem dX7_isRow_35 : decode cX7_isRow 35 = .ok (.idiv, 1) := by decide +kernel
theorem dX7_isRow_36 : decode cX7_isRow 36 = .ok (.istore_n 2, 1) := by decide +kernel
theorem dX7_isRow_37 : decode cX7_isRow 37 = .ok (.iinc 3 (-1), 3) := by decide +kernel
theorem dX7_isRow_40 : decode cX7_isRow 40 = .ok (.goto (-31), 3) := by decide +kernel
theorem dX7_isRow_43 : decode cX7_isRow 43 = .ok (.iconst 1, 1) := by decide +kernel
theorem dX7_isRow_44 : decode cX7_isRow 44 = .ok (.ireturn, 1) := by decide +kernel
theorem dX7_powerOf9_0 : decode cX7_powerOf9 0 = .ok (.iconst 1, 1) := by decide +kernel
theorem dX7_powerOf9_1 : decode cX7_powerOf9 1 = .ok (.istore_n 1, 1) := by decide +kernel
theorem dX7_powerOf9_2 : decode cX7_powerOf9 2 = .ok (.iconst 0, 1) := by decide +kernel
theorem dX7_powerOf9_3 : decode cX7_powerOf9 3 = .ok (.istore_n 2, 1) := by decide +kernel
theorem dX7_powerOf9_4 : decode cX7_powerOf9 4 = .ok (.iload_n 2, 1) := by decide +kernel
theorem dX7_powerOf9_5 : decode cX7_powerOf9 5 = .ok (.iload_n 0, 1) := by decide +kernel
theorem dX7_powerOf9_6 : decode cX7_powerOf9 6 = .ok (.if_icmp .ge 14, 3) := by decide +kernel
theorem dX7_powerOf9_9 : decode cX7_powerOf9 9 = .ok (.iload_n 1, 1) := by decide +kernel
theorem dX7_powerOf9_10 : decode cX7_powerOf9 10 = .ok (.bipush 9, 2) := by decide +kernel
theorem dX7_powerOf9_12 : decode cX7_powerOf9 12 = .ok (.imul, 1) := by decide +kernel
theorem dX7_powerOf9_13 : decode cX7_powerOf9 13 = .ok (.istore_n 1, 1) := by decide +kernel
theorem dX7_powerOf9_14 : decode cX7_powerOf9 14 = .ok (.iinc 2 1, 3) := by decide +kernel
theorem dX7_powerOf9_17 : decode cX7_powerOf9 17 = .ok (.goto (-13), 3) := by decide +kernel
theorem dX7_powerOf9_20 : decode cX7_powerOf9 20 = .ok (.iload_n 1, 1) := by decide +kernel
theorem dX7_powerOf9_21 : decode cX7_powerOf9 21 = .ok (.ireturn, 1) := by decide +kernel
theorem dX7_tellRow_0 : decode cX7_tellRow 0 = .ok (.aload_n 0, 1) := by decide +kernel
theorem dX7_tellRow_1 : decode cX7_tellRow 1 = .ok (.getfield 80, 3) := by decide +kernel
theorem dX7_tellRow_4 : decode cX7_tellRow 4 = .ok (.aload_n 0, 1) := by decide +kernel
theorem dX7_tellRow_5 : decode cX7_tellRow 5 = .ok (.getfield 77, 3) := by decide +kernel
theorem dX7_tellRow_8 : decode cX7_tellRow 8 = .ok (.invokestatic 287, 3) := by decide +kernel
theorem dX7_tellRow_11 : decode cX7_tellRow 11 = .ok (.iload_n 1, 1) := by decide +kernel
theorem dX7_tellRow_12 : decode cX7_tellRow 12 = .ok (.istore_n 2, 1) := by decide +kernel
theorem dX7_tellRow_13 : decode cX7_tellRow 13 = .ok (.aload_n 0, 1) := by decide +kernel
theorem dX7_tellRow_14 : decode cX7_tellRow 14 = .ok (.getfield 329, 3) := by decide +kernel
theorem dX7_tellRow_17 : decode cX7_tellRow 17 = .ok (.iconst 1, 1) := by decide +kernel
theorem dX7_tellRow_18 : decode cX7_tellRow 18 = .ok (.isub, 1) := by decide +kernel
theorem dX7_tellRow_19 : decode cX7_tellRow 19 = .ok (.istore_n 3, 1) := by decide +kernel
theorem dX7_tellRow_20 : decode cX7_tellRow 20 = .ok (.iload_n 3, 1) := by decide +kernel
theorem dX7_tellRow_21 : decode cX7_tellRow 21 = .ok (.ifCond .lt 40, 3) := by decide +kernel
theorem dX7_tellRow_24 : decode cX7_tellRow 24 = .ok (.iload_n 2, 1) := by decide +kernel
theorem dX7_tellRow_25 : decode cX7_tellRow 25 = .ok (.bipush 9, 2) := by decide +kernel
theorem dX7_tellRow_27 : decode cX7_tellRow 27 = .ok (.irem, 1) := by decide +kernel
theorem dX7_tellRow_28 : decode cX7_tellRow 28 = .ok (.ifCond .le 22, 3) := by decide +kernel
theorem dX7_tellRow_31 : decode cX7_tellRow 31 = .ok (.aload_n 0, 1) := by decide +kernel
theorem dX7_tellRow_32 : decode cX7_tellRow 32 = .ok (.getfield 80, 3) := by decide +kernel
theorem dX7_tellRow_35 : decode cX7_tellRow 35 = .ok (.aload_n 0, 1) := by decide +kernel
theorem dX7_tellRow_36 : decode cX7_tellRow 36 = .ok (.getfield 107, 3) := by decide +kernel
theorem dX7_tellRow_39 : decode cX7_tellRow 39 = .ok (.iload_n 3, 1) := by decide +kernel
theorem dX7_tellRow_40 : decode cX7_tellRow 40 = .ok (.iaload, 1) := by decide +kernel
theorem dX7_tellRow_41 : decode cX7_tellRow 41 = .ok (.iload_n 2, 1) := by decide +kernel
theorem dX7_tellRow_42 : decode cX7_tellRow 42 = .ok (.bipush 9, 2) := by decide +kernel
theorem dX7_tellRow_44 : decode cX7_tellRow 44 = .ok (.irem, 1) := by decide +kernel
theorem dX7_tellRow_45 : decode cX7_tellRow 45 = .ok (.iconst 1, 1) := by decide +kernel
theorem dX7_tellRow_46 : decode cX7_tellRow 46 = .ok (.isub, 1) := by decide +kernel
theorem dX7_tellRow_47 : decode cX7_tellRow 47 = .ok (.invokestatic 309, 3) := by decide +kernel
theorem dX7_tellRow_50 : decode cX7_tellRow 50 = .ok (.iload_n 2, 1) := by decide +kernel
theorem dX7_tellRow_51 : decode cX7_tellRow 51 = .ok (.bipush 9, 2) := by decide +kernel
theorem dX7_tellRow_53 : decode cX7_tellRow 53 = .ok (.idiv, 1) := by decide +kernel
theorem dX7_tellRow_54 : decode cX7_tellRow 54 = .ok (.istore_n 2, 1) := by decide +kernel
theorem dX7_tellRow_55 : decode cX7_tellRow 55 = .ok (.iinc 3 (-1), 3) := by decide +kernel
theorem dX7_tellRow_58 : decode cX7_tellRow 58 = .ok (.goto (-38), 3) := by decide +kernel
theorem dX7_tellRow_61 : decode cX7_tellRow 61 = .ok (.aload_n 0, 1) := by decide +kernel
theorem dX7_tellRow_62 : decode cX7_tellRow 62 = .ok (.invokevirtual 323, 3) := by decide +kernel
theorem dX7_tellRow_65 : decode cX7_tellRow 65 = .ok (.iconst 0, 1) := by decide +kernel
theorem dX7_tellRow_66 : decode cX7_tellRow 66 = .ok (.istore_n 3, 1) := by decide +kernel
theorem dX7_tellRow_67 : decode cX7_tellRow 67 = .ok (.iload_n 3, 1) := by decide +kernel
theorem dX7_tellRow_68 : decode cX7_tellRow 68 = .ok (.aload_n 0, 1) := by decide +kernel
theorem dX7_tellRow_69 : decode cX7_tellRow 69 = .ok (.getfield 329, 3) := by decide +kernel
theorem dX7_tellRow_72 : decode cX7_tellRow 72 = .ok (.if_icmp .ge 29, 3) := by decide +kernel
