theorem dX5_findGoal_82 : decode cX5_findGoal 82 = .ok (.aload_n 0, 1) := by decide +kernel
theorem dX5_findGoal_83 : decode cX5_findGoal 83 = .ok (.getfield 15, 3) := by decide +kernel
theorem dX5_findGoal_86 : decode cX5_findGoal 86 = .ok (.aload_n 1, 1) := by decide +kernel
theorem dX5_findGoal_87 : decode cX5_findGoal 87 = .ok (.getfield 38, 3) := by decide +kernel
theorem dX5_findGoal_90 : decode cX5_findGoal 90 = .ok (.iload_n 2, 1) := by decide +kernel
theorem dX5_findGoal_91 : decode cX5_findGoal 91 = .ok (.iload 6, 2) := by decide +kernel
theorem dX5_findGoal_93 : decode cX5_findGoal 93 = .ok (.invokevirtual 111, 3) := by decide +kernel
theorem dX5_findGoal_96 : decode cX5_findGoal 96 = .ok (.ifCond .ne 16, 3) := by decide +kernel
theorem dX5_findGoal_99 : decode cX5_findGoal 99 = .ok (.iload 6, 2) := by decide +kernel
theorem dX5_findGoal_101 : decode cX5_findGoal 101 = .ok (.istore 4, 2) := by decide +kernel
theorem dX5_findGoal_103 : decode cX5_findGoal 103 = .ok (.aload_n 1, 1) := by decide +kernel
theorem dX5_findGoal_104 : decode cX5_findGoal 104 = .ok (.iload_n 2, 1) := by decide +kernel
theorem dX5_findGoal_105 : decode cX5_findGoal 105 = .ok (.iload 6, 2) := by decide +kernel
theorem dX5_findGoal_107 : decode cX5_findGoal 107 = .ok (.invokevirtual 104, 3) := by decide +kernel
theorem dX5_findGoal_110 : decode cX5_findGoal 110 = .ok (.istore 5, 2) := by decide +kernel
theorem dX5_findGoal_112 : decode cX5_findGoal 112 = .ok (.iinc 6 1, 3) := by decide +kernel
theorem dX5_findGoal_115 : decode cX5_findGoal 115 = .ok (.goto (-72), 3) := by decide +kernel
theorem dX5_findGoal_118 : decode cX5_findGoal 118 = .ok (.iload 4, 2) := by decide +kernel
theorem dX5_findGoal_120 : decode cX5_findGoal 120 = .ok (.ireturn, 1) := by decide +kernel
theorem dX5_goTowards_0 : decode cX5_goTowards 0 = .ok (.iload_n 2, 1) := by decide +kernel
theorem dX5_goTowards_1 : decode cX5_goTowards 1 = .ok (.iconst 3, 1) := by decide +kernel
theorem dX5_goTowards_2 : decode cX5_goTowards 2 = .ok (.imul, 1) := by decide +kernel
theorem dX5_goTowards_3 : decode cX5_goTowards 3 = .ok (.istore 4, 2) := by decide +kernel
theorem dX5_goTowards_5 : decode cX5_goTowards 5 = .ok (.aload_n 0, 1) := by decide +kernel
theorem dX5_goTowards_6 : decode cX5_goTowards 6 = .ok (.getfield 15, 3) := by decide +kernel
theorem dX5_goTowards_9 : decode cX5_goTowards 9 = .ok (.getfield 97, 3) := by decide +kernel
theorem dX5_goTowards_12 : decode cX5_goTowards 12 = .ok (.iload_n 2, 1) := by decide +kernel
theorem dX5_goTowards_13 : decode cX5_goTowards 13 = .ok (.iaload, 1) := by decide +kernel
theorem dX5_goTowards_14 : decode cX5_goTowards 14 = .ok (.iconst 2, 1) := by decide +kernel
theorem dX5_goTowards_15 : decode cX5_goTowards 15 = .ok (.if_icmp .ne 12, 3) := by decide +kernel
theorem dX5_goTowards_18 : decode cX5_goTowards 18 = .ok (.iconst 2, 1) := by decide +kernel
theorem dX5_goTowards_19 : decode cX5_goTowards 19 = .ok (.aload_n 0, 1) := by decide +kernel
theorem dX5_goTowards_20 : decode cX5_goTowards 20 = .ok (.getfield 29, 3) := by decide +kernel
theorem dX5_goTowards_23 : decode cX5_goTowards 23 = .ok (.imul, 1) := by decide +kernel
theorem dX5_goTowards_24 : decode cX5_goTowards 24 = .ok (.goto 7, 3) := by decide +kernel
theorem dX5_goTowards_27 : decode cX5_goTowards 27 = .ok (.aload_n 0, 1) := by decide +kernel
theorem dX5_goTowards_28 : decode cX5_goTowards 28 = .ok (.getfield 29, 3) := by decide +kernel
theorem dX5_goTowards_31 : decode cX5_goTowards 31 = .ok (.istore 5, 2) := by decide +kernel
theorem dX5_goTowards_33 : decode cX5_goTowards 33 = .ok (.iconst 0, 1) := by decide +kernel
theorem dX5_goTowards_34 : decode cX5_goTowards 34 = .ok (.istore 6, 2) := by decide +kernel
theorem dX5_goTowards_36 : decode cX5_goTowards 36 = .ok (.iload 6, 2) := by decide +kernel
theorem dX5_goTowards_38 : decode cX5_goTowards 38 = .ok (.iload 5, 2) := by decide +kernel
theorem dX5_goTowards_40 : decode cX5_goTowards 40 = .ok (.if_icmp .ge 165, 3) := by decide +kernel
theorem dX5_goTowards_43 : decode cX5_goTowards 43 = .ok (.iconst 0, 1) := by decide +kernel
theorem dX5_goTowards_44 : decode cX5_goTowards 44 = .ok (.istore 7, 2) := by decide +kernel
theorem dX5_goTowards_46 : decode cX5_goTowards 46 = .ok (.iconst 0, 1) := by decide +kernel
theorem dX5_goTowards_47 : decode cX5_goTowards 47 = .ok (.istore 8, 2) := by decide +kernel
theorem dX5_goTowards_49 : decode cX5_goTowards 49 = .ok (.iconst 1, 1) := by decide +kernel
theorem dX5_goTowards_50 : decode cX5_goTowards 50 = .ok (.istore 9, 2) := by decide +kernel
theorem dX5_goTowards_52 : decode cX5_goTowards 52 = .ok (.iload 9, 2) := by decide +kernel
theorem dX5_goTowards_54 : decode cX5_goTowards 54 = .ok (.iconst 3, 1) := by decide +kernel
theorem dX5_goTowards_55 : decode cX5_goTowards 55 = .ok (.if_icmp .ge 95, 3) := by decide +kernel
theorem dX5_goTowards_58 : decode cX5_goTowards 58 = .ok (.aload_n 0, 1) := by decide +kernel
theorem dX5_goTowards_59 : decode cX5_goTowards 59 = .ok (.getfield 9, 3) := by decide +kernel
theorem dX5_goTowards_62 : decode cX5_goTowards 62 = .ok (.iload 4, 2) := by decide +kernel
theorem dX5_goTowards_64 : decode cX5_goTowards 64 = .ok (.iload 9, 2) := by decide +kernel
theorem dX5_goTowards_66 : decode cX5_goTowards 66 = .ok (.iadd, 1) := by decide +kernel
theorem dX5_goTowards_67 : decode cX5_goTowards 67 = .ok (.iaload, 1) := by decide +kernel
theorem dX5_goTowards_68 : decode cX5_goTowards 68 = .ok (.aload_n 1, 1) := by decide +kernel
theorem dX5_goTowards_69 : decode cX5_goTowards 69 = .ok (.getfield 69, 3) := by decide +kernel
theorem dX5_goTowards_72 : decode cX5_goTowards 72 = .ok (.iload_n 3, 1) := by decide +kernel
theorem dX5_goTowards_73 : decode cX5_goTowards 73 = .ok (.iconst 3, 1) := by decide +kernel
theorem dX5_goTowards_74 : decode cX5_goTowards 74 = .ok (.imul, 1) := by decide +kernel
theorem dX5_goTowards_75 : decode cX5_goTowards 75 = .ok (.iload 9, 2) := by decide +kernel
theorem dX5_goTowards_77 : decode cX5_goTowards 77 = .ok (.iadd, 1) := by decide +kernel
theorem dX5_goTowards_78 : decode cX5_goTowards 78 = .ok (.iaload, 1) := by decide +kernel
theorem dX5_goTowards_79 : decode cX5_goTowards 79 = .ok (.isub, 1) := by decide +kernel
theorem dX5_goTowards_80 : decode cX5_goTowards 80 = .ok (.istore 10, 2) := by decide +kernel
theorem dX5_goTowards_82 : decode cX5_goTowards 82 = .ok (.iload 10, 2) := by decide +kernel
theorem dX5_goTowards_84 : decode cX5_goTowards 84 = .ok (.aload_n 0, 1) := by decide +kernel
theorem dX5_goTowards_85 : decode cX5_goTowards 85 = .ok (.getfield 9, 3) := by decide +kernel
theorem dX5_goTowards_88 : decode cX5_goTowards 88 = .ok (.iload 4, 2) := by decide +kernel
theorem dX5_goTowards_90 : decode cX5_goTowards 90 = .ok (.iload 7, 2) := by decide +kernel
theorem dX5_goTowards_92 : decode cX5_goTowards 92 = .ok (.iadd, 1) := by decide +kernel
theorem dX5_goTowards_93 : decode cX5_goTowards 93 = .ok (.iaload, 1) := by decide +kernel
theorem dX5_goTowards_94 : decode cX5_goTowards 94 = .ok (.aload_n 1, 1) := by decide +kernel
theorem dX5_goTowards_95 : decode cX5_goTowards 95 = .ok (.getfield 69, 3) := by decide +kernel
theorem dX5_goTowards_98 : decode cX5_goTowards 98 = .ok (.iload_n 3, 1) := by decide +kernel
theorem dX5_goTowards_99 : decode cX5_goTowards 99 = .ok (.iconst 3, 1) := by decide +kernel
theorem dX5_goTowards_100 : decode cX5_goTowards 100 = .ok (.imul, 1) := by decide +kernel
theorem dX5_goTowards_101 : decode cX5_goTowards 101 = .ok (.iload 7, 2) := by decide +kernel
theorem dX5_goTowards_103 : decode cX5_goTowards 103 = .ok (.iadd, 1) := by decide +kernel
theorem dX5_goTowards_104 : decode cX5_goTowards 104 = .ok (.iaload, 1) := by decide +kernel
theorem dX5_goTowards_105 : decode cX5_goTowards 105 = .ok (.isub, 1) := by decide +kernel
theorem dX5_goTowards_106 : decode cX5_goTowards 106 = .ok (.if_icmp .le 7, 3) := by decide +kernel
theorem dX5_goTowards_109 : decode cX5_goTowards 109 = .ok (.iload 9, 2) := by decide +kernel
theorem dX5_goTowards_111 : decode cX5_goTowards 111 = .ok (.istore 7, 2) := by decide +kernel
theorem dX5_goTowards_113 : decode cX5_goTowards 113 = .ok (.iload 10, 2) := by decide +kernel
theorem dX5_goTowards_115 : decode cX5_goTowards 115 = .ok (.aload_n 0, 1) := by decide +kernel
theorem dX5_goTowards_116 : decode cX5_goTowards 116 = .ok (.getfield 9, 3) := by decide +kernel
theorem dX5_goTowards_119 : decode cX5_goTowards 119 = .ok (.iload 4, 2) := by decide +kernel
theorem dX5_goTowards_121 : decode cX5_goTowards 121 = .ok (.iload 8, 2) := by decide +kernel
theorem dX5_goTowards_123 : decode cX5_goTowards 123 = .ok (.iadd, 1) := by decide +kernel
theorem dX5_goTowards_124 : decode cX5_goTowards 124 = .ok (.iaload, 1) := by decide +kernel
theorem dX5_goTowards_125 : decode cX5_goTowards 125 = .ok (.aload_n 1, 1) := by decide +kernel
theorem dX5_goTowards_126 : decode cX5_goTowards 126 = .ok (.getfield 69, 3) := by decide +kernel
theorem dX5_goTowards_129 : decode cX5_goTowards 129 = .ok (.iload_n 3, 1) := by decide +kernel
theorem dX5_goTowards_130 : decode cX5_goTowards 130 = .ok (.iconst 3, 1) := by decide +kernel
theorem dX5_goTowards_131 : decode cX5_goTowards 131 = .ok (.imul, 1) := by decide +kernel
theorem dX5_goTowards_132 : decode cX5_goTowards 132 = .ok (.iload 8, 2) := by decide +kernel
theorem dX5_goTowards_134 : decode cX5_goTowards 134 = .ok (.iadd, 1) := by decide +kernel
theorem dX5_goTowards_135 : decode cX5_goTowards 135 = .ok (.iaload, 1) := by decide +kernel
theorem dX5_goTowards_136 : decode cX5_goTowards 136 = .ok (.isub, 1) := by decide +kernel
theorem dX5_goTowards_137 : decode cX5_goTowards 137 = .ok (.if_icmp .ge 7, 3) := by decide +kernel
theorem dX5_goTowards_140 : decode cX5_goTowards 140 = .ok (.iload 9, 2) := by decide +kernel
theorem dX5_goTowards_142 : decode cX5_goTowards 142 = .ok (.istore 8, 2) := by decide +kernel
theorem dX5_goTowards_144 : decode cX5_goTowards 144 = .ok (.iinc 9 1, 3) := by decide +kernel
theorem dX5_goTowards_147 : decode cX5_goTowards 147 = .ok (.goto (-95), 3) := by decide +kernel
theorem dX5_goTowards_150 : decode cX5_goTowards 150 = .ok (.iload 7, 2) := by decide +kernel
theorem dX5_goTowards_152 : decode cX5_goTowards 152 = .ok (.iload 8, 2) := by decide +kernel
theorem dX5_goTowards_154 : decode cX5_goTowards 154 = .ok (.if_icmp .eq 16, 3) := by decide +kernel
theorem dX5_goTowards_157 : decode cX5_goTowards 157 = .ok (.aload_n 0, 1) := by decide +kernel
theorem dX5_goTowards_158 : decode cX5_goTowards 158 = .ok (.getfield 30, 3) := by decide +kernel
theorem dX5_goTowards_161 : decode cX5_goTowards 161 = .ok (.ifCond .eq 10, 3) := by decide +kernel
theorem dX5_goTowards_164 : decode cX5_goTowards 164 = .ok (.iload 8, 2) := by decide +kernel
theorem dX5_goTowards_166 : decode cX5_goTowards 166 = .ok (.iconst 1, 1) := by decide +kernel
theorem dX5_goTowards_167 : decode cX5_goTowards 167 = .ok (.if_icmp .ne 4, 3) := by decide +kernel
theorem dX5_goTowards_170 : decode cX5_goTowards 170 = .ok (.return_, 1) := by decide +kernel
theorem dX5_goTowards_171 : decode cX5_goTowards 171 = .ok (.aload_n 0, 1) := by decide +kernel
theorem dX5_goTowards_172 : decode cX5_goTowards 172 = .ok (.getfield 9, 3) := by decide +kernel
theorem dX5_goTowards_175 : decode cX5_goTowards 175 = .ok (.iload 4, 2) := by decide +kernel
theorem dX5_goTowards_177 : decode cX5_goTowards 177 = .ok (.iload 7, 2) := by decide +kernel
theorem dX5_goTowards_179 : decode cX5_goTowards 179 = .ok (.iadd, 1) := by decide +kernel
theorem dX5_goTowards_180 : decode cX5_goTowards 180 = .ok (.dup2, 1) := by decide +kernel
theorem dX5_goTowards_181 : decode cX5_goTowards 181 = .ok (.iaload, 1) := by decide +kernel
theorem dX5_goTowards_182 : decode cX5_goTowards 182 = .ok (.iconst 1, 1) := by decide +kernel
theorem dX5_goTowards_183 : decode cX5_goTowards 183 = .ok (.isub, 1) := by decide +kernel
theorem dX5_goTowards_184 : decode cX5_goTowards 184 = .ok (.iastore, 1) := by decide +kernel
theorem dX5_goTowards_185 : decode cX5_goTowards 185 = .ok (.aload_n 0, 1) := by decide +kernel
theorem dX5_goTowards_186 : decode cX5_goTowards 186 = .ok (.getfield 9, 3) := by decide +kernel
theorem dX5_goTowards_189 : decode cX5_goTowards 189 = .ok (.iload 4, 2) := by decide +kernel
theorem dX5_goTowards_191 : decode cX5_goTowards 191 = .ok (.iload 8, 2) := by decide +kernel
theorem dX5_goTowards_193 : decode cX5_goTowards 193 = .ok (.iadd, 1) := by decide +kernel
theorem dX5_goTowards_194 : decode cX5_goTowards 194 = .ok (.dup2, 1) := by decide +kernel
theorem dX5_goTowards_195 : decode cX5_goTowards 195 = .ok (.iaload, 1) := by decide +kernel
theorem dX5_goTowards_196 : decode cX5_goTowards 196 = .ok (.iconst 1, 1) := by decide +kernel
theorem dX5_goTowards_197 : decode cX5_goTowards 197 = .ok (.iadd, 1) := by decide +kernel
theorem dX5_goTowards_198 : decode cX5_goTowards 198 = .ok (.iastore, 1) := by decide +kernel
theorem dX5_goTowards_199 : decode cX5_goTowards 199 = .ok (.iinc 6 1, 3) := by decide +kernel
theorem dX5_goTowards_202 : decode cX5_goTowards 202 = .ok (.goto (-166), 3) := by decide +kernel
theorem dX5_goTowards_205 : decode cX5_goTowards 205 = .ok (.return_, 1) := by decide +kernel
theorem dX5_stagger_0 : decode cX5_stagger 0 = .ok (.iload_n 1, 1) := by decide +kernel
theorem dX5_stagger_1 : decode cX5_stagger 1 = .ok (.iconst 3, 1) := by decide +kernel
theorem dX5_stagger_2 : decode cX5_stagger 2 = .ok (.imul, 1) := by decide +kernel
theorem dX5_stagger_3 : decode cX5_stagger 3 = .ok (.istore_n 2, 1) := by decide +kernel
theorem dX5_stagger_4 : decode cX5_stagger 4 = .ok (.iconst 0, 1) := by decide +kernel
theorem dX5_stagger_5 : decode cX5_stagger 5 = .ok (.istore_n 3, 1) := by decide +kernel
theorem dX5_stagger_6 : decode cX5_stagger 6 = .ok (.iconst 1, 1) := by decide +kernel
theorem dX5_stagger_7 : decode cX5_stagger 7 = .ok (.istore 4, 2) := by decide +kernel
theorem dX5_stagger_9 : decode cX5_stagger 9 = .ok (.iload 4, 2) := by decide +kernel
theorem dX5_stagger_11 : decode cX5_stagger 11 = .ok (.iconst 3, 1) := by decide +kernel
theorem dX5_stagger_12 : decode cX5_stagger 12 = .ok (.if_icmp .ge 32, 3) := by decide +kernel
theorem dX5_stagger_15 : decode cX5_stagger 15 = .ok (.aload_n 0, 1) := by decide +kernel
theorem dX5_stagger_16 : decode cX5_stagger 16 = .ok (.getfield 9, 3) := by decide +kernel
theorem dX5_stagger_19 : decode cX5_stagger 19 = .ok (.iload_n 2, 1) := by decide +kernel
theorem dX5_stagger_20 : decode cX5_stagger 20 = .ok (.iload 4, 2) := by decide +kernel
theorem dX5_stagger_22 : decode cX5_stagger 22 = .ok (.iadd, 1) := by decide +kernel
theorem dX5_stagger_23 : decode cX5_stagger 23 = .ok (.iaload, 1) := by decide +kernel
theorem dX5_stagger_24 : decode cX5_stagger 24 = .ok (.aload_n 0, 1) := by decide +kernel
theorem dX5_stagger_25 : decode cX5_stagger 25 = .ok (.getfield 9, 3) := by decide +kernel
theorem dX5_stagger_28 : decode cX5_stagger 28 = .ok (.iload_n 2, 1) := by decide +kernel
theorem dX5_stagger_29 : decode cX5_stagger 29 = .ok (.iload_n 3, 1) := by decide +kernel
theorem dX5_stagger_30 : decode cX5_stagger 30 = .ok (.iadd, 1) := by decide +kernel
theorem dX5_stagger_31 : decode cX5_stagger 31 = .ok (.iaload, 1) := by decide +kernel
theorem dX5_stagger_32 : decode cX5_stagger 32 = .ok (.if_icmp .le 6, 3) := by decide +kernel
theorem dX5_stagger_35 : decode cX5_stagger 35 = .ok (.iload 4, 2) := by decide +kernel
theorem dX5_stagger_37 : decode cX5_stagger 37 = .ok (.istore_n 3, 1) := by decide +kernel
theorem dX5_stagger_38 : decode cX5_stagger 38 = .ok (.iinc 4 1, 3) := by decide +kernel
theorem dX5_stagger_41 : decode cX5_stagger 41 = .ok (.goto (-32), 3) := by decide +kernel
theorem dX5_stagger_44 : decode cX5_stagger 44 = .ok (.iload_n 3, 1) := by decide +kernel
theorem dX5_stagger_45 : decode cX5_stagger 45 = .ok (.iconst 2, 1) := by decide +kernel
theorem dX5_stagger_46 : decode cX5_stagger 46 = .ok (.if_icmp .ne 7, 3) := by decide +kernel
theorem dX5_stagger_49 : decode cX5_stagger 49 = .ok (.iconst 0, 1) := by decide +kernel
theorem dX5_stagger_50 : decode cX5_stagger 50 = .ok (.goto 6, 3) := by decide +kernel
theorem dX5_stagger_53 : decode cX5_stagger 53 = .ok (.iload_n 3, 1) := by decide +kernel
theorem dX5_stagger_54 : decode cX5_stagger 54 = .ok (.iconst 1, 1) := by decide +kernel
theorem dX5_stagger_55 : decode cX5_stagger 55 = .ok (.iadd, 1) := by decide +kernel
theorem dX5_stagger_56 : decode cX5_stagger 56 = .ok (.istore 4, 2) := by decide +kernel
theorem dX5_stagger_58 : decode cX5_stagger 58 = .ok (.aload_n 0, 1) := by decide +kernel
theorem dX5_stagger_59 : decode cX5_stagger 59 = .ok (.getfield 30, 3) := by decide +kernel
theorem dX5_stagger_62 : decode cX5_stagger 62 = .ok (.ifCond .eq 9, 3) := by decide +kernel
theorem dX5_stagger_65 : decode cX5_stagger 65 = .ok (.iload 4, 2) := by decide +kernel
theorem dX5_stagger_67 : decode cX5_stagger 67 = .ok (.iconst 1, 1) := by decide +kernel
theorem dX5_stagger_68 : decode cX5_stagger 68 = .ok (.if_icmp .eq 28, 3) := by decide +kernel
theorem dX5_stagger_71 : decode cX5_stagger 71 = .ok (.aload_n 0, 1) := by decide +kernel
theorem dX5_stagger_72 : decode cX5_stagger 72 = .ok (.getfield 9, 3) := by decide +kernel
theorem dX5_stagger_75 : decode cX5_stagger 75 = .ok (.iload_n 2, 1) := by decide +kernel
theorem dX5_stagger_76 : decode cX5_stagger 76 = .ok (.iload_n 3, 1) := by decide +kernel
theorem dX5_stagger_77 : decode cX5_stagger 77 = .ok (.iadd, 1) := by decide +kernel
theorem dX5_stagger_78 : decode cX5_stagger 78 = .ok (.dup2, 1) := by decide +kernel
theorem dX5_stagger_79 : decode cX5_stagger 79 = .ok (.iaload, 1) := by decide +kernel
theorem dX5_stagger_80 : decode cX5_stagger 80 = .ok (.iconst 1, 1) := by decide +kernel
theorem dX5_stagger_81 : decode cX5_stagger 81 = .ok (.isub, 1) := by decide +kernel
theorem dX5_stagger_82 : decode cX5_stagger 82 = .ok (.iastore, 1) := by decide +kernel
theorem dX5_stagger_83 : decode cX5_stagger 83 = .ok (.aload_n 0, 1) := by decide +kernel
theorem dX5_stagger_84 : decode cX5_stagger 84 = .ok (.getfield 9, 3) := by decide +kernel
theorem dX5_stagger_87 : decode cX5_stagger 87 = .ok (.iload_n 2, 1) := by decide +kernel
theorem dX5_stagger_88 : decode cX5_stagger 88 = .ok (.iload 4, 2) := by decide +kernel
theorem dX5_stagger_90 : decode cX5_stagger 90 = .ok (.iadd, 1) := by decide +kernel
theorem dX5_stagger_91 : decode cX5_stagger 91 = .ok (.dup2, 1) := by decide +kernel
theorem dX5_stagger_92 : decode cX5_stagger 92 = .ok (.iaload, 1) := by decide +kernel
theorem dX5_stagger_93 : decode cX5_stagger 93 = .ok (.iconst 1, 1) := by decide +kernel
theorem dX5_stagger_94 : decode cX5_stagger 94 = .ok (.iadd, 1) := by decide +kernel
theorem dX5_stagger_95 : decode cX5_stagger 95 = .ok (.iastore, 1) := by decide +kernel
theorem dX5_stagger_96 : decode cX5_stagger 96 = .ok (.return_, 1) := by decide +kernel
theorem dX6_init_0 : decode cX6_init 0 = .ok (.aload_n 0, 1) := by decide +kernel
theorem dX6_init_1 : decode cX6_init 1 = .ok (.invokespecial 1, 3) := by decide +kernel
theorem dX6_init_4 : decode cX6_init 4 = .ok (.aload_n 0, 1) := by decide +kernel
theorem dX6_init_5 : decode cX6_init 5 = .ok (.sipush 500, 3) := by decide +kernel
theorem dX6_init_8 : decode cX6_init 8 = .ok (.newarray .int, 2) := by decide +kernel
theorem dX6_init_10 : decode cX6_init 10 = .ok (.putfield 9, 3) := by decide +kernel
theorem dX6_init_13 : decode cX6_init 13 = .ok (.aload_n 0, 1) := by decide +kernel
theorem dX6_init_14 : decode cX6_init 14 = .ok (.new 13, 3) := by decide +kernel
theorem dX6_init_17 : decode cX6_init 17 = .ok (.dup, 1) := by decide +kernel
theorem dX6_init_18 : decode cX6_init 18 = .ok (.invokespecial 15, 3) := by decide +kernel
theorem dX6_init_21 : decode cX6_init 21 = .ok (.putfield 16, 3) := by decide +kernel
theorem dX6_init_24 : decode cX6_init 24 = .ok (.aload_n 0, 1) := by decide +kernel
theorem dX6_init_25 : decode cX6_init 25 = .ok (.new 13, 3) := by decide +kernel
theorem dX6_init_28 : decode cX6_init 28 = .ok (.dup, 1) := by decide +kernel
theorem dX6_init_29 : decode cX6_init 29 = .ok (.invokespecial 15, 3) := by decide +kernel
theorem dX6_init_32 : decode cX6_init 32 = .ok (.putfield 20, 3) := by decide +kernel
theorem dX6_init_35 : decode cX6_init 35 = .ok (.aload_n 0, 1) := by decide +kernel
theorem dX6_init_36 : decode cX6_init 36 = .ok (.new 23, 3) := by decide +kernel
theorem dX6_init_39 : decode cX6_init 39 = .ok (.dup, 1) := by decide +kernel
theorem dX6_init_40 : decode cX6_init 40 = .ok (.invokespecial 25, 3) := by decide +kernel
theorem dX6_init_43 : decode cX6_init 43 = .ok (.putfield 26, 3) := by decide +kernel
theorem dX6_init_46 : decode cX6_init 46 = .ok (.aload_n 0, 1) := by decide +kernel
theorem dX6_init_47 : decode cX6_init 47 = .ok (.sipush 1001, 3) := by decide +kernel
theorem dX6_init_50 : decode cX6_init 50 = .ok (.newarray .long, 2) := by decide +kernel
theorem dX6_init_52 : decode cX6_init 52 = .ok (.putfield 30, 3) := by decide +kernel
theorem dX6_init_55 : decode cX6_init 55 = .ok (.aload_n 0, 1) := by decide +kernel
theorem dX6_init_56 : decode cX6_init 56 = .ok (.bipush 6, 2) := by decide +kernel
theorem dX6_init_58 : decode cX6_init 58 = .ok (.newarray .int, 2) := by decide +kernel
theorem dX6_init_60 : decode cX6_init 60 = .ok (.putfield 34, 3) := by decide +kernel
theorem dX6_init_63 : decode cX6_init 63 = .ok (.aload_n 0, 1) := by decide +kernel
theorem dX6_init_64 : decode cX6_init 64 = .ok (.iconst 3, 1) := by decide +kernel
theorem dX6_init_65 : decode cX6_init 65 = .ok (.newarray .int, 2) := by decide +kernel
theorem dX6_init_67 : decode cX6_init 67 = .ok (.putfield 37, 3) := by decide +kernel
theorem dX6_init_70 : decode cX6_init 70 = .ok (.aload_n 0, 1) := by decide +kernel
theorem dX6_init_71 : decode cX6_init 71 = .ok (.new 40, 3) := by decide +kernel
theorem dX6_init_74 : decode cX6_init 74 = .ok (.dup, 1) := by decide +kernel
theorem dX6_init_75 : decode cX6_init 75 = .ok (.invokespecial 42, 3) := by decide +kernel
theorem dX6_init_78 : decode cX6_init 78 = .ok (.putfield 43, 3) := by decide +kernel
theorem dX6_init_81 : decode cX6_init 81 = .ok (.aload_n 0, 1) := by decide +kernel
theorem dX6_init_82 : decode cX6_init 82 = .ok (.new 47, 3) := by decide +kernel
theorem dX6_init_85 : decode cX6_init 85 = .ok (.dup, 1) := by decide +kernel
theorem dX6_init_86 : decode cX6_init 86 = .ok (.invokespecial 49, 3) := by decide +kernel
theorem dX6_init_89 : decode cX6_init 89 = .ok (.putfield 50, 3) := by decide +kernel
theorem dX6_init_92 : decode cX6_init 92 = .ok (.aload_n 0, 1) := by decide +kernel
theorem dX6_init_93 : decode cX6_init 93 = .ok (.new 47, 3) := by decide +kernel
theorem dX6_init_96 : decode cX6_init 96 = .ok (.dup, 1) := by decide +kernel
theorem dX6_init_97 : decode cX6_init 97 = .ok (.invokespecial 49, 3) := by decide +kernel
theorem dX6_init_100 : decode cX6_init 100 = .ok (.putfield 54, 3) := by decide +kernel
theorem dX6_init_103 : decode cX6_init 103 = .ok (.aload_n 0, 1) := by decide +kernel
theorem dX6_init_104 : decode cX6_init 104 = .ok (.iconst (-1), 1) := by decide +kernel
theorem dX6_init_105 : decode cX6_init 105 = .ok (.putfield 57, 3) := by decide +kernel
theorem dX6_init_108 : decode cX6_init 108 = .ok (.aload_n 0, 1) := by decide +kernel
theorem dX6_init_109 : decode cX6_init 109 = .ok (.new 61, 3) := by decide +kernel
theorem dX6_init_112 : decode cX6_init 112 = .ok (.dup, 1) := by decide +kernel
theorem dX6_init_113 : decode cX6_init 113 = .ok (.aload_n 0, 1) := by decide +kernel
theorem dX6_init_114 : decode cX6_init 114 = .ok (.getfield 9, 3) := by decide +kernel
theorem dX6_init_117 : decode cX6_init 117 = .ok (.aload_n 0, 1) := by decide +kernel
theorem dX6_init_118 : decode cX6_init 118 = .ok (.getfield 54, 3) := by decide +kernel
theorem dX6_init_121 : decode cX6_init 121 = .ok (.invokespecial 63, 3) := by decide +kernel
theorem dX6_init_124 : decode cX6_init 124 = .ok (.putfield 66, 3) := by decide +kernel
theorem dX6_init_127 : decode cX6_init 127 = .ok (.aload_n 0, 1) := by decide +kernel
theorem dX6_init_128 : decode cX6_init 128 = .ok (.new 70, 3) := by decide +kernel
theorem dX6_init_131 : decode cX6_init 131 = .ok (.dup, 1) := by decide +kernel
theorem dX6_init_132 : decode cX6_init 132 = .ok (.aload_n 0, 1) := by decide +kernel
theorem dX6_init_133 : decode cX6_init 133 = .ok (.getfield 50, 3) := by decide +kernel
theorem dX6_init_136 : decode cX6_init 136 = .ok (.invokespecial 72, 3) := by decide +kernel
theorem dX6_init_139 : decode cX6_init 139 = .ok (.putfield 75, 3) := by decide +kernel
theorem dX6_init_142 : decode cX6_init 142 = .ok (.aload_n 0, 1) := by decide +kernel
theorem dX6_init_143 : decode cX6_init 143 = .ok (.getfield 16, 3) := by decide +kernel
theorem dX6_init_146 : decode cX6_init 146 = .ok (.aload_n 0, 1) := by decide +kernel
theorem dX6_init_147 : decode cX6_init 147 = .ok (.getfield 50, 3) := by decide +kernel
theorem dX6_init_150 : decode cX6_init 150 = .ok (.invokevirtual 79, 3) := by decide +kernel
theorem dX6_init_153 : decode cX6_init 153 = .ok (.return_, 1) := by decide +kernel
theorem dX6_feed_0 : decode cX6_feed 0 = .ok (.aload_n 0, 1) := by decide +kernel
theorem dX6_feed_1 : decode cX6_feed 1 = .ok (.getfield 82, 3) := by decide +kernel
theorem dX6_feed_4 : decode cX6_feed 4 = .ok (.bipush 20, 2) := by decide +kernel
theorem dX6_feed_6 : decode cX6_feed 6 = .ok (.iadd, 1) := by decide +kernel
theorem dX6_feed_7 : decode cX6_feed 7 = .ok (.sipush 500, 3) := by decide +kernel
theorem dX6_feed_10 : decode cX6_feed 10 = .ok (.if_icmp .le 5, 3) := by decide +kernel
theorem dX6_feed_13 : decode cX6_feed 13 = .ok (.iconst (-1), 1) := by decide +kernel
theorem dX6_feed_14 : decode cX6_feed 14 = .ok (.ireturn, 1) := by decide +kernel
theorem dX6_feed_15 : decode cX6_feed 15 = .ok (.aload_n 0, 1) := by decide +kernel
theorem dX6_feed_16 : decode cX6_feed 16 = .ok (.iload_n 1, 1) := by decide +kernel
theorem dX6_feed_17 : decode cX6_feed 17 = .ok (.invokevirtual 85, 3) := by decide +kernel
theorem dX6_feed_20 : decode cX6_feed 20 = .ok (.aload_n 0, 1) := by decide +kernel
theorem dX6_feed_21 : decode cX6_feed 21 = .ok (.iload_n 2, 1) := by decide +kernel
theorem dX6_feed_22 : decode cX6_feed 22 = .ok (.invokevirtual 85, 3) := by decide +kernel
theorem dX6_feed_25 : decode cX6_feed 25 = .ok (.aload_n 0, 1) := by decide +kernel
theorem dX6_feed_26 : decode cX6_feed 26 = .ok (.iload_n 3, 1) := by decide +kernel
theorem dX6_feed_27 : decode cX6_feed 27 = .ok (.invokevirtual 85, 3) := by decide +kernel
theorem dX6_feed_30 : decode cX6_feed 30 = .ok (.aload_n 0, 1) := by decide +kernel
theorem dX6_feed_31 : decode cX6_feed 31 = .ok (.iload 4, 2) := by decide +kernel
theorem dX6_feed_33 : decode cX6_feed 33 = .ok (.invokevirtual 85, 3) := by decide +kernel
theorem dX6_feed_36 : decode cX6_feed 36 = .ok (.aload_n 0, 1) := by decide +kernel
theorem dX6_feed_37 : decode cX6_feed 37 = .ok (.iload 5, 2) := by decide +kernel
theorem dX6_feed_39 : decode cX6_feed 39 = .ok (.invokevirtual 85, 3) := by decide +kernel
theorem dX6_feed_42 : decode cX6_feed 42 = .ok (.aload_n 0, 1) := by decide +kernel
theorem dX6_feed_43 : decode cX6_feed 43 = .ok (.getfield 82, 3) := by decide +kernel
theorem dX6_feed_46 : decode cX6_feed 46 = .ok (.ireturn, 1) := by decide +kernel
theorem dX6_valley_0 : decode cX6_valley 0 = .ok (.iload_n 1, 1) := by decide +kernel
theorem dX6_valley_1 : decode cX6_valley 1 = .ok (.ifCond .lt 11, 3) := by decide +kernel
theorem dX6_valley_4 : decode cX6_valley 4 = .ok (.iload_n 1, 1) := by decide +kernel
theorem dX6_valley_5 : decode cX6_valley 5 = .ok (.aload_n 0, 1) := by decide +kernel
theorem dX6_valley_6 : decode cX6_valley 6 = .ok (.getfield 82, 3) := by decide +kernel
theorem dX6_valley_9 : decode cX6_valley 9 = .ok (.if_icmp .le 11, 3) := by decide +kernel
theorem dX6_valley_12 : decode cX6_valley 12 = .ok (.new 89, 3) := by decide +kernel
theorem dX6_valley_15 : decode cX6_valley 15 = .ok (.dup, 1) := by decide +kernel
theorem dX6_valley_16 : decode cX6_valley 16 = .ok (.invokespecial 91, 3) := by decide +kernel
theorem dX6_valley_19 : decode cX6_valley 19 = .ok (.athrow, 1) := by decide +kernel
theorem dX6_valley_20 : decode cX6_valley 20 = .ok (.aload_n 0, 1) := by decide +kernel
theorem dX6_valley_21 : decode cX6_valley 21 = .ok (.iconst 0, 1) := by decide +kernel
theorem dX6_valley_22 : decode cX6_valley 22 = .ok (.putfield 82, 3) := by decide +kernel
theorem dX6_valley_25 : decode cX6_valley 25 = .ok (.aload_n 0, 1) := by decide +kernel
theorem dX6_valley_26 : decode cX6_valley 26 = .ok (.getfield 66, 3) := by decide +kernel
theorem dX6_valley_29 : decode cX6_valley 29 = .ok (.iload_n 1, 1) := by decide +kernel
theorem dX6_valley_30 : decode cX6_valley 30 = .ok (.aload_n 0, 1) := by decide +kernel
theorem dX6_valley_31 : decode cX6_valley 31 = .ok (.getfield 54, 3) := by decide +kernel
theorem dX6_valley_34 : decode cX6_valley 34 = .ok (.invokevirtual 92, 3) := by decide +kernel
theorem dX6_valley_37 : decode cX6_valley 37 = .ok (.aload_n 0, 1) := by decide +kernel
theorem dX6_valley_38 : decode cX6_valley 38 = .ok (.aload_n 0, 1) := by decide +kernel
theorem dX6_valley_39 : decode cX6_valley 39 = .ok (.getfield 66, 3) := by decide +kernel
theorem dX6_valley_42 : decode cX6_valley 42 = .ok (.getfield 96, 3) := by decide +kernel
theorem dX6_valley_45 : decode cX6_valley 45 = .ok (.putfield 57, 3) := by decide +kernel
theorem dX6_valley_48 : decode cX6_valley 48 = .ok (.aload_n 0, 1) := by decide +kernel
theorem dX6_valley_49 : decode cX6_valley 49 = .ok (.getfield 66, 3) := by decide +kernel
theorem dX6_valley_52 : decode cX6_valley 52 = .ok (.getfield 99, 3) := by decide +kernel
theorem dX6_valley_55 : decode cX6_valley 55 = .ok (.ifCond .eq 24, 3) := by decide +kernel
theorem dX6_valley_58 : decode cX6_valley 58 = .ok (.aload_n 0, 1) := by decide +kernel
theorem dX6_valley_59 : decode cX6_valley 59 = .ok (.getfield 16, 3) := by decide +kernel
theorem dX6_valley_62 : decode cX6_valley 62 = .ok (.getfield 102, 3) := by decide +kernel
theorem dX6_valley_65 : decode cX6_valley 65 = .ok (.iconst 0, 1) := by decide +kernel
theorem dX6_valley_66 : decode cX6_valley 66 = .ok (.dup2, 1) := by decide +kernel
theorem dX6_valley_67 : decode cX6_valley 67 = .ok (.iaload, 1) := by decide +kernel
theorem dX6_valley_68 : decode cX6_valley 68 = .ok (.iconst 1, 1) := by decide +kernel
theorem dX6_valley_69 : decode cX6_valley 69 = .ok (.iadd, 1) := by decide +kernel
theorem dX6_valley_70 : decode cX6_valley 70 = .ok (.iastore, 1) := by decide +kernel
theorem dX6_valley_71 : decode cX6_valley 71 = .ok (.aload_n 0, 1) := by decide +kernel
theorem dX6_valley_72 : decode cX6_valley 72 = .ok (.getfield 66, 3) := by decide +kernel
theorem dX6_valley_75 : decode cX6_valley 75 = .ok (.getfield 99, 3) := by decide +kernel
theorem dX6_valley_78 : decode cX6_valley 78 = .ok (.ireturn, 1) := by decide +kernel
theorem dX6_valley_79 : decode cX6_valley 79 = .ok (.aload_n 0, 1) := by decide +kernel
theorem dX6_valley_80 : decode cX6_valley 80 = .ok (.getfield 50, 3) := by decide +kernel
theorem dX6_valley_83 : decode cX6_valley 83 = .ok (.astore_n 2, 1) := by decide +kernel
theorem dX6_valley_84 : decode cX6_valley 84 = .ok (.aload_n 0, 1) := by decide +kernel
theorem dX6_valley_85 : decode cX6_valley 85 = .ok (.aload_n 0, 1) := by decide +kernel
theorem dX6_valley_86 : decode cX6_valley 86 = .ok (.getfield 54, 3) := by decide +kernel
theorem dX6_valley_89 : decode cX6_valley 89 = .ok (.putfield 50, 3) := by decide +kernel
theorem dX6_valley_92 : decode cX6_valley 92 = .ok (.aload_n 0, 1) := by decide +kernel
theorem dX6_valley_93 : decode cX6_valley 93 = .ok (.aload_n 2, 1) := by decide +kernel
theorem dX6_valley_94 : decode cX6_valley 94 = .ok (.putfield 54, 3) := by decide +kernel
theorem dX6_valley_97 : decode cX6_valley 97 = .ok (.aload_n 0, 1) := by decide +kernel
theorem dX6_valley_98 : decode cX6_valley 98 = .ok (.getfield 16, 3) := by decide +kernel
theorem dX6_valley_101 : decode cX6_valley 101 = .ok (.aload_n 0, 1) := by decide +kernel
theorem dX6_valley_102 : decode cX6_valley 102 = .ok (.getfield 50, 3) := by decide +kernel
theorem dX6_valley_105 : decode cX6_valley 105 = .ok (.invokevirtual 79, 3) := by decide +kernel
theorem dX6_valley_108 : decode cX6_valley 108 = .ok (.aload_n 0, 1) := by decide +kernel
theorem dX6_valley_109 : decode cX6_valley 109 = .ok (.iconst 0, 1) := by decide +kernel
theorem dX6_valley_110 : decode cX6_valley 110 = .ok (.putfield 105, 3) := by decide +kernel
theorem dX6_valley_113 : decode cX6_valley 113 = .ok (.iconst 0, 1) := by decide +kernel
theorem dX6_valley_114 : decode cX6_valley 114 = .ok (.ireturn, 1) := by decide +kernel
theorem dX6_fault_0 : decode cX6_fault 0 = .ok (.aload_n 0, 1) := by decide +kernel
theorem dX6_fault_1 : decode cX6_fault 1 = .ok (.getfield 57, 3) := by decide +kernel
theorem dX6_fault_4 : decode cX6_fault 4 = .ok (.ireturn, 1) := by decide +kernel
theorem dX6_count_0 : decode cX6_count 0 = .ok (.iload_n 1, 1) := by decide +kernel
theorem dX6_count_1 : decode cX6_count 1 = .ok (.tableswitch 180 0 12 #[67, 75, 83, 91, 99, 107, 115, 123, 134, 145, 150, 160, 170], 67) := by decide +kernel
theorem dX6_count_68 : decode cX6_count 68 = .ok (.aload_n 0, 1) := by decide +kernel
theorem dX6_count_69 : decode cX6_count 69 = .ok (.getfield 50, 3) := by decide +kernel
theorem dX6_count_72 : decode cX6_count 72 = .ok (.getfield 109, 3) := by decide +kernel
theorem dX6_count_75 : decode cX6_count 75 = .ok (.ireturn, 1) := by decide +kernel
theorem dX6_count_76 : decode cX6_count 76 = .ok (.aload_n 0, 1) := by decide +kernel
theorem dX6_count_77 : decode cX6_count 77 = .ok (.getfield 50, 3) := by decide +kernel
theorem dX6_count_80 : decode cX6_count 80 = .ok (.getfield 112, 3) := by decide +kernel
theorem dX6_count_83 : decode cX6_count 83 = .ok (.ireturn, 1) := by decide +kernel
theorem dX6_count_84 : decode cX6_count 84 = .ok (.aload_n 0, 1) := by decide +kernel
theorem dX6_count_85 : decode cX6_count 85 = .ok (.getfield 50, 3) := by decide +kernel
theorem dX6_count_88 : decode cX6_count 88 = .ok (.getfield 115, 3) := by decide +kernel
theorem dX6_count_91 : decode cX6_count 91 = .ok (.ireturn, 1) := by decide +kernel
theorem dX6_count_92 : decode cX6_count 92 = .ok (.aload_n 0, 1) := by decide +kernel
theorem dX6_count_93 : decode cX6_count 93 = .ok (.getfield 50, 3) := by decide +kernel
theorem dX6_count_96 : decode cX6_count 96 = .ok (.getfield 118, 3) := by decide +kernel
theorem dX6_count_99 : decode cX6_count 99 = .ok (.ireturn, 1) := by decide +kernel
theorem dX6_count_100 : decode cX6_count 100 = .ok (.aload_n 0, 1) := by decide +kernel
theorem dX6_count_101 : decode cX6_count 101 = .ok (.getfield 50, 3) := by decide +kernel
theorem dX6_count_104 : decode cX6_count 104 = .ok (.getfield 121, 3) := by decide +kernel
theorem dX6_count_107 : decode cX6_count 107 = .ok (.ireturn, 1) := by decide +kernel
theorem dX6_count_108 : decode cX6_count 108 = .ok (.aload_n 0, 1) := by decide +kernel
theorem dX6_count_109 : decode cX6_count 109 = .ok (.getfield 50, 3) := by decide +kernel
theorem dX6_count_112 : decode cX6_count 112 = .ok (.getfield 124, 3) := by decide +kernel
theorem dX6_count_115 : decode cX6_count 115 = .ok (.ireturn, 1) := by decide +kernel
theorem dX6_count_116 : decode cX6_count 116 = .ok (.aload_n 0, 1) := by decide +kernel
theorem dX6_count_117 : decode cX6_count 117 = .ok (.getfield 50, 3) := by decide +kernel
theorem dX6_count_120 : decode cX6_count 120 = .ok (.getfield 127, 3) := by decide +kernel
theorem dX6_count_123 : decode cX6_count 123 = .ok (.ireturn, 1) := by decide +kernel
theorem dX6_count_124 : decode cX6_count 124 = .ok (.aload_n 0, 1) := by decide +kernel
theorem dX6_count_125 : decode cX6_count 125 = .ok (.getfield 16, 3) := by decide +kernel
theorem dX6_count_128 : decode cX6_count 128 = .ok (.getfield 130, 3) := by decide +kernel
theorem dX6_count_131 : decode cX6_count 131 = .ok (.getfield 133, 3) := by decide +kernel
theorem dX6_count_134 : decode cX6_count 134 = .ok (.ireturn, 1) := by decide +kernel
theorem dX6_count_135 : decode cX6_count 135 = .ok (.aload_n 0, 1) := by decide +kernel
theorem dX6_count_136 : decode cX6_count 136 = .ok (.getfield 16, 3) := by decide +kernel
theorem dX6_count_139 : decode cX6_count 139 = .ok (.getfield 130, 3) := by decide +kernel
theorem dX6_count_142 : decode cX6_count 142 = .ok (.getfield 136, 3) := by decide +kernel
theorem dX6_count_145 : decode cX6_count 145 = .ok (.ireturn, 1) := by decide +kernel
theorem dX6_count_146 : decode cX6_count 146 = .ok (.aload_n 0, 1) := by decide +kernel
theorem dX6_count_147 : decode cX6_count 147 = .ok (.getfield 82, 3) := by decide +kernel
theorem dX6_count_150 : decode cX6_count 150 = .ok (.ireturn, 1) := by decide +kernel
theorem dX6_count_151 : decode cX6_count 151 = .ok (.aload_n 0, 1) := by decide +kernel
theorem dX6_count_152 : decode cX6_count 152 = .ok (.getfield 16, 3) := by decide +kernel
theorem dX6_count_155 : decode cX6_count 155 = .ok (.getfield 102, 3) := by decide +kernel
theorem dX6_count_158 : decode cX6_count 158 = .ok (.iconst 0, 1) := by decide +kernel
theorem dX6_count_159 : decode cX6_count 159 = .ok (.iaload, 1) := by decide +kernel
theorem dX6_count_160 : decode cX6_count 160 = .ok (.ireturn, 1) := by decide +kernel
theorem dX6_count_161 : decode cX6_count 161 = .ok (.aload_n 0, 1) := by decide +kernel
theorem dX6_count_162 : decode cX6_count 162 = .ok (.getfield 16, 3) := by decide +kernel
theorem dX6_count_165 : decode cX6_count 165 = .ok (.getfield 102, 3) := by decide +kernel
theorem dX6_count_168 : decode cX6_count 168 = .ok (.iconst 1, 1) := by decide +kernel
theorem dX6_count_169 : decode cX6_count 169 = .ok (.iaload, 1) := by decide +kernel
theorem dX6_count_170 : decode cX6_count 170 = .ok (.ireturn, 1) := by decide +kernel
theorem dX6_count_171 : decode cX6_count 171 = .ok (.aload_n 0, 1) := by decide +kernel
theorem dX6_count_172 : decode cX6_count 172 = .ok (.getfield 16, 3) := by decide +kernel
theorem dX6_count_175 : decode cX6_count 175 = .ok (.getfield 102, 3) := by decide +kernel
theorem dX6_count_178 : decode cX6_count 178 = .ok (.iconst 2, 1) := by decide +kernel
theorem dX6_count_179 : decode cX6_count 179 = .ok (.iaload, 1) := by decide +kernel
theorem dX6_count_180 : decode cX6_count 180 = .ok (.ireturn, 1) := by decide +kernel
theorem dX6_count_181 : decode cX6_count 181 = .ok (.new 139, 3) := by decide +kernel
theorem dX6_count_184 : decode cX6_count 184 = .ok (.dup, 1) := by decide +kernel
theorem dX6_count_185 : decode cX6_count 185 = .ok (.invokespecial 141, 3) := by decide +kernel
theorem dX6_count_188 : decode cX6_count 188 = .ok (.athrow, 1) := by decide +kernel
theorem dX6_lamp_0 : decode cX6_lamp 0 = .ok (.aload_n 0, 1) := by decide +kernel
theorem dX6_lamp_1 : decode cX6_lamp 1 = .ok (.iload_n 1, 1) := by decide +kernel
theorem dX6_lamp_2 : decode cX6_lamp 2 = .ok (.invokevirtual 142, 3) := by decide +kernel
theorem dX6_lamp_5 : decode cX6_lamp 5 = .ok (.iload_n 2, 1) := by decide +kernel
theorem dX6_lamp_6 : decode cX6_lamp 6 = .ok (.tableswitch 121 0 7 #[46, 56, 66, 66, 66, 85, 95, 108], 46) := by decide +kernel
theorem dX6_lamp_52 : decode cX6_lamp 52 = .ok (.aload_n 0, 1) := by decide +kernel
theorem dX6_lamp_53 : decode cX6_lamp 53 = .ok (.getfield 50, 3) := by decide +kernel
theorem dX6_lamp_56 : decode cX6_lamp 56 = .ok (.getfield 145, 3) := by decide +kernel
theorem dX6_lamp_59 : decode cX6_lamp 59 = .ok (.iload_n 1, 1) := by decide +kernel
theorem dX6_lamp_60 : decode cX6_lamp 60 = .ok (.iaload, 1) := by decide +kernel
theorem dX6_lamp_61 : decode cX6_lamp 61 = .ok (.ireturn, 1) := by decide +kernel
theorem dX6_lamp_62 : decode cX6_lamp 62 = .ok (.aload_n 0, 1) := by decide +kernel
theorem dX6_lamp_63 : decode cX6_lamp 63 = .ok (.getfield 50, 3) := by decide +kernel
theorem dX6_lamp_66 : decode cX6_lamp 66 = .ok (.getfield 148, 3) := by decide +kernel
theorem dX6_lamp_69 : decode cX6_lamp 69 = .ok (.iload_n 1, 1) := by decide +kernel
theorem dX6_lamp_70 : decode cX6_lamp 70 = .ok (.iaload, 1) := by decide +kernel
theorem dX6_lamp_71 : decode cX6_lamp 71 = .ok (.ireturn, 1) := by decide +kernel
theorem dX6_lamp_72 : decode cX6_lamp 72 = .ok (.aload_n 0, 1) := by decide +kernel
theorem dX6_lamp_73 : decode cX6_lamp 73 = .ok (.getfield 16, 3) := by decide +kernel
theorem dX6_lamp_76 : decode cX6_lamp 76 = .ok (.getfield 130, 3) := by decide +kernel
theorem dX6_lamp_79 : decode cX6_lamp 79 = .ok (.getfield 151, 3) := by decide +kernel
theorem dX6_lamp_82 : decode cX6_lamp 82 = .ok (.iload_n 1, 1) := by decide +kernel
theorem dX6_lamp_83 : decode cX6_lamp 83 = .ok (.iconst 3, 1) := by decide +kernel
theorem dX6_lamp_84 : decode cX6_lamp 84 = .ok (.imul, 1) := by decide +kernel
theorem dX6_lamp_85 : decode cX6_lamp 85 = .ok (.iload_n 2, 1) := by decide +kernel
theorem dX6_lamp_86 : decode cX6_lamp 86 = .ok (.iadd, 1) := by decide +kernel
theorem dX6_lamp_87 : decode cX6_lamp 87 = .ok (.iconst 2, 1) := by decide +kernel
theorem dX6_lamp_88 : decode cX6_lamp 88 = .ok (.isub, 1) := by decide +kernel
theorem dX6_lamp_89 : decode cX6_lamp 89 = .ok (.iaload, 1) := by decide +kernel
theorem dX6_lamp_90 : decode cX6_lamp 90 = .ok (.ireturn, 1) := by decide +kernel
theorem dX6_lamp_91 : decode cX6_lamp 91 = .ok (.aload_n 0, 1) := by decide +kernel
theorem dX6_lamp_92 : decode cX6_lamp 92 = .ok (.getfield 50, 3) := by decide +kernel
theorem dX6_lamp_95 : decode cX6_lamp 95 = .ok (.getfield 154, 3) := by decide +kernel
theorem dX6_lamp_98 : decode cX6_lamp 98 = .ok (.iload_n 1, 1) := by decide +kernel
theorem dX6_lamp_99 : decode cX6_lamp 99 = .ok (.iaload, 1) := by decide +kernel
theorem dX6_lamp_100 : decode cX6_lamp 100 = .ok (.ireturn, 1) := by decide +kernel
theorem dX6_lamp_101 : decode cX6_lamp 101 = .ok (.aload_n 0, 1) := by decide +kernel
theorem dX6_lamp_102 : decode cX6_lamp 102 = .ok (.getfield 16, 3) := by decide +kernel
theorem dX6_lamp_105 : decode cX6_lamp 105 = .ok (.getfield 130, 3) := by decide +kernel
theorem dX6_lamp_108 : decode cX6_lamp 108 = .ok (.getfield 157, 3) := by decide +kernel
theorem dX6_lamp_111 : decode cX6_lamp 111 = .ok (.iload_n 1, 1) := by decide +kernel
theorem dX6_lamp_112 : decode cX6_lamp 112 = .ok (.iaload, 1) := by decide +kernel
theorem dX6_lamp_113 : decode cX6_lamp 113 = .ok (.ireturn, 1) := by decide +kernel
theorem dX6_lamp_114 : decode cX6_lamp 114 = .ok (.aload_n 0, 1) := by decide +kernel
theorem dX6_lamp_115 : decode cX6_lamp 115 = .ok (.getfield 16, 3) := by decide +kernel
theorem dX6_lamp_118 : decode cX6_lamp 118 = .ok (.getfield 130, 3) := by decide +kernel
theorem dX6_lamp_121 : decode cX6_lamp 121 = .ok (.getfield 160, 3) := by decide +kernel
theorem dX6_lamp_124 : decode cX6_lamp 124 = .ok (.iload_n 1, 1) := by decide +kernel
theorem dX6_lamp_125 : decode cX6_lamp 125 = .ok (.iaload, 1) := by decide +kernel
theorem dX6_lamp_126 : decode cX6_lamp 126 = .ok (.ireturn, 1) := by decide +kernel
theorem dX6_lamp_127 : decode cX6_lamp 127 = .ok (.new 139, 3) := by decide +kernel
theorem dX6_lamp_130 : decode cX6_lamp 130 = .ok (.dup, 1) := by decide +kernel
theorem dX6_lamp_131 : decode cX6_lamp 131 = .ok (.invokespecial 141, 3) := by decide +kernel
theorem dX6_lamp_134 : decode cX6_lamp 134 = .ok (.athrow, 1) := by decide +kernel
theorem dX6_far_0 : decode cX6_far 0 = .ok (.aload_n 0, 1) := by decide +kernel
theorem dX6_far_1 : decode cX6_far 1 = .ok (.iload_n 1, 1) := by decide +kernel
theorem dX6_far_2 : decode cX6_far 2 = .ok (.invokevirtual 142, 3) := by decide +kernel
theorem dX6_far_5 : decode cX6_far 5 = .ok (.aload_n 0, 1) := by decide +kernel
theorem dX6_far_6 : decode cX6_far 6 = .ok (.iload_n 2, 1) := by decide +kernel
theorem dX6_far_7 : decode cX6_far 7 = .ok (.invokevirtual 142, 3) := by decide +kernel
theorem dX6_far_10 : decode cX6_far 10 = .ok (.aload_n 0, 1) := by decide +kernel
theorem dX6_far_11 : decode cX6_far 11 = .ok (.getfield 16, 3) := by decide +kernel
theorem dX6_far_14 : decode cX6_far 14 = .ok (.getfield 130, 3) := by decide +kernel
theorem dX6_far_17 : decode cX6_far 17 = .ok (.iload_n 1, 1) := by decide +kernel
theorem dX6_far_18 : decode cX6_far 18 = .ok (.iload_n 2, 1) := by decide +kernel
theorem dX6_far_19 : decode cX6_far 19 = .ok (.invokevirtual 163, 3) := by decide +kernel
theorem dX6_far_22 : decode cX6_far 22 = .ok (.ireturn, 1) := by decide +kernel
theorem dX6_nights_0 : decode cX6_nights 0 = .ok (.iload_n 1, 1) := by decide +kernel
theorem dX6_nights_1 : decode cX6_nights 1 = .ok (.ifCond .lt 9, 3) := by decide +kernel
theorem dX6_nights_4 : decode cX6_nights 4 = .ok (.iload_n 1, 1) := by decide +kernel
theorem dX6_nights_5 : decode cX6_nights 5 = .ok (.bipush 99, 2) := by decide +kernel
theorem dX6_nights_7 : decode cX6_nights 7 = .ok (.if_icmp .le 11, 3) := by decide +kernel
theorem dX6_nights_10 : decode cX6_nights 10 = .ok (.new 89, 3) := by decide +kernel
theorem dX6_nights_13 : decode cX6_nights 13 = .ok (.dup, 1) := by decide +kernel
theorem dX6_nights_14 : decode cX6_nights 14 = .ok (.invokespecial 91, 3) := by decide +kernel
theorem dX6_nights_17 : decode cX6_nights 17 = .ok (.athrow, 1) := by decide +kernel
theorem dX6_nights_18 : decode cX6_nights 18 = .ok (.aload_n 0, 1) := by decide +kernel
theorem dX6_nights_19 : decode cX6_nights 19 = .ok (.getfield 16, 3) := by decide +kernel
theorem dX6_nights_22 : decode cX6_nights 22 = .ok (.getfield 130, 3) := by decide +kernel
theorem dX6_nights_25 : decode cX6_nights 25 = .ok (.getfield 133, 3) := by decide +kernel
theorem dX6_nights_28 : decode cX6_nights 28 = .ok (.iload_n 1, 1) := by decide +kernel
theorem dX6_nights_29 : decode cX6_nights 29 = .ok (.iadd, 1) := by decide +kernel
theorem dX6_nights_30 : decode cX6_nights 30 = .ok (.aload_n 0, 1) := by decide +kernel
theorem dX6_nights_31 : decode cX6_nights 31 = .ok (.getfield 50, 3) := by decide +kernel
theorem dX6_nights_34 : decode cX6_nights 34 = .ok (.getfield 124, 3) := by decide +kernel
theorem dX6_nights_37 : decode cX6_nights 37 = .ok (.if_icmp .le 18, 3) := by decide +kernel
theorem dX6_nights_40 : decode cX6_nights 40 = .ok (.aload_n 0, 1) := by decide +kernel
theorem dX6_nights_41 : decode cX6_nights 41 = .ok (.getfield 16, 3) := by decide +kernel
theorem dX6_nights_44 : decode cX6_nights 44 = .ok (.getfield 102, 3) := by decide +kernel
theorem dX6_nights_47 : decode cX6_nights 47 = .ok (.iconst 2, 1) := by decide +kernel
theorem dX6_nights_48 : decode cX6_nights 48 = .ok (.dup2, 1) := by decide +kernel
theorem dX6_nights_49 : decode cX6_nights 49 = .ok (.iaload, 1) := by decide +kernel
theorem dX6_nights_50 : decode cX6_nights 50 = .ok (.iconst 1, 1) := by decide +kernel
theorem dX6_nights_51 : decode cX6_nights 51 = .ok (.iadd, 1) := by decide +kernel
theorem dX6_nights_52 : decode cX6_nights 52 = .ok (.iastore, 1) := by decide +kernel
theorem dX6_nights_53 : decode cX6_nights 53 = .ok (.iconst (-1), 1) := by decide +kernel
theorem dX6_nights_54 : decode cX6_nights 54 = .ok (.ireturn, 1) := by decide +kernel
theorem dX6_nights_55 : decode cX6_nights 55 = .ok (.aload_n 0, 1) := by decide +kernel
theorem dX6_nights_56 : decode cX6_nights 56 = .ok (.getfield 16, 3) := by decide +kernel
theorem dX6_nights_59 : decode cX6_nights 59 = .ok (.getfield 130, 3) := by decide +kernel
theorem dX6_nights_62 : decode cX6_nights 62 = .ok (.getfield 136, 3) := by decide +kernel
theorem dX6_nights_65 : decode cX6_nights 65 = .ok (.istore_n 2, 1) := by decide +kernel
theorem dX6_nights_66 : decode cX6_nights 66 = .ok (.aload_n 0, 1) := by decide +kernel
theorem dX6_nights_67 : decode cX6_nights 67 = .ok (.getfield 75, 3) := by decide +kernel
theorem dX6_nights_70 : decode cX6_nights 70 = .ok (.aload_n 0, 1) := by decide +kernel
theorem dX6_nights_71 : decode cX6_nights 71 = .ok (.getfield 50, 3) := by decide +kernel
theorem dX6_nights_74 : decode cX6_nights 74 = .ok (.aload_n 0, 1) := by decide +kernel
theorem dX6_nights_75 : decode cX6_nights 75 = .ok (.getfield 50, 3) := by decide +kernel
theorem dX6_nights_78 : decode cX6_nights 78 = .ok (.getfield 154, 3) := by decide +kernel
theorem dX6_nights_81 : decode cX6_nights 81 = .ok (.iconst 0, 1) := by decide +kernel
theorem dX6_nights_82 : decode cX6_nights 82 = .ok (.invokevirtual 167, 3) := by decide +kernel
theorem dX6_nights_85 : decode cX6_nights 85 = .ok (.iconst 0, 1) := by decide +kernel
theorem dX6_nights_86 : decode cX6_nights 86 = .ok (.istore_n 3, 1) := by decide +kernel
theorem dX6_nights_87 : decode cX6_nights 87 = .ok (.iload_n 3, 1) := by decide +kernel
theorem dX6_nights_88 : decode cX6_nights 88 = .ok (.iload_n 1, 1) := by decide +kernel
theorem dX6_nights_89 : decode cX6_nights 89 = .ok (.if_icmp .ge 38, 3) := by decide +kernel
theorem dX6_nights_92 : decode cX6_nights 92 = .ok (.aload_n 0, 1) := by decide +kernel
theorem dX6_nights_93 : decode cX6_nights 93 = .ok (.getfield 16, 3) := by decide +kernel
theorem dX6_nights_96 : decode cX6_nights 96 = .ok (.invokevirtual 171, 3) := by decide +kernel
theorem dX6_nights_99 : decode cX6_nights 99 = .ok (.aload_n 0, 1) := by decide +kernel
theorem dX6_nights_100 : decode cX6_nights 100 = .ok (.getfield 75, 3) := by decide +kernel
theorem dX6_nights_103 : decode cX6_nights 103 = .ok (.aload_n 0, 1) := by decide +kernel
theorem dX6_nights_104 : decode cX6_nights 104 = .ok (.getfield 16, 3) := by decide +kernel
theorem dX6_nights_107 : decode cX6_nights 107 = .ok (.getfield 130, 3) := by decide +kernel
theorem dX6_nights_110 : decode cX6_nights 110 = .ok (.invokevirtual 174, 3) := by decide +kernel
theorem dX6_nights_113 : decode cX6_nights 113 = .ok (.pop, 1) := by decide +kernel
theorem dX6_nights_114 : decode cX6_nights 114 = .ok (.aload_n 0, 1) := by decide +kernel
theorem dX6_nights_115 : decode cX6_nights 115 = .ok (.getfield 16, 3) := by decide +kernel
theorem dX6_nights_118 : decode cX6_nights 118 = .ok (.invokevirtual 178, 3) := by decide +kernel
theorem dX6_nights_121 : decode cX6_nights 121 = .ok (.iinc 3 1, 3) := by decide +kernel
theorem dX6_nights_124 : decode cX6_nights 124 = .ok (.goto (-37), 3) := by decide +kernel
theorem dX6_nights_127 : decode cX6_nights 127 = .ok (.aload_n 0, 1) := by decide +kernel
theorem dX6_nights_128 : decode cX6_nights 128 = .ok (.getfield 16, 3) := by decide +kernel
theorem dX6_nights_131 : decode cX6_nights 131 = .ok (.getfield 130, 3) := by decide +kernel
theorem dX6_nights_134 : decode cX6_nights 134 = .ok (.getfield 136, 3) := by decide +kernel
theorem dX6_nights_137 : decode cX6_nights 137 = .ok (.iload_n 2, 1) := by decide +kernel
theorem dX6_nights_138 : decode cX6_nights 138 = .ok (.isub, 1) := by decide +kernel
theorem dX6_nights_139 : decode cX6_nights 139 = .ok (.ireturn, 1) := by decide +kernel
theorem dX6_undo_0 : decode cX6_undo 0 = .ok (.iload_n 1, 1) := by decide +kernel
theorem dX6_undo_1 : decode cX6_undo 1 = .ok (.ifCond .ge 11, 3) := by decide +kernel
theorem dX6_undo_4 : decode cX6_undo 4 = .ok (.new 89, 3) := by decide +kernel
theorem dX6_undo_7 : decode cX6_undo 7 = .ok (.dup, 1) := by decide +kernel
theorem dX6_undo_8 : decode cX6_undo 8 = .ok (.invokespecial 91, 3) := by decide +kernel
theorem dX6_undo_11 : decode cX6_undo 11 = .ok (.athrow, 1) := by decide +kernel
theorem dX6_undo_12 : decode cX6_undo 12 = .ok (.iload_n 1, 1) := by decide +kernel
theorem dX6_undo_13 : decode cX6_undo 13 = .ok (.aload_n 0, 1) := by decide +kernel
theorem dX6_undo_14 : decode cX6_undo 14 = .ok (.getfield 16, 3) := by decide +kernel
theorem dX6_undo_17 : decode cX6_undo 17 = .ok (.getfield 130, 3) := by decide +kernel
theorem dX6_undo_20 : decode cX6_undo 20 = .ok (.getfield 133, 3) := by decide +kernel
theorem dX6_undo_23 : decode cX6_undo 23 = .ok (.invokestatic 181, 3) := by decide +kernel
theorem dX6_undo_26 : decode cX6_undo 26 = .ok (.istore_n 2, 1) := by decide +kernel
theorem dX6_undo_27 : decode cX6_undo 27 = .ok (.iload_n 2, 1) := by decide +kernel
theorem dX6_undo_28 : decode cX6_undo 28 = .ok (.ifCond .le 11, 3) := by decide +kernel
theorem dX6_undo_31 : decode cX6_undo 31 = .ok (.aload_n 0, 1) := by decide +kernel
theorem dX6_undo_32 : decode cX6_undo 32 = .ok (.getfield 16, 3) := by decide +kernel
theorem dX6_undo_35 : decode cX6_undo 35 = .ok (.iload_n 2, 1) := by decide +kernel
theorem dX6_undo_36 : decode cX6_undo 36 = .ok (.invokevirtual 186, 3) := by decide +kernel
theorem dX6_undo_39 : decode cX6_undo 39 = .ok (.iload_n 2, 1) := by decide +kernel
theorem dX6_undo_40 : decode cX6_undo 40 = .ok (.ireturn, 1) := by decide +kernel
theorem dX6_book_0 : decode cX6_book 0 = .ok (.aload_n 0, 1) := by decide +kernel
theorem dX6_book_1 : decode cX6_book 1 = .ok (.iload_n 2, 1) := by decide +kernel
theorem dX6_book_2 : decode cX6_book 2 = .ok (.invokevirtual 142, 3) := by decide +kernel
theorem dX6_book_5 : decode cX6_book 5 = .ok (.iload_n 3, 1) := by decide +kernel
theorem dX6_book_6 : decode cX6_book 6 = .ok (.invokestatic 189, 3) := by decide +kernel
theorem dX6_book_9 : decode cX6_book 9 = .ok (.iload_n 1, 1) := by decide +kernel
theorem dX6_book_10 : decode cX6_book 10 = .ok (.ifCond .lt 17, 3) := by decide +kernel
theorem dX6_book_13 : decode cX6_book 13 = .ok (.iload_n 1, 1) := by decide +kernel
theorem dX6_book_14 : decode cX6_book 14 = .ok (.aload_n 0, 1) := by decide +kernel
theorem dX6_book_15 : decode cX6_book 15 = .ok (.getfield 16, 3) := by decide +kernel
theorem dX6_book_18 : decode cX6_book 18 = .ok (.getfield 130, 3) := by decide +kernel
theorem dX6_book_21 : decode cX6_book 21 = .ok (.getfield 133, 3) := by decide +kernel
theorem dX6_book_24 : decode cX6_book 24 = .ok (.if_icmp .le 11, 3) := by decide +kernel
theorem dX6_book_27 : decode cX6_book 27 = .ok (.new 139, 3) := by decide +kernel
theorem dX6_book_30 : decode cX6_book 30 = .ok (.dup, 1) := by decide +kernel
theorem dX6_book_31 : decode cX6_book 31 = .ok (.invokespecial 141, 3) := by decide +kernel
theorem dX6_book_34 : decode cX6_book 34 = .ok (.athrow, 1) := by decide +kernel
theorem dX6_book_35 : decode cX6_book 35 = .ok (.aload_n 0, 1) := by decide +kernel
theorem dX6_book_36 : decode cX6_book 36 = .ok (.getfield 16, 3) := by decide +kernel
theorem dX6_book_39 : decode cX6_book 39 = .ok (.getfield 192, 3) := by decide +kernel
theorem dX6_book_42 : decode cX6_book 42 = .ok (.iload_n 1, 1) := by decide +kernel
theorem dX6_book_43 : decode cX6_book 43 = .ok (.bipush 18, 2) := by decide +kernel
theorem dX6_book_45 : decode cX6_book 45 = .ok (.imul, 1) := by decide +kernel
theorem dX6_book_46 : decode cX6_book 46 = .ok (.iload_n 2, 1) := by decide +kernel
theorem dX6_book_47 : decode cX6_book 47 = .ok (.iconst 3, 1) := by decide +kernel
theorem dX6_book_48 : decode cX6_book 48 = .ok (.imul, 1) := by decide +kernel
theorem dX6_book_49 : decode cX6_book 49 = .ok (.iadd, 1) := by decide +kernel
theorem dX6_book_50 : decode cX6_book 50 = .ok (.iload_n 3, 1) := by decide +kernel
theorem dX6_book_51 : decode cX6_book 51 = .ok (.iadd, 1) := by decide +kernel
theorem dX6_book_52 : decode cX6_book 52 = .ok (.iaload, 1) := by decide +kernel
theorem dX6_book_53 : decode cX6_book 53 = .ok (.ireturn, 1) := by decide +kernel
theorem dX6_drop_0 : decode cX6_drop 0 = .ok (.aload_n 0, 1) := by decide +kernel
theorem dX6_drop_1 : decode cX6_drop 1 = .ok (.iload_n 1, 1) := by decide +kernel
theorem dX6_drop_2 : decode cX6_drop 2 = .ok (.invokevirtual 142, 3) := by decide +kernel
theorem dX6_drop_5 : decode cX6_drop 5 = .ok (.iload_n 2, 1) := by decide +kernel
theorem dX6_drop_6 : decode cX6_drop 6 = .ok (.invokestatic 189, 3) := by decide +kernel
theorem dX6_drop_9 : decode cX6_drop 9 = .ok (.iload_n 3, 1) := by decide +kernel
theorem dX6_drop_10 : decode cX6_drop 10 = .ok (.invokestatic 189, 3) := by decide +kernel
theorem dX6_drop_13 : decode cX6_drop 13 = .ok (.iload_n 2, 1) := by decide +kernel
theorem dX6_drop_14 : decode cX6_drop 14 = .ok (.iload_n 3, 1) := by decide +kernel
theorem dX6_drop_15 : decode cX6_drop 15 = .ok (.if_icmp .ne 11, 3) := by decide +kernel
theorem dX6_drop_18 : decode cX6_drop 18 = .ok (.new 139, 3) := by decide +kernel
theorem dX6_drop_21 : decode cX6_drop 21 = .ok (.dup, 1) := by decide +kernel
theorem dX6_drop_22 : decode cX6_drop 22 = .ok (.invokespecial 141, 3) := by decide +kernel
theorem dX6_drop_25 : decode cX6_drop 25 = .ok (.athrow, 1) := by decide +kernel
theorem dX6_drop_26 : decode cX6_drop 26 = .ok (.aload_n 0, 1) := by decide +kernel
theorem dX6_drop_27 : decode cX6_drop 27 = .ok (.getfield 16, 3) := by decide +kernel
theorem dX6_drop_30 : decode cX6_drop 30 = .ok (.getfield 130, 3) := by decide +kernel
theorem dX6_drop_33 : decode cX6_drop 33 = .ok (.iload_n 1, 1) := by decide +kernel
theorem dX6_drop_34 : decode cX6_drop 34 = .ok (.invokevirtual 195, 3) := by decide +kernel
theorem dX6_drop_37 : decode cX6_drop 37 = .ok (.ifCond .ne 23, 3) := by decide +kernel
theorem dX6_drop_40 : decode cX6_drop 40 = .ok (.aload_n 0, 1) := by decide +kernel
theorem dX6_drop_41 : decode cX6_drop 41 = .ok (.getfield 16, 3) := by decide +kernel
theorem dX6_drop_44 : decode cX6_drop 44 = .ok (.getfield 130, 3) := by decide +kernel
theorem dX6_drop_47 : decode cX6_drop 47 = .ok (.iload_n 1, 1) := by decide +kernel
theorem dX6_drop_48 : decode cX6_drop 48 = .ok (.iload_n 2, 1) := by decide +kernel
theorem dX6_drop_49 : decode cX6_drop 49 = .ok (.iload_n 3, 1) := by decide +kernel
theorem dX6_drop_50 : decode cX6_drop 50 = .ok (.invokevirtual 199, 3) := by decide +kernel
theorem dX6_drop_53 : decode cX6_drop 53 = .ok (.ifCond .eq 7, 3) := by decide +kernel
theorem dX6_drop_56 : decode cX6_drop 56 = .ok (.iconst 1, 1) := by decide +kernel
theorem dX6_drop_57 : decode cX6_drop 57 = .ok (.goto 4, 3) := by decide +kernel
theorem dX6_drop_60 : decode cX6_drop 60 = .ok (.iconst 0, 1) := by decide +kernel
theorem dX6_drop_61 : decode cX6_drop 61 = .ok (.istore 4, 2) := by decide +kernel
theorem dX6_drop_63 : decode cX6_drop 63 = .ok (.iload 4, 2) := by decide +kernel
theorem dX6_drop_65 : decode cX6_drop 65 = .ok (.ifCond .ne 16, 3) := by decide +kernel
theorem dX6_drop_68 : decode cX6_drop 68 = .ok (.aload_n 0, 1) := by decide +kernel
theorem dX6_drop_69 : decode cX6_drop 69 = .ok (.getfield 16, 3) := by decide +kernel
theorem dX6_drop_72 : decode cX6_drop 72 = .ok (.getfield 102, 3) := by decide +kernel
theorem dX6_drop_75 : decode cX6_drop 75 = .ok (.iconst 1, 1) := by decide +kernel
theorem dX6_drop_76 : decode cX6_drop 76 = .ok (.dup2, 1) := by decide +kernel
theorem dX6_drop_77 : decode cX6_drop 77 = .ok (.iaload, 1) := by decide +kernel
theorem dX6_drop_78 : decode cX6_drop 78 = .ok (.iconst 1, 1) := by decide +kernel
theorem dX6_drop_79 : decode cX6_drop 79 = .ok (.iadd, 1) := by decide +kernel
theorem dX6_drop_80 : decode cX6_drop 80 = .ok (.iastore, 1) := by decide +kernel
theorem dX6_drop_81 : decode cX6_drop 81 = .ok (.iload 4, 2) := by decide +kernel
theorem dX6_drop_83 : decode cX6_drop 83 = .ok (.ireturn, 1) := by decide +kernel
theorem dX6_end_0 : decode cX6_end 0 = .ok (.iload_n 1, 1) := by decide +kernel
theorem dX6_end_1 : decode cX6_end 1 = .ok (.invokestatic 203, 3) := by decide +kernel
theorem dX6_end_4 : decode cX6_end 4 = .ok (.aload_n 0, 1) := by decide +kernel
theorem dX6_end_5 : decode cX6_end 5 = .ok (.invokevirtual 206, 3) := by decide +kernel
theorem dX6_end_8 : decode cX6_end 8 = .ok (.istore_n 2, 1) := by decide +kernel
theorem dX6_end_9 : decode cX6_end 9 = .ok (.iload_n 2, 1) := by decide +kernel
theorem dX6_end_10 : decode cX6_end 10 = .ok (.iconst (-1), 1) := by decide +kernel
theorem dX6_end_11 : decode cX6_end 11 = .ok (.if_icmp .eq 7, 3) := by decide +kernel
theorem dX6_end_14 : decode cX6_end 14 = .ok (.iload_n 1, 1) := by decide +kernel
theorem dX6_end_15 : decode cX6_end 15 = .ok (.ifCond .ne 5, 3) := by decide +kernel
theorem dX6_end_18 : decode cX6_end 18 = .ok (.iload_n 2, 1) := by decide +kernel
theorem dX6_end_19 : decode cX6_end 19 = .ok (.ireturn, 1) := by decide +kernel
theorem dX6_end_20 : decode cX6_end 20 = .ok (.aload_n 0, 1) := by decide +kernel
theorem dX6_end_21 : decode cX6_end 21 = .ok (.invokevirtual 210, 3) := by decide +kernel
theorem dX6_end_24 : decode cX6_end 24 = .ok (.aload_n 0, 1) := by decide +kernel
theorem dX6_end_25 : decode cX6_end 25 = .ok (.getfield 26, 3) := by decide +kernel
theorem dX6_end_28 : decode cX6_end 28 = .ok (.getfield 213, 3) := by decide +kernel
theorem dX6_end_31 : decode cX6_end 31 = .ok (.iconst (-1), 1) := by decide +kernel
theorem dX6_end_32 : decode cX6_end 32 = .ok (.ixor, 1) := by decide +kernel
theorem dX6_end_33 : decode cX6_end 33 = .ok (.iand, 1) := by decide +kernel
theorem dX6_end_34 : decode cX6_end 34 = .ok (.ireturn, 1) := by decide +kernel
theorem dX6_matches_0 : decode cX6_matches 0 = .ok (.iload_n 1, 1) := by decide +kernel
theorem dX6_matches_1 : decode cX6_matches 1 = .ok (.ifCond .lt 8, 3) := by decide +kernel
theorem dX6_matches_4 : decode cX6_matches 4 = .ok (.iload_n 1, 1) := by decide +kernel
theorem dX6_matches_5 : decode cX6_matches 5 = .ok (.iconst 3, 1) := by decide +kernel
theorem dX6_matches_6 : decode cX6_matches 6 = .ok (.if_icmp .le 11, 3) := by decide +kernel
theorem dX6_matches_9 : decode cX6_matches 9 = .ok (.new 89, 3) := by decide +kernel
theorem dX6_matches_12 : decode cX6_matches 12 = .ok (.dup, 1) := by decide +kernel
theorem dX6_matches_13 : decode cX6_matches 13 = .ok (.invokespecial 91, 3) := by decide +kernel
theorem dX6_matches_16 : decode cX6_matches 16 = .ok (.athrow, 1) := by decide +kernel
theorem dX6_matches_17 : decode cX6_matches 17 = .ok (.aload_n 0, 1) := by decide +kernel
theorem dX6_matches_18 : decode cX6_matches 18 = .ok (.getfield 75, 3) := by decide +kernel
theorem dX6_matches_21 : decode cX6_matches 21 = .ok (.aload_n 0, 1) := by decide +kernel
theorem dX6_matches_22 : decode cX6_matches 22 = .ok (.getfield 50, 3) := by decide +kernel
theorem dX6_matches_25 : decode cX6_matches 25 = .ok (.aload_n 0, 1) := by decide +kernel
theorem dX6_matches_26 : decode cX6_matches 26 = .ok (.getfield 50, 3) := by decide +kernel
theorem dX6_matches_29 : decode cX6_matches 29 = .ok (.getfield 154, 3) := by decide +kernel
theorem dX6_matches_32 : decode cX6_matches 32 = .ok (.iload_n 1, 1) := by decide +kernel
theorem dX6_matches_33 : decode cX6_matches 33 = .ok (.invokevirtual 167, 3) := by decide +kernel
theorem dX6_matches_36 : decode cX6_matches 36 = .ok (.aload_n 0, 1) := by decide +kernel
theorem dX6_matches_37 : decode cX6_matches 37 = .ok (.getfield 26, 3) := by decide +kernel
theorem dX6_matches_40 : decode cX6_matches 40 = .ok (.aload_n 0, 1) := by decide +kernel
theorem dX6_matches_41 : decode cX6_matches 41 = .ok (.getfield 16, 3) := by decide +kernel
theorem dX6_matches_44 : decode cX6_matches 44 = .ok (.getfield 130, 3) := by decide +kernel
theorem dX6_matches_47 : decode cX6_matches 47 = .ok (.invokevirtual 216, 3) := by decide +kernel
theorem dX6_matches_50 : decode cX6_matches 50 = .ok (.aload_n 0, 1) := by decide +kernel
theorem dX6_matches_51 : decode cX6_matches 51 = .ok (.getfield 75, 3) := by decide +kernel
theorem dX6_matches_54 : decode cX6_matches 54 = .ok (.aload_n 0, 1) := by decide +kernel
theorem dX6_matches_55 : decode cX6_matches 55 = .ok (.getfield 26, 3) := by decide +kernel
theorem dX6_matches_58 : decode cX6_matches 58 = .ok (.aload_n 0, 1) := by decide +kernel
theorem dX6_matches_59 : decode cX6_matches 59 = .ok (.invokevirtual 210, 3) := by decide +kernel
theorem dX6_matches_62 : decode cX6_matches 62 = .ok (.invokevirtual 220, 3) := by decide +kernel
theorem dX6_matches_65 : decode cX6_matches 65 = .ok (.aload_n 0, 1) := by decide +kernel
theorem dX6_matches_66 : decode cX6_matches 66 = .ok (.getfield 26, 3) := by decide +kernel
theorem dX6_matches_69 : decode cX6_matches 69 = .ok (.getfield 136, 3) := by decide +kernel
theorem dX6_matches_72 : decode cX6_matches 72 = .ok (.ireturn, 1) := by decide +kernel
theorem dX6_mother_0 : decode cX6_mother 0 = .ok (.aload_n 0, 1) := by decide +kernel
theorem dX6_mother_1 : decode cX6_mother 1 = .ok (.iload_n 1, 1) := by decide +kernel
theorem dX6_mother_2 : decode cX6_mother 2 = .ok (.invokevirtual 142, 3) := by decide +kernel
theorem dX6_mother_5 : decode cX6_mother 5 = .ok (.iload_n 2, 1) := by decide +kernel
theorem dX6_mother_6 : decode cX6_mother 6 = .ok (.invokestatic 203, 3) := by decide +kernel
theorem dX6_mother_9 : decode cX6_mother 9 = .ok (.aload_n 0, 1) := by decide +kernel
theorem dX6_mother_10 : decode cX6_mother 10 = .ok (.getfield 16, 3) := by decide +kernel
theorem dX6_mother_13 : decode cX6_mother 13 = .ok (.getfield 130, 3) := by decide +kernel
theorem dX6_mother_16 : decode cX6_mother 16 = .ok (.iload_n 1, 1) := by decide +kernel
theorem dX6_mother_17 : decode cX6_mother 17 = .ok (.invokevirtual 195, 3) := by decide +kernel
theorem dX6_mother_20 : decode cX6_mother 20 = .ok (.ifCond .eq 5, 3) := by decide +kernel
theorem dX6_mother_23 : decode cX6_mother 23 = .ok (.iconst (-1), 1) := by decide +kernel
theorem dX6_mother_24 : decode cX6_mother 24 = .ok (.ireturn, 1) := by decide +kernel
theorem dX6_mother_25 : decode cX6_mother 25 = .ok (.aload_n 0, 1) := by decide +kernel
theorem dX6_mother_26 : decode cX6_mother 26 = .ok (.getfield 75, 3) := by decide +kernel
theorem dX6_mother_29 : decode cX6_mother 29 = .ok (.aload_n 0, 1) := by decide +kernel
theorem dX6_mother_30 : decode cX6_mother 30 = .ok (.getfield 50, 3) := by decide +kernel
theorem dX6_mother_33 : decode cX6_mother 33 = .ok (.aload_n 0, 1) := by decide +kernel
theorem dX6_mother_34 : decode cX6_mother 34 = .ok (.getfield 50, 3) := by decide +kernel
theorem dX6_mother_37 : decode cX6_mother 37 = .ok (.getfield 154, 3) := by decide +kernel
theorem dX6_mother_40 : decode cX6_mother 40 = .ok (.iconst 0, 1) := by decide +kernel
theorem dX6_mother_41 : decode cX6_mother 41 = .ok (.invokevirtual 167, 3) := by decide +kernel
theorem dX6_mother_44 : decode cX6_mother 44 = .ok (.aload_n 0, 1) := by decide +kernel
theorem dX6_mother_45 : decode cX6_mother 45 = .ok (.getfield 43, 3) := by decide +kernel
theorem dX6_mother_48 : decode cX6_mother 48 = .ok (.aload_n 0, 1) := by decide +kernel
theorem dX6_mother_49 : decode cX6_mother 49 = .ok (.getfield 75, 3) := by decide +kernel
theorem dX6_mother_52 : decode cX6_mother 52 = .ok (.aload_n 0, 1) := by decide +kernel
theorem dX6_mother_53 : decode cX6_mother 53 = .ok (.getfield 16, 3) := by decide +kernel
theorem dX6_mother_56 : decode cX6_mother 56 = .ok (.getfield 130, 3) := by decide +kernel
theorem dX6_mother_59 : decode cX6_mother 59 = .ok (.aload_n 0, 1) := by decide +kernel
theorem dX6_mother_60 : decode cX6_mother 60 = .ok (.getfield 26, 3) := by decide +kernel
theorem dX6_mother_63 : decode cX6_mother 63 = .ok (.iconst 1, 1) := by decide +kernel
theorem dX6_mother_64 : decode cX6_mother 64 = .ok (.iload_n 1, 1) := by decide +kernel
theorem dX6_mother_65 : decode cX6_mother 65 = .ok (.ishl, 1) := by decide +kernel
theorem dX6_mother_66 : decode cX6_mother 66 = .ok (.invokevirtual 224, 3) := by decide +kernel
theorem dX6_mother_69 : decode cX6_mother 69 = .ok (.aload_n 0, 1) := by decide +kernel
theorem dX6_mother_70 : decode cX6_mother 70 = .ok (.getfield 43, 3) := by decide +kernel
theorem dX6_mother_73 : decode cX6_mother 73 = .ok (.invokevirtual 228, 3) := by decide +kernel
theorem dX6_mother_76 : decode cX6_mother 76 = .ok (.istore_n 3, 1) := by decide +kernel
theorem dX6_mother_77 : decode cX6_mother 77 = .ok (.iload_n 2, 1) := by decide +kernel
theorem dX6_mother_78 : decode cX6_mother 78 = .ok (.ifCond .ne 12, 3) := by decide +kernel
theorem dX6_mother_81 : decode cX6_mother 81 = .ok (.aload_n 0, 1) := by decide +kernel
theorem dX6_mother_82 : decode cX6_mother 82 = .ok (.getfield 43, 3) := by decide +kernel
theorem dX6_mother_85 : decode cX6_mother 85 = .ok (.iload_n 3, 1) := by decide +kernel
theorem dX6_mother_86 : decode cX6_mother 86 = .ok (.invokevirtual 231, 3) := by decide +kernel
theorem dX6_mother_89 : decode cX6_mother 89 = .ok (.ireturn, 1) := by decide +kernel
theorem dX6_mother_90 : decode cX6_mother 90 = .ok (.aload_n 0, 1) := by decide +kernel
theorem dX6_mother_91 : decode cX6_mother 91 = .ok (.getfield 43, 3) := by decide +kernel
theorem dX6_mother_94 : decode cX6_mother 94 = .ok (.iload_n 3, 1) := by decide +kernel
theorem dX6_mother_95 : decode cX6_mother 95 = .ok (.invokevirtual 235, 3) := by decide +kernel
theorem dX6_mother_98 : decode cX6_mother 98 = .ok (.ireturn, 1) := by decide +kernel
theorem dX6_mothers_0 : decode cX6_mothers 0 = .ok (.iload_n 2, 1) := by decide +kernel
theorem dX6_mothers_1 : decode cX6_mothers 1 = .ok (.invokestatic 203, 3) := by decide +kernel
theorem dX6_mothers_4 : decode cX6_mothers 4 = .ok (.aload_n 0, 1) := by decide +kernel
theorem dX6_mothers_5 : decode cX6_mothers 5 = .ok (.iload_n 1, 1) := by decide +kernel
theorem dX6_mothers_6 : decode cX6_mothers 6 = .ok (.invokevirtual 238, 3) := by decide +kernel
theorem dX6_mothers_9 : decode cX6_mothers 9 = .ok (.ifCond .ne 11, 3) := by decide +kernel
theorem dX6_mothers_12 : decode cX6_mothers 12 = .ok (.new 89, 3) := by decide +kernel
theorem dX6_mothers_15 : decode cX6_mothers 15 = .ok (.dup, 1) := by decide +kernel
theorem dX6_mothers_16 : decode cX6_mothers 16 = .ok (.invokespecial 91, 3) := by decide +kernel
theorem dX6_mothers_19 : decode cX6_mothers 19 = .ok (.athrow, 1) := by decide +kernel
theorem dX6_mothers_20 : decode cX6_mothers 20 = .ok (.aload_n 0, 1) := by decide +kernel
theorem dX6_mothers_21 : decode cX6_mothers 21 = .ok (.getfield 75, 3) := by decide +kernel
theorem dX6_mothers_24 : decode cX6_mothers 24 = .ok (.aload_n 0, 1) := by decide +kernel
theorem dX6_mothers_25 : decode cX6_mothers 25 = .ok (.getfield 50, 3) := by decide +kernel
theorem dX6_mothers_28 : decode cX6_mothers 28 = .ok (.aload_n 0, 1) := by decide +kernel
theorem dX6_mothers_29 : decode cX6_mothers 29 = .ok (.getfield 50, 3) := by decide +kernel
theorem dX6_mothers_32 : decode cX6_mothers 32 = .ok (.getfield 154, 3) := by decide +kernel
theorem dX6_mothers_35 : decode cX6_mothers 35 = .ok (.iconst 0, 1) := by decide +kernel
theorem dX6_mothers_36 : decode cX6_mothers 36 = .ok (.invokevirtual 167, 3) := by decide +kernel
theorem dX6_mothers_39 : decode cX6_mothers 39 = .ok (.aload_n 0, 1) := by decide +kernel
theorem dX6_mothers_40 : decode cX6_mothers 40 = .ok (.getfield 43, 3) := by decide +kernel
theorem dX6_mothers_43 : decode cX6_mothers 43 = .ok (.aload_n 0, 1) := by decide +kernel
theorem dX6_mothers_44 : decode cX6_mothers 44 = .ok (.getfield 75, 3) := by decide +kernel
theorem dX6_mothers_47 : decode cX6_mothers 47 = .ok (.aload_n 0, 1) := by decide +kernel
theorem dX6_mothers_48 : decode cX6_mothers 48 = .ok (.getfield 16, 3) := by decide +kernel
theorem dX6_mothers_51 : decode cX6_mothers 51 = .ok (.getfield 130, 3) := by decide +kernel
theorem dX6_mothers_54 : decode cX6_mothers 54 = .ok (.aload_n 0, 1) := by decide +kernel
theorem dX6_mothers_55 : decode cX6_mothers 55 = .ok (.getfield 26, 3) := by decide +kernel
theorem dX6_mothers_58 : decode cX6_mothers 58 = .ok (.iload_n 1, 1) := by decide +kernel
theorem dX6_mothers_59 : decode cX6_mothers 59 = .ok (.invokevirtual 224, 3) := by decide +kernel
theorem dX6_mothers_62 : decode cX6_mothers 62 = .ok (.iload_n 2, 1) := by decide +kernel
theorem dX6_mothers_63 : decode cX6_mothers 63 = .ok (.ifCond .ne 11, 3) := by decide +kernel
theorem dX6_mothers_66 : decode cX6_mothers 66 = .ok (.aload_n 0, 1) := by decide +kernel
theorem dX6_mothers_67 : decode cX6_mothers 67 = .ok (.getfield 43, 3) := by decide +kernel
theorem dX6_mothers_70 : decode cX6_mothers 70 = .ok (.invokevirtual 241, 3) := by decide +kernel
theorem dX6_mothers_73 : decode cX6_mothers 73 = .ok (.ireturn, 1) := by decide +kernel
theorem dX6_mothers_74 : decode cX6_mothers 74 = .ok (.aload_n 0, 1) := by decide +kernel
theorem dX6_mothers_75 : decode cX6_mothers 75 = .ok (.getfield 43, 3) := by decide +kernel
theorem dX6_mothers_78 : decode cX6_mothers 78 = .ok (.invokevirtual 244, 3) := by decide +kernel
theorem dX6_mothers_81 : decode cX6_mothers 81 = .ok (.ireturn, 1) := by decide +kernel
theorem dX6_may_0 : decode cX6_may 0 = .ok (.aload_n 0, 1) := by decide +kernel
theorem dX6_may_1 : decode cX6_may 1 = .ok (.iload_n 1, 1) := by decide +kernel
theorem dX6_may_2 : decode cX6_may 2 = .ok (.invokevirtual 142, 3) := by decide +kernel
theorem dX6_may_5 : decode cX6_may 5 = .ok (.aload_n 0, 1) := by decide +kernel
theorem dX6_may_6 : decode cX6_may 6 = .ok (.iload_n 1, 1) := by decide +kernel
theorem dX6_may_7 : decode cX6_may 7 = .ok (.invokevirtual 247, 3) := by decide +kernel
theorem dX6_may_10 : decode cX6_may 10 = .ok (.ireturn, 1) := by decide +kernel
theorem dX6_tells_0 : decode cX6_tells 0 = .ok (.aload_n 0, 1) := by decide +kernel
theorem dX6_tells_1 : decode cX6_tells 1 = .ok (.iload_n 1, 1) := by decide +kernel
theorem dX6_tells_2 : decode cX6_tells 2 = .ok (.invokevirtual 142, 3) := by decide +kernel
theorem dX6_tells_5 : decode cX6_tells 5 = .ok (.iload_n 2, 1) := by decide +kernel
theorem dX6_tells_6 : decode cX6_tells 6 = .ok (.invokestatic 203, 3) := by decide +kernel
theorem dX6_tells_9 : decode cX6_tells 9 = .ok (.aload_n 0, 1) := by decide +kernel
theorem dX6_tells_10 : decode cX6_tells 10 = .ok (.iload_n 1, 1) := by decide +kernel
theorem dX6_tells_11 : decode cX6_tells 11 = .ok (.invokevirtual 247, 3) := by decide +kernel
theorem dX6_tells_14 : decode cX6_tells 14 = .ok (.istore_n 3, 1) := by decide +kernel
theorem dX6_tells_15 : decode cX6_tells 15 = .ok (.iconst (-1), 1) := by decide +kernel
theorem dX6_tells_16 : decode cX6_tells 16 = .ok (.istore 4, 2) := by decide +kernel
theorem dX6_tells_18 : decode cX6_tells 18 = .ok (.iconst (-1), 1) := by decide +kernel
theorem dX6_tells_19 : decode cX6_tells 19 = .ok (.istore 5, 2) := by decide +kernel
theorem dX6_tells_21 : decode cX6_tells 21 = .ok (.aload_n 0, 1) := by decide +kernel
theorem dX6_tells_22 : decode cX6_tells 22 = .ok (.getfield 26, 3) := by decide +kernel
theorem dX6_tells_25 : decode cX6_tells 25 = .ok (.aload_n 0, 1) := by decide +kernel
theorem dX6_tells_26 : decode cX6_tells 26 = .ok (.getfield 16, 3) := by decide +kernel
theorem dX6_tells_29 : decode cX6_tells 29 = .ok (.getfield 130, 3) := by decide +kernel
theorem dX6_tells_32 : decode cX6_tells 32 = .ok (.invokevirtual 216, 3) := by decide +kernel
theorem dX6_tells_35 : decode cX6_tells 35 = .ok (.aload_n 0, 1) := by decide +kernel
theorem dX6_tells_36 : decode cX6_tells 36 = .ok (.getfield 26, 3) := by decide +kernel
theorem dX6_tells_39 : decode cX6_tells 39 = .ok (.getfield 133, 3) := by decide +kernel
theorem dX6_tells_42 : decode cX6_tells 42 = .ok (.istore 6, 2) := by decide +kernel
theorem dX6_tells_44 : decode cX6_tells 44 = .ok (.iload 6, 2) := by decide +kernel
theorem dX6_tells_46 : decode cX6_tells 46 = .ok (.aload_n 0, 1) := by decide +kernel
theorem dX6_tells_47 : decode cX6_tells 47 = .ok (.getfield 50, 3) := by decide +kernel
theorem dX6_tells_50 : decode cX6_tells 50 = .ok (.getfield 124, 3) := by decide +kernel
theorem dX6_tells_53 : decode cX6_tells 53 = .ok (.if_icmp .ge 93, 3) := by decide +kernel
theorem dX6_tells_56 : decode cX6_tells 56 = .ok (.aload_n 0, 1) := by decide +kernel
theorem dX6_tells_57 : decode cX6_tells 57 = .ok (.getfield 75, 3) := by decide +kernel
theorem dX6_tells_60 : decode cX6_tells 60 = .ok (.aload_n 0, 1) := by decide +kernel
theorem dX6_tells_61 : decode cX6_tells 61 = .ok (.getfield 26, 3) := by decide +kernel
theorem dX6_tells_64 : decode cX6_tells 64 = .ok (.iload_n 1, 1) := by decide +kernel
theorem dX6_tells_65 : decode cX6_tells 65 = .ok (.aload_n 0, 1) := by decide +kernel
theorem dX6_tells_66 : decode cX6_tells 66 = .ok (.getfield 50, 3) := by decide +kernel
theorem dX6_tells_69 : decode cX6_tells 69 = .ok (.getfield 154, 3) := by decide +kernel
theorem dX6_tells_72 : decode cX6_tells 72 = .ok (.iload_n 1, 1) := by decide +kernel
theorem dX6_tells_73 : decode cX6_tells 73 = .ok (.iaload, 1) := by decide +kernel
theorem dX6_tells_74 : decode cX6_tells 74 = .ok (.invokevirtual 250, 3) := by decide +kernel
theorem dX6_tells_77 : decode cX6_tells 77 = .ok (.aload_n 0, 1) := by decide +kernel
theorem dX6_tells_78 : decode cX6_tells 78 = .ok (.getfield 75, 3) := by decide +kernel
theorem dX6_tells_81 : decode cX6_tells 81 = .ok (.getfield 254, 3) := by decide +kernel
theorem dX6_tells_84 : decode cX6_tells 84 = .ok (.iload_n 1, 1) := by decide +kernel
theorem dX6_tells_85 : decode cX6_tells 85 = .ok (.iconst 3, 1) := by decide +kernel
theorem dX6_tells_86 : decode cX6_tells 86 = .ok (.imul, 1) := by decide +kernel
theorem dX6_tells_87 : decode cX6_tells 87 = .ok (.aload_n 0, 1) := by decide +kernel
theorem dX6_tells_88 : decode cX6_tells 88 = .ok (.getfield 37, 3) := by decide +kernel
theorem dX6_tells_91 : decode cX6_tells 91 = .ok (.iconst 0, 1) := by decide +kernel
theorem dX6_tells_92 : decode cX6_tells 92 = .ok (.iconst 3, 1) := by decide +kernel
theorem dX6_tells_93 : decode cX6_tells 93 = .ok (.invokestatic 257, 3) := by decide +kernel
theorem dX6_tells_96 : decode cX6_tells 96 = .ok (.aload_n 0, 1) := by decide +kernel
theorem dX6_tells_97 : decode cX6_tells 97 = .ok (.iload_n 1, 1) := by decide +kernel
theorem dX6_tells_98 : decode cX6_tells 98 = .ok (.iload_n 3, 1) := by decide +kernel
theorem dX6_tells_99 : decode cX6_tells 99 = .ok (.invokevirtual 263, 3) := by decide +kernel
theorem dX6_tells_102 : decode cX6_tells 102 = .ok (.invokestatic 266, 3) := by decide +kernel
theorem dX6_tells_105 : decode cX6_tells 105 = .ok (.istore 7, 2) := by decide +kernel
theorem dX6_tells_107 : decode cX6_tells 107 = .ok (.iload 5, 2) := by decide +kernel
theorem dX6_tells_109 : decode cX6_tells 109 = .ok (.iconst (-1), 1) := by decide +kernel
theorem dX6_tells_110 : decode cX6_tells 110 = .ok (.if_icmp .eq 10, 3) := by decide +kernel
theorem dX6_tells_113 : decode cX6_tells 113 = .ok (.iload 7, 2) := by decide +kernel
theorem dX6_tells_115 : decode cX6_tells 115 = .ok (.iload 5, 2) := by decide +kernel
theorem dX6_tells_117 : decode cX6_tells 117 = .ok (.if_icmp .ge 11, 3) := by decide +kernel
theorem dX6_tells_120 : decode cX6_tells 120 = .ok (.iload 7, 2) := by decide +kernel
theorem dX6_tells_122 : decode cX6_tells 122 = .ok (.istore 5, 2) := by decide +kernel
theorem dX6_tells_124 : decode cX6_tells 124 = .ok (.iload 6, 2) := by decide +kernel
theorem dX6_tells_126 : decode cX6_tells 126 = .ok (.istore 4, 2) := by decide +kernel
theorem dX6_tells_128 : decode cX6_tells 128 = .ok (.aload_n 0, 1) := by decide +kernel
theorem dX6_tells_129 : decode cX6_tells 129 = .ok (.getfield 75, 3) := by decide +kernel
theorem dX6_tells_132 : decode cX6_tells 132 = .ok (.aload_n 0, 1) := by decide +kernel
theorem dX6_tells_133 : decode cX6_tells 133 = .ok (.getfield 26, 3) := by decide +kernel
theorem dX6_tells_136 : decode cX6_tells 136 = .ok (.invokevirtual 174, 3) := by decide +kernel
theorem dX6_tells_139 : decode cX6_tells 139 = .ok (.pop, 1) := by decide +kernel
theorem dX6_tells_140 : decode cX6_tells 140 = .ok (.iinc 6 1, 3) := by decide +kernel
theorem dX6_tells_143 : decode cX6_tells 143 = .ok (.goto (-99), 3) := by decide +kernel
theorem dX6_tells_146 : decode cX6_tells 146 = .ok (.iload_n 2, 1) := by decide +kernel
theorem dX6_tells_147 : decode cX6_tells 147 = .ok (.ifCond .ne 8, 3) := by decide +kernel
theorem dX6_tells_150 : decode cX6_tells 150 = .ok (.iload 4, 2) := by decide +kernel
theorem dX6_tells_152 : decode cX6_tells 152 = .ok (.goto 5, 3) := by decide +kernel
theorem dX6_tells_155 : decode cX6_tells 155 = .ok (.iload 5, 2) := by decide +kernel
theorem dX6_tells_157 : decode cX6_tells 157 = .ok (.ireturn, 1) := by decide +kernel
theorem dX6_near_0 : decode cX6_near 0 = .ok (.iload_n 1, 1) := by decide +kernel
theorem dX6_near_1 : decode cX6_near 1 = .ok (.ifCond .lt 9, 3) := by decide +kernel
theorem dX6_near_4 : decode cX6_near 4 = .ok (.iload_n 1, 1) := by decide +kernel
theorem dX6_near_5 : decode cX6_near 5 = .ok (.bipush 30, 2) := by decide +kernel
theorem dX6_near_7 : decode cX6_near 7 = .ok (.if_icmp .le 11, 3) := by decide +kernel
theorem dX6_near_10 : decode cX6_near 10 = .ok (.new 89, 3) := by decide +kernel
theorem dX6_near_13 : decode cX6_near 13 = .ok (.dup, 1) := by decide +kernel
theorem dX6_near_14 : decode cX6_near 14 = .ok (.invokespecial 91, 3) := by decide +kernel
theorem dX6_near_17 : decode cX6_near 17 = .ok (.athrow, 1) := by decide +kernel
theorem dX6_near_18 : decode cX6_near 18 = .ok (.iconst 0, 1) := by decide +kernel
theorem dX6_near_19 : decode cX6_near 19 = .ok (.istore_n 2, 1) := by decide +kernel
theorem dX6_near_20 : decode cX6_near 20 = .ok (.iconst 0, 1) := by decide +kernel
theorem dX6_near_21 : decode cX6_near 21 = .ok (.istore_n 3, 1) := by decide +kernel
theorem dX6_near_22 : decode cX6_near 22 = .ok (.iload_n 3, 1) := by decide +kernel
theorem dX6_near_23 : decode cX6_near 23 = .ok (.aload_n 0, 1) := by decide +kernel
theorem dX6_near_24 : decode cX6_near 24 = .ok (.getfield 50, 3) := by decide +kernel
theorem dX6_near_27 : decode cX6_near 27 = .ok (.getfield 112, 3) := by decide +kernel
theorem dX6_near_30 : decode cX6_near 30 = .ok (.if_icmp .ge 81, 3) := by decide +kernel
theorem dX6_near_33 : decode cX6_near 33 = .ok (.iload_n 3, 1) := by decide +kernel
theorem dX6_near_34 : decode cX6_near 34 = .ok (.iconst 1, 1) := by decide +kernel
theorem dX6_near_35 : decode cX6_near 35 = .ok (.iadd, 1) := by decide +kernel
theorem dX6_near_36 : decode cX6_near 36 = .ok (.istore 4, 2) := by decide +kernel
theorem dX6_near_38 : decode cX6_near 38 = .ok (.iload 4, 2) := by decide +kernel
theorem dX6_near_40 : decode cX6_near 40 = .ok (.aload_n 0, 1) := by decide +kernel
theorem dX6_near_41 : decode cX6_near 41 = .ok (.getfield 50, 3) := by decide +kernel
theorem dX6_near_44 : decode cX6_near 44 = .ok (.getfield 112, 3) := by decide +kernel
theorem dX6_near_47 : decode cX6_near 47 = .ok (.if_icmp .ge 58, 3) := by decide +kernel
theorem dX6_near_50 : decode cX6_near 50 = .ok (.aload_n 0, 1) := by decide +kernel
theorem dX6_near_51 : decode cX6_near 51 = .ok (.getfield 16, 3) := by decide +kernel
theorem dX6_near_54 : decode cX6_near 54 = .ok (.getfield 130, 3) := by decide +kernel
theorem dX6_near_57 : decode cX6_near 57 = .ok (.iload_n 3, 1) := by decide +kernel
theorem dX6_near_58 : decode cX6_near 58 = .ok (.invokevirtual 195, 3) := by decide +kernel
theorem dX6_near_61 : decode cX6_near 61 = .ok (.ifCond .ne 38, 3) := by decide +kernel
theorem dX6_near_64 : decode cX6_near 64 = .ok (.aload_n 0, 1) := by decide +kernel
theorem dX6_near_65 : decode cX6_near 65 = .ok (.getfield 16, 3) := by decide +kernel
theorem dX6_near_68 : decode cX6_near 68 = .ok (.getfield 130, 3) := by decide +kernel
theorem dX6_near_71 : decode cX6_near 71 = .ok (.iload 4, 2) := by decide +kernel
theorem dX6_near_73 : decode cX6_near 73 = .ok (.invokevirtual 195, 3) := by decide +kernel
theorem dX6_near_76 : decode cX6_near 76 = .ok (.ifCond .ne 23, 3) := by decide +kernel
theorem dX6_near_79 : decode cX6_near 79 = .ok (.aload_n 0, 1) := by decide +kernel
theorem dX6_near_80 : decode cX6_near 80 = .ok (.getfield 16, 3) := by decide +kernel
theorem dX6_near_83 : decode cX6_near 83 = .ok (.getfield 130, 3) := by decide +kernel
theorem dX6_near_86 : decode cX6_near 86 = .ok (.iload_n 3, 1) := by decide +kernel
theorem dX6_near_87 : decode cX6_near 87 = .ok (.iload 4, 2) := by decide +kernel
theorem dX6_near_89 : decode cX6_near 89 = .ok (.invokevirtual 163, 3) := by decide +kernel
theorem dX6_near_92 : decode cX6_near 92 = .ok (.iload_n 1, 1) := by decide +kernel
theorem dX6_near_93 : decode cX6_near 93 = .ok (.if_icmp .gt 6, 3) := by decide +kernel
theorem dX6_near_96 : decode cX6_near 96 = .ok (.iinc 2 1, 3) := by decide +kernel
theorem dX6_near_99 : decode cX6_near 99 = .ok (.iinc 4 1, 3) := by decide +kernel
theorem dX6_near_102 : decode cX6_near 102 = .ok (.goto (-64), 3) := by decide +kernel
theorem dX6_near_105 : decode cX6_near 105 = .ok (.iinc 3 1, 3) := by decide +kernel
theorem dX6_near_108 : decode cX6_near 108 = .ok (.goto (-86), 3) := by decide +kernel
theorem dX6_near_111 : decode cX6_near 111 = .ok (.iload_n 2, 1) := by decide +kernel
theorem dX6_near_112 : decode cX6_near 112 = .ok (.ireturn, 1) := by decide +kernel
theorem dX6_years_0 : decode cX6_years 0 = .ok (.aload_n 0, 1) := by decide +kernel
theorem dX6_years_1 : decode cX6_years 1 = .ok (.iload_n 1, 1) := by decide +kernel
theorem dX6_years_2 : decode cX6_years 2 = .ok (.invokevirtual 142, 3) := by decide +kernel
theorem dX6_years_5 : decode cX6_years 5 = .ok (.iload_n 3, 1) := by decide +kernel
theorem dX6_years_6 : decode cX6_years 6 = .ok (.ifCond .lt 9, 3) := by decide +kernel
theorem dX6_years_9 : decode cX6_years 9 = .ok (.iload_n 3, 1) := by decide +kernel
theorem dX6_years_10 : decode cX6_years 10 = .ok (.bipush 40, 2) := by decide +kernel
theorem dX6_years_12 : decode cX6_years 12 = .ok (.if_icmp .le 11, 3) := by decide +kernel
theorem dX6_years_15 : decode cX6_years 15 = .ok (.new 89, 3) := by decide +kernel
theorem dX6_years_18 : decode cX6_years 18 = .ok (.dup, 1) := by decide +kernel
theorem dX6_years_19 : decode cX6_years 19 = .ok (.invokespecial 91, 3) := by decide +kernel
theorem dX6_years_22 : decode cX6_years 22 = .ok (.athrow, 1) := by decide +kernel
theorem dX6_years_23 : decode cX6_years 23 = .ok (.aload_n 0, 1) := by decide +kernel
theorem dX6_years_24 : decode cX6_years 24 = .ok (.getfield 75, 3) := by decide +kernel
theorem dX6_years_27 : decode cX6_years 27 = .ok (.aload_n 0, 1) := by decide +kernel
theorem dX6_years_28 : decode cX6_years 28 = .ok (.getfield 50, 3) := by decide +kernel
theorem dX6_years_31 : decode cX6_years 31 = .ok (.aload_n 0, 1) := by decide +kernel
theorem dX6_years_32 : decode cX6_years 32 = .ok (.getfield 34, 3) := by decide +kernel
theorem dX6_years_35 : decode cX6_years 35 = .ok (.iconst 0, 1) := by decide +kernel
theorem dX6_years_36 : decode cX6_years 36 = .ok (.invokevirtual 167, 3) := by decide +kernel
theorem dX6_years_39 : decode cX6_years 39 = .ok (.iconst 0, 1) := by decide +kernel
theorem dX6_years_40 : decode cX6_years 40 = .ok (.istore 4, 2) := by decide +kernel
theorem dX6_years_42 : decode cX6_years 42 = .ok (.iload_n 2, 1) := by decide +kernel
theorem dX6_years_43 : decode cX6_years 43 = .ok (.istore 5, 2) := by decide +kernel
theorem dX6_years_45 : decode cX6_years 45 = .ok (.iconst 0, 1) := by decide +kernel
theorem dX6_years_46 : decode cX6_years 46 = .ok (.istore 6, 2) := by decide +kernel
theorem dX6_years_48 : decode cX6_years 48 = .ok (.iload 6, 2) := by decide +kernel
theorem dX6_years_50 : decode cX6_years 50 = .ok (.iload_n 3, 1) := by decide +kernel
theorem dX6_years_51 : decode cX6_years 51 = .ok (.if_icmp .ge 56, 3) := by decide +kernel
theorem dX6_years_54 : decode cX6_years 54 = .ok (.aload_n 0, 1) := by decide +kernel
theorem dX6_years_55 : decode cX6_years 55 = .ok (.iload 5, 2) := by decide +kernel
theorem dX6_years_57 : decode cX6_years 57 = .ok (.invokevirtual 271, 3) := by decide +kernel
theorem dX6_years_60 : decode cX6_years 60 = .ok (.istore 5, 2) := by decide +kernel
theorem dX6_years_62 : decode cX6_years 62 = .ok (.aload_n 0, 1) := by decide +kernel
theorem dX6_years_63 : decode cX6_years 63 = .ok (.getfield 26, 3) := by decide +kernel
theorem dX6_years_66 : decode cX6_years 66 = .ok (.aload_n 0, 1) := by decide +kernel
theorem dX6_years_67 : decode cX6_years 67 = .ok (.getfield 50, 3) := by decide +kernel
theorem dX6_years_70 : decode cX6_years 70 = .ok (.invokevirtual 274, 3) := by decide +kernel
theorem dX6_years_73 : decode cX6_years 73 = .ok (.aload_n 0, 1) := by decide +kernel
theorem dX6_years_74 : decode cX6_years 74 = .ok (.getfield 75, 3) := by decide +kernel
theorem dX6_years_77 : decode cX6_years 77 = .ok (.aload_n 0, 1) := by decide +kernel
theorem dX6_years_78 : decode cX6_years 78 = .ok (.getfield 26, 3) := by decide +kernel
theorem dX6_years_81 : decode cX6_years 81 = .ok (.iconst 1, 1) := by decide +kernel
theorem dX6_years_82 : decode cX6_years 82 = .ok (.iload_n 1, 1) := by decide +kernel
theorem dX6_years_83 : decode cX6_years 83 = .ok (.ishl, 1) := by decide +kernel
theorem dX6_years_84 : decode cX6_years 84 = .ok (.invokevirtual 220, 3) := by decide +kernel
theorem dX6_years_87 : decode cX6_years 87 = .ok (.aload_n 0, 1) := by decide +kernel
theorem dX6_years_88 : decode cX6_years 88 = .ok (.getfield 26, 3) := by decide +kernel
theorem dX6_years_91 : decode cX6_years 91 = .ok (.iload_n 1, 1) := by decide +kernel
theorem dX6_years_92 : decode cX6_years 92 = .ok (.invokevirtual 195, 3) := by decide +kernel
theorem dX6_years_95 : decode cX6_years 95 = .ok (.ifCond .ne 6, 3) := by decide +kernel
theorem dX6_years_98 : decode cX6_years 98 = .ok (.iinc 4 1, 3) := by decide +kernel
theorem dX6_years_101 : decode cX6_years 101 = .ok (.iinc 6 1, 3) := by decide +kernel
theorem dX6_years_104 : decode cX6_years 104 = .ok (.goto (-56), 3) := by decide +kernel
theorem dX6_years_107 : decode cX6_years 107 = .ok (.iload 4, 2) := by decide +kernel
theorem dX6_years_109 : decode cX6_years 109 = .ok (.ireturn, 1) := by decide +kernel
theorem dX6_image_0 : decode cX6_image 0 = .ok (.aload_n 0, 1) := by decide +kernel
theorem dX6_image_1 : decode cX6_image 1 = .ok (.getfield 20, 3) := by decide +kernel
theorem dX6_image_4 : decode cX6_image 4 = .ok (.aload_n 0, 1) := by decide +kernel
theorem dX6_image_5 : decode cX6_image 5 = .ok (.getfield 16, 3) := by decide +kernel
theorem dX6_image_8 : decode cX6_image 8 = .ok (.invokevirtual 275, 3) := by decide +kernel
theorem dX6_image_11 : decode cX6_image 11 = .ok (.aload_n 0, 1) := by decide +kernel
theorem dX6_image_12 : decode cX6_image 12 = .ok (.iconst 1, 1) := by decide +kernel
theorem dX6_image_13 : decode cX6_image 13 = .ok (.putfield 105, 3) := by decide +kernel
theorem dX6_image_16 : decode cX6_image 16 = .ok (.return_, 1) := by decide +kernel
theorem dX6_restore_0 : decode cX6_restore 0 = .ok (.aload_n 0, 1) := by decide +kernel
