theorem dX7_readLamp_12 : decode cX7_readLamp 12 = .ok (.aload_n 0, 1) := by decide +kernel
theorem dX7_readLamp_13 : decode cX7_readLamp 13 = .ok (.invokevirtual 201, 3) := by decide +kernel
theorem dX7_readLamp_16 : decode cX7_readLamp 16 = .ok (.iload_n 1, 1) := by decide +kernel
theorem dX7_readLamp_17 : decode cX7_readLamp 17 = .ok (.ireturn, 1) := by decide +kernel
theorem dX7_readNewLamp_0 : decode cX7_readNewLamp 0 = .ok (.aload_n 0, 1) := by decide +kernel
theorem dX7_readNewLamp_1 : decode cX7_readNewLamp 1 = .ok (.getfield 43, 3) := by decide +kernel
theorem dX7_readNewLamp_4 : decode cX7_readNewLamp 4 = .ok (.bipush 8, 2) := by decide +kernel
theorem dX7_readNewLamp_6 : decode cX7_readNewLamp 6 = .ok (.iaload, 1) := by decide +kernel
theorem dX7_readNewLamp_7 : decode cX7_readNewLamp 7 = .ok (.bipush 6, 2) := by decide +kernel
theorem dX7_readNewLamp_9 : decode cX7_readNewLamp 9 = .ok (.if_icmp .ne 8, 3) := by decide +kernel
theorem dX7_readNewLamp_12 : decode cX7_readNewLamp 12 = .ok (.aload_n 0, 1) := by decide +kernel
theorem dX7_readNewLamp_13 : decode cX7_readNewLamp 13 = .ok (.iconst 2, 1) := by decide +kernel
theorem dX7_readNewLamp_14 : decode cX7_readNewLamp 14 = .ok (.invokevirtual 194, 3) := by decide +kernel
theorem dX7_readNewLamp_17 : decode cX7_readNewLamp 17 = .ok (.aload_n 0, 1) := by decide +kernel
theorem dX7_readNewLamp_18 : decode cX7_readNewLamp 18 = .ok (.getfield 176, 3) := by decide +kernel
theorem dX7_readNewLamp_21 : decode cX7_readNewLamp 21 = .ok (.ifCond .eq 4, 3) := by decide +kernel
theorem dX7_readNewLamp_24 : decode cX7_readNewLamp 24 = .ok (.return_, 1) := by decide +kernel
theorem dX7_readNewLamp_25 : decode cX7_readNewLamp 25 = .ok (.aload_n 0, 1) := by decide +kernel
theorem dX7_readNewLamp_26 : decode cX7_readNewLamp 26 = .ok (.invokevirtual 201, 3) := by decide +kernel
theorem dX7_readNewLamp_29 : decode cX7_readNewLamp 29 = .ok (.bipush 6, 2) := by decide +kernel
theorem dX7_readNewLamp_31 : decode cX7_readNewLamp 31 = .ok (.aload_n 0, 1) := by decide +kernel
theorem dX7_readNewLamp_32 : decode cX7_readNewLamp 32 = .ok (.getfield 43, 3) := by decide +kernel
theorem dX7_readNewLamp_35 : decode cX7_readNewLamp 35 = .ok (.bipush 8, 2) := by decide +kernel
theorem dX7_readNewLamp_37 : decode cX7_readNewLamp 37 = .ok (.iaload, 1) := by decide +kernel
theorem dX7_readNewLamp_38 : decode cX7_readNewLamp 38 = .ok (.iadd, 1) := by decide +kernel
theorem dX7_readNewLamp_39 : decode cX7_readNewLamp 39 = .ok (.istore_n 2, 1) := by decide +kernel
theorem dX7_readNewLamp_40 : decode cX7_readNewLamp 40 = .ok (.aload_n 0, 1) := by decide +kernel
theorem dX7_readNewLamp_41 : decode cX7_readNewLamp 41 = .ok (.getfield 46, 3) := by decide +kernel
theorem dX7_readNewLamp_44 : decode cX7_readNewLamp 44 = .ok (.iload_n 2, 1) := by decide +kernel
theorem dX7_readNewLamp_45 : decode cX7_readNewLamp 45 = .ok (.iload_n 1, 1) := by decide +kernel
theorem dX7_readNewLamp_46 : decode cX7_readNewLamp 46 = .ok (.iastore, 1) := by decide +kernel
theorem dX7_readNewLamp_47 : decode cX7_readNewLamp 47 = .ok (.aload_n 0, 1) := by decide +kernel
theorem dX7_readNewLamp_48 : decode cX7_readNewLamp 48 = .ok (.getfield 49, 3) := by decide +kernel
theorem dX7_readNewLamp_51 : decode cX7_readNewLamp 51 = .ok (.iload_n 2, 1) := by decide +kernel
theorem dX7_readNewLamp_52 : decode cX7_readNewLamp 52 = .ok (.aload_n 0, 1) := by decide +kernel
theorem dX7_readNewLamp_53 : decode cX7_readNewLamp 53 = .ok (.iconst 0, 1) := by decide +kernel
theorem dX7_readNewLamp_54 : decode cX7_readNewLamp 54 = .ok (.iconst 1, 1) := by decide +kernel
theorem dX7_readNewLamp_55 : decode cX7_readNewLamp 55 = .ok (.invokevirtual 207, 3) := by decide +kernel
theorem dX7_readNewLamp_58 : decode cX7_readNewLamp 58 = .ok (.iastore, 1) := by decide +kernel
theorem dX7_readNewLamp_59 : decode cX7_readNewLamp 59 = .ok (.aload_n 0, 1) := by decide +kernel
theorem dX7_readNewLamp_60 : decode cX7_readNewLamp 60 = .ok (.iconst 0, 1) := by decide +kernel
theorem dX7_readNewLamp_61 : decode cX7_readNewLamp 61 = .ok (.aload_n 0, 1) := by decide +kernel
theorem dX7_readNewLamp_62 : decode cX7_readNewLamp 62 = .ok (.getfield 43, 3) := by decide +kernel
theorem dX7_readNewLamp_65 : decode cX7_readNewLamp 65 = .ok (.bipush 7, 2) := by decide +kernel
theorem dX7_readNewLamp_67 : decode cX7_readNewLamp 67 = .ok (.iaload, 1) := by decide +kernel
theorem dX7_readNewLamp_68 : decode cX7_readNewLamp 68 = .ok (.invokevirtual 207, 3) := by decide +kernel
theorem dX7_readNewLamp_71 : decode cX7_readNewLamp 71 = .ok (.istore_n 3, 1) := by decide +kernel
theorem dX7_readNewLamp_72 : decode cX7_readNewLamp 72 = .ok (.aload_n 0, 1) := by decide +kernel
theorem dX7_readNewLamp_73 : decode cX7_readNewLamp 73 = .ok (.iconst 0, 1) := by decide +kernel
theorem dX7_readNewLamp_74 : decode cX7_readNewLamp 74 = .ok (.aload_n 0, 1) := by decide +kernel
theorem dX7_readNewLamp_75 : decode cX7_readNewLamp 75 = .ok (.getfield 43, 3) := by decide +kernel
theorem dX7_readNewLamp_78 : decode cX7_readNewLamp 78 = .ok (.bipush 7, 2) := by decide +kernel
theorem dX7_readNewLamp_80 : decode cX7_readNewLamp 80 = .ok (.iaload, 1) := by decide +kernel
theorem dX7_readNewLamp_81 : decode cX7_readNewLamp 81 = .ok (.iload_n 3, 1) := by decide +kernel
theorem dX7_readNewLamp_82 : decode cX7_readNewLamp 82 = .ok (.isub, 1) := by decide +kernel
theorem dX7_readNewLamp_83 : decode cX7_readNewLamp 83 = .ok (.invokevirtual 207, 3) := by decide +kernel
theorem dX7_readNewLamp_86 : decode cX7_readNewLamp 86 = .ok (.istore 4, 2) := by decide +kernel
theorem dX7_readNewLamp_88 : decode cX7_readNewLamp 88 = .ok (.aload_n 0, 1) := by decide +kernel
theorem dX7_readNewLamp_89 : decode cX7_readNewLamp 89 = .ok (.getfield 52, 3) := by decide +kernel
theorem dX7_readNewLamp_92 : decode cX7_readNewLamp 92 = .ok (.iconst 3, 1) := by decide +kernel
theorem dX7_readNewLamp_93 : decode cX7_readNewLamp 93 = .ok (.iload_n 2, 1) := by decide +kernel
theorem dX7_readNewLamp_94 : decode cX7_readNewLamp 94 = .ok (.imul, 1) := by decide +kernel
theorem dX7_readNewLamp_95 : decode cX7_readNewLamp 95 = .ok (.iload_n 3, 1) := by decide +kernel
theorem dX7_readNewLamp_96 : decode cX7_readNewLamp 96 = .ok (.iastore, 1) := by decide +kernel
theorem dX7_readNewLamp_97 : decode cX7_readNewLamp 97 = .ok (.aload_n 0, 1) := by decide +kernel
theorem dX7_readNewLamp_98 : decode cX7_readNewLamp 98 = .ok (.getfield 52, 3) := by decide +kernel
theorem dX7_readNewLamp_101 : decode cX7_readNewLamp 101 = .ok (.iconst 3, 1) := by decide +kernel
theorem dX7_readNewLamp_102 : decode cX7_readNewLamp 102 = .ok (.iload_n 2, 1) := by decide +kernel
theorem dX7_readNewLamp_103 : decode cX7_readNewLamp 103 = .ok (.imul, 1) := by decide +kernel
theorem dX7_readNewLamp_104 : decode cX7_readNewLamp 104 = .ok (.iconst 1, 1) := by decide +kernel
theorem dX7_readNewLamp_105 : decode cX7_readNewLamp 105 = .ok (.iadd, 1) := by decide +kernel
theorem dX7_readNewLamp_106 : decode cX7_readNewLamp 106 = .ok (.iload 4, 2) := by decide +kernel
theorem dX7_readNewLamp_108 : decode cX7_readNewLamp 108 = .ok (.iastore, 1) := by decide +kernel
theorem dX7_readNewLamp_109 : decode cX7_readNewLamp 109 = .ok (.aload_n 0, 1) := by decide +kernel
theorem dX7_readNewLamp_110 : decode cX7_readNewLamp 110 = .ok (.getfield 52, 3) := by decide +kernel
theorem dX7_readNewLamp_113 : decode cX7_readNewLamp 113 = .ok (.iconst 3, 1) := by decide +kernel
theorem dX7_readNewLamp_114 : decode cX7_readNewLamp 114 = .ok (.iload_n 2, 1) := by decide +kernel
theorem dX7_readNewLamp_115 : decode cX7_readNewLamp 115 = .ok (.imul, 1) := by decide +kernel
theorem dX7_readNewLamp_116 : decode cX7_readNewLamp 116 = .ok (.iconst 2, 1) := by decide +kernel
theorem dX7_readNewLamp_117 : decode cX7_readNewLamp 117 = .ok (.iadd, 1) := by decide +kernel
theorem dX7_readNewLamp_118 : decode cX7_readNewLamp 118 = .ok (.aload_n 0, 1) := by decide +kernel
theorem dX7_readNewLamp_119 : decode cX7_readNewLamp 119 = .ok (.getfield 43, 3) := by decide +kernel
theorem dX7_readNewLamp_122 : decode cX7_readNewLamp 122 = .ok (.bipush 7, 2) := by decide +kernel
theorem dX7_readNewLamp_124 : decode cX7_readNewLamp 124 = .ok (.iaload, 1) := by decide +kernel
theorem dX7_readNewLamp_125 : decode cX7_readNewLamp 125 = .ok (.iload_n 3, 1) := by decide +kernel
theorem dX7_readNewLamp_126 : decode cX7_readNewLamp 126 = .ok (.isub, 1) := by decide +kernel
theorem dX7_readNewLamp_127 : decode cX7_readNewLamp 127 = .ok (.iload 4, 2) := by decide +kernel
theorem dX7_readNewLamp_129 : decode cX7_readNewLamp 129 = .ok (.isub, 1) := by decide +kernel
theorem dX7_readNewLamp_130 : decode cX7_readNewLamp 130 = .ok (.iastore, 1) := by decide +kernel
theorem dX7_readNewLamp_131 : decode cX7_readNewLamp 131 = .ok (.aload_n 0, 1) := by decide +kernel
theorem dX7_readNewLamp_132 : decode cX7_readNewLamp 132 = .ok (.getfield 55, 3) := by decide +kernel
theorem dX7_readNewLamp_135 : decode cX7_readNewLamp 135 = .ok (.iload_n 2, 1) := by decide +kernel
theorem dX7_readNewLamp_136 : decode cX7_readNewLamp 136 = .ok (.iconst (-1), 1) := by decide +kernel
theorem dX7_readNewLamp_137 : decode cX7_readNewLamp 137 = .ok (.iastore, 1) := by decide +kernel
theorem dX7_readNewLamp_138 : decode cX7_readNewLamp 138 = .ok (.aload_n 0, 1) := by decide +kernel
theorem dX7_readNewLamp_139 : decode cX7_readNewLamp 139 = .ok (.getfield 43, 3) := by decide +kernel
theorem dX7_readNewLamp_142 : decode cX7_readNewLamp 142 = .ok (.bipush 8, 2) := by decide +kernel
theorem dX7_readNewLamp_144 : decode cX7_readNewLamp 144 = .ok (.dup2, 1) := by decide +kernel
theorem dX7_readNewLamp_145 : decode cX7_readNewLamp 145 = .ok (.iaload, 1) := by decide +kernel
theorem dX7_readNewLamp_146 : decode cX7_readNewLamp 146 = .ok (.iconst 1, 1) := by decide +kernel
theorem dX7_readNewLamp_147 : decode cX7_readNewLamp 147 = .ok (.iadd, 1) := by decide +kernel
theorem dX7_readNewLamp_148 : decode cX7_readNewLamp 148 = .ok (.iastore, 1) := by decide +kernel
theorem dX7_readNewLamp_149 : decode cX7_readNewLamp 149 = .ok (.return_, 1) := by decide +kernel
theorem dX7_readLikes_0 : decode cX7_readLikes 0 = .ok (.aload_n 0, 1) := by decide +kernel
theorem dX7_readLikes_1 : decode cX7_readLikes 1 = .ok (.invokevirtual 201, 3) := by decide +kernel
theorem dX7_readLikes_4 : decode cX7_readLikes 4 = .ok (.aload_n 0, 1) := by decide +kernel
theorem dX7_readLikes_5 : decode cX7_readLikes 5 = .ok (.invokevirtual 204, 3) := by decide +kernel
theorem dX7_readLikes_8 : decode cX7_readLikes 8 = .ok (.istore_n 1, 1) := by decide +kernel
theorem dX7_readLikes_9 : decode cX7_readLikes 9 = .ok (.aload_n 0, 1) := by decide +kernel
theorem dX7_readLikes_10 : decode cX7_readLikes 10 = .ok (.getfield 176, 3) := by decide +kernel
theorem dX7_readLikes_13 : decode cX7_readLikes 13 = .ok (.ifCond .ne 21, 3) := by decide +kernel
theorem dX7_readLikes_16 : decode cX7_readLikes 16 = .ok (.aload_n 0, 1) := by decide +kernel
theorem dX7_readLikes_17 : decode cX7_readLikes 17 = .ok (.getfield 55, 3) := by decide +kernel
theorem dX7_readLikes_20 : decode cX7_readLikes 20 = .ok (.bipush 6, 2) := by decide +kernel
theorem dX7_readLikes_22 : decode cX7_readLikes 22 = .ok (.iload_n 1, 1) := by decide +kernel
theorem dX7_readLikes_23 : decode cX7_readLikes 23 = .ok (.iadd, 1) := by decide +kernel
theorem dX7_readLikes_24 : decode cX7_readLikes 24 = .ok (.iaload, 1) := by decide +kernel
theorem dX7_readLikes_25 : decode cX7_readLikes 25 = .ok (.iconst (-1), 1) := by decide +kernel
theorem dX7_readLikes_26 : decode cX7_readLikes 26 = .ok (.if_icmp .eq 8, 3) := by decide +kernel
theorem dX7_readLikes_29 : decode cX7_readLikes 29 = .ok (.aload_n 0, 1) := by decide +kernel
theorem dX7_readLikes_30 : decode cX7_readLikes 30 = .ok (.iconst 5, 1) := by decide +kernel
theorem dX7_readLikes_31 : decode cX7_readLikes 31 = .ok (.invokevirtual 194, 3) := by decide +kernel
theorem dX7_readLikes_34 : decode cX7_readLikes 34 = .ok (.aload_n 0, 1) := by decide +kernel
theorem dX7_readLikes_35 : decode cX7_readLikes 35 = .ok (.getfield 176, 3) := by decide +kernel
theorem dX7_readLikes_38 : decode cX7_readLikes 38 = .ok (.ifCond .ne 7, 3) := by decide +kernel
theorem dX7_readLikes_41 : decode cX7_readLikes 41 = .ok (.aload_n 0, 1) := by decide +kernel
theorem dX7_readLikes_42 : decode cX7_readLikes 42 = .ok (.invokevirtual 201, 3) := by decide +kernel
theorem dX7_readLikes_45 : decode cX7_readLikes 45 = .ok (.aload_n 0, 1) := by decide +kernel
theorem dX7_readLikes_46 : decode cX7_readLikes 46 = .ok (.invokevirtual 204, 3) := by decide +kernel
theorem dX7_readLikes_49 : decode cX7_readLikes 49 = .ok (.istore_n 2, 1) := by decide +kernel
theorem dX7_readLikes_50 : decode cX7_readLikes 50 = .ok (.aload_n 0, 1) := by decide +kernel
theorem dX7_readLikes_51 : decode cX7_readLikes 51 = .ok (.getfield 176, 3) := by decide +kernel
theorem dX7_readLikes_54 : decode cX7_readLikes 54 = .ok (.ifCond .ne 13, 3) := by decide +kernel
theorem dX7_readLikes_57 : decode cX7_readLikes 57 = .ok (.iload_n 1, 1) := by decide +kernel
theorem dX7_readLikes_58 : decode cX7_readLikes 58 = .ok (.iload_n 2, 1) := by decide +kernel
theorem dX7_readLikes_59 : decode cX7_readLikes 59 = .ok (.if_icmp .ne 8, 3) := by decide +kernel
theorem dX7_readLikes_62 : decode cX7_readLikes 62 = .ok (.aload_n 0, 1) := by decide +kernel
theorem dX7_readLikes_63 : decode cX7_readLikes 63 = .ok (.iconst 5, 1) := by decide +kernel
theorem dX7_readLikes_64 : decode cX7_readLikes 64 = .ok (.invokevirtual 194, 3) := by decide +kernel
theorem dX7_readLikes_67 : decode cX7_readLikes 67 = .ok (.aload_n 0, 1) := by decide +kernel
theorem dX7_readLikes_68 : decode cX7_readLikes 68 = .ok (.getfield 176, 3) := by decide +kernel
theorem dX7_readLikes_71 : decode cX7_readLikes 71 = .ok (.ifCond .eq 4, 3) := by decide +kernel
theorem dX7_readLikes_74 : decode cX7_readLikes 74 = .ok (.return_, 1) := by decide +kernel
theorem dX7_readLikes_75 : decode cX7_readLikes 75 = .ok (.aload_n 0, 1) := by decide +kernel
theorem dX7_readLikes_76 : decode cX7_readLikes 76 = .ok (.invokevirtual 201, 3) := by decide +kernel
theorem dX7_readLikes_79 : decode cX7_readLikes 79 = .ok (.aload_n 0, 1) := by decide +kernel
theorem dX7_readLikes_80 : decode cX7_readLikes 80 = .ok (.getfield 55, 3) := by decide +kernel
theorem dX7_readLikes_83 : decode cX7_readLikes 83 = .ok (.bipush 6, 2) := by decide +kernel
theorem dX7_readLikes_85 : decode cX7_readLikes 85 = .ok (.iload_n 1, 1) := by decide +kernel
theorem dX7_readLikes_86 : decode cX7_readLikes 86 = .ok (.iadd, 1) := by decide +kernel
theorem dX7_readLikes_87 : decode cX7_readLikes 87 = .ok (.iload_n 2, 1) := by decide +kernel
theorem dX7_readLikes_88 : decode cX7_readLikes 88 = .ok (.iastore, 1) := by decide +kernel
theorem dX7_readLikes_89 : decode cX7_readLikes 89 = .ok (.return_, 1) := by decide +kernel
theorem dX7_readFog_0 : decode cX7_readFog 0 = .ok (.aload_n 0, 1) := by decide +kernel
theorem dX7_readFog_1 : decode cX7_readFog 1 = .ok (.getfield 43, 3) := by decide +kernel
theorem dX7_readFog_4 : decode cX7_readFog 4 = .ok (.bipush 13, 2) := by decide +kernel
theorem dX7_readFog_6 : decode cX7_readFog 6 = .ok (.iaload, 1) := by decide +kernel
theorem dX7_readFog_7 : decode cX7_readFog 7 = .ok (.bipush 10, 2) := by decide +kernel
theorem dX7_readFog_9 : decode cX7_readFog 9 = .ok (.if_icmp .ne 8, 3) := by decide +kernel
theorem dX7_readFog_12 : decode cX7_readFog 12 = .ok (.aload_n 0, 1) := by decide +kernel
theorem dX7_readFog_13 : decode cX7_readFog 13 = .ok (.iconst 2, 1) := by decide +kernel
theorem dX7_readFog_14 : decode cX7_readFog 14 = .ok (.invokevirtual 194, 3) := by decide +kernel
theorem dX7_readFog_17 : decode cX7_readFog 17 = .ok (.aload_n 0, 1) := by decide +kernel
theorem dX7_readFog_18 : decode cX7_readFog 18 = .ok (.getfield 176, 3) := by decide +kernel
theorem dX7_readFog_21 : decode cX7_readFog 21 = .ok (.ifCond .eq 4, 3) := by decide +kernel
theorem dX7_readFog_24 : decode cX7_readFog 24 = .ok (.return_, 1) := by decide +kernel
theorem dX7_readFog_25 : decode cX7_readFog 25 = .ok (.aload_n 0, 1) := by decide +kernel
theorem dX7_readFog_26 : decode cX7_readFog 26 = .ok (.invokevirtual 201, 3) := by decide +kernel
theorem dX7_readFog_29 : decode cX7_readFog 29 = .ok (.bipush 10, 2) := by decide +kernel
theorem dX7_readFog_31 : decode cX7_readFog 31 = .ok (.aload_n 0, 1) := by decide +kernel
theorem dX7_readFog_32 : decode cX7_readFog 32 = .ok (.getfield 43, 3) := by decide +kernel
theorem dX7_readFog_35 : decode cX7_readFog 35 = .ok (.bipush 13, 2) := by decide +kernel
theorem dX7_readFog_37 : decode cX7_readFog 37 = .ok (.iaload, 1) := by decide +kernel
theorem dX7_readFog_38 : decode cX7_readFog 38 = .ok (.iadd, 1) := by decide +kernel
theorem dX7_readFog_39 : decode cX7_readFog 39 = .ok (.istore_n 1, 1) := by decide +kernel
theorem dX7_readFog_40 : decode cX7_readFog 40 = .ok (.aload_n 0, 1) := by decide +kernel
theorem dX7_readFog_41 : decode cX7_readFog 41 = .ok (.getfield 58, 3) := by decide +kernel
theorem dX7_readFog_44 : decode cX7_readFog 44 = .ok (.iload_n 1, 1) := by decide +kernel
theorem dX7_readFog_45 : decode cX7_readFog 45 = .ok (.aload_n 0, 1) := by decide +kernel
theorem dX7_readFog_46 : decode cX7_readFog 46 = .ok (.iconst 0, 1) := by decide +kernel
theorem dX7_readFog_47 : decode cX7_readFog 47 = .ok (.bipush 99, 2) := by decide +kernel
theorem dX7_readFog_49 : decode cX7_readFog 49 = .ok (.invokevirtual 207, 3) := by decide +kernel
theorem dX7_readFog_52 : decode cX7_readFog 52 = .ok (.iastore, 1) := by decide +kernel
theorem dX7_readFog_53 : decode cX7_readFog 53 = .ok (.aload_n 0, 1) := by decide +kernel
theorem dX7_readFog_54 : decode cX7_readFog 54 = .ok (.getfield 61, 3) := by decide +kernel
theorem dX7_readFog_57 : decode cX7_readFog 57 = .ok (.iload_n 1, 1) := by decide +kernel
theorem dX7_readFog_58 : decode cX7_readFog 58 = .ok (.aload_n 0, 1) := by decide +kernel
theorem dX7_readFog_59 : decode cX7_readFog 59 = .ok (.invokevirtual 210, 3) := by decide +kernel
theorem dX7_readFog_62 : decode cX7_readFog 62 = .ok (.iastore, 1) := by decide +kernel
theorem dX7_readFog_63 : decode cX7_readFog 63 = .ok (.aload_n 0, 1) := by decide +kernel
theorem dX7_readFog_64 : decode cX7_readFog 64 = .ok (.getfield 64, 3) := by decide +kernel
theorem dX7_readFog_67 : decode cX7_readFog 67 = .ok (.iload_n 1, 1) := by decide +kernel
theorem dX7_readFog_68 : decode cX7_readFog 68 = .ok (.aload_n 0, 1) := by decide +kernel
theorem dX7_readFog_69 : decode cX7_readFog 69 = .ok (.invokevirtual 204, 3) := by decide +kernel
theorem dX7_readFog_72 : decode cX7_readFog 72 = .ok (.iastore, 1) := by decide +kernel
theorem dX7_readFog_73 : decode cX7_readFog 73 = .ok (.aload_n 0, 1) := by decide +kernel
theorem dX7_readFog_74 : decode cX7_readFog 74 = .ok (.getfield 176, 3) := by decide +kernel
theorem dX7_readFog_77 : decode cX7_readFog 77 = .ok (.ifCond .ne 23, 3) := by decide +kernel
theorem dX7_readFog_80 : decode cX7_readFog 80 = .ok (.aload_n 0, 1) := by decide +kernel
theorem dX7_readFog_81 : decode cX7_readFog 81 = .ok (.getfield 64, 3) := by decide +kernel
theorem dX7_readFog_84 : decode cX7_readFog 84 = .ok (.iload_n 1, 1) := by decide +kernel
theorem dX7_readFog_85 : decode cX7_readFog 85 = .ok (.iaload, 1) := by decide +kernel
theorem dX7_readFog_86 : decode cX7_readFog 86 = .ok (.aload_n 0, 1) := by decide +kernel
theorem dX7_readFog_87 : decode cX7_readFog 87 = .ok (.getfield 61, 3) := by decide +kernel
theorem dX7_readFog_90 : decode cX7_readFog 90 = .ok (.iload_n 1, 1) := by decide +kernel
theorem dX7_readFog_91 : decode cX7_readFog 91 = .ok (.iaload, 1) := by decide +kernel
theorem dX7_readFog_92 : decode cX7_readFog 92 = .ok (.if_icmp .ne 8, 3) := by decide +kernel
theorem dX7_readFog_95 : decode cX7_readFog 95 = .ok (.aload_n 0, 1) := by decide +kernel
theorem dX7_readFog_96 : decode cX7_readFog 96 = .ok (.iconst 5, 1) := by decide +kernel
theorem dX7_readFog_97 : decode cX7_readFog 97 = .ok (.invokevirtual 194, 3) := by decide +kernel
theorem dX7_readFog_100 : decode cX7_readFog 100 = .ok (.aload_n 0, 1) := by decide +kernel
theorem dX7_readFog_101 : decode cX7_readFog 101 = .ok (.getfield 176, 3) := by decide +kernel
theorem dX7_readFog_104 : decode cX7_readFog 104 = .ok (.ifCond .ne 7, 3) := by decide +kernel
theorem dX7_readFog_107 : decode cX7_readFog 107 = .ok (.aload_n 0, 1) := by decide +kernel
theorem dX7_readFog_108 : decode cX7_readFog 108 = .ok (.invokevirtual 201, 3) := by decide +kernel
theorem dX7_readFog_111 : decode cX7_readFog 111 = .ok (.aload_n 0, 1) := by decide +kernel
theorem dX7_readFog_112 : decode cX7_readFog 112 = .ok (.getfield 43, 3) := by decide +kernel
theorem dX7_readFog_115 : decode cX7_readFog 115 = .ok (.bipush 13, 2) := by decide +kernel
theorem dX7_readFog_117 : decode cX7_readFog 117 = .ok (.dup2, 1) := by decide +kernel
theorem dX7_readFog_118 : decode cX7_readFog 118 = .ok (.iaload, 1) := by decide +kernel
theorem dX7_readFog_119 : decode cX7_readFog 119 = .ok (.iconst 1, 1) := by decide +kernel
theorem dX7_readFog_120 : decode cX7_readFog 120 = .ok (.iadd, 1) := by decide +kernel
theorem dX7_readFog_121 : decode cX7_readFog 121 = .ok (.iastore, 1) := by decide +kernel
theorem dX7_readFog_122 : decode cX7_readFog 122 = .ok (.return_, 1) := by decide +kernel
theorem dX7_readLine_0 : decode cX7_readLine 0 = .ok (.aload_n 0, 1) := by decide +kernel
theorem dX7_readLine_1 : decode cX7_readLine 1 = .ok (.aload_n 0, 1) := by decide +kernel
theorem dX7_readLine_2 : decode cX7_readLine 2 = .ok (.getfield 19, 3) := by decide +kernel
theorem dX7_readLine_5 : decode cX7_readLine 5 = .ok (.invokevirtual 213, 3) := by decide +kernel
theorem dX7_readLine_8 : decode cX7_readLine 8 = .ok (.istore_n 2, 1) := by decide +kernel
theorem dX7_readLine_9 : decode cX7_readLine 9 = .ok (.aload_n 0, 1) := by decide +kernel
theorem dX7_readLine_10 : decode cX7_readLine 10 = .ok (.aload_n 0, 1) := by decide +kernel
theorem dX7_readLine_11 : decode cX7_readLine 11 = .ok (.getfield 33, 3) := by decide +kernel
theorem dX7_readLine_14 : decode cX7_readLine 14 = .ok (.invokevirtual 213, 3) := by decide +kernel
theorem dX7_readLine_17 : decode cX7_readLine 17 = .ok (.istore_n 3, 1) := by decide +kernel
theorem dX7_readLine_18 : decode cX7_readLine 18 = .ok (.aload_n 0, 1) := by decide +kernel
theorem dX7_readLine_19 : decode cX7_readLine 19 = .ok (.ldc 217, 2) := by decide +kernel
theorem dX7_readLine_21 : decode cX7_readLine 21 = .ok (.invokevirtual 190, 3) := by decide +kernel
theorem dX7_readLine_24 : decode cX7_readLine 24 = .ok (.ifCond .eq 8, 3) := by decide +kernel
theorem dX7_readLine_27 : decode cX7_readLine 27 = .ok (.bipush 16, 2) := by decide +kernel
theorem dX7_readLine_29 : decode cX7_readLine 29 = .ok (.goto 16, 3) := by decide +kernel
theorem dX7_readLine_32 : decode cX7_readLine 32 = .ok (.iload_n 3, 1) := by decide +kernel
theorem dX7_readLine_33 : decode cX7_readLine 33 = .ok (.iconst (-1), 1) := by decide +kernel
theorem dX7_readLine_34 : decode cX7_readLine 34 = .ok (.if_icmp .ne 8, 3) := by decide +kernel
theorem dX7_readLine_37 : decode cX7_readLine 37 = .ok (.bipush 32, 2) := by decide +kernel
theorem dX7_readLine_39 : decode cX7_readLine 39 = .ok (.goto 6, 3) := by decide +kernel
theorem dX7_readLine_42 : decode cX7_readLine 42 = .ok (.iconst 1, 1) := by decide +kernel
theorem dX7_readLine_43 : decode cX7_readLine 43 = .ok (.iload_n 3, 1) := by decide +kernel
theorem dX7_readLine_44 : decode cX7_readLine 44 = .ok (.ishl, 1) := by decide +kernel
theorem dX7_readLine_45 : decode cX7_readLine 45 = .ok (.istore 4, 2) := by decide +kernel
theorem dX7_readLine_47 : decode cX7_readLine 47 = .ok (.iload 4, 2) := by decide +kernel
theorem dX7_readLine_49 : decode cX7_readLine 49 = .ok (.bipush 16, 2) := by decide +kernel
theorem dX7_readLine_51 : decode cX7_readLine 51 = .ok (.if_icmp .ne 7, 3) := by decide +kernel
theorem dX7_readLine_54 : decode cX7_readLine 54 = .ok (.iload_n 1, 1) := by decide +kernel
theorem dX7_readLine_55 : decode cX7_readLine 55 = .ok (.ifCond .ne 17, 3) := by decide +kernel
theorem dX7_readLine_58 : decode cX7_readLine 58 = .ok (.iload 4, 2) := by decide +kernel
theorem dX7_readLine_60 : decode cX7_readLine 60 = .ok (.bipush 16, 2) := by decide +kernel
theorem dX7_readLine_62 : decode cX7_readLine 62 = .ok (.if_icmp .ge 15, 3) := by decide +kernel
theorem dX7_readLine_65 : decode cX7_readLine 65 = .ok (.iload_n 1, 1) := by decide +kernel
theorem dX7_readLine_66 : decode cX7_readLine 66 = .ok (.iload 4, 2) := by decide +kernel
theorem dX7_readLine_68 : decode cX7_readLine 68 = .ok (.iand, 1) := by decide +kernel
theorem dX7_readLine_69 : decode cX7_readLine 69 = .ok (.ifCond .eq 8, 3) := by decide +kernel
theorem dX7_readLine_72 : decode cX7_readLine 72 = .ok (.aload_n 0, 1) := by decide +kernel
theorem dX7_readLine_73 : decode cX7_readLine 73 = .ok (.iconst 4, 1) := by decide +kernel
theorem dX7_readLine_74 : decode cX7_readLine 74 = .ok (.invokevirtual 194, 3) := by decide +kernel
theorem dX7_readLine_77 : decode cX7_readLine 77 = .ok (.aload_n 0, 1) := by decide +kernel
theorem dX7_readLine_78 : decode cX7_readLine 78 = .ok (.getfield 176, 3) := by decide +kernel
theorem dX7_readLine_81 : decode cX7_readLine 81 = .ok (.ifCond .ne 11, 3) := by decide +kernel
theorem dX7_readLine_84 : decode cX7_readLine 84 = .ok (.aload_n 0, 1) := by decide +kernel
theorem dX7_readLine_85 : decode cX7_readLine 85 = .ok (.iload_n 2, 1) := by decide +kernel
theorem dX7_readLine_86 : decode cX7_readLine 86 = .ok (.iload_n 3, 1) := by decide +kernel
theorem dX7_readLine_87 : decode cX7_readLine 87 = .ok (.iload 4, 2) := by decide +kernel
theorem dX7_readLine_89 : decode cX7_readLine 89 = .ok (.invokevirtual 219, 3) := by decide +kernel
theorem dX7_readLine_92 : decode cX7_readLine 92 = .ok (.aload_n 0, 1) := by decide +kernel
theorem dX7_readLine_93 : decode cX7_readLine 93 = .ok (.getfield 176, 3) := by decide +kernel
theorem dX7_readLine_96 : decode cX7_readLine 96 = .ok (.ifCond .ne 16, 3) := by decide +kernel
theorem dX7_readLine_99 : decode cX7_readLine 99 = .ok (.aload_n 0, 1) := by decide +kernel
theorem dX7_readLine_100 : decode cX7_readLine 100 = .ok (.getfield 154, 3) := by decide +kernel
theorem dX7_readLine_103 : decode cX7_readLine 103 = .ok (.iconst 3, 1) := by decide +kernel
theorem dX7_readLine_104 : decode cX7_readLine 104 = .ok (.if_icmp .eq 8, 3) := by decide +kernel
theorem dX7_readLine_107 : decode cX7_readLine 107 = .ok (.aload_n 0, 1) := by decide +kernel
theorem dX7_readLine_108 : decode cX7_readLine 108 = .ok (.iconst 1, 1) := by decide +kernel
theorem dX7_readLine_109 : decode cX7_readLine 109 = .ok (.invokevirtual 194, 3) := by decide +kernel
theorem dX7_readLine_112 : decode cX7_readLine 112 = .ok (.aload_n 0, 1) := by decide +kernel
theorem dX7_readLine_113 : decode cX7_readLine 113 = .ok (.getfield 176, 3) := by decide +kernel
theorem dX7_readLine_116 : decode cX7_readLine 116 = .ok (.ifCond .ne 7, 3) := by decide +kernel
theorem dX7_readLine_119 : decode cX7_readLine 119 = .ok (.aload_n 0, 1) := by decide +kernel
theorem dX7_readLine_120 : decode cX7_readLine 120 = .ok (.invokevirtual 201, 3) := by decide +kernel
theorem dX7_readLine_123 : decode cX7_readLine 123 = .ok (.iload_n 1, 1) := by decide +kernel
theorem dX7_readLine_124 : decode cX7_readLine 124 = .ok (.iload 4, 2) := by decide +kernel
theorem dX7_readLine_126 : decode cX7_readLine 126 = .ok (.ior, 1) := by decide +kernel
theorem dX7_readLine_127 : decode cX7_readLine 127 = .ok (.ireturn, 1) := by decide +kernel
theorem dX7_readBy_0 : decode cX7_readBy 0 = .ok (.iload_n 1, 1) := by decide +kernel
theorem dX7_readBy_1 : decode cX7_readBy 1 = .ok (.iconst (-1), 1) := by decide +kernel
theorem dX7_readBy_2 : decode cX7_readBy 2 = .ok (.if_icmp .eq 11, 3) := by decide +kernel
theorem dX7_readBy_5 : decode cX7_readBy 5 = .ok (.aload_n 0, 1) := by decide +kernel
theorem dX7_readBy_6 : decode cX7_readBy 6 = .ok (.iload_n 1, 1) := by decide +kernel
theorem dX7_readBy_7 : decode cX7_readBy 7 = .ok (.invokevirtual 223, 3) := by decide +kernel
theorem dX7_readBy_10 : decode cX7_readBy 10 = .ok (.goto 108, 3) := by decide +kernel
theorem dX7_readBy_13 : decode cX7_readBy 13 = .ok (.iload_n 2, 1) := by decide +kernel
theorem dX7_readBy_14 : decode cX7_readBy 14 = .ok (.iconst (-1), 1) := by decide +kernel
theorem dX7_readBy_15 : decode cX7_readBy 15 = .ok (.if_icmp .eq 35, 3) := by decide +kernel
theorem dX7_readBy_18 : decode cX7_readBy 18 = .ok (.aload_n 0, 1) := by decide +kernel
theorem dX7_readBy_19 : decode cX7_readBy 19 = .ok (.invokevirtual 201, 3) := by decide +kernel
theorem dX7_readBy_22 : decode cX7_readBy 22 = .ok (.aload_n 0, 1) := by decide +kernel
theorem dX7_readBy_23 : decode cX7_readBy 23 = .ok (.getfield 43, 3) := by decide +kernel
theorem dX7_readBy_26 : decode cX7_readBy 26 = .ok (.bipush 9, 2) := by decide +kernel
theorem dX7_readBy_28 : decode cX7_readBy 28 = .ok (.iload_n 2, 1) := by decide +kernel
theorem dX7_readBy_29 : decode cX7_readBy 29 = .ok (.iadd, 1) := by decide +kernel
theorem dX7_readBy_30 : decode cX7_readBy 30 = .ok (.aload_n 0, 1) := by decide +kernel
theorem dX7_readBy_31 : decode cX7_readBy 31 = .ok (.aload_n 0, 1) := by decide +kernel
theorem dX7_readBy_32 : decode cX7_readBy 32 = .ok (.getfield 36, 3) := by decide +kernel
theorem dX7_readBy_35 : decode cX7_readBy 35 = .ok (.iload_n 2, 1) := by decide +kernel
theorem dX7_readBy_36 : decode cX7_readBy 36 = .ok (.iaload, 1) := by decide +kernel
theorem dX7_readBy_37 : decode cX7_readBy 37 = .ok (.aload_n 0, 1) := by decide +kernel
theorem dX7_readBy_38 : decode cX7_readBy 38 = .ok (.getfield 40, 3) := by decide +kernel
theorem dX7_readBy_41 : decode cX7_readBy 41 = .ok (.iload_n 2, 1) := by decide +kernel
theorem dX7_readBy_42 : decode cX7_readBy 42 = .ok (.iaload, 1) := by decide +kernel
theorem dX7_readBy_43 : decode cX7_readBy 43 = .ok (.invokevirtual 207, 3) := by decide +kernel
theorem dX7_readBy_46 : decode cX7_readBy 46 = .ok (.iastore, 1) := by decide +kernel
theorem dX7_readBy_47 : decode cX7_readBy 47 = .ok (.goto 71, 3) := by decide +kernel
theorem dX7_readBy_50 : decode cX7_readBy 50 = .ok (.iload_n 3, 1) := by decide +kernel
theorem dX7_readBy_51 : decode cX7_readBy 51 = .ok (.bipush 16, 2) := by decide +kernel
theorem dX7_readBy_53 : decode cX7_readBy 53 = .ok (.if_icmp .ne 24, 3) := by decide +kernel
theorem dX7_readBy_56 : decode cX7_readBy 56 = .ok (.aload_n 0, 1) := by decide +kernel
theorem dX7_readBy_57 : decode cX7_readBy 57 = .ok (.invokevirtual 201, 3) := by decide +kernel
theorem dX7_readBy_60 : decode cX7_readBy 60 = .ok (.aload_n 0, 1) := by decide +kernel
theorem dX7_readBy_61 : decode cX7_readBy 61 = .ok (.getfield 43, 3) := by decide +kernel
theorem dX7_readBy_64 : decode cX7_readBy 64 = .ok (.bipush 7, 2) := by decide +kernel
theorem dX7_readBy_66 : decode cX7_readBy 66 = .ok (.aload_n 0, 1) := by decide +kernel
theorem dX7_readBy_67 : decode cX7_readBy 67 = .ok (.iconst 1, 1) := by decide +kernel
theorem dX7_readBy_68 : decode cX7_readBy 68 = .ok (.bipush 30, 2) := by decide +kernel
theorem dX7_readBy_70 : decode cX7_readBy 70 = .ok (.invokevirtual 207, 3) := by decide +kernel
theorem dX7_readBy_73 : decode cX7_readBy 73 = .ok (.iastore, 1) := by decide +kernel
theorem dX7_readBy_74 : decode cX7_readBy 74 = .ok (.goto 44, 3) := by decide +kernel
theorem dX7_readBy_77 : decode cX7_readBy 77 = .ok (.aload_n 0, 1) := by decide +kernel
theorem dX7_readBy_78 : decode cX7_readBy 78 = .ok (.ldc 226, 2) := by decide +kernel
theorem dX7_readBy_80 : decode cX7_readBy 80 = .ok (.invokevirtual 190, 3) := by decide +kernel
theorem dX7_readBy_83 : decode cX7_readBy 83 = .ok (.ifCond .eq 10, 3) := by decide +kernel
theorem dX7_readBy_86 : decode cX7_readBy 86 = .ok (.aload_n 0, 1) := by decide +kernel
theorem dX7_readBy_87 : decode cX7_readBy 87 = .ok (.invokevirtual 227, 3) := by decide +kernel
theorem dX7_readBy_90 : decode cX7_readBy 90 = .ok (.goto 28, 3) := by decide +kernel
theorem dX7_readBy_93 : decode cX7_readBy 93 = .ok (.aload_n 0, 1) := by decide +kernel
theorem dX7_readBy_94 : decode cX7_readBy 94 = .ok (.ldc 230, 2) := by decide +kernel
theorem dX7_readBy_96 : decode cX7_readBy 96 = .ok (.invokevirtual 190, 3) := by decide +kernel
theorem dX7_readBy_99 : decode cX7_readBy 99 = .ok (.ifCond .ne 8, 3) := by decide +kernel
theorem dX7_readBy_102 : decode cX7_readBy 102 = .ok (.aload_n 0, 1) := by decide +kernel
theorem dX7_readBy_103 : decode cX7_readBy 103 = .ok (.iconst 1, 1) := by decide +kernel
theorem dX7_readBy_104 : decode cX7_readBy 104 = .ok (.invokevirtual 194, 3) := by decide +kernel
theorem dX7_readBy_107 : decode cX7_readBy 107 = .ok (.aload_n 0, 1) := by decide +kernel
theorem dX7_readBy_108 : decode cX7_readBy 108 = .ok (.getfield 176, 3) := by decide +kernel
theorem dX7_readBy_111 : decode cX7_readBy 111 = .ok (.ifCond .ne 7, 3) := by decide +kernel
theorem dX7_readBy_114 : decode cX7_readBy 114 = .ok (.aload_n 0, 1) := by decide +kernel
theorem dX7_readBy_115 : decode cX7_readBy 115 = .ok (.invokevirtual 232, 3) := by decide +kernel
theorem dX7_readBy_118 : decode cX7_readBy 118 = .ok (.return_, 1) := by decide +kernel
theorem dX7_valley_0 : decode cX7_valley 0 = .ok (.aload_n 0, 1) := by decide +kernel
theorem dX7_valley_1 : decode cX7_valley 1 = .ok (.iconst 0, 1) := by decide +kernel
theorem dX7_valley_2 : decode cX7_valley 2 = .ok (.putfield 131, 3) := by decide +kernel
theorem dX7_valley_5 : decode cX7_valley 5 = .ok (.iload_n 1, 1) := by decide +kernel
theorem dX7_valley_6 : decode cX7_valley 6 = .ok (.ifCond .lt 11, 3) := by decide +kernel
theorem dX7_valley_9 : decode cX7_valley 9 = .ok (.iload_n 1, 1) := by decide +kernel
theorem dX7_valley_10 : decode cX7_valley 10 = .ok (.aload_n 0, 1) := by decide +kernel
theorem dX7_valley_11 : decode cX7_valley 11 = .ok (.getfield 138, 3) := by decide +kernel
theorem dX7_valley_14 : decode cX7_valley 14 = .ok (.if_icmp .le 9, 3) := by decide +kernel
theorem dX7_valley_17 : decode cX7_valley 17 = .ok (.aload_n 0, 1) := by decide +kernel
theorem dX7_valley_18 : decode cX7_valley 18 = .ok (.iconst 1, 1) := by decide +kernel
theorem dX7_valley_19 : decode cX7_valley 19 = .ok (.invokevirtual 235, 3) := by decide +kernel
theorem dX7_valley_22 : decode cX7_valley 22 = .ok (.ireturn, 1) := by decide +kernel
theorem dX7_valley_23 : decode cX7_valley 23 = .ok (.aload_n 0, 1) := by decide +kernel
theorem dX7_valley_24 : decode cX7_valley 24 = .ok (.iconst 0, 1) := by decide +kernel
theorem dX7_valley_25 : decode cX7_valley 25 = .ok (.putfield 138, 3) := by decide +kernel
theorem dX7_valley_28 : decode cX7_valley 28 = .ok (.aload_n 0, 1) := by decide +kernel
theorem dX7_valley_29 : decode cX7_valley 29 = .ok (.iload_n 1, 1) := by decide +kernel
theorem dX7_valley_30 : decode cX7_valley 30 = .ok (.putfield 141, 3) := by decide +kernel
theorem dX7_valley_33 : decode cX7_valley 33 = .ok (.aload_n 0, 1) := by decide +kernel
theorem dX7_valley_34 : decode cX7_valley 34 = .ok (.iconst 0, 1) := by decide +kernel
theorem dX7_valley_35 : decode cX7_valley 35 = .ok (.putfield 144, 3) := by decide +kernel
theorem dX7_valley_38 : decode cX7_valley 38 = .ok (.aload_n 0, 1) := by decide +kernel
theorem dX7_valley_39 : decode cX7_valley 39 = .ok (.iconst 0, 1) := by decide +kernel
theorem dX7_valley_40 : decode cX7_valley 40 = .ok (.putfield 176, 3) := by decide +kernel
theorem dX7_valley_43 : decode cX7_valley 43 = .ok (.aload_n 0, 1) := by decide +kernel
theorem dX7_valley_44 : decode cX7_valley 44 = .ok (.iconst (-1), 1) := by decide +kernel
theorem dX7_valley_45 : decode cX7_valley 45 = .ok (.putfield 73, 3) := by decide +kernel
theorem dX7_valley_48 : decode cX7_valley 48 = .ok (.iconst 0, 1) := by decide +kernel
theorem dX7_valley_49 : decode cX7_valley 49 = .ok (.istore_n 2, 1) := by decide +kernel
theorem dX7_valley_50 : decode cX7_valley 50 = .ok (.iload_n 2, 1) := by decide +kernel
theorem dX7_valley_51 : decode cX7_valley 51 = .ok (.bipush 7, 2) := by decide +kernel
theorem dX7_valley_53 : decode cX7_valley 53 = .ok (.if_icmp .ge 47, 3) := by decide +kernel
theorem dX7_valley_56 : decode cX7_valley 56 = .ok (.aload_n 0, 1) := by decide +kernel
theorem dX7_valley_57 : decode cX7_valley 57 = .ok (.getfield 43, 3) := by decide +kernel
theorem dX7_valley_60 : decode cX7_valley 60 = .ok (.bipush 7, 2) := by decide +kernel
theorem dX7_valley_62 : decode cX7_valley 62 = .ok (.iload_n 2, 1) := by decide +kernel
theorem dX7_valley_63 : decode cX7_valley 63 = .ok (.iadd, 1) := by decide +kernel
theorem dX7_valley_64 : decode cX7_valley 64 = .ok (.iload_n 2, 1) := by decide +kernel
theorem dX7_valley_65 : decode cX7_valley 65 = .ok (.ifCond .ne 8, 3) := by decide +kernel
theorem dX7_valley_68 : decode cX7_valley 68 = .ok (.bipush 12, 2) := by decide +kernel
theorem dX7_valley_70 : decode cX7_valley 70 = .ok (.goto 23, 3) := by decide +kernel
theorem dX7_valley_73 : decode cX7_valley 73 = .ok (.iload_n 2, 1) := by decide +kernel
theorem dX7_valley_74 : decode cX7_valley 74 = .ok (.iconst 2, 1) := by decide +kernel
theorem dX7_valley_75 : decode cX7_valley 75 = .ok (.if_icmp .ne 7, 3) := by decide +kernel
theorem dX7_valley_78 : decode cX7_valley 78 = .ok (.iconst 1, 1) := by decide +kernel
theorem dX7_valley_79 : decode cX7_valley 79 = .ok (.goto 14, 3) := by decide +kernel
theorem dX7_valley_82 : decode cX7_valley 82 = .ok (.iload_n 2, 1) := by decide +kernel
theorem dX7_valley_83 : decode cX7_valley 83 = .ok (.iconst 5, 1) := by decide +kernel
theorem dX7_valley_84 : decode cX7_valley 84 = .ok (.if_icmp .ne 8, 3) := by decide +kernel
theorem dX7_valley_87 : decode cX7_valley 87 = .ok (.bipush 40, 2) := by decide +kernel
theorem dX7_valley_89 : decode cX7_valley 89 = .ok (.goto 4, 3) := by decide +kernel
theorem dX7_valley_92 : decode cX7_valley 92 = .ok (.iconst 0, 1) := by decide +kernel
theorem dX7_valley_93 : decode cX7_valley 93 = .ok (.iastore, 1) := by decide +kernel
theorem dX7_valley_94 : decode cX7_valley 94 = .ok (.iinc 2 1, 3) := by decide +kernel
theorem dX7_valley_97 : decode cX7_valley 97 = .ok (.goto (-47), 3) := by decide +kernel
theorem dX7_valley_100 : decode cX7_valley 100 = .ok (.aload_n 0, 1) := by decide +kernel
theorem dX7_valley_101 : decode cX7_valley 101 = .ok (.invokevirtual 201, 3) := by decide +kernel
theorem dX7_valley_104 : decode cX7_valley 104 = .ok (.iconst 0, 1) := by decide +kernel
theorem dX7_valley_105 : decode cX7_valley 105 = .ok (.istore_n 2, 1) := by decide +kernel
theorem dX7_valley_106 : decode cX7_valley 106 = .ok (.aload_n 0, 1) := by decide +kernel
theorem dX7_valley_107 : decode cX7_valley 107 = .ok (.getfield 176, 3) := by decide +kernel
theorem dX7_valley_110 : decode cX7_valley 110 = .ok (.ifCond .ne 19, 3) := by decide +kernel
theorem dX7_valley_113 : decode cX7_valley 113 = .ok (.aload_n 0, 1) := by decide +kernel
theorem dX7_valley_114 : decode cX7_valley 114 = .ok (.getfield 154, 3) := by decide +kernel
theorem dX7_valley_117 : decode cX7_valley 117 = .ok (.ifCond .eq 12, 3) := by decide +kernel
theorem dX7_valley_120 : decode cX7_valley 120 = .ok (.aload_n 0, 1) := by decide +kernel
theorem dX7_valley_121 : decode cX7_valley 121 = .ok (.iload_n 2, 1) := by decide +kernel
theorem dX7_valley_122 : decode cX7_valley 122 = .ok (.invokevirtual 238, 3) := by decide +kernel
theorem dX7_valley_125 : decode cX7_valley 125 = .ok (.istore_n 2, 1) := by decide +kernel
theorem dX7_valley_126 : decode cX7_valley 126 = .ok (.goto (-20), 3) := by decide +kernel
theorem dX7_valley_129 : decode cX7_valley 129 = .ok (.aload_n 0, 1) := by decide +kernel
theorem dX7_valley_130 : decode cX7_valley 130 = .ok (.getfield 176, 3) := by decide +kernel
theorem dX7_valley_133 : decode cX7_valley 133 = .ok (.ifCond .eq 26, 3) := by decide +kernel
theorem dX7_valley_136 : decode cX7_valley 136 = .ok (.aload_n 0, 1) := by decide +kernel
theorem dX7_valley_137 : decode cX7_valley 137 = .ok (.aload_n 0, 1) := by decide +kernel
theorem dX7_valley_138 : decode cX7_valley 138 = .ok (.getfield 179, 3) := by decide +kernel
theorem dX7_valley_141 : decode cX7_valley 141 = .ok (.putfield 73, 3) := by decide +kernel
theorem dX7_valley_144 : decode cX7_valley 144 = .ok (.aload_n 0, 1) := by decide +kernel
theorem dX7_valley_145 : decode cX7_valley 145 = .ok (.getfield 67, 3) := by decide +kernel
theorem dX7_valley_148 : decode cX7_valley 148 = .ok (.iconst 0, 1) := by decide +kernel
theorem dX7_valley_149 : decode cX7_valley 149 = .ok (.dup2, 1) := by decide +kernel
theorem dX7_valley_150 : decode cX7_valley 150 = .ok (.iaload, 1) := by decide +kernel
theorem dX7_valley_151 : decode cX7_valley 151 = .ok (.iconst 1, 1) := by decide +kernel
theorem dX7_valley_152 : decode cX7_valley 152 = .ok (.iadd, 1) := by decide +kernel
theorem dX7_valley_153 : decode cX7_valley 153 = .ok (.iastore, 1) := by decide +kernel
theorem dX7_valley_154 : decode cX7_valley 154 = .ok (.aload_n 0, 1) := by decide +kernel
theorem dX7_valley_155 : decode cX7_valley 155 = .ok (.getfield 176, 3) := by decide +kernel
theorem dX7_valley_158 : decode cX7_valley 158 = .ok (.ireturn, 1) := by decide +kernel
theorem dX7_valley_159 : decode cX7_valley 159 = .ok (.aload_n 0, 1) := by decide +kernel
theorem dX7_valley_160 : decode cX7_valley 160 = .ok (.invokevirtual 241, 3) := by decide +kernel
theorem dX7_valley_163 : decode cX7_valley 163 = .ok (.iconst 0, 1) := by decide +kernel
theorem dX7_valley_164 : decode cX7_valley 164 = .ok (.ireturn, 1) := by decide +kernel
theorem dX7_takeHalf_0 : decode cX7_takeHalf 0 = .ok (.iconst 0, 1) := by decide +kernel
theorem dX7_takeHalf_1 : decode cX7_takeHalf 1 = .ok (.istore_n 1, 1) := by decide +kernel
theorem dX7_takeHalf_2 : decode cX7_takeHalf 2 = .ok (.iload_n 1, 1) := by decide +kernel
theorem dX7_takeHalf_3 : decode cX7_takeHalf 3 = .ok (.aload_n 0, 1) := by decide +kernel
theorem dX7_takeHalf_4 : decode cX7_takeHalf 4 = .ok (.arraylength, 1) := by decide +kernel
theorem dX7_takeHalf_5 : decode cX7_takeHalf 5 = .ok (.iconst 2, 1) := by decide +kernel
theorem dX7_takeHalf_6 : decode cX7_takeHalf 6 = .ok (.idiv, 1) := by decide +kernel
theorem dX7_takeHalf_7 : decode cX7_takeHalf 7 = .ok (.if_icmp .ge 20, 3) := by decide +kernel
theorem dX7_takeHalf_10 : decode cX7_takeHalf 10 = .ok (.aload_n 0, 1) := by decide +kernel
theorem dX7_takeHalf_11 : decode cX7_takeHalf 11 = .ok (.iload_n 1, 1) := by decide +kernel
theorem dX7_takeHalf_12 : decode cX7_takeHalf 12 = .ok (.aload_n 0, 1) := by decide +kernel
theorem dX7_takeHalf_13 : decode cX7_takeHalf 13 = .ok (.aload_n 0, 1) := by decide +kernel
theorem dX7_takeHalf_14 : decode cX7_takeHalf 14 = .ok (.arraylength, 1) := by decide +kernel
theorem dX7_takeHalf_15 : decode cX7_takeHalf 15 = .ok (.iconst 2, 1) := by decide +kernel
theorem dX7_takeHalf_16 : decode cX7_takeHalf 16 = .ok (.idiv, 1) := by decide +kernel
theorem dX7_takeHalf_17 : decode cX7_takeHalf 17 = .ok (.iload_n 1, 1) := by decide +kernel
theorem dX7_takeHalf_18 : decode cX7_takeHalf 18 = .ok (.iadd, 1) := by decide +kernel
theorem dX7_takeHalf_19 : decode cX7_takeHalf 19 = .ok (.iaload, 1) := by decide +kernel
theorem dX7_takeHalf_20 : decode cX7_takeHalf 20 = .ok (.iastore, 1) := by decide +kernel
theorem dX7_takeHalf_21 : decode cX7_takeHalf 21 = .ok (.iinc 1 1, 3) := by decide +kernel
theorem dX7_takeHalf_24 : decode cX7_takeHalf 24 = .ok (.goto (-22), 3) := by decide +kernel
theorem dX7_takeHalf_27 : decode cX7_takeHalf 27 = .ok (.return_, 1) := by decide +kernel
theorem dX7_take_0 : decode cX7_take 0 = .ok (.aload_n 0, 1) := by decide +kernel
theorem dX7_take_1 : decode cX7_take 1 = .ok (.getfield 43, 3) := by decide +kernel
theorem dX7_take_4 : decode cX7_take 4 = .ok (.invokestatic 244, 3) := by decide +kernel
theorem dX7_take_7 : decode cX7_take 7 = .ok (.aload_n 0, 1) := by decide +kernel
theorem dX7_take_8 : decode cX7_take 8 = .ok (.getfield 46, 3) := by decide +kernel
theorem dX7_take_11 : decode cX7_take 11 = .ok (.invokestatic 244, 3) := by decide +kernel
theorem dX7_take_14 : decode cX7_take 14 = .ok (.aload_n 0, 1) := by decide +kernel
theorem dX7_take_15 : decode cX7_take 15 = .ok (.getfield 49, 3) := by decide +kernel
theorem dX7_take_18 : decode cX7_take 18 = .ok (.invokestatic 244, 3) := by decide +kernel
theorem dX7_take_21 : decode cX7_take 21 = .ok (.aload_n 0, 1) := by decide +kernel
theorem dX7_take_22 : decode cX7_take 22 = .ok (.getfield 52, 3) := by decide +kernel
theorem dX7_take_25 : decode cX7_take 25 = .ok (.invokestatic 244, 3) := by decide +kernel
theorem dX7_take_28 : decode cX7_take 28 = .ok (.aload_n 0, 1) := by decide +kernel
theorem dX7_take_29 : decode cX7_take 29 = .ok (.getfield 55, 3) := by decide +kernel
theorem dX7_take_32 : decode cX7_take 32 = .ok (.invokestatic 244, 3) := by decide +kernel
theorem dX7_take_35 : decode cX7_take 35 = .ok (.aload_n 0, 1) := by decide +kernel
theorem dX7_take_36 : decode cX7_take 36 = .ok (.getfield 58, 3) := by decide +kernel
theorem dX7_take_39 : decode cX7_take 39 = .ok (.invokestatic 244, 3) := by decide +kernel
theorem dX7_take_42 : decode cX7_take 42 = .ok (.aload_n 0, 1) := by decide +kernel
theorem dX7_take_43 : decode cX7_take 43 = .ok (.getfield 61, 3) := by decide +kernel
theorem dX7_take_46 : decode cX7_take 46 = .ok (.invokestatic 244, 3) := by decide +kernel
theorem dX7_take_49 : decode cX7_take 49 = .ok (.aload_n 0, 1) := by decide +kernel
theorem dX7_take_50 : decode cX7_take 50 = .ok (.getfield 64, 3) := by decide +kernel
theorem dX7_take_53 : decode cX7_take 53 = .ok (.invokestatic 244, 3) := by decide +kernel
theorem dX7_take_56 : decode cX7_take 56 = .ok (.aload_n 0, 1) := by decide +kernel
theorem dX7_take_57 : decode cX7_take 57 = .ok (.iconst 0, 1) := by decide +kernel
theorem dX7_take_58 : decode cX7_take 58 = .ok (.putfield 248, 3) := by decide +kernel
theorem dX7_take_61 : decode cX7_take 61 = .ok (.aload_n 0, 1) := by decide +kernel
theorem dX7_take_62 : decode cX7_take 62 = .ok (.aload_n 0, 1) := by decide +kernel
theorem dX7_take_63 : decode cX7_take 63 = .ok (.getfield 77, 3) := by decide +kernel
theorem dX7_take_66 : decode cX7_take 66 = .ok (.invokevirtual 251, 3) := by decide +kernel
theorem dX7_take_69 : decode cX7_take 69 = .ok (.iconst 0, 1) := by decide +kernel
theorem dX7_take_70 : decode cX7_take 70 = .ok (.istore_n 1, 1) := by decide +kernel
theorem dX7_take_71 : decode cX7_take 71 = .ok (.iload_n 1, 1) := by decide +kernel
theorem dX7_take_72 : decode cX7_take 72 = .ok (.bipush 18, 2) := by decide +kernel
theorem dX7_take_74 : decode cX7_take 74 = .ok (.if_icmp .ge 21, 3) := by decide +kernel
theorem dX7_take_77 : decode cX7_take 77 = .ok (.aload_n 0, 1) := by decide +kernel
theorem dX7_take_78 : decode cX7_take 78 = .ok (.getfield 95, 3) := by decide +kernel
theorem dX7_take_81 : decode cX7_take 81 = .ok (.iload_n 1, 1) := by decide +kernel
theorem dX7_take_82 : decode cX7_take 82 = .ok (.aload_n 0, 1) := by decide +kernel
theorem dX7_take_83 : decode cX7_take 83 = .ok (.getfield 77, 3) := by decide +kernel
theorem dX7_take_86 : decode cX7_take 86 = .ok (.iload_n 1, 1) := by decide +kernel
theorem dX7_take_87 : decode cX7_take 87 = .ok (.iaload, 1) := by decide +kernel
theorem dX7_take_88 : decode cX7_take 88 = .ok (.iastore, 1) := by decide +kernel
theorem dX7_take_89 : decode cX7_take 89 = .ok (.iinc 1 1, 3) := by decide +kernel
theorem dX7_take_92 : decode cX7_take 92 = .ok (.goto (-21), 3) := by decide +kernel
theorem dX7_take_95 : decode cX7_take 95 = .ok (.aload_n 0, 1) := by decide +kernel
theorem dX7_take_96 : decode cX7_take 96 = .ok (.iconst 0, 1) := by decide +kernel
theorem dX7_take_97 : decode cX7_take 97 = .ok (.putfield 254, 3) := by decide +kernel
theorem dX7_take_100 : decode cX7_take 100 = .ok (.return_, 1) := by decide +kernel
theorem dX7_fault_0 : decode cX7_fault 0 = .ok (.aload_n 0, 1) := by decide +kernel
theorem dX7_fault_1 : decode cX7_fault 1 = .ok (.iconst 0, 1) := by decide +kernel
theorem dX7_fault_2 : decode cX7_fault 2 = .ok (.putfield 131, 3) := by decide +kernel
theorem dX7_fault_5 : decode cX7_fault 5 = .ok (.aload_n 0, 1) := by decide +kernel
theorem dX7_fault_6 : decode cX7_fault 6 = .ok (.getfield 73, 3) := by decide +kernel
theorem dX7_fault_9 : decode cX7_fault 9 = .ok (.ireturn, 1) := by decide +kernel
theorem dX7_anew_0 : decode cX7_anew 0 = .ok (.iconst 0, 1) := by decide +kernel
theorem dX7_anew_1 : decode cX7_anew 1 = .ok (.istore_n 2, 1) := by decide +kernel
theorem dX7_anew_2 : decode cX7_anew 2 = .ok (.iload_n 2, 1) := by decide +kernel
theorem dX7_anew_3 : decode cX7_anew 3 = .ok (.bipush 18, 2) := by decide +kernel
theorem dX7_anew_5 : decode cX7_anew 5 = .ok (.if_icmp .ge 34, 3) := by decide +kernel
theorem dX7_anew_8 : decode cX7_anew 8 = .ok (.aload_n 1, 1) := by decide +kernel
theorem dX7_anew_9 : decode cX7_anew 9 = .ok (.iload_n 2, 1) := by decide +kernel
theorem dX7_anew_10 : decode cX7_anew 10 = .ok (.iload_n 2, 1) := by decide +kernel
theorem dX7_anew_11 : decode cX7_anew 11 = .ok (.iconst 3, 1) := by decide +kernel
theorem dX7_anew_12 : decode cX7_anew 12 = .ok (.aload_n 0, 1) := by decide +kernel
theorem dX7_anew_13 : decode cX7_anew 13 = .ok (.getfield 43, 3) := by decide +kernel
theorem dX7_anew_16 : decode cX7_anew 16 = .ok (.iconst 1, 1) := by decide +kernel
theorem dX7_anew_17 : decode cX7_anew 17 = .ok (.iaload, 1) := by decide +kernel
theorem dX7_anew_18 : decode cX7_anew 18 = .ok (.imul, 1) := by decide +kernel
theorem dX7_anew_19 : decode cX7_anew 19 = .ok (.if_icmp .ge 12, 3) := by decide +kernel
theorem dX7_anew_22 : decode cX7_anew 22 = .ok (.aload_n 0, 1) := by decide +kernel
theorem dX7_anew_23 : decode cX7_anew 23 = .ok (.getfield 52, 3) := by decide +kernel
theorem dX7_anew_26 : decode cX7_anew 26 = .ok (.iload_n 2, 1) := by decide +kernel
theorem dX7_anew_27 : decode cX7_anew 27 = .ok (.iaload, 1) := by decide +kernel
theorem dX7_anew_28 : decode cX7_anew 28 = .ok (.goto 4, 3) := by decide +kernel
theorem dX7_anew_31 : decode cX7_anew 31 = .ok (.iconst 0, 1) := by decide +kernel
theorem dX7_anew_32 : decode cX7_anew 32 = .ok (.iastore, 1) := by decide +kernel
theorem dX7_anew_33 : decode cX7_anew 33 = .ok (.iinc 2 1, 3) := by decide +kernel
theorem dX7_anew_36 : decode cX7_anew 36 = .ok (.goto (-34), 3) := by decide +kernel
theorem dX7_anew_39 : decode cX7_anew 39 = .ok (.bipush 18, 2) := by decide +kernel
theorem dX7_anew_41 : decode cX7_anew 41 = .ok (.istore_n 2, 1) := by decide +kernel
theorem dX7_anew_42 : decode cX7_anew 42 = .ok (.iload_n 2, 1) := by decide +kernel
theorem dX7_anew_43 : decode cX7_anew 43 = .ok (.bipush 30, 2) := by decide +kernel
theorem dX7_anew_45 : decode cX7_anew 45 = .ok (.if_icmp .ge 13, 3) := by decide +kernel
theorem dX7_anew_48 : decode cX7_anew 48 = .ok (.aload_n 1, 1) := by decide +kernel
theorem dX7_anew_49 : decode cX7_anew 49 = .ok (.iload_n 2, 1) := by decide +kernel
theorem dX7_anew_50 : decode cX7_anew 50 = .ok (.iconst (-1), 1) := by decide +kernel
theorem dX7_anew_51 : decode cX7_anew 51 = .ok (.iastore, 1) := by decide +kernel
theorem dX7_anew_52 : decode cX7_anew 52 = .ok (.iinc 2 1, 3) := by decide +kernel
theorem dX7_anew_55 : decode cX7_anew 55 = .ok (.goto (-13), 3) := by decide +kernel
theorem dX7_anew_58 : decode cX7_anew 58 = .ok (.return_, 1) := by decide +kernel
theorem dX7_be_0 : decode cX7_be 0 = .ok (.iconst 0, 1) := by decide +kernel
theorem dX7_be_1 : decode cX7_be 1 = .ok (.istore_n 2, 1) := by decide +kernel
theorem dX7_be_2 : decode cX7_be 2 = .ok (.iload_n 2, 1) := by decide +kernel
theorem dX7_be_3 : decode cX7_be 3 = .ok (.aload_n 0, 1) := by decide +kernel
theorem dX7_be_4 : decode cX7_be 4 = .ok (.arraylength, 1) := by decide +kernel
theorem dX7_be_5 : decode cX7_be 5 = .ok (.if_icmp .ge 15, 3) := by decide +kernel
theorem dX7_be_8 : decode cX7_be 8 = .ok (.aload_n 0, 1) := by decide +kernel
theorem dX7_be_9 : decode cX7_be 9 = .ok (.iload_n 2, 1) := by decide +kernel
theorem dX7_be_10 : decode cX7_be 10 = .ok (.aload_n 1, 1) := by decide +kernel
theorem dX7_be_11 : decode cX7_be 11 = .ok (.iload_n 2, 1) := by decide +kernel
theorem dX7_be_12 : decode cX7_be 12 = .ok (.iaload, 1) := by decide +kernel
theorem dX7_be_13 : decode cX7_be 13 = .ok (.iastore, 1) := by decide +kernel
theorem dX7_be_14 : decode cX7_be 14 = .ok (.iinc 2 1, 3) := by decide +kernel
theorem dX7_be_17 : decode cX7_be 17 = .ok (.goto (-15), 3) := by decide +kernel
theorem dX7_be_20 : decode cX7_be 20 = .ok (.return_, 1) := by decide +kernel
theorem dX7_isOut_0 : decode cX7_isOut 0 = .ok (.aload_n 0, 1) := by decide +kernel
theorem dX7_isOut_1 : decode cX7_isOut 1 = .ok (.bipush 18, 2) := by decide +kernel
theorem dX7_isOut_3 : decode cX7_isOut 3 = .ok (.iload_n 1, 1) := by decide +kernel
theorem dX7_isOut_4 : decode cX7_isOut 4 = .ok (.iadd, 1) := by decide +kernel
theorem dX7_isOut_5 : decode cX7_isOut 5 = .ok (.iaload, 1) := by decide +kernel
theorem dX7_isOut_6 : decode cX7_isOut 6 = .ok (.iconst (-1), 1) := by decide +kernel
theorem dX7_isOut_7 : decode cX7_isOut 7 = .ok (.if_icmp .eq 7, 3) := by decide +kernel
theorem dX7_isOut_10 : decode cX7_isOut 10 = .ok (.iconst 1, 1) := by decide +kernel
theorem dX7_isOut_11 : decode cX7_isOut 11 = .ok (.goto 4, 3) := by decide +kernel
theorem dX7_isOut_14 : decode cX7_isOut 14 = .ok (.iconst 0, 1) := by decide +kernel
theorem dX7_isOut_15 : decode cX7_isOut 15 = .ok (.ireturn, 1) := by decide +kernel
theorem dX7_farOf_0 : decode cX7_farOf 0 = .ok (.iconst 0, 1) := by decide +kernel
theorem dX7_farOf_1 : decode cX7_farOf 1 = .ok (.istore_n 3, 1) := by decide +kernel
theorem dX7_farOf_2 : decode cX7_farOf 2 = .ok (.iconst 0, 1) := by decide +kernel
theorem dX7_farOf_3 : decode cX7_farOf 3 = .ok (.istore 4, 2) := by decide +kernel
theorem dX7_farOf_5 : decode cX7_farOf 5 = .ok (.iload 4, 2) := by decide +kernel
theorem dX7_farOf_7 : decode cX7_farOf 7 = .ok (.iconst 3, 1) := by decide +kernel
theorem dX7_farOf_8 : decode cX7_farOf 8 = .ok (.if_icmp .ge 32, 3) := by decide +kernel
theorem dX7_farOf_11 : decode cX7_farOf 11 = .ok (.iload_n 3, 1) := by decide +kernel
theorem dX7_farOf_12 : decode cX7_farOf 12 = .ok (.aload_n 0, 1) := by decide +kernel
theorem dX7_farOf_13 : decode cX7_farOf 13 = .ok (.iconst 3, 1) := by decide +kernel
theorem dX7_farOf_14 : decode cX7_farOf 14 = .ok (.iload_n 1, 1) := by decide +kernel
theorem dX7_farOf_15 : decode cX7_farOf 15 = .ok (.imul, 1) := by decide +kernel
theorem dX7_farOf_16 : decode cX7_farOf 16 = .ok (.iload 4, 2) := by decide +kernel
theorem dX7_farOf_18 : decode cX7_farOf 18 = .ok (.iadd, 1) := by decide +kernel
theorem dX7_farOf_19 : decode cX7_farOf 19 = .ok (.iaload, 1) := by decide +kernel
theorem dX7_farOf_20 : decode cX7_farOf 20 = .ok (.aload_n 0, 1) := by decide +kernel
theorem dX7_farOf_21 : decode cX7_farOf 21 = .ok (.iconst 3, 1) := by decide +kernel
theorem dX7_farOf_22 : decode cX7_farOf 22 = .ok (.iload_n 2, 1) := by decide +kernel
theorem dX7_farOf_23 : decode cX7_farOf 23 = .ok (.imul, 1) := by decide +kernel
theorem dX7_farOf_24 : decode cX7_farOf 24 = .ok (.iload 4, 2) := by decide +kernel
theorem dX7_farOf_26 : decode cX7_farOf 26 = .ok (.iadd, 1) := by decide +kernel
theorem dX7_farOf_27 : decode cX7_farOf 27 = .ok (.iaload, 1) := by decide +kernel
theorem dX7_farOf_28 : decode cX7_farOf 28 = .ok (.isub, 1) := by decide +kernel
theorem dX7_farOf_29 : decode cX7_farOf 29 = .ok (.invokestatic 258, 3) := by decide +kernel
theorem dX7_farOf_32 : decode cX7_farOf 32 = .ok (.iadd, 1) := by decide +kernel
theorem dX7_farOf_33 : decode cX7_farOf 33 = .ok (.istore_n 3, 1) := by decide +kernel
theorem dX7_farOf_34 : decode cX7_farOf 34 = .ok (.iinc 4 1, 3) := by decide +kernel
theorem dX7_farOf_37 : decode cX7_farOf 37 = .ok (.goto (-32), 3) := by decide +kernel
theorem dX7_farOf_40 : decode cX7_farOf 40 = .ok (.iload_n 3, 1) := by decide +kernel
theorem dX7_farOf_41 : decode cX7_farOf 41 = .ok (.iconst 2, 1) := by decide +kernel
theorem dX7_farOf_42 : decode cX7_farOf 42 = .ok (.idiv, 1) := by decide +kernel
theorem dX7_farOf_43 : decode cX7_farOf 43 = .ok (.ireturn, 1) := by decide +kernel
theorem dX7_hides_0 : decode cX7_hides 0 = .ok (.iconst 0, 1) := by decide +kernel
theorem dX7_hides_1 : decode cX7_hides 1 = .ok (.istore 4, 2) := by decide +kernel
theorem dX7_hides_3 : decode cX7_hides 3 = .ok (.iload 4, 2) := by decide +kernel
theorem dX7_hides_5 : decode cX7_hides 5 = .ok (.aload_n 0, 1) := by decide +kernel
theorem dX7_hides_6 : decode cX7_hides 6 = .ok (.getfield 43, 3) := by decide +kernel
theorem dX7_hides_9 : decode cX7_hides 9 = .ok (.bipush 6, 2) := by decide +kernel
theorem dX7_hides_11 : decode cX7_hides 11 = .ok (.iaload, 1) := by decide +kernel
theorem dX7_hides_12 : decode cX7_hides 12 = .ok (.if_icmp .ge 44, 3) := by decide +kernel
theorem dX7_hides_15 : decode cX7_hides 15 = .ok (.aload_n 0, 1) := by decide +kernel
theorem dX7_hides_16 : decode cX7_hides 16 = .ok (.getfield 58, 3) := by decide +kernel
theorem dX7_hides_19 : decode cX7_hides 19 = .ok (.iload 4, 2) := by decide +kernel
theorem dX7_hides_21 : decode cX7_hides 21 = .ok (.iaload, 1) := by decide +kernel
theorem dX7_hides_22 : decode cX7_hides 22 = .ok (.iload_n 1, 1) := by decide +kernel
theorem dX7_hides_23 : decode cX7_hides 23 = .ok (.if_icmp .ne 27, 3) := by decide +kernel
theorem dX7_hides_26 : decode cX7_hides 26 = .ok (.aload_n 0, 1) := by decide +kernel
theorem dX7_hides_27 : decode cX7_hides 27 = .ok (.getfield 61, 3) := by decide +kernel
theorem dX7_hides_30 : decode cX7_hides 30 = .ok (.iload 4, 2) := by decide +kernel
theorem dX7_hides_32 : decode cX7_hides 32 = .ok (.iaload, 1) := by decide +kernel
theorem dX7_hides_33 : decode cX7_hides 33 = .ok (.iload_n 2, 1) := by decide +kernel
theorem dX7_hides_34 : decode cX7_hides 34 = .ok (.if_icmp .ne 16, 3) := by decide +kernel
theorem dX7_hides_37 : decode cX7_hides 37 = .ok (.aload_n 0, 1) := by decide +kernel
theorem dX7_hides_38 : decode cX7_hides 38 = .ok (.getfield 64, 3) := by decide +kernel
theorem dX7_hides_41 : decode cX7_hides 41 = .ok (.iload 4, 2) := by decide +kernel
theorem dX7_hides_43 : decode cX7_hides 43 = .ok (.iaload, 1) := by decide +kernel
theorem dX7_hides_44 : decode cX7_hides 44 = .ok (.iload_n 3, 1) := by decide +kernel
theorem dX7_hides_45 : decode cX7_hides 45 = .ok (.if_icmp .ne 5, 3) := by decide +kernel
theorem dX7_hides_48 : decode cX7_hides 48 = .ok (.iconst 1, 1) := by decide +kernel
theorem dX7_hides_49 : decode cX7_hides 49 = .ok (.ireturn, 1) := by decide +kernel
theorem dX7_hides_50 : decode cX7_hides 50 = .ok (.iinc 4 1, 3) := by decide +kernel
theorem dX7_hides_53 : decode cX7_hides 53 = .ok (.goto (-50), 3) := by decide +kernel
theorem dX7_hides_56 : decode cX7_hides 56 = .ok (.iconst 0, 1) := by decide +kernel
theorem dX7_hides_57 : decode cX7_hides 57 = .ok (.ireturn, 1) := by decide +kernel
theorem dX7_stays_0 : decode cX7_stays 0 = .ok (.aload_n 0, 1) := by decide +kernel
theorem dX7_stays_1 : decode cX7_stays 1 = .ok (.getfield 46, 3) := by decide +kernel
theorem dX7_stays_4 : decode cX7_stays 4 = .ok (.iload_n 3, 1) := by decide +kernel
theorem dX7_stays_5 : decode cX7_stays 5 = .ok (.iaload, 1) := by decide +kernel
theorem dX7_stays_6 : decode cX7_stays 6 = .ok (.iconst 4, 1) := by decide +kernel
theorem dX7_stays_7 : decode cX7_stays 7 = .ok (.if_icmp .eq 19, 3) := by decide +kernel
theorem dX7_stays_10 : decode cX7_stays 10 = .ok (.aload_n 0, 1) := by decide +kernel
theorem dX7_stays_11 : decode cX7_stays 11 = .ok (.getfield 46, 3) := by decide +kernel
theorem dX7_stays_14 : decode cX7_stays 14 = .ok (.iload_n 3, 1) := by decide +kernel
theorem dX7_stays_15 : decode cX7_stays 15 = .ok (.iaload, 1) := by decide +kernel
theorem dX7_stays_16 : decode cX7_stays 16 = .ok (.iconst 1, 1) := by decide +kernel
theorem dX7_stays_17 : decode cX7_stays 17 = .ok (.if_icmp .ne 11, 3) := by decide +kernel
theorem dX7_stays_20 : decode cX7_stays 20 = .ok (.iload_n 2, 1) := by decide +kernel
theorem dX7_stays_21 : decode cX7_stays 21 = .ok (.iconst 2, 1) := by decide +kernel
theorem dX7_stays_22 : decode cX7_stays 22 = .ok (.irem, 1) := by decide +kernel
theorem dX7_stays_23 : decode cX7_stays 23 = .ok (.ifCond .ne 5, 3) := by decide +kernel
theorem dX7_stays_26 : decode cX7_stays 26 = .ok (.iconst 1, 1) := by decide +kernel
theorem dX7_stays_27 : decode cX7_stays 27 = .ok (.ireturn, 1) := by decide +kernel
theorem dX7_stays_28 : decode cX7_stays 28 = .ok (.iconst 0, 1) := by decide +kernel
theorem dX7_stays_29 : decode cX7_stays 29 = .ok (.istore 4, 2) := by decide +kernel
theorem dX7_stays_31 : decode cX7_stays 31 = .ok (.iload 4, 2) := by decide +kernel
theorem dX7_stays_33 : decode cX7_stays 33 = .ok (.aload_n 0, 1) := by decide +kernel
theorem dX7_stays_34 : decode cX7_stays 34 = .ok (.getfield 43, 3) := by decide +kernel
theorem dX7_stays_37 : decode cX7_stays 37 = .ok (.iconst 1, 1) := by decide +kernel
theorem dX7_stays_38 : decode cX7_stays 38 = .ok (.iaload, 1) := by decide +kernel
theorem dX7_stays_39 : decode cX7_stays 39 = .ok (.if_icmp .ge 53, 3) := by decide +kernel
theorem dX7_stays_42 : decode cX7_stays 42 = .ok (.iload 4, 2) := by decide +kernel
theorem dX7_stays_44 : decode cX7_stays 44 = .ok (.iload_n 3, 1) := by decide +kernel
theorem dX7_stays_45 : decode cX7_stays 45 = .ok (.if_icmp .eq 41, 3) := by decide +kernel
theorem dX7_stays_48 : decode cX7_stays 48 = .ok (.aload_n 0, 1) := by decide +kernel
theorem dX7_stays_49 : decode cX7_stays 49 = .ok (.getfield 46, 3) := by decide +kernel
theorem dX7_stays_52 : decode cX7_stays 52 = .ok (.iload 4, 2) := by decide +kernel
theorem dX7_stays_54 : decode cX7_stays 54 = .ok (.iaload, 1) := by decide +kernel
theorem dX7_stays_55 : decode cX7_stays 55 = .ok (.iconst 4, 1) := by decide +kernel
theorem dX7_stays_56 : decode cX7_stays 56 = .ok (.if_icmp .ne 30, 3) := by decide +kernel
theorem dX7_stays_59 : decode cX7_stays 59 = .ok (.aload_n 1, 1) := by decide +kernel
theorem dX7_stays_60 : decode cX7_stays 60 = .ok (.iload 4, 2) := by decide +kernel
theorem dX7_stays_62 : decode cX7_stays 62 = .ok (.invokestatic 261, 3) := by decide +kernel
theorem dX7_stays_65 : decode cX7_stays 65 = .ok (.ifCond .ne 21, 3) := by decide +kernel
theorem dX7_stays_68 : decode cX7_stays 68 = .ok (.aload_n 1, 1) := by decide +kernel
theorem dX7_stays_69 : decode cX7_stays 69 = .ok (.iload_n 3, 1) := by decide +kernel
theorem dX7_stays_70 : decode cX7_stays 70 = .ok (.iload 4, 2) := by decide +kernel
theorem dX7_stays_72 : decode cX7_stays 72 = .ok (.invokestatic 265, 3) := by decide +kernel
theorem dX7_stays_75 : decode cX7_stays 75 = .ok (.aload_n 0, 1) := by decide +kernel
theorem dX7_stays_76 : decode cX7_stays 76 = .ok (.getfield 43, 3) := by decide +kernel
theorem dX7_stays_79 : decode cX7_stays 79 = .ok (.iconst 4, 1) := by decide +kernel
theorem dX7_stays_80 : decode cX7_stays 80 = .ok (.iaload, 1) := by decide +kernel
theorem dX7_stays_81 : decode cX7_stays 81 = .ok (.if_icmp .gt 5, 3) := by decide +kernel
theorem dX7_stays_84 : decode cX7_stays 84 = .ok (.iconst 1, 1) := by decide +kernel
theorem dX7_stays_85 : decode cX7_stays 85 = .ok (.ireturn, 1) := by decide +kernel
theorem dX7_stays_86 : decode cX7_stays 86 = .ok (.iinc 4 1, 3) := by decide +kernel
theorem dX7_stays_89 : decode cX7_stays 89 = .ok (.goto (-58), 3) := by decide +kernel
theorem dX7_stays_92 : decode cX7_stays 92 = .ok (.iconst 0, 1) := by decide +kernel
theorem dX7_stays_93 : decode cX7_stays 93 = .ok (.ireturn, 1) := by decide +kernel
theorem dX7_towards_0 : decode cX7_towards 0 = .ok (.iload 4, 2) := by decide +kernel
theorem dX7_towards_2 : decode cX7_towards 2 = .ok (.iconst (-1), 1) := by decide +kernel
theorem dX7_towards_3 : decode cX7_towards 3 = .ok (.if_icmp .eq 12, 3) := by decide +kernel
theorem dX7_towards_6 : decode cX7_towards 6 = .ok (.aload_n 1, 1) := by decide +kernel
theorem dX7_towards_7 : decode cX7_towards 7 = .ok (.iload 4, 2) := by decide +kernel
theorem dX7_towards_9 : decode cX7_towards 9 = .ok (.invokestatic 261, 3) := by decide +kernel
theorem dX7_towards_12 : decode cX7_towards 12 = .ok (.ifCond .eq 5, 3) := by decide +kernel
theorem dX7_towards_15 : decode cX7_towards 15 = .ok (.iconst (-1), 1) := by decide +kernel
theorem dX7_towards_16 : decode cX7_towards 16 = .ok (.ireturn, 1) := by decide +kernel
theorem dX7_towards_17 : decode cX7_towards 17 = .ok (.aload_n 0, 1) := by decide +kernel
theorem dX7_towards_18 : decode cX7_towards 18 = .ok (.iload_n 2, 1) := by decide +kernel
theorem dX7_towards_19 : decode cX7_towards 19 = .ok (.iload_n 3, 1) := by decide +kernel
theorem dX7_towards_20 : decode cX7_towards 20 = .ok (.iload 4, 2) := by decide +kernel
theorem dX7_towards_22 : decode cX7_towards 22 = .ok (.invokevirtual 269, 3) := by decide +kernel
theorem dX7_towards_25 : decode cX7_towards 25 = .ok (.ifCond .ne 6, 3) := by decide +kernel
theorem dX7_towards_28 : decode cX7_towards 28 = .ok (.iload 4, 2) := by decide +kernel
theorem dX7_towards_30 : decode cX7_towards 30 = .ok (.ireturn, 1) := by decide +kernel
theorem dX7_towards_31 : decode cX7_towards 31 = .ok (.iconst (-1), 1) := by decide +kernel
theorem dX7_towards_32 : decode cX7_towards 32 = .ok (.istore 5, 2) := by decide +kernel
theorem dX7_towards_34 : decode cX7_towards 34 = .ok (.iconst 0, 1) := by decide +kernel
theorem dX7_towards_35 : decode cX7_towards 35 = .ok (.istore 6, 2) := by decide +kernel
theorem dX7_towards_37 : decode cX7_towards 37 = .ok (.iload 6, 2) := by decide +kernel
theorem dX7_towards_39 : decode cX7_towards 39 = .ok (.aload_n 0, 1) := by decide +kernel
theorem dX7_towards_40 : decode cX7_towards 40 = .ok (.getfield 43, 3) := by decide +kernel
theorem dX7_towards_43 : decode cX7_towards 43 = .ok (.iconst 1, 1) := by decide +kernel
theorem dX7_towards_44 : decode cX7_towards 44 = .ok (.iaload, 1) := by decide +kernel
theorem dX7_towards_45 : decode cX7_towards 45 = .ok (.if_icmp .ge 62, 3) := by decide +kernel
theorem dX7_towards_48 : decode cX7_towards 48 = .ok (.iload 6, 2) := by decide +kernel
theorem dX7_towards_50 : decode cX7_towards 50 = .ok (.iload_n 3, 1) := by decide +kernel
theorem dX7_towards_51 : decode cX7_towards 51 = .ok (.if_icmp .eq 50, 3) := by decide +kernel
theorem dX7_towards_54 : decode cX7_towards 54 = .ok (.aload_n 1, 1) := by decide +kernel
theorem dX7_towards_55 : decode cX7_towards 55 = .ok (.iload 6, 2) := by decide +kernel
theorem dX7_towards_57 : decode cX7_towards 57 = .ok (.invokestatic 261, 3) := by decide +kernel
theorem dX7_towards_60 : decode cX7_towards 60 = .ok (.ifCond .ne 41, 3) := by decide +kernel
theorem dX7_towards_63 : decode cX7_towards 63 = .ok (.aload_n 0, 1) := by decide +kernel
theorem dX7_towards_64 : decode cX7_towards 64 = .ok (.iload_n 2, 1) := by decide +kernel
theorem dX7_towards_65 : decode cX7_towards 65 = .ok (.iload_n 3, 1) := by decide +kernel
theorem dX7_towards_66 : decode cX7_towards 66 = .ok (.iload 6, 2) := by decide +kernel
theorem dX7_towards_68 : decode cX7_towards 68 = .ok (.invokevirtual 269, 3) := by decide +kernel
theorem dX7_towards_71 : decode cX7_towards 71 = .ok (.ifCond .ne 30, 3) := by decide +kernel
theorem dX7_towards_74 : decode cX7_towards 74 = .ok (.iload 5, 2) := by decide +kernel
theorem dX7_towards_76 : decode cX7_towards 76 = .ok (.iconst (-1), 1) := by decide +kernel
theorem dX7_towards_77 : decode cX7_towards 77 = .ok (.if_icmp .eq 20, 3) := by decide +kernel
theorem dX7_towards_80 : decode cX7_towards 80 = .ok (.aload_n 1, 1) := by decide +kernel
theorem dX7_towards_81 : decode cX7_towards 81 = .ok (.iload_n 3, 1) := by decide +kernel
theorem dX7_towards_82 : decode cX7_towards 82 = .ok (.iload 6, 2) := by decide +kernel
theorem dX7_towards_84 : decode cX7_towards 84 = .ok (.invokestatic 265, 3) := by decide +kernel
theorem dX7_towards_87 : decode cX7_towards 87 = .ok (.aload_n 1, 1) := by decide +kernel
theorem dX7_towards_88 : decode cX7_towards 88 = .ok (.iload_n 3, 1) := by decide +kernel
theorem dX7_towards_89 : decode cX7_towards 89 = .ok (.iload 5, 2) := by decide +kernel
theorem dX7_towards_91 : decode cX7_towards 91 = .ok (.invokestatic 265, 3) := by decide +kernel
theorem dX7_towards_94 : decode cX7_towards 94 = .ok (.if_icmp .ge 7, 3) := by decide +kernel
theorem dX7_towards_97 : decode cX7_towards 97 = .ok (.iload 6, 2) := by decide +kernel
theorem dX7_towards_99 : decode cX7_towards 99 = .ok (.istore 5, 2) := by decide +kernel
theorem dX7_towards_101 : decode cX7_towards 101 = .ok (.iinc 6 1, 3) := by decide +kernel
theorem dX7_towards_104 : decode cX7_towards 104 = .ok (.goto (-67), 3) := by decide +kernel
theorem dX7_towards_107 : decode cX7_towards 107 = .ok (.iload 5, 2) := by decide +kernel
theorem dX7_towards_109 : decode cX7_towards 109 = .ok (.ireturn, 1) := by decide +kernel
theorem dX7_mostOf_0 : decode cX7_mostOf 0 = .ok (.iload_n 0, 1) := by decide +kernel
theorem dX7_mostOf_1 : decode cX7_mostOf 1 = .ok (.iload_n 1, 1) := by decide +kernel
theorem dX7_mostOf_2 : decode cX7_mostOf 2 = .ok (.if_icmp .lt 12, 3) := by decide +kernel
theorem dX7_mostOf_5 : decode cX7_mostOf 5 = .ok (.iload_n 0, 1) := by decide +kernel
theorem dX7_mostOf_6 : decode cX7_mostOf 6 = .ok (.iload_n 2, 1) := by decide +kernel
theorem dX7_mostOf_7 : decode cX7_mostOf 7 = .ok (.if_icmp .lt 7, 3) := by decide +kernel
theorem dX7_mostOf_10 : decode cX7_mostOf 10 = .ok (.iconst 0, 1) := by decide +kernel
theorem dX7_mostOf_11 : decode cX7_mostOf 11 = .ok (.goto 13, 3) := by decide +kernel
theorem dX7_mostOf_14 : decode cX7_mostOf 14 = .ok (.iload_n 1, 1) := by decide +kernel
theorem dX7_mostOf_15 : decode cX7_mostOf 15 = .ok (.iload_n 2, 1) := by decide +kernel
theorem dX7_mostOf_16 : decode cX7_mostOf 16 = .ok (.if_icmp .lt 7, 3) := by decide +kernel
theorem dX7_mostOf_19 : decode cX7_mostOf 19 = .ok (.iconst 1, 1) := by decide +kernel
theorem dX7_mostOf_20 : decode cX7_mostOf 20 = .ok (.goto 4, 3) := by decide +kernel
theorem dX7_mostOf_23 : decode cX7_mostOf 23 = .ok (.iconst 2, 1) := by decide +kernel
theorem dX7_mostOf_24 : decode cX7_mostOf 24 = .ok (.ireturn, 1) := by decide +kernel
theorem dX7_moveOne_0 : decode cX7_moveOne 0 = .ok (.iconst 0, 1) := by decide +kernel
theorem dX7_moveOne_1 : decode cX7_moveOne 1 = .ok (.istore 6, 2) := by decide +kernel
theorem dX7_moveOne_3 : decode cX7_moveOne 3 = .ok (.iload 6, 2) := by decide +kernel
theorem dX7_moveOne_5 : decode cX7_moveOne 5 = .ok (.iconst 3, 1) := by decide +kernel
theorem dX7_moveOne_6 : decode cX7_moveOne 6 = .ok (.if_icmp .ge 24, 3) := by decide +kernel
theorem dX7_moveOne_9 : decode cX7_moveOne 9 = .ok (.aload_n 0, 1) := by decide +kernel
theorem dX7_moveOne_10 : decode cX7_moveOne 10 = .ok (.getfield 89, 3) := by decide +kernel
theorem dX7_moveOne_13 : decode cX7_moveOne 13 = .ok (.iload 6, 2) := by decide +kernel
theorem dX7_moveOne_15 : decode cX7_moveOne 15 = .ok (.aload_n 1, 1) := by decide +kernel
theorem dX7_moveOne_16 : decode cX7_moveOne 16 = .ok (.iconst 3, 1) := by decide +kernel
theorem dX7_moveOne_17 : decode cX7_moveOne 17 = .ok (.iload_n 3, 1) := by decide +kernel
theorem dX7_moveOne_18 : decode cX7_moveOne 18 = .ok (.imul, 1) := by decide +kernel
theorem dX7_moveOne_19 : decode cX7_moveOne 19 = .ok (.iload 6, 2) := by decide +kernel
theorem dX7_moveOne_21 : decode cX7_moveOne 21 = .ok (.iadd, 1) := by decide +kernel
theorem dX7_moveOne_22 : decode cX7_moveOne 22 = .ok (.iaload, 1) := by decide +kernel
theorem dX7_moveOne_23 : decode cX7_moveOne 23 = .ok (.iastore, 1) := by decide +kernel
theorem dX7_moveOne_24 : decode cX7_moveOne 24 = .ok (.iinc 6 1, 3) := by decide +kernel
theorem dX7_moveOne_27 : decode cX7_moveOne 27 = .ok (.goto (-24), 3) := by decide +kernel
theorem dX7_moveOne_30 : decode cX7_moveOne 30 = .ok (.aload_n 0, 1) := by decide +kernel
theorem dX7_moveOne_31 : decode cX7_moveOne 31 = .ok (.aload_n 1, 1) := by decide +kernel
theorem dX7_moveOne_32 : decode cX7_moveOne 32 = .ok (.iload_n 2, 1) := by decide +kernel
theorem dX7_moveOne_33 : decode cX7_moveOne 33 = .ok (.iload_n 3, 1) := by decide +kernel
theorem dX7_moveOne_34 : decode cX7_moveOne 34 = .ok (.invokevirtual 272, 3) := by decide +kernel
theorem dX7_moveOne_37 : decode cX7_moveOne 37 = .ok (.ifCond .eq 4, 3) := by decide +kernel
theorem dX7_moveOne_40 : decode cX7_moveOne 40 = .ok (.return_, 1) := by decide +kernel
theorem dX7_moveOne_41 : decode cX7_moveOne 41 = .ok (.aload_n 0, 1) := by decide +kernel
theorem dX7_moveOne_42 : decode cX7_moveOne 42 = .ok (.aload_n 1, 1) := by decide +kernel
theorem dX7_moveOne_43 : decode cX7_moveOne 43 = .ok (.iload_n 2, 1) := by decide +kernel
theorem dX7_moveOne_44 : decode cX7_moveOne 44 = .ok (.iload_n 3, 1) := by decide +kernel
theorem dX7_moveOne_45 : decode cX7_moveOne 45 = .ok (.iload 4, 2) := by decide +kernel
theorem dX7_moveOne_47 : decode cX7_moveOne 47 = .ok (.invokevirtual 276, 3) := by decide +kernel
theorem dX7_moveOne_50 : decode cX7_moveOne 50 = .ok (.istore 6, 2) := by decide +kernel
theorem dX7_moveOne_52 : decode cX7_moveOne 52 = .ok (.iload 5, 2) := by decide +kernel
theorem dX7_moveOne_54 : decode cX7_moveOne 54 = .ok (.iconst 1, 1) := by decide +kernel
theorem dX7_moveOne_55 : decode cX7_moveOne 55 = .ok (.iand, 1) := by decide +kernel
theorem dX7_moveOne_56 : decode cX7_moveOne 56 = .ok (.iconst 1, 1) := by decide +kernel
theorem dX7_moveOne_57 : decode cX7_moveOne 57 = .ok (.if_icmp .ne 16, 3) := by decide +kernel
theorem dX7_moveOne_60 : decode cX7_moveOne 60 = .ok (.aload_n 0, 1) := by decide +kernel
theorem dX7_moveOne_61 : decode cX7_moveOne 61 = .ok (.getfield 43, 3) := by decide +kernel
theorem dX7_moveOne_64 : decode cX7_moveOne 64 = .ok (.iconst 2, 1) := by decide +kernel
theorem dX7_moveOne_65 : decode cX7_moveOne 65 = .ok (.iaload, 1) := by decide +kernel
theorem dX7_moveOne_66 : decode cX7_moveOne 66 = .ok (.iconst 1, 1) := by decide +kernel
theorem dX7_moveOne_67 : decode cX7_moveOne 67 = .ok (.iadd, 1) := by decide +kernel
theorem dX7_moveOne_68 : decode cX7_moveOne 68 = .ok (.iconst 2, 1) := by decide +kernel
theorem dX7_moveOne_69 : decode cX7_moveOne 69 = .ok (.idiv, 1) := by decide +kernel
theorem dX7_moveOne_70 : decode cX7_moveOne 70 = .ok (.goto 9, 3) := by decide +kernel
theorem dX7_moveOne_73 : decode cX7_moveOne 73 = .ok (.aload_n 0, 1) := by decide +kernel
theorem dX7_moveOne_74 : decode cX7_moveOne 74 = .ok (.getfield 43, 3) := by decide +kernel
theorem dX7_moveOne_77 : decode cX7_moveOne 77 = .ok (.iconst 2, 1) := by decide +kernel
theorem dX7_moveOne_78 : decode cX7_moveOne 78 = .ok (.iaload, 1) := by decide +kernel
theorem dX7_moveOne_79 : decode cX7_moveOne 79 = .ok (.istore 7, 2) := by decide +kernel
theorem dX7_moveOne_81 : decode cX7_moveOne 81 = .ok (.aload_n 0, 1) := by decide +kernel
theorem dX7_moveOne_82 : decode cX7_moveOne 82 = .ok (.getfield 46, 3) := by decide +kernel
theorem dX7_moveOne_85 : decode cX7_moveOne 85 = .ok (.iload_n 3, 1) := by decide +kernel
theorem dX7_moveOne_86 : decode cX7_moveOne 86 = .ok (.iaload, 1) := by decide +kernel
theorem dX7_moveOne_87 : decode cX7_moveOne 87 = .ok (.iconst 2, 1) := by decide +kernel
theorem dX7_moveOne_88 : decode cX7_moveOne 88 = .ok (.if_icmp .ne 10, 3) := by decide +kernel
theorem dX7_moveOne_91 : decode cX7_moveOne 91 = .ok (.iconst 2, 1) := by decide +kernel
theorem dX7_moveOne_92 : decode cX7_moveOne 92 = .ok (.iload 7, 2) := by decide +kernel
theorem dX7_moveOne_94 : decode cX7_moveOne 94 = .ok (.imul, 1) := by decide +kernel
theorem dX7_moveOne_95 : decode cX7_moveOne 95 = .ok (.goto 5, 3) := by decide +kernel
theorem dX7_moveOne_98 : decode cX7_moveOne 98 = .ok (.iload 7, 2) := by decide +kernel
theorem dX7_moveOne_100 : decode cX7_moveOne 100 = .ok (.istore 8, 2) := by decide +kernel
theorem dX7_moveOne_102 : decode cX7_moveOne 102 = .ok (.iload 8, 2) := by decide +kernel
theorem dX7_moveOne_104 : decode cX7_moveOne 104 = .ok (.ifCond .le 32, 3) := by decide +kernel
theorem dX7_moveOne_107 : decode cX7_moveOne 107 = .ok (.iload 6, 2) := by decide +kernel
theorem dX7_moveOne_109 : decode cX7_moveOne 109 = .ok (.iconst (-1), 1) := by decide +kernel
theorem dX7_moveOne_110 : decode cX7_moveOne 110 = .ok (.if_icmp .eq 26, 3) := by decide +kernel
theorem dX7_moveOne_113 : decode cX7_moveOne 113 = .ok (.aload_n 0, 1) := by decide +kernel
theorem dX7_moveOne_114 : decode cX7_moveOne 114 = .ok (.aload_n 1, 1) := by decide +kernel
theorem dX7_moveOne_115 : decode cX7_moveOne 115 = .ok (.iconst 3, 1) := by decide +kernel
theorem dX7_moveOne_116 : decode cX7_moveOne 116 = .ok (.iload 6, 2) := by decide +kernel
theorem dX7_moveOne_118 : decode cX7_moveOne 118 = .ok (.imul, 1) := by decide +kernel
theorem dX7_moveOne_119 : decode cX7_moveOne 119 = .ok (.iload 5, 2) := by decide +kernel
theorem dX7_moveOne_121 : decode cX7_moveOne 121 = .ok (.invokevirtual 280, 3) := by decide +kernel
theorem dX7_moveOne_124 : decode cX7_moveOne 124 = .ok (.ifCond .ne 6, 3) := by decide +kernel
theorem dX7_moveOne_127 : decode cX7_moveOne 127 = .ok (.iconst (-1), 1) := by decide +kernel
theorem dX7_moveOne_128 : decode cX7_moveOne 128 = .ok (.istore 6, 2) := by decide +kernel
theorem dX7_moveOne_130 : decode cX7_moveOne 130 = .ok (.iinc 8 (-1), 3) := by decide +kernel
theorem dX7_moveOne_133 : decode cX7_moveOne 133 = .ok (.goto (-31), 3) := by decide +kernel
theorem dX7_moveOne_136 : decode cX7_moveOne 136 = .ok (.aload_n 0, 1) := by decide +kernel
theorem dX7_moveOne_137 : decode cX7_moveOne 137 = .ok (.getfield 46, 3) := by decide +kernel
theorem dX7_moveOne_140 : decode cX7_moveOne 140 = .ok (.iload_n 3, 1) := by decide +kernel
theorem dX7_moveOne_141 : decode cX7_moveOne 141 = .ok (.iaload, 1) := by decide +kernel
theorem dX7_moveOne_142 : decode cX7_moveOne 142 = .ok (.iconst 3, 1) := by decide +kernel
theorem dX7_moveOne_143 : decode cX7_moveOne 143 = .ok (.if_icmp .eq 4, 3) := by decide +kernel
theorem dX7_moveOne_146 : decode cX7_moveOne 146 = .ok (.return_, 1) := by decide +kernel
theorem dX7_moveOne_147 : decode cX7_moveOne 147 = .ok (.aload_n 0, 1) := by decide +kernel
theorem dX7_moveOne_148 : decode cX7_moveOne 148 = .ok (.getfield 89, 3) := by decide +kernel
theorem dX7_moveOne_151 : decode cX7_moveOne 151 = .ok (.iconst 0, 1) := by decide +kernel
theorem dX7_moveOne_152 : decode cX7_moveOne 152 = .ok (.iaload, 1) := by decide +kernel
theorem dX7_moveOne_153 : decode cX7_moveOne 153 = .ok (.aload_n 0, 1) := by decide +kernel
theorem dX7_moveOne_154 : decode cX7_moveOne 154 = .ok (.getfield 89, 3) := by decide +kernel
theorem dX7_moveOne_157 : decode cX7_moveOne 157 = .ok (.iconst 1, 1) := by decide +kernel
theorem dX7_moveOne_158 : decode cX7_moveOne 158 = .ok (.iaload, 1) := by decide +kernel
theorem dX7_moveOne_159 : decode cX7_moveOne 159 = .ok (.aload_n 0, 1) := by decide +kernel
theorem dX7_moveOne_160 : decode cX7_moveOne 160 = .ok (.getfield 89, 3) := by decide +kernel
theorem dX7_moveOne_163 : decode cX7_moveOne 163 = .ok (.iconst 2, 1) := by decide +kernel
theorem dX7_moveOne_164 : decode cX7_moveOne 164 = .ok (.iaload, 1) := by decide +kernel
theorem dX7_moveOne_165 : decode cX7_moveOne 165 = .ok (.invokestatic 283, 3) := by decide +kernel
theorem dX7_moveOne_168 : decode cX7_moveOne 168 = .ok (.istore 8, 2) := by decide +kernel
theorem dX7_moveOne_170 : decode cX7_moveOne 170 = .ok (.iload 5, 2) := by decide +kernel
theorem dX7_moveOne_172 : decode cX7_moveOne 172 = .ok (.iconst 2, 1) := by decide +kernel
theorem dX7_moveOne_173 : decode cX7_moveOne 173 = .ok (.iand, 1) := by decide +kernel
theorem dX7_moveOne_174 : decode cX7_moveOne 174 = .ok (.ifCond .eq 9, 3) := by decide +kernel
theorem dX7_moveOne_177 : decode cX7_moveOne 177 = .ok (.iload 8, 2) := by decide +kernel
theorem dX7_moveOne_179 : decode cX7_moveOne 179 = .ok (.ifCond .ne 4, 3) := by decide +kernel
theorem dX7_moveOne_182 : decode cX7_moveOne 182 = .ok (.return_, 1) := by decide +kernel
theorem dX7_moveOne_183 : decode cX7_moveOne 183 = .ok (.aload_n 0, 1) := by decide +kernel
theorem dX7_moveOne_184 : decode cX7_moveOne 184 = .ok (.getfield 89, 3) := by decide +kernel
theorem dX7_moveOne_187 : decode cX7_moveOne 187 = .ok (.iload 8, 2) := by decide +kernel
theorem dX7_moveOne_189 : decode cX7_moveOne 189 = .ok (.dup2, 1) := by decide +kernel
theorem dX7_moveOne_190 : decode cX7_moveOne 190 = .ok (.iaload, 1) := by decide +kernel
theorem dX7_moveOne_191 : decode cX7_moveOne 191 = .ok (.iconst 1, 1) := by decide +kernel
theorem dX7_moveOne_192 : decode cX7_moveOne 192 = .ok (.isub, 1) := by decide +kernel
theorem dX7_moveOne_193 : decode cX7_moveOne 193 = .ok (.iastore, 1) := by decide +kernel
theorem dX7_moveOne_194 : decode cX7_moveOne 194 = .ok (.aload_n 0, 1) := by decide +kernel
theorem dX7_moveOne_195 : decode cX7_moveOne 195 = .ok (.getfield 89, 3) := by decide +kernel
theorem dX7_moveOne_198 : decode cX7_moveOne 198 = .ok (.iload 8, 2) := by decide +kernel
theorem dX7_moveOne_200 : decode cX7_moveOne 200 = .ok (.iconst 1, 1) := by decide +kernel
theorem dX7_moveOne_201 : decode cX7_moveOne 201 = .ok (.iadd, 1) := by decide +kernel
theorem dX7_moveOne_202 : decode cX7_moveOne 202 = .ok (.iconst 3, 1) := by decide +kernel
theorem dX7_moveOne_203 : decode cX7_moveOne 203 = .ok (.irem, 1) := by decide +kernel
theorem dX7_moveOne_204 : decode cX7_moveOne 204 = .ok (.dup2, 1) := by decide +kernel
theorem dX7_moveOne_205 : decode cX7_moveOne 205 = .ok (.iaload, 1) := by decide +kernel
theorem dX7_moveOne_206 : decode cX7_moveOne 206 = .ok (.iconst 1, 1) := by decide +kernel
theorem dX7_moveOne_207 : decode cX7_moveOne 207 = .ok (.iadd, 1) := by decide +kernel
theorem dX7_moveOne_208 : decode cX7_moveOne 208 = .ok (.iastore, 1) := by decide +kernel
theorem dX7_moveOne_209 : decode cX7_moveOne 209 = .ok (.return_, 1) := by decide +kernel
theorem dX7_goNear_0 : decode cX7_goNear 0 = .ok (.aload_n 0, 1) := by decide +kernel
theorem dX7_goNear_1 : decode cX7_goNear 1 = .ok (.getfield 89, 3) := by decide +kernel
theorem dX7_goNear_4 : decode cX7_goNear 4 = .ok (.iconst 0, 1) := by decide +kernel
theorem dX7_goNear_5 : decode cX7_goNear 5 = .ok (.iaload, 1) := by decide +kernel
theorem dX7_goNear_6 : decode cX7_goNear 6 = .ok (.aload_n 1, 1) := by decide +kernel
theorem dX7_goNear_7 : decode cX7_goNear 7 = .ok (.iload_n 2, 1) := by decide +kernel
theorem dX7_goNear_8 : decode cX7_goNear 8 = .ok (.iaload, 1) := by decide +kernel
theorem dX7_goNear_9 : decode cX7_goNear 9 = .ok (.isub, 1) := by decide +kernel
theorem dX7_goNear_10 : decode cX7_goNear 10 = .ok (.istore 4, 2) := by decide +kernel
theorem dX7_goNear_12 : decode cX7_goNear 12 = .ok (.aload_n 0, 1) := by decide +kernel
theorem dX7_goNear_13 : decode cX7_goNear 13 = .ok (.getfield 89, 3) := by decide +kernel
theorem dX7_goNear_16 : decode cX7_goNear 16 = .ok (.iconst 1, 1) := by decide +kernel
theorem dX7_goNear_17 : decode cX7_goNear 17 = .ok (.iaload, 1) := by decide +kernel
theorem dX7_goNear_18 : decode cX7_goNear 18 = .ok (.aload_n 1, 1) := by decide +kernel
theorem dX7_goNear_19 : decode cX7_goNear 19 = .ok (.iload_n 2, 1) := by decide +kernel
theorem dX7_goNear_20 : decode cX7_goNear 20 = .ok (.iconst 1, 1) := by decide +kernel
theorem dX7_goNear_21 : decode cX7_goNear 21 = .ok (.iadd, 1) := by decide +kernel
theorem dX7_goNear_22 : decode cX7_goNear 22 = .ok (.iaload, 1) := by decide +kernel
theorem dX7_goNear_23 : decode cX7_goNear 23 = .ok (.isub, 1) := by decide +kernel
theorem dX7_goNear_24 : decode cX7_goNear 24 = .ok (.istore 5, 2) := by decide +kernel
theorem dX7_goNear_26 : decode cX7_goNear 26 = .ok (.aload_n 0, 1) := by decide +kernel
theorem dX7_goNear_27 : decode cX7_goNear 27 = .ok (.getfield 89, 3) := by decide +kernel
theorem dX7_goNear_30 : decode cX7_goNear 30 = .ok (.iconst 2, 1) := by decide +kernel
theorem dX7_goNear_31 : decode cX7_goNear 31 = .ok (.iaload, 1) := by decide +kernel
theorem dX7_goNear_32 : decode cX7_goNear 32 = .ok (.aload_n 1, 1) := by decide +kernel
theorem dX7_goNear_33 : decode cX7_goNear 33 = .ok (.iload_n 2, 1) := by decide +kernel
theorem dX7_goNear_34 : decode cX7_goNear 34 = .ok (.iconst 2, 1) := by decide +kernel
theorem dX7_goNear_35 : decode cX7_goNear 35 = .ok (.iadd, 1) := by decide +kernel
theorem dX7_goNear_36 : decode cX7_goNear 36 = .ok (.iaload, 1) := by decide +kernel
theorem dX7_goNear_37 : decode cX7_goNear 37 = .ok (.isub, 1) := by decide +kernel
theorem dX7_goNear_38 : decode cX7_goNear 38 = .ok (.istore 6, 2) := by decide +kernel
theorem dX7_goNear_40 : decode cX7_goNear 40 = .ok (.iload 4, 2) := by decide +kernel
theorem dX7_goNear_42 : decode cX7_goNear 42 = .ok (.iload 5, 2) := by decide +kernel
theorem dX7_goNear_44 : decode cX7_goNear 44 = .ok (.iload 6, 2) := by decide +kernel
theorem dX7_goNear_46 : decode cX7_goNear 46 = .ok (.invokestatic 283, 3) := by decide +kernel
theorem dX7_goNear_49 : decode cX7_goNear 49 = .ok (.istore 7, 2) := by decide +kernel
theorem dX7_goNear_51 : decode cX7_goNear 51 = .ok (.iload 4, 2) := by decide +kernel
theorem dX7_goNear_53 : decode cX7_goNear 53 = .ok (.ineg, 1) := by decide +kernel
theorem dX7_goNear_54 : decode cX7_goNear 54 = .ok (.iload 5, 2) := by decide +kernel
theorem dX7_goNear_56 : decode cX7_goNear 56 = .ok (.ineg, 1) := by decide +kernel
theorem dX7_goNear_57 : decode cX7_goNear 57 = .ok (.iload 6, 2) := by decide +kernel
theorem dX7_goNear_59 : decode cX7_goNear 59 = .ok (.ineg, 1) := by decide +kernel
theorem dX7_goNear_60 : decode cX7_goNear 60 = .ok (.invokestatic 283, 3) := by decide +kernel
theorem dX7_goNear_63 : decode cX7_goNear 63 = .ok (.istore 8, 2) := by decide +kernel
theorem dX7_goNear_65 : decode cX7_goNear 65 = .ok (.iload 4, 2) := by decide +kernel
theorem dX7_goNear_67 : decode cX7_goNear 67 = .ok (.ifCond .ne 13, 3) := by decide +kernel
theorem dX7_goNear_70 : decode cX7_goNear 70 = .ok (.iload 5, 2) := by decide +kernel
theorem dX7_goNear_72 : decode cX7_goNear 72 = .ok (.ifCond .ne 8, 3) := by decide +kernel
theorem dX7_goNear_75 : decode cX7_goNear 75 = .ok (.iload 6, 2) := by decide +kernel
theorem dX7_goNear_77 : decode cX7_goNear 77 = .ok (.ifCond .eq 15, 3) := by decide +kernel
theorem dX7_goNear_80 : decode cX7_goNear 80 = .ok (.iload_n 3, 1) := by decide +kernel
theorem dX7_goNear_81 : decode cX7_goNear 81 = .ok (.iconst 2, 1) := by decide +kernel
theorem dX7_goNear_82 : decode cX7_goNear 82 = .ok (.iand, 1) := by decide +kernel
theorem dX7_goNear_83 : decode cX7_goNear 83 = .ok (.ifCond .eq 11, 3) := by decide +kernel
theorem dX7_goNear_86 : decode cX7_goNear 86 = .ok (.iload 8, 2) := by decide +kernel
theorem dX7_goNear_88 : decode cX7_goNear 88 = .ok (.iconst 1, 1) := by decide +kernel
theorem dX7_goNear_89 : decode cX7_goNear 89 = .ok (.if_icmp .ne 5, 3) := by decide +kernel
theorem dX7_goNear_92 : decode cX7_goNear 92 = .ok (.iconst 0, 1) := by decide +kernel
theorem dX7_goNear_93 : decode cX7_goNear 93 = .ok (.ireturn, 1) := by decide +kernel
theorem dX7_goNear_94 : decode cX7_goNear 94 = .ok (.aload_n 0, 1) := by decide +kernel
theorem dX7_goNear_95 : decode cX7_goNear 95 = .ok (.getfield 89, 3) := by decide +kernel
theorem dX7_goNear_98 : decode cX7_goNear 98 = .ok (.iload 7, 2) := by decide +kernel
theorem dX7_goNear_100 : decode cX7_goNear 100 = .ok (.dup2, 1) := by decide +kernel
theorem dX7_goNear_101 : decode cX7_goNear 101 = .ok (.iaload, 1) := by decide +kernel
theorem dX7_goNear_102 : decode cX7_goNear 102 = .ok (.iconst 1, 1) := by decide +kernel
theorem dX7_goNear_103 : decode cX7_goNear 103 = .ok (.isub, 1) := by decide +kernel
theorem dX7_goNear_104 : decode cX7_goNear 104 = .ok (.iastore, 1) := by decide +kernel
theorem dX7_goNear_105 : decode cX7_goNear 105 = .ok (.aload_n 0, 1) := by decide +kernel
theorem dX7_goNear_106 : decode cX7_goNear 106 = .ok (.getfield 89, 3) := by decide +kernel
theorem dX7_goNear_109 : decode cX7_goNear 109 = .ok (.iload 8, 2) := by decide +kernel
theorem dX7_goNear_111 : decode cX7_goNear 111 = .ok (.dup2, 1) := by decide +kernel
theorem dX7_goNear_112 : decode cX7_goNear 112 = .ok (.iaload, 1) := by decide +kernel
theorem dX7_goNear_113 : decode cX7_goNear 113 = .ok (.iconst 1, 1) := by decide +kernel
theorem dX7_goNear_114 : decode cX7_goNear 114 = .ok (.iadd, 1) := by decide +kernel
theorem dX7_goNear_115 : decode cX7_goNear 115 = .ok (.iastore, 1) := by decide +kernel
theorem dX7_goNear_116 : decode cX7_goNear 116 = .ok (.iconst 1, 1) := by decide +kernel
theorem dX7_goNear_117 : decode cX7_goNear 117 = .ok (.ireturn, 1) := by decide +kernel
theorem dX7_goNight_0 : decode cX7_goNight 0 = .ok (.aload_n 0, 1) := by decide +kernel
theorem dX7_goNight_1 : decode cX7_goNight 1 = .ok (.getfield 83, 3) := by decide +kernel
theorem dX7_goNight_4 : decode cX7_goNight 4 = .ok (.aload_n 1, 1) := by decide +kernel
theorem dX7_goNight_5 : decode cX7_goNight 5 = .ok (.invokestatic 287, 3) := by decide +kernel
theorem dX7_goNight_8 : decode cX7_goNight 8 = .ok (.iconst 0, 1) := by decide +kernel
theorem dX7_goNight_9 : decode cX7_goNight 9 = .ok (.istore 5, 2) := by decide +kernel
theorem dX7_goNight_11 : decode cX7_goNight 11 = .ok (.iload 5, 2) := by decide +kernel
theorem dX7_goNight_13 : decode cX7_goNight 13 = .ok (.aload_n 0, 1) := by decide +kernel
theorem dX7_goNight_14 : decode cX7_goNight 14 = .ok (.getfield 43, 3) := by decide +kernel
theorem dX7_goNight_17 : decode cX7_goNight 17 = .ok (.iconst 1, 1) := by decide +kernel
theorem dX7_goNight_18 : decode cX7_goNight 18 = .ok (.iaload, 1) := by decide +kernel
theorem dX7_goNight_19 : decode cX7_goNight 19 = .ok (.if_icmp .ge 72, 3) := by decide +kernel
theorem dX7_goNight_22 : decode cX7_goNight 22 = .ok (.aload_n 0, 1) := by decide +kernel
theorem dX7_goNight_23 : decode cX7_goNight 23 = .ok (.getfield 83, 3) := by decide +kernel
theorem dX7_goNight_26 : decode cX7_goNight 26 = .ok (.iload 5, 2) := by decide +kernel
theorem dX7_goNight_28 : decode cX7_goNight 28 = .ok (.invokestatic 261, 3) := by decide +kernel
theorem dX7_goNight_31 : decode cX7_goNight 31 = .ok (.ifCond .eq 6, 3) := by decide +kernel
theorem dX7_goNight_34 : decode cX7_goNight 34 = .ok (.goto 51, 3) := by decide +kernel
theorem dX7_goNight_37 : decode cX7_goNight 37 = .ok (.aload_n 0, 1) := by decide +kernel
theorem dX7_goNight_38 : decode cX7_goNight 38 = .ok (.aload_n 0, 1) := by decide +kernel
theorem dX7_goNight_39 : decode cX7_goNight 39 = .ok (.getfield 83, 3) := by decide +kernel
theorem dX7_goNight_42 : decode cX7_goNight 42 = .ok (.iload_n 2, 1) := by decide +kernel
theorem dX7_goNight_43 : decode cX7_goNight 43 = .ok (.iload 5, 2) := by decide +kernel
theorem dX7_goNight_45 : decode cX7_goNight 45 = .ok (.aload_n 3, 1) := by decide +kernel
theorem dX7_goNight_46 : decode cX7_goNight 46 = .ok (.iload 5, 2) := by decide +kernel
theorem dX7_goNight_48 : decode cX7_goNight 48 = .ok (.iaload, 1) := by decide +kernel
theorem dX7_goNight_49 : decode cX7_goNight 49 = .ok (.iload 4, 2) := by decide +kernel
theorem dX7_goNight_51 : decode cX7_goNight 51 = .ok (.invokevirtual 291, 3) := by decide +kernel
theorem dX7_goNight_54 : decode cX7_goNight 54 = .ok (.iconst 0, 1) := by decide +kernel
theorem dX7_goNight_55 : decode cX7_goNight 55 = .ok (.istore 6, 2) := by decide +kernel
theorem dX7_goNight_57 : decode cX7_goNight 57 = .ok (.iload 6, 2) := by decide +kernel
theorem dX7_goNight_59 : decode cX7_goNight 59 = .ok (.iconst 3, 1) := by decide +kernel
theorem dX7_goNight_60 : decode cX7_goNight 60 = .ok (.if_icmp .ge 25, 3) := by decide +kernel
theorem dX7_goNight_63 : decode cX7_goNight 63 = .ok (.aload_n 1, 1) := by decide +kernel
theorem dX7_goNight_64 : decode cX7_goNight 64 = .ok (.iconst 3, 1) := by decide +kernel
theorem dX7_goNight_65 : decode cX7_goNight 65 = .ok (.iload 5, 2) := by decide +kernel
theorem dX7_goNight_67 : decode cX7_goNight 67 = .ok (.imul, 1) := by decide +kernel
theorem dX7_goNight_68 : decode cX7_goNight 68 = .ok (.iload 6, 2) := by decide +kernel
