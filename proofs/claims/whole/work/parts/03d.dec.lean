theorem dX6_restore_1 : decode cX6_restore 1 = .ok (.getfield 105, 3) := by decide +kernel
theorem dX6_restore_4 : decode cX6_restore 4 = .ok (.ifCond .eq 14, 3) := by decide +kernel
theorem dX6_restore_7 : decode cX6_restore 7 = .ok (.aload_n 0, 1) := by decide +kernel
theorem dX6_restore_8 : decode cX6_restore 8 = .ok (.getfield 16, 3) := by decide +kernel
theorem dX6_restore_11 : decode cX6_restore 11 = .ok (.aload_n 0, 1) := by decide +kernel
theorem dX6_restore_12 : decode cX6_restore 12 = .ok (.getfield 20, 3) := by decide +kernel
theorem dX6_restore_15 : decode cX6_restore 15 = .ok (.invokevirtual 275, 3) := by decide +kernel
theorem dX6_restore_18 : decode cX6_restore 18 = .ok (.aload_n 0, 1) := by decide +kernel
theorem dX6_restore_19 : decode cX6_restore 19 = .ok (.getfield 105, 3) := by decide +kernel
theorem dX6_restore_22 : decode cX6_restore 22 = .ok (.ireturn, 1) := by decide +kernel
theorem dX6_putBytes_0 : decode cX6_putBytes 0 = .ok (.bipush 24, 2) := by decide +kernel
theorem dX6_putBytes_2 : decode cX6_putBytes 2 = .ok (.istore_n 2, 1) := by decide +kernel
theorem dX6_putBytes_3 : decode cX6_putBytes 3 = .ok (.iload_n 2, 1) := by decide +kernel
theorem dX6_putBytes_4 : decode cX6_putBytes 4 = .ok (.ifCond .lt 45, 3) := by decide +kernel
theorem dX6_putBytes_7 : decode cX6_putBytes 7 = .ok (.aload_n 0, 1) := by decide +kernel
theorem dX6_putBytes_8 : decode cX6_putBytes 8 = .ok (.getfield 82, 3) := by decide +kernel
theorem dX6_putBytes_11 : decode cX6_putBytes 11 = .ok (.sipush 500, 3) := by decide +kernel
theorem dX6_putBytes_14 : decode cX6_putBytes 14 = .ok (.if_icmp .ge 35, 3) := by decide +kernel
theorem dX6_putBytes_17 : decode cX6_putBytes 17 = .ok (.aload_n 0, 1) := by decide +kernel
theorem dX6_putBytes_18 : decode cX6_putBytes 18 = .ok (.getfield 9, 3) := by decide +kernel
theorem dX6_putBytes_21 : decode cX6_putBytes 21 = .ok (.aload_n 0, 1) := by decide +kernel
theorem dX6_putBytes_22 : decode cX6_putBytes 22 = .ok (.getfield 82, 3) := by decide +kernel
theorem dX6_putBytes_25 : decode cX6_putBytes 25 = .ok (.iload_n 1, 1) := by decide +kernel
theorem dX6_putBytes_26 : decode cX6_putBytes 26 = .ok (.iload_n 2, 1) := by decide +kernel
theorem dX6_putBytes_27 : decode cX6_putBytes 27 = .ok (.iushr, 1) := by decide +kernel
theorem dX6_putBytes_28 : decode cX6_putBytes 28 = .ok (.sipush 255, 3) := by decide +kernel
theorem dX6_putBytes_31 : decode cX6_putBytes 31 = .ok (.iand, 1) := by decide +kernel
theorem dX6_putBytes_32 : decode cX6_putBytes 32 = .ok (.iastore, 1) := by decide +kernel
theorem dX6_putBytes_33 : decode cX6_putBytes 33 = .ok (.aload_n 0, 1) := by decide +kernel
theorem dX6_putBytes_34 : decode cX6_putBytes 34 = .ok (.dup, 1) := by decide +kernel
theorem dX6_putBytes_35 : decode cX6_putBytes 35 = .ok (.getfield 82, 3) := by decide +kernel
theorem dX6_putBytes_38 : decode cX6_putBytes 38 = .ok (.iconst 1, 1) := by decide +kernel
theorem dX6_putBytes_39 : decode cX6_putBytes 39 = .ok (.iadd, 1) := by decide +kernel
theorem dX6_putBytes_40 : decode cX6_putBytes 40 = .ok (.putfield 82, 3) := by decide +kernel
theorem dX6_putBytes_43 : decode cX6_putBytes 43 = .ok (.iinc 2 (-8), 3) := by decide +kernel
theorem dX6_putBytes_46 : decode cX6_putBytes 46 = .ok (.goto (-43), 3) := by decide +kernel
theorem dX6_putBytes_49 : decode cX6_putBytes 49 = .ok (.return_, 1) := by decide +kernel
theorem dX6_requireLamp_0 : decode cX6_requireLamp 0 = .ok (.iload_n 1, 1) := by decide +kernel
theorem dX6_requireLamp_1 : decode cX6_requireLamp 1 = .ok (.ifCond .lt 14, 3) := by decide +kernel
theorem dX6_requireLamp_4 : decode cX6_requireLamp 4 = .ok (.iload_n 1, 1) := by decide +kernel
theorem dX6_requireLamp_5 : decode cX6_requireLamp 5 = .ok (.aload_n 0, 1) := by decide +kernel
theorem dX6_requireLamp_6 : decode cX6_requireLamp 6 = .ok (.getfield 50, 3) := by decide +kernel
theorem dX6_requireLamp_9 : decode cX6_requireLamp 9 = .ok (.getfield 112, 3) := by decide +kernel
theorem dX6_requireLamp_12 : decode cX6_requireLamp 12 = .ok (.if_icmp .lt 11, 3) := by decide +kernel
theorem dX6_requireLamp_15 : decode cX6_requireLamp 15 = .ok (.new 139, 3) := by decide +kernel
theorem dX6_requireLamp_18 : decode cX6_requireLamp 18 = .ok (.dup, 1) := by decide +kernel
theorem dX6_requireLamp_19 : decode cX6_requireLamp 19 = .ok (.invokespecial 141, 3) := by decide +kernel
theorem dX6_requireLamp_22 : decode cX6_requireLamp 22 = .ok (.athrow, 1) := by decide +kernel
theorem dX6_requireLamp_23 : decode cX6_requireLamp 23 = .ok (.return_, 1) := by decide +kernel
theorem dX6_requireOil_0 : decode cX6_requireOil 0 = .ok (.iload_n 0, 1) := by decide +kernel
theorem dX6_requireOil_1 : decode cX6_requireOil 1 = .ok (.ifCond .lt 8, 3) := by decide +kernel
theorem dX6_requireOil_4 : decode cX6_requireOil 4 = .ok (.iload_n 0, 1) := by decide +kernel
theorem dX6_requireOil_5 : decode cX6_requireOil 5 = .ok (.iconst 3, 1) := by decide +kernel
theorem dX6_requireOil_6 : decode cX6_requireOil 6 = .ok (.if_icmp .lt 11, 3) := by decide +kernel
theorem dX6_requireOil_9 : decode cX6_requireOil 9 = .ok (.new 139, 3) := by decide +kernel
theorem dX6_requireOil_12 : decode cX6_requireOil 12 = .ok (.dup, 1) := by decide +kernel
theorem dX6_requireOil_13 : decode cX6_requireOil 13 = .ok (.invokespecial 141, 3) := by decide +kernel
theorem dX6_requireOil_16 : decode cX6_requireOil 16 = .ok (.athrow, 1) := by decide +kernel
theorem dX6_requireOil_17 : decode cX6_requireOil 17 = .ok (.return_, 1) := by decide +kernel
theorem dX6_requireFirstOrSecond_0 : decode cX6_requireFirstOrSecond 0 = .ok (.iload_n 0, 1) := by decide +kernel
theorem dX6_requireFirstOrSecond_1 : decode cX6_requireFirstOrSecond 1 = .ok (.ifCond .eq 16, 3) := by decide +kernel
theorem dX6_requireFirstOrSecond_4 : decode cX6_requireFirstOrSecond 4 = .ok (.iload_n 0, 1) := by decide +kernel
theorem dX6_requireFirstOrSecond_5 : decode cX6_requireFirstOrSecond 5 = .ok (.iconst 1, 1) := by decide +kernel
theorem dX6_requireFirstOrSecond_6 : decode cX6_requireFirstOrSecond 6 = .ok (.if_icmp .eq 11, 3) := by decide +kernel
theorem dX6_requireFirstOrSecond_9 : decode cX6_requireFirstOrSecond 9 = .ok (.new 139, 3) := by decide +kernel
theorem dX6_requireFirstOrSecond_12 : decode cX6_requireFirstOrSecond 12 = .ok (.dup, 1) := by decide +kernel
theorem dX6_requireFirstOrSecond_13 : decode cX6_requireFirstOrSecond 13 = .ok (.invokespecial 141, 3) := by decide +kernel
theorem dX6_requireFirstOrSecond_16 : decode cX6_requireFirstOrSecond 16 = .ok (.athrow, 1) := by decide +kernel
theorem dX6_requireFirstOrSecond_17 : decode cX6_requireFirstOrSecond 17 = .ok (.return_, 1) := by decide +kernel
theorem dX6_allLamps_0 : decode cX6_allLamps 0 = .ok (.iconst 1, 1) := by decide +kernel
theorem dX6_allLamps_1 : decode cX6_allLamps 1 = .ok (.aload_n 0, 1) := by decide +kernel
theorem dX6_allLamps_2 : decode cX6_allLamps 2 = .ok (.getfield 50, 3) := by decide +kernel
theorem dX6_allLamps_5 : decode cX6_allLamps 5 = .ok (.getfield 112, 3) := by decide +kernel
theorem dX6_allLamps_8 : decode cX6_allLamps 8 = .ok (.ishl, 1) := by decide +kernel
theorem dX6_allLamps_9 : decode cX6_allLamps 9 = .ok (.iconst 1, 1) := by decide +kernel
theorem dX6_allLamps_10 : decode cX6_allLamps 10 = .ok (.isub, 1) := by decide +kernel
theorem dX6_allLamps_11 : decode cX6_allLamps 11 = .ok (.ireturn, 1) := by decide +kernel
theorem dX6_areChildren_0 : decode cX6_areChildren 0 = .ok (.iload_n 1, 1) := by decide +kernel
theorem dX6_areChildren_1 : decode cX6_areChildren 1 = .ok (.aload_n 0, 1) := by decide +kernel
theorem dX6_areChildren_2 : decode cX6_areChildren 2 = .ok (.invokevirtual 210, 3) := by decide +kernel
theorem dX6_areChildren_5 : decode cX6_areChildren 5 = .ok (.iconst (-1), 1) := by decide +kernel
theorem dX6_areChildren_6 : decode cX6_areChildren 6 = .ok (.ixor, 1) := by decide +kernel
theorem dX6_areChildren_7 : decode cX6_areChildren 7 = .ok (.iand, 1) := by decide +kernel
theorem dX6_areChildren_8 : decode cX6_areChildren 8 = .ok (.ifCond .ne 22, 3) := by decide +kernel
theorem dX6_areChildren_11 : decode cX6_areChildren 11 = .ok (.iload_n 1, 1) := by decide +kernel
theorem dX6_areChildren_12 : decode cX6_areChildren 12 = .ok (.aload_n 0, 1) := by decide +kernel
theorem dX6_areChildren_13 : decode cX6_areChildren 13 = .ok (.getfield 16, 3) := by decide +kernel
theorem dX6_areChildren_16 : decode cX6_areChildren 16 = .ok (.getfield 130, 3) := by decide +kernel
theorem dX6_areChildren_19 : decode cX6_areChildren 19 = .ok (.getfield 213, 3) := by decide +kernel
theorem dX6_areChildren_22 : decode cX6_areChildren 22 = .ok (.iand, 1) := by decide +kernel
theorem dX6_areChildren_23 : decode cX6_areChildren 23 = .ok (.ifCond .ne 7, 3) := by decide +kernel
theorem dX6_areChildren_26 : decode cX6_areChildren 26 = .ok (.iconst 1, 1) := by decide +kernel
theorem dX6_areChildren_27 : decode cX6_areChildren 27 = .ok (.goto 4, 3) := by decide +kernel
theorem dX6_areChildren_30 : decode cX6_areChildren 30 = .ok (.iconst 0, 1) := by decide +kernel
theorem dX6_areChildren_31 : decode cX6_areChildren 31 = .ok (.istore_n 2, 1) := by decide +kernel
theorem dX6_areChildren_32 : decode cX6_areChildren 32 = .ok (.iload_n 2, 1) := by decide +kernel
theorem dX6_areChildren_33 : decode cX6_areChildren 33 = .ok (.ifCond .eq 19, 3) := by decide +kernel
theorem dX6_areChildren_36 : decode cX6_areChildren 36 = .ok (.iload_n 1, 1) := by decide +kernel
theorem dX6_areChildren_37 : decode cX6_areChildren 37 = .ok (.ifCond .eq 15, 3) := by decide +kernel
theorem dX6_areChildren_40 : decode cX6_areChildren 40 = .ok (.iload_n 1, 1) := by decide +kernel
theorem dX6_areChildren_41 : decode cX6_areChildren 41 = .ok (.invokestatic 266, 3) := by decide +kernel
theorem dX6_areChildren_44 : decode cX6_areChildren 44 = .ok (.iconst 3, 1) := by decide +kernel
theorem dX6_areChildren_45 : decode cX6_areChildren 45 = .ok (.if_icmp .gt 7, 3) := by decide +kernel
theorem dX6_areChildren_48 : decode cX6_areChildren 48 = .ok (.iconst 1, 1) := by decide +kernel
theorem dX6_areChildren_49 : decode cX6_areChildren 49 = .ok (.goto 4, 3) := by decide +kernel
theorem dX6_areChildren_52 : decode cX6_areChildren 52 = .ok (.iconst 0, 1) := by decide +kernel
theorem dX6_areChildren_53 : decode cX6_areChildren 53 = .ok (.ireturn, 1) := by decide +kernel
theorem dX6_findRound_0 : decode cX6_findRound 0 = .ok (.aload_n 0, 1) := by decide +kernel
theorem dX6_findRound_1 : decode cX6_findRound 1 = .ok (.getfield 75, 3) := by decide +kernel
theorem dX6_findRound_4 : decode cX6_findRound 4 = .ok (.aload_n 0, 1) := by decide +kernel
theorem dX6_findRound_5 : decode cX6_findRound 5 = .ok (.getfield 50, 3) := by decide +kernel
theorem dX6_findRound_8 : decode cX6_findRound 8 = .ok (.aload_n 0, 1) := by decide +kernel
theorem dX6_findRound_9 : decode cX6_findRound 9 = .ok (.getfield 50, 3) := by decide +kernel
theorem dX6_findRound_12 : decode cX6_findRound 12 = .ok (.getfield 154, 3) := by decide +kernel
theorem dX6_findRound_15 : decode cX6_findRound 15 = .ok (.iconst 0, 1) := by decide +kernel
theorem dX6_findRound_16 : decode cX6_findRound 16 = .ok (.invokevirtual 167, 3) := by decide +kernel
theorem dX6_findRound_19 : decode cX6_findRound 19 = .ok (.aload_n 0, 1) := by decide +kernel
theorem dX6_findRound_20 : decode cX6_findRound 20 = .ok (.getfield 26, 3) := by decide +kernel
theorem dX6_findRound_23 : decode cX6_findRound 23 = .ok (.aload_n 0, 1) := by decide +kernel
theorem dX6_findRound_24 : decode cX6_findRound 24 = .ok (.getfield 16, 3) := by decide +kernel
theorem dX6_findRound_27 : decode cX6_findRound 27 = .ok (.getfield 130, 3) := by decide +kernel
theorem dX6_findRound_30 : decode cX6_findRound 30 = .ok (.invokevirtual 216, 3) := by decide +kernel
theorem dX6_findRound_33 : decode cX6_findRound 33 = .ok (.aload_n 0, 1) := by decide +kernel
theorem dX6_findRound_34 : decode cX6_findRound 34 = .ok (.getfield 26, 3) := by decide +kernel
theorem dX6_findRound_37 : decode cX6_findRound 37 = .ok (.getfield 133, 3) := by decide +kernel
theorem dX6_findRound_40 : decode cX6_findRound 40 = .ok (.istore_n 1, 1) := by decide +kernel
theorem dX6_findRound_41 : decode cX6_findRound 41 = .ok (.iload_n 1, 1) := by decide +kernel
theorem dX6_findRound_42 : decode cX6_findRound 42 = .ok (.bipush 100, 2) := by decide +kernel
theorem dX6_findRound_44 : decode cX6_findRound 44 = .ok (.if_icmp .ge 21, 3) := by decide +kernel
theorem dX6_findRound_47 : decode cX6_findRound 47 = .ok (.aload_n 0, 1) := by decide +kernel
theorem dX6_findRound_48 : decode cX6_findRound 48 = .ok (.getfield 75, 3) := by decide +kernel
theorem dX6_findRound_51 : decode cX6_findRound 51 = .ok (.aload_n 0, 1) := by decide +kernel
theorem dX6_findRound_52 : decode cX6_findRound 52 = .ok (.getfield 26, 3) := by decide +kernel
theorem dX6_findRound_55 : decode cX6_findRound 55 = .ok (.invokevirtual 174, 3) := by decide +kernel
theorem dX6_findRound_58 : decode cX6_findRound 58 = .ok (.pop, 1) := by decide +kernel
theorem dX6_findRound_59 : decode cX6_findRound 59 = .ok (.iinc 1 1, 3) := by decide +kernel
theorem dX6_findRound_62 : decode cX6_findRound 62 = .ok (.goto (-21), 3) := by decide +kernel
theorem dX6_findRound_65 : decode cX6_findRound 65 = .ok (.aload_n 0, 1) := by decide +kernel
theorem dX6_findRound_66 : decode cX6_findRound 66 = .ok (.getfield 30, 3) := by decide +kernel
theorem dX6_findRound_69 : decode cX6_findRound 69 = .ok (.iconst 0, 1) := by decide +kernel
theorem dX6_findRound_70 : decode cX6_findRound 70 = .ok (.aload_n 0, 1) := by decide +kernel
theorem dX6_findRound_71 : decode cX6_findRound 71 = .ok (.getfield 26, 3) := by decide +kernel
theorem dX6_findRound_74 : decode cX6_findRound 74 = .ok (.invokevirtual 278, 3) := by decide +kernel
theorem dX6_findRound_77 : decode cX6_findRound 77 = .ok (.lastore, 1) := by decide +kernel
theorem dX6_findRound_78 : decode cX6_findRound 78 = .ok (.iconst 0, 1) := by decide +kernel
theorem dX6_findRound_79 : decode cX6_findRound 79 = .ok (.istore_n 1, 1) := by decide +kernel
theorem dX6_findRound_80 : decode cX6_findRound 80 = .ok (.iconst 1, 1) := by decide +kernel
theorem dX6_findRound_81 : decode cX6_findRound 81 = .ok (.istore_n 2, 1) := by decide +kernel
theorem dX6_findRound_82 : decode cX6_findRound 82 = .ok (.iload_n 2, 1) := by decide +kernel
theorem dX6_findRound_83 : decode cX6_findRound 83 = .ok (.sipush 1000, 3) := by decide +kernel
theorem dX6_findRound_86 : decode cX6_findRound 86 = .ok (.if_icmp .gt 94, 3) := by decide +kernel
theorem dX6_findRound_89 : decode cX6_findRound 89 = .ok (.aload_n 0, 1) := by decide +kernel
theorem dX6_findRound_90 : decode cX6_findRound 90 = .ok (.getfield 26, 3) := by decide +kernel
theorem dX6_findRound_93 : decode cX6_findRound 93 = .ok (.getfield 136, 3) := by decide +kernel
theorem dX6_findRound_96 : decode cX6_findRound 96 = .ok (.istore_n 3, 1) := by decide +kernel
theorem dX6_findRound_97 : decode cX6_findRound 97 = .ok (.aload_n 0, 1) := by decide +kernel
theorem dX6_findRound_98 : decode cX6_findRound 98 = .ok (.getfield 75, 3) := by decide +kernel
theorem dX6_findRound_101 : decode cX6_findRound 101 = .ok (.aload_n 0, 1) := by decide +kernel
theorem dX6_findRound_102 : decode cX6_findRound 102 = .ok (.getfield 26, 3) := by decide +kernel
theorem dX6_findRound_105 : decode cX6_findRound 105 = .ok (.invokevirtual 174, 3) := by decide +kernel
theorem dX6_findRound_108 : decode cX6_findRound 108 = .ok (.pop, 1) := by decide +kernel
theorem dX6_findRound_109 : decode cX6_findRound 109 = .ok (.aload_n 0, 1) := by decide +kernel
theorem dX6_findRound_110 : decode cX6_findRound 110 = .ok (.getfield 26, 3) := by decide +kernel
theorem dX6_findRound_113 : decode cX6_findRound 113 = .ok (.getfield 136, 3) := by decide +kernel
theorem dX6_findRound_116 : decode cX6_findRound 116 = .ok (.iload_n 3, 1) := by decide +kernel
theorem dX6_findRound_117 : decode cX6_findRound 117 = .ok (.if_icmp .eq 5, 3) := by decide +kernel
theorem dX6_findRound_120 : decode cX6_findRound 120 = .ok (.iload_n 2, 1) := by decide +kernel
theorem dX6_findRound_121 : decode cX6_findRound 121 = .ok (.istore_n 1, 1) := by decide +kernel
theorem dX6_findRound_122 : decode cX6_findRound 122 = .ok (.aload_n 0, 1) := by decide +kernel
theorem dX6_findRound_123 : decode cX6_findRound 123 = .ok (.getfield 30, 3) := by decide +kernel
theorem dX6_findRound_126 : decode cX6_findRound 126 = .ok (.iload_n 2, 1) := by decide +kernel
theorem dX6_findRound_127 : decode cX6_findRound 127 = .ok (.aload_n 0, 1) := by decide +kernel
theorem dX6_findRound_128 : decode cX6_findRound 128 = .ok (.getfield 26, 3) := by decide +kernel
theorem dX6_findRound_131 : decode cX6_findRound 131 = .ok (.invokevirtual 278, 3) := by decide +kernel
theorem dX6_findRound_134 : decode cX6_findRound 134 = .ok (.lastore, 1) := by decide +kernel
theorem dX6_findRound_135 : decode cX6_findRound 135 = .ok (.iload_n 2, 1) := by decide +kernel
theorem dX6_findRound_136 : decode cX6_findRound 136 = .ok (.iconst 2, 1) := by decide +kernel
theorem dX6_findRound_137 : decode cX6_findRound 137 = .ok (.isub, 1) := by decide +kernel
theorem dX6_findRound_138 : decode cX6_findRound 138 = .ok (.istore 4, 2) := by decide +kernel
theorem dX6_findRound_140 : decode cX6_findRound 140 = .ok (.iload 4, 2) := by decide +kernel
theorem dX6_findRound_142 : decode cX6_findRound 142 = .ok (.iload_n 1, 1) := by decide +kernel
theorem dX6_findRound_143 : decode cX6_findRound 143 = .ok (.if_icmp .lt 31, 3) := by decide +kernel
theorem dX6_findRound_146 : decode cX6_findRound 146 = .ok (.aload_n 0, 1) := by decide +kernel
theorem dX6_findRound_147 : decode cX6_findRound 147 = .ok (.getfield 30, 3) := by decide +kernel
theorem dX6_findRound_150 : decode cX6_findRound 150 = .ok (.iload 4, 2) := by decide +kernel
theorem dX6_findRound_152 : decode cX6_findRound 152 = .ok (.laload, 1) := by decide +kernel
theorem dX6_findRound_153 : decode cX6_findRound 153 = .ok (.aload_n 0, 1) := by decide +kernel
theorem dX6_findRound_154 : decode cX6_findRound 154 = .ok (.getfield 30, 3) := by decide +kernel
theorem dX6_findRound_157 : decode cX6_findRound 157 = .ok (.iload_n 2, 1) := by decide +kernel
theorem dX6_findRound_158 : decode cX6_findRound 158 = .ok (.laload, 1) := by decide +kernel
theorem dX6_findRound_159 : decode cX6_findRound 159 = .ok (.lcmp, 1) := by decide +kernel
theorem dX6_findRound_160 : decode cX6_findRound 160 = .ok (.ifCond .ne 8, 3) := by decide +kernel
theorem dX6_findRound_163 : decode cX6_findRound 163 = .ok (.iload_n 2, 1) := by decide +kernel
theorem dX6_findRound_164 : decode cX6_findRound 164 = .ok (.iload 4, 2) := by decide +kernel
theorem dX6_findRound_166 : decode cX6_findRound 166 = .ok (.isub, 1) := by decide +kernel
theorem dX6_findRound_167 : decode cX6_findRound 167 = .ok (.ireturn, 1) := by decide +kernel
theorem dX6_findRound_168 : decode cX6_findRound 168 = .ok (.iinc 4 (-2), 3) := by decide +kernel
theorem dX6_findRound_171 : decode cX6_findRound 171 = .ok (.goto (-31), 3) := by decide +kernel
theorem dX6_findRound_174 : decode cX6_findRound 174 = .ok (.iinc 2 1, 3) := by decide +kernel
theorem dX6_findRound_177 : decode cX6_findRound 177 = .ok (.goto (-95), 3) := by decide +kernel
theorem dX6_findRound_180 : decode cX6_findRound 180 = .ok (.iconst (-1), 1) := by decide +kernel
theorem dX6_findRound_181 : decode cX6_findRound 181 = .ok (.ireturn, 1) := by decide +kernel
theorem dX6_leftByBook_0 : decode cX6_leftByBook 0 = .ok (.aload_n 0, 1) := by decide +kernel
theorem dX6_leftByBook_1 : decode cX6_leftByBook 1 = .ok (.getfield 75, 3) := by decide +kernel
theorem dX6_leftByBook_4 : decode cX6_leftByBook 4 = .ok (.aload_n 0, 1) := by decide +kernel
theorem dX6_leftByBook_5 : decode cX6_leftByBook 5 = .ok (.getfield 50, 3) := by decide +kernel
theorem dX6_leftByBook_8 : decode cX6_leftByBook 8 = .ok (.aload_n 0, 1) := by decide +kernel
theorem dX6_leftByBook_9 : decode cX6_leftByBook 9 = .ok (.getfield 50, 3) := by decide +kernel
theorem dX6_leftByBook_12 : decode cX6_leftByBook 12 = .ok (.getfield 154, 3) := by decide +kernel
theorem dX6_leftByBook_15 : decode cX6_leftByBook 15 = .ok (.iconst 0, 1) := by decide +kernel
theorem dX6_leftByBook_16 : decode cX6_leftByBook 16 = .ok (.invokevirtual 167, 3) := by decide +kernel
theorem dX6_leftByBook_19 : decode cX6_leftByBook 19 = .ok (.aload_n 0, 1) := by decide +kernel
theorem dX6_leftByBook_20 : decode cX6_leftByBook 20 = .ok (.invokevirtual 210, 3) := by decide +kernel
theorem dX6_leftByBook_23 : decode cX6_leftByBook 23 = .ok (.iconst 1, 1) := by decide +kernel
theorem dX6_leftByBook_24 : decode cX6_leftByBook 24 = .ok (.iload_n 1, 1) := by decide +kernel
theorem dX6_leftByBook_25 : decode cX6_leftByBook 25 = .ok (.ishl, 1) := by decide +kernel
theorem dX6_leftByBook_26 : decode cX6_leftByBook 26 = .ok (.iconst (-1), 1) := by decide +kernel
theorem dX6_leftByBook_27 : decode cX6_leftByBook 27 = .ok (.ixor, 1) := by decide +kernel
theorem dX6_leftByBook_28 : decode cX6_leftByBook 28 = .ok (.iand, 1) := by decide +kernel
theorem dX6_leftByBook_29 : decode cX6_leftByBook 29 = .ok (.bipush 64, 2) := by decide +kernel
theorem dX6_leftByBook_31 : decode cX6_leftByBook 31 = .ok (.ior, 1) := by decide +kernel
theorem dX6_leftByBook_32 : decode cX6_leftByBook 32 = .ok (.istore_n 2, 1) := by decide +kernel
theorem dX6_leftByBook_33 : decode cX6_leftByBook 33 = .ok (.iconst 0, 1) := by decide +kernel
theorem dX6_leftByBook_34 : decode cX6_leftByBook 34 = .ok (.istore_n 3, 1) := by decide +kernel
theorem dX6_leftByBook_35 : decode cX6_leftByBook 35 = .ok (.iload_n 3, 1) := by decide +kernel
theorem dX6_leftByBook_36 : decode cX6_leftByBook 36 = .ok (.aload_n 0, 1) := by decide +kernel
theorem dX6_leftByBook_37 : decode cX6_leftByBook 37 = .ok (.getfield 16, 3) := by decide +kernel
theorem dX6_leftByBook_40 : decode cX6_leftByBook 40 = .ok (.getfield 130, 3) := by decide +kernel
theorem dX6_leftByBook_43 : decode cX6_leftByBook 43 = .ok (.getfield 133, 3) := by decide +kernel
theorem dX6_leftByBook_46 : decode cX6_leftByBook 46 = .ok (.if_icmp .ge 41, 3) := by decide +kernel
theorem dX6_leftByBook_49 : decode cX6_leftByBook 49 = .ok (.aload_n 0, 1) := by decide +kernel
theorem dX6_leftByBook_50 : decode cX6_leftByBook 50 = .ok (.getfield 16, 3) := by decide +kernel
theorem dX6_leftByBook_53 : decode cX6_leftByBook 53 = .ok (.iload_n 3, 1) := by decide +kernel
theorem dX6_leftByBook_54 : decode cX6_leftByBook 54 = .ok (.aload_n 0, 1) := by decide +kernel
theorem dX6_leftByBook_55 : decode cX6_leftByBook 55 = .ok (.getfield 26, 3) := by decide +kernel
theorem dX6_leftByBook_58 : decode cX6_leftByBook 58 = .ok (.invokevirtual 282, 3) := by decide +kernel
theorem dX6_leftByBook_61 : decode cX6_leftByBook 61 = .ok (.aload_n 0, 1) := by decide +kernel
theorem dX6_leftByBook_62 : decode cX6_leftByBook 62 = .ok (.getfield 16, 3) := by decide +kernel
theorem dX6_leftByBook_65 : decode cX6_leftByBook 65 = .ok (.iload_n 3, 1) := by decide +kernel
theorem dX6_leftByBook_66 : decode cX6_leftByBook 66 = .ok (.iload_n 1, 1) := by decide +kernel
theorem dX6_leftByBook_67 : decode cX6_leftByBook 67 = .ok (.aload_n 0, 1) := by decide +kernel
theorem dX6_leftByBook_68 : decode cX6_leftByBook 68 = .ok (.getfield 37, 3) := by decide +kernel
theorem dX6_leftByBook_71 : decode cX6_leftByBook 71 = .ok (.invokevirtual 286, 3) := by decide +kernel
theorem dX6_leftByBook_74 : decode cX6_leftByBook 74 = .ok (.aload_n 0, 1) := by decide +kernel
theorem dX6_leftByBook_75 : decode cX6_leftByBook 75 = .ok (.iload_n 1, 1) := by decide +kernel
theorem dX6_leftByBook_76 : decode cX6_leftByBook 76 = .ok (.iload_n 2, 1) := by decide +kernel
theorem dX6_leftByBook_77 : decode cX6_leftByBook 77 = .ok (.invokevirtual 263, 3) := by decide +kernel
theorem dX6_leftByBook_80 : decode cX6_leftByBook 80 = .ok (.istore_n 2, 1) := by decide +kernel
theorem dX6_leftByBook_81 : decode cX6_leftByBook 81 = .ok (.iinc 3 1, 3) := by decide +kernel
theorem dX6_leftByBook_84 : decode cX6_leftByBook 84 = .ok (.goto (-49), 3) := by decide +kernel
theorem dX6_leftByBook_87 : decode cX6_leftByBook 87 = .ok (.iload_n 2, 1) := by decide +kernel
theorem dX6_leftByBook_88 : decode cX6_leftByBook 88 = .ok (.ireturn, 1) := by decide +kernel
theorem dX6_leftByNight_0 : decode cX6_leftByNight 0 = .ok (.iload_n 2, 1) := by decide +kernel
theorem dX6_leftByNight_1 : decode cX6_leftByNight 1 = .ok (.istore_n 3, 1) := by decide +kernel
theorem dX6_leftByNight_2 : decode cX6_leftByNight 2 = .ok (.iconst 0, 1) := by decide +kernel
theorem dX6_leftByNight_3 : decode cX6_leftByNight 3 = .ok (.istore 4, 2) := by decide +kernel
theorem dX6_leftByNight_5 : decode cX6_leftByNight 5 = .ok (.iload 4, 2) := by decide +kernel
theorem dX6_leftByNight_7 : decode cX6_leftByNight 7 = .ok (.bipush 6, 2) := by decide +kernel
theorem dX6_leftByNight_9 : decode cX6_leftByNight 9 = .ok (.if_icmp .gt 60, 3) := by decide +kernel
theorem dX6_leftByNight_12 : decode cX6_leftByNight 12 = .ok (.iload_n 3, 1) := by decide +kernel
theorem dX6_leftByNight_13 : decode cX6_leftByNight 13 = .ok (.iload 4, 2) := by decide +kernel
theorem dX6_leftByNight_15 : decode cX6_leftByNight 15 = .ok (.iushr, 1) := by decide +kernel
theorem dX6_leftByNight_16 : decode cX6_leftByNight 16 = .ok (.iconst 1, 1) := by decide +kernel
theorem dX6_leftByNight_17 : decode cX6_leftByNight 17 = .ok (.iand, 1) := by decide +kernel
theorem dX6_leftByNight_18 : decode cX6_leftByNight 18 = .ok (.ifCond .eq 45, 3) := by decide +kernel
theorem dX6_leftByNight_21 : decode cX6_leftByNight 21 = .ok (.aload_n 0, 1) := by decide +kernel
theorem dX6_leftByNight_22 : decode cX6_leftByNight 22 = .ok (.getfield 75, 3) := by decide +kernel
theorem dX6_leftByNight_25 : decode cX6_leftByNight 25 = .ok (.aload_n 0, 1) := by decide +kernel
theorem dX6_leftByNight_26 : decode cX6_leftByNight 26 = .ok (.getfield 26, 3) := by decide +kernel
theorem dX6_leftByNight_29 : decode cX6_leftByNight 29 = .ok (.iload_n 1, 1) := by decide +kernel
theorem dX6_leftByNight_30 : decode cX6_leftByNight 30 = .ok (.iload 4, 2) := by decide +kernel
theorem dX6_leftByNight_32 : decode cX6_leftByNight 32 = .ok (.bipush 6, 2) := by decide +kernel
theorem dX6_leftByNight_34 : decode cX6_leftByNight 34 = .ok (.if_icmp .ne 7, 3) := by decide +kernel
theorem dX6_leftByNight_37 : decode cX6_leftByNight 37 = .ok (.iconst (-1), 1) := by decide +kernel
theorem dX6_leftByNight_38 : decode cX6_leftByNight 38 = .ok (.goto 5, 3) := by decide +kernel
theorem dX6_leftByNight_41 : decode cX6_leftByNight 41 = .ok (.iload 4, 2) := by decide +kernel
theorem dX6_leftByNight_43 : decode cX6_leftByNight 43 = .ok (.invokevirtual 250, 3) := by decide +kernel
theorem dX6_leftByNight_46 : decode cX6_leftByNight 46 = .ok (.aload_n 0, 1) := by decide +kernel
theorem dX6_leftByNight_47 : decode cX6_leftByNight 47 = .ok (.iload_n 1, 1) := by decide +kernel
theorem dX6_leftByNight_48 : decode cX6_leftByNight 48 = .ok (.invokevirtual 290, 3) := by decide +kernel
theorem dX6_leftByNight_51 : decode cX6_leftByNight 51 = .ok (.ifCond .ne 12, 3) := by decide +kernel
theorem dX6_leftByNight_54 : decode cX6_leftByNight 54 = .ok (.iload_n 3, 1) := by decide +kernel
theorem dX6_leftByNight_55 : decode cX6_leftByNight 55 = .ok (.iconst 1, 1) := by decide +kernel
theorem dX6_leftByNight_56 : decode cX6_leftByNight 56 = .ok (.iload 4, 2) := by decide +kernel
theorem dX6_leftByNight_58 : decode cX6_leftByNight 58 = .ok (.ishl, 1) := by decide +kernel
theorem dX6_leftByNight_59 : decode cX6_leftByNight 59 = .ok (.iconst (-1), 1) := by decide +kernel
theorem dX6_leftByNight_60 : decode cX6_leftByNight 60 = .ok (.ixor, 1) := by decide +kernel
theorem dX6_leftByNight_61 : decode cX6_leftByNight 61 = .ok (.iand, 1) := by decide +kernel
theorem dX6_leftByNight_62 : decode cX6_leftByNight 62 = .ok (.istore_n 3, 1) := by decide +kernel
theorem dX6_leftByNight_63 : decode cX6_leftByNight 63 = .ok (.iinc 4 1, 3) := by decide +kernel
theorem dX6_leftByNight_66 : decode cX6_leftByNight 66 = .ok (.goto (-61), 3) := by decide +kernel
theorem dX6_leftByNight_69 : decode cX6_leftByNight 69 = .ok (.iload_n 3, 1) := by decide +kernel
theorem dX6_leftByNight_70 : decode cX6_leftByNight 70 = .ok (.ireturn, 1) := by decide +kernel
theorem dX6_isSeen_0 : decode cX6_isSeen 0 = .ok (.iconst 0, 1) := by decide +kernel
theorem dX6_isSeen_1 : decode cX6_isSeen 1 = .ok (.istore_n 2, 1) := by decide +kernel
theorem dX6_isSeen_2 : decode cX6_isSeen 2 = .ok (.iload_n 2, 1) := by decide +kernel
theorem dX6_isSeen_3 : decode cX6_isSeen 3 = .ok (.iconst 3, 1) := by decide +kernel
theorem dX6_isSeen_4 : decode cX6_isSeen 4 = .ok (.if_icmp .ge 33, 3) := by decide +kernel
theorem dX6_isSeen_7 : decode cX6_isSeen 7 = .ok (.aload_n 0, 1) := by decide +kernel
theorem dX6_isSeen_8 : decode cX6_isSeen 8 = .ok (.getfield 75, 3) := by decide +kernel
theorem dX6_isSeen_11 : decode cX6_isSeen 11 = .ok (.getfield 254, 3) := by decide +kernel
theorem dX6_isSeen_14 : decode cX6_isSeen 14 = .ok (.iload_n 1, 1) := by decide +kernel
theorem dX6_isSeen_15 : decode cX6_isSeen 15 = .ok (.iconst 3, 1) := by decide +kernel
theorem dX6_isSeen_16 : decode cX6_isSeen 16 = .ok (.imul, 1) := by decide +kernel
theorem dX6_isSeen_17 : decode cX6_isSeen 17 = .ok (.iload_n 2, 1) := by decide +kernel
theorem dX6_isSeen_18 : decode cX6_isSeen 18 = .ok (.iadd, 1) := by decide +kernel
theorem dX6_isSeen_19 : decode cX6_isSeen 19 = .ok (.iaload, 1) := by decide +kernel
theorem dX6_isSeen_20 : decode cX6_isSeen 20 = .ok (.aload_n 0, 1) := by decide +kernel
theorem dX6_isSeen_21 : decode cX6_isSeen 21 = .ok (.getfield 37, 3) := by decide +kernel
theorem dX6_isSeen_24 : decode cX6_isSeen 24 = .ok (.iload_n 2, 1) := by decide +kernel
theorem dX6_isSeen_25 : decode cX6_isSeen 25 = .ok (.iaload, 1) := by decide +kernel
theorem dX6_isSeen_26 : decode cX6_isSeen 26 = .ok (.if_icmp .eq 5, 3) := by decide +kernel
theorem dX6_isSeen_29 : decode cX6_isSeen 29 = .ok (.iconst 0, 1) := by decide +kernel
theorem dX6_isSeen_30 : decode cX6_isSeen 30 = .ok (.ireturn, 1) := by decide +kernel
theorem dX6_isSeen_31 : decode cX6_isSeen 31 = .ok (.iinc 2 1, 3) := by decide +kernel
theorem dX6_isSeen_34 : decode cX6_isSeen 34 = .ok (.goto (-32), 3) := by decide +kernel
theorem dX6_isSeen_37 : decode cX6_isSeen 37 = .ok (.iconst 1, 1) := by decide +kernel
theorem dX6_isSeen_38 : decode cX6_isSeen 38 = .ok (.ireturn, 1) := by decide +kernel
theorem dX6_drawLikes_0 : decode cX6_drawLikes 0 = .ok (.iload_n 1, 1) := by decide +kernel
theorem dX6_drawLikes_1 : decode cX6_drawLikes 1 = .ok (.istore_n 2, 1) := by decide +kernel
theorem dX6_drawLikes_2 : decode cX6_drawLikes 2 = .ok (.iconst 0, 1) := by decide +kernel
theorem dX6_drawLikes_3 : decode cX6_drawLikes 3 = .ok (.istore_n 3, 1) := by decide +kernel
theorem dX6_drawLikes_4 : decode cX6_drawLikes 4 = .ok (.iload_n 3, 1) := by decide +kernel
theorem dX6_drawLikes_5 : decode cX6_drawLikes 5 = .ok (.aload_n 0, 1) := by decide +kernel
theorem dX6_drawLikes_6 : decode cX6_drawLikes 6 = .ok (.getfield 50, 3) := by decide +kernel
theorem dX6_drawLikes_9 : decode cX6_drawLikes 9 = .ok (.getfield 112, 3) := by decide +kernel
theorem dX6_drawLikes_12 : decode cX6_drawLikes 12 = .ok (.if_icmp .ge 79, 3) := by decide +kernel
theorem dX6_drawLikes_15 : decode cX6_drawLikes 15 = .ok (.aload_n 0, 1) := by decide +kernel
theorem dX6_drawLikes_16 : decode cX6_drawLikes 16 = .ok (.getfield 50, 3) := by decide +kernel
theorem dX6_drawLikes_19 : decode cX6_drawLikes 19 = .ok (.iload_n 3, 1) := by decide +kernel
theorem dX6_drawLikes_20 : decode cX6_drawLikes 20 = .ok (.invokevirtual 293, 3) := by decide +kernel
theorem dX6_drawLikes_23 : decode cX6_drawLikes 23 = .ok (.istore 4, 2) := by decide +kernel
theorem dX6_drawLikes_25 : decode cX6_drawLikes 25 = .ok (.aload_n 0, 1) := by decide +kernel
theorem dX6_drawLikes_26 : decode cX6_drawLikes 26 = .ok (.getfield 34, 3) := by decide +kernel
theorem dX6_drawLikes_29 : decode cX6_drawLikes 29 = .ok (.iload_n 3, 1) := by decide +kernel
theorem dX6_drawLikes_30 : decode cX6_drawLikes 30 = .ok (.iconst (-1), 1) := by decide +kernel
theorem dX6_drawLikes_31 : decode cX6_drawLikes 31 = .ok (.iastore, 1) := by decide +kernel
theorem dX6_drawLikes_32 : decode cX6_drawLikes 32 = .ok (.aload_n 0, 1) := by decide +kernel
theorem dX6_drawLikes_33 : decode cX6_drawLikes 33 = .ok (.getfield 50, 3) := by decide +kernel
theorem dX6_drawLikes_36 : decode cX6_drawLikes 36 = .ok (.getfield 145, 3) := by decide +kernel
theorem dX6_drawLikes_39 : decode cX6_drawLikes 39 = .ok (.iload_n 3, 1) := by decide +kernel
theorem dX6_drawLikes_40 : decode cX6_drawLikes 40 = .ok (.iaload, 1) := by decide +kernel
theorem dX6_drawLikes_41 : decode cX6_drawLikes 41 = .ok (.iconst 4, 1) := by decide +kernel
theorem dX6_drawLikes_42 : decode cX6_drawLikes 42 = .ok (.if_icmp .eq 43, 3) := by decide +kernel
theorem dX6_drawLikes_45 : decode cX6_drawLikes 45 = .ok (.iload 4, 2) := by decide +kernel
theorem dX6_drawLikes_47 : decode cX6_drawLikes 47 = .ok (.ifCond .le 38, 3) := by decide +kernel
theorem dX6_drawLikes_50 : decode cX6_drawLikes 50 = .ok (.iload_n 2, 1) := by decide +kernel
theorem dX6_drawLikes_51 : decode cX6_drawLikes 51 = .ok (.ldc_w 296, 3) := by decide +kernel
theorem dX6_drawLikes_54 : decode cX6_drawLikes 54 = .ok (.imul, 1) := by decide +kernel
theorem dX6_drawLikes_55 : decode cX6_drawLikes 55 = .ok (.sipush 12345, 3) := by decide +kernel
theorem dX6_drawLikes_58 : decode cX6_drawLikes 58 = .ok (.iadd, 1) := by decide +kernel
theorem dX6_drawLikes_59 : decode cX6_drawLikes 59 = .ok (.istore_n 2, 1) := by decide +kernel
theorem dX6_drawLikes_60 : decode cX6_drawLikes 60 = .ok (.aload_n 0, 1) := by decide +kernel
theorem dX6_drawLikes_61 : decode cX6_drawLikes 61 = .ok (.getfield 34, 3) := by decide +kernel
theorem dX6_drawLikes_64 : decode cX6_drawLikes 64 = .ok (.iload_n 3, 1) := by decide +kernel
theorem dX6_drawLikes_65 : decode cX6_drawLikes 65 = .ok (.aload_n 0, 1) := by decide +kernel
theorem dX6_drawLikes_66 : decode cX6_drawLikes 66 = .ok (.getfield 50, 3) := by decide +kernel
theorem dX6_drawLikes_69 : decode cX6_drawLikes 69 = .ok (.iload_n 3, 1) := by decide +kernel
theorem dX6_drawLikes_70 : decode cX6_drawLikes 70 = .ok (.iload_n 2, 1) := by decide +kernel
theorem dX6_drawLikes_71 : decode cX6_drawLikes 71 = .ok (.bipush 16, 2) := by decide +kernel
theorem dX6_drawLikes_73 : decode cX6_drawLikes 73 = .ok (.iushr, 1) := by decide +kernel
theorem dX6_drawLikes_74 : decode cX6_drawLikes 74 = .ok (.sipush 32767, 3) := by decide +kernel
theorem dX6_drawLikes_77 : decode cX6_drawLikes 77 = .ok (.iand, 1) := by decide +kernel
theorem dX6_drawLikes_78 : decode cX6_drawLikes 78 = .ok (.iload 4, 2) := by decide +kernel
theorem dX6_drawLikes_80 : decode cX6_drawLikes 80 = .ok (.irem, 1) := by decide +kernel
theorem dX6_drawLikes_81 : decode cX6_drawLikes 81 = .ok (.invokevirtual 297, 3) := by decide +kernel
theorem dX6_drawLikes_84 : decode cX6_drawLikes 84 = .ok (.iastore, 1) := by decide +kernel
theorem dX6_drawLikes_85 : decode cX6_drawLikes 85 = .ok (.iinc 3 1, 3) := by decide +kernel
theorem dX6_drawLikes_88 : decode cX6_drawLikes 88 = .ok (.goto (-84), 3) := by decide +kernel
theorem dX6_drawLikes_91 : decode cX6_drawLikes 91 = .ok (.iload_n 2, 1) := by decide +kernel
theorem dX6_drawLikes_92 : decode cX6_drawLikes 92 = .ok (.ireturn, 1) := by decide +kernel
theorem dX7_init_0 : decode cX7_init 0 = .ok (.aload_n 0, 1) := by decide +kernel
theorem dX7_init_1 : decode cX7_init 1 = .ok (.invokespecial 1, 3) := by decide +kernel
theorem dX7_init_4 : decode cX7_init 4 = .ok (.aload_n 0, 1) := by decide +kernel
theorem dX7_init_5 : decode cX7_init 5 = .ok (.iconst 5, 1) := by decide +kernel
theorem dX7_init_6 : decode cX7_init 6 = .ok (.anewarray 7, 3) := by decide +kernel
theorem dX7_init_9 : decode cX7_init 9 = .ok (.dup, 1) := by decide +kernel
theorem dX7_init_10 : decode cX7_init 10 = .ok (.iconst 0, 1) := by decide +kernel
theorem dX7_init_11 : decode cX7_init 11 = .ok (.ldc 9, 2) := by decide +kernel
theorem dX7_init_13 : decode cX7_init 13 = .ok (.aastore, 1) := by decide +kernel
theorem dX7_init_14 : decode cX7_init 14 = .ok (.dup, 1) := by decide +kernel
theorem dX7_init_15 : decode cX7_init 15 = .ok (.iconst 1, 1) := by decide +kernel
theorem dX7_init_16 : decode cX7_init 16 = .ok (.ldc 11, 2) := by decide +kernel
theorem dX7_init_18 : decode cX7_init 18 = .ok (.aastore, 1) := by decide +kernel
theorem dX7_init_19 : decode cX7_init 19 = .ok (.dup, 1) := by decide +kernel
theorem dX7_init_20 : decode cX7_init 20 = .ok (.iconst 2, 1) := by decide +kernel
theorem dX7_init_21 : decode cX7_init 21 = .ok (.ldc 13, 2) := by decide +kernel
theorem dX7_init_23 : decode cX7_init 23 = .ok (.aastore, 1) := by decide +kernel
theorem dX7_init_24 : decode cX7_init 24 = .ok (.dup, 1) := by decide +kernel
theorem dX7_init_25 : decode cX7_init 25 = .ok (.iconst 3, 1) := by decide +kernel
theorem dX7_init_26 : decode cX7_init 26 = .ok (.ldc 15, 2) := by decide +kernel
theorem dX7_init_28 : decode cX7_init 28 = .ok (.aastore, 1) := by decide +kernel
theorem dX7_init_29 : decode cX7_init 29 = .ok (.dup, 1) := by decide +kernel
theorem dX7_init_30 : decode cX7_init 30 = .ok (.iconst 4, 1) := by decide +kernel
theorem dX7_init_31 : decode cX7_init 31 = .ok (.ldc 17, 2) := by decide +kernel
theorem dX7_init_33 : decode cX7_init 33 = .ok (.aastore, 1) := by decide +kernel
theorem dX7_init_34 : decode cX7_init 34 = .ok (.putfield 19, 3) := by decide +kernel
theorem dX7_init_37 : decode cX7_init 37 = .ok (.aload_n 0, 1) := by decide +kernel
theorem dX7_init_38 : decode cX7_init 38 = .ok (.iconst 4, 1) := by decide +kernel
theorem dX7_init_39 : decode cX7_init 39 = .ok (.anewarray 7, 3) := by decide +kernel
theorem dX7_init_42 : decode cX7_init 42 = .ok (.dup, 1) := by decide +kernel
theorem dX7_init_43 : decode cX7_init 43 = .ok (.iconst 0, 1) := by decide +kernel
theorem dX7_init_44 : decode cX7_init 44 = .ok (.ldc 25, 2) := by decide +kernel
theorem dX7_init_46 : decode cX7_init 46 = .ok (.aastore, 1) := by decide +kernel
theorem dX7_init_47 : decode cX7_init 47 = .ok (.dup, 1) := by decide +kernel
theorem dX7_init_48 : decode cX7_init 48 = .ok (.iconst 1, 1) := by decide +kernel
theorem dX7_init_49 : decode cX7_init 49 = .ok (.ldc 27, 2) := by decide +kernel
theorem dX7_init_51 : decode cX7_init 51 = .ok (.aastore, 1) := by decide +kernel
theorem dX7_init_52 : decode cX7_init 52 = .ok (.dup, 1) := by decide +kernel
theorem dX7_init_53 : decode cX7_init 53 = .ok (.iconst 2, 1) := by decide +kernel
theorem dX7_init_54 : decode cX7_init 54 = .ok (.ldc 29, 2) := by decide +kernel
theorem dX7_init_56 : decode cX7_init 56 = .ok (.aastore, 1) := by decide +kernel
theorem dX7_init_57 : decode cX7_init 57 = .ok (.dup, 1) := by decide +kernel
theorem dX7_init_58 : decode cX7_init 58 = .ok (.iconst 3, 1) := by decide +kernel
theorem dX7_init_59 : decode cX7_init 59 = .ok (.ldc 31, 2) := by decide +kernel
theorem dX7_init_61 : decode cX7_init 61 = .ok (.aastore, 1) := by decide +kernel
theorem dX7_init_62 : decode cX7_init 62 = .ok (.putfield 33, 3) := by decide +kernel
theorem dX7_init_65 : decode cX7_init 65 = .ok (.aload_n 0, 1) := by decide +kernel
theorem dX7_init_66 : decode cX7_init 66 = .ok (.iconst 4, 1) := by decide +kernel
theorem dX7_init_67 : decode cX7_init 67 = .ok (.newarray .int, 2) := by decide +kernel
theorem dX7_init_69 : decode cX7_init 69 = .ok (.dup, 1) := by decide +kernel
theorem dX7_init_70 : decode cX7_init 70 = .ok (.iconst 0, 1) := by decide +kernel
theorem dX7_init_71 : decode cX7_init 71 = .ok (.iconst 1, 1) := by decide +kernel
theorem dX7_init_72 : decode cX7_init 72 = .ok (.iastore, 1) := by decide +kernel
theorem dX7_init_73 : decode cX7_init 73 = .ok (.dup, 1) := by decide +kernel
theorem dX7_init_74 : decode cX7_init 74 = .ok (.iconst 1, 1) := by decide +kernel
theorem dX7_init_75 : decode cX7_init 75 = .ok (.iconst 0, 1) := by decide +kernel
theorem dX7_init_76 : decode cX7_init 76 = .ok (.iastore, 1) := by decide +kernel
theorem dX7_init_77 : decode cX7_init 77 = .ok (.dup, 1) := by decide +kernel
theorem dX7_init_78 : decode cX7_init 78 = .ok (.iconst 2, 1) := by decide +kernel
theorem dX7_init_79 : decode cX7_init 79 = .ok (.iconst 0, 1) := by decide +kernel
theorem dX7_init_80 : decode cX7_init 80 = .ok (.iastore, 1) := by decide +kernel
theorem dX7_init_81 : decode cX7_init 81 = .ok (.dup, 1) := by decide +kernel
theorem dX7_init_82 : decode cX7_init 82 = .ok (.iconst 3, 1) := by decide +kernel
theorem dX7_init_83 : decode cX7_init 83 = .ok (.iconst 1, 1) := by decide +kernel
theorem dX7_init_84 : decode cX7_init 84 = .ok (.iastore, 1) := by decide +kernel
theorem dX7_init_85 : decode cX7_init 85 = .ok (.putfield 36, 3) := by decide +kernel
theorem dX7_init_88 : decode cX7_init 88 = .ok (.aload_n 0, 1) := by decide +kernel
theorem dX7_init_89 : decode cX7_init 89 = .ok (.iconst 4, 1) := by decide +kernel
theorem dX7_init_90 : decode cX7_init 90 = .ok (.newarray .int, 2) := by decide +kernel
theorem dX7_init_92 : decode cX7_init 92 = .ok (.dup, 1) := by decide +kernel
theorem dX7_init_93 : decode cX7_init 93 = .ok (.iconst 0, 1) := by decide +kernel
theorem dX7_init_94 : decode cX7_init 94 = .ok (.bipush 9, 2) := by decide +kernel
theorem dX7_init_96 : decode cX7_init 96 = .ok (.iastore, 1) := by decide +kernel
theorem dX7_init_97 : decode cX7_init 97 = .ok (.dup, 1) := by decide +kernel
theorem dX7_init_98 : decode cX7_init 98 = .ok (.iconst 1, 1) := by decide +kernel
theorem dX7_init_99 : decode cX7_init 99 = .ok (.bipush 9, 2) := by decide +kernel
theorem dX7_init_101 : decode cX7_init 101 = .ok (.iastore, 1) := by decide +kernel
theorem dX7_init_102 : decode cX7_init 102 = .ok (.dup, 1) := by decide +kernel
theorem dX7_init_103 : decode cX7_init 103 = .ok (.iconst 2, 1) := by decide +kernel
theorem dX7_init_104 : decode cX7_init 104 = .ok (.bipush 9, 2) := by decide +kernel
theorem dX7_init_106 : decode cX7_init 106 = .ok (.iastore, 1) := by decide +kernel
theorem dX7_init_107 : decode cX7_init 107 = .ok (.dup, 1) := by decide +kernel
theorem dX7_init_108 : decode cX7_init 108 = .ok (.iconst 3, 1) := by decide +kernel
theorem dX7_init_109 : decode cX7_init 109 = .ok (.bipush 99, 2) := by decide +kernel
theorem dX7_init_111 : decode cX7_init 111 = .ok (.iastore, 1) := by decide +kernel
theorem dX7_init_112 : decode cX7_init 112 = .ok (.putfield 40, 3) := by decide +kernel
theorem dX7_init_115 : decode cX7_init 115 = .ok (.aload_n 0, 1) := by decide +kernel
theorem dX7_init_116 : decode cX7_init 116 = .ok (.bipush 14, 2) := by decide +kernel
theorem dX7_init_118 : decode cX7_init 118 = .ok (.newarray .int, 2) := by decide +kernel
theorem dX7_init_120 : decode cX7_init 120 = .ok (.dup, 1) := by decide +kernel
theorem dX7_init_121 : decode cX7_init 121 = .ok (.iconst 0, 1) := by decide +kernel
theorem dX7_init_122 : decode cX7_init 122 = .ok (.bipush 12, 2) := by decide +kernel
theorem dX7_init_124 : decode cX7_init 124 = .ok (.iastore, 1) := by decide +kernel
theorem dX7_init_125 : decode cX7_init 125 = .ok (.dup, 1) := by decide +kernel
theorem dX7_init_126 : decode cX7_init 126 = .ok (.iconst 1, 1) := by decide +kernel
theorem dX7_init_127 : decode cX7_init 127 = .ok (.iconst 0, 1) := by decide +kernel
theorem dX7_init_128 : decode cX7_init 128 = .ok (.iastore, 1) := by decide +kernel
theorem dX7_init_129 : decode cX7_init 129 = .ok (.dup, 1) := by decide +kernel
theorem dX7_init_130 : decode cX7_init 130 = .ok (.iconst 2, 1) := by decide +kernel
theorem dX7_init_131 : decode cX7_init 131 = .ok (.iconst 1, 1) := by decide +kernel
theorem dX7_init_132 : decode cX7_init 132 = .ok (.iastore, 1) := by decide +kernel
theorem dX7_init_133 : decode cX7_init 133 = .ok (.dup, 1) := by decide +kernel
theorem dX7_init_134 : decode cX7_init 134 = .ok (.iconst 3, 1) := by decide +kernel
theorem dX7_init_135 : decode cX7_init 135 = .ok (.iconst 0, 1) := by decide +kernel
theorem dX7_init_136 : decode cX7_init 136 = .ok (.iastore, 1) := by decide +kernel
theorem dX7_init_137 : decode cX7_init 137 = .ok (.dup, 1) := by decide +kernel
theorem dX7_init_138 : decode cX7_init 138 = .ok (.iconst 4, 1) := by decide +kernel
theorem dX7_init_139 : decode cX7_init 139 = .ok (.iconst 0, 1) := by decide +kernel
theorem dX7_init_140 : decode cX7_init 140 = .ok (.iastore, 1) := by decide +kernel
theorem dX7_init_141 : decode cX7_init 141 = .ok (.dup, 1) := by decide +kernel
theorem dX7_init_142 : decode cX7_init 142 = .ok (.iconst 5, 1) := by decide +kernel
theorem dX7_init_143 : decode cX7_init 143 = .ok (.bipush 40, 2) := by decide +kernel
theorem dX7_init_145 : decode cX7_init 145 = .ok (.iastore, 1) := by decide +kernel
theorem dX7_init_146 : decode cX7_init 146 = .ok (.dup, 1) := by decide +kernel
theorem dX7_init_147 : decode cX7_init 147 = .ok (.bipush 6, 2) := by decide +kernel
theorem dX7_init_149 : decode cX7_init 149 = .ok (.iconst 0, 1) := by decide +kernel
theorem dX7_init_150 : decode cX7_init 150 = .ok (.iastore, 1) := by decide +kernel
theorem dX7_init_151 : decode cX7_init 151 = .ok (.dup, 1) := by decide +kernel
theorem dX7_init_152 : decode cX7_init 152 = .ok (.bipush 7, 2) := by decide +kernel
theorem dX7_init_154 : decode cX7_init 154 = .ok (.bipush 12, 2) := by decide +kernel
theorem dX7_init_156 : decode cX7_init 156 = .ok (.iastore, 1) := by decide +kernel
theorem dX7_init_157 : decode cX7_init 157 = .ok (.dup, 1) := by decide +kernel
theorem dX7_init_158 : decode cX7_init 158 = .ok (.bipush 8, 2) := by decide +kernel
theorem dX7_init_160 : decode cX7_init 160 = .ok (.iconst 0, 1) := by decide +kernel
theorem dX7_init_161 : decode cX7_init 161 = .ok (.iastore, 1) := by decide +kernel
theorem dX7_init_162 : decode cX7_init 162 = .ok (.dup, 1) := by decide +kernel
theorem dX7_init_163 : decode cX7_init 163 = .ok (.bipush 9, 2) := by decide +kernel
theorem dX7_init_165 : decode cX7_init 165 = .ok (.iconst 1, 1) := by decide +kernel
theorem dX7_init_166 : decode cX7_init 166 = .ok (.iastore, 1) := by decide +kernel
theorem dX7_init_167 : decode cX7_init 167 = .ok (.dup, 1) := by decide +kernel
theorem dX7_init_168 : decode cX7_init 168 = .ok (.bipush 10, 2) := by decide +kernel
theorem dX7_init_170 : decode cX7_init 170 = .ok (.iconst 0, 1) := by decide +kernel
theorem dX7_init_171 : decode cX7_init 171 = .ok (.iastore, 1) := by decide +kernel
theorem dX7_init_172 : decode cX7_init 172 = .ok (.dup, 1) := by decide +kernel
theorem dX7_init_173 : decode cX7_init 173 = .ok (.bipush 11, 2) := by decide +kernel
theorem dX7_init_175 : decode cX7_init 175 = .ok (.iconst 0, 1) := by decide +kernel
theorem dX7_init_176 : decode cX7_init 176 = .ok (.iastore, 1) := by decide +kernel
theorem dX7_init_177 : decode cX7_init 177 = .ok (.dup, 1) := by decide +kernel
theorem dX7_init_178 : decode cX7_init 178 = .ok (.bipush 12, 2) := by decide +kernel
theorem dX7_init_180 : decode cX7_init 180 = .ok (.bipush 40, 2) := by decide +kernel
theorem dX7_init_182 : decode cX7_init 182 = .ok (.iastore, 1) := by decide +kernel
theorem dX7_init_183 : decode cX7_init 183 = .ok (.dup, 1) := by decide +kernel
theorem dX7_init_184 : decode cX7_init 184 = .ok (.bipush 13, 2) := by decide +kernel
theorem dX7_init_186 : decode cX7_init 186 = .ok (.iconst 0, 1) := by decide +kernel
theorem dX7_init_187 : decode cX7_init 187 = .ok (.iastore, 1) := by decide +kernel
theorem dX7_init_188 : decode cX7_init 188 = .ok (.putfield 43, 3) := by decide +kernel
theorem dX7_init_191 : decode cX7_init 191 = .ok (.aload_n 0, 1) := by decide +kernel
theorem dX7_init_192 : decode cX7_init 192 = .ok (.bipush 12, 2) := by decide +kernel
theorem dX7_init_194 : decode cX7_init 194 = .ok (.newarray .int, 2) := by decide +kernel
theorem dX7_init_196 : decode cX7_init 196 = .ok (.putfield 46, 3) := by decide +kernel
theorem dX7_init_199 : decode cX7_init 199 = .ok (.aload_n 0, 1) := by decide +kernel
theorem dX7_init_200 : decode cX7_init 200 = .ok (.bipush 12, 2) := by decide +kernel
theorem dX7_init_202 : decode cX7_init 202 = .ok (.newarray .int, 2) := by decide +kernel
theorem dX7_init_204 : decode cX7_init 204 = .ok (.putfield 49, 3) := by decide +kernel
theorem dX7_init_207 : decode cX7_init 207 = .ok (.aload_n 0, 1) := by decide +kernel
theorem dX7_init_208 : decode cX7_init 208 = .ok (.bipush 36, 2) := by decide +kernel
theorem dX7_init_210 : decode cX7_init 210 = .ok (.newarray .int, 2) := by decide +kernel
theorem dX7_init_212 : decode cX7_init 212 = .ok (.putfield 52, 3) := by decide +kernel
theorem dX7_init_215 : decode cX7_init 215 = .ok (.aload_n 0, 1) := by decide +kernel
theorem dX7_init_216 : decode cX7_init 216 = .ok (.bipush 12, 2) := by decide +kernel
theorem dX7_init_218 : decode cX7_init 218 = .ok (.newarray .int, 2) := by decide +kernel
theorem dX7_init_220 : decode cX7_init 220 = .ok (.putfield 55, 3) := by decide +kernel
theorem dX7_init_223 : decode cX7_init 223 = .ok (.aload_n 0, 1) := by decide +kernel
theorem dX7_init_224 : decode cX7_init 224 = .ok (.bipush 20, 2) := by decide +kernel
theorem dX7_init_226 : decode cX7_init 226 = .ok (.newarray .int, 2) := by decide +kernel
theorem dX7_init_228 : decode cX7_init 228 = .ok (.putfield 58, 3) := by decide +kernel
theorem dX7_init_231 : decode cX7_init 231 = .ok (.aload_n 0, 1) := by decide +kernel
theorem dX7_init_232 : decode cX7_init 232 = .ok (.bipush 20, 2) := by decide +kernel
theorem dX7_init_234 : decode cX7_init 234 = .ok (.newarray .int, 2) := by decide +kernel
theorem dX7_init_236 : decode cX7_init 236 = .ok (.putfield 61, 3) := by decide +kernel
theorem dX7_init_239 : decode cX7_init 239 = .ok (.aload_n 0, 1) := by decide +kernel
theorem dX7_init_240 : decode cX7_init 240 = .ok (.bipush 20, 2) := by decide +kernel
theorem dX7_init_242 : decode cX7_init 242 = .ok (.newarray .int, 2) := by decide +kernel
theorem dX7_init_244 : decode cX7_init 244 = .ok (.putfield 64, 3) := by decide +kernel
theorem dX7_init_247 : decode cX7_init 247 = .ok (.aload_n 0, 1) := by decide +kernel
theorem dX7_init_248 : decode cX7_init 248 = .ok (.iconst 3, 1) := by decide +kernel
theorem dX7_init_249 : decode cX7_init 249 = .ok (.newarray .int, 2) := by decide +kernel
theorem dX7_init_251 : decode cX7_init 251 = .ok (.putfield 67, 3) := by decide +kernel
theorem dX7_init_254 : decode cX7_init 254 = .ok (.aload_n 0, 1) := by decide +kernel
theorem dX7_init_255 : decode cX7_init 255 = .ok (.sipush 500, 3) := by decide +kernel
theorem dX7_init_258 : decode cX7_init 258 = .ok (.newarray .int, 2) := by decide +kernel
theorem dX7_init_260 : decode cX7_init 260 = .ok (.putfield 70, 3) := by decide +kernel
theorem dX7_init_263 : decode cX7_init 263 = .ok (.aload_n 0, 1) := by decide +kernel
theorem dX7_init_264 : decode cX7_init 264 = .ok (.iconst (-1), 1) := by decide +kernel
theorem dX7_init_265 : decode cX7_init 265 = .ok (.putfield 73, 3) := by decide +kernel
theorem dX7_init_268 : decode cX7_init 268 = .ok (.aload_n 0, 1) := by decide +kernel
theorem dX7_init_269 : decode cX7_init 269 = .ok (.bipush 30, 2) := by decide +kernel
theorem dX7_init_271 : decode cX7_init 271 = .ok (.newarray .int, 2) := by decide +kernel
theorem dX7_init_273 : decode cX7_init 273 = .ok (.putfield 77, 3) := by decide +kernel
theorem dX7_init_276 : decode cX7_init 276 = .ok (.aload_n 0, 1) := by decide +kernel
theorem dX7_init_277 : decode cX7_init 277 = .ok (.bipush 30, 2) := by decide +kernel
theorem dX7_init_279 : decode cX7_init 279 = .ok (.newarray .int, 2) := by decide +kernel
theorem dX7_init_281 : decode cX7_init 281 = .ok (.putfield 80, 3) := by decide +kernel
theorem dX7_init_284 : decode cX7_init 284 = .ok (.aload_n 0, 1) := by decide +kernel
theorem dX7_init_285 : decode cX7_init 285 = .ok (.bipush 30, 2) := by decide +kernel
theorem dX7_init_287 : decode cX7_init 287 = .ok (.newarray .int, 2) := by decide +kernel
theorem dX7_init_289 : decode cX7_init 289 = .ok (.putfield 83, 3) := by decide +kernel
theorem dX7_init_292 : decode cX7_init 292 = .ok (.aload_n 0, 1) := by decide +kernel
theorem dX7_init_293 : decode cX7_init 293 = .ok (.bipush 6, 2) := by decide +kernel
theorem dX7_init_295 : decode cX7_init 295 = .ok (.newarray .int, 2) := by decide +kernel
theorem dX7_init_297 : decode cX7_init 297 = .ok (.putfield 86, 3) := by decide +kernel
theorem dX7_init_300 : decode cX7_init 300 = .ok (.aload_n 0, 1) := by decide +kernel
theorem dX7_init_301 : decode cX7_init 301 = .ok (.iconst 3, 1) := by decide +kernel
theorem dX7_init_302 : decode cX7_init 302 = .ok (.newarray .int, 2) := by decide +kernel
theorem dX7_init_304 : decode cX7_init 304 = .ok (.putfield 89, 3) := by decide +kernel
theorem dX7_init_307 : decode cX7_init 307 = .ok (.aload_n 0, 1) := by decide +kernel
theorem dX7_init_308 : decode cX7_init 308 = .ok (.sipush 1800, 3) := by decide +kernel
theorem dX7_init_311 : decode cX7_init 311 = .ok (.newarray .int, 2) := by decide +kernel
theorem dX7_init_313 : decode cX7_init 313 = .ok (.putfield 92, 3) := by decide +kernel
theorem dX7_init_316 : decode cX7_init 316 = .ok (.aload_n 0, 1) := by decide +kernel
theorem dX7_init_317 : decode cX7_init 317 = .ok (.sipush 1800, 3) := by decide +kernel
theorem dX7_init_320 : decode cX7_init 320 = .ok (.newarray .int, 2) := by decide +kernel
theorem dX7_init_322 : decode cX7_init 322 = .ok (.putfield 95, 3) := by decide +kernel
theorem dX7_init_325 : decode cX7_init 325 = .ok (.aload_n 0, 1) := by decide +kernel
theorem dX7_init_326 : decode cX7_init 326 = .ok (.bipush 100, 2) := by decide +kernel
theorem dX7_init_328 : decode cX7_init 328 = .ok (.newarray .int, 2) := by decide +kernel
theorem dX7_init_330 : decode cX7_init 330 = .ok (.putfield 98, 3) := by decide +kernel
theorem dX7_init_333 : decode cX7_init 333 = .ok (.aload_n 0, 1) := by decide +kernel
theorem dX7_init_334 : decode cX7_init 334 = .ok (.sipush 18018, 3) := by decide +kernel
theorem dX7_init_337 : decode cX7_init 337 = .ok (.newarray .int, 2) := by decide +kernel
theorem dX7_init_339 : decode cX7_init 339 = .ok (.putfield 101, 3) := by decide +kernel
theorem dX7_init_342 : decode cX7_init 342 = .ok (.aload_n 0, 1) := by decide +kernel
theorem dX7_init_343 : decode cX7_init 343 = .ok (.sipush 1001, 3) := by decide +kernel
theorem dX7_init_346 : decode cX7_init 346 = .ok (.newarray .int, 2) := by decide +kernel
theorem dX7_init_348 : decode cX7_init 348 = .ok (.putfield 104, 3) := by decide +kernel
theorem dX7_init_351 : decode cX7_init 351 = .ok (.aload_n 0, 1) := by decide +kernel
theorem dX7_init_352 : decode cX7_init 352 = .ok (.iconst 3, 1) := by decide +kernel
theorem dX7_init_353 : decode cX7_init 353 = .ok (.newarray .int, 2) := by decide +kernel
theorem dX7_init_355 : decode cX7_init 355 = .ok (.putfield 107, 3) := by decide +kernel
theorem dX7_init_358 : decode cX7_init 358 = .ok (.aload_n 0, 1) := by decide +kernel
theorem dX7_init_359 : decode cX7_init 359 = .ok (.sipush 2187, 3) := by decide +kernel
theorem dX7_init_362 : decode cX7_init 362 = .ok (.newarray .int, 2) := by decide +kernel
theorem dX7_init_364 : decode cX7_init 364 = .ok (.putfield 110, 3) := by decide +kernel
theorem dX7_init_367 : decode cX7_init 367 = .ok (.aload_n 0, 1) := by decide +kernel
theorem dX7_init_368 : decode cX7_init 368 = .ok (.bipush 30, 2) := by decide +kernel
theorem dX7_init_370 : decode cX7_init 370 = .ok (.newarray .int, 2) := by decide +kernel
theorem dX7_init_372 : decode cX7_init 372 = .ok (.putfield 113, 3) := by decide +kernel
theorem dX7_init_375 : decode cX7_init 375 = .ok (.aload_n 0, 1) := by decide +kernel
theorem dX7_init_376 : decode cX7_init 376 = .ok (.bipush 30, 2) := by decide +kernel
theorem dX7_init_378 : decode cX7_init 378 = .ok (.newarray .int, 2) := by decide +kernel
theorem dX7_init_380 : decode cX7_init 380 = .ok (.putfield 116, 3) := by decide +kernel
theorem dX7_init_383 : decode cX7_init 383 = .ok (.aload_n 0, 1) := by decide +kernel
theorem dX7_init_384 : decode cX7_init 384 = .ok (.sipush 1800, 3) := by decide +kernel
theorem dX7_init_387 : decode cX7_init 387 = .ok (.newarray .int, 2) := by decide +kernel
theorem dX7_init_389 : decode cX7_init 389 = .ok (.putfield 119, 3) := by decide +kernel
theorem dX7_init_392 : decode cX7_init 392 = .ok (.aload_n 0, 1) := by decide +kernel
theorem dX7_init_393 : decode cX7_init 393 = .ok (.sipush 1800, 3) := by decide +kernel
theorem dX7_init_396 : decode cX7_init 396 = .ok (.newarray .int, 2) := by decide +kernel
theorem dX7_init_398 : decode cX7_init 398 = .ok (.putfield 122, 3) := by decide +kernel
theorem dX7_init_401 : decode cX7_init 401 = .ok (.aload_n 0, 1) := by decide +kernel
theorem dX7_init_402 : decode cX7_init 402 = .ok (.bipush 100, 2) := by decide +kernel
theorem dX7_init_404 : decode cX7_init 404 = .ok (.newarray .int, 2) := by decide +kernel
theorem dX7_init_406 : decode cX7_init 406 = .ok (.putfield 125, 3) := by decide +kernel
theorem dX7_init_409 : decode cX7_init 409 = .ok (.aload_n 0, 1) := by decide +kernel
theorem dX7_init_410 : decode cX7_init 410 = .ok (.iconst 3, 1) := by decide +kernel
theorem dX7_init_411 : decode cX7_init 411 = .ok (.newarray .int, 2) := by decide +kernel
theorem dX7_init_413 : decode cX7_init 413 = .ok (.putfield 128, 3) := by decide +kernel
theorem dX7_init_416 : decode cX7_init 416 = .ok (.return_, 1) := by decide +kernel
theorem dX7_thrown_0 : decode cX7_thrown 0 = .ok (.aload_n 0, 1) := by decide +kernel
theorem dX7_thrown_1 : decode cX7_thrown 1 = .ok (.getfield 131, 3) := by decide +kernel
theorem dX7_thrown_4 : decode cX7_thrown 4 = .ok (.ireturn, 1) := by decide +kernel
theorem dX7_fail_0 : decode cX7_fail 0 = .ok (.aload_n 0, 1) := by decide +kernel
theorem dX7_fail_1 : decode cX7_fail 1 = .ok (.iload_n 1, 1) := by decide +kernel
theorem dX7_fail_2 : decode cX7_fail 2 = .ok (.putfield 131, 3) := by decide +kernel
theorem dX7_fail_5 : decode cX7_fail 5 = .ok (.iconst 0, 1) := by decide +kernel
theorem dX7_fail_6 : decode cX7_fail 6 = .ok (.ireturn, 1) := by decide +kernel
theorem dX7_isIn_0 : decode cX7_isIn 0 = .ok (.iload_n 0, 1) := by decide +kernel
theorem dX7_isIn_1 : decode cX7_isIn 1 = .ok (.iload_n 1, 1) := by decide +kernel
theorem dX7_isIn_2 : decode cX7_isIn 2 = .ok (.if_icmp .lt 12, 3) := by decide +kernel
theorem dX7_isIn_5 : decode cX7_isIn 5 = .ok (.iload_n 0, 1) := by decide +kernel
theorem dX7_isIn_6 : decode cX7_isIn 6 = .ok (.iload_n 2, 1) := by decide +kernel
theorem dX7_isIn_7 : decode cX7_isIn 7 = .ok (.if_icmp .gt 7, 3) := by decide +kernel
theorem dX7_isIn_10 : decode cX7_isIn 10 = .ok (.iconst 1, 1) := by decide +kernel
theorem dX7_isIn_11 : decode cX7_isIn 11 = .ok (.goto 4, 3) := by decide +kernel
theorem dX7_isIn_14 : decode cX7_isIn 14 = .ok (.iconst 0, 1) := by decide +kernel
theorem dX7_isIn_15 : decode cX7_isIn 15 = .ok (.ireturn, 1) := by decide +kernel
theorem dX7_isLamp_0 : decode cX7_isLamp 0 = .ok (.iload_n 1, 1) := by decide +kernel
theorem dX7_isLamp_1 : decode cX7_isLamp 1 = .ok (.iconst 0, 1) := by decide +kernel
theorem dX7_isLamp_2 : decode cX7_isLamp 2 = .ok (.aload_n 0, 1) := by decide +kernel
theorem dX7_isLamp_3 : decode cX7_isLamp 3 = .ok (.getfield 43, 3) := by decide +kernel
theorem dX7_isLamp_6 : decode cX7_isLamp 6 = .ok (.iconst 1, 1) := by decide +kernel
theorem dX7_isLamp_7 : decode cX7_isLamp 7 = .ok (.iaload, 1) := by decide +kernel
theorem dX7_isLamp_8 : decode cX7_isLamp 8 = .ok (.iconst 1, 1) := by decide +kernel
theorem dX7_isLamp_9 : decode cX7_isLamp 9 = .ok (.isub, 1) := by decide +kernel
theorem dX7_isLamp_10 : decode cX7_isLamp 10 = .ok (.invokestatic 134, 3) := by decide +kernel
theorem dX7_isLamp_13 : decode cX7_isLamp 13 = .ok (.ireturn, 1) := by decide +kernel
theorem dX7_feed_0 : decode cX7_feed 0 = .ok (.aload_n 0, 1) := by decide +kernel
theorem dX7_feed_1 : decode cX7_feed 1 = .ok (.iconst 0, 1) := by decide +kernel
theorem dX7_feed_2 : decode cX7_feed 2 = .ok (.putfield 131, 3) := by decide +kernel
theorem dX7_feed_5 : decode cX7_feed 5 = .ok (.aload_n 0, 1) := by decide +kernel
theorem dX7_feed_6 : decode cX7_feed 6 = .ok (.getfield 138, 3) := by decide +kernel
theorem dX7_feed_9 : decode cX7_feed 9 = .ok (.bipush 20, 2) := by decide +kernel
theorem dX7_feed_11 : decode cX7_feed 11 = .ok (.iadd, 1) := by decide +kernel
theorem dX7_feed_12 : decode cX7_feed 12 = .ok (.sipush 500, 3) := by decide +kernel
theorem dX7_feed_15 : decode cX7_feed 15 = .ok (.if_icmp .le 5, 3) := by decide +kernel
theorem dX7_feed_18 : decode cX7_feed 18 = .ok (.iconst (-1), 1) := by decide +kernel
theorem dX7_feed_19 : decode cX7_feed 19 = .ok (.ireturn, 1) := by decide +kernel
theorem dX7_feed_20 : decode cX7_feed 20 = .ok (.iconst 0, 1) := by decide +kernel
theorem dX7_feed_21 : decode cX7_feed 21 = .ok (.istore 6, 2) := by decide +kernel
theorem dX7_feed_23 : decode cX7_feed 23 = .ok (.iload 6, 2) := by decide +kernel
theorem dX7_feed_25 : decode cX7_feed 25 = .ok (.bipush 20, 2) := by decide +kernel
theorem dX7_feed_27 : decode cX7_feed 27 = .ok (.if_icmp .ge 93, 3) := by decide +kernel
theorem dX7_feed_30 : decode cX7_feed 30 = .ok (.iload 6, 2) := by decide +kernel
theorem dX7_feed_32 : decode cX7_feed 32 = .ok (.iconst 4, 1) := by decide +kernel
theorem dX7_feed_33 : decode cX7_feed 33 = .ok (.if_icmp .ge 7, 3) := by decide +kernel
theorem dX7_feed_36 : decode cX7_feed 36 = .ok (.iload_n 1, 1) := by decide +kernel
theorem dX7_feed_37 : decode cX7_feed 37 = .ok (.goto 39, 3) := by decide +kernel
theorem dX7_feed_40 : decode cX7_feed 40 = .ok (.iload 6, 2) := by decide +kernel
theorem dX7_feed_42 : decode cX7_feed 42 = .ok (.bipush 8, 2) := by decide +kernel
theorem dX7_feed_44 : decode cX7_feed 44 = .ok (.if_icmp .ge 7, 3) := by decide +kernel
theorem dX7_feed_47 : decode cX7_feed 47 = .ok (.iload_n 2, 1) := by decide +kernel
theorem dX7_feed_48 : decode cX7_feed 48 = .ok (.goto 28, 3) := by decide +kernel
theorem dX7_feed_51 : decode cX7_feed 51 = .ok (.iload 6, 2) := by decide +kernel
theorem dX7_feed_53 : decode cX7_feed 53 = .ok (.bipush 12, 2) := by decide +kernel
theorem dX7_feed_55 : decode cX7_feed 55 = .ok (.if_icmp .ge 7, 3) := by decide +kernel
theorem dX7_feed_58 : decode cX7_feed 58 = .ok (.iload_n 3, 1) := by decide +kernel
theorem dX7_feed_59 : decode cX7_feed 59 = .ok (.goto 17, 3) := by decide +kernel
theorem dX7_feed_62 : decode cX7_feed 62 = .ok (.iload 6, 2) := by decide +kernel
theorem dX7_feed_64 : decode cX7_feed 64 = .ok (.bipush 16, 2) := by decide +kernel
theorem dX7_feed_66 : decode cX7_feed 66 = .ok (.if_icmp .ge 8, 3) := by decide +kernel
theorem dX7_feed_69 : decode cX7_feed 69 = .ok (.iload 4, 2) := by decide +kernel
theorem dX7_feed_71 : decode cX7_feed 71 = .ok (.goto 5, 3) := by decide +kernel
theorem dX7_feed_74 : decode cX7_feed 74 = .ok (.iload 5, 2) := by decide +kernel
theorem dX7_feed_76 : decode cX7_feed 76 = .ok (.istore 7, 2) := by decide +kernel
theorem dX7_feed_78 : decode cX7_feed 78 = .ok (.aload_n 0, 1) := by decide +kernel
theorem dX7_feed_79 : decode cX7_feed 79 = .ok (.getfield 70, 3) := by decide +kernel
theorem dX7_feed_82 : decode cX7_feed 82 = .ok (.aload_n 0, 1) := by decide +kernel
theorem dX7_feed_83 : decode cX7_feed 83 = .ok (.getfield 138, 3) := by decide +kernel
theorem dX7_feed_86 : decode cX7_feed 86 = .ok (.iload 7, 2) := by decide +kernel
theorem dX7_feed_88 : decode cX7_feed 88 = .ok (.bipush 24, 2) := by decide +kernel
theorem dX7_feed_90 : decode cX7_feed 90 = .ok (.bipush 8, 2) := by decide +kernel
theorem dX7_feed_92 : decode cX7_feed 92 = .ok (.iload 6, 2) := by decide +kernel
theorem dX7_feed_94 : decode cX7_feed 94 = .ok (.iconst 4, 1) := by decide +kernel
theorem dX7_feed_95 : decode cX7_feed 95 = .ok (.irem, 1) := by decide +kernel
theorem dX7_feed_96 : decode cX7_feed 96 = .ok (.imul, 1) := by decide +kernel
theorem dX7_feed_97 : decode cX7_feed 97 = .ok (.isub, 1) := by decide +kernel
theorem dX7_feed_98 : decode cX7_feed 98 = .ok (.ishr, 1) := by decide +kernel
theorem dX7_feed_99 : decode cX7_feed 99 = .ok (.sipush 255, 3) := by decide +kernel
theorem dX7_feed_102 : decode cX7_feed 102 = .ok (.iand, 1) := by decide +kernel
theorem dX7_feed_103 : decode cX7_feed 103 = .ok (.iastore, 1) := by decide +kernel
theorem dX7_feed_104 : decode cX7_feed 104 = .ok (.aload_n 0, 1) := by decide +kernel
theorem dX7_feed_105 : decode cX7_feed 105 = .ok (.dup, 1) := by decide +kernel
theorem dX7_feed_106 : decode cX7_feed 106 = .ok (.getfield 138, 3) := by decide +kernel
theorem dX7_feed_109 : decode cX7_feed 109 = .ok (.iconst 1, 1) := by decide +kernel
theorem dX7_feed_110 : decode cX7_feed 110 = .ok (.iadd, 1) := by decide +kernel
theorem dX7_feed_111 : decode cX7_feed 111 = .ok (.putfield 138, 3) := by decide +kernel
theorem dX7_feed_114 : decode cX7_feed 114 = .ok (.iinc 6 1, 3) := by decide +kernel
theorem dX7_feed_117 : decode cX7_feed 117 = .ok (.goto (-94), 3) := by decide +kernel
theorem dX7_feed_120 : decode cX7_feed 120 = .ok (.aload_n 0, 1) := by decide +kernel
theorem dX7_feed_121 : decode cX7_feed 121 = .ok (.getfield 138, 3) := by decide +kernel
theorem dX7_feed_124 : decode cX7_feed 124 = .ok (.ireturn, 1) := by decide +kernel
theorem dX7_byteAt_0 : decode cX7_byteAt 0 = .ok (.iload_n 1, 1) := by decide +kernel
theorem dX7_byteAt_1 : decode cX7_byteAt 1 = .ok (.aload_n 0, 1) := by decide +kernel
theorem dX7_byteAt_2 : decode cX7_byteAt 2 = .ok (.getfield 141, 3) := by decide +kernel
theorem dX7_byteAt_5 : decode cX7_byteAt 5 = .ok (.if_icmp .ge 12, 3) := by decide +kernel
theorem dX7_byteAt_8 : decode cX7_byteAt 8 = .ok (.aload_n 0, 1) := by decide +kernel
theorem dX7_byteAt_9 : decode cX7_byteAt 9 = .ok (.getfield 70, 3) := by decide +kernel
theorem dX7_byteAt_12 : decode cX7_byteAt 12 = .ok (.iload_n 1, 1) := by decide +kernel
theorem dX7_byteAt_13 : decode cX7_byteAt 13 = .ok (.iaload, 1) := by decide +kernel
theorem dX7_byteAt_14 : decode cX7_byteAt 14 = .ok (.goto 4, 3) := by decide +kernel
theorem dX7_byteAt_17 : decode cX7_byteAt 17 = .ok (.iconst (-1), 1) := by decide +kernel
theorem dX7_byteAt_18 : decode cX7_byteAt 18 = .ok (.ireturn, 1) := by decide +kernel
theorem dX7_isLetter_0 : decode cX7_isLetter 0 = .ok (.iload_n 0, 1) := by decide +kernel
theorem dX7_isLetter_1 : decode cX7_isLetter 1 = .ok (.bipush 97, 2) := by decide +kernel
theorem dX7_isLetter_3 : decode cX7_isLetter 3 = .ok (.if_icmp .lt 13, 3) := by decide +kernel
theorem dX7_isLetter_6 : decode cX7_isLetter 6 = .ok (.iload_n 0, 1) := by decide +kernel
theorem dX7_isLetter_7 : decode cX7_isLetter 7 = .ok (.bipush 122, 2) := by decide +kernel
theorem dX7_isLetter_9 : decode cX7_isLetter 9 = .ok (.if_icmp .gt 7, 3) := by decide +kernel
theorem dX7_isLetter_12 : decode cX7_isLetter 12 = .ok (.iconst 1, 1) := by decide +kernel
theorem dX7_isLetter_13 : decode cX7_isLetter 13 = .ok (.goto 4, 3) := by decide +kernel
theorem dX7_isLetter_16 : decode cX7_isLetter 16 = .ok (.iconst 0, 1) := by decide +kernel
theorem dX7_isLetter_17 : decode cX7_isLetter 17 = .ok (.ireturn, 1) := by decide +kernel
theorem dX7_isDigit_0 : decode cX7_isDigit 0 = .ok (.iload_n 0, 1) := by decide +kernel
theorem dX7_isDigit_1 : decode cX7_isDigit 1 = .ok (.bipush 48, 2) := by decide +kernel
theorem dX7_isDigit_3 : decode cX7_isDigit 3 = .ok (.if_icmp .lt 13, 3) := by decide +kernel
theorem dX7_isDigit_6 : decode cX7_isDigit 6 = .ok (.iload_n 0, 1) := by decide +kernel
theorem dX7_isDigit_7 : decode cX7_isDigit 7 = .ok (.bipush 57, 2) := by decide +kernel
theorem dX7_isDigit_9 : decode cX7_isDigit 9 = .ok (.if_icmp .gt 7, 3) := by decide +kernel
theorem dX7_isDigit_12 : decode cX7_isDigit 12 = .ok (.iconst 1, 1) := by decide +kernel
theorem dX7_isDigit_13 : decode cX7_isDigit 13 = .ok (.goto 4, 3) := by decide +kernel
theorem dX7_isDigit_16 : decode cX7_isDigit 16 = .ok (.iconst 0, 1) := by decide +kernel
theorem dX7_isDigit_17 : decode cX7_isDigit 17 = .ok (.ireturn, 1) := by decide +kernel
theorem dX7_stepOn_0 : decode cX7_stepOn 0 = .ok (.aload_n 0, 1) := by decide +kernel
theorem dX7_stepOn_1 : decode cX7_stepOn 1 = .ok (.aload_n 0, 1) := by decide +kernel
theorem dX7_stepOn_2 : decode cX7_stepOn 2 = .ok (.getfield 144, 3) := by decide +kernel
theorem dX7_stepOn_5 : decode cX7_stepOn 5 = .ok (.invokevirtual 147, 3) := by decide +kernel
theorem dX7_stepOn_8 : decode cX7_stepOn 8 = .ok (.bipush 32, 2) := by decide +kernel
theorem dX7_stepOn_10 : decode cX7_stepOn 10 = .ok (.if_icmp .eq 16, 3) := by decide +kernel
theorem dX7_stepOn_13 : decode cX7_stepOn 13 = .ok (.aload_n 0, 1) := by decide +kernel
theorem dX7_stepOn_14 : decode cX7_stepOn 14 = .ok (.aload_n 0, 1) := by decide +kernel
theorem dX7_stepOn_15 : decode cX7_stepOn 15 = .ok (.getfield 144, 3) := by decide +kernel
theorem dX7_stepOn_18 : decode cX7_stepOn 18 = .ok (.invokevirtual 147, 3) := by decide +kernel
theorem dX7_stepOn_21 : decode cX7_stepOn 21 = .ok (.bipush 10, 2) := by decide +kernel
theorem dX7_stepOn_23 : decode cX7_stepOn 23 = .ok (.if_icmp .ne 16, 3) := by decide +kernel
theorem dX7_stepOn_26 : decode cX7_stepOn 26 = .ok (.aload_n 0, 1) := by decide +kernel
theorem dX7_stepOn_27 : decode cX7_stepOn 27 = .ok (.dup, 1) := by decide +kernel
theorem dX7_stepOn_28 : decode cX7_stepOn 28 = .ok (.getfield 144, 3) := by decide +kernel
theorem dX7_stepOn_31 : decode cX7_stepOn 31 = .ok (.iconst 1, 1) := by decide +kernel
theorem dX7_stepOn_32 : decode cX7_stepOn 32 = .ok (.iadd, 1) := by decide +kernel
theorem dX7_stepOn_33 : decode cX7_stepOn 33 = .ok (.putfield 144, 3) := by decide +kernel
theorem dX7_stepOn_36 : decode cX7_stepOn 36 = .ok (.goto (-36), 3) := by decide +kernel
theorem dX7_stepOn_39 : decode cX7_stepOn 39 = .ok (.aload_n 0, 1) := by decide +kernel
theorem dX7_stepOn_40 : decode cX7_stepOn 40 = .ok (.aload_n 0, 1) := by decide +kernel
theorem dX7_stepOn_41 : decode cX7_stepOn 41 = .ok (.getfield 144, 3) := by decide +kernel
theorem dX7_stepOn_44 : decode cX7_stepOn 44 = .ok (.putfield 151, 3) := by decide +kernel
theorem dX7_stepOn_47 : decode cX7_stepOn 47 = .ok (.aload_n 0, 1) := by decide +kernel
theorem dX7_stepOn_48 : decode cX7_stepOn 48 = .ok (.aload_n 0, 1) := by decide +kernel
theorem dX7_stepOn_49 : decode cX7_stepOn 49 = .ok (.getfield 144, 3) := by decide +kernel
theorem dX7_stepOn_52 : decode cX7_stepOn 52 = .ok (.invokevirtual 147, 3) := by decide +kernel
theorem dX7_stepOn_55 : decode cX7_stepOn 55 = .ok (.istore_n 1, 1) := by decide +kernel
theorem dX7_stepOn_56 : decode cX7_stepOn 56 = .ok (.iload_n 1, 1) := by decide +kernel
theorem dX7_stepOn_57 : decode cX7_stepOn 57 = .ok (.iconst (-1), 1) := by decide +kernel
theorem dX7_stepOn_58 : decode cX7_stepOn 58 = .ok (.if_icmp .ne 11, 3) := by decide +kernel
theorem dX7_stepOn_61 : decode cX7_stepOn 61 = .ok (.aload_n 0, 1) := by decide +kernel
theorem dX7_stepOn_62 : decode cX7_stepOn 62 = .ok (.iconst 0, 1) := by decide +kernel
theorem dX7_stepOn_63 : decode cX7_stepOn 63 = .ok (.putfield 154, 3) := by decide +kernel
theorem dX7_stepOn_66 : decode cX7_stepOn 66 = .ok (.goto 146, 3) := by decide +kernel
theorem dX7_stepOn_69 : decode cX7_stepOn 69 = .ok (.iload_n 1, 1) := by decide +kernel
theorem dX7_stepOn_70 : decode cX7_stepOn 70 = .ok (.invokestatic 157, 3) := by decide +kernel
theorem dX7_stepOn_73 : decode cX7_stepOn 73 = .ok (.ifCond .eq 38, 3) := by decide +kernel
theorem dX7_stepOn_76 : decode cX7_stepOn 76 = .ok (.aload_n 0, 1) := by decide +kernel
theorem dX7_stepOn_77 : decode cX7_stepOn 77 = .ok (.aload_n 0, 1) := by decide +kernel
theorem dX7_stepOn_78 : decode cX7_stepOn 78 = .ok (.getfield 144, 3) := by decide +kernel
theorem dX7_stepOn_81 : decode cX7_stepOn 81 = .ok (.invokevirtual 147, 3) := by decide +kernel
theorem dX7_stepOn_84 : decode cX7_stepOn 84 = .ok (.invokestatic 157, 3) := by decide +kernel
theorem dX7_stepOn_87 : decode cX7_stepOn 87 = .ok (.ifCond .eq 16, 3) := by decide +kernel
theorem dX7_stepOn_90 : decode cX7_stepOn 90 = .ok (.aload_n 0, 1) := by decide +kernel
theorem dX7_stepOn_91 : decode cX7_stepOn 91 = .ok (.dup, 1) := by decide +kernel
theorem dX7_stepOn_92 : decode cX7_stepOn 92 = .ok (.getfield 144, 3) := by decide +kernel
theorem dX7_stepOn_95 : decode cX7_stepOn 95 = .ok (.iconst 1, 1) := by decide +kernel
theorem dX7_stepOn_96 : decode cX7_stepOn 96 = .ok (.iadd, 1) := by decide +kernel
theorem dX7_stepOn_97 : decode cX7_stepOn 97 = .ok (.putfield 144, 3) := by decide +kernel
theorem dX7_stepOn_100 : decode cX7_stepOn 100 = .ok (.goto (-24), 3) := by decide +kernel
theorem dX7_stepOn_103 : decode cX7_stepOn 103 = .ok (.aload_n 0, 1) := by decide +kernel
theorem dX7_stepOn_104 : decode cX7_stepOn 104 = .ok (.iconst 1, 1) := by decide +kernel
theorem dX7_stepOn_105 : decode cX7_stepOn 105 = .ok (.putfield 154, 3) := by decide +kernel
theorem dX7_stepOn_108 : decode cX7_stepOn 108 = .ok (.goto 104, 3) := by decide +kernel
theorem dX7_stepOn_111 : decode cX7_stepOn 111 = .ok (.iload_n 1, 1) := by decide +kernel
theorem dX7_stepOn_112 : decode cX7_stepOn 112 = .ok (.invokestatic 161, 3) := by decide +kernel
theorem dX7_stepOn_115 : decode cX7_stepOn 115 = .ok (.ifCond .eq 72, 3) := by decide +kernel
theorem dX7_stepOn_118 : decode cX7_stepOn 118 = .ok (.aload_n 0, 1) := by decide +kernel
theorem dX7_stepOn_119 : decode cX7_stepOn 119 = .ok (.iconst 0, 1) := by decide +kernel
theorem dX7_stepOn_120 : decode cX7_stepOn 120 = .ok (.putfield 164, 3) := by decide +kernel
theorem dX7_stepOn_123 : decode cX7_stepOn 123 = .ok (.aload_n 0, 1) := by decide +kernel
theorem dX7_stepOn_124 : decode cX7_stepOn 124 = .ok (.aload_n 0, 1) := by decide +kernel
theorem dX7_stepOn_125 : decode cX7_stepOn 125 = .ok (.getfield 144, 3) := by decide +kernel
theorem dX7_stepOn_128 : decode cX7_stepOn 128 = .ok (.invokevirtual 147, 3) := by decide +kernel
theorem dX7_stepOn_131 : decode cX7_stepOn 131 = .ok (.invokestatic 161, 3) := by decide +kernel
theorem dX7_stepOn_134 : decode cX7_stepOn 134 = .ok (.ifCond .eq 45, 3) := by decide +kernel
theorem dX7_stepOn_137 : decode cX7_stepOn 137 = .ok (.aload_n 0, 1) := by decide +kernel
theorem dX7_stepOn_138 : decode cX7_stepOn 138 = .ok (.sipush 10000, 3) := by decide +kernel
theorem dX7_stepOn_141 : decode cX7_stepOn 141 = .ok (.bipush 10, 2) := by decide +kernel
theorem dX7_stepOn_143 : decode cX7_stepOn 143 = .ok (.aload_n 0, 1) := by decide +kernel
theorem dX7_stepOn_144 : decode cX7_stepOn 144 = .ok (.getfield 164, 3) := by decide +kernel
theorem dX7_stepOn_147 : decode cX7_stepOn 147 = .ok (.imul, 1) := by decide +kernel
theorem dX7_stepOn_148 : decode cX7_stepOn 148 = .ok (.aload_n 0, 1) := by decide +kernel
theorem dX7_stepOn_149 : decode cX7_stepOn 149 = .ok (.aload_n 0, 1) := by decide +kernel
theorem dX7_stepOn_150 : decode cX7_stepOn 150 = .ok (.getfield 144, 3) := by decide +kernel
theorem dX7_stepOn_153 : decode cX7_stepOn 153 = .ok (.invokevirtual 147, 3) := by decide +kernel
theorem dX7_stepOn_156 : decode cX7_stepOn 156 = .ok (.iadd, 1) := by decide +kernel
theorem dX7_stepOn_157 : decode cX7_stepOn 157 = .ok (.bipush 48, 2) := by decide +kernel
theorem dX7_stepOn_159 : decode cX7_stepOn 159 = .ok (.isub, 1) := by decide +kernel
theorem dX7_stepOn_160 : decode cX7_stepOn 160 = .ok (.invokestatic 167, 3) := by decide +kernel
theorem dX7_stepOn_163 : decode cX7_stepOn 163 = .ok (.putfield 164, 3) := by decide +kernel
theorem dX7_stepOn_166 : decode cX7_stepOn 166 = .ok (.aload_n 0, 1) := by decide +kernel
theorem dX7_stepOn_167 : decode cX7_stepOn 167 = .ok (.dup, 1) := by decide +kernel
theorem dX7_stepOn_168 : decode cX7_stepOn 168 = .ok (.getfield 144, 3) := by decide +kernel
theorem dX7_stepOn_171 : decode cX7_stepOn 171 = .ok (.iconst 1, 1) := by decide +kernel
theorem dX7_stepOn_172 : decode cX7_stepOn 172 = .ok (.iadd, 1) := by decide +kernel
theorem dX7_stepOn_173 : decode cX7_stepOn 173 = .ok (.putfield 144, 3) := by decide +kernel
theorem dX7_stepOn_176 : decode cX7_stepOn 176 = .ok (.goto (-53), 3) := by decide +kernel
theorem dX7_stepOn_179 : decode cX7_stepOn 179 = .ok (.aload_n 0, 1) := by decide +kernel
theorem dX7_stepOn_180 : decode cX7_stepOn 180 = .ok (.iconst 2, 1) := by decide +kernel
theorem dX7_stepOn_181 : decode cX7_stepOn 181 = .ok (.putfield 154, 3) := by decide +kernel
theorem dX7_stepOn_184 : decode cX7_stepOn 184 = .ok (.goto 28, 3) := by decide +kernel
theorem dX7_stepOn_187 : decode cX7_stepOn 187 = .ok (.aload_n 0, 1) := by decide +kernel
theorem dX7_stepOn_188 : decode cX7_stepOn 188 = .ok (.dup, 1) := by decide +kernel
theorem dX7_stepOn_189 : decode cX7_stepOn 189 = .ok (.getfield 144, 3) := by decide +kernel
theorem dX7_stepOn_192 : decode cX7_stepOn 192 = .ok (.iconst 1, 1) := by decide +kernel
theorem dX7_stepOn_193 : decode cX7_stepOn 193 = .ok (.iadd, 1) := by decide +kernel
theorem dX7_stepOn_194 : decode cX7_stepOn 194 = .ok (.putfield 144, 3) := by decide +kernel
theorem dX7_stepOn_197 : decode cX7_stepOn 197 = .ok (.aload_n 0, 1) := by decide +kernel
theorem dX7_stepOn_198 : decode cX7_stepOn 198 = .ok (.iload_n 1, 1) := by decide +kernel
theorem dX7_stepOn_199 : decode cX7_stepOn 199 = .ok (.bipush 59, 2) := by decide +kernel
theorem dX7_stepOn_201 : decode cX7_stepOn 201 = .ok (.if_icmp .ne 7, 3) := by decide +kernel
theorem dX7_stepOn_204 : decode cX7_stepOn 204 = .ok (.iconst 3, 1) := by decide +kernel
theorem dX7_stepOn_205 : decode cX7_stepOn 205 = .ok (.goto 4, 3) := by decide +kernel
theorem dX7_stepOn_208 : decode cX7_stepOn 208 = .ok (.iconst 4, 1) := by decide +kernel
theorem dX7_stepOn_209 : decode cX7_stepOn 209 = .ok (.putfield 154, 3) := by decide +kernel
theorem dX7_stepOn_212 : decode cX7_stepOn 212 = .ok (.aload_n 0, 1) := by decide +kernel
theorem dX7_stepOn_213 : decode cX7_stepOn 213 = .ok (.aload_n 0, 1) := by decide +kernel
theorem dX7_stepOn_214 : decode cX7_stepOn 214 = .ok (.getfield 144, 3) := by decide +kernel
theorem dX7_stepOn_217 : decode cX7_stepOn 217 = .ok (.putfield 173, 3) := by decide +kernel
theorem dX7_stepOn_220 : decode cX7_stepOn 220 = .ok (.return_, 1) := by decide +kernel
theorem dX7_wrong_0 : decode cX7_wrong 0 = .ok (.aload_n 0, 1) := by decide +kernel
theorem dX7_wrong_1 : decode cX7_wrong 1 = .ok (.getfield 176, 3) := by decide +kernel
theorem dX7_wrong_4 : decode cX7_wrong 4 = .ok (.ifCond .eq 4, 3) := by decide +kernel
theorem dX7_wrong_7 : decode cX7_wrong 7 = .ok (.return_, 1) := by decide +kernel
theorem dX7_wrong_8 : decode cX7_wrong 8 = .ok (.aload_n 0, 1) := by decide +kernel
theorem dX7_wrong_9 : decode cX7_wrong 9 = .ok (.iload_n 1, 1) := by decide +kernel
theorem dX7_wrong_10 : decode cX7_wrong 10 = .ok (.putfield 176, 3) := by decide +kernel
theorem dX7_wrong_13 : decode cX7_wrong 13 = .ok (.aload_n 0, 1) := by decide +kernel
theorem dX7_wrong_14 : decode cX7_wrong 14 = .ok (.aload_n 0, 1) := by decide +kernel
theorem dX7_wrong_15 : decode cX7_wrong 15 = .ok (.getfield 151, 3) := by decide +kernel
theorem dX7_wrong_18 : decode cX7_wrong 18 = .ok (.putfield 179, 3) := by decide +kernel
theorem dX7_wrong_21 : decode cX7_wrong 21 = .ok (.return_, 1) := by decide +kernel
theorem dX7_is_0 : decode cX7_is 0 = .ok (.aload_n 0, 1) := by decide +kernel
theorem dX7_is_1 : decode cX7_is 1 = .ok (.getfield 176, 3) := by decide +kernel
theorem dX7_is_4 : decode cX7_is 4 = .ok (.ifCond .ne 31, 3) := by decide +kernel
theorem dX7_is_7 : decode cX7_is 7 = .ok (.aload_n 0, 1) := by decide +kernel
theorem dX7_is_8 : decode cX7_is 8 = .ok (.getfield 154, 3) := by decide +kernel
theorem dX7_is_11 : decode cX7_is 11 = .ok (.iconst 1, 1) := by decide +kernel
theorem dX7_is_12 : decode cX7_is 12 = .ok (.if_icmp .ne 23, 3) := by decide +kernel
theorem dX7_is_15 : decode cX7_is 15 = .ok (.aload_n 1, 1) := by decide +kernel
theorem dX7_is_16 : decode cX7_is 16 = .ok (.invokevirtual 182, 3) := by decide +kernel
theorem dX7_is_19 : decode cX7_is 19 = .ok (.aload_n 0, 1) := by decide +kernel
theorem dX7_is_20 : decode cX7_is 20 = .ok (.getfield 173, 3) := by decide +kernel
theorem dX7_is_23 : decode cX7_is 23 = .ok (.aload_n 0, 1) := by decide +kernel
theorem dX7_is_24 : decode cX7_is 24 = .ok (.getfield 151, 3) := by decide +kernel
theorem dX7_is_27 : decode cX7_is 27 = .ok (.isub, 1) := by decide +kernel
theorem dX7_is_28 : decode cX7_is 28 = .ok (.if_icmp .ne 7, 3) := by decide +kernel
theorem dX7_is_31 : decode cX7_is 31 = .ok (.iconst 1, 1) := by decide +kernel
theorem dX7_is_32 : decode cX7_is 32 = .ok (.goto 4, 3) := by decide +kernel
theorem dX7_is_35 : decode cX7_is 35 = .ok (.iconst 0, 1) := by decide +kernel
theorem dX7_is_36 : decode cX7_is 36 = .ok (.istore_n 2, 1) := by decide +kernel
theorem dX7_is_37 : decode cX7_is 37 = .ok (.iconst 0, 1) := by decide +kernel
theorem dX7_is_38 : decode cX7_is 38 = .ok (.istore_n 3, 1) := by decide +kernel
theorem dX7_is_39 : decode cX7_is 39 = .ok (.iload_n 2, 1) := by decide +kernel
theorem dX7_is_40 : decode cX7_is 40 = .ok (.ifCond .eq 42, 3) := by decide +kernel
theorem dX7_is_43 : decode cX7_is 43 = .ok (.iload_n 3, 1) := by decide +kernel
theorem dX7_is_44 : decode cX7_is 44 = .ok (.aload_n 1, 1) := by decide +kernel
theorem dX7_is_45 : decode cX7_is 45 = .ok (.invokevirtual 182, 3) := by decide +kernel
theorem dX7_is_48 : decode cX7_is 48 = .ok (.if_icmp .ge 34, 3) := by decide +kernel
theorem dX7_is_51 : decode cX7_is 51 = .ok (.aload_n 1, 1) := by decide +kernel
theorem dX7_is_52 : decode cX7_is 52 = .ok (.iload_n 3, 1) := by decide +kernel
theorem dX7_is_53 : decode cX7_is 53 = .ok (.invokevirtual 186, 3) := by decide +kernel
theorem dX7_is_56 : decode cX7_is 56 = .ok (.aload_n 0, 1) := by decide +kernel
theorem dX7_is_57 : decode cX7_is 57 = .ok (.getfield 70, 3) := by decide +kernel
theorem dX7_is_60 : decode cX7_is 60 = .ok (.aload_n 0, 1) := by decide +kernel
theorem dX7_is_61 : decode cX7_is 61 = .ok (.getfield 151, 3) := by decide +kernel
theorem dX7_is_64 : decode cX7_is 64 = .ok (.iload_n 3, 1) := by decide +kernel
theorem dX7_is_65 : decode cX7_is 65 = .ok (.iadd, 1) := by decide +kernel
theorem dX7_is_66 : decode cX7_is 66 = .ok (.iaload, 1) := by decide +kernel
theorem dX7_is_67 : decode cX7_is 67 = .ok (.if_icmp .ne 7, 3) := by decide +kernel
theorem dX7_is_70 : decode cX7_is 70 = .ok (.iconst 1, 1) := by decide +kernel
theorem dX7_is_71 : decode cX7_is 71 = .ok (.goto 4, 3) := by decide +kernel
theorem dX7_is_74 : decode cX7_is 74 = .ok (.iconst 0, 1) := by decide +kernel
theorem dX7_is_75 : decode cX7_is 75 = .ok (.istore_n 2, 1) := by decide +kernel
theorem dX7_is_76 : decode cX7_is 76 = .ok (.iinc 3 1, 3) := by decide +kernel
theorem dX7_is_79 : decode cX7_is 79 = .ok (.goto (-40), 3) := by decide +kernel
theorem dX7_is_82 : decode cX7_is 82 = .ok (.iload_n 2, 1) := by decide +kernel
theorem dX7_is_83 : decode cX7_is 83 = .ok (.ireturn, 1) := by decide +kernel
theorem dX7_which_0 : decode cX7_which 0 = .ok (.iconst 0, 1) := by decide +kernel
theorem dX7_which_1 : decode cX7_which 1 = .ok (.istore_n 2, 1) := by decide +kernel
theorem dX7_which_2 : decode cX7_which 2 = .ok (.iload_n 2, 1) := by decide +kernel
theorem dX7_which_3 : decode cX7_which 3 = .ok (.aload_n 1, 1) := by decide +kernel
theorem dX7_which_4 : decode cX7_which 4 = .ok (.arraylength, 1) := by decide +kernel
theorem dX7_which_5 : decode cX7_which 5 = .ok (.if_icmp .ge 21, 3) := by decide +kernel
theorem dX7_which_8 : decode cX7_which 8 = .ok (.aload_n 0, 1) := by decide +kernel
theorem dX7_which_9 : decode cX7_which 9 = .ok (.aload_n 1, 1) := by decide +kernel
theorem dX7_which_10 : decode cX7_which 10 = .ok (.iload_n 2, 1) := by decide +kernel
theorem dX7_which_11 : decode cX7_which 11 = .ok (.aaload, 1) := by decide +kernel
theorem dX7_which_12 : decode cX7_which 12 = .ok (.invokevirtual 190, 3) := by decide +kernel
theorem dX7_which_15 : decode cX7_which 15 = .ok (.ifCond .eq 5, 3) := by decide +kernel
theorem dX7_which_18 : decode cX7_which 18 = .ok (.iload_n 2, 1) := by decide +kernel
theorem dX7_which_19 : decode cX7_which 19 = .ok (.ireturn, 1) := by decide +kernel
theorem dX7_which_20 : decode cX7_which 20 = .ok (.iinc 2 1, 3) := by decide +kernel
theorem dX7_which_23 : decode cX7_which 23 = .ok (.goto (-21), 3) := by decide +kernel
theorem dX7_which_26 : decode cX7_which 26 = .ok (.iconst (-1), 1) := by decide +kernel
theorem dX7_which_27 : decode cX7_which 27 = .ok (.ireturn, 1) := by decide +kernel
theorem dX7_numberNow_0 : decode cX7_numberNow 0 = .ok (.aload_n 0, 1) := by decide +kernel
theorem dX7_numberNow_1 : decode cX7_numberNow 1 = .ok (.getfield 176, 3) := by decide +kernel
theorem dX7_numberNow_4 : decode cX7_numberNow 4 = .ok (.ifCond .eq 5, 3) := by decide +kernel
theorem dX7_numberNow_7 : decode cX7_numberNow 7 = .ok (.iconst 0, 1) := by decide +kernel
theorem dX7_numberNow_8 : decode cX7_numberNow 8 = .ok (.ireturn, 1) := by decide +kernel
theorem dX7_numberNow_9 : decode cX7_numberNow 9 = .ok (.aload_n 0, 1) := by decide +kernel
theorem dX7_numberNow_10 : decode cX7_numberNow 10 = .ok (.getfield 154, 3) := by decide +kernel
theorem dX7_numberNow_13 : decode cX7_numberNow 13 = .ok (.iconst 2, 1) := by decide +kernel
theorem dX7_numberNow_14 : decode cX7_numberNow 14 = .ok (.if_icmp .eq 11, 3) := by decide +kernel
theorem dX7_numberNow_17 : decode cX7_numberNow 17 = .ok (.aload_n 0, 1) := by decide +kernel
theorem dX7_numberNow_18 : decode cX7_numberNow 18 = .ok (.iconst 1, 1) := by decide +kernel
theorem dX7_numberNow_19 : decode cX7_numberNow 19 = .ok (.invokevirtual 194, 3) := by decide +kernel
theorem dX7_numberNow_22 : decode cX7_numberNow 22 = .ok (.goto 37, 3) := by decide +kernel
theorem dX7_numberNow_25 : decode cX7_numberNow 25 = .ok (.aload_n 0, 1) := by decide +kernel
theorem dX7_numberNow_26 : decode cX7_numberNow 26 = .ok (.getfield 173, 3) := by decide +kernel
theorem dX7_numberNow_29 : decode cX7_numberNow 29 = .ok (.aload_n 0, 1) := by decide +kernel
theorem dX7_numberNow_30 : decode cX7_numberNow 30 = .ok (.getfield 151, 3) := by decide +kernel
theorem dX7_numberNow_33 : decode cX7_numberNow 33 = .ok (.isub, 1) := by decide +kernel
theorem dX7_numberNow_34 : decode cX7_numberNow 34 = .ok (.iconst 3, 1) := by decide +kernel
theorem dX7_numberNow_35 : decode cX7_numberNow 35 = .ok (.if_icmp .gt 19, 3) := by decide +kernel
theorem dX7_numberNow_38 : decode cX7_numberNow 38 = .ok (.aload_n 0, 1) := by decide +kernel
theorem dX7_numberNow_39 : decode cX7_numberNow 39 = .ok (.getfield 164, 3) := by decide +kernel
theorem dX7_numberNow_42 : decode cX7_numberNow 42 = .ok (.iload_n 1, 1) := by decide +kernel
theorem dX7_numberNow_43 : decode cX7_numberNow 43 = .ok (.if_icmp .lt 11, 3) := by decide +kernel
theorem dX7_numberNow_46 : decode cX7_numberNow 46 = .ok (.aload_n 0, 1) := by decide +kernel
theorem dX7_numberNow_47 : decode cX7_numberNow 47 = .ok (.getfield 164, 3) := by decide +kernel
theorem dX7_numberNow_50 : decode cX7_numberNow 50 = .ok (.iload_n 2, 1) := by decide +kernel
theorem dX7_numberNow_51 : decode cX7_numberNow 51 = .ok (.if_icmp .le 8, 3) := by decide +kernel
theorem dX7_numberNow_54 : decode cX7_numberNow 54 = .ok (.aload_n 0, 1) := by decide +kernel
theorem dX7_numberNow_55 : decode cX7_numberNow 55 = .ok (.iconst 2, 1) := by decide +kernel
theorem dX7_numberNow_56 : decode cX7_numberNow 56 = .ok (.invokevirtual 194, 3) := by decide +kernel
theorem dX7_numberNow_59 : decode cX7_numberNow 59 = .ok (.aload_n 0, 1) := by decide +kernel
theorem dX7_numberNow_60 : decode cX7_numberNow 60 = .ok (.getfield 176, 3) := by decide +kernel
theorem dX7_numberNow_63 : decode cX7_numberNow 63 = .ok (.ifCond .ne 10, 3) := by decide +kernel
theorem dX7_numberNow_66 : decode cX7_numberNow 66 = .ok (.aload_n 0, 1) := by decide +kernel
theorem dX7_numberNow_67 : decode cX7_numberNow 67 = .ok (.getfield 164, 3) := by decide +kernel
theorem dX7_numberNow_70 : decode cX7_numberNow 70 = .ok (.goto 4, 3) := by decide +kernel
theorem dX7_numberNow_73 : decode cX7_numberNow 73 = .ok (.iconst 0, 1) := by decide +kernel
theorem dX7_numberNow_74 : decode cX7_numberNow 74 = .ok (.ireturn, 1) := by decide +kernel
theorem dX7_readNumber_0 : decode cX7_readNumber 0 = .ok (.aload_n 0, 1) := by decide +kernel
theorem dX7_readNumber_1 : decode cX7_readNumber 1 = .ok (.iload_n 1, 1) := by decide +kernel
theorem dX7_readNumber_2 : decode cX7_readNumber 2 = .ok (.iload_n 2, 1) := by decide +kernel
theorem dX7_readNumber_3 : decode cX7_readNumber 3 = .ok (.invokevirtual 198, 3) := by decide +kernel
theorem dX7_readNumber_6 : decode cX7_readNumber 6 = .ok (.istore_n 3, 1) := by decide +kernel
theorem dX7_readNumber_7 : decode cX7_readNumber 7 = .ok (.aload_n 0, 1) := by decide +kernel
theorem dX7_readNumber_8 : decode cX7_readNumber 8 = .ok (.getfield 176, 3) := by decide +kernel
theorem dX7_readNumber_11 : decode cX7_readNumber 11 = .ok (.ifCond .ne 7, 3) := by decide +kernel
theorem dX7_readNumber_14 : decode cX7_readNumber 14 = .ok (.aload_n 0, 1) := by decide +kernel
theorem dX7_readNumber_15 : decode cX7_readNumber 15 = .ok (.invokevirtual 201, 3) := by decide +kernel
theorem dX7_readNumber_18 : decode cX7_readNumber 18 = .ok (.iload_n 3, 1) := by decide +kernel
theorem dX7_readNumber_19 : decode cX7_readNumber 19 = .ok (.ireturn, 1) := by decide +kernel
theorem dX7_lampNow_0 : decode cX7_lampNow 0 = .ok (.aload_n 0, 1) := by decide +kernel
theorem dX7_lampNow_1 : decode cX7_lampNow 1 = .ok (.iconst 0, 1) := by decide +kernel
theorem dX7_lampNow_2 : decode cX7_lampNow 2 = .ok (.sipush 999, 3) := by decide +kernel
theorem dX7_lampNow_5 : decode cX7_lampNow 5 = .ok (.invokevirtual 198, 3) := by decide +kernel
theorem dX7_lampNow_8 : decode cX7_lampNow 8 = .ok (.istore_n 1, 1) := by decide +kernel
theorem dX7_lampNow_9 : decode cX7_lampNow 9 = .ok (.aload_n 0, 1) := by decide +kernel
theorem dX7_lampNow_10 : decode cX7_lampNow 10 = .ok (.getfield 176, 3) := by decide +kernel
theorem dX7_lampNow_13 : decode cX7_lampNow 13 = .ok (.ifCond .ne 19, 3) := by decide +kernel
theorem dX7_lampNow_16 : decode cX7_lampNow 16 = .ok (.iload_n 1, 1) := by decide +kernel
theorem dX7_lampNow_17 : decode cX7_lampNow 17 = .ok (.aload_n 0, 1) := by decide +kernel
theorem dX7_lampNow_18 : decode cX7_lampNow 18 = .ok (.getfield 43, 3) := by decide +kernel
theorem dX7_lampNow_21 : decode cX7_lampNow 21 = .ok (.bipush 8, 2) := by decide +kernel
theorem dX7_lampNow_23 : decode cX7_lampNow 23 = .ok (.iaload, 1) := by decide +kernel
theorem dX7_lampNow_24 : decode cX7_lampNow 24 = .ok (.if_icmp .lt 8, 3) := by decide +kernel
theorem dX7_lampNow_27 : decode cX7_lampNow 27 = .ok (.aload_n 0, 1) := by decide +kernel
theorem dX7_lampNow_28 : decode cX7_lampNow 28 = .ok (.iconst 3, 1) := by decide +kernel
theorem dX7_lampNow_29 : decode cX7_lampNow 29 = .ok (.invokevirtual 194, 3) := by decide +kernel
theorem dX7_lampNow_32 : decode cX7_lampNow 32 = .ok (.aload_n 0, 1) := by decide +kernel
theorem dX7_lampNow_33 : decode cX7_lampNow 33 = .ok (.getfield 176, 3) := by decide +kernel
theorem dX7_lampNow_36 : decode cX7_lampNow 36 = .ok (.ifCond .ne 7, 3) := by decide +kernel
theorem dX7_lampNow_39 : decode cX7_lampNow 39 = .ok (.iload_n 1, 1) := by decide +kernel
theorem dX7_lampNow_40 : decode cX7_lampNow 40 = .ok (.goto 4, 3) := by decide +kernel
theorem dX7_lampNow_43 : decode cX7_lampNow 43 = .ok (.iconst 0, 1) := by decide +kernel
theorem dX7_lampNow_44 : decode cX7_lampNow 44 = .ok (.ireturn, 1) := by decide +kernel
theorem dX7_readLamp_0 : decode cX7_readLamp 0 = .ok (.aload_n 0, 1) := by decide +kernel
theorem dX7_readLamp_1 : decode cX7_readLamp 1 = .ok (.invokevirtual 204, 3) := by decide +kernel
theorem dX7_readLamp_4 : decode cX7_readLamp 4 = .ok (.istore_n 1, 1) := by decide +kernel
theorem dX7_readLamp_5 : decode cX7_readLamp 5 = .ok (.aload_n 0, 1) := by decide +kernel
theorem dX7_readLamp_6 : decode cX7_readLamp 6 = .ok (.getfield 176, 3) := by decide +kernel
theorem dX7_readLamp_9 : decode cX7_readLamp 9 = .ok (.ifCond .ne 7, 3) := by decide +kernel
