theorem dX0_init_0 : decode cX0_init 0 = .ok (.aload_n 0, 1) := by decide +kernel
theorem dX0_init_1 : decode cX0_init 1 = .ok (.invokespecial 3, 3) := by decide +kernel
theorem dX0_init_4 : decode cX0_init 4 = .ok (.aload_n 0, 1) := by decide +kernel
theorem dX0_init_5 : decode cX0_init 5 = .ok (.iconst 3, 1) := by decide +kernel
theorem dX0_init_6 : decode cX0_init 6 = .ok (.newarray .int, 2) := by decide +kernel
theorem dX0_init_8 : decode cX0_init 8 = .ok (.putfield 11, 3) := by decide +kernel
theorem dX0_init_11 : decode cX0_init 11 = .ok (.aload_n 0, 1) := by decide +kernel
theorem dX0_init_12 : decode cX0_init 12 = .ok (.iconst 3, 1) := by decide +kernel
theorem dX0_init_13 : decode cX0_init 13 = .ok (.newarray .int, 2) := by decide +kernel
theorem dX0_init_15 : decode cX0_init 15 = .ok (.putfield 15, 3) := by decide +kernel
theorem dX0_init_18 : decode cX0_init 18 = .ok (.aload_n 0, 1) := by decide +kernel
theorem dX0_init_19 : decode cX0_init 19 = .ok (.sipush 1029, 3) := by decide +kernel
theorem dX0_init_22 : decode cX0_init 22 = .ok (.newarray .int, 2) := by decide +kernel
theorem dX0_init_24 : decode cX0_init 24 = .ok (.putfield 18, 3) := by decide +kernel
theorem dX0_init_27 : decode cX0_init 27 = .ok (.return_, 1) := by decide +kernel
theorem dX0_hear_0 : decode cX0_hear 0 = .ok (.aload_n 0, 1) := by decide +kernel
theorem dX0_hear_1 : decode cX0_hear 1 = .ok (.iload 4, 2) := by decide +kernel
theorem dX0_hear_3 : decode cX0_hear 3 = .ok (.invokevirtual 21, 3) := by decide +kernel
theorem dX0_hear_6 : decode cX0_hear 6 = .ok (.iconst 0, 1) := by decide +kernel
theorem dX0_hear_7 : decode cX0_hear 7 = .ok (.istore 5, 2) := by decide +kernel
theorem dX0_hear_9 : decode cX0_hear 9 = .ok (.iload 5, 2) := by decide +kernel
theorem dX0_hear_11 : decode cX0_hear 11 = .ok (.aload_n 0, 1) := by decide +kernel
theorem dX0_hear_12 : decode cX0_hear 12 = .ok (.getfield 25, 3) := by decide +kernel
theorem dX0_hear_15 : decode cX0_hear 15 = .ok (.if_icmp .ge 104, 3) := by decide +kernel
theorem dX0_hear_18 : decode cX0_hear 18 = .ok (.aload_n 3, 1) := by decide +kernel
theorem dX0_hear_19 : decode cX0_hear 19 = .ok (.aload_n 2, 1) := by decide +kernel
theorem dX0_hear_20 : decode cX0_hear 20 = .ok (.invokevirtual 29, 3) := by decide +kernel
theorem dX0_hear_23 : decode cX0_hear 23 = .ok (.aload_n 0, 1) := by decide +kernel
theorem dX0_hear_24 : decode cX0_hear 24 = .ok (.aload_n 3, 1) := by decide +kernel
theorem dX0_hear_25 : decode cX0_hear 25 = .ok (.iload 5, 2) := by decide +kernel
theorem dX0_hear_27 : decode cX0_hear 27 = .ok (.invokevirtual 35, 3) := by decide +kernel
theorem dX0_hear_30 : decode cX0_hear 30 = .ok (.istore 6, 2) := by decide +kernel
theorem dX0_hear_32 : decode cX0_hear 32 = .ok (.iload 6, 2) := by decide +kernel
theorem dX0_hear_34 : decode cX0_hear 34 = .ok (.ifCond .eq 10, 3) := by decide +kernel
theorem dX0_hear_37 : decode cX0_hear 37 = .ok (.aload_n 1, 1) := by decide +kernel
theorem dX0_hear_38 : decode cX0_hear 38 = .ok (.aload_n 3, 1) := by decide +kernel
theorem dX0_hear_39 : decode cX0_hear 39 = .ok (.iload 4, 2) := by decide +kernel
theorem dX0_hear_41 : decode cX0_hear 41 = .ok (.invokevirtual 39, 3) := by decide +kernel
theorem dX0_hear_44 : decode cX0_hear 44 = .ok (.iconst 0, 1) := by decide +kernel
theorem dX0_hear_45 : decode cX0_hear 45 = .ok (.istore 7, 2) := by decide +kernel
theorem dX0_hear_47 : decode cX0_hear 47 = .ok (.iload 7, 2) := by decide +kernel
theorem dX0_hear_49 : decode cX0_hear 49 = .ok (.aload_n 0, 1) := by decide +kernel
theorem dX0_hear_50 : decode cX0_hear 50 = .ok (.getfield 45, 3) := by decide +kernel
theorem dX0_hear_53 : decode cX0_hear 53 = .ok (.if_icmp .ge 60, 3) := by decide +kernel
theorem dX0_hear_56 : decode cX0_hear 56 = .ok (.iload 6, 2) := by decide +kernel
theorem dX0_hear_58 : decode cX0_hear 58 = .ok (.ifCond .eq 18, 3) := by decide +kernel
theorem dX0_hear_61 : decode cX0_hear 61 = .ok (.aload_n 1, 1) := by decide +kernel
theorem dX0_hear_62 : decode cX0_hear 62 = .ok (.aload_n 3, 1) := by decide +kernel
theorem dX0_hear_63 : decode cX0_hear 63 = .ok (.aload_n 0, 1) := by decide +kernel
theorem dX0_hear_64 : decode cX0_hear 64 = .ok (.getfield 11, 3) := by decide +kernel
theorem dX0_hear_67 : decode cX0_hear 67 = .ok (.iload 7, 2) := by decide +kernel
theorem dX0_hear_69 : decode cX0_hear 69 = .ok (.iaload, 1) := by decide +kernel
theorem dX0_hear_70 : decode cX0_hear 70 = .ok (.invokevirtual 48, 3) := by decide +kernel
theorem dX0_hear_73 : decode cX0_hear 73 = .ok (.goto 6, 3) := by decide +kernel
theorem dX0_hear_76 : decode cX0_hear 76 = .ok (.sipush 1001, 3) := by decide +kernel
theorem dX0_hear_79 : decode cX0_hear 79 = .ok (.istore 8, 2) := by decide +kernel
theorem dX0_hear_81 : decode cX0_hear 81 = .ok (.aload_n 0, 1) := by decide +kernel
theorem dX0_hear_82 : decode cX0_hear 82 = .ok (.getfield 18, 3) := by decide +kernel
theorem dX0_hear_85 : decode cX0_hear 85 = .ok (.iload 5, 2) := by decide +kernel
theorem dX0_hear_87 : decode cX0_hear 87 = .ok (.iconst 3, 1) := by decide +kernel
theorem dX0_hear_88 : decode cX0_hear 88 = .ok (.imul, 1) := by decide +kernel
theorem dX0_hear_89 : decode cX0_hear 89 = .ok (.iload 7, 2) := by decide +kernel
theorem dX0_hear_91 : decode cX0_hear 91 = .ok (.iadd, 1) := by decide +kernel
theorem dX0_hear_92 : decode cX0_hear 92 = .ok (.iload 8, 2) := by decide +kernel
theorem dX0_hear_94 : decode cX0_hear 94 = .ok (.iconst (-1), 1) := by decide +kernel
theorem dX0_hear_95 : decode cX0_hear 95 = .ok (.if_icmp .ne 9, 3) := by decide +kernel
theorem dX0_hear_98 : decode cX0_hear 98 = .ok (.sipush 1000, 3) := by decide +kernel
theorem dX0_hear_101 : decode cX0_hear 101 = .ok (.goto 5, 3) := by decide +kernel
theorem dX0_hear_104 : decode cX0_hear 104 = .ok (.iload 8, 2) := by decide +kernel
theorem dX0_hear_106 : decode cX0_hear 106 = .ok (.iastore, 1) := by decide +kernel
theorem dX0_hear_107 : decode cX0_hear 107 = .ok (.iinc 7 1, 3) := by decide +kernel
theorem dX0_hear_110 : decode cX0_hear 110 = .ok (.goto (-63), 3) := by decide +kernel
theorem dX0_hear_113 : decode cX0_hear 113 = .ok (.iinc 5 1, 3) := by decide +kernel
theorem dX0_hear_116 : decode cX0_hear 116 = .ok (.goto (-107), 3) := by decide +kernel
theorem dX0_hear_119 : decode cX0_hear 119 = .ok (.return_, 1) := by decide +kernel
theorem dX0_seat_0 : decode cX0_seat 0 = .ok (.aload_n 0, 1) := by decide +kernel
theorem dX0_seat_1 : decode cX0_seat 1 = .ok (.iconst 0, 1) := by decide +kernel
theorem dX0_seat_2 : decode cX0_seat 2 = .ok (.putfield 45, 3) := by decide +kernel
theorem dX0_seat_5 : decode cX0_seat 5 = .ok (.aload_n 0, 1) := by decide +kernel
theorem dX0_seat_6 : decode cX0_seat 6 = .ok (.iconst 1, 1) := by decide +kernel
theorem dX0_seat_7 : decode cX0_seat 7 = .ok (.putfield 25, 3) := by decide +kernel
theorem dX0_seat_10 : decode cX0_seat 10 = .ok (.iconst 5, 1) := by decide +kernel
theorem dX0_seat_11 : decode cX0_seat 11 = .ok (.istore_n 2, 1) := by decide +kernel
theorem dX0_seat_12 : decode cX0_seat 12 = .ok (.iload_n 2, 1) := by decide +kernel
theorem dX0_seat_13 : decode cX0_seat 13 = .ok (.ifCond .lt 69, 3) := by decide +kernel
theorem dX0_seat_16 : decode cX0_seat 16 = .ok (.iload_n 1, 1) := by decide +kernel
theorem dX0_seat_17 : decode cX0_seat 17 = .ok (.iload_n 2, 1) := by decide +kernel
theorem dX0_seat_18 : decode cX0_seat 18 = .ok (.iushr, 1) := by decide +kernel
theorem dX0_seat_19 : decode cX0_seat 19 = .ok (.iconst 1, 1) := by decide +kernel
theorem dX0_seat_20 : decode cX0_seat 20 = .ok (.iand, 1) := by decide +kernel
theorem dX0_seat_21 : decode cX0_seat 21 = .ok (.ifCond .eq 55, 3) := by decide +kernel
theorem dX0_seat_24 : decode cX0_seat 24 = .ok (.aload_n 0, 1) := by decide +kernel
theorem dX0_seat_25 : decode cX0_seat 25 = .ok (.getfield 45, 3) := by decide +kernel
theorem dX0_seat_28 : decode cX0_seat 28 = .ok (.iconst 3, 1) := by decide +kernel
theorem dX0_seat_29 : decode cX0_seat 29 = .ok (.if_icmp .ge 47, 3) := by decide +kernel
theorem dX0_seat_32 : decode cX0_seat 32 = .ok (.aload_n 0, 1) := by decide +kernel
theorem dX0_seat_33 : decode cX0_seat 33 = .ok (.getfield 11, 3) := by decide +kernel
theorem dX0_seat_36 : decode cX0_seat 36 = .ok (.aload_n 0, 1) := by decide +kernel
theorem dX0_seat_37 : decode cX0_seat 37 = .ok (.getfield 45, 3) := by decide +kernel
theorem dX0_seat_40 : decode cX0_seat 40 = .ok (.iload_n 2, 1) := by decide +kernel
theorem dX0_seat_41 : decode cX0_seat 41 = .ok (.iastore, 1) := by decide +kernel
theorem dX0_seat_42 : decode cX0_seat 42 = .ok (.aload_n 0, 1) := by decide +kernel
theorem dX0_seat_43 : decode cX0_seat 43 = .ok (.getfield 15, 3) := by decide +kernel
theorem dX0_seat_46 : decode cX0_seat 46 = .ok (.aload_n 0, 1) := by decide +kernel
theorem dX0_seat_47 : decode cX0_seat 47 = .ok (.getfield 45, 3) := by decide +kernel
theorem dX0_seat_50 : decode cX0_seat 50 = .ok (.aload_n 0, 1) := by decide +kernel
theorem dX0_seat_51 : decode cX0_seat 51 = .ok (.getfield 25, 3) := by decide +kernel
theorem dX0_seat_54 : decode cX0_seat 54 = .ok (.iastore, 1) := by decide +kernel
theorem dX0_seat_55 : decode cX0_seat 55 = .ok (.aload_n 0, 1) := by decide +kernel
theorem dX0_seat_56 : decode cX0_seat 56 = .ok (.dup, 1) := by decide +kernel
theorem dX0_seat_57 : decode cX0_seat 57 = .ok (.getfield 25, 3) := by decide +kernel
theorem dX0_seat_60 : decode cX0_seat 60 = .ok (.bipush 7, 2) := by decide +kernel
theorem dX0_seat_62 : decode cX0_seat 62 = .ok (.imul, 1) := by decide +kernel
theorem dX0_seat_63 : decode cX0_seat 63 = .ok (.putfield 25, 3) := by decide +kernel
theorem dX0_seat_66 : decode cX0_seat 66 = .ok (.aload_n 0, 1) := by decide +kernel
theorem dX0_seat_67 : decode cX0_seat 67 = .ok (.dup, 1) := by decide +kernel
theorem dX0_seat_68 : decode cX0_seat 68 = .ok (.getfield 45, 3) := by decide +kernel
theorem dX0_seat_71 : decode cX0_seat 71 = .ok (.iconst 1, 1) := by decide +kernel
theorem dX0_seat_72 : decode cX0_seat 72 = .ok (.iadd, 1) := by decide +kernel
theorem dX0_seat_73 : decode cX0_seat 73 = .ok (.putfield 45, 3) := by decide +kernel
theorem dX0_seat_76 : decode cX0_seat 76 = .ok (.iinc 2 (-1), 3) := by decide +kernel
theorem dX0_seat_79 : decode cX0_seat 79 = .ok (.goto (-67), 3) := by decide +kernel
theorem dX0_seat_82 : decode cX0_seat 82 = .ok (.return_, 1) := by decide +kernel
theorem dX0_choiceOf_0 : decode cX0_choiceOf 0 = .ok (.aload_n 0, 1) := by decide +kernel
theorem dX0_choiceOf_1 : decode cX0_choiceOf 1 = .ok (.getfield 15, 3) := by decide +kernel
theorem dX0_choiceOf_4 : decode cX0_choiceOf 4 = .ok (.iload_n 2, 1) := by decide +kernel
theorem dX0_choiceOf_5 : decode cX0_choiceOf 5 = .ok (.iaload, 1) := by decide +kernel
theorem dX0_choiceOf_6 : decode cX0_choiceOf 6 = .ok (.ifCond .le 17, 3) := by decide +kernel
theorem dX0_choiceOf_9 : decode cX0_choiceOf 9 = .ok (.iload_n 1, 1) := by decide +kernel
theorem dX0_choiceOf_10 : decode cX0_choiceOf 10 = .ok (.aload_n 0, 1) := by decide +kernel
theorem dX0_choiceOf_11 : decode cX0_choiceOf 11 = .ok (.getfield 15, 3) := by decide +kernel
theorem dX0_choiceOf_14 : decode cX0_choiceOf 14 = .ok (.iload_n 2, 1) := by decide +kernel
theorem dX0_choiceOf_15 : decode cX0_choiceOf 15 = .ok (.iaload, 1) := by decide +kernel
theorem dX0_choiceOf_16 : decode cX0_choiceOf 16 = .ok (.idiv, 1) := by decide +kernel
theorem dX0_choiceOf_17 : decode cX0_choiceOf 17 = .ok (.bipush 7, 2) := by decide +kernel
theorem dX0_choiceOf_19 : decode cX0_choiceOf 19 = .ok (.irem, 1) := by decide +kernel
theorem dX0_choiceOf_20 : decode cX0_choiceOf 20 = .ok (.goto 4, 3) := by decide +kernel
theorem dX0_choiceOf_23 : decode cX0_choiceOf 23 = .ok (.iconst 0, 1) := by decide +kernel
theorem dX0_choiceOf_24 : decode cX0_choiceOf 24 = .ok (.ireturn, 1) := by decide +kernel
theorem dX0_giveRow_0 : decode cX0_giveRow 0 = .ok (.iconst 0, 1) := by decide +kernel
theorem dX0_giveRow_1 : decode cX0_giveRow 1 = .ok (.istore_n 3, 1) := by decide +kernel
theorem dX0_giveRow_2 : decode cX0_giveRow 2 = .ok (.iload_n 3, 1) := by decide +kernel
theorem dX0_giveRow_3 : decode cX0_giveRow 3 = .ok (.aload_n 0, 1) := by decide +kernel
theorem dX0_giveRow_4 : decode cX0_giveRow 4 = .ok (.getfield 45, 3) := by decide +kernel
theorem dX0_giveRow_7 : decode cX0_giveRow 7 = .ok (.if_icmp .ge 50, 3) := by decide +kernel
theorem dX0_giveRow_10 : decode cX0_giveRow 10 = .ok (.getstatic 52, 3) := by decide +kernel
theorem dX0_giveRow_13 : decode cX0_giveRow 13 = .ok (.aload_n 0, 1) := by decide +kernel
theorem dX0_giveRow_14 : decode cX0_giveRow 14 = .ok (.iload_n 2, 1) := by decide +kernel
theorem dX0_giveRow_15 : decode cX0_giveRow 15 = .ok (.iload_n 3, 1) := by decide +kernel
theorem dX0_giveRow_16 : decode cX0_giveRow 16 = .ok (.invokevirtual 55, 3) := by decide +kernel
theorem dX0_giveRow_19 : decode cX0_giveRow 19 = .ok (.iaload, 1) := by decide +kernel
theorem dX0_giveRow_20 : decode cX0_giveRow 20 = .ok (.istore 4, 2) := by decide +kernel
theorem dX0_giveRow_22 : decode cX0_giveRow 22 = .ok (.iload 4, 2) := by decide +kernel
theorem dX0_giveRow_24 : decode cX0_giveRow 24 = .ok (.iconst (-1), 1) := by decide +kernel
theorem dX0_giveRow_25 : decode cX0_giveRow 25 = .ok (.if_icmp .eq 26, 3) := by decide +kernel
theorem dX0_giveRow_28 : decode cX0_giveRow 28 = .ok (.aload_n 1, 1) := by decide +kernel
theorem dX0_giveRow_29 : decode cX0_giveRow 29 = .ok (.aload_n 0, 1) := by decide +kernel
theorem dX0_giveRow_30 : decode cX0_giveRow 30 = .ok (.getfield 11, 3) := by decide +kernel
theorem dX0_giveRow_33 : decode cX0_giveRow 33 = .ok (.iload_n 3, 1) := by decide +kernel
theorem dX0_giveRow_34 : decode cX0_giveRow 34 = .ok (.iaload, 1) := by decide +kernel
theorem dX0_giveRow_35 : decode cX0_giveRow 35 = .ok (.iload 4, 2) := by decide +kernel
theorem dX0_giveRow_37 : decode cX0_giveRow 37 = .ok (.iconst 3, 1) := by decide +kernel
theorem dX0_giveRow_38 : decode cX0_giveRow 38 = .ok (.idiv, 1) := by decide +kernel
theorem dX0_giveRow_39 : decode cX0_giveRow 39 = .ok (.iload 4, 2) := by decide +kernel
theorem dX0_giveRow_41 : decode cX0_giveRow 41 = .ok (.iconst 3, 1) := by decide +kernel
theorem dX0_giveRow_42 : decode cX0_giveRow 42 = .ok (.irem, 1) := by decide +kernel
theorem dX0_giveRow_43 : decode cX0_giveRow 43 = .ok (.invokevirtual 59, 3) := by decide +kernel
theorem dX0_giveRow_46 : decode cX0_giveRow 46 = .ok (.ifCond .ne 5, 3) := by decide +kernel
theorem dX0_giveRow_49 : decode cX0_giveRow 49 = .ok (.iconst 0, 1) := by decide +kernel
theorem dX0_giveRow_50 : decode cX0_giveRow 50 = .ok (.ireturn, 1) := by decide +kernel
theorem dX0_giveRow_51 : decode cX0_giveRow 51 = .ok (.iinc 3 1, 3) := by decide +kernel
theorem dX0_giveRow_54 : decode cX0_giveRow 54 = .ok (.goto (-52), 3) := by decide +kernel
theorem dX0_giveRow_57 : decode cX0_giveRow 57 = .ok (.iconst 1, 1) := by decide +kernel
theorem dX0_giveRow_58 : decode cX0_giveRow 58 = .ok (.ireturn, 1) := by decide +kernel
theorem dX0_rests_0 : decode cX0_rests 0 = .ok (.iconst 0, 1) := by decide +kernel
theorem dX0_rests_1 : decode cX0_rests 1 = .ok (.istore_n 2, 1) := by decide +kernel
theorem dX0_rests_2 : decode cX0_rests 2 = .ok (.iload_n 2, 1) := by decide +kernel
theorem dX0_rests_3 : decode cX0_rests 3 = .ok (.aload_n 0, 1) := by decide +kernel
theorem dX0_rests_4 : decode cX0_rests 4 = .ok (.getfield 45, 3) := by decide +kernel
theorem dX0_rests_7 : decode cX0_rests 7 = .ok (.if_icmp .ge 89, 3) := by decide +kernel
theorem dX0_rests_10 : decode cX0_rests 10 = .ok (.aload_n 0, 1) := by decide +kernel
theorem dX0_rests_11 : decode cX0_rests 11 = .ok (.getfield 18, 3) := by decide +kernel
theorem dX0_rests_14 : decode cX0_rests 14 = .ok (.iload_n 1, 1) := by decide +kernel
theorem dX0_rests_15 : decode cX0_rests 15 = .ok (.iconst 3, 1) := by decide +kernel
theorem dX0_rests_16 : decode cX0_rests 16 = .ok (.imul, 1) := by decide +kernel
theorem dX0_rests_17 : decode cX0_rests 17 = .ok (.iload_n 2, 1) := by decide +kernel
theorem dX0_rests_18 : decode cX0_rests 18 = .ok (.iadd, 1) := by decide +kernel
theorem dX0_rests_19 : decode cX0_rests 19 = .ok (.iaload, 1) := by decide +kernel
theorem dX0_rests_20 : decode cX0_rests 20 = .ok (.istore_n 3, 1) := by decide +kernel
theorem dX0_rests_21 : decode cX0_rests 21 = .ok (.iload_n 3, 1) := by decide +kernel
theorem dX0_rests_22 : decode cX0_rests 22 = .ok (.sipush 1001, 3) := by decide +kernel
theorem dX0_rests_25 : decode cX0_rests 25 = .ok (.if_icmp .ne 5, 3) := by decide +kernel
theorem dX0_rests_28 : decode cX0_rests 28 = .ok (.iconst 0, 1) := by decide +kernel
theorem dX0_rests_29 : decode cX0_rests 29 = .ok (.ireturn, 1) := by decide +kernel
theorem dX0_rests_30 : decode cX0_rests 30 = .ok (.iload_n 1, 1) := by decide +kernel
theorem dX0_rests_31 : decode cX0_rests 31 = .ok (.aload_n 0, 1) := by decide +kernel
theorem dX0_rests_32 : decode cX0_rests 32 = .ok (.iload_n 1, 1) := by decide +kernel
theorem dX0_rests_33 : decode cX0_rests 33 = .ok (.iload_n 2, 1) := by decide +kernel
theorem dX0_rests_34 : decode cX0_rests 34 = .ok (.invokevirtual 55, 3) := by decide +kernel
theorem dX0_rests_37 : decode cX0_rests 37 = .ok (.aload_n 0, 1) := by decide +kernel
theorem dX0_rests_38 : decode cX0_rests 38 = .ok (.getfield 15, 3) := by decide +kernel
theorem dX0_rests_41 : decode cX0_rests 41 = .ok (.iload_n 2, 1) := by decide +kernel
theorem dX0_rests_42 : decode cX0_rests 42 = .ok (.iaload, 1) := by decide +kernel
theorem dX0_rests_43 : decode cX0_rests 43 = .ok (.imul, 1) := by decide +kernel
theorem dX0_rests_44 : decode cX0_rests 44 = .ok (.isub, 1) := by decide +kernel
theorem dX0_rests_45 : decode cX0_rests 45 = .ok (.istore 4, 2) := by decide +kernel
theorem dX0_rests_47 : decode cX0_rests 47 = .ok (.iconst 0, 1) := by decide +kernel
theorem dX0_rests_48 : decode cX0_rests 48 = .ok (.istore 5, 2) := by decide +kernel
theorem dX0_rests_50 : decode cX0_rests 50 = .ok (.iload 5, 2) := by decide +kernel
theorem dX0_rests_52 : decode cX0_rests 52 = .ok (.bipush 7, 2) := by decide +kernel
theorem dX0_rests_54 : decode cX0_rests 54 = .ok (.if_icmp .ge 36, 3) := by decide +kernel
theorem dX0_rests_57 : decode cX0_rests 57 = .ok (.aload_n 0, 1) := by decide +kernel
theorem dX0_rests_58 : decode cX0_rests 58 = .ok (.getfield 18, 3) := by decide +kernel
theorem dX0_rests_61 : decode cX0_rests 61 = .ok (.iload 4, 2) := by decide +kernel
theorem dX0_rests_63 : decode cX0_rests 63 = .ok (.iload 5, 2) := by decide +kernel
theorem dX0_rests_65 : decode cX0_rests 65 = .ok (.aload_n 0, 1) := by decide +kernel
theorem dX0_rests_66 : decode cX0_rests 66 = .ok (.getfield 15, 3) := by decide +kernel
theorem dX0_rests_69 : decode cX0_rests 69 = .ok (.iload_n 2, 1) := by decide +kernel
theorem dX0_rests_70 : decode cX0_rests 70 = .ok (.iaload, 1) := by decide +kernel
theorem dX0_rests_71 : decode cX0_rests 71 = .ok (.imul, 1) := by decide +kernel
theorem dX0_rests_72 : decode cX0_rests 72 = .ok (.iadd, 1) := by decide +kernel
theorem dX0_rests_73 : decode cX0_rests 73 = .ok (.iconst 3, 1) := by decide +kernel
theorem dX0_rests_74 : decode cX0_rests 74 = .ok (.imul, 1) := by decide +kernel
theorem dX0_rests_75 : decode cX0_rests 75 = .ok (.iload_n 2, 1) := by decide +kernel
theorem dX0_rests_76 : decode cX0_rests 76 = .ok (.iadd, 1) := by decide +kernel
theorem dX0_rests_77 : decode cX0_rests 77 = .ok (.iaload, 1) := by decide +kernel
theorem dX0_rests_78 : decode cX0_rests 78 = .ok (.iload_n 3, 1) := by decide +kernel
theorem dX0_rests_79 : decode cX0_rests 79 = .ok (.if_icmp .ge 5, 3) := by decide +kernel
theorem dX0_rests_82 : decode cX0_rests 82 = .ok (.iconst 0, 1) := by decide +kernel
theorem dX0_rests_83 : decode cX0_rests 83 = .ok (.ireturn, 1) := by decide +kernel
theorem dX0_rests_84 : decode cX0_rests 84 = .ok (.iinc 5 1, 3) := by decide +kernel
theorem dX0_rests_87 : decode cX0_rests 87 = .ok (.goto (-37), 3) := by decide +kernel
theorem dX0_rests_90 : decode cX0_rests 90 = .ok (.iinc 2 1, 3) := by decide +kernel
theorem dX0_rests_93 : decode cX0_rests 93 = .ok (.goto (-91), 3) := by decide +kernel
theorem dX0_rests_96 : decode cX0_rests 96 = .ok (.iconst 1, 1) := by decide +kernel
theorem dX0_rests_97 : decode cX0_rests 97 = .ok (.ireturn, 1) := by decide +kernel
theorem dX0_countRests_0 : decode cX0_countRests 0 = .ok (.iconst 0, 1) := by decide +kernel
theorem dX0_countRests_1 : decode cX0_countRests 1 = .ok (.istore_n 1, 1) := by decide +kernel
theorem dX0_countRests_2 : decode cX0_countRests 2 = .ok (.iconst 0, 1) := by decide +kernel
theorem dX0_countRests_3 : decode cX0_countRests 3 = .ok (.istore_n 2, 1) := by decide +kernel
theorem dX0_countRests_4 : decode cX0_countRests 4 = .ok (.iload_n 2, 1) := by decide +kernel
theorem dX0_countRests_5 : decode cX0_countRests 5 = .ok (.aload_n 0, 1) := by decide +kernel
theorem dX0_countRests_6 : decode cX0_countRests 6 = .ok (.getfield 25, 3) := by decide +kernel
theorem dX0_countRests_9 : decode cX0_countRests 9 = .ok (.if_icmp .ge 20, 3) := by decide +kernel
theorem dX0_countRests_12 : decode cX0_countRests 12 = .ok (.aload_n 0, 1) := by decide +kernel
theorem dX0_countRests_13 : decode cX0_countRests 13 = .ok (.iload_n 2, 1) := by decide +kernel
theorem dX0_countRests_14 : decode cX0_countRests 14 = .ok (.invokevirtual 63, 3) := by decide +kernel
theorem dX0_countRests_17 : decode cX0_countRests 17 = .ok (.ifCond .eq 6, 3) := by decide +kernel
theorem dX0_countRests_20 : decode cX0_countRests 20 = .ok (.iinc 1 1, 3) := by decide +kernel
theorem dX0_countRests_23 : decode cX0_countRests 23 = .ok (.iinc 2 1, 3) := by decide +kernel
theorem dX0_countRests_26 : decode cX0_countRests 26 = .ok (.goto (-22), 3) := by decide +kernel
theorem dX0_countRests_29 : decode cX0_countRests 29 = .ok (.iload_n 1, 1) := by decide +kernel
theorem dX0_countRests_30 : decode cX0_countRests 30 = .ok (.ireturn, 1) := by decide +kernel
theorem dX0_firstRest_0 : decode cX0_firstRest 0 = .ok (.iconst 0, 1) := by decide +kernel
theorem dX0_firstRest_1 : decode cX0_firstRest 1 = .ok (.istore_n 1, 1) := by decide +kernel
theorem dX0_firstRest_2 : decode cX0_firstRest 2 = .ok (.iload_n 1, 1) := by decide +kernel
theorem dX0_firstRest_3 : decode cX0_firstRest 3 = .ok (.aload_n 0, 1) := by decide +kernel
theorem dX0_firstRest_4 : decode cX0_firstRest 4 = .ok (.getfield 25, 3) := by decide +kernel
theorem dX0_firstRest_7 : decode cX0_firstRest 7 = .ok (.if_icmp .ge 23, 3) := by decide +kernel
theorem dX0_firstRest_10 : decode cX0_firstRest 10 = .ok (.aload_n 0, 1) := by decide +kernel
theorem dX0_firstRest_11 : decode cX0_firstRest 11 = .ok (.iload_n 1, 1) := by decide +kernel
theorem dX0_firstRest_12 : decode cX0_firstRest 12 = .ok (.invokevirtual 63, 3) := by decide +kernel
theorem dX0_firstRest_15 : decode cX0_firstRest 15 = .ok (.ifCond .eq 9, 3) := by decide +kernel
theorem dX0_firstRest_18 : decode cX0_firstRest 18 = .ok (.aload_n 0, 1) := by decide +kernel
theorem dX0_firstRest_19 : decode cX0_firstRest 19 = .ok (.iload_n 1, 1) := by decide +kernel
theorem dX0_firstRest_20 : decode cX0_firstRest 20 = .ok (.invokevirtual 67, 3) := by decide +kernel
theorem dX0_firstRest_23 : decode cX0_firstRest 23 = .ok (.ireturn, 1) := by decide +kernel
theorem dX0_firstRest_24 : decode cX0_firstRest 24 = .ok (.iinc 1 1, 3) := by decide +kernel
theorem dX0_firstRest_27 : decode cX0_firstRest 27 = .ok (.goto (-25), 3) := by decide +kernel
theorem dX0_firstRest_30 : decode cX0_firstRest 30 = .ok (.iconst (-1), 1) := by decide +kernel
theorem dX0_firstRest_31 : decode cX0_firstRest 31 = .ok (.ireturn, 1) := by decide +kernel
theorem dX0_writeFigures_0 : decode cX0_writeFigures 0 = .ok (.iconst 0, 1) := by decide +kernel
theorem dX0_writeFigures_1 : decode cX0_writeFigures 1 = .ok (.istore_n 2, 1) := by decide +kernel
theorem dX0_writeFigures_2 : decode cX0_writeFigures 2 = .ok (.aload_n 0, 1) := by decide +kernel
theorem dX0_writeFigures_3 : decode cX0_writeFigures 3 = .ok (.getfield 45, 3) := by decide +kernel
theorem dX0_writeFigures_6 : decode cX0_writeFigures 6 = .ok (.iconst 1, 1) := by decide +kernel
theorem dX0_writeFigures_7 : decode cX0_writeFigures 7 = .ok (.isub, 1) := by decide +kernel
theorem dX0_writeFigures_8 : decode cX0_writeFigures 8 = .ok (.istore_n 3, 1) := by decide +kernel
theorem dX0_writeFigures_9 : decode cX0_writeFigures 9 = .ok (.iload_n 3, 1) := by decide +kernel
theorem dX0_writeFigures_10 : decode cX0_writeFigures 10 = .ok (.ifCond .lt 27, 3) := by decide +kernel
theorem dX0_writeFigures_13 : decode cX0_writeFigures 13 = .ok (.iload_n 2, 1) := by decide +kernel
theorem dX0_writeFigures_14 : decode cX0_writeFigures 14 = .ok (.bipush 10, 2) := by decide +kernel
theorem dX0_writeFigures_16 : decode cX0_writeFigures 16 = .ok (.imul, 1) := by decide +kernel
theorem dX0_writeFigures_17 : decode cX0_writeFigures 17 = .ok (.getstatic 52, 3) := by decide +kernel
theorem dX0_writeFigures_20 : decode cX0_writeFigures 20 = .ok (.aload_n 0, 1) := by decide +kernel
theorem dX0_writeFigures_21 : decode cX0_writeFigures 21 = .ok (.iload_n 1, 1) := by decide +kernel
theorem dX0_writeFigures_22 : decode cX0_writeFigures 22 = .ok (.iload_n 3, 1) := by decide +kernel
theorem dX0_writeFigures_23 : decode cX0_writeFigures 23 = .ok (.invokevirtual 55, 3) := by decide +kernel
theorem dX0_writeFigures_26 : decode cX0_writeFigures 26 = .ok (.iaload, 1) := by decide +kernel
theorem dX0_writeFigures_27 : decode cX0_writeFigures 27 = .ok (.iadd, 1) := by decide +kernel
theorem dX0_writeFigures_28 : decode cX0_writeFigures 28 = .ok (.iconst 1, 1) := by decide +kernel
theorem dX0_writeFigures_29 : decode cX0_writeFigures 29 = .ok (.iadd, 1) := by decide +kernel
theorem dX0_writeFigures_30 : decode cX0_writeFigures 30 = .ok (.istore_n 2, 1) := by decide +kernel
theorem dX0_writeFigures_31 : decode cX0_writeFigures 31 = .ok (.iinc 3 (-1), 3) := by decide +kernel
theorem dX0_writeFigures_34 : decode cX0_writeFigures 34 = .ok (.goto (-25), 3) := by decide +kernel
theorem dX0_writeFigures_37 : decode cX0_writeFigures 37 = .ok (.iload_n 2, 1) := by decide +kernel
theorem dX0_writeFigures_38 : decode cX0_writeFigures 38 = .ok (.ireturn, 1) := by decide +kernel
theorem dX0_bestOfOne_0 : decode cX0_bestOfOne 0 = .ok (.iconst 0, 1) := by decide +kernel
theorem dX0_bestOfOne_1 : decode cX0_bestOfOne 1 = .ok (.istore_n 1, 1) := by decide +kernel
theorem dX0_bestOfOne_2 : decode cX0_bestOfOne 2 = .ok (.iconst 1, 1) := by decide +kernel
theorem dX0_bestOfOne_3 : decode cX0_bestOfOne 3 = .ok (.istore_n 2, 1) := by decide +kernel
theorem dX0_bestOfOne_4 : decode cX0_bestOfOne 4 = .ok (.iload_n 2, 1) := by decide +kernel
theorem dX0_bestOfOne_5 : decode cX0_bestOfOne 5 = .ok (.bipush 7, 2) := by decide +kernel
theorem dX0_bestOfOne_7 : decode cX0_bestOfOne 7 = .ok (.if_icmp .ge 30, 3) := by decide +kernel
theorem dX0_bestOfOne_10 : decode cX0_bestOfOne 10 = .ok (.aload_n 0, 1) := by decide +kernel
theorem dX0_bestOfOne_11 : decode cX0_bestOfOne 11 = .ok (.getfield 18, 3) := by decide +kernel
theorem dX0_bestOfOne_14 : decode cX0_bestOfOne 14 = .ok (.iload_n 2, 1) := by decide +kernel
theorem dX0_bestOfOne_15 : decode cX0_bestOfOne 15 = .ok (.iconst 3, 1) := by decide +kernel
theorem dX0_bestOfOne_16 : decode cX0_bestOfOne 16 = .ok (.imul, 1) := by decide +kernel
theorem dX0_bestOfOne_17 : decode cX0_bestOfOne 17 = .ok (.iaload, 1) := by decide +kernel
theorem dX0_bestOfOne_18 : decode cX0_bestOfOne 18 = .ok (.aload_n 0, 1) := by decide +kernel
theorem dX0_bestOfOne_19 : decode cX0_bestOfOne 19 = .ok (.getfield 18, 3) := by decide +kernel
theorem dX0_bestOfOne_22 : decode cX0_bestOfOne 22 = .ok (.iload_n 1, 1) := by decide +kernel
theorem dX0_bestOfOne_23 : decode cX0_bestOfOne 23 = .ok (.iconst 3, 1) := by decide +kernel
theorem dX0_bestOfOne_24 : decode cX0_bestOfOne 24 = .ok (.imul, 1) := by decide +kernel
theorem dX0_bestOfOne_25 : decode cX0_bestOfOne 25 = .ok (.iaload, 1) := by decide +kernel
theorem dX0_bestOfOne_26 : decode cX0_bestOfOne 26 = .ok (.if_icmp .ge 5, 3) := by decide +kernel
theorem dX0_bestOfOne_29 : decode cX0_bestOfOne 29 = .ok (.iload_n 2, 1) := by decide +kernel
theorem dX0_bestOfOne_30 : decode cX0_bestOfOne 30 = .ok (.istore_n 1, 1) := by decide +kernel
theorem dX0_bestOfOne_31 : decode cX0_bestOfOne 31 = .ok (.iinc 2 1, 3) := by decide +kernel
theorem dX0_bestOfOne_34 : decode cX0_bestOfOne 34 = .ok (.goto (-30), 3) := by decide +kernel
theorem dX0_bestOfOne_37 : decode cX0_bestOfOne 37 = .ok (.iload_n 1, 1) := by decide +kernel
theorem dX0_bestOfOne_38 : decode cX0_bestOfOne 38 = .ok (.ireturn, 1) := by decide +kernel
theorem dX0_dropOf_0 : decode cX0_dropOf 0 = .ok (.iload_n 1, 1) := by decide +kernel
theorem dX0_dropOf_1 : decode cX0_dropOf 1 = .ok (.ifCond .lt 17, 3) := by decide +kernel
theorem dX0_dropOf_4 : decode cX0_dropOf 4 = .ok (.iload_n 1, 1) := by decide +kernel
theorem dX0_dropOf_5 : decode cX0_dropOf 5 = .ok (.bipush 7, 2) := by decide +kernel
theorem dX0_dropOf_7 : decode cX0_dropOf 7 = .ok (.if_icmp .ge 11, 3) := by decide +kernel
theorem dX0_dropOf_10 : decode cX0_dropOf 10 = .ok (.getstatic 52, 3) := by decide +kernel
theorem dX0_dropOf_13 : decode cX0_dropOf 13 = .ok (.iload_n 1, 1) := by decide +kernel
theorem dX0_dropOf_14 : decode cX0_dropOf 14 = .ok (.iaload, 1) := by decide +kernel
theorem dX0_dropOf_15 : decode cX0_dropOf 15 = .ok (.goto 4, 3) := by decide +kernel
theorem dX0_dropOf_18 : decode cX0_dropOf 18 = .ok (.iconst (-1), 1) := by decide +kernel
theorem dX0_dropOf_19 : decode cX0_dropOf 19 = .ok (.ireturn, 1) := by decide +kernel
theorem dX0_weddingOf_0 : decode cX0_weddingOf 0 = .ok (.iload_n 1, 1) := by decide +kernel
theorem dX0_weddingOf_1 : decode cX0_weddingOf 1 = .ok (.ifCond .lt 21, 3) := by decide +kernel
theorem dX0_weddingOf_4 : decode cX0_weddingOf 4 = .ok (.iload_n 1, 1) := by decide +kernel
theorem dX0_weddingOf_5 : decode cX0_weddingOf 5 = .ok (.sipush 343, 3) := by decide +kernel
theorem dX0_weddingOf_8 : decode cX0_weddingOf 8 = .ok (.if_icmp .ge 14, 3) := by decide +kernel
theorem dX0_weddingOf_11 : decode cX0_weddingOf 11 = .ok (.aload_n 0, 1) := by decide +kernel
theorem dX0_weddingOf_12 : decode cX0_weddingOf 12 = .ok (.getfield 18, 3) := by decide +kernel
theorem dX0_weddingOf_15 : decode cX0_weddingOf 15 = .ok (.iload_n 1, 1) := by decide +kernel
theorem dX0_weddingOf_16 : decode cX0_weddingOf 16 = .ok (.iconst 3, 1) := by decide +kernel
theorem dX0_weddingOf_17 : decode cX0_weddingOf 17 = .ok (.imul, 1) := by decide +kernel
theorem dX0_weddingOf_18 : decode cX0_weddingOf 18 = .ok (.iaload, 1) := by decide +kernel
theorem dX0_weddingOf_19 : decode cX0_weddingOf 19 = .ok (.goto 6, 3) := by decide +kernel
theorem dX0_weddingOf_22 : decode cX0_weddingOf 22 = .ok (.sipush 1000, 3) := by decide +kernel
theorem dX0_weddingOf_25 : decode cX0_weddingOf 25 = .ok (.istore_n 2, 1) := by decide +kernel
theorem dX0_weddingOf_26 : decode cX0_weddingOf 26 = .ok (.iload_n 2, 1) := by decide +kernel
theorem dX0_weddingOf_27 : decode cX0_weddingOf 27 = .ok (.sipush 1000, 3) := by decide +kernel
theorem dX0_weddingOf_30 : decode cX0_weddingOf 30 = .ok (.if_icmp .ne 7, 3) := by decide +kernel
theorem dX0_weddingOf_33 : decode cX0_weddingOf 33 = .ok (.iconst (-1), 1) := by decide +kernel
theorem dX0_weddingOf_34 : decode cX0_weddingOf 34 = .ok (.goto 4, 3) := by decide +kernel
theorem dX0_weddingOf_37 : decode cX0_weddingOf 37 = .ok (.iload_n 2, 1) := by decide +kernel
theorem dX0_weddingOf_38 : decode cX0_weddingOf 38 = .ok (.ireturn, 1) := by decide +kernel
theorem dX1_init_0 : decode cX1_init 0 = .ok (.aload_n 0, 1) := by decide +kernel
theorem dX1_init_1 : decode cX1_init 1 = .ok (.invokespecial 3, 3) := by decide +kernel
theorem dX1_init_4 : decode cX1_init 4 = .ok (.aload_n 0, 1) := by decide +kernel
theorem dX1_init_5 : decode cX1_init 5 = .ok (.aload_n 1, 1) := by decide +kernel
theorem dX1_init_6 : decode cX1_init 6 = .ok (.putfield 9, 3) := by decide +kernel
theorem dX1_init_9 : decode cX1_init 9 = .ok (.aload_n 0, 1) := by decide +kernel
theorem dX1_init_10 : decode cX1_init 10 = .ok (.aload_n 2, 1) := by decide +kernel
theorem dX1_init_11 : decode cX1_init 11 = .ok (.putfield 15, 3) := by decide +kernel
theorem dX1_init_14 : decode cX1_init 14 = .ok (.return_, 1) := by decide +kernel
theorem dX1_read_0 : decode cX1_read 0 = .ok (.aload_n 0, 1) := by decide +kernel
theorem dX1_read_1 : decode cX1_read 1 = .ok (.iload_n 1, 1) := by decide +kernel
theorem dX1_read_2 : decode cX1_read 2 = .ok (.aload_n 0, 1) := by decide +kernel
theorem dX1_read_3 : decode cX1_read 3 = .ok (.getfield 9, 3) := by decide +kernel
theorem dX1_read_6 : decode cX1_read 6 = .ok (.arraylength, 1) := by decide +kernel
theorem dX1_read_7 : decode cX1_read 7 = .ok (.invokestatic 19, 3) := by decide +kernel
theorem dX1_read_10 : decode cX1_read 10 = .ok (.putfield 25, 3) := by decide +kernel
theorem dX1_read_13 : decode cX1_read 13 = .ok (.aload_n 0, 1) := by decide +kernel
theorem dX1_read_14 : decode cX1_read 14 = .ok (.aload_n 2, 1) := by decide +kernel
theorem dX1_read_15 : decode cX1_read 15 = .ok (.putfield 15, 3) := by decide +kernel
theorem dX1_read_18 : decode cX1_read 18 = .ok (.aload_n 0, 1) := by decide +kernel
theorem dX1_read_19 : decode cX1_read 19 = .ok (.getfield 15, 3) := by decide +kernel
theorem dX1_read_22 : decode cX1_read 22 = .ok (.invokevirtual 29, 3) := by decide +kernel
theorem dX1_read_25 : decode cX1_read 25 = .ok (.aload_n 0, 1) := by decide +kernel
theorem dX1_read_26 : decode cX1_read 26 = .ok (.iconst 0, 1) := by decide +kernel
theorem dX1_read_27 : decode cX1_read 27 = .ok (.putfield 34, 3) := by decide +kernel
theorem dX1_read_30 : decode cX1_read 30 = .ok (.aload_n 0, 1) := by decide +kernel
theorem dX1_read_31 : decode cX1_read 31 = .ok (.iconst (-1), 1) := by decide +kernel
theorem dX1_read_32 : decode cX1_read 32 = .ok (.putfield 37, 3) := by decide +kernel
theorem dX1_read_35 : decode cX1_read 35 = .ok (.aload_n 0, 1) := by decide +kernel
theorem dX1_read_36 : decode cX1_read 36 = .ok (.iconst 0, 1) := by decide +kernel
theorem dX1_read_37 : decode cX1_read 37 = .ok (.putfield 40, 3) := by decide +kernel
theorem dX1_read_40 : decode cX1_read 40 = .ok (.aload_n 0, 1) := by decide +kernel
theorem dX1_read_41 : decode cX1_read 41 = .ok (.iconst 0, 1) := by decide +kernel
theorem dX1_read_42 : decode cX1_read 42 = .ok (.putfield 43, 3) := by decide +kernel
theorem dX1_read_45 : decode cX1_read 45 = .ok (.aload_n 0, 1) := by decide +kernel
theorem dX1_read_46 : decode cX1_read 46 = .ok (.invokevirtual 46, 3) := by decide +kernel
theorem dX1_read_49 : decode cX1_read 49 = .ok (.iconst 0, 1) := by decide +kernel
theorem dX1_read_50 : decode cX1_read 50 = .ok (.istore_n 3, 1) := by decide +kernel
theorem dX1_read_51 : decode cX1_read 51 = .ok (.iload_n 3, 1) := by decide +kernel
theorem dX1_read_52 : decode cX1_read 52 = .ok (.aload_n 0, 1) := by decide +kernel
theorem dX1_read_53 : decode cX1_read 53 = .ok (.getfield 25, 3) := by decide +kernel
theorem dX1_read_56 : decode cX1_read 56 = .ok (.if_icmp .gt 29, 3) := by decide +kernel
theorem dX1_read_59 : decode cX1_read 59 = .ok (.aload_n 0, 1) := by decide +kernel
theorem dX1_read_60 : decode cX1_read 60 = .ok (.getfield 34, 3) := by decide +kernel
theorem dX1_read_63 : decode cX1_read 63 = .ok (.ifCond .ne 22, 3) := by decide +kernel
theorem dX1_read_66 : decode cX1_read 66 = .ok (.aload_n 0, 1) := by decide +kernel
theorem dX1_read_67 : decode cX1_read 67 = .ok (.getfield 49, 3) := by decide +kernel
theorem dX1_read_70 : decode cX1_read 70 = .ok (.iconst 4, 1) := by decide +kernel
theorem dX1_read_71 : decode cX1_read 71 = .ok (.if_icmp .eq 14, 3) := by decide +kernel
theorem dX1_read_74 : decode cX1_read 74 = .ok (.aload_n 0, 1) := by decide +kernel
theorem dX1_read_75 : decode cX1_read 75 = .ok (.iload_n 3, 1) := by decide +kernel
theorem dX1_read_76 : decode cX1_read 76 = .ok (.invokevirtual 52, 3) := by decide +kernel
theorem dX1_read_79 : decode cX1_read 79 = .ok (.iinc 3 1, 3) := by decide +kernel
theorem dX1_read_82 : decode cX1_read 82 = .ok (.goto (-31), 3) := by decide +kernel
theorem dX1_read_85 : decode cX1_read 85 = .ok (.return_, 1) := by decide +kernel
theorem dX1_refuse_0 : decode cX1_refuse 0 = .ok (.aload_n 0, 1) := by decide +kernel
theorem dX1_refuse_1 : decode cX1_refuse 1 = .ok (.getfield 34, 3) := by decide +kernel
theorem dX1_refuse_4 : decode cX1_refuse 4 = .ok (.ifCond .ne 13, 3) := by decide +kernel
theorem dX1_refuse_7 : decode cX1_refuse 7 = .ok (.aload_n 0, 1) := by decide +kernel
theorem dX1_refuse_8 : decode cX1_refuse 8 = .ok (.iload_n 1, 1) := by decide +kernel
theorem dX1_refuse_9 : decode cX1_refuse 9 = .ok (.putfield 34, 3) := by decide +kernel
theorem dX1_refuse_12 : decode cX1_refuse 12 = .ok (.aload_n 0, 1) := by decide +kernel
theorem dX1_refuse_13 : decode cX1_refuse 13 = .ok (.iload_n 2, 1) := by decide +kernel
theorem dX1_refuse_14 : decode cX1_refuse 14 = .ok (.putfield 37, 3) := by decide +kernel
theorem dX1_refuse_17 : decode cX1_refuse 17 = .ok (.return_, 1) := by decide +kernel
theorem dX1_advance_0 : decode cX1_advance 0 = .ok (.aload_n 0, 1) := by decide +kernel
theorem dX1_advance_1 : decode cX1_advance 1 = .ok (.aload_n 0, 1) := by decide +kernel
theorem dX1_advance_2 : decode cX1_advance 2 = .ok (.getfield 56, 3) := by decide +kernel
theorem dX1_advance_5 : decode cX1_advance 5 = .ok (.putfield 59, 3) := by decide +kernel
theorem dX1_advance_8 : decode cX1_advance 8 = .ok (.aload_n 0, 1) := by decide +kernel
theorem dX1_advance_9 : decode cX1_advance 9 = .ok (.aload_n 0, 1) := by decide +kernel
theorem dX1_advance_10 : decode cX1_advance 10 = .ok (.getfield 40, 3) := by decide +kernel
theorem dX1_advance_13 : decode cX1_advance 13 = .ok (.putfield 56, 3) := by decide +kernel
theorem dX1_advance_16 : decode cX1_advance 16 = .ok (.aload_n 0, 1) := by decide +kernel
theorem dX1_advance_17 : decode cX1_advance 17 = .ok (.getfield 56, 3) := by decide +kernel
theorem dX1_advance_20 : decode cX1_advance 20 = .ok (.aload_n 0, 1) := by decide +kernel
theorem dX1_advance_21 : decode cX1_advance 21 = .ok (.getfield 25, 3) := by decide +kernel
theorem dX1_advance_24 : decode cX1_advance 24 = .ok (.if_icmp .ge 44, 3) := by decide +kernel
theorem dX1_advance_27 : decode cX1_advance 27 = .ok (.aload_n 0, 1) := by decide +kernel
theorem dX1_advance_28 : decode cX1_advance 28 = .ok (.getfield 9, 3) := by decide +kernel
theorem dX1_advance_31 : decode cX1_advance 31 = .ok (.aload_n 0, 1) := by decide +kernel
theorem dX1_advance_32 : decode cX1_advance 32 = .ok (.getfield 56, 3) := by decide +kernel
theorem dX1_advance_35 : decode cX1_advance 35 = .ok (.iaload, 1) := by decide +kernel
theorem dX1_advance_36 : decode cX1_advance 36 = .ok (.bipush 32, 2) := by decide +kernel
theorem dX1_advance_38 : decode cX1_advance 38 = .ok (.if_icmp .eq 17, 3) := by decide +kernel
theorem dX1_advance_41 : decode cX1_advance 41 = .ok (.aload_n 0, 1) := by decide +kernel
theorem dX1_advance_42 : decode cX1_advance 42 = .ok (.getfield 9, 3) := by decide +kernel
theorem dX1_advance_45 : decode cX1_advance 45 = .ok (.aload_n 0, 1) := by decide +kernel
theorem dX1_advance_46 : decode cX1_advance 46 = .ok (.getfield 56, 3) := by decide +kernel
theorem dX1_advance_49 : decode cX1_advance 49 = .ok (.iaload, 1) := by decide +kernel
theorem dX1_advance_50 : decode cX1_advance 50 = .ok (.bipush 10, 2) := by decide +kernel
theorem dX1_advance_52 : decode cX1_advance 52 = .ok (.if_icmp .ne 16, 3) := by decide +kernel
theorem dX1_advance_55 : decode cX1_advance 55 = .ok (.aload_n 0, 1) := by decide +kernel
theorem dX1_advance_56 : decode cX1_advance 56 = .ok (.dup, 1) := by decide +kernel
theorem dX1_advance_57 : decode cX1_advance 57 = .ok (.getfield 56, 3) := by decide +kernel
theorem dX1_advance_60 : decode cX1_advance 60 = .ok (.iconst 1, 1) := by decide +kernel
theorem dX1_advance_61 : decode cX1_advance 61 = .ok (.iadd, 1) := by decide +kernel
theorem dX1_advance_62 : decode cX1_advance 62 = .ok (.putfield 56, 3) := by decide +kernel
theorem dX1_advance_65 : decode cX1_advance 65 = .ok (.goto (-49), 3) := by decide +kernel
theorem dX1_advance_68 : decode cX1_advance 68 = .ok (.aload_n 0, 1) := by decide +kernel
theorem dX1_advance_69 : decode cX1_advance 69 = .ok (.aload_n 0, 1) := by decide +kernel
theorem dX1_advance_70 : decode cX1_advance 70 = .ok (.getfield 56, 3) := by decide +kernel
theorem dX1_advance_73 : decode cX1_advance 73 = .ok (.putfield 40, 3) := by decide +kernel
theorem dX1_advance_76 : decode cX1_advance 76 = .ok (.aload_n 0, 1) := by decide +kernel
theorem dX1_advance_77 : decode cX1_advance 77 = .ok (.aload_n 0, 1) := by decide +kernel
theorem dX1_advance_78 : decode cX1_advance 78 = .ok (.aload_n 0, 1) := by decide +kernel
theorem dX1_advance_79 : decode cX1_advance 79 = .ok (.getfield 56, 3) := by decide +kernel
theorem dX1_advance_82 : decode cX1_advance 82 = .ok (.invokevirtual 62, 3) := by decide +kernel
theorem dX1_advance_85 : decode cX1_advance 85 = .ok (.putfield 49, 3) := by decide +kernel
theorem dX1_advance_88 : decode cX1_advance 88 = .ok (.aload_n 0, 1) := by decide +kernel
theorem dX1_advance_89 : decode cX1_advance 89 = .ok (.getfield 49, 3) := by decide +kernel
theorem dX1_advance_92 : decode cX1_advance 92 = .ok (.ifCond .eq 11, 3) := by decide +kernel
theorem dX1_advance_95 : decode cX1_advance 95 = .ok (.aload_n 0, 1) := by decide +kernel
theorem dX1_advance_96 : decode cX1_advance 96 = .ok (.getfield 49, 3) := by decide +kernel
theorem dX1_advance_99 : decode cX1_advance 99 = .ok (.iconst 1, 1) := by decide +kernel
theorem dX1_advance_100 : decode cX1_advance 100 = .ok (.if_icmp .ne 42, 3) := by decide +kernel
theorem dX1_advance_103 : decode cX1_advance 103 = .ok (.aload_n 0, 1) := by decide +kernel
theorem dX1_advance_104 : decode cX1_advance 104 = .ok (.getfield 40, 3) := by decide +kernel
theorem dX1_advance_107 : decode cX1_advance 107 = .ok (.aload_n 0, 1) := by decide +kernel
theorem dX1_advance_108 : decode cX1_advance 108 = .ok (.getfield 25, 3) := by decide +kernel
theorem dX1_advance_111 : decode cX1_advance 111 = .ok (.if_icmp .ge 49, 3) := by decide +kernel
theorem dX1_advance_114 : decode cX1_advance 114 = .ok (.aload_n 0, 1) := by decide +kernel
theorem dX1_advance_115 : decode cX1_advance 115 = .ok (.aload_n 0, 1) := by decide +kernel
theorem dX1_advance_116 : decode cX1_advance 116 = .ok (.getfield 40, 3) := by decide +kernel
theorem dX1_advance_119 : decode cX1_advance 119 = .ok (.invokevirtual 62, 3) := by decide +kernel
theorem dX1_advance_122 : decode cX1_advance 122 = .ok (.aload_n 0, 1) := by decide +kernel
theorem dX1_advance_123 : decode cX1_advance 123 = .ok (.getfield 49, 3) := by decide +kernel
theorem dX1_advance_126 : decode cX1_advance 126 = .ok (.if_icmp .ne 34, 3) := by decide +kernel
theorem dX1_advance_129 : decode cX1_advance 129 = .ok (.aload_n 0, 1) := by decide +kernel
theorem dX1_advance_130 : decode cX1_advance 130 = .ok (.dup, 1) := by decide +kernel
theorem dX1_advance_131 : decode cX1_advance 131 = .ok (.getfield 40, 3) := by decide +kernel
theorem dX1_advance_134 : decode cX1_advance 134 = .ok (.iconst 1, 1) := by decide +kernel
theorem dX1_advance_135 : decode cX1_advance 135 = .ok (.iadd, 1) := by decide +kernel
theorem dX1_advance_136 : decode cX1_advance 136 = .ok (.putfield 40, 3) := by decide +kernel
theorem dX1_advance_139 : decode cX1_advance 139 = .ok (.goto (-36), 3) := by decide +kernel
theorem dX1_advance_142 : decode cX1_advance 142 = .ok (.aload_n 0, 1) := by decide +kernel
theorem dX1_advance_143 : decode cX1_advance 143 = .ok (.getfield 49, 3) := by decide +kernel
theorem dX1_advance_146 : decode cX1_advance 146 = .ok (.iconst 4, 1) := by decide +kernel
theorem dX1_advance_147 : decode cX1_advance 147 = .ok (.if_icmp .eq 13, 3) := by decide +kernel
theorem dX1_advance_150 : decode cX1_advance 150 = .ok (.aload_n 0, 1) := by decide +kernel
theorem dX1_advance_151 : decode cX1_advance 151 = .ok (.dup, 1) := by decide +kernel
theorem dX1_advance_152 : decode cX1_advance 152 = .ok (.getfield 40, 3) := by decide +kernel
theorem dX1_advance_155 : decode cX1_advance 155 = .ok (.iconst 1, 1) := by decide +kernel
theorem dX1_advance_156 : decode cX1_advance 156 = .ok (.iadd, 1) := by decide +kernel
theorem dX1_advance_157 : decode cX1_advance 157 = .ok (.putfield 40, 3) := by decide +kernel
theorem dX1_advance_160 : decode cX1_advance 160 = .ok (.return_, 1) := by decide +kernel
theorem dX1_classify_0 : decode cX1_classify 0 = .ok (.iload_n 1, 1) := by decide +kernel
theorem dX1_classify_1 : decode cX1_classify 1 = .ok (.aload_n 0, 1) := by decide +kernel
theorem dX1_classify_2 : decode cX1_classify 2 = .ok (.getfield 25, 3) := by decide +kernel
theorem dX1_classify_5 : decode cX1_classify 5 = .ok (.if_icmp .lt 5, 3) := by decide +kernel
theorem dX1_classify_8 : decode cX1_classify 8 = .ok (.iconst 4, 1) := by decide +kernel
theorem dX1_classify_9 : decode cX1_classify 9 = .ok (.ireturn, 1) := by decide +kernel
theorem dX1_classify_10 : decode cX1_classify 10 = .ok (.aload_n 0, 1) := by decide +kernel
theorem dX1_classify_11 : decode cX1_classify 11 = .ok (.getfield 9, 3) := by decide +kernel
theorem dX1_classify_14 : decode cX1_classify 14 = .ok (.iload_n 1, 1) := by decide +kernel
theorem dX1_classify_15 : decode cX1_classify 15 = .ok (.iaload, 1) := by decide +kernel
theorem dX1_classify_16 : decode cX1_classify 16 = .ok (.istore_n 2, 1) := by decide +kernel
theorem dX1_classify_17 : decode cX1_classify 17 = .ok (.iload_n 2, 1) := by decide +kernel
theorem dX1_classify_18 : decode cX1_classify 18 = .ok (.bipush 97, 2) := by decide +kernel
theorem dX1_classify_20 : decode cX1_classify 20 = .ok (.if_icmp .lt 11, 3) := by decide +kernel
theorem dX1_classify_23 : decode cX1_classify 23 = .ok (.iload_n 2, 1) := by decide +kernel
theorem dX1_classify_24 : decode cX1_classify 24 = .ok (.bipush 122, 2) := by decide +kernel
theorem dX1_classify_26 : decode cX1_classify 26 = .ok (.if_icmp .gt 5, 3) := by decide +kernel
theorem dX1_classify_29 : decode cX1_classify 29 = .ok (.iconst 0, 1) := by decide +kernel
theorem dX1_classify_30 : decode cX1_classify 30 = .ok (.ireturn, 1) := by decide +kernel
theorem dX1_classify_31 : decode cX1_classify 31 = .ok (.iload_n 2, 1) := by decide +kernel
theorem dX1_classify_32 : decode cX1_classify 32 = .ok (.bipush 48, 2) := by decide +kernel
theorem dX1_classify_34 : decode cX1_classify 34 = .ok (.if_icmp .lt 11, 3) := by decide +kernel
theorem dX1_classify_37 : decode cX1_classify 37 = .ok (.iload_n 2, 1) := by decide +kernel
theorem dX1_classify_38 : decode cX1_classify 38 = .ok (.bipush 57, 2) := by decide +kernel
theorem dX1_classify_40 : decode cX1_classify 40 = .ok (.if_icmp .gt 5, 3) := by decide +kernel
theorem dX1_classify_43 : decode cX1_classify 43 = .ok (.iconst 1, 1) := by decide +kernel
theorem dX1_classify_44 : decode cX1_classify 44 = .ok (.ireturn, 1) := by decide +kernel
theorem dX1_classify_45 : decode cX1_classify 45 = .ok (.iload_n 2, 1) := by decide +kernel
theorem dX1_classify_46 : decode cX1_classify 46 = .ok (.bipush 59, 2) := by decide +kernel
theorem dX1_classify_48 : decode cX1_classify 48 = .ok (.if_icmp .ne 7, 3) := by decide +kernel
theorem dX1_classify_51 : decode cX1_classify 51 = .ok (.iconst 2, 1) := by decide +kernel
theorem dX1_classify_52 : decode cX1_classify 52 = .ok (.goto 4, 3) := by decide +kernel
theorem dX1_classify_55 : decode cX1_classify 55 = .ok (.iconst 3, 1) := by decide +kernel
theorem dX1_classify_56 : decode cX1_classify 56 = .ok (.ireturn, 1) := by decide +kernel
theorem dX1_readLine_0 : decode cX1_readLine 0 = .ok (.aload_n 0, 1) := by decide +kernel
theorem dX1_readLine_1 : decode cX1_readLine 1 = .ok (.invokevirtual 66, 3) := by decide +kernel
theorem dX1_readLine_4 : decode cX1_readLine 4 = .ok (.istore_n 2, 1) := by decide +kernel
theorem dX1_readLine_5 : decode cX1_readLine 5 = .ok (.aload_n 0, 1) := by decide +kernel
theorem dX1_readLine_6 : decode cX1_readLine 6 = .ok (.iload_n 2, 1) := by decide +kernel
theorem dX1_readLine_7 : decode cX1_readLine 7 = .ok (.iload_n 1, 1) := by decide +kernel
theorem dX1_readLine_8 : decode cX1_readLine 8 = .ok (.invokevirtual 70, 3) := by decide +kernel
theorem dX1_readLine_11 : decode cX1_readLine 11 = .ok (.istore_n 3, 1) := by decide +kernel
theorem dX1_readLine_12 : decode cX1_readLine 12 = .ok (.iload_n 3, 1) := by decide +kernel
theorem dX1_readLine_13 : decode cX1_readLine 13 = .ok (.ifCond .eq 13, 3) := by decide +kernel
theorem dX1_readLine_16 : decode cX1_readLine 16 = .ok (.aload_n 0, 1) := by decide +kernel
theorem dX1_readLine_17 : decode cX1_readLine 17 = .ok (.iload_n 3, 1) := by decide +kernel
theorem dX1_readLine_18 : decode cX1_readLine 18 = .ok (.aload_n 0, 1) := by decide +kernel
theorem dX1_readLine_19 : decode cX1_readLine 19 = .ok (.getfield 56, 3) := by decide +kernel
theorem dX1_readLine_22 : decode cX1_readLine 22 = .ok (.invokevirtual 73, 3) := by decide +kernel
theorem dX1_readLine_25 : decode cX1_readLine 25 = .ok (.return_, 1) := by decide +kernel
theorem dX1_readLine_26 : decode cX1_readLine 26 = .ok (.aload_n 0, 1) := by decide +kernel
theorem dX1_readLine_27 : decode cX1_readLine 27 = .ok (.dup, 1) := by decide +kernel
theorem dX1_readLine_28 : decode cX1_readLine 28 = .ok (.getfield 43, 3) := by decide +kernel
theorem dX1_readLine_31 : decode cX1_readLine 31 = .ok (.iconst 1, 1) := by decide +kernel
theorem dX1_readLine_32 : decode cX1_readLine 32 = .ok (.iload_n 2, 1) := by decide +kernel
theorem dX1_readLine_33 : decode cX1_readLine 33 = .ok (.ishl, 1) := by decide +kernel
theorem dX1_readLine_34 : decode cX1_readLine 34 = .ok (.ior, 1) := by decide +kernel
theorem dX1_readLine_35 : decode cX1_readLine 35 = .ok (.putfield 43, 3) := by decide +kernel
theorem dX1_readLine_38 : decode cX1_readLine 38 = .ok (.aload_n 0, 1) := by decide +kernel
theorem dX1_readLine_39 : decode cX1_readLine 39 = .ok (.invokevirtual 46, 3) := by decide +kernel
theorem dX1_readLine_42 : decode cX1_readLine 42 = .ok (.iload_n 2, 1) := by decide +kernel
theorem dX1_readLine_43 : decode cX1_readLine 43 = .ok (.iconst 4, 1) := by decide +kernel
theorem dX1_readLine_44 : decode cX1_readLine 44 = .ok (.if_icmp .gt 11, 3) := by decide +kernel
theorem dX1_readLine_47 : decode cX1_readLine 47 = .ok (.aload_n 0, 1) := by decide +kernel
theorem dX1_readLine_48 : decode cX1_readLine 48 = .ok (.iload_n 2, 1) := by decide +kernel
theorem dX1_readLine_49 : decode cX1_readLine 49 = .ok (.invokevirtual 77, 3) := by decide +kernel
theorem dX1_readLine_52 : decode cX1_readLine 52 = .ok (.goto 34, 3) := by decide +kernel
theorem dX1_readLine_55 : decode cX1_readLine 55 = .ok (.iload_n 2, 1) := by decide +kernel
theorem dX1_readLine_56 : decode cX1_readLine 56 = .ok (.bipush 6, 2) := by decide +kernel
theorem dX1_readLine_58 : decode cX1_readLine 58 = .ok (.if_icmp .ne 10, 3) := by decide +kernel
theorem dX1_readLine_61 : decode cX1_readLine 61 = .ok (.aload_n 0, 1) := by decide +kernel
theorem dX1_readLine_62 : decode cX1_readLine 62 = .ok (.invokevirtual 80, 3) := by decide +kernel
theorem dX1_readLine_65 : decode cX1_readLine 65 = .ok (.goto 21, 3) := by decide +kernel
theorem dX1_readLine_68 : decode cX1_readLine 68 = .ok (.iload_n 2, 1) := by decide +kernel
theorem dX1_readLine_69 : decode cX1_readLine 69 = .ok (.bipush 11, 2) := by decide +kernel
theorem dX1_readLine_71 : decode cX1_readLine 71 = .ok (.if_icmp .ne 10, 3) := by decide +kernel
theorem dX1_readLine_74 : decode cX1_readLine 74 = .ok (.aload_n 0, 1) := by decide +kernel
theorem dX1_readLine_75 : decode cX1_readLine 75 = .ok (.invokevirtual 83, 3) := by decide +kernel
theorem dX1_readLine_78 : decode cX1_readLine 78 = .ok (.goto 8, 3) := by decide +kernel
theorem dX1_readLine_81 : decode cX1_readLine 81 = .ok (.aload_n 0, 1) := by decide +kernel
theorem dX1_readLine_82 : decode cX1_readLine 82 = .ok (.iload_n 2, 1) := by decide +kernel
theorem dX1_readLine_83 : decode cX1_readLine 83 = .ok (.invokevirtual 86, 3) := by decide +kernel
theorem dX1_readLine_86 : decode cX1_readLine 86 = .ok (.aload_n 0, 1) := by decide +kernel
theorem dX1_readLine_87 : decode cX1_readLine 87 = .ok (.getfield 49, 3) := by decide +kernel
theorem dX1_readLine_90 : decode cX1_readLine 90 = .ok (.iconst 2, 1) := by decide +kernel
theorem dX1_readLine_91 : decode cX1_readLine 91 = .ok (.if_icmp .eq 12, 3) := by decide +kernel
theorem dX1_readLine_94 : decode cX1_readLine 94 = .ok (.aload_n 0, 1) := by decide +kernel
theorem dX1_readLine_95 : decode cX1_readLine 95 = .ok (.iconst 1, 1) := by decide +kernel
theorem dX1_readLine_96 : decode cX1_readLine 96 = .ok (.aload_n 0, 1) := by decide +kernel
theorem dX1_readLine_97 : decode cX1_readLine 97 = .ok (.getfield 56, 3) := by decide +kernel
theorem dX1_readLine_100 : decode cX1_readLine 100 = .ok (.invokevirtual 73, 3) := by decide +kernel
theorem dX1_readLine_103 : decode cX1_readLine 103 = .ok (.aload_n 0, 1) := by decide +kernel
theorem dX1_readLine_104 : decode cX1_readLine 104 = .ok (.invokevirtual 46, 3) := by decide +kernel
theorem dX1_readLine_107 : decode cX1_readLine 107 = .ok (.return_, 1) := by decide +kernel
theorem dX1_findWord_0 : decode cX1_findWord 0 = .ok (.aload_n 0, 1) := by decide +kernel
theorem dX1_findWord_1 : decode cX1_findWord 1 = .ok (.getfield 49, 3) := by decide +kernel
theorem dX1_findWord_4 : decode cX1_findWord 4 = .ok (.ifCond .eq 5, 3) := by decide +kernel
theorem dX1_findWord_7 : decode cX1_findWord 7 = .ok (.iconst (-1), 1) := by decide +kernel
theorem dX1_findWord_8 : decode cX1_findWord 8 = .ok (.ireturn, 1) := by decide +kernel
theorem dX1_findWord_9 : decode cX1_findWord 9 = .ok (.iconst 0, 1) := by decide +kernel
theorem dX1_findWord_10 : decode cX1_findWord 10 = .ok (.istore_n 1, 1) := by decide +kernel
theorem dX1_findWord_11 : decode cX1_findWord 11 = .ok (.iconst 0, 1) := by decide +kernel
theorem dX1_findWord_12 : decode cX1_findWord 12 = .ok (.istore_n 2, 1) := by decide +kernel
theorem dX1_findWord_13 : decode cX1_findWord 13 = .ok (.iconst 0, 1) := by decide +kernel
theorem dX1_findWord_14 : decode cX1_findWord 14 = .ok (.istore_n 3, 1) := by decide +kernel
theorem dX1_findWord_15 : decode cX1_findWord 15 = .ok (.iload_n 3, 1) := by decide +kernel
theorem dX1_findWord_16 : decode cX1_findWord 16 = .ok (.ldc 89, 2) := by decide +kernel
theorem dX1_findWord_18 : decode cX1_findWord 18 = .ok (.invokevirtual 91, 3) := by decide +kernel
theorem dX1_findWord_21 : decode cX1_findWord 21 = .ok (.if_icmp .ge 38, 3) := by decide +kernel
theorem dX1_findWord_24 : decode cX1_findWord 24 = .ok (.ldc 89, 2) := by decide +kernel
theorem dX1_findWord_26 : decode cX1_findWord 26 = .ok (.iload_n 3, 1) := by decide +kernel
theorem dX1_findWord_27 : decode cX1_findWord 27 = .ok (.invokevirtual 95, 3) := by decide +kernel
theorem dX1_findWord_30 : decode cX1_findWord 30 = .ok (.bipush 32, 2) := by decide +kernel
theorem dX1_findWord_32 : decode cX1_findWord 32 = .ok (.if_icmp .ne 21, 3) := by decide +kernel
theorem dX1_findWord_35 : decode cX1_findWord 35 = .ok (.aload_n 0, 1) := by decide +kernel
theorem dX1_findWord_36 : decode cX1_findWord 36 = .ok (.iload_n 2, 1) := by decide +kernel
theorem dX1_findWord_37 : decode cX1_findWord 37 = .ok (.iload_n 3, 1) := by decide +kernel
theorem dX1_findWord_38 : decode cX1_findWord 38 = .ok (.invokevirtual 99, 3) := by decide +kernel
theorem dX1_findWord_41 : decode cX1_findWord 41 = .ok (.ifCond .eq 5, 3) := by decide +kernel
theorem dX1_findWord_44 : decode cX1_findWord 44 = .ok (.iload_n 1, 1) := by decide +kernel
theorem dX1_findWord_45 : decode cX1_findWord 45 = .ok (.ireturn, 1) := by decide +kernel
theorem dX1_findWord_46 : decode cX1_findWord 46 = .ok (.iinc 1 1, 3) := by decide +kernel
theorem dX1_findWord_49 : decode cX1_findWord 49 = .ok (.iload_n 3, 1) := by decide +kernel
theorem dX1_findWord_50 : decode cX1_findWord 50 = .ok (.iconst 1, 1) := by decide +kernel
theorem dX1_findWord_51 : decode cX1_findWord 51 = .ok (.iadd, 1) := by decide +kernel
theorem dX1_findWord_52 : decode cX1_findWord 52 = .ok (.istore_n 2, 1) := by decide +kernel
theorem dX1_findWord_53 : decode cX1_findWord 53 = .ok (.iinc 3 1, 3) := by decide +kernel
theorem dX1_findWord_56 : decode cX1_findWord 56 = .ok (.goto (-41), 3) := by decide +kernel
theorem dX1_findWord_59 : decode cX1_findWord 59 = .ok (.iconst (-1), 1) := by decide +kernel
theorem dX1_findWord_60 : decode cX1_findWord 60 = .ok (.ireturn, 1) := by decide +kernel
theorem dX1_isSpelt_0 : decode cX1_isSpelt 0 = .ok (.iload_n 2, 1) := by decide +kernel
theorem dX1_isSpelt_1 : decode cX1_isSpelt 1 = .ok (.iload_n 1, 1) := by decide +kernel
theorem dX1_isSpelt_2 : decode cX1_isSpelt 2 = .ok (.isub, 1) := by decide +kernel
theorem dX1_isSpelt_3 : decode cX1_isSpelt 3 = .ok (.aload_n 0, 1) := by decide +kernel
theorem dX1_isSpelt_4 : decode cX1_isSpelt 4 = .ok (.getfield 40, 3) := by decide +kernel
theorem dX1_isSpelt_7 : decode cX1_isSpelt 7 = .ok (.aload_n 0, 1) := by decide +kernel
theorem dX1_isSpelt_8 : decode cX1_isSpelt 8 = .ok (.getfield 56, 3) := by decide +kernel
theorem dX1_isSpelt_11 : decode cX1_isSpelt 11 = .ok (.isub, 1) := by decide +kernel
theorem dX1_isSpelt_12 : decode cX1_isSpelt 12 = .ok (.if_icmp .eq 5, 3) := by decide +kernel
theorem dX1_isSpelt_15 : decode cX1_isSpelt 15 = .ok (.iconst 0, 1) := by decide +kernel
theorem dX1_isSpelt_16 : decode cX1_isSpelt 16 = .ok (.ireturn, 1) := by decide +kernel
theorem dX1_isSpelt_17 : decode cX1_isSpelt 17 = .ok (.iload_n 1, 1) := by decide +kernel
theorem dX1_isSpelt_18 : decode cX1_isSpelt 18 = .ok (.istore_n 3, 1) := by decide +kernel
theorem dX1_isSpelt_19 : decode cX1_isSpelt 19 = .ok (.iload_n 3, 1) := by decide +kernel
theorem dX1_isSpelt_20 : decode cX1_isSpelt 20 = .ok (.iload_n 2, 1) := by decide +kernel
theorem dX1_isSpelt_21 : decode cX1_isSpelt 21 = .ok (.if_icmp .ge 33, 3) := by decide +kernel
theorem dX1_isSpelt_24 : decode cX1_isSpelt 24 = .ok (.ldc 89, 2) := by decide +kernel
theorem dX1_isSpelt_26 : decode cX1_isSpelt 26 = .ok (.iload_n 3, 1) := by decide +kernel
theorem dX1_isSpelt_27 : decode cX1_isSpelt 27 = .ok (.invokevirtual 95, 3) := by decide +kernel
theorem dX1_isSpelt_30 : decode cX1_isSpelt 30 = .ok (.aload_n 0, 1) := by decide +kernel
theorem dX1_isSpelt_31 : decode cX1_isSpelt 31 = .ok (.getfield 9, 3) := by decide +kernel
theorem dX1_isSpelt_34 : decode cX1_isSpelt 34 = .ok (.aload_n 0, 1) := by decide +kernel
theorem dX1_isSpelt_35 : decode cX1_isSpelt 35 = .ok (.getfield 56, 3) := by decide +kernel
theorem dX1_isSpelt_38 : decode cX1_isSpelt 38 = .ok (.iload_n 3, 1) := by decide +kernel
theorem dX1_isSpelt_39 : decode cX1_isSpelt 39 = .ok (.iadd, 1) := by decide +kernel
theorem dX1_isSpelt_40 : decode cX1_isSpelt 40 = .ok (.iload_n 1, 1) := by decide +kernel
theorem dX1_isSpelt_41 : decode cX1_isSpelt 41 = .ok (.isub, 1) := by decide +kernel
theorem dX1_isSpelt_42 : decode cX1_isSpelt 42 = .ok (.iaload, 1) := by decide +kernel
theorem dX1_isSpelt_43 : decode cX1_isSpelt 43 = .ok (.if_icmp .eq 5, 3) := by decide +kernel
theorem dX1_isSpelt_46 : decode cX1_isSpelt 46 = .ok (.iconst 0, 1) := by decide +kernel
theorem dX1_isSpelt_47 : decode cX1_isSpelt 47 = .ok (.ireturn, 1) := by decide +kernel
theorem dX1_isSpelt_48 : decode cX1_isSpelt 48 = .ok (.iinc 3 1, 3) := by decide +kernel
theorem dX1_isSpelt_51 : decode cX1_isSpelt 51 = .ok (.goto (-32), 3) := by decide +kernel
theorem dX1_isSpelt_54 : decode cX1_isSpelt 54 = .ok (.iconst 1, 1) := by decide +kernel
theorem dX1_isSpelt_55 : decode cX1_isSpelt 55 = .ok (.ireturn, 1) := by decide +kernel
theorem dX1_judgeWord_0 : decode cX1_judgeWord 0 = .ok (.iload_n 1, 1) := by decide +kernel
theorem dX1_judgeWord_1 : decode cX1_judgeWord 1 = .ok (.iconst (-1), 1) := by decide +kernel
theorem dX1_judgeWord_2 : decode cX1_judgeWord 2 = .ok (.if_icmp .ne 5, 3) := by decide +kernel
theorem dX1_judgeWord_5 : decode cX1_judgeWord 5 = .ok (.iconst 1, 1) := by decide +kernel
theorem dX1_judgeWord_6 : decode cX1_judgeWord 6 = .ok (.ireturn, 1) := by decide +kernel
theorem dX1_judgeWord_7 : decode cX1_judgeWord 7 = .ok (.iload_n 1, 1) := by decide +kernel
theorem dX1_judgeWord_8 : decode cX1_judgeWord 8 = .ok (.iconst 4, 1) := by decide +kernel
theorem dX1_judgeWord_9 : decode cX1_judgeWord 9 = .ok (.if_icmp .gt 21, 3) := by decide +kernel
theorem dX1_judgeWord_12 : decode cX1_judgeWord 12 = .ok (.aload_n 0, 1) := by decide +kernel
theorem dX1_judgeWord_13 : decode cX1_judgeWord 13 = .ok (.getfield 15, 3) := by decide +kernel
theorem dX1_judgeWord_16 : decode cX1_judgeWord 16 = .ok (.getfield 103, 3) := by decide +kernel
theorem dX1_judgeWord_19 : decode cX1_judgeWord 19 = .ok (.bipush 6, 2) := by decide +kernel
theorem dX1_judgeWord_21 : decode cX1_judgeWord 21 = .ok (.if_icmp .lt 7, 3) := by decide +kernel
theorem dX1_judgeWord_24 : decode cX1_judgeWord 24 = .ok (.iconst 2, 1) := by decide +kernel
theorem dX1_judgeWord_25 : decode cX1_judgeWord 25 = .ok (.goto 4, 3) := by decide +kernel
theorem dX1_judgeWord_28 : decode cX1_judgeWord 28 = .ok (.iconst 0, 1) := by decide +kernel
theorem dX1_judgeWord_29 : decode cX1_judgeWord 29 = .ok (.ireturn, 1) := by decide +kernel
theorem dX1_judgeWord_30 : decode cX1_judgeWord 30 = .ok (.iload_n 1, 1) := by decide +kernel
theorem dX1_judgeWord_31 : decode cX1_judgeWord 31 = .ok (.bipush 11, 2) := by decide +kernel
theorem dX1_judgeWord_33 : decode cX1_judgeWord 33 = .ok (.if_icmp .ne 21, 3) := by decide +kernel
theorem dX1_judgeWord_36 : decode cX1_judgeWord 36 = .ok (.aload_n 0, 1) := by decide +kernel
theorem dX1_judgeWord_37 : decode cX1_judgeWord 37 = .ok (.getfield 15, 3) := by decide +kernel
theorem dX1_judgeWord_40 : decode cX1_judgeWord 40 = .ok (.getfield 106, 3) := by decide +kernel
theorem dX1_judgeWord_43 : decode cX1_judgeWord 43 = .ok (.bipush 10, 2) := by decide +kernel
theorem dX1_judgeWord_45 : decode cX1_judgeWord 45 = .ok (.if_icmp .lt 7, 3) := by decide +kernel
theorem dX1_judgeWord_48 : decode cX1_judgeWord 48 = .ok (.iconst 2, 1) := by decide +kernel
theorem dX1_judgeWord_49 : decode cX1_judgeWord 49 = .ok (.goto 4, 3) := by decide +kernel
theorem dX1_judgeWord_52 : decode cX1_judgeWord 52 = .ok (.iconst 0, 1) := by decide +kernel
theorem dX1_judgeWord_53 : decode cX1_judgeWord 53 = .ok (.ireturn, 1) := by decide +kernel
theorem dX1_judgeWord_54 : decode cX1_judgeWord 54 = .ok (.iload_n 1, 1) := by decide +kernel
theorem dX1_judgeWord_55 : decode cX1_judgeWord 55 = .ok (.bipush 6, 2) := by decide +kernel
theorem dX1_judgeWord_57 : decode cX1_judgeWord 57 = .ok (.if_icmp .ne 5, 3) := by decide +kernel
theorem dX1_judgeWord_60 : decode cX1_judgeWord 60 = .ok (.iconst 0, 1) := by decide +kernel
theorem dX1_judgeWord_61 : decode cX1_judgeWord 61 = .ok (.ireturn, 1) := by decide +kernel
theorem dX1_judgeWord_62 : decode cX1_judgeWord 62 = .ok (.iload_n 1, 1) := by decide +kernel
theorem dX1_judgeWord_63 : decode cX1_judgeWord 63 = .ok (.iconst 5, 1) := by decide +kernel
theorem dX1_judgeWord_64 : decode cX1_judgeWord 64 = .ok (.if_icmp .ne 15, 3) := by decide +kernel
theorem dX1_judgeWord_67 : decode cX1_judgeWord 67 = .ok (.iload_n 2, 1) := by decide +kernel
theorem dX1_judgeWord_68 : decode cX1_judgeWord 68 = .ok (.ifCond .le 7, 3) := by decide +kernel
theorem dX1_judgeWord_71 : decode cX1_judgeWord 71 = .ok (.iconst 1, 1) := by decide +kernel
theorem dX1_judgeWord_72 : decode cX1_judgeWord 72 = .ok (.goto 23, 3) := by decide +kernel
theorem dX1_judgeWord_75 : decode cX1_judgeWord 75 = .ok (.iconst 0, 1) := by decide +kernel
theorem dX1_judgeWord_76 : decode cX1_judgeWord 76 = .ok (.goto 19, 3) := by decide +kernel
theorem dX1_judgeWord_79 : decode cX1_judgeWord 79 = .ok (.aload_n 0, 1) := by decide +kernel
theorem dX1_judgeWord_80 : decode cX1_judgeWord 80 = .ok (.getfield 43, 3) := by decide +kernel
theorem dX1_judgeWord_83 : decode cX1_judgeWord 83 = .ok (.iload_n 1, 1) := by decide +kernel
theorem dX1_judgeWord_84 : decode cX1_judgeWord 84 = .ok (.iushr, 1) := by decide +kernel
theorem dX1_judgeWord_85 : decode cX1_judgeWord 85 = .ok (.iconst 1, 1) := by decide +kernel
theorem dX1_judgeWord_86 : decode cX1_judgeWord 86 = .ok (.iand, 1) := by decide +kernel
theorem dX1_judgeWord_87 : decode cX1_judgeWord 87 = .ok (.ifCond .eq 7, 3) := by decide +kernel
theorem dX1_judgeWord_90 : decode cX1_judgeWord 90 = .ok (.iconst 1, 1) := by decide +kernel
theorem dX1_judgeWord_91 : decode cX1_judgeWord 91 = .ok (.goto 4, 3) := by decide +kernel
theorem dX1_judgeWord_94 : decode cX1_judgeWord 94 = .ok (.iconst 0, 1) := by decide +kernel
theorem dX1_judgeWord_95 : decode cX1_judgeWord 95 = .ok (.istore_n 3, 1) := by decide +kernel
theorem dX1_judgeWord_96 : decode cX1_judgeWord 96 = .ok (.iload_n 3, 1) := by decide +kernel
theorem dX1_judgeWord_97 : decode cX1_judgeWord 97 = .ok (.ifCond .eq 7, 3) := by decide +kernel
theorem dX1_judgeWord_100 : decode cX1_judgeWord 100 = .ok (.iconst 4, 1) := by decide +kernel
theorem dX1_judgeWord_101 : decode cX1_judgeWord 101 = .ok (.goto 4, 3) := by decide +kernel
theorem dX1_judgeWord_104 : decode cX1_judgeWord 104 = .ok (.iconst 0, 1) := by decide +kernel
theorem dX1_judgeWord_105 : decode cX1_judgeWord 105 = .ok (.ireturn, 1) := by decide +kernel
theorem dX1_readKind_0 : decode cX1_readKind 0 = .ok (.aload_n 0, 1) := by decide +kernel
theorem dX1_readKind_1 : decode cX1_readKind 1 = .ok (.iconst 0, 1) := by decide +kernel
theorem dX1_readKind_2 : decode cX1_readKind 2 = .ok (.iconst 1, 1) := by decide +kernel
theorem dX1_readKind_3 : decode cX1_readKind 3 = .ok (.iconst 2, 1) := by decide +kernel
theorem dX1_readKind_4 : decode cX1_readKind 4 = .ok (.invokevirtual 109, 3) := by decide +kernel
theorem dX1_readKind_7 : decode cX1_readKind 7 = .ok (.istore_n 2, 1) := by decide +kernel
theorem dX1_readKind_8 : decode cX1_readKind 8 = .ok (.aload_n 0, 1) := by decide +kernel
theorem dX1_readKind_9 : decode cX1_readKind 9 = .ok (.iconst 0, 1) := by decide +kernel
theorem dX1_readKind_10 : decode cX1_readKind 10 = .ok (.aload_n 0, 1) := by decide +kernel
theorem dX1_readKind_11 : decode cX1_readKind 11 = .ok (.getfield 15, 3) := by decide +kernel
theorem dX1_readKind_14 : decode cX1_readKind 14 = .ok (.getfield 113, 3) := by decide +kernel
theorem dX1_readKind_17 : decode cX1_readKind 17 = .ok (.iconst 2, 1) := by decide +kernel
theorem dX1_readKind_18 : decode cX1_readKind 18 = .ok (.invokevirtual 109, 3) := by decide +kernel
theorem dX1_readKind_21 : decode cX1_readKind 21 = .ok (.istore_n 3, 1) := by decide +kernel
theorem dX1_readKind_22 : decode cX1_readKind 22 = .ok (.aload_n 0, 1) := by decide +kernel
theorem dX1_readKind_23 : decode cX1_readKind 23 = .ok (.iconst 0, 1) := by decide +kernel
theorem dX1_readKind_24 : decode cX1_readKind 24 = .ok (.aload_n 0, 1) := by decide +kernel
theorem dX1_readKind_25 : decode cX1_readKind 25 = .ok (.getfield 15, 3) := by decide +kernel
theorem dX1_readKind_28 : decode cX1_readKind 28 = .ok (.getfield 113, 3) := by decide +kernel
theorem dX1_readKind_31 : decode cX1_readKind 31 = .ok (.iload_n 3, 1) := by decide +kernel
theorem dX1_readKind_32 : decode cX1_readKind 32 = .ok (.isub, 1) := by decide +kernel
theorem dX1_readKind_33 : decode cX1_readKind 33 = .ok (.iconst 2, 1) := by decide +kernel
theorem dX1_readKind_34 : decode cX1_readKind 34 = .ok (.invokevirtual 109, 3) := by decide +kernel
theorem dX1_readKind_37 : decode cX1_readKind 37 = .ok (.istore 4, 2) := by decide +kernel
theorem dX1_readKind_39 : decode cX1_readKind 39 = .ok (.aload_n 0, 1) := by decide +kernel
theorem dX1_readKind_40 : decode cX1_readKind 40 = .ok (.getfield 34, 3) := by decide +kernel
theorem dX1_readKind_43 : decode cX1_readKind 43 = .ok (.ifCond .ne 15, 3) := by decide +kernel
theorem dX1_readKind_46 : decode cX1_readKind 46 = .ok (.aload_n 0, 1) := by decide +kernel
theorem dX1_readKind_47 : decode cX1_readKind 47 = .ok (.getfield 15, 3) := by decide +kernel
theorem dX1_readKind_50 : decode cX1_readKind 50 = .ok (.iload_n 1, 1) := by decide +kernel
theorem dX1_readKind_51 : decode cX1_readKind 51 = .ok (.iload_n 2, 1) := by decide +kernel
theorem dX1_readKind_52 : decode cX1_readKind 52 = .ok (.iload_n 3, 1) := by decide +kernel
theorem dX1_readKind_53 : decode cX1_readKind 53 = .ok (.iload 4, 2) := by decide +kernel
theorem dX1_readKind_55 : decode cX1_readKind 55 = .ok (.invokevirtual 116, 3) := by decide +kernel
theorem dX1_readKind_58 : decode cX1_readKind 58 = .ok (.return_, 1) := by decide +kernel
theorem dX1_readLikes_0 : decode cX1_readLikes 0 = .ok (.aload_n 0, 1) := by decide +kernel
theorem dX1_readLikes_1 : decode cX1_readLikes 1 = .ok (.invokevirtual 120, 3) := by decide +kernel
theorem dX1_readLikes_4 : decode cX1_readLikes 4 = .ok (.istore_n 1, 1) := by decide +kernel
theorem dX1_readLikes_5 : decode cX1_readLikes 5 = .ok (.aload_n 0, 1) := by decide +kernel
theorem dX1_readLikes_6 : decode cX1_readLikes 6 = .ok (.getfield 34, 3) := by decide +kernel
theorem dX1_readLikes_9 : decode cX1_readLikes 9 = .ok (.ifCond .ne 25, 3) := by decide +kernel
theorem dX1_readLikes_12 : decode cX1_readLikes 12 = .ok (.aload_n 0, 1) := by decide +kernel
theorem dX1_readLikes_13 : decode cX1_readLikes 13 = .ok (.getfield 15, 3) := by decide +kernel
theorem dX1_readLikes_16 : decode cX1_readLikes 16 = .ok (.getfield 123, 3) := by decide +kernel
theorem dX1_readLikes_19 : decode cX1_readLikes 19 = .ok (.iload_n 1, 1) := by decide +kernel
theorem dX1_readLikes_20 : decode cX1_readLikes 20 = .ok (.iaload, 1) := by decide +kernel
theorem dX1_readLikes_21 : decode cX1_readLikes 21 = .ok (.iconst (-1), 1) := by decide +kernel
theorem dX1_readLikes_22 : decode cX1_readLikes 22 = .ok (.if_icmp .eq 12, 3) := by decide +kernel
theorem dX1_readLikes_25 : decode cX1_readLikes 25 = .ok (.aload_n 0, 1) := by decide +kernel
theorem dX1_readLikes_26 : decode cX1_readLikes 26 = .ok (.iconst 5, 1) := by decide +kernel
theorem dX1_readLikes_27 : decode cX1_readLikes 27 = .ok (.aload_n 0, 1) := by decide +kernel
theorem dX1_readLikes_28 : decode cX1_readLikes 28 = .ok (.getfield 59, 3) := by decide +kernel
theorem dX1_readLikes_31 : decode cX1_readLikes 31 = .ok (.invokevirtual 73, 3) := by decide +kernel
theorem dX1_readLikes_34 : decode cX1_readLikes 34 = .ok (.aload_n 0, 1) := by decide +kernel
theorem dX1_readLikes_35 : decode cX1_readLikes 35 = .ok (.invokevirtual 120, 3) := by decide +kernel
theorem dX1_readLikes_38 : decode cX1_readLikes 38 = .ok (.istore_n 2, 1) := by decide +kernel
theorem dX1_readLikes_39 : decode cX1_readLikes 39 = .ok (.iload_n 2, 1) := by decide +kernel
theorem dX1_readLikes_40 : decode cX1_readLikes 40 = .ok (.iload_n 1, 1) := by decide +kernel
theorem dX1_readLikes_41 : decode cX1_readLikes 41 = .ok (.if_icmp .ne 12, 3) := by decide +kernel
theorem dX1_readLikes_44 : decode cX1_readLikes 44 = .ok (.aload_n 0, 1) := by decide +kernel
theorem dX1_readLikes_45 : decode cX1_readLikes 45 = .ok (.iconst 5, 1) := by decide +kernel
theorem dX1_readLikes_46 : decode cX1_readLikes 46 = .ok (.aload_n 0, 1) := by decide +kernel
theorem dX1_readLikes_47 : decode cX1_readLikes 47 = .ok (.getfield 59, 3) := by decide +kernel
theorem dX1_readLikes_50 : decode cX1_readLikes 50 = .ok (.invokevirtual 73, 3) := by decide +kernel
theorem dX1_readLikes_53 : decode cX1_readLikes 53 = .ok (.aload_n 0, 1) := by decide +kernel
theorem dX1_readLikes_54 : decode cX1_readLikes 54 = .ok (.getfield 34, 3) := by decide +kernel
theorem dX1_readLikes_57 : decode cX1_readLikes 57 = .ok (.ifCond .ne 13, 3) := by decide +kernel
theorem dX1_readLikes_60 : decode cX1_readLikes 60 = .ok (.aload_n 0, 1) := by decide +kernel
theorem dX1_readLikes_61 : decode cX1_readLikes 61 = .ok (.getfield 15, 3) := by decide +kernel
theorem dX1_readLikes_64 : decode cX1_readLikes 64 = .ok (.getfield 123, 3) := by decide +kernel
theorem dX1_readLikes_67 : decode cX1_readLikes 67 = .ok (.iload_n 1, 1) := by decide +kernel
theorem dX1_readLikes_68 : decode cX1_readLikes 68 = .ok (.iload_n 2, 1) := by decide +kernel
theorem dX1_readLikes_69 : decode cX1_readLikes 69 = .ok (.iastore, 1) := by decide +kernel
theorem dX1_readLikes_70 : decode cX1_readLikes 70 = .ok (.return_, 1) := by decide +kernel
theorem dX1_readFog_0 : decode cX1_readFog 0 = .ok (.aload_n 0, 1) := by decide +kernel
theorem dX1_readFog_1 : decode cX1_readFog 1 = .ok (.iconst 0, 1) := by decide +kernel
theorem dX1_readFog_2 : decode cX1_readFog 2 = .ok (.bipush 99, 2) := by decide +kernel
theorem dX1_readFog_4 : decode cX1_readFog 4 = .ok (.iconst 2, 1) := by decide +kernel
theorem dX1_readFog_5 : decode cX1_readFog 5 = .ok (.invokevirtual 109, 3) := by decide +kernel
theorem dX1_readFog_8 : decode cX1_readFog 8 = .ok (.istore_n 1, 1) := by decide +kernel
theorem dX1_readFog_9 : decode cX1_readFog 9 = .ok (.aload_n 0, 1) := by decide +kernel
theorem dX1_readFog_10 : decode cX1_readFog 10 = .ok (.invokevirtual 120, 3) := by decide +kernel
theorem dX1_readFog_13 : decode cX1_readFog 13 = .ok (.istore_n 2, 1) := by decide +kernel
theorem dX1_readFog_14 : decode cX1_readFog 14 = .ok (.aload_n 0, 1) := by decide +kernel
theorem dX1_readFog_15 : decode cX1_readFog 15 = .ok (.invokevirtual 120, 3) := by decide +kernel
theorem dX1_readFog_18 : decode cX1_readFog 18 = .ok (.istore_n 3, 1) := by decide +kernel
theorem dX1_readFog_19 : decode cX1_readFog 19 = .ok (.iload_n 2, 1) := by decide +kernel
theorem dX1_readFog_20 : decode cX1_readFog 20 = .ok (.iload_n 3, 1) := by decide +kernel
theorem dX1_readFog_21 : decode cX1_readFog 21 = .ok (.if_icmp .ne 12, 3) := by decide +kernel
theorem dX1_readFog_24 : decode cX1_readFog 24 = .ok (.aload_n 0, 1) := by decide +kernel
theorem dX1_readFog_25 : decode cX1_readFog 25 = .ok (.iconst 5, 1) := by decide +kernel
theorem dX1_readFog_26 : decode cX1_readFog 26 = .ok (.aload_n 0, 1) := by decide +kernel
theorem dX1_readFog_27 : decode cX1_readFog 27 = .ok (.getfield 59, 3) := by decide +kernel
theorem dX1_readFog_30 : decode cX1_readFog 30 = .ok (.invokevirtual 73, 3) := by decide +kernel
theorem dX1_readFog_33 : decode cX1_readFog 33 = .ok (.aload_n 0, 1) := by decide +kernel
theorem dX1_readFog_34 : decode cX1_readFog 34 = .ok (.getfield 34, 3) := by decide +kernel
theorem dX1_readFog_37 : decode cX1_readFog 37 = .ok (.ifCond .ne 13, 3) := by decide +kernel
theorem dX1_readFog_40 : decode cX1_readFog 40 = .ok (.aload_n 0, 1) := by decide +kernel
theorem dX1_readFog_41 : decode cX1_readFog 41 = .ok (.getfield 15, 3) := by decide +kernel
theorem dX1_readFog_44 : decode cX1_readFog 44 = .ok (.iload_n 1, 1) := by decide +kernel
theorem dX1_readFog_45 : decode cX1_readFog 45 = .ok (.iload_n 2, 1) := by decide +kernel
theorem dX1_readFog_46 : decode cX1_readFog 46 = .ok (.iload_n 3, 1) := by decide +kernel
theorem dX1_readFog_47 : decode cX1_readFog 47 = .ok (.invokevirtual 126, 3) := by decide +kernel
theorem dX1_readFog_50 : decode cX1_readFog 50 = .ok (.return_, 1) := by decide +kernel
theorem dX1_readSetting_0 : decode cX1_readSetting 0 = .ok (.iload_n 1, 1) := by decide +kernel
theorem dX1_readSetting_1 : decode cX1_readSetting 1 = .ok (.tableswitch 129 5 10 #[39, 129, 57, 75, 93, 111], 39) := by decide +kernel
theorem dX1_readSetting_40 : decode cX1_readSetting 40 = .ok (.aload_n 0, 1) := by decide +kernel
theorem dX1_readSetting_41 : decode cX1_readSetting 41 = .ok (.getfield 15, 3) := by decide +kernel
theorem dX1_readSetting_44 : decode cX1_readSetting 44 = .ok (.aload_n 0, 1) := by decide +kernel
theorem dX1_readSetting_45 : decode cX1_readSetting 45 = .ok (.iconst 1, 1) := by decide +kernel
theorem dX1_readSetting_46 : decode cX1_readSetting 46 = .ok (.bipush 30, 2) := by decide +kernel
theorem dX1_readSetting_48 : decode cX1_readSetting 48 = .ok (.iconst 2, 1) := by decide +kernel
theorem dX1_readSetting_49 : decode cX1_readSetting 49 = .ok (.invokevirtual 109, 3) := by decide +kernel
theorem dX1_readSetting_52 : decode cX1_readSetting 52 = .ok (.putfield 113, 3) := by decide +kernel
theorem dX1_readSetting_55 : decode cX1_readSetting 55 = .ok (.goto 75, 3) := by decide +kernel
theorem dX1_readSetting_58 : decode cX1_readSetting 58 = .ok (.aload_n 0, 1) := by decide +kernel
theorem dX1_readSetting_59 : decode cX1_readSetting 59 = .ok (.getfield 15, 3) := by decide +kernel
theorem dX1_readSetting_62 : decode cX1_readSetting 62 = .ok (.aload_n 0, 1) := by decide +kernel
theorem dX1_readSetting_63 : decode cX1_readSetting 63 = .ok (.iconst 1, 1) := by decide +kernel
theorem dX1_readSetting_64 : decode cX1_readSetting 64 = .ok (.bipush 9, 2) := by decide +kernel
theorem dX1_readSetting_66 : decode cX1_readSetting 66 = .ok (.iconst 2, 1) := by decide +kernel
theorem dX1_readSetting_67 : decode cX1_readSetting 67 = .ok (.invokevirtual 109, 3) := by decide +kernel
theorem dX1_readSetting_70 : decode cX1_readSetting 70 = .ok (.putfield 130, 3) := by decide +kernel
theorem dX1_readSetting_73 : decode cX1_readSetting 73 = .ok (.goto 57, 3) := by decide +kernel
theorem dX1_readSetting_76 : decode cX1_readSetting 76 = .ok (.aload_n 0, 1) := by decide +kernel
theorem dX1_readSetting_77 : decode cX1_readSetting 77 = .ok (.getfield 15, 3) := by decide +kernel
theorem dX1_readSetting_80 : decode cX1_readSetting 80 = .ok (.aload_n 0, 1) := by decide +kernel
theorem dX1_readSetting_81 : decode cX1_readSetting 81 = .ok (.iconst 0, 1) := by decide +kernel
theorem dX1_readSetting_82 : decode cX1_readSetting 82 = .ok (.bipush 9, 2) := by decide +kernel
theorem dX1_readSetting_84 : decode cX1_readSetting 84 = .ok (.iconst 2, 1) := by decide +kernel
theorem dX1_readSetting_85 : decode cX1_readSetting 85 = .ok (.invokevirtual 109, 3) := by decide +kernel
theorem dX1_readSetting_88 : decode cX1_readSetting 88 = .ok (.putfield 133, 3) := by decide +kernel
theorem dX1_readSetting_91 : decode cX1_readSetting 91 = .ok (.goto 39, 3) := by decide +kernel
theorem dX1_readSetting_94 : decode cX1_readSetting 94 = .ok (.aload_n 0, 1) := by decide +kernel
theorem dX1_readSetting_95 : decode cX1_readSetting 95 = .ok (.getfield 15, 3) := by decide +kernel
theorem dX1_readSetting_98 : decode cX1_readSetting 98 = .ok (.aload_n 0, 1) := by decide +kernel
theorem dX1_readSetting_99 : decode cX1_readSetting 99 = .ok (.iconst 0, 1) := by decide +kernel
theorem dX1_readSetting_100 : decode cX1_readSetting 100 = .ok (.bipush 9, 2) := by decide +kernel
theorem dX1_readSetting_102 : decode cX1_readSetting 102 = .ok (.iconst 2, 1) := by decide +kernel
theorem dX1_readSetting_103 : decode cX1_readSetting 103 = .ok (.invokevirtual 109, 3) := by decide +kernel
theorem dX1_readSetting_106 : decode cX1_readSetting 106 = .ok (.putfield 136, 3) := by decide +kernel
theorem dX1_readSetting_109 : decode cX1_readSetting 109 = .ok (.goto 21, 3) := by decide +kernel
theorem dX1_readSetting_112 : decode cX1_readSetting 112 = .ok (.aload_n 0, 1) := by decide +kernel
theorem dX1_readSetting_113 : decode cX1_readSetting 113 = .ok (.getfield 15, 3) := by decide +kernel
theorem dX1_readSetting_116 : decode cX1_readSetting 116 = .ok (.aload_n 0, 1) := by decide +kernel
theorem dX1_readSetting_117 : decode cX1_readSetting 117 = .ok (.iconst 1, 1) := by decide +kernel
theorem dX1_readSetting_118 : decode cX1_readSetting 118 = .ok (.bipush 99, 2) := by decide +kernel
theorem dX1_readSetting_120 : decode cX1_readSetting 120 = .ok (.iconst 2, 1) := by decide +kernel
theorem dX1_readSetting_121 : decode cX1_readSetting 121 = .ok (.invokevirtual 109, 3) := by decide +kernel
theorem dX1_readSetting_124 : decode cX1_readSetting 124 = .ok (.putfield 139, 3) := by decide +kernel
theorem dX1_readSetting_127 : decode cX1_readSetting 127 = .ok (.goto 3, 3) := by decide +kernel
theorem dX1_readSetting_130 : decode cX1_readSetting 130 = .ok (.return_, 1) := by decide +kernel
theorem dX1_readLamp_0 : decode cX1_readLamp 0 = .ok (.aload_n 0, 1) := by decide +kernel
theorem dX1_readLamp_1 : decode cX1_readLamp 1 = .ok (.iconst 0, 1) := by decide +kernel
theorem dX1_readLamp_2 : decode cX1_readLamp 2 = .ok (.aload_n 0, 1) := by decide +kernel
theorem dX1_readLamp_3 : decode cX1_readLamp 3 = .ok (.getfield 15, 3) := by decide +kernel
theorem dX1_readLamp_6 : decode cX1_readLamp 6 = .ok (.getfield 103, 3) := by decide +kernel
theorem dX1_readLamp_9 : decode cX1_readLamp 9 = .ok (.iconst 1, 1) := by decide +kernel
theorem dX1_readLamp_10 : decode cX1_readLamp 10 = .ok (.isub, 1) := by decide +kernel
theorem dX1_readLamp_11 : decode cX1_readLamp 11 = .ok (.iconst 3, 1) := by decide +kernel
theorem dX1_readLamp_12 : decode cX1_readLamp 12 = .ok (.invokevirtual 109, 3) := by decide +kernel
theorem dX1_readLamp_15 : decode cX1_readLamp 15 = .ok (.ireturn, 1) := by decide +kernel
theorem dX1_readNumber_0 : decode cX1_readNumber 0 = .ok (.iconst 0, 1) := by decide +kernel
theorem dX1_readNumber_1 : decode cX1_readNumber 1 = .ok (.istore 4, 2) := by decide +kernel
theorem dX1_readNumber_3 : decode cX1_readNumber 3 = .ok (.aload_n 0, 1) := by decide +kernel
theorem dX1_readNumber_4 : decode cX1_readNumber 4 = .ok (.getfield 56, 3) := by decide +kernel
theorem dX1_readNumber_7 : decode cX1_readNumber 7 = .ok (.istore 5, 2) := by decide +kernel
theorem dX1_readNumber_9 : decode cX1_readNumber 9 = .ok (.iload 5, 2) := by decide +kernel
theorem dX1_readNumber_11 : decode cX1_readNumber 11 = .ok (.aload_n 0, 1) := by decide +kernel
theorem dX1_readNumber_12 : decode cX1_readNumber 12 = .ok (.getfield 40, 3) := by decide +kernel
theorem dX1_readNumber_15 : decode cX1_readNumber 15 = .ok (.if_icmp .ge 35, 3) := by decide +kernel
theorem dX1_readNumber_18 : decode cX1_readNumber 18 = .ok (.aload_n 0, 1) := by decide +kernel
theorem dX1_readNumber_19 : decode cX1_readNumber 19 = .ok (.getfield 49, 3) := by decide +kernel
theorem dX1_readNumber_22 : decode cX1_readNumber 22 = .ok (.iconst 1, 1) := by decide +kernel
theorem dX1_readNumber_23 : decode cX1_readNumber 23 = .ok (.if_icmp .ne 27, 3) := by decide +kernel
theorem dX1_readNumber_26 : decode cX1_readNumber 26 = .ok (.iload 4, 2) := by decide +kernel
theorem dX1_readNumber_28 : decode cX1_readNumber 28 = .ok (.bipush 10, 2) := by decide +kernel
theorem dX1_readNumber_30 : decode cX1_readNumber 30 = .ok (.imul, 1) := by decide +kernel
theorem dX1_readNumber_31 : decode cX1_readNumber 31 = .ok (.aload_n 0, 1) := by decide +kernel
theorem dX1_readNumber_32 : decode cX1_readNumber 32 = .ok (.getfield 9, 3) := by decide +kernel
theorem dX1_readNumber_35 : decode cX1_readNumber 35 = .ok (.iload 5, 2) := by decide +kernel
theorem dX1_readNumber_37 : decode cX1_readNumber 37 = .ok (.iaload, 1) := by decide +kernel
theorem dX1_readNumber_38 : decode cX1_readNumber 38 = .ok (.iadd, 1) := by decide +kernel
theorem dX1_readNumber_39 : decode cX1_readNumber 39 = .ok (.bipush 48, 2) := by decide +kernel
theorem dX1_readNumber_41 : decode cX1_readNumber 41 = .ok (.isub, 1) := by decide +kernel
theorem dX1_readNumber_42 : decode cX1_readNumber 42 = .ok (.istore 4, 2) := by decide +kernel
theorem dX1_readNumber_44 : decode cX1_readNumber 44 = .ok (.iinc 5 1, 3) := by decide +kernel
theorem dX1_readNumber_47 : decode cX1_readNumber 47 = .ok (.goto (-38), 3) := by decide +kernel
theorem dX1_readNumber_50 : decode cX1_readNumber 50 = .ok (.aload_n 0, 1) := by decide +kernel
theorem dX1_readNumber_51 : decode cX1_readNumber 51 = .ok (.getfield 49, 3) := by decide +kernel
theorem dX1_readNumber_54 : decode cX1_readNumber 54 = .ok (.iconst 1, 1) := by decide +kernel
theorem dX1_readNumber_55 : decode cX1_readNumber 55 = .ok (.if_icmp .eq 15, 3) := by decide +kernel
theorem dX1_readNumber_58 : decode cX1_readNumber 58 = .ok (.aload_n 0, 1) := by decide +kernel
theorem dX1_readNumber_59 : decode cX1_readNumber 59 = .ok (.iconst 1, 1) := by decide +kernel
theorem dX1_readNumber_60 : decode cX1_readNumber 60 = .ok (.aload_n 0, 1) := by decide +kernel
theorem dX1_readNumber_61 : decode cX1_readNumber 61 = .ok (.getfield 56, 3) := by decide +kernel
theorem dX1_readNumber_64 : decode cX1_readNumber 64 = .ok (.invokevirtual 73, 3) := by decide +kernel
theorem dX1_readNumber_67 : decode cX1_readNumber 67 = .ok (.goto 49, 3) := by decide +kernel
theorem dX1_readNumber_70 : decode cX1_readNumber 70 = .ok (.aload_n 0, 1) := by decide +kernel
theorem dX1_readNumber_71 : decode cX1_readNumber 71 = .ok (.getfield 40, 3) := by decide +kernel
theorem dX1_readNumber_74 : decode cX1_readNumber 74 = .ok (.aload_n 0, 1) := by decide +kernel
theorem dX1_readNumber_75 : decode cX1_readNumber 75 = .ok (.getfield 56, 3) := by decide +kernel
theorem dX1_readNumber_78 : decode cX1_readNumber 78 = .ok (.isub, 1) := by decide +kernel
theorem dX1_readNumber_79 : decode cX1_readNumber 79 = .ok (.iconst 3, 1) := by decide +kernel
theorem dX1_readNumber_80 : decode cX1_readNumber 80 = .ok (.if_icmp .le 15, 3) := by decide +kernel
theorem dX1_readNumber_83 : decode cX1_readNumber 83 = .ok (.aload_n 0, 1) := by decide +kernel
theorem dX1_readNumber_84 : decode cX1_readNumber 84 = .ok (.iconst 2, 1) := by decide +kernel
theorem dX1_readNumber_85 : decode cX1_readNumber 85 = .ok (.aload_n 0, 1) := by decide +kernel
theorem dX1_readNumber_86 : decode cX1_readNumber 86 = .ok (.getfield 56, 3) := by decide +kernel
theorem dX1_readNumber_89 : decode cX1_readNumber 89 = .ok (.invokevirtual 73, 3) := by decide +kernel
theorem dX1_readNumber_92 : decode cX1_readNumber 92 = .ok (.goto 24, 3) := by decide +kernel
theorem dX1_readNumber_95 : decode cX1_readNumber 95 = .ok (.iload 4, 2) := by decide +kernel
theorem dX1_readNumber_97 : decode cX1_readNumber 97 = .ok (.iload_n 1, 1) := by decide +kernel
theorem dX1_readNumber_98 : decode cX1_readNumber 98 = .ok (.if_icmp .lt 9, 3) := by decide +kernel
theorem dX1_readNumber_101 : decode cX1_readNumber 101 = .ok (.iload 4, 2) := by decide +kernel
theorem dX1_readNumber_103 : decode cX1_readNumber 103 = .ok (.iload_n 2, 1) := by decide +kernel
theorem dX1_readNumber_104 : decode cX1_readNumber 104 = .ok (.if_icmp .le 12, 3) := by decide +kernel
theorem dX1_readNumber_107 : decode cX1_readNumber 107 = .ok (.aload_n 0, 1) := by decide +kernel
theorem dX1_readNumber_108 : decode cX1_readNumber 108 = .ok (.iload_n 3, 1) := by decide +kernel
theorem dX1_readNumber_109 : decode cX1_readNumber 109 = .ok (.aload_n 0, 1) := by decide +kernel
theorem dX1_readNumber_110 : decode cX1_readNumber 110 = .ok (.getfield 56, 3) := by decide +kernel
theorem dX1_readNumber_113 : decode cX1_readNumber 113 = .ok (.invokevirtual 73, 3) := by decide +kernel
theorem dX1_readNumber_116 : decode cX1_readNumber 116 = .ok (.aload_n 0, 1) := by decide +kernel
theorem dX1_readNumber_117 : decode cX1_readNumber 117 = .ok (.getfield 34, 3) := by decide +kernel
theorem dX1_readNumber_120 : decode cX1_readNumber 120 = .ok (.ifCond .eq 5, 3) := by decide +kernel
theorem dX1_readNumber_123 : decode cX1_readNumber 123 = .ok (.iload_n 1, 1) := by decide +kernel
theorem dX1_readNumber_124 : decode cX1_readNumber 124 = .ok (.ireturn, 1) := by decide +kernel
theorem dX1_readNumber_125 : decode cX1_readNumber 125 = .ok (.aload_n 0, 1) := by decide +kernel
theorem dX1_readNumber_126 : decode cX1_readNumber 126 = .ok (.invokevirtual 46, 3) := by decide +kernel
theorem dX1_readNumber_129 : decode cX1_readNumber 129 = .ok (.iload 4, 2) := by decide +kernel
theorem dX1_readNumber_131 : decode cX1_readNumber 131 = .ok (.ireturn, 1) := by decide +kernel
theorem dX2_init_0 : decode cX2_init 0 = .ok (.aload_n 0, 1) := by decide +kernel
theorem dX2_init_1 : decode cX2_init 1 = .ok (.invokespecial 3, 3) := by decide +kernel
theorem dX2_init_4 : decode cX2_init 4 = .ok (.aload_n 0, 1) := by decide +kernel
theorem dX2_init_5 : decode cX2_init 5 = .ok (.bipush 18, 2) := by decide +kernel
theorem dX2_init_7 : decode cX2_init 7 = .ok (.newarray .int, 2) := by decide +kernel
theorem dX2_init_9 : decode cX2_init 9 = .ok (.putfield 9, 3) := by decide +kernel
theorem dX2_init_12 : decode cX2_init 12 = .ok (.aload_n 0, 1) := by decide +kernel
theorem dX2_init_13 : decode cX2_init 13 = .ok (.bipush 6, 2) := by decide +kernel
theorem dX2_init_15 : decode cX2_init 15 = .ok (.newarray .int, 2) := by decide +kernel
theorem dX2_init_17 : decode cX2_init 17 = .ok (.putfield 15, 3) := by decide +kernel
theorem dX2_init_20 : decode cX2_init 20 = .ok (.aload_n 0, 1) := by decide +kernel
theorem dX2_init_21 : decode cX2_init 21 = .ok (.bipush 6, 2) := by decide +kernel
theorem dX2_init_23 : decode cX2_init 23 = .ok (.newarray .int, 2) := by decide +kernel
theorem dX2_init_25 : decode cX2_init 25 = .ok (.putfield 18, 3) := by decide +kernel
theorem dX2_init_28 : decode cX2_init 28 = .ok (.return_, 1) := by decide +kernel
theorem dX2_begin_0 : decode cX2_begin 0 = .ok (.aload_n 1, 1) := by decide +kernel
theorem dX2_begin_1 : decode cX2_begin 1 = .ok (.getfield 21, 3) := by decide +kernel
theorem dX2_begin_4 : decode cX2_begin 4 = .ok (.iconst 0, 1) := by decide +kernel
theorem dX2_begin_5 : decode cX2_begin 5 = .ok (.aload_n 0, 1) := by decide +kernel
theorem dX2_begin_6 : decode cX2_begin 6 = .ok (.getfield 9, 3) := by decide +kernel
theorem dX2_begin_9 : decode cX2_begin 9 = .ok (.iconst 0, 1) := by decide +kernel
theorem dX2_begin_10 : decode cX2_begin 10 = .ok (.bipush 18, 2) := by decide +kernel
theorem dX2_begin_12 : decode cX2_begin 12 = .ok (.invokestatic 24, 3) := by decide +kernel
theorem dX2_begin_15 : decode cX2_begin 15 = .ok (.aload_n 0, 1) := by decide +kernel
theorem dX2_begin_16 : decode cX2_begin 16 = .ok (.iconst 0, 1) := by decide +kernel
theorem dX2_begin_17 : decode cX2_begin 17 = .ok (.putfield 30, 3) := by decide +kernel
theorem dX2_begin_20 : decode cX2_begin 20 = .ok (.aload_n 0, 1) := by decide +kernel
theorem dX2_begin_21 : decode cX2_begin 21 = .ok (.iconst 0, 1) := by decide +kernel
theorem dX2_begin_22 : decode cX2_begin 22 = .ok (.putfield 34, 3) := by decide +kernel
theorem dX2_begin_25 : decode cX2_begin 25 = .ok (.aload_n 0, 1) := by decide +kernel
theorem dX2_begin_26 : decode cX2_begin 26 = .ok (.iconst 0, 1) := by decide +kernel
theorem dX2_begin_27 : decode cX2_begin 27 = .ok (.putfield 37, 3) := by decide +kernel
theorem dX2_begin_30 : decode cX2_begin 30 = .ok (.iconst 0, 1) := by decide +kernel
theorem dX2_begin_31 : decode cX2_begin 31 = .ok (.istore_n 2, 1) := by decide +kernel
theorem dX2_begin_32 : decode cX2_begin 32 = .ok (.iload_n 2, 1) := by decide +kernel
theorem dX2_begin_33 : decode cX2_begin 33 = .ok (.bipush 6, 2) := by decide +kernel
theorem dX2_begin_35 : decode cX2_begin 35 = .ok (.if_icmp .ge 23, 3) := by decide +kernel
theorem dX2_begin_38 : decode cX2_begin 38 = .ok (.aload_n 0, 1) := by decide +kernel
theorem dX2_begin_39 : decode cX2_begin 39 = .ok (.getfield 15, 3) := by decide +kernel
theorem dX2_begin_42 : decode cX2_begin 42 = .ok (.iload_n 2, 1) := by decide +kernel
theorem dX2_begin_43 : decode cX2_begin 43 = .ok (.iconst (-1), 1) := by decide +kernel
theorem dX2_begin_44 : decode cX2_begin 44 = .ok (.iastore, 1) := by decide +kernel
theorem dX2_begin_45 : decode cX2_begin 45 = .ok (.aload_n 0, 1) := by decide +kernel
theorem dX2_begin_46 : decode cX2_begin 46 = .ok (.getfield 18, 3) := by decide +kernel
theorem dX2_begin_49 : decode cX2_begin 49 = .ok (.iload_n 2, 1) := by decide +kernel
theorem dX2_begin_50 : decode cX2_begin 50 = .ok (.iconst (-1), 1) := by decide +kernel
theorem dX2_begin_51 : decode cX2_begin 51 = .ok (.iastore, 1) := by decide +kernel
theorem dX2_begin_52 : decode cX2_begin 52 = .ok (.iinc 2 1, 3) := by decide +kernel
theorem dX2_begin_55 : decode cX2_begin 55 = .ok (.goto (-23), 3) := by decide +kernel
theorem dX2_begin_58 : decode cX2_begin 58 = .ok (.return_, 1) := by decide +kernel
theorem dX2_take_0 : decode cX2_take 0 = .ok (.aload_n 1, 1) := by decide +kernel
theorem dX2_take_1 : decode cX2_take 1 = .ok (.getfield 9, 3) := by decide +kernel
theorem dX2_take_4 : decode cX2_take 4 = .ok (.iconst 0, 1) := by decide +kernel
theorem dX2_take_5 : decode cX2_take 5 = .ok (.aload_n 0, 1) := by decide +kernel
theorem dX2_take_6 : decode cX2_take 6 = .ok (.getfield 9, 3) := by decide +kernel
theorem dX2_take_9 : decode cX2_take 9 = .ok (.iconst 0, 1) := by decide +kernel
theorem dX2_take_10 : decode cX2_take 10 = .ok (.bipush 18, 2) := by decide +kernel
theorem dX2_take_12 : decode cX2_take 12 = .ok (.invokestatic 24, 3) := by decide +kernel
theorem dX2_take_15 : decode cX2_take 15 = .ok (.aload_n 1, 1) := by decide +kernel
theorem dX2_take_16 : decode cX2_take 16 = .ok (.getfield 15, 3) := by decide +kernel
theorem dX2_take_19 : decode cX2_take 19 = .ok (.iconst 0, 1) := by decide +kernel
theorem dX2_take_20 : decode cX2_take 20 = .ok (.aload_n 0, 1) := by decide +kernel
theorem dX2_take_21 : decode cX2_take 21 = .ok (.getfield 15, 3) := by decide +kernel
theorem dX2_take_24 : decode cX2_take 24 = .ok (.iconst 0, 1) := by decide +kernel
theorem dX2_take_25 : decode cX2_take 25 = .ok (.bipush 6, 2) := by decide +kernel
