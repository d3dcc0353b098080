theorem dX2_take_27 : decode cX2_take 27 = .ok (.invokestatic 24, 3) := by decide +kernel
theorem dX2_take_30 : decode cX2_take 30 = .ok (.aload_n 1, 1) := by decide +kernel
theorem dX2_take_31 : decode cX2_take 31 = .ok (.getfield 18, 3) := by decide +kernel
theorem dX2_take_34 : decode cX2_take 34 = .ok (.iconst 0, 1) := by decide +kernel
theorem dX2_take_35 : decode cX2_take 35 = .ok (.aload_n 0, 1) := by decide +kernel
theorem dX2_take_36 : decode cX2_take 36 = .ok (.getfield 18, 3) := by decide +kernel
theorem dX2_take_39 : decode cX2_take 39 = .ok (.iconst 0, 1) := by decide +kernel
theorem dX2_take_40 : decode cX2_take 40 = .ok (.bipush 6, 2) := by decide +kernel
theorem dX2_take_42 : decode cX2_take 42 = .ok (.invokestatic 24, 3) := by decide +kernel
theorem dX2_take_45 : decode cX2_take 45 = .ok (.aload_n 0, 1) := by decide +kernel
theorem dX2_take_46 : decode cX2_take 46 = .ok (.aload_n 1, 1) := by decide +kernel
theorem dX2_take_47 : decode cX2_take 47 = .ok (.getfield 30, 3) := by decide +kernel
theorem dX2_take_50 : decode cX2_take 50 = .ok (.putfield 30, 3) := by decide +kernel
theorem dX2_take_53 : decode cX2_take 53 = .ok (.aload_n 0, 1) := by decide +kernel
theorem dX2_take_54 : decode cX2_take 54 = .ok (.aload_n 1, 1) := by decide +kernel
theorem dX2_take_55 : decode cX2_take 55 = .ok (.getfield 34, 3) := by decide +kernel
theorem dX2_take_58 : decode cX2_take 58 = .ok (.putfield 34, 3) := by decide +kernel
theorem dX2_take_61 : decode cX2_take 61 = .ok (.aload_n 0, 1) := by decide +kernel
theorem dX2_take_62 : decode cX2_take 62 = .ok (.aload_n 1, 1) := by decide +kernel
theorem dX2_take_63 : decode cX2_take 63 = .ok (.getfield 37, 3) := by decide +kernel
theorem dX2_take_66 : decode cX2_take 66 = .ok (.putfield 37, 3) := by decide +kernel
theorem dX2_take_69 : decode cX2_take 69 = .ok (.return_, 1) := by decide +kernel
theorem dX2_isOut_0 : decode cX2_isOut 0 = .ok (.aload_n 0, 1) := by decide +kernel
theorem dX2_isOut_1 : decode cX2_isOut 1 = .ok (.getfield 34, 3) := by decide +kernel
theorem dX2_isOut_4 : decode cX2_isOut 4 = .ok (.iload_n 1, 1) := by decide +kernel
theorem dX2_isOut_5 : decode cX2_isOut 5 = .ok (.iushr, 1) := by decide +kernel
theorem dX2_isOut_6 : decode cX2_isOut 6 = .ok (.iconst 1, 1) := by decide +kernel
theorem dX2_isOut_7 : decode cX2_isOut 7 = .ok (.iand, 1) := by decide +kernel
theorem dX2_isOut_8 : decode cX2_isOut 8 = .ok (.ifCond .eq 7, 3) := by decide +kernel
theorem dX2_isOut_11 : decode cX2_isOut 11 = .ok (.iconst 1, 1) := by decide +kernel
theorem dX2_isOut_12 : decode cX2_isOut 12 = .ok (.goto 4, 3) := by decide +kernel
theorem dX2_isOut_15 : decode cX2_isOut 15 = .ok (.iconst 0, 1) := by decide +kernel
theorem dX2_isOut_16 : decode cX2_isOut 16 = .ok (.ireturn, 1) := by decide +kernel
theorem dX2_apart_0 : decode cX2_apart 0 = .ok (.iconst 0, 1) := by decide +kernel
theorem dX2_apart_1 : decode cX2_apart 1 = .ok (.istore_n 3, 1) := by decide +kernel
theorem dX2_apart_2 : decode cX2_apart 2 = .ok (.iconst 0, 1) := by decide +kernel
theorem dX2_apart_3 : decode cX2_apart 3 = .ok (.istore 4, 2) := by decide +kernel
theorem dX2_apart_5 : decode cX2_apart 5 = .ok (.iload 4, 2) := by decide +kernel
theorem dX2_apart_7 : decode cX2_apart 7 = .ok (.iconst 3, 1) := by decide +kernel
theorem dX2_apart_8 : decode cX2_apart 8 = .ok (.if_icmp .ge 50, 3) := by decide +kernel
theorem dX2_apart_11 : decode cX2_apart 11 = .ok (.aload_n 0, 1) := by decide +kernel
theorem dX2_apart_12 : decode cX2_apart 12 = .ok (.getfield 9, 3) := by decide +kernel
theorem dX2_apart_15 : decode cX2_apart 15 = .ok (.iload_n 1, 1) := by decide +kernel
theorem dX2_apart_16 : decode cX2_apart 16 = .ok (.iconst 3, 1) := by decide +kernel
theorem dX2_apart_17 : decode cX2_apart 17 = .ok (.imul, 1) := by decide +kernel
theorem dX2_apart_18 : decode cX2_apart 18 = .ok (.iload 4, 2) := by decide +kernel
theorem dX2_apart_20 : decode cX2_apart 20 = .ok (.iadd, 1) := by decide +kernel
theorem dX2_apart_21 : decode cX2_apart 21 = .ok (.iaload, 1) := by decide +kernel
theorem dX2_apart_22 : decode cX2_apart 22 = .ok (.aload_n 0, 1) := by decide +kernel
theorem dX2_apart_23 : decode cX2_apart 23 = .ok (.getfield 9, 3) := by decide +kernel
theorem dX2_apart_26 : decode cX2_apart 26 = .ok (.iload_n 2, 1) := by decide +kernel
theorem dX2_apart_27 : decode cX2_apart 27 = .ok (.iconst 3, 1) := by decide +kernel
theorem dX2_apart_28 : decode cX2_apart 28 = .ok (.imul, 1) := by decide +kernel
theorem dX2_apart_29 : decode cX2_apart 29 = .ok (.iload 4, 2) := by decide +kernel
theorem dX2_apart_31 : decode cX2_apart 31 = .ok (.iadd, 1) := by decide +kernel
theorem dX2_apart_32 : decode cX2_apart 32 = .ok (.iaload, 1) := by decide +kernel
theorem dX2_apart_33 : decode cX2_apart 33 = .ok (.isub, 1) := by decide +kernel
theorem dX2_apart_34 : decode cX2_apart 34 = .ok (.istore 5, 2) := by decide +kernel
theorem dX2_apart_36 : decode cX2_apart 36 = .ok (.iload_n 3, 1) := by decide +kernel
theorem dX2_apart_37 : decode cX2_apart 37 = .ok (.iload 5, 2) := by decide +kernel
theorem dX2_apart_39 : decode cX2_apart 39 = .ok (.ifCond .ge 9, 3) := by decide +kernel
theorem dX2_apart_42 : decode cX2_apart 42 = .ok (.iload 5, 2) := by decide +kernel
theorem dX2_apart_44 : decode cX2_apart 44 = .ok (.ineg, 1) := by decide +kernel
theorem dX2_apart_45 : decode cX2_apart 45 = .ok (.goto 5, 3) := by decide +kernel
theorem dX2_apart_48 : decode cX2_apart 48 = .ok (.iload 5, 2) := by decide +kernel
theorem dX2_apart_50 : decode cX2_apart 50 = .ok (.iadd, 1) := by decide +kernel
theorem dX2_apart_51 : decode cX2_apart 51 = .ok (.istore_n 3, 1) := by decide +kernel
theorem dX2_apart_52 : decode cX2_apart 52 = .ok (.iinc 4 1, 3) := by decide +kernel
theorem dX2_apart_55 : decode cX2_apart 55 = .ok (.goto (-50), 3) := by decide +kernel
theorem dX2_apart_58 : decode cX2_apart 58 = .ok (.iload_n 3, 1) := by decide +kernel
theorem dX2_apart_59 : decode cX2_apart 59 = .ok (.iconst 2, 1) := by decide +kernel
theorem dX2_apart_60 : decode cX2_apart 60 = .ok (.idiv, 1) := by decide +kernel
theorem dX2_apart_61 : decode cX2_apart 61 = .ok (.ireturn, 1) := by decide +kernel
theorem dX2_pour_0 : decode cX2_pour 0 = .ok (.aload_n 0, 1) := by decide +kernel
theorem dX2_pour_1 : decode cX2_pour 1 = .ok (.getfield 9, 3) := by decide +kernel
theorem dX2_pour_4 : decode cX2_pour 4 = .ok (.iload_n 1, 1) := by decide +kernel
theorem dX2_pour_5 : decode cX2_pour 5 = .ok (.iconst 3, 1) := by decide +kernel
theorem dX2_pour_6 : decode cX2_pour 6 = .ok (.imul, 1) := by decide +kernel
theorem dX2_pour_7 : decode cX2_pour 7 = .ok (.iload_n 2, 1) := by decide +kernel
theorem dX2_pour_8 : decode cX2_pour 8 = .ok (.iadd, 1) := by decide +kernel
theorem dX2_pour_9 : decode cX2_pour 9 = .ok (.iaload, 1) := by decide +kernel
theorem dX2_pour_10 : decode cX2_pour 10 = .ok (.ifCond .ne 5, 3) := by decide +kernel
theorem dX2_pour_13 : decode cX2_pour 13 = .ok (.iconst 0, 1) := by decide +kernel
theorem dX2_pour_14 : decode cX2_pour 14 = .ok (.ireturn, 1) := by decide +kernel
theorem dX2_pour_15 : decode cX2_pour 15 = .ok (.aload_n 0, 1) := by decide +kernel
theorem dX2_pour_16 : decode cX2_pour 16 = .ok (.getfield 9, 3) := by decide +kernel
theorem dX2_pour_19 : decode cX2_pour 19 = .ok (.iload_n 1, 1) := by decide +kernel
theorem dX2_pour_20 : decode cX2_pour 20 = .ok (.iconst 3, 1) := by decide +kernel
theorem dX2_pour_21 : decode cX2_pour 21 = .ok (.imul, 1) := by decide +kernel
theorem dX2_pour_22 : decode cX2_pour 22 = .ok (.iload_n 2, 1) := by decide +kernel
theorem dX2_pour_23 : decode cX2_pour 23 = .ok (.iadd, 1) := by decide +kernel
theorem dX2_pour_24 : decode cX2_pour 24 = .ok (.dup2, 1) := by decide +kernel
theorem dX2_pour_25 : decode cX2_pour 25 = .ok (.iaload, 1) := by decide +kernel
theorem dX2_pour_26 : decode cX2_pour 26 = .ok (.iconst 1, 1) := by decide +kernel
theorem dX2_pour_27 : decode cX2_pour 27 = .ok (.isub, 1) := by decide +kernel
theorem dX2_pour_28 : decode cX2_pour 28 = .ok (.iastore, 1) := by decide +kernel
theorem dX2_pour_29 : decode cX2_pour 29 = .ok (.aload_n 0, 1) := by decide +kernel
theorem dX2_pour_30 : decode cX2_pour 30 = .ok (.getfield 9, 3) := by decide +kernel
theorem dX2_pour_33 : decode cX2_pour 33 = .ok (.iload_n 1, 1) := by decide +kernel
theorem dX2_pour_34 : decode cX2_pour 34 = .ok (.iconst 3, 1) := by decide +kernel
theorem dX2_pour_35 : decode cX2_pour 35 = .ok (.imul, 1) := by decide +kernel
theorem dX2_pour_36 : decode cX2_pour 36 = .ok (.iload_n 3, 1) := by decide +kernel
theorem dX2_pour_37 : decode cX2_pour 37 = .ok (.iadd, 1) := by decide +kernel
theorem dX2_pour_38 : decode cX2_pour 38 = .ok (.dup2, 1) := by decide +kernel
theorem dX2_pour_39 : decode cX2_pour 39 = .ok (.iaload, 1) := by decide +kernel
theorem dX2_pour_40 : decode cX2_pour 40 = .ok (.iconst 1, 1) := by decide +kernel
theorem dX2_pour_41 : decode cX2_pour 41 = .ok (.iadd, 1) := by decide +kernel
theorem dX2_pour_42 : decode cX2_pour 42 = .ok (.iastore, 1) := by decide +kernel
theorem dX2_pour_43 : decode cX2_pour 43 = .ok (.iconst 1, 1) := by decide +kernel
theorem dX2_pour_44 : decode cX2_pour 44 = .ok (.ireturn, 1) := by decide +kernel
theorem dX2_marryAll_0 : decode cX2_marryAll 0 = .ok (.iconst 0, 1) := by decide +kernel
theorem dX2_marryAll_1 : decode cX2_marryAll 1 = .ok (.istore_n 2, 1) := by decide +kernel
theorem dX2_marryAll_2 : decode cX2_marryAll 2 = .ok (.iload_n 2, 1) := by decide +kernel
theorem dX2_marryAll_3 : decode cX2_marryAll 3 = .ok (.aload_n 1, 1) := by decide +kernel
theorem dX2_marryAll_4 : decode cX2_marryAll 4 = .ok (.getfield 40, 3) := by decide +kernel
theorem dX2_marryAll_7 : decode cX2_marryAll 7 = .ok (.if_icmp .ge 77, 3) := by decide +kernel
theorem dX2_marryAll_10 : decode cX2_marryAll 10 = .ok (.iload_n 2, 1) := by decide +kernel
theorem dX2_marryAll_11 : decode cX2_marryAll 11 = .ok (.iconst 1, 1) := by decide +kernel
theorem dX2_marryAll_12 : decode cX2_marryAll 12 = .ok (.iadd, 1) := by decide +kernel
theorem dX2_marryAll_13 : decode cX2_marryAll 13 = .ok (.istore_n 3, 1) := by decide +kernel
theorem dX2_marryAll_14 : decode cX2_marryAll 14 = .ok (.iload_n 3, 1) := by decide +kernel
theorem dX2_marryAll_15 : decode cX2_marryAll 15 = .ok (.aload_n 1, 1) := by decide +kernel
theorem dX2_marryAll_16 : decode cX2_marryAll 16 = .ok (.getfield 40, 3) := by decide +kernel
theorem dX2_marryAll_19 : decode cX2_marryAll 19 = .ok (.if_icmp .ge 59, 3) := by decide +kernel
theorem dX2_marryAll_22 : decode cX2_marryAll 22 = .ok (.aload_n 0, 1) := by decide +kernel
theorem dX2_marryAll_23 : decode cX2_marryAll 23 = .ok (.iload_n 2, 1) := by decide +kernel
theorem dX2_marryAll_24 : decode cX2_marryAll 24 = .ok (.invokevirtual 43, 3) := by decide +kernel
theorem dX2_marryAll_27 : decode cX2_marryAll 27 = .ok (.ifCond .ne 51, 3) := by decide +kernel
theorem dX2_marryAll_30 : decode cX2_marryAll 30 = .ok (.aload_n 0, 1) := by decide +kernel
theorem dX2_marryAll_31 : decode cX2_marryAll 31 = .ok (.iload_n 3, 1) := by decide +kernel
theorem dX2_marryAll_32 : decode cX2_marryAll 32 = .ok (.invokevirtual 43, 3) := by decide +kernel
theorem dX2_marryAll_35 : decode cX2_marryAll 35 = .ok (.ifCond .ne 37, 3) := by decide +kernel
theorem dX2_marryAll_38 : decode cX2_marryAll 38 = .ok (.aload_n 1, 1) := by decide +kernel
theorem dX2_marryAll_39 : decode cX2_marryAll 39 = .ok (.getfield 47, 3) := by decide +kernel
theorem dX2_marryAll_42 : decode cX2_marryAll 42 = .ok (.iload_n 3, 1) := by decide +kernel
theorem dX2_marryAll_43 : decode cX2_marryAll 43 = .ok (.iaload, 1) := by decide +kernel
theorem dX2_marryAll_44 : decode cX2_marryAll 44 = .ok (.aload_n 1, 1) := by decide +kernel
theorem dX2_marryAll_45 : decode cX2_marryAll 45 = .ok (.getfield 47, 3) := by decide +kernel
theorem dX2_marryAll_48 : decode cX2_marryAll 48 = .ok (.iload_n 2, 1) := by decide +kernel
theorem dX2_marryAll_49 : decode cX2_marryAll 49 = .ok (.iaload, 1) := by decide +kernel
theorem dX2_marryAll_50 : decode cX2_marryAll 50 = .ok (.if_icmp .eq 22, 3) := by decide +kernel
theorem dX2_marryAll_53 : decode cX2_marryAll 53 = .ok (.aload_n 0, 1) := by decide +kernel
theorem dX2_marryAll_54 : decode cX2_marryAll 54 = .ok (.iload_n 2, 1) := by decide +kernel
theorem dX2_marryAll_55 : decode cX2_marryAll 55 = .ok (.iload_n 3, 1) := by decide +kernel
theorem dX2_marryAll_56 : decode cX2_marryAll 56 = .ok (.invokevirtual 50, 3) := by decide +kernel
theorem dX2_marryAll_59 : decode cX2_marryAll 59 = .ok (.aload_n 1, 1) := by decide +kernel
theorem dX2_marryAll_60 : decode cX2_marryAll 60 = .ok (.getfield 54, 3) := by decide +kernel
theorem dX2_marryAll_63 : decode cX2_marryAll 63 = .ok (.if_icmp .gt 9, 3) := by decide +kernel
theorem dX2_marryAll_66 : decode cX2_marryAll 66 = .ok (.aload_n 0, 1) := by decide +kernel
theorem dX2_marryAll_67 : decode cX2_marryAll 67 = .ok (.iload_n 2, 1) := by decide +kernel
theorem dX2_marryAll_68 : decode cX2_marryAll 68 = .ok (.iload_n 3, 1) := by decide +kernel
theorem dX2_marryAll_69 : decode cX2_marryAll 69 = .ok (.invokevirtual 57, 3) := by decide +kernel
theorem dX2_marryAll_72 : decode cX2_marryAll 72 = .ok (.iinc 3 1, 3) := by decide +kernel
theorem dX2_marryAll_75 : decode cX2_marryAll 75 = .ok (.goto (-61), 3) := by decide +kernel
theorem dX2_marryAll_78 : decode cX2_marryAll 78 = .ok (.iinc 2 1, 3) := by decide +kernel
theorem dX2_marryAll_81 : decode cX2_marryAll 81 = .ok (.goto (-79), 3) := by decide +kernel
theorem dX2_marryAll_84 : decode cX2_marryAll 84 = .ok (.return_, 1) := by decide +kernel
theorem dX2_marry_0 : decode cX2_marry 0 = .ok (.aload_n 0, 1) := by decide +kernel
theorem dX2_marry_1 : decode cX2_marry 1 = .ok (.getfield 15, 3) := by decide +kernel
theorem dX2_marry_4 : decode cX2_marry 4 = .ok (.iload_n 1, 1) := by decide +kernel
theorem dX2_marry_5 : decode cX2_marry 5 = .ok (.iload_n 2, 1) := by decide +kernel
theorem dX2_marry_6 : decode cX2_marry 6 = .ok (.iastore, 1) := by decide +kernel
theorem dX2_marry_7 : decode cX2_marry 7 = .ok (.aload_n 0, 1) := by decide +kernel
theorem dX2_marry_8 : decode cX2_marry 8 = .ok (.getfield 15, 3) := by decide +kernel
theorem dX2_marry_11 : decode cX2_marry 11 = .ok (.iload_n 2, 1) := by decide +kernel
theorem dX2_marry_12 : decode cX2_marry 12 = .ok (.iload_n 1, 1) := by decide +kernel
theorem dX2_marry_13 : decode cX2_marry 13 = .ok (.iastore, 1) := by decide +kernel
theorem dX2_marry_14 : decode cX2_marry 14 = .ok (.aload_n 0, 1) := by decide +kernel
theorem dX2_marry_15 : decode cX2_marry 15 = .ok (.getfield 18, 3) := by decide +kernel
theorem dX2_marry_18 : decode cX2_marry 18 = .ok (.iload_n 1, 1) := by decide +kernel
theorem dX2_marry_19 : decode cX2_marry 19 = .ok (.aload_n 0, 1) := by decide +kernel
theorem dX2_marry_20 : decode cX2_marry 20 = .ok (.getfield 30, 3) := by decide +kernel
theorem dX2_marry_23 : decode cX2_marry 23 = .ok (.iastore, 1) := by decide +kernel
theorem dX2_marry_24 : decode cX2_marry 24 = .ok (.aload_n 0, 1) := by decide +kernel
theorem dX2_marry_25 : decode cX2_marry 25 = .ok (.getfield 18, 3) := by decide +kernel
theorem dX2_marry_28 : decode cX2_marry 28 = .ok (.iload_n 2, 1) := by decide +kernel
theorem dX2_marry_29 : decode cX2_marry 29 = .ok (.aload_n 0, 1) := by decide +kernel
theorem dX2_marry_30 : decode cX2_marry 30 = .ok (.getfield 30, 3) := by decide +kernel
theorem dX2_marry_33 : decode cX2_marry 33 = .ok (.iastore, 1) := by decide +kernel
theorem dX2_marry_34 : decode cX2_marry 34 = .ok (.aload_n 0, 1) := by decide +kernel
theorem dX2_marry_35 : decode cX2_marry 35 = .ok (.dup, 1) := by decide +kernel
theorem dX2_marry_36 : decode cX2_marry 36 = .ok (.getfield 34, 3) := by decide +kernel
theorem dX2_marry_39 : decode cX2_marry 39 = .ok (.iconst 1, 1) := by decide +kernel
theorem dX2_marry_40 : decode cX2_marry 40 = .ok (.iload_n 1, 1) := by decide +kernel
theorem dX2_marry_41 : decode cX2_marry 41 = .ok (.ishl, 1) := by decide +kernel
theorem dX2_marry_42 : decode cX2_marry 42 = .ok (.iconst 1, 1) := by decide +kernel
theorem dX2_marry_43 : decode cX2_marry 43 = .ok (.iload_n 2, 1) := by decide +kernel
theorem dX2_marry_44 : decode cX2_marry 44 = .ok (.ishl, 1) := by decide +kernel
theorem dX2_marry_45 : decode cX2_marry 45 = .ok (.ior, 1) := by decide +kernel
theorem dX2_marry_46 : decode cX2_marry 46 = .ok (.ior, 1) := by decide +kernel
theorem dX2_marry_47 : decode cX2_marry 47 = .ok (.putfield 34, 3) := by decide +kernel
theorem dX2_marry_50 : decode cX2_marry 50 = .ok (.aload_n 0, 1) := by decide +kernel
theorem dX2_marry_51 : decode cX2_marry 51 = .ok (.dup, 1) := by decide +kernel
theorem dX2_marry_52 : decode cX2_marry 52 = .ok (.getfield 37, 3) := by decide +kernel
theorem dX2_marry_55 : decode cX2_marry 55 = .ok (.iconst 1, 1) := by decide +kernel
theorem dX2_marry_56 : decode cX2_marry 56 = .ok (.iadd, 1) := by decide +kernel
theorem dX2_marry_57 : decode cX2_marry 57 = .ok (.putfield 37, 3) := by decide +kernel
theorem dX2_marry_60 : decode cX2_marry 60 = .ok (.return_, 1) := by decide +kernel
theorem dX2_partSince_0 : decode cX2_partSince 0 = .ok (.iconst 0, 1) := by decide +kernel
theorem dX2_partSince_1 : decode cX2_partSince 1 = .ok (.istore_n 2, 1) := by decide +kernel
theorem dX2_partSince_2 : decode cX2_partSince 2 = .ok (.iload_n 2, 1) := by decide +kernel
theorem dX2_partSince_3 : decode cX2_partSince 3 = .ok (.bipush 6, 2) := by decide +kernel
theorem dX2_partSince_5 : decode cX2_partSince 5 = .ok (.if_icmp .ge 47, 3) := by decide +kernel
theorem dX2_partSince_8 : decode cX2_partSince 8 = .ok (.aload_n 0, 1) := by decide +kernel
theorem dX2_partSince_9 : decode cX2_partSince 9 = .ok (.getfield 18, 3) := by decide +kernel
theorem dX2_partSince_12 : decode cX2_partSince 12 = .ok (.iload_n 2, 1) := by decide +kernel
theorem dX2_partSince_13 : decode cX2_partSince 13 = .ok (.iaload, 1) := by decide +kernel
theorem dX2_partSince_14 : decode cX2_partSince 14 = .ok (.iload_n 1, 1) := by decide +kernel
theorem dX2_partSince_15 : decode cX2_partSince 15 = .ok (.if_icmp .lt 31, 3) := by decide +kernel
theorem dX2_partSince_18 : decode cX2_partSince 18 = .ok (.aload_n 0, 1) := by decide +kernel
theorem dX2_partSince_19 : decode cX2_partSince 19 = .ok (.getfield 15, 3) := by decide +kernel
theorem dX2_partSince_22 : decode cX2_partSince 22 = .ok (.iload_n 2, 1) := by decide +kernel
theorem dX2_partSince_23 : decode cX2_partSince 23 = .ok (.iconst (-1), 1) := by decide +kernel
theorem dX2_partSince_24 : decode cX2_partSince 24 = .ok (.iastore, 1) := by decide +kernel
theorem dX2_partSince_25 : decode cX2_partSince 25 = .ok (.aload_n 0, 1) := by decide +kernel
theorem dX2_partSince_26 : decode cX2_partSince 26 = .ok (.getfield 18, 3) := by decide +kernel
theorem dX2_partSince_29 : decode cX2_partSince 29 = .ok (.iload_n 2, 1) := by decide +kernel
theorem dX2_partSince_30 : decode cX2_partSince 30 = .ok (.iconst (-1), 1) := by decide +kernel
theorem dX2_partSince_31 : decode cX2_partSince 31 = .ok (.iastore, 1) := by decide +kernel
theorem dX2_partSince_32 : decode cX2_partSince 32 = .ok (.aload_n 0, 1) := by decide +kernel
theorem dX2_partSince_33 : decode cX2_partSince 33 = .ok (.dup, 1) := by decide +kernel
theorem dX2_partSince_34 : decode cX2_partSince 34 = .ok (.getfield 34, 3) := by decide +kernel
theorem dX2_partSince_37 : decode cX2_partSince 37 = .ok (.iconst 1, 1) := by decide +kernel
theorem dX2_partSince_38 : decode cX2_partSince 38 = .ok (.iload_n 2, 1) := by decide +kernel
theorem dX2_partSince_39 : decode cX2_partSince 39 = .ok (.ishl, 1) := by decide +kernel
theorem dX2_partSince_40 : decode cX2_partSince 40 = .ok (.iconst (-1), 1) := by decide +kernel
theorem dX2_partSince_41 : decode cX2_partSince 41 = .ok (.ixor, 1) := by decide +kernel
theorem dX2_partSince_42 : decode cX2_partSince 42 = .ok (.iand, 1) := by decide +kernel
theorem dX2_partSince_43 : decode cX2_partSince 43 = .ok (.putfield 34, 3) := by decide +kernel
theorem dX2_partSince_46 : decode cX2_partSince 46 = .ok (.iinc 2 1, 3) := by decide +kernel
theorem dX2_partSince_49 : decode cX2_partSince 49 = .ok (.goto (-47), 3) := by decide +kernel
theorem dX2_partSince_52 : decode cX2_partSince 52 = .ok (.aload_n 0, 1) := by decide +kernel
theorem dX2_partSince_53 : decode cX2_partSince 53 = .ok (.aload_n 0, 1) := by decide +kernel
theorem dX2_partSince_54 : decode cX2_partSince 54 = .ok (.getfield 34, 3) := by decide +kernel
theorem dX2_partSince_57 : decode cX2_partSince 57 = .ok (.invokestatic 61, 3) := by decide +kernel
theorem dX2_partSince_60 : decode cX2_partSince 60 = .ok (.iconst 2, 1) := by decide +kernel
theorem dX2_partSince_61 : decode cX2_partSince 61 = .ok (.idiv, 1) := by decide +kernel
theorem dX2_partSince_62 : decode cX2_partSince 62 = .ok (.putfield 37, 3) := by decide +kernel
theorem dX2_partSince_65 : decode cX2_partSince 65 = .ok (.aload_n 0, 1) := by decide +kernel
theorem dX2_partSince_66 : decode cX2_partSince 66 = .ok (.iload_n 1, 1) := by decide +kernel
theorem dX2_partSince_67 : decode cX2_partSince 67 = .ok (.putfield 30, 3) := by decide +kernel
theorem dX2_partSince_70 : decode cX2_partSince 70 = .ok (.return_, 1) := by decide +kernel
theorem dX2_packColours_0 : decode cX2_packColours 0 = .ok (.lconst 0, 1) := by decide +kernel
theorem dX2_packColours_1 : decode cX2_packColours 1 = .ok (.lstore_n 1, 1) := by decide +kernel
theorem dX2_packColours_2 : decode cX2_packColours 2 = .ok (.iconst 0, 1) := by decide +kernel
theorem dX2_packColours_3 : decode cX2_packColours 3 = .ok (.istore_n 3, 1) := by decide +kernel
theorem dX2_packColours_4 : decode cX2_packColours 4 = .ok (.iload_n 3, 1) := by decide +kernel
theorem dX2_packColours_5 : decode cX2_packColours 5 = .ok (.bipush 6, 2) := by decide +kernel
theorem dX2_packColours_7 : decode cX2_packColours 7 = .ok (.if_icmp .ge 38, 3) := by decide +kernel
theorem dX2_packColours_10 : decode cX2_packColours 10 = .ok (.lload_n 1, 1) := by decide +kernel
theorem dX2_packColours_11 : decode cX2_packColours 11 = .ok (.bipush 10, 2) := by decide +kernel
theorem dX2_packColours_13 : decode cX2_packColours 13 = .ok (.lshl, 1) := by decide +kernel
theorem dX2_packColours_14 : decode cX2_packColours 14 = .ok (.aload_n 0, 1) := by decide +kernel
theorem dX2_packColours_15 : decode cX2_packColours 15 = .ok (.getfield 9, 3) := by decide +kernel
theorem dX2_packColours_18 : decode cX2_packColours 18 = .ok (.iload_n 3, 1) := by decide +kernel
theorem dX2_packColours_19 : decode cX2_packColours 19 = .ok (.iconst 3, 1) := by decide +kernel
theorem dX2_packColours_20 : decode cX2_packColours 20 = .ok (.imul, 1) := by decide +kernel
theorem dX2_packColours_21 : decode cX2_packColours 21 = .ok (.iaload, 1) := by decide +kernel
theorem dX2_packColours_22 : decode cX2_packColours 22 = .ok (.iconst 5, 1) := by decide +kernel
theorem dX2_packColours_23 : decode cX2_packColours 23 = .ok (.ishl, 1) := by decide +kernel
theorem dX2_packColours_24 : decode cX2_packColours 24 = .ok (.i2l, 1) := by decide +kernel
theorem dX2_packColours_25 : decode cX2_packColours 25 = .ok (.lor, 1) := by decide +kernel
theorem dX2_packColours_26 : decode cX2_packColours 26 = .ok (.aload_n 0, 1) := by decide +kernel
theorem dX2_packColours_27 : decode cX2_packColours 27 = .ok (.getfield 9, 3) := by decide +kernel
theorem dX2_packColours_30 : decode cX2_packColours 30 = .ok (.iload_n 3, 1) := by decide +kernel
theorem dX2_packColours_31 : decode cX2_packColours 31 = .ok (.iconst 3, 1) := by decide +kernel
theorem dX2_packColours_32 : decode cX2_packColours 32 = .ok (.imul, 1) := by decide +kernel
theorem dX2_packColours_33 : decode cX2_packColours 33 = .ok (.iconst 1, 1) := by decide +kernel
theorem dX2_packColours_34 : decode cX2_packColours 34 = .ok (.iadd, 1) := by decide +kernel
theorem dX2_packColours_35 : decode cX2_packColours 35 = .ok (.iaload, 1) := by decide +kernel
theorem dX2_packColours_36 : decode cX2_packColours 36 = .ok (.i2l, 1) := by decide +kernel
theorem dX2_packColours_37 : decode cX2_packColours 37 = .ok (.lor, 1) := by decide +kernel
theorem dX2_packColours_38 : decode cX2_packColours 38 = .ok (.lstore_n 1, 1) := by decide +kernel
theorem dX2_packColours_39 : decode cX2_packColours 39 = .ok (.iinc 3 1, 3) := by decide +kernel
theorem dX2_packColours_42 : decode cX2_packColours 42 = .ok (.goto (-38), 3) := by decide +kernel
theorem dX2_packColours_45 : decode cX2_packColours 45 = .ok (.lload_n 1, 1) := by decide +kernel
theorem dX2_packColours_46 : decode cX2_packColours 46 = .ok (.lreturn, 1) := by decide +kernel
theorem dX3_init_0 : decode cX3_init 0 = .ok (.aload_n 0, 1) := by decide +kernel
theorem dX3_init_1 : decode cX3_init 1 = .ok (.invokespecial 3, 3) := by decide +kernel
theorem dX3_init_4 : decode cX3_init 4 = .ok (.aload_n 0, 1) := by decide +kernel
theorem dX3_init_5 : decode cX3_init 5 = .ok (.new 9, 3) := by decide +kernel
theorem dX3_init_8 : decode cX3_init 8 = .ok (.dup, 1) := by decide +kernel
theorem dX3_init_9 : decode cX3_init 9 = .ok (.invokespecial 11, 3) := by decide +kernel
theorem dX3_init_12 : decode cX3_init 12 = .ok (.putfield 12, 3) := by decide +kernel
theorem dX3_init_15 : decode cX3_init 15 = .ok (.aload_n 0, 1) := by decide +kernel
theorem dX3_init_16 : decode cX3_init 16 = .ok (.sipush 1782, 3) := by decide +kernel
theorem dX3_init_19 : decode cX3_init 19 = .ok (.newarray .int, 2) := by decide +kernel
theorem dX3_init_21 : decode cX3_init 21 = .ok (.putfield 18, 3) := by decide +kernel
theorem dX3_init_24 : decode cX3_init 24 = .ok (.aload_n 0, 1) := by decide +kernel
theorem dX3_init_25 : decode cX3_init 25 = .ok (.sipush 1800, 3) := by decide +kernel
theorem dX3_init_28 : decode cX3_init 28 = .ok (.newarray .int, 2) := by decide +kernel
theorem dX3_init_30 : decode cX3_init 30 = .ok (.putfield 22, 3) := by decide +kernel
theorem dX3_init_33 : decode cX3_init 33 = .ok (.aload_n 0, 1) := by decide +kernel
theorem dX3_init_34 : decode cX3_init 34 = .ok (.iconst 3, 1) := by decide +kernel
theorem dX3_init_35 : decode cX3_init 35 = .ok (.newarray .int, 2) := by decide +kernel
theorem dX3_init_37 : decode cX3_init 37 = .ok (.putfield 25, 3) := by decide +kernel
theorem dX3_init_40 : decode cX3_init 40 = .ok (.return_, 1) := by decide +kernel
theorem dX3_begin_0 : decode cX3_begin 0 = .ok (.aload_n 0, 1) := by decide +kernel
theorem dX3_begin_1 : decode cX3_begin 1 = .ok (.getfield 12, 3) := by decide +kernel
theorem dX3_begin_4 : decode cX3_begin 4 = .ok (.aload_n 1, 1) := by decide +kernel
theorem dX3_begin_5 : decode cX3_begin 5 = .ok (.invokevirtual 28, 3) := by decide +kernel
theorem dX3_begin_8 : decode cX3_begin 8 = .ok (.aload_n 0, 1) := by decide +kernel
theorem dX3_begin_9 : decode cX3_begin 9 = .ok (.getfield 12, 3) := by decide +kernel
theorem dX3_begin_12 : decode cX3_begin 12 = .ok (.getfield 32, 3) := by decide +kernel
theorem dX3_begin_15 : decode cX3_begin 15 = .ok (.iconst 0, 1) := by decide +kernel
theorem dX3_begin_16 : decode cX3_begin 16 = .ok (.aload_n 0, 1) := by decide +kernel
theorem dX3_begin_17 : decode cX3_begin 17 = .ok (.getfield 22, 3) := by decide +kernel
theorem dX3_begin_20 : decode cX3_begin 20 = .ok (.iconst 0, 1) := by decide +kernel
theorem dX3_begin_21 : decode cX3_begin 21 = .ok (.bipush 18, 2) := by decide +kernel
theorem dX3_begin_23 : decode cX3_begin 23 = .ok (.invokestatic 35, 3) := by decide +kernel
theorem dX3_begin_26 : decode cX3_begin 26 = .ok (.return_, 1) := by decide +kernel
theorem dX3_take_0 : decode cX3_take 0 = .ok (.aload_n 0, 1) := by decide +kernel
theorem dX3_take_1 : decode cX3_take 1 = .ok (.getfield 12, 3) := by decide +kernel
theorem dX3_take_4 : decode cX3_take 4 = .ok (.aload_n 1, 1) := by decide +kernel
theorem dX3_take_5 : decode cX3_take 5 = .ok (.getfield 12, 3) := by decide +kernel
theorem dX3_take_8 : decode cX3_take 8 = .ok (.invokevirtual 41, 3) := by decide +kernel
theorem dX3_take_11 : decode cX3_take 11 = .ok (.aload_n 1, 1) := by decide +kernel
theorem dX3_take_12 : decode cX3_take 12 = .ok (.getfield 18, 3) := by decide +kernel
theorem dX3_take_15 : decode cX3_take 15 = .ok (.iconst 0, 1) := by decide +kernel
theorem dX3_take_16 : decode cX3_take 16 = .ok (.aload_n 0, 1) := by decide +kernel
theorem dX3_take_17 : decode cX3_take 17 = .ok (.getfield 18, 3) := by decide +kernel
theorem dX3_take_20 : decode cX3_take 20 = .ok (.iconst 0, 1) := by decide +kernel
theorem dX3_take_21 : decode cX3_take 21 = .ok (.aload_n 0, 1) := by decide +kernel
theorem dX3_take_22 : decode cX3_take 22 = .ok (.getfield 18, 3) := by decide +kernel
theorem dX3_take_25 : decode cX3_take 25 = .ok (.arraylength, 1) := by decide +kernel
theorem dX3_take_26 : decode cX3_take 26 = .ok (.invokestatic 35, 3) := by decide +kernel
theorem dX3_take_29 : decode cX3_take 29 = .ok (.aload_n 1, 1) := by decide +kernel
theorem dX3_take_30 : decode cX3_take 30 = .ok (.getfield 22, 3) := by decide +kernel
theorem dX3_take_33 : decode cX3_take 33 = .ok (.iconst 0, 1) := by decide +kernel
theorem dX3_take_34 : decode cX3_take 34 = .ok (.aload_n 0, 1) := by decide +kernel
theorem dX3_take_35 : decode cX3_take 35 = .ok (.getfield 22, 3) := by decide +kernel
theorem dX3_take_38 : decode cX3_take 38 = .ok (.iconst 0, 1) := by decide +kernel
theorem dX3_take_39 : decode cX3_take 39 = .ok (.aload_n 0, 1) := by decide +kernel
theorem dX3_take_40 : decode cX3_take 40 = .ok (.getfield 22, 3) := by decide +kernel
theorem dX3_take_43 : decode cX3_take 43 = .ok (.arraylength, 1) := by decide +kernel
theorem dX3_take_44 : decode cX3_take 44 = .ok (.invokestatic 35, 3) := by decide +kernel
theorem dX3_take_47 : decode cX3_take 47 = .ok (.aload_n 1, 1) := by decide +kernel
theorem dX3_take_48 : decode cX3_take 48 = .ok (.getfield 25, 3) := by decide +kernel
theorem dX3_take_51 : decode cX3_take 51 = .ok (.iconst 0, 1) := by decide +kernel
theorem dX3_take_52 : decode cX3_take 52 = .ok (.aload_n 0, 1) := by decide +kernel
theorem dX3_take_53 : decode cX3_take 53 = .ok (.getfield 25, 3) := by decide +kernel
theorem dX3_take_56 : decode cX3_take 56 = .ok (.iconst 0, 1) := by decide +kernel
theorem dX3_take_57 : decode cX3_take 57 = .ok (.iconst 3, 1) := by decide +kernel
theorem dX3_take_58 : decode cX3_take 58 = .ok (.invokestatic 35, 3) := by decide +kernel
theorem dX3_take_61 : decode cX3_take 61 = .ok (.return_, 1) := by decide +kernel
theorem dX3_writeDusk_0 : decode cX3_writeDusk 0 = .ok (.aload_n 0, 1) := by decide +kernel
theorem dX3_writeDusk_1 : decode cX3_writeDusk 1 = .ok (.getfield 12, 3) := by decide +kernel
theorem dX3_writeDusk_4 : decode cX3_writeDusk 4 = .ok (.getfield 45, 3) := by decide +kernel
theorem dX3_writeDusk_7 : decode cX3_writeDusk 7 = .ok (.bipush 99, 2) := by decide +kernel
theorem dX3_writeDusk_9 : decode cX3_writeDusk 9 = .ok (.if_icmp .ge 30, 3) := by decide +kernel
theorem dX3_writeDusk_12 : decode cX3_writeDusk 12 = .ok (.aload_n 0, 1) := by decide +kernel
theorem dX3_writeDusk_13 : decode cX3_writeDusk 13 = .ok (.getfield 12, 3) := by decide +kernel
theorem dX3_writeDusk_16 : decode cX3_writeDusk 16 = .ok (.getfield 32, 3) := by decide +kernel
theorem dX3_writeDusk_19 : decode cX3_writeDusk 19 = .ok (.iconst 0, 1) := by decide +kernel
theorem dX3_writeDusk_20 : decode cX3_writeDusk 20 = .ok (.aload_n 0, 1) := by decide +kernel
theorem dX3_writeDusk_21 : decode cX3_writeDusk 21 = .ok (.getfield 18, 3) := by decide +kernel
theorem dX3_writeDusk_24 : decode cX3_writeDusk 24 = .ok (.aload_n 0, 1) := by decide +kernel
theorem dX3_writeDusk_25 : decode cX3_writeDusk 25 = .ok (.getfield 12, 3) := by decide +kernel
theorem dX3_writeDusk_28 : decode cX3_writeDusk 28 = .ok (.getfield 45, 3) := by decide +kernel
theorem dX3_writeDusk_31 : decode cX3_writeDusk 31 = .ok (.bipush 18, 2) := by decide +kernel
theorem dX3_writeDusk_33 : decode cX3_writeDusk 33 = .ok (.imul, 1) := by decide +kernel
theorem dX3_writeDusk_34 : decode cX3_writeDusk 34 = .ok (.bipush 18, 2) := by decide +kernel
theorem dX3_writeDusk_36 : decode cX3_writeDusk 36 = .ok (.invokestatic 35, 3) := by decide +kernel
theorem dX3_writeDusk_39 : decode cX3_writeDusk 39 = .ok (.return_, 1) := by decide +kernel
theorem dX3_writeDawn_0 : decode cX3_writeDawn 0 = .ok (.aload_n 0, 1) := by decide +kernel
theorem dX3_writeDawn_1 : decode cX3_writeDawn 1 = .ok (.getfield 12, 3) := by decide +kernel
theorem dX3_writeDawn_4 : decode cX3_writeDawn 4 = .ok (.getfield 45, 3) := by decide +kernel
theorem dX3_writeDawn_7 : decode cX3_writeDawn 7 = .ok (.bipush 99, 2) := by decide +kernel
theorem dX3_writeDawn_9 : decode cX3_writeDawn 9 = .ok (.if_icmp .gt 30, 3) := by decide +kernel
theorem dX3_writeDawn_12 : decode cX3_writeDawn 12 = .ok (.aload_n 0, 1) := by decide +kernel
theorem dX3_writeDawn_13 : decode cX3_writeDawn 13 = .ok (.getfield 12, 3) := by decide +kernel
theorem dX3_writeDawn_16 : decode cX3_writeDawn 16 = .ok (.getfield 32, 3) := by decide +kernel
theorem dX3_writeDawn_19 : decode cX3_writeDawn 19 = .ok (.iconst 0, 1) := by decide +kernel
theorem dX3_writeDawn_20 : decode cX3_writeDawn 20 = .ok (.aload_n 0, 1) := by decide +kernel
theorem dX3_writeDawn_21 : decode cX3_writeDawn 21 = .ok (.getfield 22, 3) := by decide +kernel
theorem dX3_writeDawn_24 : decode cX3_writeDawn 24 = .ok (.aload_n 0, 1) := by decide +kernel
theorem dX3_writeDawn_25 : decode cX3_writeDawn 25 = .ok (.getfield 12, 3) := by decide +kernel
theorem dX3_writeDawn_28 : decode cX3_writeDawn 28 = .ok (.getfield 45, 3) := by decide +kernel
theorem dX3_writeDawn_31 : decode cX3_writeDawn 31 = .ok (.bipush 18, 2) := by decide +kernel
theorem dX3_writeDawn_33 : decode cX3_writeDawn 33 = .ok (.imul, 1) := by decide +kernel
theorem dX3_writeDawn_34 : decode cX3_writeDawn 34 = .ok (.bipush 18, 2) := by decide +kernel
theorem dX3_writeDawn_36 : decode cX3_writeDawn 36 = .ok (.invokestatic 35, 3) := by decide +kernel
theorem dX3_writeDawn_39 : decode cX3_writeDawn 39 = .ok (.return_, 1) := by decide +kernel
theorem dX3_goBack_0 : decode cX3_goBack 0 = .ok (.aload_n 0, 1) := by decide +kernel
theorem dX3_goBack_1 : decode cX3_goBack 1 = .ok (.getfield 12, 3) := by decide +kernel
theorem dX3_goBack_4 : decode cX3_goBack 4 = .ok (.aload_n 0, 1) := by decide +kernel
theorem dX3_goBack_5 : decode cX3_goBack 5 = .ok (.getfield 12, 3) := by decide +kernel
theorem dX3_goBack_8 : decode cX3_goBack 8 = .ok (.getfield 45, 3) := by decide +kernel
theorem dX3_goBack_11 : decode cX3_goBack 11 = .ok (.iload_n 1, 1) := by decide +kernel
theorem dX3_goBack_12 : decode cX3_goBack 12 = .ok (.isub, 1) := by decide +kernel
theorem dX3_goBack_13 : decode cX3_goBack 13 = .ok (.invokevirtual 49, 3) := by decide +kernel
theorem dX3_goBack_16 : decode cX3_goBack 16 = .ok (.aload_n 0, 1) := by decide +kernel
theorem dX3_goBack_17 : decode cX3_goBack 17 = .ok (.getfield 22, 3) := by decide +kernel
theorem dX3_goBack_20 : decode cX3_goBack 20 = .ok (.aload_n 0, 1) := by decide +kernel
theorem dX3_goBack_21 : decode cX3_goBack 21 = .ok (.getfield 12, 3) := by decide +kernel
theorem dX3_goBack_24 : decode cX3_goBack 24 = .ok (.getfield 45, 3) := by decide +kernel
theorem dX3_goBack_27 : decode cX3_goBack 27 = .ok (.bipush 18, 2) := by decide +kernel
theorem dX3_goBack_29 : decode cX3_goBack 29 = .ok (.imul, 1) := by decide +kernel
theorem dX3_goBack_30 : decode cX3_goBack 30 = .ok (.aload_n 0, 1) := by decide +kernel
theorem dX3_goBack_31 : decode cX3_goBack 31 = .ok (.getfield 12, 3) := by decide +kernel
theorem dX3_goBack_34 : decode cX3_goBack 34 = .ok (.getfield 32, 3) := by decide +kernel
theorem dX3_goBack_37 : decode cX3_goBack 37 = .ok (.iconst 0, 1) := by decide +kernel
theorem dX3_goBack_38 : decode cX3_goBack 38 = .ok (.bipush 18, 2) := by decide +kernel
theorem dX3_goBack_40 : decode cX3_goBack 40 = .ok (.invokestatic 35, 3) := by decide +kernel
theorem dX3_goBack_43 : decode cX3_goBack 43 = .ok (.return_, 1) := by decide +kernel
theorem dX3_readDusk_0 : decode cX3_readDusk 0 = .ok (.aload_n 2, 1) := by decide +kernel
theorem dX3_readDusk_1 : decode cX3_readDusk 1 = .ok (.aload_n 0, 1) := by decide +kernel
theorem dX3_readDusk_2 : decode cX3_readDusk 2 = .ok (.getfield 12, 3) := by decide +kernel
theorem dX3_readDusk_5 : decode cX3_readDusk 5 = .ok (.invokevirtual 41, 3) := by decide +kernel
theorem dX3_readDusk_8 : decode cX3_readDusk 8 = .ok (.aload_n 2, 1) := by decide +kernel
theorem dX3_readDusk_9 : decode cX3_readDusk 9 = .ok (.iload_n 1, 1) := by decide +kernel
theorem dX3_readDusk_10 : decode cX3_readDusk 10 = .ok (.invokevirtual 49, 3) := by decide +kernel
theorem dX3_readDusk_13 : decode cX3_readDusk 13 = .ok (.aload_n 0, 1) := by decide +kernel
theorem dX3_readDusk_14 : decode cX3_readDusk 14 = .ok (.getfield 18, 3) := by decide +kernel
theorem dX3_readDusk_17 : decode cX3_readDusk 17 = .ok (.iload_n 1, 1) := by decide +kernel
theorem dX3_readDusk_18 : decode cX3_readDusk 18 = .ok (.bipush 18, 2) := by decide +kernel
theorem dX3_readDusk_20 : decode cX3_readDusk 20 = .ok (.imul, 1) := by decide +kernel
theorem dX3_readDusk_21 : decode cX3_readDusk 21 = .ok (.aload_n 2, 1) := by decide +kernel
theorem dX3_readDusk_22 : decode cX3_readDusk 22 = .ok (.getfield 32, 3) := by decide +kernel
theorem dX3_readDusk_25 : decode cX3_readDusk 25 = .ok (.iconst 0, 1) := by decide +kernel
theorem dX3_readDusk_26 : decode cX3_readDusk 26 = .ok (.bipush 18, 2) := by decide +kernel
theorem dX3_readDusk_28 : decode cX3_readDusk 28 = .ok (.invokestatic 35, 3) := by decide +kernel
theorem dX3_readDusk_31 : decode cX3_readDusk 31 = .ok (.return_, 1) := by decide +kernel
theorem dX3_readDawn_0 : decode cX3_readDawn 0 = .ok (.aload_n 0, 1) := by decide +kernel
theorem dX3_readDawn_1 : decode cX3_readDawn 1 = .ok (.getfield 22, 3) := by decide +kernel
theorem dX3_readDawn_4 : decode cX3_readDawn 4 = .ok (.iload_n 1, 1) := by decide +kernel
theorem dX3_readDawn_5 : decode cX3_readDawn 5 = .ok (.iconst 1, 1) := by decide +kernel
theorem dX3_readDawn_6 : decode cX3_readDawn 6 = .ok (.iadd, 1) := by decide +kernel
theorem dX3_readDawn_7 : decode cX3_readDawn 7 = .ok (.bipush 18, 2) := by decide +kernel
theorem dX3_readDawn_9 : decode cX3_readDawn 9 = .ok (.imul, 1) := by decide +kernel
theorem dX3_readDawn_10 : decode cX3_readDawn 10 = .ok (.iload_n 2, 1) := by decide +kernel
theorem dX3_readDawn_11 : decode cX3_readDawn 11 = .ok (.iconst 3, 1) := by decide +kernel
theorem dX3_readDawn_12 : decode cX3_readDawn 12 = .ok (.imul, 1) := by decide +kernel
theorem dX3_readDawn_13 : decode cX3_readDawn 13 = .ok (.iadd, 1) := by decide +kernel
theorem dX3_readDawn_14 : decode cX3_readDawn 14 = .ok (.aload_n 3, 1) := by decide +kernel
theorem dX3_readDawn_15 : decode cX3_readDawn 15 = .ok (.iconst 0, 1) := by decide +kernel
theorem dX3_readDawn_16 : decode cX3_readDawn 16 = .ok (.iconst 3, 1) := by decide +kernel
theorem dX3_readDawn_17 : decode cX3_readDawn 17 = .ok (.invokestatic 35, 3) := by decide +kernel
theorem dX3_readDawn_20 : decode cX3_readDawn 20 = .ok (.return_, 1) := by decide +kernel
theorem dX4_init_0 : decode cX4_init 0 = .ok (.aload_n 0, 1) := by decide +kernel
theorem dX4_init_1 : decode cX4_init 1 = .ok (.invokespecial 3, 3) := by decide +kernel
theorem dX4_init_4 : decode cX4_init 4 = .ok (.aload_n 0, 1) := by decide +kernel
theorem dX4_init_5 : decode cX4_init 5 = .ok (.bipush 6, 2) := by decide +kernel
theorem dX4_init_7 : decode cX4_init 7 = .ok (.newarray .int, 2) := by decide +kernel
theorem dX4_init_9 : decode cX4_init 9 = .ok (.putfield 9, 3) := by decide +kernel
theorem dX4_init_12 : decode cX4_init 12 = .ok (.aload_n 0, 1) := by decide +kernel
theorem dX4_init_13 : decode cX4_init 13 = .ok (.bipush 6, 2) := by decide +kernel
theorem dX4_init_15 : decode cX4_init 15 = .ok (.newarray .int, 2) := by decide +kernel
theorem dX4_init_17 : decode cX4_init 17 = .ok (.putfield 15, 3) := by decide +kernel
theorem dX4_init_20 : decode cX4_init 20 = .ok (.aload_n 0, 1) := by decide +kernel
theorem dX4_init_21 : decode cX4_init 21 = .ok (.bipush 6, 2) := by decide +kernel
theorem dX4_init_23 : decode cX4_init 23 = .ok (.newarray .int, 2) := by decide +kernel
theorem dX4_init_25 : decode cX4_init 25 = .ok (.putfield 18, 3) := by decide +kernel
theorem dX4_init_28 : decode cX4_init 28 = .ok (.aload_n 0, 1) := by decide +kernel
theorem dX4_init_29 : decode cX4_init 29 = .ok (.bipush 18, 2) := by decide +kernel
theorem dX4_init_31 : decode cX4_init 31 = .ok (.newarray .int, 2) := by decide +kernel
theorem dX4_init_33 : decode cX4_init 33 = .ok (.putfield 21, 3) := by decide +kernel
theorem dX4_init_36 : decode cX4_init 36 = .ok (.aload_n 0, 1) := by decide +kernel
theorem dX4_init_37 : decode cX4_init 37 = .ok (.bipush 10, 2) := by decide +kernel
theorem dX4_init_39 : decode cX4_init 39 = .ok (.newarray .int, 2) := by decide +kernel
theorem dX4_init_41 : decode cX4_init 41 = .ok (.putfield 24, 3) := by decide +kernel
theorem dX4_init_44 : decode cX4_init 44 = .ok (.aload_n 0, 1) := by decide +kernel
theorem dX4_init_45 : decode cX4_init 45 = .ok (.bipush 10, 2) := by decide +kernel
theorem dX4_init_47 : decode cX4_init 47 = .ok (.newarray .int, 2) := by decide +kernel
theorem dX4_init_49 : decode cX4_init 49 = .ok (.putfield 27, 3) := by decide +kernel
theorem dX4_init_52 : decode cX4_init 52 = .ok (.aload_n 0, 1) := by decide +kernel
theorem dX4_init_53 : decode cX4_init 53 = .ok (.bipush 10, 2) := by decide +kernel
theorem dX4_init_55 : decode cX4_init 55 = .ok (.newarray .int, 2) := by decide +kernel
theorem dX4_init_57 : decode cX4_init 57 = .ok (.putfield 30, 3) := by decide +kernel
theorem dX4_init_60 : decode cX4_init 60 = .ok (.aload_n 0, 1) := by decide +kernel
theorem dX4_init_61 : decode cX4_init 61 = .ok (.invokevirtual 33, 3) := by decide +kernel
theorem dX4_init_64 : decode cX4_init 64 = .ok (.return_, 1) := by decide +kernel
theorem dX4_forget_0 : decode cX4_forget 0 = .ok (.aload_n 0, 1) := by decide +kernel
theorem dX4_forget_1 : decode cX4_forget 1 = .ok (.bipush 12, 2) := by decide +kernel
theorem dX4_forget_3 : decode cX4_forget 3 = .ok (.putfield 36, 3) := by decide +kernel
theorem dX4_forget_6 : decode cX4_forget 6 = .ok (.aload_n 0, 1) := by decide +kernel
theorem dX4_forget_7 : decode cX4_forget 7 = .ok (.iconst 0, 1) := by decide +kernel
theorem dX4_forget_8 : decode cX4_forget 8 = .ok (.putfield 40, 3) := by decide +kernel
theorem dX4_forget_11 : decode cX4_forget 11 = .ok (.aload_n 0, 1) := by decide +kernel
theorem dX4_forget_12 : decode cX4_forget 12 = .ok (.iconst 1, 1) := by decide +kernel
theorem dX4_forget_13 : decode cX4_forget 13 = .ok (.putfield 43, 3) := by decide +kernel
theorem dX4_forget_16 : decode cX4_forget 16 = .ok (.aload_n 0, 1) := by decide +kernel
theorem dX4_forget_17 : decode cX4_forget 17 = .ok (.iconst 0, 1) := by decide +kernel
theorem dX4_forget_18 : decode cX4_forget 18 = .ok (.putfield 46, 3) := by decide +kernel
theorem dX4_forget_21 : decode cX4_forget 21 = .ok (.aload_n 0, 1) := by decide +kernel
theorem dX4_forget_22 : decode cX4_forget 22 = .ok (.iconst 0, 1) := by decide +kernel
theorem dX4_forget_23 : decode cX4_forget 23 = .ok (.putfield 49, 3) := by decide +kernel
theorem dX4_forget_26 : decode cX4_forget 26 = .ok (.aload_n 0, 1) := by decide +kernel
theorem dX4_forget_27 : decode cX4_forget 27 = .ok (.bipush 40, 2) := by decide +kernel
theorem dX4_forget_29 : decode cX4_forget 29 = .ok (.putfield 52, 3) := by decide +kernel
theorem dX4_forget_32 : decode cX4_forget 32 = .ok (.aload_n 0, 1) := by decide +kernel
theorem dX4_forget_33 : decode cX4_forget 33 = .ok (.iconst 0, 1) := by decide +kernel
theorem dX4_forget_34 : decode cX4_forget 34 = .ok (.putfield 55, 3) := by decide +kernel
theorem dX4_forget_37 : decode cX4_forget 37 = .ok (.return_, 1) := by decide +kernel
theorem dX4_addLamp_0 : decode cX4_addLamp 0 = .ok (.aload_n 0, 1) := by decide +kernel
theorem dX4_addLamp_1 : decode cX4_addLamp 1 = .ok (.getfield 40, 3) := by decide +kernel
theorem dX4_addLamp_4 : decode cX4_addLamp 4 = .ok (.bipush 6, 2) := by decide +kernel
theorem dX4_addLamp_6 : decode cX4_addLamp 6 = .ok (.if_icmp .ge 92, 3) := by decide +kernel
theorem dX4_addLamp_9 : decode cX4_addLamp 9 = .ok (.aload_n 0, 1) := by decide +kernel
theorem dX4_addLamp_10 : decode cX4_addLamp 10 = .ok (.getfield 9, 3) := by decide +kernel
theorem dX4_addLamp_13 : decode cX4_addLamp 13 = .ok (.aload_n 0, 1) := by decide +kernel
theorem dX4_addLamp_14 : decode cX4_addLamp 14 = .ok (.getfield 40, 3) := by decide +kernel
theorem dX4_addLamp_17 : decode cX4_addLamp 17 = .ok (.iload_n 1, 1) := by decide +kernel
theorem dX4_addLamp_18 : decode cX4_addLamp 18 = .ok (.iastore, 1) := by decide +kernel
theorem dX4_addLamp_19 : decode cX4_addLamp 19 = .ok (.aload_n 0, 1) := by decide +kernel
theorem dX4_addLamp_20 : decode cX4_addLamp 20 = .ok (.getfield 15, 3) := by decide +kernel
theorem dX4_addLamp_23 : decode cX4_addLamp 23 = .ok (.aload_n 0, 1) := by decide +kernel
theorem dX4_addLamp_24 : decode cX4_addLamp 24 = .ok (.getfield 40, 3) := by decide +kernel
theorem dX4_addLamp_27 : decode cX4_addLamp 27 = .ok (.iload_n 2, 1) := by decide +kernel
theorem dX4_addLamp_28 : decode cX4_addLamp 28 = .ok (.iastore, 1) := by decide +kernel
theorem dX4_addLamp_29 : decode cX4_addLamp 29 = .ok (.aload_n 0, 1) := by decide +kernel
theorem dX4_addLamp_30 : decode cX4_addLamp 30 = .ok (.getfield 18, 3) := by decide +kernel
theorem dX4_addLamp_33 : decode cX4_addLamp 33 = .ok (.aload_n 0, 1) := by decide +kernel
theorem dX4_addLamp_34 : decode cX4_addLamp 34 = .ok (.getfield 40, 3) := by decide +kernel
theorem dX4_addLamp_37 : decode cX4_addLamp 37 = .ok (.iconst (-1), 1) := by decide +kernel
theorem dX4_addLamp_38 : decode cX4_addLamp 38 = .ok (.iastore, 1) := by decide +kernel
theorem dX4_addLamp_39 : decode cX4_addLamp 39 = .ok (.aload_n 0, 1) := by decide +kernel
theorem dX4_addLamp_40 : decode cX4_addLamp 40 = .ok (.getfield 21, 3) := by decide +kernel
theorem dX4_addLamp_43 : decode cX4_addLamp 43 = .ok (.aload_n 0, 1) := by decide +kernel
theorem dX4_addLamp_44 : decode cX4_addLamp 44 = .ok (.getfield 40, 3) := by decide +kernel
theorem dX4_addLamp_47 : decode cX4_addLamp 47 = .ok (.iconst 3, 1) := by decide +kernel
theorem dX4_addLamp_48 : decode cX4_addLamp 48 = .ok (.imul, 1) := by decide +kernel
theorem dX4_addLamp_49 : decode cX4_addLamp 49 = .ok (.iload_n 3, 1) := by decide +kernel
theorem dX4_addLamp_50 : decode cX4_addLamp 50 = .ok (.iastore, 1) := by decide +kernel
theorem dX4_addLamp_51 : decode cX4_addLamp 51 = .ok (.aload_n 0, 1) := by decide +kernel
theorem dX4_addLamp_52 : decode cX4_addLamp 52 = .ok (.getfield 21, 3) := by decide +kernel
theorem dX4_addLamp_55 : decode cX4_addLamp 55 = .ok (.aload_n 0, 1) := by decide +kernel
theorem dX4_addLamp_56 : decode cX4_addLamp 56 = .ok (.getfield 40, 3) := by decide +kernel
theorem dX4_addLamp_59 : decode cX4_addLamp 59 = .ok (.iconst 3, 1) := by decide +kernel
theorem dX4_addLamp_60 : decode cX4_addLamp 60 = .ok (.imul, 1) := by decide +kernel
theorem dX4_addLamp_61 : decode cX4_addLamp 61 = .ok (.iconst 1, 1) := by decide +kernel
theorem dX4_addLamp_62 : decode cX4_addLamp 62 = .ok (.iadd, 1) := by decide +kernel
theorem dX4_addLamp_63 : decode cX4_addLamp 63 = .ok (.iload 4, 2) := by decide +kernel
theorem dX4_addLamp_65 : decode cX4_addLamp 65 = .ok (.iastore, 1) := by decide +kernel
theorem dX4_addLamp_66 : decode cX4_addLamp 66 = .ok (.aload_n 0, 1) := by decide +kernel
theorem dX4_addLamp_67 : decode cX4_addLamp 67 = .ok (.getfield 21, 3) := by decide +kernel
theorem dX4_addLamp_70 : decode cX4_addLamp 70 = .ok (.aload_n 0, 1) := by decide +kernel
theorem dX4_addLamp_71 : decode cX4_addLamp 71 = .ok (.getfield 40, 3) := by decide +kernel
theorem dX4_addLamp_74 : decode cX4_addLamp 74 = .ok (.iconst 3, 1) := by decide +kernel
theorem dX4_addLamp_75 : decode cX4_addLamp 75 = .ok (.imul, 1) := by decide +kernel
theorem dX4_addLamp_76 : decode cX4_addLamp 76 = .ok (.iconst 2, 1) := by decide +kernel
theorem dX4_addLamp_77 : decode cX4_addLamp 77 = .ok (.iadd, 1) := by decide +kernel
theorem dX4_addLamp_78 : decode cX4_addLamp 78 = .ok (.aload_n 0, 1) := by decide +kernel
theorem dX4_addLamp_79 : decode cX4_addLamp 79 = .ok (.getfield 36, 3) := by decide +kernel
theorem dX4_addLamp_82 : decode cX4_addLamp 82 = .ok (.iload_n 3, 1) := by decide +kernel
theorem dX4_addLamp_83 : decode cX4_addLamp 83 = .ok (.isub, 1) := by decide +kernel
theorem dX4_addLamp_84 : decode cX4_addLamp 84 = .ok (.iload 4, 2) := by decide +kernel
theorem dX4_addLamp_86 : decode cX4_addLamp 86 = .ok (.isub, 1) := by decide +kernel
theorem dX4_addLamp_87 : decode cX4_addLamp 87 = .ok (.iastore, 1) := by decide +kernel
theorem dX4_addLamp_88 : decode cX4_addLamp 88 = .ok (.aload_n 0, 1) := by decide +kernel
theorem dX4_addLamp_89 : decode cX4_addLamp 89 = .ok (.dup, 1) := by decide +kernel
theorem dX4_addLamp_90 : decode cX4_addLamp 90 = .ok (.getfield 40, 3) := by decide +kernel
theorem dX4_addLamp_93 : decode cX4_addLamp 93 = .ok (.iconst 1, 1) := by decide +kernel
theorem dX4_addLamp_94 : decode cX4_addLamp 94 = .ok (.iadd, 1) := by decide +kernel
theorem dX4_addLamp_95 : decode cX4_addLamp 95 = .ok (.putfield 40, 3) := by decide +kernel
theorem dX4_addLamp_98 : decode cX4_addLamp 98 = .ok (.return_, 1) := by decide +kernel
theorem dX4_addFog_0 : decode cX4_addFog 0 = .ok (.aload_n 0, 1) := by decide +kernel
theorem dX4_addFog_1 : decode cX4_addFog 1 = .ok (.getfield 55, 3) := by decide +kernel
theorem dX4_addFog_4 : decode cX4_addFog 4 = .ok (.bipush 10, 2) := by decide +kernel
theorem dX4_addFog_6 : decode cX4_addFog 6 = .ok (.if_icmp .ge 43, 3) := by decide +kernel
theorem dX4_addFog_9 : decode cX4_addFog 9 = .ok (.aload_n 0, 1) := by decide +kernel
theorem dX4_addFog_10 : decode cX4_addFog 10 = .ok (.getfield 24, 3) := by decide +kernel
theorem dX4_addFog_13 : decode cX4_addFog 13 = .ok (.aload_n 0, 1) := by decide +kernel
theorem dX4_addFog_14 : decode cX4_addFog 14 = .ok (.getfield 55, 3) := by decide +kernel
theorem dX4_addFog_17 : decode cX4_addFog 17 = .ok (.iload_n 1, 1) := by decide +kernel
theorem dX4_addFog_18 : decode cX4_addFog 18 = .ok (.iastore, 1) := by decide +kernel
theorem dX4_addFog_19 : decode cX4_addFog 19 = .ok (.aload_n 0, 1) := by decide +kernel
theorem dX4_addFog_20 : decode cX4_addFog 20 = .ok (.getfield 27, 3) := by decide +kernel
theorem dX4_addFog_23 : decode cX4_addFog 23 = .ok (.aload_n 0, 1) := by decide +kernel
theorem dX4_addFog_24 : decode cX4_addFog 24 = .ok (.getfield 55, 3) := by decide +kernel
theorem dX4_addFog_27 : decode cX4_addFog 27 = .ok (.iload_n 2, 1) := by decide +kernel
theorem dX4_addFog_28 : decode cX4_addFog 28 = .ok (.iastore, 1) := by decide +kernel
theorem dX4_addFog_29 : decode cX4_addFog 29 = .ok (.aload_n 0, 1) := by decide +kernel
theorem dX4_addFog_30 : decode cX4_addFog 30 = .ok (.getfield 30, 3) := by decide +kernel
theorem dX4_addFog_33 : decode cX4_addFog 33 = .ok (.aload_n 0, 1) := by decide +kernel
theorem dX4_addFog_34 : decode cX4_addFog 34 = .ok (.getfield 55, 3) := by decide +kernel
theorem dX4_addFog_37 : decode cX4_addFog 37 = .ok (.iload_n 3, 1) := by decide +kernel
theorem dX4_addFog_38 : decode cX4_addFog 38 = .ok (.iastore, 1) := by decide +kernel
theorem dX4_addFog_39 : decode cX4_addFog 39 = .ok (.aload_n 0, 1) := by decide +kernel
theorem dX4_addFog_40 : decode cX4_addFog 40 = .ok (.dup, 1) := by decide +kernel
theorem dX4_addFog_41 : decode cX4_addFog 41 = .ok (.getfield 55, 3) := by decide +kernel
theorem dX4_addFog_44 : decode cX4_addFog 44 = .ok (.iconst 1, 1) := by decide +kernel
theorem dX4_addFog_45 : decode cX4_addFog 45 = .ok (.iadd, 1) := by decide +kernel
theorem dX4_addFog_46 : decode cX4_addFog 46 = .ok (.putfield 55, 3) := by decide +kernel
theorem dX4_addFog_49 : decode cX4_addFog 49 = .ok (.return_, 1) := by decide +kernel
theorem dX4_hides_0 : decode cX4_hides 0 = .ok (.iconst 0, 1) := by decide +kernel
theorem dX4_hides_1 : decode cX4_hides 1 = .ok (.istore 4, 2) := by decide +kernel
theorem dX4_hides_3 : decode cX4_hides 3 = .ok (.iload 4, 2) := by decide +kernel
theorem dX4_hides_5 : decode cX4_hides 5 = .ok (.aload_n 0, 1) := by decide +kernel
theorem dX4_hides_6 : decode cX4_hides 6 = .ok (.getfield 55, 3) := by decide +kernel
theorem dX4_hides_9 : decode cX4_hides 9 = .ok (.if_icmp .ge 44, 3) := by decide +kernel
theorem dX4_hides_12 : decode cX4_hides 12 = .ok (.aload_n 0, 1) := by decide +kernel
theorem dX4_hides_13 : decode cX4_hides 13 = .ok (.getfield 24, 3) := by decide +kernel
theorem dX4_hides_16 : decode cX4_hides 16 = .ok (.iload 4, 2) := by decide +kernel
theorem dX4_hides_18 : decode cX4_hides 18 = .ok (.iaload, 1) := by decide +kernel
theorem dX4_hides_19 : decode cX4_hides 19 = .ok (.iload_n 1, 1) := by decide +kernel
theorem dX4_hides_20 : decode cX4_hides 20 = .ok (.if_icmp .ne 27, 3) := by decide +kernel
theorem dX4_hides_23 : decode cX4_hides 23 = .ok (.aload_n 0, 1) := by decide +kernel
theorem dX4_hides_24 : decode cX4_hides 24 = .ok (.getfield 27, 3) := by decide +kernel
theorem dX4_hides_27 : decode cX4_hides 27 = .ok (.iload 4, 2) := by decide +kernel
theorem dX4_hides_29 : decode cX4_hides 29 = .ok (.iaload, 1) := by decide +kernel
theorem dX4_hides_30 : decode cX4_hides 30 = .ok (.iload_n 2, 1) := by decide +kernel
theorem dX4_hides_31 : decode cX4_hides 31 = .ok (.if_icmp .ne 16, 3) := by decide +kernel
theorem dX4_hides_34 : decode cX4_hides 34 = .ok (.aload_n 0, 1) := by decide +kernel
theorem dX4_hides_35 : decode cX4_hides 35 = .ok (.getfield 30, 3) := by decide +kernel
theorem dX4_hides_38 : decode cX4_hides 38 = .ok (.iload 4, 2) := by decide +kernel
theorem dX4_hides_40 : decode cX4_hides 40 = .ok (.iaload, 1) := by decide +kernel
theorem dX4_hides_41 : decode cX4_hides 41 = .ok (.iload_n 3, 1) := by decide +kernel
theorem dX4_hides_42 : decode cX4_hides 42 = .ok (.if_icmp .ne 5, 3) := by decide +kernel
theorem dX4_hides_45 : decode cX4_hides 45 = .ok (.iconst 1, 1) := by decide +kernel
theorem dX4_hides_46 : decode cX4_hides 46 = .ok (.ireturn, 1) := by decide +kernel
theorem dX4_hides_47 : decode cX4_hides 47 = .ok (.iinc 4 1, 3) := by decide +kernel
theorem dX4_hides_50 : decode cX4_hides 50 = .ok (.goto (-47), 3) := by decide +kernel
theorem dX4_hides_53 : decode cX4_hides 53 = .ok (.iconst 0, 1) := by decide +kernel
theorem dX4_hides_54 : decode cX4_hides 54 = .ok (.ireturn, 1) := by decide +kernel
theorem dX4_findLastFog_0 : decode cX4_findLastFog 0 = .ok (.iconst (-1), 1) := by decide +kernel
theorem dX4_findLastFog_1 : decode cX4_findLastFog 1 = .ok (.istore_n 1, 1) := by decide +kernel
theorem dX4_findLastFog_2 : decode cX4_findLastFog 2 = .ok (.iconst 0, 1) := by decide +kernel
theorem dX4_findLastFog_3 : decode cX4_findLastFog 3 = .ok (.istore_n 2, 1) := by decide +kernel
theorem dX4_findLastFog_4 : decode cX4_findLastFog 4 = .ok (.iload_n 2, 1) := by decide +kernel
theorem dX4_findLastFog_5 : decode cX4_findLastFog 5 = .ok (.aload_n 0, 1) := by decide +kernel
theorem dX4_findLastFog_6 : decode cX4_findLastFog 6 = .ok (.getfield 55, 3) := by decide +kernel
theorem dX4_findLastFog_9 : decode cX4_findLastFog 9 = .ok (.if_icmp .ge 20, 3) := by decide +kernel
theorem dX4_findLastFog_12 : decode cX4_findLastFog 12 = .ok (.iload_n 1, 1) := by decide +kernel
theorem dX4_findLastFog_13 : decode cX4_findLastFog 13 = .ok (.aload_n 0, 1) := by decide +kernel
theorem dX4_findLastFog_14 : decode cX4_findLastFog 14 = .ok (.getfield 24, 3) := by decide +kernel
theorem dX4_findLastFog_17 : decode cX4_findLastFog 17 = .ok (.iload_n 2, 1) := by decide +kernel
theorem dX4_findLastFog_18 : decode cX4_findLastFog 18 = .ok (.iaload, 1) := by decide +kernel
theorem dX4_findLastFog_19 : decode cX4_findLastFog 19 = .ok (.invokestatic 58, 3) := by decide +kernel
theorem dX4_findLastFog_22 : decode cX4_findLastFog 22 = .ok (.istore_n 1, 1) := by decide +kernel
theorem dX4_findLastFog_23 : decode cX4_findLastFog 23 = .ok (.iinc 2 1, 3) := by decide +kernel
theorem dX4_findLastFog_26 : decode cX4_findLastFog 26 = .ok (.goto (-22), 3) := by decide +kernel
theorem dX4_findLastFog_29 : decode cX4_findLastFog 29 = .ok (.iload_n 1, 1) := by decide +kernel
theorem dX4_findLastFog_30 : decode cX4_findLastFog 30 = .ok (.ireturn, 1) := by decide +kernel
theorem dX4_countAcross_0 : decode cX4_countAcross 0 = .ok (.iconst 0, 1) := by decide +kernel
theorem dX4_countAcross_1 : decode cX4_countAcross 1 = .ok (.istore_n 2, 1) := by decide +kernel
theorem dX4_countAcross_2 : decode cX4_countAcross 2 = .ok (.iconst 0, 1) := by decide +kernel
theorem dX4_countAcross_3 : decode cX4_countAcross 3 = .ok (.istore_n 3, 1) := by decide +kernel
theorem dX4_countAcross_4 : decode cX4_countAcross 4 = .ok (.iload_n 3, 1) := by decide +kernel
theorem dX4_countAcross_5 : decode cX4_countAcross 5 = .ok (.aload_n 0, 1) := by decide +kernel
theorem dX4_countAcross_6 : decode cX4_countAcross 6 = .ok (.getfield 40, 3) := by decide +kernel
theorem dX4_countAcross_9 : decode cX4_countAcross 9 = .ok (.if_icmp .ge 27, 3) := by decide +kernel
theorem dX4_countAcross_12 : decode cX4_countAcross 12 = .ok (.aload_n 0, 1) := by decide +kernel
theorem dX4_countAcross_13 : decode cX4_countAcross 13 = .ok (.getfield 15, 3) := by decide +kernel
theorem dX4_countAcross_16 : decode cX4_countAcross 16 = .ok (.iload_n 3, 1) := by decide +kernel
theorem dX4_countAcross_17 : decode cX4_countAcross 17 = .ok (.iaload, 1) := by decide +kernel
theorem dX4_countAcross_18 : decode cX4_countAcross 18 = .ok (.aload_n 0, 1) := by decide +kernel
theorem dX4_countAcross_19 : decode cX4_countAcross 19 = .ok (.getfield 15, 3) := by decide +kernel
theorem dX4_countAcross_22 : decode cX4_countAcross 22 = .ok (.iload_n 1, 1) := by decide +kernel
theorem dX4_countAcross_23 : decode cX4_countAcross 23 = .ok (.iaload, 1) := by decide +kernel
theorem dX4_countAcross_24 : decode cX4_countAcross 24 = .ok (.if_icmp .eq 6, 3) := by decide +kernel
theorem dX4_countAcross_27 : decode cX4_countAcross 27 = .ok (.iinc 2 1, 3) := by decide +kernel
theorem dX4_countAcross_30 : decode cX4_countAcross 30 = .ok (.iinc 3 1, 3) := by decide +kernel
theorem dX4_countAcross_33 : decode cX4_countAcross 33 = .ok (.goto (-29), 3) := by decide +kernel
theorem dX4_countAcross_36 : decode cX4_countAcross 36 = .ok (.iload_n 2, 1) := by decide +kernel
theorem dX4_countAcross_37 : decode cX4_countAcross 37 = .ok (.ireturn, 1) := by decide +kernel
theorem dX4_findAcross_0 : decode cX4_findAcross 0 = .ok (.iconst 0, 1) := by decide +kernel
theorem dX4_findAcross_1 : decode cX4_findAcross 1 = .ok (.istore_n 3, 1) := by decide +kernel
theorem dX4_findAcross_2 : decode cX4_findAcross 2 = .ok (.iconst 0, 1) := by decide +kernel
theorem dX4_findAcross_3 : decode cX4_findAcross 3 = .ok (.istore 4, 2) := by decide +kernel
theorem dX4_findAcross_5 : decode cX4_findAcross 5 = .ok (.iload 4, 2) := by decide +kernel
theorem dX4_findAcross_7 : decode cX4_findAcross 7 = .ok (.aload_n 0, 1) := by decide +kernel
theorem dX4_findAcross_8 : decode cX4_findAcross 8 = .ok (.getfield 40, 3) := by decide +kernel
theorem dX4_findAcross_11 : decode cX4_findAcross 11 = .ok (.if_icmp .ge 36, 3) := by decide +kernel
theorem dX4_findAcross_14 : decode cX4_findAcross 14 = .ok (.aload_n 0, 1) := by decide +kernel
theorem dX4_findAcross_15 : decode cX4_findAcross 15 = .ok (.getfield 15, 3) := by decide +kernel
theorem dX4_findAcross_18 : decode cX4_findAcross 18 = .ok (.iload 4, 2) := by decide +kernel
theorem dX4_findAcross_20 : decode cX4_findAcross 20 = .ok (.iaload, 1) := by decide +kernel
theorem dX4_findAcross_21 : decode cX4_findAcross 21 = .ok (.aload_n 0, 1) := by decide +kernel
theorem dX4_findAcross_22 : decode cX4_findAcross 22 = .ok (.getfield 15, 3) := by decide +kernel
theorem dX4_findAcross_25 : decode cX4_findAcross 25 = .ok (.iload_n 1, 1) := by decide +kernel
theorem dX4_findAcross_26 : decode cX4_findAcross 26 = .ok (.iaload, 1) := by decide +kernel
theorem dX4_findAcross_27 : decode cX4_findAcross 27 = .ok (.if_icmp .eq 14, 3) := by decide +kernel
theorem dX4_findAcross_30 : decode cX4_findAcross 30 = .ok (.iload_n 3, 1) := by decide +kernel
theorem dX4_findAcross_31 : decode cX4_findAcross 31 = .ok (.iload_n 2, 1) := by decide +kernel
theorem dX4_findAcross_32 : decode cX4_findAcross 32 = .ok (.if_icmp .ne 6, 3) := by decide +kernel
theorem dX4_findAcross_35 : decode cX4_findAcross 35 = .ok (.iload 4, 2) := by decide +kernel
theorem dX4_findAcross_37 : decode cX4_findAcross 37 = .ok (.ireturn, 1) := by decide +kernel
theorem dX4_findAcross_38 : decode cX4_findAcross 38 = .ok (.iinc 3 1, 3) := by decide +kernel
theorem dX4_findAcross_41 : decode cX4_findAcross 41 = .ok (.iinc 4 1, 3) := by decide +kernel
theorem dX4_findAcross_44 : decode cX4_findAcross 44 = .ok (.goto (-39), 3) := by decide +kernel
theorem dX4_findAcross_47 : decode cX4_findAcross 47 = .ok (.iconst (-1), 1) := by decide +kernel
theorem dX4_findAcross_48 : decode cX4_findAcross 48 = .ok (.ireturn, 1) := by decide +kernel
theorem dX5_init_0 : decode cX5_init 0 = .ok (.aload_n 0, 1) := by decide +kernel
theorem dX5_init_1 : decode cX5_init 1 = .ok (.invokespecial 3, 3) := by decide +kernel
theorem dX5_init_4 : decode cX5_init 4 = .ok (.aload_n 0, 1) := by decide +kernel
theorem dX5_init_5 : decode cX5_init 5 = .ok (.bipush 18, 2) := by decide +kernel
theorem dX5_init_7 : decode cX5_init 7 = .ok (.newarray .int, 2) := by decide +kernel
theorem dX5_init_9 : decode cX5_init 9 = .ok (.putfield 9, 3) := by decide +kernel
theorem dX5_init_12 : decode cX5_init 12 = .ok (.aload_n 0, 1) := by decide +kernel
theorem dX5_init_13 : decode cX5_init 13 = .ok (.aload_n 1, 1) := by decide +kernel
theorem dX5_init_14 : decode cX5_init 14 = .ok (.putfield 15, 3) := by decide +kernel
theorem dX5_init_17 : decode cX5_init 17 = .ok (.aload_n 0, 1) := by decide +kernel
theorem dX5_init_18 : decode cX5_init 18 = .ok (.aload_n 1, 1) := by decide +kernel
theorem dX5_init_19 : decode cX5_init 19 = .ok (.getfield 19, 3) := by decide +kernel
theorem dX5_init_22 : decode cX5_init 22 = .ok (.putfield 24, 3) := by decide +kernel
theorem dX5_init_25 : decode cX5_init 25 = .ok (.aload_n 0, 1) := by decide +kernel
theorem dX5_init_26 : decode cX5_init 26 = .ok (.aload_n 1, 1) := by decide +kernel
theorem dX5_init_27 : decode cX5_init 27 = .ok (.getfield 25, 3) := by decide +kernel
theorem dX5_init_30 : decode cX5_init 30 = .ok (.putfield 29, 3) := by decide +kernel
theorem dX5_init_33 : decode cX5_init 33 = .ok (.return_, 1) := by decide +kernel
theorem dX5_obey_0 : decode cX5_obey 0 = .ok (.aload_n 0, 1) := by decide +kernel
theorem dX5_obey_1 : decode cX5_obey 1 = .ok (.aload_n 1, 1) := by decide +kernel
theorem dX5_obey_2 : decode cX5_obey 2 = .ok (.putfield 15, 3) := by decide +kernel
theorem dX5_obey_5 : decode cX5_obey 5 = .ok (.aload_n 0, 1) := by decide +kernel
theorem dX5_obey_6 : decode cX5_obey 6 = .ok (.aload_n 2, 1) := by decide +kernel
theorem dX5_obey_7 : decode cX5_obey 7 = .ok (.putfield 24, 3) := by decide +kernel
theorem dX5_obey_10 : decode cX5_obey 10 = .ok (.aload_n 0, 1) := by decide +kernel
theorem dX5_obey_11 : decode cX5_obey 11 = .ok (.iload_n 3, 1) := by decide +kernel
theorem dX5_obey_12 : decode cX5_obey 12 = .ok (.iconst 1, 1) := by decide +kernel
theorem dX5_obey_13 : decode cX5_obey 13 = .ok (.iand, 1) := by decide +kernel
theorem dX5_obey_14 : decode cX5_obey 14 = .ok (.ifCond .eq 17, 3) := by decide +kernel
theorem dX5_obey_17 : decode cX5_obey 17 = .ok (.aload_n 0, 1) := by decide +kernel
theorem dX5_obey_18 : decode cX5_obey 18 = .ok (.getfield 15, 3) := by decide +kernel
theorem dX5_obey_21 : decode cX5_obey 21 = .ok (.getfield 25, 3) := by decide +kernel
theorem dX5_obey_24 : decode cX5_obey 24 = .ok (.iconst 1, 1) := by decide +kernel
theorem dX5_obey_25 : decode cX5_obey 25 = .ok (.iadd, 1) := by decide +kernel
theorem dX5_obey_26 : decode cX5_obey 26 = .ok (.iconst 2, 1) := by decide +kernel
theorem dX5_obey_27 : decode cX5_obey 27 = .ok (.idiv, 1) := by decide +kernel
theorem dX5_obey_28 : decode cX5_obey 28 = .ok (.goto 10, 3) := by decide +kernel
theorem dX5_obey_31 : decode cX5_obey 31 = .ok (.aload_n 0, 1) := by decide +kernel
theorem dX5_obey_32 : decode cX5_obey 32 = .ok (.getfield 15, 3) := by decide +kernel
theorem dX5_obey_35 : decode cX5_obey 35 = .ok (.getfield 25, 3) := by decide +kernel
theorem dX5_obey_38 : decode cX5_obey 38 = .ok (.putfield 29, 3) := by decide +kernel
theorem dX5_obey_41 : decode cX5_obey 41 = .ok (.aload_n 0, 1) := by decide +kernel
theorem dX5_obey_42 : decode cX5_obey 42 = .ok (.iload_n 3, 1) := by decide +kernel
theorem dX5_obey_43 : decode cX5_obey 43 = .ok (.iconst 2, 1) := by decide +kernel
theorem dX5_obey_44 : decode cX5_obey 44 = .ok (.iand, 1) := by decide +kernel
theorem dX5_obey_45 : decode cX5_obey 45 = .ok (.ifCond .eq 7, 3) := by decide +kernel
theorem dX5_obey_48 : decode cX5_obey 48 = .ok (.iconst 1, 1) := by decide +kernel
theorem dX5_obey_49 : decode cX5_obey 49 = .ok (.goto 4, 3) := by decide +kernel
theorem dX5_obey_52 : decode cX5_obey 52 = .ok (.iconst 0, 1) := by decide +kernel
theorem dX5_obey_53 : decode cX5_obey 53 = .ok (.putfield 30, 3) := by decide +kernel
theorem dX5_obey_56 : decode cX5_obey 56 = .ok (.return_, 1) := by decide +kernel
theorem dX5_goToEaster_0 : decode cX5_goToEaster 0 = .ok (.aload_n 0, 1) := by decide +kernel
theorem dX5_goToEaster_1 : decode cX5_goToEaster 1 = .ok (.getfield 15, 3) := by decide +kernel
theorem dX5_goToEaster_4 : decode cX5_goToEaster 4 = .ok (.invokevirtual 34, 3) := by decide +kernel
theorem dX5_goToEaster_7 : decode cX5_goToEaster 7 = .ok (.istore_n 3, 1) := by decide +kernel
theorem dX5_goToEaster_8 : decode cX5_goToEaster 8 = .ok (.iconst 0, 1) := by decide +kernel
theorem dX5_goToEaster_9 : decode cX5_goToEaster 9 = .ok (.istore 4, 2) := by decide +kernel
theorem dX5_goToEaster_11 : decode cX5_goToEaster 11 = .ok (.aload_n 1, 1) := by decide +kernel
theorem dX5_goToEaster_12 : decode cX5_goToEaster 12 = .ok (.getfield 38, 3) := by decide +kernel
theorem dX5_goToEaster_15 : decode cX5_goToEaster 15 = .ok (.istore 5, 2) := by decide +kernel
theorem dX5_goToEaster_17 : decode cX5_goToEaster 17 = .ok (.iload 5, 2) := by decide +kernel
theorem dX5_goToEaster_19 : decode cX5_goToEaster 19 = .ok (.aload_n 0, 1) := by decide +kernel
theorem dX5_goToEaster_20 : decode cX5_goToEaster 20 = .ok (.getfield 15, 3) := by decide +kernel
theorem dX5_goToEaster_23 : decode cX5_goToEaster 23 = .ok (.getfield 43, 3) := by decide +kernel
theorem dX5_goToEaster_26 : decode cX5_goToEaster 26 = .ok (.if_icmp .ge 55, 3) := by decide +kernel
theorem dX5_goToEaster_29 : decode cX5_goToEaster 29 = .ok (.iload_n 2, 1) := by decide +kernel
theorem dX5_goToEaster_30 : decode cX5_goToEaster 30 = .ok (.aload_n 1, 1) := by decide +kernel
theorem dX5_goToEaster_31 : decode cX5_goToEaster 31 = .ok (.getfield 46, 3) := by decide +kernel
theorem dX5_goToEaster_34 : decode cX5_goToEaster 34 = .ok (.iconst (-1), 1) := by decide +kernel
theorem dX5_goToEaster_35 : decode cX5_goToEaster 35 = .ok (.ixor, 1) := by decide +kernel
theorem dX5_goToEaster_36 : decode cX5_goToEaster 36 = .ok (.iand, 1) := by decide +kernel
theorem dX5_goToEaster_37 : decode cX5_goToEaster 37 = .ok (.ifCond .eq 9, 3) := by decide +kernel
theorem dX5_goToEaster_40 : decode cX5_goToEaster 40 = .ok (.iload 4, 2) := by decide +kernel
theorem dX5_goToEaster_42 : decode cX5_goToEaster 42 = .ok (.iconst 2, 1) := by decide +kernel
theorem dX5_goToEaster_43 : decode cX5_goToEaster 43 = .ok (.if_icmp .ne 4, 3) := by decide +kernel
theorem dX5_goToEaster_46 : decode cX5_goToEaster 46 = .ok (.return_, 1) := by decide +kernel
theorem dX5_goToEaster_47 : decode cX5_goToEaster 47 = .ok (.aload_n 0, 1) := by decide +kernel
theorem dX5_goToEaster_48 : decode cX5_goToEaster 48 = .ok (.aload_n 1, 1) := by decide +kernel
theorem dX5_goToEaster_49 : decode cX5_goToEaster 49 = .ok (.invokevirtual 49, 3) := by decide +kernel
theorem dX5_goToEaster_52 : decode cX5_goToEaster 52 = .ok (.istore 6, 2) := by decide +kernel
theorem dX5_goToEaster_54 : decode cX5_goToEaster 54 = .ok (.iload 6, 2) := by decide +kernel
theorem dX5_goToEaster_56 : decode cX5_goToEaster 56 = .ok (.ifCond .ne 9, 3) := by decide +kernel
theorem dX5_goToEaster_59 : decode cX5_goToEaster 59 = .ok (.iload 5, 2) := by decide +kernel
theorem dX5_goToEaster_61 : decode cX5_goToEaster 61 = .ok (.iload_n 3, 1) := by decide +kernel
theorem dX5_goToEaster_62 : decode cX5_goToEaster 62 = .ok (.if_icmp .gt 7, 3) := by decide +kernel
theorem dX5_goToEaster_65 : decode cX5_goToEaster 65 = .ok (.iconst 0, 1) := by decide +kernel
theorem dX5_goToEaster_66 : decode cX5_goToEaster 66 = .ok (.goto 7, 3) := by decide +kernel
theorem dX5_goToEaster_69 : decode cX5_goToEaster 69 = .ok (.iload 4, 2) := by decide +kernel
theorem dX5_goToEaster_71 : decode cX5_goToEaster 71 = .ok (.iconst 1, 1) := by decide +kernel
theorem dX5_goToEaster_72 : decode cX5_goToEaster 72 = .ok (.iadd, 1) := by decide +kernel
theorem dX5_goToEaster_73 : decode cX5_goToEaster 73 = .ok (.istore 4, 2) := by decide +kernel
theorem dX5_goToEaster_75 : decode cX5_goToEaster 75 = .ok (.iinc 5 1, 3) := by decide +kernel
theorem dX5_goToEaster_78 : decode cX5_goToEaster 78 = .ok (.goto (-61), 3) := by decide +kernel
theorem dX5_goToEaster_81 : decode cX5_goToEaster 81 = .ok (.return_, 1) := by decide +kernel
theorem dX5_findWedding_0 : decode cX5_findWedding 0 = .ok (.aload_n 0, 1) := by decide +kernel
theorem dX5_findWedding_1 : decode cX5_findWedding 1 = .ok (.getfield 24, 3) := by decide +kernel
theorem dX5_findWedding_4 : decode cX5_findWedding 4 = .ok (.iload_n 2, 1) := by decide +kernel
theorem dX5_findWedding_5 : decode cX5_findWedding 5 = .ok (.iaload, 1) := by decide +kernel
theorem dX5_findWedding_6 : decode cX5_findWedding 6 = .ok (.iconst (-1), 1) := by decide +kernel
theorem dX5_findWedding_7 : decode cX5_findWedding 7 = .ok (.if_icmp .eq 22, 3) := by decide +kernel
theorem dX5_findWedding_10 : decode cX5_findWedding 10 = .ok (.aload_n 1, 1) := by decide +kernel
theorem dX5_findWedding_11 : decode cX5_findWedding 11 = .ok (.getfield 53, 3) := by decide +kernel
theorem dX5_findWedding_14 : decode cX5_findWedding 14 = .ok (.iload_n 2, 1) := by decide +kernel
theorem dX5_findWedding_15 : decode cX5_findWedding 15 = .ok (.iaload, 1) := by decide +kernel
theorem dX5_findWedding_16 : decode cX5_findWedding 16 = .ok (.aload_n 0, 1) := by decide +kernel
theorem dX5_findWedding_17 : decode cX5_findWedding 17 = .ok (.getfield 24, 3) := by decide +kernel
theorem dX5_findWedding_20 : decode cX5_findWedding 20 = .ok (.iload_n 2, 1) := by decide +kernel
theorem dX5_findWedding_21 : decode cX5_findWedding 21 = .ok (.iaload, 1) := by decide +kernel
theorem dX5_findWedding_22 : decode cX5_findWedding 22 = .ok (.if_icmp .ne 7, 3) := by decide +kernel
theorem dX5_findWedding_25 : decode cX5_findWedding 25 = .ok (.iconst 1, 1) := by decide +kernel
theorem dX5_findWedding_26 : decode cX5_findWedding 26 = .ok (.goto 4, 3) := by decide +kernel
theorem dX5_findWedding_29 : decode cX5_findWedding 29 = .ok (.iconst 0, 1) := by decide +kernel
theorem dX5_findWedding_30 : decode cX5_findWedding 30 = .ok (.istore_n 3, 1) := by decide +kernel
theorem dX5_findWedding_31 : decode cX5_findWedding 31 = .ok (.iload_n 3, 1) := by decide +kernel
theorem dX5_findWedding_32 : decode cX5_findWedding 32 = .ok (.ifCond .eq 12, 3) := by decide +kernel
theorem dX5_findWedding_35 : decode cX5_findWedding 35 = .ok (.aload_n 1, 1) := by decide +kernel
theorem dX5_findWedding_36 : decode cX5_findWedding 36 = .ok (.getfield 56, 3) := by decide +kernel
theorem dX5_findWedding_39 : decode cX5_findWedding 39 = .ok (.iload_n 2, 1) := by decide +kernel
theorem dX5_findWedding_40 : decode cX5_findWedding 40 = .ok (.iaload, 1) := by decide +kernel
theorem dX5_findWedding_41 : decode cX5_findWedding 41 = .ok (.goto 4, 3) := by decide +kernel
theorem dX5_findWedding_44 : decode cX5_findWedding 44 = .ok (.iconst (-1), 1) := by decide +kernel
theorem dX5_findWedding_45 : decode cX5_findWedding 45 = .ok (.ireturn, 1) := by decide +kernel
theorem dX5_passNight_0 : decode cX5_passNight 0 = .ok (.aload_n 1, 1) := by decide +kernel
theorem dX5_passNight_1 : decode cX5_passNight 1 = .ok (.getfield 59, 3) := by decide +kernel
theorem dX5_passNight_4 : decode cX5_passNight 4 = .ok (.istore_n 2, 1) := by decide +kernel
theorem dX5_passNight_5 : decode cX5_passNight 5 = .ok (.iconst 0, 1) := by decide +kernel
theorem dX5_passNight_6 : decode cX5_passNight 6 = .ok (.istore_n 3, 1) := by decide +kernel
theorem dX5_passNight_7 : decode cX5_passNight 7 = .ok (.iconst 0, 1) := by decide +kernel
theorem dX5_passNight_8 : decode cX5_passNight 8 = .ok (.istore 4, 2) := by decide +kernel
theorem dX5_passNight_10 : decode cX5_passNight 10 = .ok (.iload 4, 2) := by decide +kernel
theorem dX5_passNight_12 : decode cX5_passNight 12 = .ok (.aload_n 0, 1) := by decide +kernel
theorem dX5_passNight_13 : decode cX5_passNight 13 = .ok (.getfield 15, 3) := by decide +kernel
theorem dX5_passNight_16 : decode cX5_passNight 16 = .ok (.getfield 62, 3) := by decide +kernel
theorem dX5_passNight_19 : decode cX5_passNight 19 = .ok (.if_icmp .ge 23, 3) := by decide +kernel
theorem dX5_passNight_22 : decode cX5_passNight 22 = .ok (.aload_n 0, 1) := by decide +kernel
theorem dX5_passNight_23 : decode cX5_passNight 23 = .ok (.aload_n 1, 1) := by decide +kernel
theorem dX5_passNight_24 : decode cX5_passNight 24 = .ok (.iload 4, 2) := by decide +kernel
theorem dX5_passNight_26 : decode cX5_passNight 26 = .ok (.aload_n 0, 1) := by decide +kernel
theorem dX5_passNight_27 : decode cX5_passNight 27 = .ok (.getfield 24, 3) := by decide +kernel
theorem dX5_passNight_30 : decode cX5_passNight 30 = .ok (.iload 4, 2) := by decide +kernel
theorem dX5_passNight_32 : decode cX5_passNight 32 = .ok (.iaload, 1) := by decide +kernel
theorem dX5_passNight_33 : decode cX5_passNight 33 = .ok (.invokevirtual 65, 3) := by decide +kernel
theorem dX5_passNight_36 : decode cX5_passNight 36 = .ok (.iinc 4 1, 3) := by decide +kernel
theorem dX5_passNight_39 : decode cX5_passNight 39 = .ok (.goto (-29), 3) := by decide +kernel
theorem dX5_passNight_42 : decode cX5_passNight 42 = .ok (.iconst 0, 1) := by decide +kernel
theorem dX5_passNight_43 : decode cX5_passNight 43 = .ok (.istore 4, 2) := by decide +kernel
theorem dX5_passNight_45 : decode cX5_passNight 45 = .ok (.iload 4, 2) := by decide +kernel
theorem dX5_passNight_47 : decode cX5_passNight 47 = .ok (.aload_n 0, 1) := by decide +kernel
theorem dX5_passNight_48 : decode cX5_passNight 48 = .ok (.getfield 15, 3) := by decide +kernel
theorem dX5_passNight_51 : decode cX5_passNight 51 = .ok (.getfield 62, 3) := by decide +kernel
theorem dX5_passNight_54 : decode cX5_passNight 54 = .ok (.iconst 3, 1) := by decide +kernel
theorem dX5_passNight_55 : decode cX5_passNight 55 = .ok (.imul, 1) := by decide +kernel
theorem dX5_passNight_56 : decode cX5_passNight 56 = .ok (.if_icmp .ge 48, 3) := by decide +kernel
theorem dX5_passNight_59 : decode cX5_passNight 59 = .ok (.iload_n 3, 1) := by decide +kernel
theorem dX5_passNight_60 : decode cX5_passNight 60 = .ok (.aload_n 1, 1) := by decide +kernel
theorem dX5_passNight_61 : decode cX5_passNight 61 = .ok (.getfield 69, 3) := by decide +kernel
theorem dX5_passNight_64 : decode cX5_passNight 64 = .ok (.iload 4, 2) := by decide +kernel
theorem dX5_passNight_66 : decode cX5_passNight 66 = .ok (.iaload, 1) := by decide +kernel
theorem dX5_passNight_67 : decode cX5_passNight 67 = .ok (.aload_n 0, 1) := by decide +kernel
theorem dX5_passNight_68 : decode cX5_passNight 68 = .ok (.getfield 9, 3) := by decide +kernel
theorem dX5_passNight_71 : decode cX5_passNight 71 = .ok (.iload 4, 2) := by decide +kernel
theorem dX5_passNight_73 : decode cX5_passNight 73 = .ok (.iaload, 1) := by decide +kernel
theorem dX5_passNight_74 : decode cX5_passNight 74 = .ok (.if_icmp .eq 7, 3) := by decide +kernel
theorem dX5_passNight_77 : decode cX5_passNight 77 = .ok (.iconst 1, 1) := by decide +kernel
theorem dX5_passNight_78 : decode cX5_passNight 78 = .ok (.goto 4, 3) := by decide +kernel
theorem dX5_passNight_81 : decode cX5_passNight 81 = .ok (.iconst 0, 1) := by decide +kernel
theorem dX5_passNight_82 : decode cX5_passNight 82 = .ok (.ior, 1) := by decide +kernel
theorem dX5_passNight_83 : decode cX5_passNight 83 = .ok (.istore_n 3, 1) := by decide +kernel
theorem dX5_passNight_84 : decode cX5_passNight 84 = .ok (.aload_n 1, 1) := by decide +kernel
theorem dX5_passNight_85 : decode cX5_passNight 85 = .ok (.getfield 69, 3) := by decide +kernel
theorem dX5_passNight_88 : decode cX5_passNight 88 = .ok (.iload 4, 2) := by decide +kernel
theorem dX5_passNight_90 : decode cX5_passNight 90 = .ok (.aload_n 0, 1) := by decide +kernel
theorem dX5_passNight_91 : decode cX5_passNight 91 = .ok (.getfield 9, 3) := by decide +kernel
theorem dX5_passNight_94 : decode cX5_passNight 94 = .ok (.iload 4, 2) := by decide +kernel
theorem dX5_passNight_96 : decode cX5_passNight 96 = .ok (.iaload, 1) := by decide +kernel
theorem dX5_passNight_97 : decode cX5_passNight 97 = .ok (.iastore, 1) := by decide +kernel
theorem dX5_passNight_98 : decode cX5_passNight 98 = .ok (.iinc 4 1, 3) := by decide +kernel
theorem dX5_passNight_101 : decode cX5_passNight 101 = .ok (.goto (-56), 3) := by decide +kernel
theorem dX5_passNight_104 : decode cX5_passNight 104 = .ok (.aload_n 1, 1) := by decide +kernel
theorem dX5_passNight_105 : decode cX5_passNight 105 = .ok (.aload_n 0, 1) := by decide +kernel
theorem dX5_passNight_106 : decode cX5_passNight 106 = .ok (.getfield 15, 3) := by decide +kernel
theorem dX5_passNight_109 : decode cX5_passNight 109 = .ok (.invokevirtual 72, 3) := by decide +kernel
theorem dX5_passNight_112 : decode cX5_passNight 112 = .ok (.aload_n 1, 1) := by decide +kernel
theorem dX5_passNight_113 : decode cX5_passNight 113 = .ok (.dup, 1) := by decide +kernel
theorem dX5_passNight_114 : decode cX5_passNight 114 = .ok (.getfield 38, 3) := by decide +kernel
theorem dX5_passNight_117 : decode cX5_passNight 117 = .ok (.iconst 1, 1) := by decide +kernel
theorem dX5_passNight_118 : decode cX5_passNight 118 = .ok (.iadd, 1) := by decide +kernel
theorem dX5_passNight_119 : decode cX5_passNight 119 = .ok (.putfield 38, 3) := by decide +kernel
theorem dX5_passNight_122 : decode cX5_passNight 122 = .ok (.iload_n 3, 1) := by decide +kernel
theorem dX5_passNight_123 : decode cX5_passNight 123 = .ok (.ifCond .ne 11, 3) := by decide +kernel
theorem dX5_passNight_126 : decode cX5_passNight 126 = .ok (.aload_n 1, 1) := by decide +kernel
theorem dX5_passNight_127 : decode cX5_passNight 127 = .ok (.getfield 59, 3) := by decide +kernel
theorem dX5_passNight_130 : decode cX5_passNight 130 = .ok (.iload_n 2, 1) := by decide +kernel
theorem dX5_passNight_131 : decode cX5_passNight 131 = .ok (.if_icmp .eq 7, 3) := by decide +kernel
theorem dX5_passNight_134 : decode cX5_passNight 134 = .ok (.iconst 1, 1) := by decide +kernel
theorem dX5_passNight_135 : decode cX5_passNight 135 = .ok (.goto 4, 3) := by decide +kernel
theorem dX5_passNight_138 : decode cX5_passNight 138 = .ok (.iconst 0, 1) := by decide +kernel
theorem dX5_passNight_139 : decode cX5_passNight 139 = .ok (.ireturn, 1) := by decide +kernel
theorem dX5_moveLamp_0 : decode cX5_moveLamp 0 = .ok (.aload_n 1, 1) := by decide +kernel
theorem dX5_moveLamp_1 : decode cX5_moveLamp 1 = .ok (.getfield 69, 3) := by decide +kernel
theorem dX5_moveLamp_4 : decode cX5_moveLamp 4 = .ok (.iload_n 2, 1) := by decide +kernel
theorem dX5_moveLamp_5 : decode cX5_moveLamp 5 = .ok (.iconst 3, 1) := by decide +kernel
theorem dX5_moveLamp_6 : decode cX5_moveLamp 6 = .ok (.imul, 1) := by decide +kernel
theorem dX5_moveLamp_7 : decode cX5_moveLamp 7 = .ok (.aload_n 0, 1) := by decide +kernel
theorem dX5_moveLamp_8 : decode cX5_moveLamp 8 = .ok (.getfield 9, 3) := by decide +kernel
theorem dX5_moveLamp_11 : decode cX5_moveLamp 11 = .ok (.iload_n 2, 1) := by decide +kernel
theorem dX5_moveLamp_12 : decode cX5_moveLamp 12 = .ok (.iconst 3, 1) := by decide +kernel
theorem dX5_moveLamp_13 : decode cX5_moveLamp 13 = .ok (.imul, 1) := by decide +kernel
theorem dX5_moveLamp_14 : decode cX5_moveLamp 14 = .ok (.iconst 3, 1) := by decide +kernel
theorem dX5_moveLamp_15 : decode cX5_moveLamp 15 = .ok (.invokestatic 76, 3) := by decide +kernel
theorem dX5_moveLamp_18 : decode cX5_moveLamp 18 = .ok (.aload_n 1, 1) := by decide +kernel
theorem dX5_moveLamp_19 : decode cX5_moveLamp 19 = .ok (.iload_n 2, 1) := by decide +kernel
theorem dX5_moveLamp_20 : decode cX5_moveLamp 20 = .ok (.invokevirtual 82, 3) := by decide +kernel
theorem dX5_moveLamp_23 : decode cX5_moveLamp 23 = .ok (.ifCond .ne 12, 3) := by decide +kernel
theorem dX5_moveLamp_26 : decode cX5_moveLamp 26 = .ok (.aload_n 0, 1) := by decide +kernel
theorem dX5_moveLamp_27 : decode cX5_moveLamp 27 = .ok (.aload_n 1, 1) := by decide +kernel
theorem dX5_moveLamp_28 : decode cX5_moveLamp 28 = .ok (.iload_n 2, 1) := by decide +kernel
theorem dX5_moveLamp_29 : decode cX5_moveLamp 29 = .ok (.invokevirtual 86, 3) := by decide +kernel
theorem dX5_moveLamp_32 : decode cX5_moveLamp 32 = .ok (.ifCond .eq 4, 3) := by decide +kernel
theorem dX5_moveLamp_35 : decode cX5_moveLamp 35 = .ok (.return_, 1) := by decide +kernel
theorem dX5_moveLamp_36 : decode cX5_moveLamp 36 = .ok (.aload_n 0, 1) := by decide +kernel
theorem dX5_moveLamp_37 : decode cX5_moveLamp 37 = .ok (.aload_n 1, 1) := by decide +kernel
theorem dX5_moveLamp_38 : decode cX5_moveLamp 38 = .ok (.iload_n 2, 1) := by decide +kernel
theorem dX5_moveLamp_39 : decode cX5_moveLamp 39 = .ok (.iload_n 3, 1) := by decide +kernel
theorem dX5_moveLamp_40 : decode cX5_moveLamp 40 = .ok (.invokevirtual 90, 3) := by decide +kernel
theorem dX5_moveLamp_43 : decode cX5_moveLamp 43 = .ok (.istore 4, 2) := by decide +kernel
theorem dX5_moveLamp_45 : decode cX5_moveLamp 45 = .ok (.iload 4, 2) := by decide +kernel
theorem dX5_moveLamp_47 : decode cX5_moveLamp 47 = .ok (.iconst (-1), 1) := by decide +kernel
theorem dX5_moveLamp_48 : decode cX5_moveLamp 48 = .ok (.if_icmp .eq 11, 3) := by decide +kernel
theorem dX5_moveLamp_51 : decode cX5_moveLamp 51 = .ok (.aload_n 0, 1) := by decide +kernel
theorem dX5_moveLamp_52 : decode cX5_moveLamp 52 = .ok (.aload_n 1, 1) := by decide +kernel
theorem dX5_moveLamp_53 : decode cX5_moveLamp 53 = .ok (.iload_n 2, 1) := by decide +kernel
theorem dX5_moveLamp_54 : decode cX5_moveLamp 54 = .ok (.iload 4, 2) := by decide +kernel
theorem dX5_moveLamp_56 : decode cX5_moveLamp 56 = .ok (.invokevirtual 94, 3) := by decide +kernel
theorem dX5_moveLamp_59 : decode cX5_moveLamp 59 = .ok (.aload_n 0, 1) := by decide +kernel
theorem dX5_moveLamp_60 : decode cX5_moveLamp 60 = .ok (.getfield 15, 3) := by decide +kernel
theorem dX5_moveLamp_63 : decode cX5_moveLamp 63 = .ok (.getfield 97, 3) := by decide +kernel
theorem dX5_moveLamp_66 : decode cX5_moveLamp 66 = .ok (.iload_n 2, 1) := by decide +kernel
theorem dX5_moveLamp_67 : decode cX5_moveLamp 67 = .ok (.iaload, 1) := by decide +kernel
theorem dX5_moveLamp_68 : decode cX5_moveLamp 68 = .ok (.iconst 3, 1) := by decide +kernel
theorem dX5_moveLamp_69 : decode cX5_moveLamp 69 = .ok (.if_icmp .ne 8, 3) := by decide +kernel
theorem dX5_moveLamp_72 : decode cX5_moveLamp 72 = .ok (.aload_n 0, 1) := by decide +kernel
theorem dX5_moveLamp_73 : decode cX5_moveLamp 73 = .ok (.iload_n 2, 1) := by decide +kernel
theorem dX5_moveLamp_74 : decode cX5_moveLamp 74 = .ok (.invokevirtual 100, 3) := by decide +kernel
theorem dX5_moveLamp_77 : decode cX5_moveLamp 77 = .ok (.return_, 1) := by decide +kernel
theorem dX5_isHeld_0 : decode cX5_isHeld 0 = .ok (.aload_n 0, 1) := by decide +kernel
theorem dX5_isHeld_1 : decode cX5_isHeld 1 = .ok (.getfield 15, 3) := by decide +kernel
theorem dX5_isHeld_4 : decode cX5_isHeld 4 = .ok (.getfield 97, 3) := by decide +kernel
theorem dX5_isHeld_7 : decode cX5_isHeld 7 = .ok (.iload_n 2, 1) := by decide +kernel
theorem dX5_isHeld_8 : decode cX5_isHeld 8 = .ok (.iaload, 1) := by decide +kernel
theorem dX5_isHeld_9 : decode cX5_isHeld 9 = .ok (.istore_n 3, 1) := by decide +kernel
theorem dX5_isHeld_10 : decode cX5_isHeld 10 = .ok (.iload_n 3, 1) := by decide +kernel
theorem dX5_isHeld_11 : decode cX5_isHeld 11 = .ok (.iconst 4, 1) := by decide +kernel
theorem dX5_isHeld_12 : decode cX5_isHeld 12 = .ok (.if_icmp .eq 17, 3) := by decide +kernel
theorem dX5_isHeld_15 : decode cX5_isHeld 15 = .ok (.iload_n 3, 1) := by decide +kernel
theorem dX5_isHeld_16 : decode cX5_isHeld 16 = .ok (.iconst 1, 1) := by decide +kernel
theorem dX5_isHeld_17 : decode cX5_isHeld 17 = .ok (.if_icmp .ne 14, 3) := by decide +kernel
theorem dX5_isHeld_20 : decode cX5_isHeld 20 = .ok (.aload_n 1, 1) := by decide +kernel
theorem dX5_isHeld_21 : decode cX5_isHeld 21 = .ok (.getfield 38, 3) := by decide +kernel
theorem dX5_isHeld_24 : decode cX5_isHeld 24 = .ok (.iconst 2, 1) := by decide +kernel
theorem dX5_isHeld_25 : decode cX5_isHeld 25 = .ok (.irem, 1) := by decide +kernel
theorem dX5_isHeld_26 : decode cX5_isHeld 26 = .ok (.ifCond .ne 5, 3) := by decide +kernel
theorem dX5_isHeld_29 : decode cX5_isHeld 29 = .ok (.iconst 1, 1) := by decide +kernel
theorem dX5_isHeld_30 : decode cX5_isHeld 30 = .ok (.ireturn, 1) := by decide +kernel
theorem dX5_isHeld_31 : decode cX5_isHeld 31 = .ok (.iconst 0, 1) := by decide +kernel
theorem dX5_isHeld_32 : decode cX5_isHeld 32 = .ok (.istore 4, 2) := by decide +kernel
theorem dX5_isHeld_34 : decode cX5_isHeld 34 = .ok (.iload 4, 2) := by decide +kernel
theorem dX5_isHeld_36 : decode cX5_isHeld 36 = .ok (.aload_n 0, 1) := by decide +kernel
theorem dX5_isHeld_37 : decode cX5_isHeld 37 = .ok (.getfield 15, 3) := by decide +kernel
theorem dX5_isHeld_40 : decode cX5_isHeld 40 = .ok (.getfield 62, 3) := by decide +kernel
theorem dX5_isHeld_43 : decode cX5_isHeld 43 = .ok (.if_icmp .ge 51, 3) := by decide +kernel
theorem dX5_isHeld_46 : decode cX5_isHeld 46 = .ok (.aload_n 0, 1) := by decide +kernel
theorem dX5_isHeld_47 : decode cX5_isHeld 47 = .ok (.getfield 15, 3) := by decide +kernel
theorem dX5_isHeld_50 : decode cX5_isHeld 50 = .ok (.getfield 97, 3) := by decide +kernel
theorem dX5_isHeld_53 : decode cX5_isHeld 53 = .ok (.iload 4, 2) := by decide +kernel
theorem dX5_isHeld_55 : decode cX5_isHeld 55 = .ok (.iaload, 1) := by decide +kernel
theorem dX5_isHeld_56 : decode cX5_isHeld 56 = .ok (.iconst 4, 1) := by decide +kernel
theorem dX5_isHeld_57 : decode cX5_isHeld 57 = .ok (.if_icmp .ne 31, 3) := by decide +kernel
theorem dX5_isHeld_60 : decode cX5_isHeld 60 = .ok (.aload_n 1, 1) := by decide +kernel
theorem dX5_isHeld_61 : decode cX5_isHeld 61 = .ok (.iload 4, 2) := by decide +kernel
theorem dX5_isHeld_63 : decode cX5_isHeld 63 = .ok (.invokevirtual 82, 3) := by decide +kernel
theorem dX5_isHeld_66 : decode cX5_isHeld 66 = .ok (.ifCond .ne 22, 3) := by decide +kernel
theorem dX5_isHeld_69 : decode cX5_isHeld 69 = .ok (.aload_n 1, 1) := by decide +kernel
theorem dX5_isHeld_70 : decode cX5_isHeld 70 = .ok (.iload_n 2, 1) := by decide +kernel
theorem dX5_isHeld_71 : decode cX5_isHeld 71 = .ok (.iload 4, 2) := by decide +kernel
theorem dX5_isHeld_73 : decode cX5_isHeld 73 = .ok (.invokevirtual 104, 3) := by decide +kernel
theorem dX5_isHeld_76 : decode cX5_isHeld 76 = .ok (.aload_n 0, 1) := by decide +kernel
theorem dX5_isHeld_77 : decode cX5_isHeld 77 = .ok (.getfield 15, 3) := by decide +kernel
theorem dX5_isHeld_80 : decode cX5_isHeld 80 = .ok (.getfield 108, 3) := by decide +kernel
theorem dX5_isHeld_83 : decode cX5_isHeld 83 = .ok (.if_icmp .gt 5, 3) := by decide +kernel
theorem dX5_isHeld_86 : decode cX5_isHeld 86 = .ok (.iconst 1, 1) := by decide +kernel
theorem dX5_isHeld_87 : decode cX5_isHeld 87 = .ok (.ireturn, 1) := by decide +kernel
theorem dX5_isHeld_88 : decode cX5_isHeld 88 = .ok (.iinc 4 1, 3) := by decide +kernel
theorem dX5_isHeld_91 : decode cX5_isHeld 91 = .ok (.goto (-57), 3) := by decide +kernel
theorem dX5_isHeld_94 : decode cX5_isHeld 94 = .ok (.iconst 0, 1) := by decide +kernel
theorem dX5_isHeld_95 : decode cX5_isHeld 95 = .ok (.ireturn, 1) := by decide +kernel
theorem dX5_findGoal_0 : decode cX5_findGoal 0 = .ok (.iload_n 3, 1) := by decide +kernel
theorem dX5_findGoal_1 : decode cX5_findGoal 1 = .ok (.iconst (-1), 1) := by decide +kernel
theorem dX5_findGoal_2 : decode cX5_findGoal 2 = .ok (.if_icmp .eq 11, 3) := by decide +kernel
theorem dX5_findGoal_5 : decode cX5_findGoal 5 = .ok (.aload_n 1, 1) := by decide +kernel
theorem dX5_findGoal_6 : decode cX5_findGoal 6 = .ok (.iload_n 3, 1) := by decide +kernel
theorem dX5_findGoal_7 : decode cX5_findGoal 7 = .ok (.invokevirtual 82, 3) := by decide +kernel
theorem dX5_findGoal_10 : decode cX5_findGoal 10 = .ok (.ifCond .eq 5, 3) := by decide +kernel
theorem dX5_findGoal_13 : decode cX5_findGoal 13 = .ok (.iconst (-1), 1) := by decide +kernel
theorem dX5_findGoal_14 : decode cX5_findGoal 14 = .ok (.ireturn, 1) := by decide +kernel
theorem dX5_findGoal_15 : decode cX5_findGoal 15 = .ok (.aload_n 0, 1) := by decide +kernel
theorem dX5_findGoal_16 : decode cX5_findGoal 16 = .ok (.getfield 15, 3) := by decide +kernel
theorem dX5_findGoal_19 : decode cX5_findGoal 19 = .ok (.aload_n 1, 1) := by decide +kernel
theorem dX5_findGoal_20 : decode cX5_findGoal 20 = .ok (.getfield 38, 3) := by decide +kernel
theorem dX5_findGoal_23 : decode cX5_findGoal 23 = .ok (.iload_n 2, 1) := by decide +kernel
theorem dX5_findGoal_24 : decode cX5_findGoal 24 = .ok (.iload_n 3, 1) := by decide +kernel
theorem dX5_findGoal_25 : decode cX5_findGoal 25 = .ok (.invokevirtual 111, 3) := by decide +kernel
theorem dX5_findGoal_28 : decode cX5_findGoal 28 = .ok (.ifCond .ne 5, 3) := by decide +kernel
theorem dX5_findGoal_31 : decode cX5_findGoal 31 = .ok (.iload_n 3, 1) := by decide +kernel
theorem dX5_findGoal_32 : decode cX5_findGoal 32 = .ok (.ireturn, 1) := by decide +kernel
theorem dX5_findGoal_33 : decode cX5_findGoal 33 = .ok (.iconst (-1), 1) := by decide +kernel
theorem dX5_findGoal_34 : decode cX5_findGoal 34 = .ok (.istore 4, 2) := by decide +kernel
theorem dX5_findGoal_36 : decode cX5_findGoal 36 = .ok (.bipush 31, 2) := by decide +kernel
theorem dX5_findGoal_38 : decode cX5_findGoal 38 = .ok (.istore 5, 2) := by decide +kernel
theorem dX5_findGoal_40 : decode cX5_findGoal 40 = .ok (.iconst 0, 1) := by decide +kernel
theorem dX5_findGoal_41 : decode cX5_findGoal 41 = .ok (.istore 6, 2) := by decide +kernel
theorem dX5_findGoal_43 : decode cX5_findGoal 43 = .ok (.iload 6, 2) := by decide +kernel
theorem dX5_findGoal_45 : decode cX5_findGoal 45 = .ok (.aload_n 0, 1) := by decide +kernel
theorem dX5_findGoal_46 : decode cX5_findGoal 46 = .ok (.getfield 15, 3) := by decide +kernel
theorem dX5_findGoal_49 : decode cX5_findGoal 49 = .ok (.getfield 62, 3) := by decide +kernel
theorem dX5_findGoal_52 : decode cX5_findGoal 52 = .ok (.if_icmp .ge 66, 3) := by decide +kernel
theorem dX5_findGoal_55 : decode cX5_findGoal 55 = .ok (.iload 6, 2) := by decide +kernel
theorem dX5_findGoal_57 : decode cX5_findGoal 57 = .ok (.iload_n 2, 1) := by decide +kernel
theorem dX5_findGoal_58 : decode cX5_findGoal 58 = .ok (.if_icmp .eq 54, 3) := by decide +kernel
theorem dX5_findGoal_61 : decode cX5_findGoal 61 = .ok (.aload_n 1, 1) := by decide +kernel
theorem dX5_findGoal_62 : decode cX5_findGoal 62 = .ok (.iload 6, 2) := by decide +kernel
theorem dX5_findGoal_64 : decode cX5_findGoal 64 = .ok (.invokevirtual 82, 3) := by decide +kernel
theorem dX5_findGoal_67 : decode cX5_findGoal 67 = .ok (.ifCond .ne 45, 3) := by decide +kernel
theorem dX5_findGoal_70 : decode cX5_findGoal 70 = .ok (.aload_n 1, 1) := by decide +kernel
theorem dX5_findGoal_71 : decode cX5_findGoal 71 = .ok (.iload_n 2, 1) := by decide +kernel
theorem dX5_findGoal_72 : decode cX5_findGoal 72 = .ok (.iload 6, 2) := by decide +kernel
theorem dX5_findGoal_74 : decode cX5_findGoal 74 = .ok (.invokevirtual 104, 3) := by decide +kernel
theorem dX5_findGoal_77 : decode cX5_findGoal 77 = .ok (.iload 5, 2) := by decide +kernel
theorem dX5_findGoal_79 : decode cX5_findGoal 79 = .ok (.if_icmp .ge 33, 3) := by decide +kernel
