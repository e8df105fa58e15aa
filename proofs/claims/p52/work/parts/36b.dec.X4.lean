theorem dX4_init_0 : decode cX4_init 0 = .ok (.aload_n 0, 1) := by decide +kernel
theorem dX4_init_1 : decode cX4_init 1 = .ok (.invokespecial 3, 3) := by decide +kernel
theorem dX4_init_4 : decode cX4_init 4 = .ok (.aload_n 0, 1) := by decide +kernel
theorem dX4_init_5 : decode cX4_init 5 = .ok (.sipush 128, 3) := by decide +kernel
theorem dX4_init_8 : decode cX4_init 8 = .ok (.newarray .int, 2) := by decide +kernel
theorem dX4_init_10 : decode cX4_init 10 = .ok (.putfield 9, 3) := by decide +kernel
theorem dX4_init_13 : decode cX4_init 13 = .ok (.return_, 1) := by decide +kernel
theorem dX4_leastBySets_0 : decode cX4_leastBySets 0 = .ok (.iconst 1, 1) := by decide +kernel
theorem dX4_leastBySets_1 : decode cX4_leastBySets 1 = .ok (.aload_n 1, 1) := by decide +kernel
theorem dX4_leastBySets_2 : decode cX4_leastBySets 2 = .ok (.getfield 15, 3) := by decide +kernel
theorem dX4_leastBySets_5 : decode cX4_leastBySets 5 = .ok (.ishl, 1) := by decide +kernel
theorem dX4_leastBySets_6 : decode cX4_leastBySets 6 = .ok (.iconst 1, 1) := by decide +kernel
theorem dX4_leastBySets_7 : decode cX4_leastBySets 7 = .ok (.isub, 1) := by decide +kernel
theorem dX4_leastBySets_8 : decode cX4_leastBySets 8 = .ok (.istore_n 2, 1) := by decide +kernel
theorem dX4_leastBySets_9 : decode cX4_leastBySets 9 = .ok (.aload_n 1, 1) := by decide +kernel
theorem dX4_leastBySets_10 : decode cX4_leastBySets 10 = .ok (.getfield 21, 3) := by decide +kernel
theorem dX4_leastBySets_13 : decode cX4_leastBySets 13 = .ok (.aload_n 1, 1) := by decide +kernel
theorem dX4_leastBySets_14 : decode cX4_leastBySets 14 = .ok (.iload_n 2, 1) := by decide +kernel
theorem dX4_leastBySets_15 : decode cX4_leastBySets 15 = .ok (.invokestatic 24, 3) := by decide +kernel
theorem dX4_leastBySets_18 : decode cX4_leastBySets 18 = .ok (.iadd, 1) := by decide +kernel
theorem dX4_leastBySets_19 : decode cX4_leastBySets 19 = .ok (.istore_n 3, 1) := by decide +kernel
theorem dX4_leastBySets_20 : decode cX4_leastBySets 20 = .ok (.aload_n 0, 1) := by decide +kernel
theorem dX4_leastBySets_21 : decode cX4_leastBySets 21 = .ok (.getfield 9, 3) := by decide +kernel
theorem dX4_leastBySets_24 : decode cX4_leastBySets 24 = .ok (.iconst 0, 1) := by decide +kernel
theorem dX4_leastBySets_25 : decode cX4_leastBySets 25 = .ok (.iconst 0, 1) := by decide +kernel
theorem dX4_leastBySets_26 : decode cX4_leastBySets 26 = .ok (.iastore, 1) := by decide +kernel
theorem dX4_leastBySets_27 : decode cX4_leastBySets 27 = .ok (.iconst 1, 1) := by decide +kernel
theorem dX4_leastBySets_28 : decode cX4_leastBySets 28 = .ok (.istore 4, 2) := by decide +kernel
theorem dX4_leastBySets_30 : decode cX4_leastBySets 30 = .ok (.iload 4, 2) := by decide +kernel
theorem dX4_leastBySets_32 : decode cX4_leastBySets 32 = .ok (.iload_n 2, 1) := by decide +kernel
theorem dX4_leastBySets_33 : decode cX4_leastBySets 33 = .ok (.if_icmp .gt 78, 3) := by decide +kernel
theorem dX4_leastBySets_36 : decode cX4_leastBySets 36 = .ok (.iload_n 3, 1) := by decide +kernel
theorem dX4_leastBySets_37 : decode cX4_leastBySets 37 = .ok (.aload_n 1, 1) := by decide +kernel
theorem dX4_leastBySets_38 : decode cX4_leastBySets 38 = .ok (.iload 4, 2) := by decide +kernel
theorem dX4_leastBySets_40 : decode cX4_leastBySets 40 = .ok (.invokestatic 24, 3) := by decide +kernel
theorem dX4_leastBySets_43 : decode cX4_leastBySets 43 = .ok (.isub, 1) := by decide +kernel
theorem dX4_leastBySets_44 : decode cX4_leastBySets 44 = .ok (.istore 5, 2) := by decide +kernel
theorem dX4_leastBySets_46 : decode cX4_leastBySets 46 = .ok (.ldc 28, 2) := by decide +kernel
theorem dX4_leastBySets_48 : decode cX4_leastBySets 48 = .ok (.istore 6, 2) := by decide +kernel
theorem dX4_leastBySets_50 : decode cX4_leastBySets 50 = .ok (.iconst 0, 1) := by decide +kernel
theorem dX4_leastBySets_51 : decode cX4_leastBySets 51 = .ok (.istore 7, 2) := by decide +kernel
theorem dX4_leastBySets_53 : decode cX4_leastBySets 53 = .ok (.iload 7, 2) := by decide +kernel
theorem dX4_leastBySets_55 : decode cX4_leastBySets 55 = .ok (.aload_n 1, 1) := by decide +kernel
theorem dX4_leastBySets_56 : decode cX4_leastBySets 56 = .ok (.getfield 15, 3) := by decide +kernel
theorem dX4_leastBySets_59 : decode cX4_leastBySets 59 = .ok (.if_icmp .ge 37, 3) := by decide +kernel
theorem dX4_leastBySets_62 : decode cX4_leastBySets 62 = .ok (.iload 4, 2) := by decide +kernel
theorem dX4_leastBySets_64 : decode cX4_leastBySets 64 = .ok (.iload 7, 2) := by decide +kernel
theorem dX4_leastBySets_66 : decode cX4_leastBySets 66 = .ok (.invokestatic 29, 3) := by decide +kernel
theorem dX4_leastBySets_69 : decode cX4_leastBySets 69 = .ok (.ifCond .eq 21, 3) := by decide +kernel
theorem dX4_leastBySets_72 : decode cX4_leastBySets 72 = .ok (.iload 6, 2) := by decide +kernel
theorem dX4_leastBySets_74 : decode cX4_leastBySets 74 = .ok (.aload_n 0, 1) := by decide +kernel
theorem dX4_leastBySets_75 : decode cX4_leastBySets 75 = .ok (.aload_n 1, 1) := by decide +kernel
theorem dX4_leastBySets_76 : decode cX4_leastBySets 76 = .ok (.iload 4, 2) := by decide +kernel
theorem dX4_leastBySets_78 : decode cX4_leastBySets 78 = .ok (.iload 7, 2) := by decide +kernel
theorem dX4_leastBySets_80 : decode cX4_leastBySets 80 = .ok (.iload 5, 2) := by decide +kernel
theorem dX4_leastBySets_82 : decode cX4_leastBySets 82 = .ok (.invokevirtual 33, 3) := by decide +kernel
theorem dX4_leastBySets_85 : decode cX4_leastBySets 85 = .ok (.invokestatic 37, 3) := by decide +kernel
theorem dX4_leastBySets_88 : decode cX4_leastBySets 88 = .ok (.istore 6, 2) := by decide +kernel
theorem dX4_leastBySets_90 : decode cX4_leastBySets 90 = .ok (.iinc 7 1, 3) := by decide +kernel
theorem dX4_leastBySets_93 : decode cX4_leastBySets 93 = .ok (.goto (-40), 3) := by decide +kernel
theorem dX4_leastBySets_96 : decode cX4_leastBySets 96 = .ok (.aload_n 0, 1) := by decide +kernel
theorem dX4_leastBySets_97 : decode cX4_leastBySets 97 = .ok (.getfield 9, 3) := by decide +kernel
theorem dX4_leastBySets_100 : decode cX4_leastBySets 100 = .ok (.iload 4, 2) := by decide +kernel
theorem dX4_leastBySets_102 : decode cX4_leastBySets 102 = .ok (.iload 6, 2) := by decide +kernel
theorem dX4_leastBySets_104 : decode cX4_leastBySets 104 = .ok (.iastore, 1) := by decide +kernel
theorem dX4_leastBySets_105 : decode cX4_leastBySets 105 = .ok (.iinc 4 1, 3) := by decide +kernel
theorem dX4_leastBySets_108 : decode cX4_leastBySets 108 = .ok (.goto (-78), 3) := by decide +kernel
theorem dX4_leastBySets_111 : decode cX4_leastBySets 111 = .ok (.aload_n 0, 1) := by decide +kernel
theorem dX4_leastBySets_112 : decode cX4_leastBySets 112 = .ok (.getfield 9, 3) := by decide +kernel
theorem dX4_leastBySets_115 : decode cX4_leastBySets 115 = .ok (.iload_n 2, 1) := by decide +kernel
theorem dX4_leastBySets_116 : decode cX4_leastBySets 116 = .ok (.iaload, 1) := by decide +kernel
theorem dX4_leastBySets_117 : decode cX4_leastBySets 117 = .ok (.ireturn, 1) := by decide +kernel
theorem dX4_beginningWith_0 : decode cX4_beginningWith 0 = .ok (.aload_n 1, 1) := by decide +kernel
theorem dX4_beginningWith_1 : decode cX4_beginningWith 1 = .ok (.iload_n 3, 1) := by decide +kernel
theorem dX4_beginningWith_2 : decode cX4_beginningWith 2 = .ok (.iload 4, 2) := by decide +kernel
theorem dX4_beginningWith_4 : decode cX4_beginningWith 4 = .ok (.invokevirtual 43, 3) := by decide +kernel
theorem dX4_beginningWith_7 : decode cX4_beginningWith 7 = .ok (.aload_n 0, 1) := by decide +kernel
theorem dX4_beginningWith_8 : decode cX4_beginningWith 8 = .ok (.getfield 9, 3) := by decide +kernel
theorem dX4_beginningWith_11 : decode cX4_beginningWith 11 = .ok (.iload_n 2, 1) := by decide +kernel
theorem dX4_beginningWith_12 : decode cX4_beginningWith 12 = .ok (.iconst 1, 1) := by decide +kernel
theorem dX4_beginningWith_13 : decode cX4_beginningWith 13 = .ok (.iload_n 3, 1) := by decide +kernel
theorem dX4_beginningWith_14 : decode cX4_beginningWith 14 = .ok (.ishl, 1) := by decide +kernel
theorem dX4_beginningWith_15 : decode cX4_beginningWith 15 = .ok (.iconst (-1), 1) := by decide +kernel
theorem dX4_beginningWith_16 : decode cX4_beginningWith 16 = .ok (.ixor, 1) := by decide +kernel
theorem dX4_beginningWith_17 : decode cX4_beginningWith 17 = .ok (.iand, 1) := by decide +kernel
theorem dX4_beginningWith_18 : decode cX4_beginningWith 18 = .ok (.iaload, 1) := by decide +kernel
theorem dX4_beginningWith_19 : decode cX4_beginningWith 19 = .ok (.iadd, 1) := by decide +kernel
theorem dX4_beginningWith_20 : decode cX4_beginningWith 20 = .ok (.ireturn, 1) := by decide +kernel
theorem dX4_minutesOf_0 : decode cX4_minutesOf 0 = .ok (.iconst 0, 1) := by decide +kernel
theorem dX4_minutesOf_1 : decode cX4_minutesOf 1 = .ok (.istore_n 2, 1) := by decide +kernel
theorem dX4_minutesOf_2 : decode cX4_minutesOf 2 = .ok (.iconst 0, 1) := by decide +kernel
theorem dX4_minutesOf_3 : decode cX4_minutesOf 3 = .ok (.istore_n 3, 1) := by decide +kernel
theorem dX4_minutesOf_4 : decode cX4_minutesOf 4 = .ok (.iload_n 3, 1) := by decide +kernel
theorem dX4_minutesOf_5 : decode cX4_minutesOf 5 = .ok (.aload_n 0, 1) := by decide +kernel
theorem dX4_minutesOf_6 : decode cX4_minutesOf 6 = .ok (.getfield 15, 3) := by decide +kernel
theorem dX4_minutesOf_9 : decode cX4_minutesOf 9 = .ok (.if_icmp .ge 26, 3) := by decide +kernel
theorem dX4_minutesOf_12 : decode cX4_minutesOf 12 = .ok (.iload_n 1, 1) := by decide +kernel
theorem dX4_minutesOf_13 : decode cX4_minutesOf 13 = .ok (.iload_n 3, 1) := by decide +kernel
theorem dX4_minutesOf_14 : decode cX4_minutesOf 14 = .ok (.invokestatic 29, 3) := by decide +kernel
theorem dX4_minutesOf_17 : decode cX4_minutesOf 17 = .ok (.ifCond .eq 12, 3) := by decide +kernel
theorem dX4_minutesOf_20 : decode cX4_minutesOf 20 = .ok (.iload_n 2, 1) := by decide +kernel
theorem dX4_minutesOf_21 : decode cX4_minutesOf 21 = .ok (.aload_n 0, 1) := by decide +kernel
theorem dX4_minutesOf_22 : decode cX4_minutesOf 22 = .ok (.getfield 46, 3) := by decide +kernel
theorem dX4_minutesOf_25 : decode cX4_minutesOf 25 = .ok (.iload_n 3, 1) := by decide +kernel
theorem dX4_minutesOf_26 : decode cX4_minutesOf 26 = .ok (.iaload, 1) := by decide +kernel
theorem dX4_minutesOf_27 : decode cX4_minutesOf 27 = .ok (.iadd, 1) := by decide +kernel
theorem dX4_minutesOf_28 : decode cX4_minutesOf 28 = .ok (.istore_n 2, 1) := by decide +kernel
theorem dX4_minutesOf_29 : decode cX4_minutesOf 29 = .ok (.iinc 3 1, 3) := by decide +kernel
theorem dX4_minutesOf_32 : decode cX4_minutesOf 32 = .ok (.goto (-28), 3) := by decide +kernel
theorem dX4_minutesOf_35 : decode cX4_minutesOf 35 = .ok (.iload_n 2, 1) := by decide +kernel
theorem dX4_minutesOf_36 : decode cX4_minutesOf 36 = .ok (.ireturn, 1) := by decide +kernel
theorem dX4_bestFirstPlace_0 : decode cX4_bestFirstPlace 0 = .ok (.aload_n 0, 1) := by decide +kernel
theorem dX4_bestFirstPlace_1 : decode cX4_bestFirstPlace 1 = .ok (.aload_n 1, 1) := by decide +kernel
theorem dX4_bestFirstPlace_2 : decode cX4_bestFirstPlace 2 = .ok (.invokevirtual 49, 3) := by decide +kernel
theorem dX4_bestFirstPlace_5 : decode cX4_bestFirstPlace 5 = .ok (.istore_n 2, 1) := by decide +kernel
theorem dX4_bestFirstPlace_6 : decode cX4_bestFirstPlace 6 = .ok (.iconst 1, 1) := by decide +kernel
theorem dX4_bestFirstPlace_7 : decode cX4_bestFirstPlace 7 = .ok (.aload_n 1, 1) := by decide +kernel
theorem dX4_bestFirstPlace_8 : decode cX4_bestFirstPlace 8 = .ok (.getfield 15, 3) := by decide +kernel
theorem dX4_bestFirstPlace_11 : decode cX4_bestFirstPlace 11 = .ok (.ishl, 1) := by decide +kernel
theorem dX4_bestFirstPlace_12 : decode cX4_bestFirstPlace 12 = .ok (.iconst 1, 1) := by decide +kernel
theorem dX4_bestFirstPlace_13 : decode cX4_bestFirstPlace 13 = .ok (.isub, 1) := by decide +kernel
theorem dX4_bestFirstPlace_14 : decode cX4_bestFirstPlace 14 = .ok (.istore_n 3, 1) := by decide +kernel
theorem dX4_bestFirstPlace_15 : decode cX4_bestFirstPlace 15 = .ok (.iconst 0, 1) := by decide +kernel
theorem dX4_bestFirstPlace_16 : decode cX4_bestFirstPlace 16 = .ok (.istore 4, 2) := by decide +kernel
theorem dX4_bestFirstPlace_18 : decode cX4_bestFirstPlace 18 = .ok (.iload 4, 2) := by decide +kernel
theorem dX4_bestFirstPlace_20 : decode cX4_bestFirstPlace 20 = .ok (.aload_n 1, 1) := by decide +kernel
theorem dX4_bestFirstPlace_21 : decode cX4_bestFirstPlace 21 = .ok (.getfield 15, 3) := by decide +kernel
theorem dX4_bestFirstPlace_24 : decode cX4_bestFirstPlace 24 = .ok (.if_icmp .ge 28, 3) := by decide +kernel
theorem dX4_bestFirstPlace_27 : decode cX4_bestFirstPlace 27 = .ok (.aload_n 0, 1) := by decide +kernel
theorem dX4_bestFirstPlace_28 : decode cX4_bestFirstPlace 28 = .ok (.aload_n 1, 1) := by decide +kernel
theorem dX4_bestFirstPlace_29 : decode cX4_bestFirstPlace 29 = .ok (.iload_n 3, 1) := by decide +kernel
theorem dX4_bestFirstPlace_30 : decode cX4_bestFirstPlace 30 = .ok (.iload 4, 2) := by decide +kernel
theorem dX4_bestFirstPlace_32 : decode cX4_bestFirstPlace 32 = .ok (.aload_n 1, 1) := by decide +kernel
theorem dX4_bestFirstPlace_33 : decode cX4_bestFirstPlace 33 = .ok (.getfield 21, 3) := by decide +kernel
theorem dX4_bestFirstPlace_36 : decode cX4_bestFirstPlace 36 = .ok (.invokevirtual 33, 3) := by decide +kernel
theorem dX4_bestFirstPlace_39 : decode cX4_bestFirstPlace 39 = .ok (.iload_n 2, 1) := by decide +kernel
theorem dX4_bestFirstPlace_40 : decode cX4_bestFirstPlace 40 = .ok (.if_icmp .ne 6, 3) := by decide +kernel
theorem dX4_bestFirstPlace_43 : decode cX4_bestFirstPlace 43 = .ok (.iload 4, 2) := by decide +kernel
theorem dX4_bestFirstPlace_45 : decode cX4_bestFirstPlace 45 = .ok (.ireturn, 1) := by decide +kernel
theorem dX4_bestFirstPlace_46 : decode cX4_bestFirstPlace 46 = .ok (.iinc 4 1, 3) := by decide +kernel
theorem dX4_bestFirstPlace_49 : decode cX4_bestFirstPlace 49 = .ok (.goto (-31), 3) := by decide +kernel
theorem dX4_bestFirstPlace_52 : decode cX4_bestFirstPlace 52 = .ok (.iconst (-1), 1) := by decide +kernel
theorem dX4_bestFirstPlace_53 : decode cX4_bestFirstPlace 53 = .ok (.ireturn, 1) := by decide +kernel
theorem dX4_leastByTrying_0 : decode cX4_leastByTrying 0 = .ok (.aload_n 1, 1) := by decide +kernel
theorem dX4_leastByTrying_1 : decode cX4_leastByTrying 1 = .ok (.iconst 1, 1) := by decide +kernel
theorem dX4_leastByTrying_2 : decode cX4_leastByTrying 2 = .ok (.aload_n 1, 1) := by decide +kernel
theorem dX4_leastByTrying_3 : decode cX4_leastByTrying 3 = .ok (.getfield 15, 3) := by decide +kernel
theorem dX4_leastByTrying_6 : decode cX4_leastByTrying 6 = .ok (.ishl, 1) := by decide +kernel
theorem dX4_leastByTrying_7 : decode cX4_leastByTrying 7 = .ok (.iconst 1, 1) := by decide +kernel
theorem dX4_leastByTrying_8 : decode cX4_leastByTrying 8 = .ok (.isub, 1) := by decide +kernel
theorem dX4_leastByTrying_9 : decode cX4_leastByTrying 9 = .ok (.aload_n 1, 1) := by decide +kernel
theorem dX4_leastByTrying_10 : decode cX4_leastByTrying 10 = .ok (.getfield 21, 3) := by decide +kernel
theorem dX4_leastByTrying_13 : decode cX4_leastByTrying 13 = .ok (.iconst 0, 1) := by decide +kernel
theorem dX4_leastByTrying_14 : decode cX4_leastByTrying 14 = .ok (.ldc 28, 2) := by decide +kernel
theorem dX4_leastByTrying_16 : decode cX4_leastByTrying 16 = .ok (.iconst 0, 1) := by decide +kernel
theorem dX4_leastByTrying_17 : decode cX4_leastByTrying 17 = .ok (.invokestatic 53, 3) := by decide +kernel
theorem dX4_leastByTrying_20 : decode cX4_leastByTrying 20 = .ok (.ireturn, 1) := by decide +kernel
theorem dX4_bestFrom_0 : decode cX4_bestFrom 0 = .ok (.iload_n 3, 1) := by decide +kernel
theorem dX4_bestFrom_1 : decode cX4_bestFrom 1 = .ok (.iload 4, 2) := by decide +kernel
theorem dX4_bestFrom_3 : decode cX4_bestFrom 3 = .ok (.if_icmp .ge 10, 3) := by decide +kernel
theorem dX4_bestFrom_6 : decode cX4_bestFrom 6 = .ok (.iload 5, 2) := by decide +kernel
theorem dX4_bestFrom_8 : decode cX4_bestFrom 8 = .ok (.bipush 7, 2) := by decide +kernel
theorem dX4_bestFrom_10 : decode cX4_bestFrom 10 = .ok (.if_icmp .le 6, 3) := by decide +kernel
theorem dX4_bestFrom_13 : decode cX4_bestFrom 13 = .ok (.iload 4, 2) := by decide +kernel
theorem dX4_bestFrom_15 : decode cX4_bestFrom 15 = .ok (.ireturn, 1) := by decide +kernel
theorem dX4_bestFrom_16 : decode cX4_bestFrom 16 = .ok (.iload_n 1, 1) := by decide +kernel
theorem dX4_bestFrom_17 : decode cX4_bestFrom 17 = .ok (.ifCond .ne 5, 3) := by decide +kernel
theorem dX4_bestFrom_20 : decode cX4_bestFrom 20 = .ok (.iload_n 3, 1) := by decide +kernel
theorem dX4_bestFrom_21 : decode cX4_bestFrom 21 = .ok (.ireturn, 1) := by decide +kernel
theorem dX4_bestFrom_22 : decode cX4_bestFrom 22 = .ok (.iload 4, 2) := by decide +kernel
theorem dX4_bestFrom_24 : decode cX4_bestFrom 24 = .ok (.istore 6, 2) := by decide +kernel
theorem dX4_bestFrom_26 : decode cX4_bestFrom 26 = .ok (.iconst 0, 1) := by decide +kernel
theorem dX4_bestFrom_27 : decode cX4_bestFrom 27 = .ok (.istore 7, 2) := by decide +kernel
theorem dX4_bestFrom_29 : decode cX4_bestFrom 29 = .ok (.iload 7, 2) := by decide +kernel
theorem dX4_bestFrom_31 : decode cX4_bestFrom 31 = .ok (.aload_n 0, 1) := by decide +kernel
theorem dX4_bestFrom_32 : decode cX4_bestFrom 32 = .ok (.getfield 15, 3) := by decide +kernel
theorem dX4_bestFrom_35 : decode cX4_bestFrom 35 = .ok (.if_icmp .ge 64, 3) := by decide +kernel
theorem dX4_bestFrom_38 : decode cX4_bestFrom 38 = .ok (.iload_n 1, 1) := by decide +kernel
theorem dX4_bestFrom_39 : decode cX4_bestFrom 39 = .ok (.iload 7, 2) := by decide +kernel
theorem dX4_bestFrom_41 : decode cX4_bestFrom 41 = .ok (.invokestatic 29, 3) := by decide +kernel
theorem dX4_bestFrom_44 : decode cX4_bestFrom 44 = .ok (.ifCond .eq 49, 3) := by decide +kernel
theorem dX4_bestFrom_47 : decode cX4_bestFrom 47 = .ok (.iload_n 3, 1) := by decide +kernel
theorem dX4_bestFrom_48 : decode cX4_bestFrom 48 = .ok (.aload_n 0, 1) := by decide +kernel
theorem dX4_bestFrom_49 : decode cX4_bestFrom 49 = .ok (.iload 7, 2) := by decide +kernel
theorem dX4_bestFrom_51 : decode cX4_bestFrom 51 = .ok (.iload_n 2, 1) := by decide +kernel
theorem dX4_bestFrom_52 : decode cX4_bestFrom 52 = .ok (.invokevirtual 43, 3) := by decide +kernel
theorem dX4_bestFrom_55 : decode cX4_bestFrom 55 = .ok (.iadd, 1) := by decide +kernel
theorem dX4_bestFrom_56 : decode cX4_bestFrom 56 = .ok (.istore 8, 2) := by decide +kernel
theorem dX4_bestFrom_58 : decode cX4_bestFrom 58 = .ok (.iload_n 2, 1) := by decide +kernel
theorem dX4_bestFrom_59 : decode cX4_bestFrom 59 = .ok (.aload_n 0, 1) := by decide +kernel
theorem dX4_bestFrom_60 : decode cX4_bestFrom 60 = .ok (.getfield 46, 3) := by decide +kernel
theorem dX4_bestFrom_63 : decode cX4_bestFrom 63 = .ok (.iload 7, 2) := by decide +kernel
theorem dX4_bestFrom_65 : decode cX4_bestFrom 65 = .ok (.iaload, 1) := by decide +kernel
theorem dX4_bestFrom_66 : decode cX4_bestFrom 66 = .ok (.iadd, 1) := by decide +kernel
theorem dX4_bestFrom_67 : decode cX4_bestFrom 67 = .ok (.istore 9, 2) := by decide +kernel
theorem dX4_bestFrom_69 : decode cX4_bestFrom 69 = .ok (.aload_n 0, 1) := by decide +kernel
theorem dX4_bestFrom_70 : decode cX4_bestFrom 70 = .ok (.iload_n 1, 1) := by decide +kernel
theorem dX4_bestFrom_71 : decode cX4_bestFrom 71 = .ok (.iconst 1, 1) := by decide +kernel
theorem dX4_bestFrom_72 : decode cX4_bestFrom 72 = .ok (.iload 7, 2) := by decide +kernel
theorem dX4_bestFrom_74 : decode cX4_bestFrom 74 = .ok (.ishl, 1) := by decide +kernel
theorem dX4_bestFrom_75 : decode cX4_bestFrom 75 = .ok (.iconst (-1), 1) := by decide +kernel
theorem dX4_bestFrom_76 : decode cX4_bestFrom 76 = .ok (.ixor, 1) := by decide +kernel
theorem dX4_bestFrom_77 : decode cX4_bestFrom 77 = .ok (.iand, 1) := by decide +kernel
theorem dX4_bestFrom_78 : decode cX4_bestFrom 78 = .ok (.iload 9, 2) := by decide +kernel
theorem dX4_bestFrom_80 : decode cX4_bestFrom 80 = .ok (.iload 8, 2) := by decide +kernel
theorem dX4_bestFrom_82 : decode cX4_bestFrom 82 = .ok (.iload 6, 2) := by decide +kernel
theorem dX4_bestFrom_84 : decode cX4_bestFrom 84 = .ok (.iload 5, 2) := by decide +kernel
theorem dX4_bestFrom_86 : decode cX4_bestFrom 86 = .ok (.iconst 1, 1) := by decide +kernel
theorem dX4_bestFrom_87 : decode cX4_bestFrom 87 = .ok (.iadd, 1) := by decide +kernel
theorem dX4_bestFrom_88 : decode cX4_bestFrom 88 = .ok (.invokestatic 53, 3) := by decide +kernel
theorem dX4_bestFrom_91 : decode cX4_bestFrom 91 = .ok (.istore 6, 2) := by decide +kernel
theorem dX4_bestFrom_93 : decode cX4_bestFrom 93 = .ok (.iinc 7 1, 3) := by decide +kernel
theorem dX4_bestFrom_96 : decode cX4_bestFrom 96 = .ok (.goto (-67), 3) := by decide +kernel
theorem dX4_bestFrom_99 : decode cX4_bestFrom 99 = .ok (.iload 6, 2) := by decide +kernel
theorem dX4_bestFrom_101 : decode cX4_bestFrom 101 = .ok (.ireturn, 1) := by decide +kernel
theorem dX4_latenessInOrderOfIds_0 : decode cX4_latenessInOrderOfIds 0 = .ok (.iconst 0, 1) := by decide +kernel
theorem dX4_latenessInOrderOfIds_1 : decode cX4_latenessInOrderOfIds 1 = .ok (.istore_n 2, 1) := by decide +kernel
theorem dX4_latenessInOrderOfIds_2 : decode cX4_latenessInOrderOfIds 2 = .ok (.aload_n 1, 1) := by decide +kernel
theorem dX4_latenessInOrderOfIds_3 : decode cX4_latenessInOrderOfIds 3 = .ok (.getfield 21, 3) := by decide +kernel
theorem dX4_latenessInOrderOfIds_6 : decode cX4_latenessInOrderOfIds 6 = .ok (.istore_n 3, 1) := by decide +kernel
theorem dX4_latenessInOrderOfIds_7 : decode cX4_latenessInOrderOfIds 7 = .ok (.iconst 0, 1) := by decide +kernel
theorem dX4_latenessInOrderOfIds_8 : decode cX4_latenessInOrderOfIds 8 = .ok (.istore 4, 2) := by decide +kernel
theorem dX4_latenessInOrderOfIds_10 : decode cX4_latenessInOrderOfIds 10 = .ok (.iload 4, 2) := by decide +kernel
theorem dX4_latenessInOrderOfIds_12 : decode cX4_latenessInOrderOfIds 12 = .ok (.aload_n 1, 1) := by decide +kernel
theorem dX4_latenessInOrderOfIds_13 : decode cX4_latenessInOrderOfIds 13 = .ok (.getfield 15, 3) := by decide +kernel
theorem dX4_latenessInOrderOfIds_16 : decode cX4_latenessInOrderOfIds 16 = .ok (.if_icmp .ge 29, 3) := by decide +kernel
theorem dX4_latenessInOrderOfIds_19 : decode cX4_latenessInOrderOfIds 19 = .ok (.iload_n 2, 1) := by decide +kernel
theorem dX4_latenessInOrderOfIds_20 : decode cX4_latenessInOrderOfIds 20 = .ok (.aload_n 1, 1) := by decide +kernel
theorem dX4_latenessInOrderOfIds_21 : decode cX4_latenessInOrderOfIds 21 = .ok (.iload 4, 2) := by decide +kernel
theorem dX4_latenessInOrderOfIds_23 : decode cX4_latenessInOrderOfIds 23 = .ok (.iload_n 3, 1) := by decide +kernel
theorem dX4_latenessInOrderOfIds_24 : decode cX4_latenessInOrderOfIds 24 = .ok (.invokevirtual 43, 3) := by decide +kernel
theorem dX4_latenessInOrderOfIds_27 : decode cX4_latenessInOrderOfIds 27 = .ok (.iadd, 1) := by decide +kernel
theorem dX4_latenessInOrderOfIds_28 : decode cX4_latenessInOrderOfIds 28 = .ok (.istore_n 2, 1) := by decide +kernel
theorem dX4_latenessInOrderOfIds_29 : decode cX4_latenessInOrderOfIds 29 = .ok (.iload_n 3, 1) := by decide +kernel
theorem dX4_latenessInOrderOfIds_30 : decode cX4_latenessInOrderOfIds 30 = .ok (.aload_n 1, 1) := by decide +kernel
theorem dX4_latenessInOrderOfIds_31 : decode cX4_latenessInOrderOfIds 31 = .ok (.getfield 46, 3) := by decide +kernel
theorem dX4_latenessInOrderOfIds_34 : decode cX4_latenessInOrderOfIds 34 = .ok (.iload 4, 2) := by decide +kernel
theorem dX4_latenessInOrderOfIds_36 : decode cX4_latenessInOrderOfIds 36 = .ok (.iaload, 1) := by decide +kernel
theorem dX4_latenessInOrderOfIds_37 : decode cX4_latenessInOrderOfIds 37 = .ok (.iadd, 1) := by decide +kernel
theorem dX4_latenessInOrderOfIds_38 : decode cX4_latenessInOrderOfIds 38 = .ok (.istore_n 3, 1) := by decide +kernel
theorem dX4_latenessInOrderOfIds_39 : decode cX4_latenessInOrderOfIds 39 = .ok (.iinc 4 1, 3) := by decide +kernel
theorem dX4_latenessInOrderOfIds_42 : decode cX4_latenessInOrderOfIds 42 = .ok (.goto (-32), 3) := by decide +kernel
theorem dX4_latenessInOrderOfIds_45 : decode cX4_latenessInOrderOfIds 45 = .ok (.iload_n 2, 1) := by decide +kernel
theorem dX4_latenessInOrderOfIds_46 : decode cX4_latenessInOrderOfIds 46 = .ok (.ireturn, 1) := by decide +kernel
