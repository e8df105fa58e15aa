theorem dX6_init_0 : decode cX6_init 0 = .ok (.aload_n 0, 1) := by decide +kernel
theorem dX6_init_1 : decode cX6_init 1 = .ok (.invokespecial 3, 3) := by decide +kernel
theorem dX6_init_4 : decode cX6_init 4 = .ok (.aload_n 0, 1) := by decide +kernel
theorem dX6_init_5 : decode cX6_init 5 = .ok (.sipush 256, 3) := by decide +kernel
theorem dX6_init_8 : decode cX6_init 8 = .ok (.newarray .int, 2) := by decide +kernel
theorem dX6_init_10 : decode cX6_init 10 = .ok (.putfield 9, 3) := by decide +kernel
theorem dX6_init_13 : decode cX6_init 13 = .ok (.aload_n 0, 1) := by decide +kernel
theorem dX6_init_14 : decode cX6_init 14 = .ok (.bipush 8, 2) := by decide +kernel
theorem dX6_init_16 : decode cX6_init 16 = .ok (.newarray .int, 2) := by decide +kernel
theorem dX6_init_18 : decode cX6_init 18 = .ok (.putfield 15, 3) := by decide +kernel
theorem dX6_init_21 : decode cX6_init 21 = .ok (.return_, 1) := by decide +kernel
theorem dX6_leastBySets_0 : decode cX6_leastBySets 0 = .ok (.aload_n 1, 1) := by decide +kernel
theorem dX6_leastBySets_1 : decode cX6_leastBySets 1 = .ok (.invokevirtual 18, 3) := by decide +kernel
theorem dX6_leastBySets_4 : decode cX6_leastBySets 4 = .ok (.istore_n 2, 1) := by decide +kernel
theorem dX6_leastBySets_5 : decode cX6_leastBySets 5 = .ok (.aload_n 0, 1) := by decide +kernel
theorem dX6_leastBySets_6 : decode cX6_leastBySets 6 = .ok (.getfield 9, 3) := by decide +kernel
theorem dX6_leastBySets_9 : decode cX6_leastBySets 9 = .ok (.iconst 0, 1) := by decide +kernel
theorem dX6_leastBySets_10 : decode cX6_leastBySets 10 = .ok (.iconst 0, 1) := by decide +kernel
theorem dX6_leastBySets_11 : decode cX6_leastBySets 11 = .ok (.iastore, 1) := by decide +kernel
theorem dX6_leastBySets_12 : decode cX6_leastBySets 12 = .ok (.iconst 1, 1) := by decide +kernel
theorem dX6_leastBySets_13 : decode cX6_leastBySets 13 = .ok (.istore_n 3, 1) := by decide +kernel
theorem dX6_leastBySets_14 : decode cX6_leastBySets 14 = .ok (.iload_n 3, 1) := by decide +kernel
theorem dX6_leastBySets_15 : decode cX6_leastBySets 15 = .ok (.iload_n 2, 1) := by decide +kernel
theorem dX6_leastBySets_16 : decode cX6_leastBySets 16 = .ok (.if_icmp .gt 28, 3) := by decide +kernel
theorem dX6_leastBySets_19 : decode cX6_leastBySets 19 = .ok (.iload_n 3, 1) := by decide +kernel
theorem dX6_leastBySets_20 : decode cX6_leastBySets 20 = .ok (.iload_n 2, 1) := by decide +kernel
theorem dX6_leastBySets_21 : decode cX6_leastBySets 21 = .ok (.iand, 1) := by decide +kernel
theorem dX6_leastBySets_22 : decode cX6_leastBySets 22 = .ok (.iload_n 3, 1) := by decide +kernel
theorem dX6_leastBySets_23 : decode cX6_leastBySets 23 = .ok (.if_icmp .ne 15, 3) := by decide +kernel
theorem dX6_leastBySets_26 : decode cX6_leastBySets 26 = .ok (.aload_n 0, 1) := by decide +kernel
theorem dX6_leastBySets_27 : decode cX6_leastBySets 27 = .ok (.getfield 9, 3) := by decide +kernel
theorem dX6_leastBySets_30 : decode cX6_leastBySets 30 = .ok (.iload_n 3, 1) := by decide +kernel
theorem dX6_leastBySets_31 : decode cX6_leastBySets 31 = .ok (.aload_n 0, 1) := by decide +kernel
theorem dX6_leastBySets_32 : decode cX6_leastBySets 32 = .ok (.aload_n 1, 1) := by decide +kernel
theorem dX6_leastBySets_33 : decode cX6_leastBySets 33 = .ok (.iload_n 3, 1) := by decide +kernel
theorem dX6_leastBySets_34 : decode cX6_leastBySets 34 = .ok (.invokevirtual 24, 3) := by decide +kernel
theorem dX6_leastBySets_37 : decode cX6_leastBySets 37 = .ok (.iastore, 1) := by decide +kernel
theorem dX6_leastBySets_38 : decode cX6_leastBySets 38 = .ok (.iinc 3 1, 3) := by decide +kernel
theorem dX6_leastBySets_41 : decode cX6_leastBySets 41 = .ok (.goto (-27), 3) := by decide +kernel
theorem dX6_leastBySets_44 : decode cX6_leastBySets 44 = .ok (.aload_n 0, 1) := by decide +kernel
theorem dX6_leastBySets_45 : decode cX6_leastBySets 45 = .ok (.getfield 9, 3) := by decide +kernel
theorem dX6_leastBySets_48 : decode cX6_leastBySets 48 = .ok (.iload_n 2, 1) := by decide +kernel
theorem dX6_leastBySets_49 : decode cX6_leastBySets 49 = .ok (.iaload, 1) := by decide +kernel
theorem dX6_leastBySets_50 : decode cX6_leastBySets 50 = .ok (.ireturn, 1) := by decide +kernel
theorem dX6_leastForSet_0 : decode cX6_leastForSet 0 = .ok (.iload_n 2, 1) := by decide +kernel
theorem dX6_leastForSet_1 : decode cX6_leastForSet 1 = .ok (.invokestatic 28, 3) := by decide +kernel
theorem dX6_leastForSet_4 : decode cX6_leastForSet 4 = .ok (.istore_n 3, 1) := by decide +kernel
theorem dX6_leastForSet_5 : decode cX6_leastForSet 5 = .ok (.iload_n 2, 1) := by decide +kernel
theorem dX6_leastForSet_6 : decode cX6_leastForSet 6 = .ok (.iconst 1, 1) := by decide +kernel
theorem dX6_leastForSet_7 : decode cX6_leastForSet 7 = .ok (.iload_n 3, 1) := by decide +kernel
theorem dX6_leastForSet_8 : decode cX6_leastForSet 8 = .ok (.ishl, 1) := by decide +kernel
theorem dX6_leastForSet_9 : decode cX6_leastForSet 9 = .ok (.iconst (-1), 1) := by decide +kernel
theorem dX6_leastForSet_10 : decode cX6_leastForSet 10 = .ok (.ixor, 1) := by decide +kernel
theorem dX6_leastForSet_11 : decode cX6_leastForSet 11 = .ok (.iand, 1) := by decide +kernel
theorem dX6_leastForSet_12 : decode cX6_leastForSet 12 = .ok (.istore 4, 2) := by decide +kernel
theorem dX6_leastForSet_14 : decode cX6_leastForSet 14 = .ok (.iload_n 2, 1) := by decide +kernel
theorem dX6_leastForSet_15 : decode cX6_leastForSet 15 = .ok (.invokestatic 32, 3) := by decide +kernel
theorem dX6_leastForSet_18 : decode cX6_leastForSet 18 = .ok (.iconst 2, 1) := by decide +kernel
theorem dX6_leastForSet_19 : decode cX6_leastForSet 19 = .ok (.irem, 1) := by decide +kernel
theorem dX6_leastForSet_20 : decode cX6_leastForSet 20 = .ok (.iconst 1, 1) := by decide +kernel
theorem dX6_leastForSet_21 : decode cX6_leastForSet 21 = .ok (.if_icmp .ne 7, 3) := by decide +kernel
theorem dX6_leastForSet_24 : decode cX6_leastForSet 24 = .ok (.iconst 1, 1) := by decide +kernel
theorem dX6_leastForSet_25 : decode cX6_leastForSet 25 = .ok (.goto 4, 3) := by decide +kernel
theorem dX6_leastForSet_28 : decode cX6_leastForSet 28 = .ok (.iconst 0, 1) := by decide +kernel
theorem dX6_leastForSet_29 : decode cX6_leastForSet 29 = .ok (.istore 5, 2) := by decide +kernel
theorem dX6_leastForSet_31 : decode cX6_leastForSet 31 = .ok (.iload 5, 2) := by decide +kernel
theorem dX6_leastForSet_33 : decode cX6_leastForSet 33 = .ok (.ifCond .eq 13, 3) := by decide +kernel
theorem dX6_leastForSet_36 : decode cX6_leastForSet 36 = .ok (.aload_n 0, 1) := by decide +kernel
theorem dX6_leastForSet_37 : decode cX6_leastForSet 37 = .ok (.getfield 9, 3) := by decide +kernel
theorem dX6_leastForSet_40 : decode cX6_leastForSet 40 = .ok (.iload 4, 2) := by decide +kernel
theorem dX6_leastForSet_42 : decode cX6_leastForSet 42 = .ok (.iaload, 1) := by decide +kernel
theorem dX6_leastForSet_43 : decode cX6_leastForSet 43 = .ok (.goto 5, 3) := by decide +kernel
theorem dX6_leastForSet_46 : decode cX6_leastForSet 46 = .ok (.ldc 37, 2) := by decide +kernel
theorem dX6_leastForSet_48 : decode cX6_leastForSet 48 = .ok (.istore 6, 2) := by decide +kernel
theorem dX6_leastForSet_50 : decode cX6_leastForSet 50 = .ok (.iload_n 3, 1) := by decide +kernel
theorem dX6_leastForSet_51 : decode cX6_leastForSet 51 = .ok (.iconst 1, 1) := by decide +kernel
theorem dX6_leastForSet_52 : decode cX6_leastForSet 52 = .ok (.iadd, 1) := by decide +kernel
theorem dX6_leastForSet_53 : decode cX6_leastForSet 53 = .ok (.istore 7, 2) := by decide +kernel
theorem dX6_leastForSet_55 : decode cX6_leastForSet 55 = .ok (.iload 7, 2) := by decide +kernel
theorem dX6_leastForSet_57 : decode cX6_leastForSet 57 = .ok (.bipush 8, 2) := by decide +kernel
theorem dX6_leastForSet_59 : decode cX6_leastForSet 59 = .ok (.if_icmp .ge 35, 3) := by decide +kernel
theorem dX6_leastForSet_62 : decode cX6_leastForSet 62 = .ok (.iload 4, 2) := by decide +kernel
theorem dX6_leastForSet_64 : decode cX6_leastForSet 64 = .ok (.iload 7, 2) := by decide +kernel
theorem dX6_leastForSet_66 : decode cX6_leastForSet 66 = .ok (.invokestatic 38, 3) := by decide +kernel
theorem dX6_leastForSet_69 : decode cX6_leastForSet 69 = .ok (.ifCond .eq 19, 3) := by decide +kernel
theorem dX6_leastForSet_72 : decode cX6_leastForSet 72 = .ok (.iload 6, 2) := by decide +kernel
theorem dX6_leastForSet_74 : decode cX6_leastForSet 74 = .ok (.aload_n 0, 1) := by decide +kernel
theorem dX6_leastForSet_75 : decode cX6_leastForSet 75 = .ok (.aload_n 1, 1) := by decide +kernel
theorem dX6_leastForSet_76 : decode cX6_leastForSet 76 = .ok (.iload_n 2, 1) := by decide +kernel
theorem dX6_leastForSet_77 : decode cX6_leastForSet 77 = .ok (.iload_n 3, 1) := by decide +kernel
theorem dX6_leastForSet_78 : decode cX6_leastForSet 78 = .ok (.iload 7, 2) := by decide +kernel
theorem dX6_leastForSet_80 : decode cX6_leastForSet 80 = .ok (.invokevirtual 42, 3) := by decide +kernel
theorem dX6_leastForSet_83 : decode cX6_leastForSet 83 = .ok (.invokestatic 46, 3) := by decide +kernel
theorem dX6_leastForSet_86 : decode cX6_leastForSet 86 = .ok (.istore 6, 2) := by decide +kernel
theorem dX6_leastForSet_88 : decode cX6_leastForSet 88 = .ok (.iinc 7 1, 3) := by decide +kernel
theorem dX6_leastForSet_91 : decode cX6_leastForSet 91 = .ok (.goto (-36), 3) := by decide +kernel
theorem dX6_leastForSet_94 : decode cX6_leastForSet 94 = .ok (.iload 6, 2) := by decide +kernel
theorem dX6_leastForSet_96 : decode cX6_leastForSet 96 = .ok (.ireturn, 1) := by decide +kernel
theorem dX6_lowestOf_0 : decode cX6_lowestOf 0 = .ok (.iconst 0, 1) := by decide +kernel
theorem dX6_lowestOf_1 : decode cX6_lowestOf 1 = .ok (.istore_n 1, 1) := by decide +kernel
theorem dX6_lowestOf_2 : decode cX6_lowestOf 2 = .ok (.bipush 7, 2) := by decide +kernel
theorem dX6_lowestOf_4 : decode cX6_lowestOf 4 = .ok (.istore_n 2, 1) := by decide +kernel
theorem dX6_lowestOf_5 : decode cX6_lowestOf 5 = .ok (.iload_n 2, 1) := by decide +kernel
theorem dX6_lowestOf_6 : decode cX6_lowestOf 6 = .ok (.ifCond .lt 23, 3) := by decide +kernel
theorem dX6_lowestOf_9 : decode cX6_lowestOf 9 = .ok (.iload_n 0, 1) := by decide +kernel
theorem dX6_lowestOf_10 : decode cX6_lowestOf 10 = .ok (.iload_n 2, 1) := by decide +kernel
theorem dX6_lowestOf_11 : decode cX6_lowestOf 11 = .ok (.invokestatic 38, 3) := by decide +kernel
theorem dX6_lowestOf_14 : decode cX6_lowestOf 14 = .ok (.ifCond .eq 7, 3) := by decide +kernel
theorem dX6_lowestOf_17 : decode cX6_lowestOf 17 = .ok (.iload_n 2, 1) := by decide +kernel
theorem dX6_lowestOf_18 : decode cX6_lowestOf 18 = .ok (.goto 4, 3) := by decide +kernel
theorem dX6_lowestOf_21 : decode cX6_lowestOf 21 = .ok (.iload_n 1, 1) := by decide +kernel
theorem dX6_lowestOf_22 : decode cX6_lowestOf 22 = .ok (.istore_n 1, 1) := by decide +kernel
theorem dX6_lowestOf_23 : decode cX6_lowestOf 23 = .ok (.iinc 2 (-1), 3) := by decide +kernel
theorem dX6_lowestOf_26 : decode cX6_lowestOf 26 = .ok (.goto (-21), 3) := by decide +kernel
theorem dX6_lowestOf_29 : decode cX6_lowestOf 29 = .ok (.iload_n 1, 1) := by decide +kernel
theorem dX6_lowestOf_30 : decode cX6_lowestOf 30 = .ok (.ireturn, 1) := by decide +kernel
theorem dX6_withPair_0 : decode cX6_withPair 0 = .ok (.iload_n 2, 1) := by decide +kernel
theorem dX6_withPair_1 : decode cX6_withPair 1 = .ok (.iconst 1, 1) := by decide +kernel
theorem dX6_withPair_2 : decode cX6_withPair 2 = .ok (.iload_n 3, 1) := by decide +kernel
theorem dX6_withPair_3 : decode cX6_withPair 3 = .ok (.ishl, 1) := by decide +kernel
theorem dX6_withPair_4 : decode cX6_withPair 4 = .ok (.iconst (-1), 1) := by decide +kernel
theorem dX6_withPair_5 : decode cX6_withPair 5 = .ok (.ixor, 1) := by decide +kernel
theorem dX6_withPair_6 : decode cX6_withPair 6 = .ok (.iand, 1) := by decide +kernel
theorem dX6_withPair_7 : decode cX6_withPair 7 = .ok (.iconst 1, 1) := by decide +kernel
theorem dX6_withPair_8 : decode cX6_withPair 8 = .ok (.iload 4, 2) := by decide +kernel
theorem dX6_withPair_10 : decode cX6_withPair 10 = .ok (.ishl, 1) := by decide +kernel
theorem dX6_withPair_11 : decode cX6_withPair 11 = .ok (.iconst (-1), 1) := by decide +kernel
theorem dX6_withPair_12 : decode cX6_withPair 12 = .ok (.ixor, 1) := by decide +kernel
theorem dX6_withPair_13 : decode cX6_withPair 13 = .ok (.iand, 1) := by decide +kernel
theorem dX6_withPair_14 : decode cX6_withPair 14 = .ok (.istore 5, 2) := by decide +kernel
theorem dX6_withPair_16 : decode cX6_withPair 16 = .ok (.aload_n 1, 1) := by decide +kernel
theorem dX6_withPair_17 : decode cX6_withPair 17 = .ok (.getfield 52, 3) := by decide +kernel
theorem dX6_withPair_20 : decode cX6_withPair 20 = .ok (.iload_n 3, 1) := by decide +kernel
theorem dX6_withPair_21 : decode cX6_withPair 21 = .ok (.iaload, 1) := by decide +kernel
theorem dX6_withPair_22 : decode cX6_withPair 22 = .ok (.aload_n 1, 1) := by decide +kernel
theorem dX6_withPair_23 : decode cX6_withPair 23 = .ok (.getfield 52, 3) := by decide +kernel
theorem dX6_withPair_26 : decode cX6_withPair 26 = .ok (.iload 4, 2) := by decide +kernel
theorem dX6_withPair_28 : decode cX6_withPair 28 = .ok (.iaload, 1) := by decide +kernel
theorem dX6_withPair_29 : decode cX6_withPair 29 = .ok (.isub, 1) := by decide +kernel
theorem dX6_withPair_30 : decode cX6_withPair 30 = .ok (.invokestatic 55, 3) := by decide +kernel
theorem dX6_withPair_33 : decode cX6_withPair 33 = .ok (.aload_n 0, 1) := by decide +kernel
theorem dX6_withPair_34 : decode cX6_withPair 34 = .ok (.getfield 9, 3) := by decide +kernel
theorem dX6_withPair_37 : decode cX6_withPair 37 = .ok (.iload 5, 2) := by decide +kernel
theorem dX6_withPair_39 : decode cX6_withPair 39 = .ok (.iaload, 1) := by decide +kernel
theorem dX6_withPair_40 : decode cX6_withPair 40 = .ok (.iadd, 1) := by decide +kernel
theorem dX6_withPair_41 : decode cX6_withPair 41 = .ok (.ireturn, 1) := by decide +kernel
theorem dX6_leastByStrengths_0 : decode cX6_leastByStrengths 0 = .ok (.aload_n 0, 1) := by decide +kernel
theorem dX6_leastByStrengths_1 : decode cX6_leastByStrengths 1 = .ok (.aload_n 1, 1) := by decide +kernel
theorem dX6_leastByStrengths_2 : decode cX6_leastByStrengths 2 = .ok (.invokevirtual 58, 3) := by decide +kernel
theorem dX6_leastByStrengths_5 : decode cX6_leastByStrengths 5 = .ok (.istore_n 2, 1) := by decide +kernel
theorem dX6_leastByStrengths_6 : decode cX6_leastByStrengths 6 = .ok (.iload_n 2, 1) := by decide +kernel
theorem dX6_leastByStrengths_7 : decode cX6_leastByStrengths 7 = .ok (.iconst 2, 1) := by decide +kernel
theorem dX6_leastByStrengths_8 : decode cX6_leastByStrengths 8 = .ok (.irem, 1) := by decide +kernel
theorem dX6_leastByStrengths_9 : decode cX6_leastByStrengths 9 = .ok (.ifCond .ne 10, 3) := by decide +kernel
theorem dX6_leastByStrengths_12 : decode cX6_leastByStrengths 12 = .ok (.aload_n 0, 1) := by decide +kernel
theorem dX6_leastByStrengths_13 : decode cX6_leastByStrengths 13 = .ok (.iload_n 2, 1) := by decide +kernel
theorem dX6_leastByStrengths_14 : decode cX6_leastByStrengths 14 = .ok (.iload_n 2, 1) := by decide +kernel
theorem dX6_leastByStrengths_15 : decode cX6_leastByStrengths 15 = .ok (.invokevirtual 62, 3) := by decide +kernel
theorem dX6_leastByStrengths_18 : decode cX6_leastByStrengths 18 = .ok (.ireturn, 1) := by decide +kernel
theorem dX6_leastByStrengths_19 : decode cX6_leastByStrengths 19 = .ok (.ldc 37, 2) := by decide +kernel
theorem dX6_leastByStrengths_21 : decode cX6_leastByStrengths 21 = .ok (.istore_n 3, 1) := by decide +kernel
theorem dX6_leastByStrengths_22 : decode cX6_leastByStrengths 22 = .ok (.iconst 0, 1) := by decide +kernel
theorem dX6_leastByStrengths_23 : decode cX6_leastByStrengths 23 = .ok (.istore 4, 2) := by decide +kernel
theorem dX6_leastByStrengths_25 : decode cX6_leastByStrengths 25 = .ok (.iload 4, 2) := by decide +kernel
theorem dX6_leastByStrengths_27 : decode cX6_leastByStrengths 27 = .ok (.iload_n 2, 1) := by decide +kernel
theorem dX6_leastByStrengths_28 : decode cX6_leastByStrengths 28 = .ok (.if_icmp .ge 21, 3) := by decide +kernel
theorem dX6_leastByStrengths_31 : decode cX6_leastByStrengths 31 = .ok (.iload_n 3, 1) := by decide +kernel
theorem dX6_leastByStrengths_32 : decode cX6_leastByStrengths 32 = .ok (.aload_n 0, 1) := by decide +kernel
theorem dX6_leastByStrengths_33 : decode cX6_leastByStrengths 33 = .ok (.iload_n 2, 1) := by decide +kernel
theorem dX6_leastByStrengths_34 : decode cX6_leastByStrengths 34 = .ok (.iload 4, 2) := by decide +kernel
theorem dX6_leastByStrengths_36 : decode cX6_leastByStrengths 36 = .ok (.invokevirtual 62, 3) := by decide +kernel
theorem dX6_leastByStrengths_39 : decode cX6_leastByStrengths 39 = .ok (.invokestatic 46, 3) := by decide +kernel
theorem dX6_leastByStrengths_42 : decode cX6_leastByStrengths 42 = .ok (.istore_n 3, 1) := by decide +kernel
theorem dX6_leastByStrengths_43 : decode cX6_leastByStrengths 43 = .ok (.iinc 4 1, 3) := by decide +kernel
theorem dX6_leastByStrengths_46 : decode cX6_leastByStrengths 46 = .ok (.goto (-21), 3) := by decide +kernel
theorem dX6_leastByStrengths_49 : decode cX6_leastByStrengths 49 = .ok (.iload_n 3, 1) := by decide +kernel
theorem dX6_leastByStrengths_50 : decode cX6_leastByStrengths 50 = .ok (.ireturn, 1) := by decide +kernel
theorem dX6_sortStrengths_0 : decode cX6_sortStrengths 0 = .ok (.aload_n 1, 1) := by decide +kernel
theorem dX6_sortStrengths_1 : decode cX6_sortStrengths 1 = .ok (.invokevirtual 18, 3) := by decide +kernel
theorem dX6_sortStrengths_4 : decode cX6_sortStrengths 4 = .ok (.istore_n 2, 1) := by decide +kernel
theorem dX6_sortStrengths_5 : decode cX6_sortStrengths 5 = .ok (.iconst 0, 1) := by decide +kernel
theorem dX6_sortStrengths_6 : decode cX6_sortStrengths 6 = .ok (.istore_n 3, 1) := by decide +kernel
theorem dX6_sortStrengths_7 : decode cX6_sortStrengths 7 = .ok (.iconst 0, 1) := by decide +kernel
theorem dX6_sortStrengths_8 : decode cX6_sortStrengths 8 = .ok (.istore 4, 2) := by decide +kernel
theorem dX6_sortStrengths_10 : decode cX6_sortStrengths 10 = .ok (.iload 4, 2) := by decide +kernel
theorem dX6_sortStrengths_12 : decode cX6_sortStrengths 12 = .ok (.aload_n 1, 1) := by decide +kernel
theorem dX6_sortStrengths_13 : decode cX6_sortStrengths 13 = .ok (.getfield 65, 3) := by decide +kernel
theorem dX6_sortStrengths_16 : decode cX6_sortStrengths 16 = .ok (.if_icmp .ge 84, 3) := by decide +kernel
theorem dX6_sortStrengths_19 : decode cX6_sortStrengths 19 = .ok (.iload_n 2, 1) := by decide +kernel
theorem dX6_sortStrengths_20 : decode cX6_sortStrengths 20 = .ok (.iload 4, 2) := by decide +kernel
theorem dX6_sortStrengths_22 : decode cX6_sortStrengths 22 = .ok (.invokestatic 38, 3) := by decide +kernel
theorem dX6_sortStrengths_25 : decode cX6_sortStrengths 25 = .ok (.ifCond .eq 69, 3) := by decide +kernel
theorem dX6_sortStrengths_28 : decode cX6_sortStrengths 28 = .ok (.iload_n 3, 1) := by decide +kernel
theorem dX6_sortStrengths_29 : decode cX6_sortStrengths 29 = .ok (.istore 5, 2) := by decide +kernel
theorem dX6_sortStrengths_31 : decode cX6_sortStrengths 31 = .ok (.iload 5, 2) := by decide +kernel
theorem dX6_sortStrengths_33 : decode cX6_sortStrengths 33 = .ok (.ifCond .le 44, 3) := by decide +kernel
theorem dX6_sortStrengths_36 : decode cX6_sortStrengths 36 = .ok (.aload_n 0, 1) := by decide +kernel
theorem dX6_sortStrengths_37 : decode cX6_sortStrengths 37 = .ok (.getfield 15, 3) := by decide +kernel
theorem dX6_sortStrengths_40 : decode cX6_sortStrengths 40 = .ok (.iload 5, 2) := by decide +kernel
theorem dX6_sortStrengths_42 : decode cX6_sortStrengths 42 = .ok (.iconst 1, 1) := by decide +kernel
theorem dX6_sortStrengths_43 : decode cX6_sortStrengths 43 = .ok (.isub, 1) := by decide +kernel
theorem dX6_sortStrengths_44 : decode cX6_sortStrengths 44 = .ok (.iaload, 1) := by decide +kernel
theorem dX6_sortStrengths_45 : decode cX6_sortStrengths 45 = .ok (.aload_n 1, 1) := by decide +kernel
theorem dX6_sortStrengths_46 : decode cX6_sortStrengths 46 = .ok (.getfield 52, 3) := by decide +kernel
theorem dX6_sortStrengths_49 : decode cX6_sortStrengths 49 = .ok (.iload 4, 2) := by decide +kernel
theorem dX6_sortStrengths_51 : decode cX6_sortStrengths 51 = .ok (.iaload, 1) := by decide +kernel
theorem dX6_sortStrengths_52 : decode cX6_sortStrengths 52 = .ok (.if_icmp .le 25, 3) := by decide +kernel
theorem dX6_sortStrengths_55 : decode cX6_sortStrengths 55 = .ok (.aload_n 0, 1) := by decide +kernel
theorem dX6_sortStrengths_56 : decode cX6_sortStrengths 56 = .ok (.getfield 15, 3) := by decide +kernel
theorem dX6_sortStrengths_59 : decode cX6_sortStrengths 59 = .ok (.iload 5, 2) := by decide +kernel
theorem dX6_sortStrengths_61 : decode cX6_sortStrengths 61 = .ok (.aload_n 0, 1) := by decide +kernel
theorem dX6_sortStrengths_62 : decode cX6_sortStrengths 62 = .ok (.getfield 15, 3) := by decide +kernel
theorem dX6_sortStrengths_65 : decode cX6_sortStrengths 65 = .ok (.iload 5, 2) := by decide +kernel
theorem dX6_sortStrengths_67 : decode cX6_sortStrengths 67 = .ok (.iconst 1, 1) := by decide +kernel
theorem dX6_sortStrengths_68 : decode cX6_sortStrengths 68 = .ok (.isub, 1) := by decide +kernel
theorem dX6_sortStrengths_69 : decode cX6_sortStrengths 69 = .ok (.iaload, 1) := by decide +kernel
theorem dX6_sortStrengths_70 : decode cX6_sortStrengths 70 = .ok (.iastore, 1) := by decide +kernel
theorem dX6_sortStrengths_71 : decode cX6_sortStrengths 71 = .ok (.iinc 5 (-1), 3) := by decide +kernel
theorem dX6_sortStrengths_74 : decode cX6_sortStrengths 74 = .ok (.goto (-43), 3) := by decide +kernel
theorem dX6_sortStrengths_77 : decode cX6_sortStrengths 77 = .ok (.aload_n 0, 1) := by decide +kernel
theorem dX6_sortStrengths_78 : decode cX6_sortStrengths 78 = .ok (.getfield 15, 3) := by decide +kernel
theorem dX6_sortStrengths_81 : decode cX6_sortStrengths 81 = .ok (.iload 5, 2) := by decide +kernel
theorem dX6_sortStrengths_83 : decode cX6_sortStrengths 83 = .ok (.aload_n 1, 1) := by decide +kernel
theorem dX6_sortStrengths_84 : decode cX6_sortStrengths 84 = .ok (.getfield 52, 3) := by decide +kernel
theorem dX6_sortStrengths_87 : decode cX6_sortStrengths 87 = .ok (.iload 4, 2) := by decide +kernel
theorem dX6_sortStrengths_89 : decode cX6_sortStrengths 89 = .ok (.iaload, 1) := by decide +kernel
theorem dX6_sortStrengths_90 : decode cX6_sortStrengths 90 = .ok (.iastore, 1) := by decide +kernel
theorem dX6_sortStrengths_91 : decode cX6_sortStrengths 91 = .ok (.iinc 3 1, 3) := by decide +kernel
theorem dX6_sortStrengths_94 : decode cX6_sortStrengths 94 = .ok (.iinc 4 1, 3) := by decide +kernel
theorem dX6_sortStrengths_97 : decode cX6_sortStrengths 97 = .ok (.goto (-87), 3) := by decide +kernel
theorem dX6_sortStrengths_100 : decode cX6_sortStrengths 100 = .ok (.iload_n 3, 1) := by decide +kernel
theorem dX6_sortStrengths_101 : decode cX6_sortStrengths 101 = .ok (.ireturn, 1) := by decide +kernel
theorem dX6_differenceWithout_0 : decode cX6_differenceWithout 0 = .ok (.iconst 0, 1) := by decide +kernel
theorem dX6_differenceWithout_1 : decode cX6_differenceWithout 1 = .ok (.istore_n 3, 1) := by decide +kernel
theorem dX6_differenceWithout_2 : decode cX6_differenceWithout 2 = .ok (.iconst 0, 1) := by decide +kernel
theorem dX6_differenceWithout_3 : decode cX6_differenceWithout 3 = .ok (.istore 4, 2) := by decide +kernel
theorem dX6_differenceWithout_5 : decode cX6_differenceWithout 5 = .ok (.iconst 0, 1) := by decide +kernel
theorem dX6_differenceWithout_6 : decode cX6_differenceWithout 6 = .ok (.istore 5, 2) := by decide +kernel
theorem dX6_differenceWithout_8 : decode cX6_differenceWithout 8 = .ok (.iload 5, 2) := by decide +kernel
theorem dX6_differenceWithout_10 : decode cX6_differenceWithout 10 = .ok (.iload_n 1, 1) := by decide +kernel
theorem dX6_differenceWithout_11 : decode cX6_differenceWithout 11 = .ok (.if_icmp .ge 53, 3) := by decide +kernel
theorem dX6_differenceWithout_14 : decode cX6_differenceWithout 14 = .ok (.iload 5, 2) := by decide +kernel
theorem dX6_differenceWithout_16 : decode cX6_differenceWithout 16 = .ok (.iload_n 2, 1) := by decide +kernel
theorem dX6_differenceWithout_17 : decode cX6_differenceWithout 17 = .ok (.if_icmp .eq 41, 3) := by decide +kernel
theorem dX6_differenceWithout_20 : decode cX6_differenceWithout 20 = .ok (.iload_n 3, 1) := by decide +kernel
theorem dX6_differenceWithout_21 : decode cX6_differenceWithout 21 = .ok (.iload 4, 2) := by decide +kernel
theorem dX6_differenceWithout_23 : decode cX6_differenceWithout 23 = .ok (.ifCond .eq 13, 3) := by decide +kernel
theorem dX6_differenceWithout_26 : decode cX6_differenceWithout 26 = .ok (.aload_n 0, 1) := by decide +kernel
theorem dX6_differenceWithout_27 : decode cX6_differenceWithout 27 = .ok (.getfield 15, 3) := by decide +kernel
theorem dX6_differenceWithout_30 : decode cX6_differenceWithout 30 = .ok (.iload 5, 2) := by decide +kernel
theorem dX6_differenceWithout_32 : decode cX6_differenceWithout 32 = .ok (.iaload, 1) := by decide +kernel
theorem dX6_differenceWithout_33 : decode cX6_differenceWithout 33 = .ok (.goto 11, 3) := by decide +kernel
theorem dX6_differenceWithout_36 : decode cX6_differenceWithout 36 = .ok (.aload_n 0, 1) := by decide +kernel
theorem dX6_differenceWithout_37 : decode cX6_differenceWithout 37 = .ok (.getfield 15, 3) := by decide +kernel
theorem dX6_differenceWithout_40 : decode cX6_differenceWithout 40 = .ok (.iload 5, 2) := by decide +kernel
theorem dX6_differenceWithout_42 : decode cX6_differenceWithout 42 = .ok (.iaload, 1) := by decide +kernel
theorem dX6_differenceWithout_43 : decode cX6_differenceWithout 43 = .ok (.ineg, 1) := by decide +kernel
theorem dX6_differenceWithout_44 : decode cX6_differenceWithout 44 = .ok (.iadd, 1) := by decide +kernel
theorem dX6_differenceWithout_45 : decode cX6_differenceWithout 45 = .ok (.istore_n 3, 1) := by decide +kernel
theorem dX6_differenceWithout_46 : decode cX6_differenceWithout 46 = .ok (.iload 4, 2) := by decide +kernel
theorem dX6_differenceWithout_48 : decode cX6_differenceWithout 48 = .ok (.ifCond .ne 7, 3) := by decide +kernel
theorem dX6_differenceWithout_51 : decode cX6_differenceWithout 51 = .ok (.iconst 1, 1) := by decide +kernel
theorem dX6_differenceWithout_52 : decode cX6_differenceWithout 52 = .ok (.goto 4, 3) := by decide +kernel
theorem dX6_differenceWithout_55 : decode cX6_differenceWithout 55 = .ok (.iconst 0, 1) := by decide +kernel
theorem dX6_differenceWithout_56 : decode cX6_differenceWithout 56 = .ok (.istore 4, 2) := by decide +kernel
theorem dX6_differenceWithout_58 : decode cX6_differenceWithout 58 = .ok (.iinc 5 1, 3) := by decide +kernel
theorem dX6_differenceWithout_61 : decode cX6_differenceWithout 61 = .ok (.goto (-53), 3) := by decide +kernel
theorem dX6_differenceWithout_64 : decode cX6_differenceWithout 64 = .ok (.iload_n 3, 1) := by decide +kernel
theorem dX6_differenceWithout_65 : decode cX6_differenceWithout 65 = .ok (.ireturn, 1) := by decide +kernel
theorem dX6_lowestPartner_0 : decode cX6_lowestPartner 0 = .ok (.aload_n 1, 1) := by decide +kernel
theorem dX6_lowestPartner_1 : decode cX6_lowestPartner 1 = .ok (.invokevirtual 18, 3) := by decide +kernel
theorem dX6_lowestPartner_4 : decode cX6_lowestPartner 4 = .ok (.istore_n 3, 1) := by decide +kernel
theorem dX6_lowestPartner_5 : decode cX6_lowestPartner 5 = .ok (.iload_n 3, 1) := by decide +kernel
theorem dX6_lowestPartner_6 : decode cX6_lowestPartner 6 = .ok (.iload_n 2, 1) := by decide +kernel
theorem dX6_lowestPartner_7 : decode cX6_lowestPartner 7 = .ok (.invokestatic 38, 3) := by decide +kernel
theorem dX6_lowestPartner_10 : decode cX6_lowestPartner 10 = .ok (.ifCond .ne 5, 3) := by decide +kernel
theorem dX6_lowestPartner_13 : decode cX6_lowestPartner 13 = .ok (.iconst (-1), 1) := by decide +kernel
theorem dX6_lowestPartner_14 : decode cX6_lowestPartner 14 = .ok (.ireturn, 1) := by decide +kernel
theorem dX6_lowestPartner_15 : decode cX6_lowestPartner 15 = .ok (.aload_n 0, 1) := by decide +kernel
theorem dX6_lowestPartner_16 : decode cX6_lowestPartner 16 = .ok (.aload_n 1, 1) := by decide +kernel
theorem dX6_lowestPartner_17 : decode cX6_lowestPartner 17 = .ok (.invokevirtual 69, 3) := by decide +kernel
theorem dX6_lowestPartner_20 : decode cX6_lowestPartner 20 = .ok (.istore 4, 2) := by decide +kernel
theorem dX6_lowestPartner_22 : decode cX6_lowestPartner 22 = .ok (.iconst 0, 1) := by decide +kernel
theorem dX6_lowestPartner_23 : decode cX6_lowestPartner 23 = .ok (.istore 5, 2) := by decide +kernel
theorem dX6_lowestPartner_25 : decode cX6_lowestPartner 25 = .ok (.iload 5, 2) := by decide +kernel
theorem dX6_lowestPartner_27 : decode cX6_lowestPartner 27 = .ok (.aload_n 1, 1) := by decide +kernel
theorem dX6_lowestPartner_28 : decode cX6_lowestPartner 28 = .ok (.getfield 65, 3) := by decide +kernel
theorem dX6_lowestPartner_31 : decode cX6_lowestPartner 31 = .ok (.if_icmp .ge 53, 3) := by decide +kernel
theorem dX6_lowestPartner_34 : decode cX6_lowestPartner 34 = .ok (.iload 5, 2) := by decide +kernel
theorem dX6_lowestPartner_36 : decode cX6_lowestPartner 36 = .ok (.iload_n 2, 1) := by decide +kernel
theorem dX6_lowestPartner_37 : decode cX6_lowestPartner 37 = .ok (.if_icmp .eq 16, 3) := by decide +kernel
theorem dX6_lowestPartner_40 : decode cX6_lowestPartner 40 = .ok (.iload_n 3, 1) := by decide +kernel
theorem dX6_lowestPartner_41 : decode cX6_lowestPartner 41 = .ok (.iload 5, 2) := by decide +kernel
theorem dX6_lowestPartner_43 : decode cX6_lowestPartner 43 = .ok (.invokestatic 38, 3) := by decide +kernel
theorem dX6_lowestPartner_46 : decode cX6_lowestPartner 46 = .ok (.ifCond .eq 7, 3) := by decide +kernel
theorem dX6_lowestPartner_49 : decode cX6_lowestPartner 49 = .ok (.iconst 1, 1) := by decide +kernel
theorem dX6_lowestPartner_50 : decode cX6_lowestPartner 50 = .ok (.goto 4, 3) := by decide +kernel
theorem dX6_lowestPartner_53 : decode cX6_lowestPartner 53 = .ok (.iconst 0, 1) := by decide +kernel
theorem dX6_lowestPartner_54 : decode cX6_lowestPartner 54 = .ok (.istore 6, 2) := by decide +kernel
theorem dX6_lowestPartner_56 : decode cX6_lowestPartner 56 = .ok (.iload 6, 2) := by decide +kernel
theorem dX6_lowestPartner_58 : decode cX6_lowestPartner 58 = .ok (.ifCond .eq 20, 3) := by decide +kernel
theorem dX6_lowestPartner_61 : decode cX6_lowestPartner 61 = .ok (.aload_n 0, 1) := by decide +kernel
theorem dX6_lowestPartner_62 : decode cX6_lowestPartner 62 = .ok (.aload_n 1, 1) := by decide +kernel
theorem dX6_lowestPartner_63 : decode cX6_lowestPartner 63 = .ok (.iload_n 3, 1) := by decide +kernel
theorem dX6_lowestPartner_64 : decode cX6_lowestPartner 64 = .ok (.iload_n 2, 1) := by decide +kernel
theorem dX6_lowestPartner_65 : decode cX6_lowestPartner 65 = .ok (.iload 5, 2) := by decide +kernel
theorem dX6_lowestPartner_67 : decode cX6_lowestPartner 67 = .ok (.invokevirtual 42, 3) := by decide +kernel
theorem dX6_lowestPartner_70 : decode cX6_lowestPartner 70 = .ok (.iload 4, 2) := by decide +kernel
theorem dX6_lowestPartner_72 : decode cX6_lowestPartner 72 = .ok (.if_icmp .ne 6, 3) := by decide +kernel
theorem dX6_lowestPartner_75 : decode cX6_lowestPartner 75 = .ok (.iload 5, 2) := by decide +kernel
theorem dX6_lowestPartner_77 : decode cX6_lowestPartner 77 = .ok (.ireturn, 1) := by decide +kernel
theorem dX6_lowestPartner_78 : decode cX6_lowestPartner 78 = .ok (.iinc 5 1, 3) := by decide +kernel
theorem dX6_lowestPartner_81 : decode cX6_lowestPartner 81 = .ok (.goto (-56), 3) := by decide +kernel
theorem dX6_lowestPartner_84 : decode cX6_lowestPartner 84 = .ok (.iconst (-1), 1) := by decide +kernel
theorem dX6_lowestPartner_85 : decode cX6_lowestPartner 85 = .ok (.ireturn, 1) := by decide +kernel
