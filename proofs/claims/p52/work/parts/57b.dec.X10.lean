theorem dX10_init_0 : decode cX10_init 0 = .ok (.aload_n 0, 1) := by decide +kernel
theorem dX10_init_1 : decode cX10_init 1 = .ok (.invokespecial 1, 3) := by decide +kernel
theorem dX10_init_4 : decode cX10_init 4 = .ok (.aload_n 0, 1) := by decide +kernel
theorem dX10_init_5 : decode cX10_init 5 = .ok (.new 7, 3) := by decide +kernel
theorem dX10_init_8 : decode cX10_init 8 = .ok (.dup, 1) := by decide +kernel
theorem dX10_init_9 : decode cX10_init 9 = .ok (.invokespecial 9, 3) := by decide +kernel
theorem dX10_init_12 : decode cX10_init 12 = .ok (.putfield 10, 3) := by decide +kernel
theorem dX10_init_15 : decode cX10_init 15 = .ok (.aload_n 0, 1) := by decide +kernel
theorem dX10_init_16 : decode cX10_init 16 = .ok (.new 7, 3) := by decide +kernel
theorem dX10_init_19 : decode cX10_init 19 = .ok (.dup, 1) := by decide +kernel
theorem dX10_init_20 : decode cX10_init 20 = .ok (.invokespecial 9, 3) := by decide +kernel
theorem dX10_init_23 : decode cX10_init 23 = .ok (.putfield 16, 3) := by decide +kernel
theorem dX10_init_26 : decode cX10_init 26 = .ok (.aload_n 0, 1) := by decide +kernel
theorem dX10_init_27 : decode cX10_init 27 = .ok (.new 19, 3) := by decide +kernel
theorem dX10_init_30 : decode cX10_init 30 = .ok (.dup, 1) := by decide +kernel
theorem dX10_init_31 : decode cX10_init 31 = .ok (.invokespecial 21, 3) := by decide +kernel
theorem dX10_init_34 : decode cX10_init 34 = .ok (.putfield 22, 3) := by decide +kernel
theorem dX10_init_37 : decode cX10_init 37 = .ok (.aload_n 0, 1) := by decide +kernel
theorem dX10_init_38 : decode cX10_init 38 = .ok (.new 26, 3) := by decide +kernel
theorem dX10_init_41 : decode cX10_init 41 = .ok (.dup, 1) := by decide +kernel
theorem dX10_init_42 : decode cX10_init 42 = .ok (.invokespecial 28, 3) := by decide +kernel
theorem dX10_init_45 : decode cX10_init 45 = .ok (.putfield 29, 3) := by decide +kernel
theorem dX10_init_48 : decode cX10_init 48 = .ok (.aload_n 0, 1) := by decide +kernel
theorem dX10_init_49 : decode cX10_init 49 = .ok (.new 33, 3) := by decide +kernel
theorem dX10_init_52 : decode cX10_init 52 = .ok (.dup, 1) := by decide +kernel
theorem dX10_init_53 : decode cX10_init 53 = .ok (.invokespecial 35, 3) := by decide +kernel
theorem dX10_init_56 : decode cX10_init 56 = .ok (.putfield 36, 3) := by decide +kernel
theorem dX10_init_59 : decode cX10_init 59 = .ok (.aload_n 0, 1) := by decide +kernel
theorem dX10_init_60 : decode cX10_init 60 = .ok (.sipush 360, 3) := by decide +kernel
theorem dX10_init_63 : decode cX10_init 63 = .ok (.newarray .int, 2) := by decide +kernel
theorem dX10_init_65 : decode cX10_init 65 = .ok (.putfield 40, 3) := by decide +kernel
theorem dX10_init_68 : decode cX10_init 68 = .ok (.aload_n 0, 1) := by decide +kernel
theorem dX10_init_69 : decode cX10_init 69 = .ok (.new 44, 3) := by decide +kernel
theorem dX10_init_72 : decode cX10_init 72 = .ok (.dup, 1) := by decide +kernel
theorem dX10_init_73 : decode cX10_init 73 = .ok (.invokespecial 46, 3) := by decide +kernel
theorem dX10_init_76 : decode cX10_init 76 = .ok (.putfield 47, 3) := by decide +kernel
theorem dX10_init_79 : decode cX10_init 79 = .ok (.aload_n 0, 1) := by decide +kernel
theorem dX10_init_80 : decode cX10_init 80 = .ok (.new 51, 3) := by decide +kernel
theorem dX10_init_83 : decode cX10_init 83 = .ok (.dup, 1) := by decide +kernel
theorem dX10_init_84 : decode cX10_init 84 = .ok (.invokespecial 53, 3) := by decide +kernel
theorem dX10_init_87 : decode cX10_init 87 = .ok (.putfield 54, 3) := by decide +kernel
theorem dX10_init_90 : decode cX10_init 90 = .ok (.aload_n 0, 1) := by decide +kernel
theorem dX10_init_91 : decode cX10_init 91 = .ok (.iconst (-1), 1) := by decide +kernel
theorem dX10_init_92 : decode cX10_init 92 = .ok (.putfield 58, 3) := by decide +kernel
theorem dX10_init_95 : decode cX10_init 95 = .ok (.aload_n 0, 1) := by decide +kernel
theorem dX10_init_96 : decode cX10_init 96 = .ok (.iconst (-1), 1) := by decide +kernel
theorem dX10_init_97 : decode cX10_init 97 = .ok (.putfield 62, 3) := by decide +kernel
theorem dX10_init_100 : decode cX10_init 100 = .ok (.return_, 1) := by decide +kernel
theorem dX10_missedCourses_0 : decode cX10_missedCourses 0 = .ok (.aload_n 0, 1) := by decide +kernel
theorem dX10_missedCourses_1 : decode cX10_missedCourses 1 = .ok (.iload_n 1, 1) := by decide +kernel
theorem dX10_missedCourses_2 : decode cX10_missedCourses 2 = .ok (.invokevirtual 99, 3) := by decide +kernel
theorem dX10_missedCourses_5 : decode cX10_missedCourses 5 = .ok (.aload_n 0, 1) := by decide +kernel
theorem dX10_missedCourses_6 : decode cX10_missedCourses 6 = .ok (.getfield 40, 3) := by decide +kernel
theorem dX10_missedCourses_9 : decode cX10_missedCourses 9 = .ok (.iconst 0, 1) := by decide +kernel
theorem dX10_missedCourses_10 : decode cX10_missedCourses 10 = .ok (.invokestatic 136, 3) := by decide +kernel
theorem dX10_missedCourses_13 : decode cX10_missedCourses 13 = .ok (.iconst 0, 1) := by decide +kernel
theorem dX10_missedCourses_14 : decode cX10_missedCourses 14 = .ok (.istore_n 2, 1) := by decide +kernel
theorem dX10_missedCourses_15 : decode cX10_missedCourses 15 = .ok (.iload_n 2, 1) := by decide +kernel
theorem dX10_missedCourses_16 : decode cX10_missedCourses 16 = .ok (.sipush 360, 3) := by decide +kernel
theorem dX10_missedCourses_19 : decode cX10_missedCourses 19 = .ok (.if_icmp .ge 27, 3) := by decide +kernel
theorem dX10_missedCourses_22 : decode cX10_missedCourses 22 = .ok (.aload_n 0, 1) := by decide +kernel
theorem dX10_missedCourses_23 : decode cX10_missedCourses 23 = .ok (.getfield 40, 3) := by decide +kernel
theorem dX10_missedCourses_26 : decode cX10_missedCourses 26 = .ok (.aload_n 0, 1) := by decide +kernel
theorem dX10_missedCourses_27 : decode cX10_missedCourses 27 = .ok (.getfield 10, 3) := by decide +kernel
theorem dX10_missedCourses_30 : decode cX10_missedCourses 30 = .ok (.getfield 90, 3) := by decide +kernel
theorem dX10_missedCourses_33 : decode cX10_missedCourses 33 = .ok (.iload_n 1, 1) := by decide +kernel
theorem dX10_missedCourses_34 : decode cX10_missedCourses 34 = .ok (.iload_n 2, 1) := by decide +kernel
theorem dX10_missedCourses_35 : decode cX10_missedCourses 35 = .ok (.invokevirtual 123, 3) := by decide +kernel
theorem dX10_missedCourses_38 : decode cX10_missedCourses 38 = .ok (.iconst 1, 1) := by decide +kernel
theorem dX10_missedCourses_39 : decode cX10_missedCourses 39 = .ok (.iastore, 1) := by decide +kernel
theorem dX10_missedCourses_40 : decode cX10_missedCourses 40 = .ok (.iinc 2 1, 3) := by decide +kernel
theorem dX10_missedCourses_43 : decode cX10_missedCourses 43 = .ok (.goto (-28), 3) := by decide +kernel
theorem dX10_missedCourses_46 : decode cX10_missedCourses 46 = .ok (.iconst 0, 1) := by decide +kernel
theorem dX10_missedCourses_47 : decode cX10_missedCourses 47 = .ok (.istore_n 2, 1) := by decide +kernel
theorem dX10_missedCourses_48 : decode cX10_missedCourses 48 = .ok (.iconst 0, 1) := by decide +kernel
theorem dX10_missedCourses_49 : decode cX10_missedCourses 49 = .ok (.istore_n 3, 1) := by decide +kernel
theorem dX10_missedCourses_50 : decode cX10_missedCourses 50 = .ok (.iload_n 3, 1) := by decide +kernel
theorem dX10_missedCourses_51 : decode cX10_missedCourses 51 = .ok (.sipush 360, 3) := by decide +kernel
theorem dX10_missedCourses_54 : decode cX10_missedCourses 54 = .ok (.if_icmp .ge 20, 3) := by decide +kernel
theorem dX10_missedCourses_57 : decode cX10_missedCourses 57 = .ok (.iload_n 2, 1) := by decide +kernel
theorem dX10_missedCourses_58 : decode cX10_missedCourses 58 = .ok (.iconst 1, 1) := by decide +kernel
theorem dX10_missedCourses_59 : decode cX10_missedCourses 59 = .ok (.aload_n 0, 1) := by decide +kernel
theorem dX10_missedCourses_60 : decode cX10_missedCourses 60 = .ok (.getfield 40, 3) := by decide +kernel
theorem dX10_missedCourses_63 : decode cX10_missedCourses 63 = .ok (.iload_n 3, 1) := by decide +kernel
theorem dX10_missedCourses_64 : decode cX10_missedCourses 64 = .ok (.iaload, 1) := by decide +kernel
theorem dX10_missedCourses_65 : decode cX10_missedCourses 65 = .ok (.isub, 1) := by decide +kernel
theorem dX10_missedCourses_66 : decode cX10_missedCourses 66 = .ok (.iadd, 1) := by decide +kernel
theorem dX10_missedCourses_67 : decode cX10_missedCourses 67 = .ok (.istore_n 2, 1) := by decide +kernel
theorem dX10_missedCourses_68 : decode cX10_missedCourses 68 = .ok (.iinc 3 1, 3) := by decide +kernel
theorem dX10_missedCourses_71 : decode cX10_missedCourses 71 = .ok (.goto (-21), 3) := by decide +kernel
theorem dX10_missedCourses_74 : decode cX10_missedCourses 74 = .ok (.iload_n 2, 1) := by decide +kernel
theorem dX10_missedCourses_75 : decode cX10_missedCourses 75 = .ok (.ireturn, 1) := by decide +kernel
theorem dX10_needleAtRank_0 : decode cX10_needleAtRank 0 = .ok (.aload_n 0, 1) := by decide +kernel
theorem dX10_needleAtRank_1 : decode cX10_needleAtRank 1 = .ok (.getfield 10, 3) := by decide +kernel
theorem dX10_needleAtRank_4 : decode cX10_needleAtRank 4 = .ok (.getfield 90, 3) := by decide +kernel
theorem dX10_needleAtRank_7 : decode cX10_needleAtRank 7 = .ok (.astore_n 2, 1) := by decide +kernel
theorem dX10_needleAtRank_8 : decode cX10_needleAtRank 8 = .ok (.iconst 0, 1) := by decide +kernel
theorem dX10_needleAtRank_9 : decode cX10_needleAtRank 9 = .ok (.istore_n 3, 1) := by decide +kernel
theorem dX10_needleAtRank_10 : decode cX10_needleAtRank 10 = .ok (.iload_n 3, 1) := by decide +kernel
theorem dX10_needleAtRank_11 : decode cX10_needleAtRank 11 = .ok (.aload_n 2, 1) := by decide +kernel
theorem dX10_needleAtRank_12 : decode cX10_needleAtRank 12 = .ok (.getfield 94, 3) := by decide +kernel
theorem dX10_needleAtRank_15 : decode cX10_needleAtRank 15 = .ok (.if_icmp .ge 20, 3) := by decide +kernel
theorem dX10_needleAtRank_18 : decode cX10_needleAtRank 18 = .ok (.aload_n 2, 1) := by decide +kernel
theorem dX10_needleAtRank_19 : decode cX10_needleAtRank 19 = .ok (.iload_n 3, 1) := by decide +kernel
theorem dX10_needleAtRank_20 : decode cX10_needleAtRank 20 = .ok (.invokevirtual 151, 3) := by decide +kernel
theorem dX10_needleAtRank_23 : decode cX10_needleAtRank 23 = .ok (.iload_n 1, 1) := by decide +kernel
theorem dX10_needleAtRank_24 : decode cX10_needleAtRank 24 = .ok (.if_icmp .ne 5, 3) := by decide +kernel
theorem dX10_needleAtRank_27 : decode cX10_needleAtRank 27 = .ok (.iload_n 3, 1) := by decide +kernel
theorem dX10_needleAtRank_28 : decode cX10_needleAtRank 28 = .ok (.ireturn, 1) := by decide +kernel
theorem dX10_needleAtRank_29 : decode cX10_needleAtRank 29 = .ok (.iinc 3 1, 3) := by decide +kernel
theorem dX10_needleAtRank_32 : decode cX10_needleAtRank 32 = .ok (.goto (-22), 3) := by decide +kernel
theorem dX10_needleAtRank_35 : decode cX10_needleAtRank 35 = .ok (.new 154, 3) := by decide +kernel
theorem dX10_needleAtRank_38 : decode cX10_needleAtRank 38 = .ok (.dup, 1) := by decide +kernel
theorem dX10_needleAtRank_39 : decode cX10_needleAtRank 39 = .ok (.ldc 156, 2) := by decide +kernel
theorem dX10_needleAtRank_41 : decode cX10_needleAtRank 41 = .ok (.invokespecial 158, 3) := by decide +kernel
theorem dX10_needleAtRank_44 : decode cX10_needleAtRank 44 = .ok (.athrow, 1) := by decide +kernel
theorem dX10_meanError_0 : decode cX10_meanError 0 = .ok (.aload_n 0, 1) := by decide +kernel
theorem dX10_meanError_1 : decode cX10_meanError 1 = .ok (.getfield 10, 3) := by decide +kernel
theorem dX10_meanError_4 : decode cX10_meanError 4 = .ok (.getfield 90, 3) := by decide +kernel
theorem dX10_meanError_7 : decode cX10_meanError 7 = .ok (.astore_n 1, 1) := by decide +kernel
theorem dX10_meanError_8 : decode cX10_meanError 8 = .ok (.aload_n 1, 1) := by decide +kernel
theorem dX10_meanError_9 : decode cX10_meanError 9 = .ok (.invokevirtual 161, 3) := by decide +kernel
theorem dX10_meanError_12 : decode cX10_meanError 12 = .ok (.istore_n 2, 1) := by decide +kernel
theorem dX10_meanError_13 : decode cX10_meanError 13 = .ok (.iload_n 2, 1) := by decide +kernel
theorem dX10_meanError_14 : decode cX10_meanError 14 = .ok (.invokestatic 165, 3) := by decide +kernel
theorem dX10_meanError_17 : decode cX10_meanError 17 = .ok (.istore_n 3, 1) := by decide +kernel
theorem dX10_meanError_18 : decode cX10_meanError 18 = .ok (.iload_n 3, 1) := by decide +kernel
theorem dX10_meanError_19 : decode cX10_meanError 19 = .ok (.ifCond .ne 13, 3) := by decide +kernel
theorem dX10_meanError_22 : decode cX10_meanError 22 = .ok (.new 170, 3) := by decide +kernel
theorem dX10_meanError_25 : decode cX10_meanError 25 = .ok (.dup, 1) := by decide +kernel
theorem dX10_meanError_26 : decode cX10_meanError 26 = .ok (.ldc 172, 2) := by decide +kernel
theorem dX10_meanError_28 : decode cX10_meanError 28 = .ok (.invokespecial 174, 3) := by decide +kernel
theorem dX10_meanError_31 : decode cX10_meanError 31 = .ok (.athrow, 1) := by decide +kernel
theorem dX10_meanError_32 : decode cX10_meanError 32 = .ok (.iconst 0, 1) := by decide +kernel
theorem dX10_meanError_33 : decode cX10_meanError 33 = .ok (.istore 4, 2) := by decide +kernel
theorem dX10_meanError_35 : decode cX10_meanError 35 = .ok (.iconst 0, 1) := by decide +kernel
theorem dX10_meanError_36 : decode cX10_meanError 36 = .ok (.istore 5, 2) := by decide +kernel
theorem dX10_meanError_38 : decode cX10_meanError 38 = .ok (.iload 5, 2) := by decide +kernel
theorem dX10_meanError_40 : decode cX10_meanError 40 = .ok (.aload_n 1, 1) := by decide +kernel
theorem dX10_meanError_41 : decode cX10_meanError 41 = .ok (.getfield 94, 3) := by decide +kernel
theorem dX10_meanError_44 : decode cX10_meanError 44 = .ok (.if_icmp .ge 30, 3) := by decide +kernel
theorem dX10_meanError_47 : decode cX10_meanError 47 = .ok (.iload_n 2, 1) := by decide +kernel
theorem dX10_meanError_48 : decode cX10_meanError 48 = .ok (.iload 5, 2) := by decide +kernel
theorem dX10_meanError_50 : decode cX10_meanError 50 = .ok (.invokestatic 175, 3) := by decide +kernel
theorem dX10_meanError_53 : decode cX10_meanError 53 = .ok (.ifCond .eq 15, 3) := by decide +kernel
theorem dX10_meanError_56 : decode cX10_meanError 56 = .ok (.iload 4, 2) := by decide +kernel
theorem dX10_meanError_58 : decode cX10_meanError 58 = .ok (.aload_n 1, 1) := by decide +kernel
theorem dX10_meanError_59 : decode cX10_meanError 59 = .ok (.iload 5, 2) := by decide +kernel
theorem dX10_meanError_61 : decode cX10_meanError 61 = .ok (.iconst 0, 1) := by decide +kernel
theorem dX10_meanError_62 : decode cX10_meanError 62 = .ok (.invokevirtual 142, 3) := by decide +kernel
theorem dX10_meanError_65 : decode cX10_meanError 65 = .ok (.iadd, 1) := by decide +kernel
theorem dX10_meanError_66 : decode cX10_meanError 66 = .ok (.istore 4, 2) := by decide +kernel
theorem dX10_meanError_68 : decode cX10_meanError 68 = .ok (.iinc 5 1, 3) := by decide +kernel
theorem dX10_meanError_71 : decode cX10_meanError 71 = .ok (.goto (-33), 3) := by decide +kernel
theorem dX10_meanError_74 : decode cX10_meanError 74 = .ok (.iload 4, 2) := by decide +kernel
theorem dX10_meanError_76 : decode cX10_meanError 76 = .ok (.i2d, 1) := by decide +kernel
theorem dX10_meanError_77 : decode cX10_meanError 77 = .ok (.iload_n 3, 1) := by decide +kernel
theorem dX10_meanError_78 : decode cX10_meanError 78 = .ok (.i2d, 1) := by decide +kernel
theorem dX10_meanError_79 : decode cX10_meanError 79 = .ok (.ddiv, 1) := by decide +kernel
theorem dX10_meanError_80 : decode cX10_meanError 80 = .ok (.dreturn, 1) := by decide +kernel
theorem dX10_goodCount_0 : decode cX10_goodCount 0 = .ok (.aload_n 0, 1) := by decide +kernel
theorem dX10_goodCount_1 : decode cX10_goodCount 1 = .ok (.getfield 10, 3) := by decide +kernel
theorem dX10_goodCount_4 : decode cX10_goodCount 4 = .ok (.getfield 90, 3) := by decide +kernel
theorem dX10_goodCount_7 : decode cX10_goodCount 7 = .ok (.invokevirtual 161, 3) := by decide +kernel
theorem dX10_goodCount_10 : decode cX10_goodCount 10 = .ok (.invokestatic 165, 3) := by decide +kernel
theorem dX10_goodCount_13 : decode cX10_goodCount 13 = .ok (.ireturn, 1) := by decide +kernel
theorem dX10_leastDifference_0 : decode cX10_leastDifference 0 = .ok (.aload_n 0, 1) := by decide +kernel
theorem dX10_leastDifference_1 : decode cX10_leastDifference 1 = .ok (.getfield 29, 3) := by decide +kernel
theorem dX10_leastDifference_4 : decode cX10_leastDifference 4 = .ok (.aload_n 0, 1) := by decide +kernel
theorem dX10_leastDifference_5 : decode cX10_leastDifference 5 = .ok (.getfield 10, 3) := by decide +kernel
theorem dX10_leastDifference_8 : decode cX10_leastDifference 8 = .ok (.getfield 90, 3) := by decide +kernel
theorem dX10_leastDifference_11 : decode cX10_leastDifference 11 = .ok (.invokevirtual 179, 3) := by decide +kernel
theorem dX10_leastDifference_14 : decode cX10_leastDifference 14 = .ok (.ireturn, 1) := by decide +kernel
theorem dX10_leastDifferenceByOrder_0 : decode cX10_leastDifferenceByOrder 0 = .ok (.aload_n 0, 1) := by decide +kernel
theorem dX10_leastDifferenceByOrder_1 : decode cX10_leastDifferenceByOrder 1 = .ok (.getfield 29, 3) := by decide +kernel
theorem dX10_leastDifferenceByOrder_4 : decode cX10_leastDifferenceByOrder 4 = .ok (.aload_n 0, 1) := by decide +kernel
theorem dX10_leastDifferenceByOrder_5 : decode cX10_leastDifferenceByOrder 5 = .ok (.getfield 10, 3) := by decide +kernel
theorem dX10_leastDifferenceByOrder_8 : decode cX10_leastDifferenceByOrder 8 = .ok (.getfield 90, 3) := by decide +kernel
theorem dX10_leastDifferenceByOrder_11 : decode cX10_leastDifferenceByOrder 11 = .ok (.invokevirtual 183, 3) := by decide +kernel
theorem dX10_leastDifferenceByOrder_14 : decode cX10_leastDifferenceByOrder 14 = .ok (.ireturn, 1) := by decide +kernel
theorem dX10_partnerOf_0 : decode cX10_partnerOf 0 = .ok (.aload_n 0, 1) := by decide +kernel
theorem dX10_partnerOf_1 : decode cX10_partnerOf 1 = .ok (.iload_n 1, 1) := by decide +kernel
theorem dX10_partnerOf_2 : decode cX10_partnerOf 2 = .ok (.invokevirtual 99, 3) := by decide +kernel
theorem dX10_partnerOf_5 : decode cX10_partnerOf 5 = .ok (.aload_n 0, 1) := by decide +kernel
theorem dX10_partnerOf_6 : decode cX10_partnerOf 6 = .ok (.getfield 29, 3) := by decide +kernel
theorem dX10_partnerOf_9 : decode cX10_partnerOf 9 = .ok (.aload_n 0, 1) := by decide +kernel
theorem dX10_partnerOf_10 : decode cX10_partnerOf 10 = .ok (.getfield 10, 3) := by decide +kernel
theorem dX10_partnerOf_13 : decode cX10_partnerOf 13 = .ok (.getfield 90, 3) := by decide +kernel
theorem dX10_partnerOf_16 : decode cX10_partnerOf 16 = .ok (.iload_n 1, 1) := by decide +kernel
theorem dX10_partnerOf_17 : decode cX10_partnerOf 17 = .ok (.invokevirtual 186, 3) := by decide +kernel
theorem dX10_partnerOf_20 : decode cX10_partnerOf 20 = .ok (.istore_n 2, 1) := by decide +kernel
theorem dX10_partnerOf_21 : decode cX10_partnerOf 21 = .ok (.iload_n 2, 1) := by decide +kernel
theorem dX10_partnerOf_22 : decode cX10_partnerOf 22 = .ok (.ifCond .ge 13, 3) := by decide +kernel
theorem dX10_partnerOf_25 : decode cX10_partnerOf 25 = .ok (.new 154, 3) := by decide +kernel
theorem dX10_partnerOf_28 : decode cX10_partnerOf 28 = .ok (.dup, 1) := by decide +kernel
theorem dX10_partnerOf_29 : decode cX10_partnerOf 29 = .ok (.ldc 190, 2) := by decide +kernel
theorem dX10_partnerOf_31 : decode cX10_partnerOf 31 = .ok (.invokespecial 158, 3) := by decide +kernel
theorem dX10_partnerOf_34 : decode cX10_partnerOf 34 = .ok (.athrow, 1) := by decide +kernel
theorem dX10_partnerOf_35 : decode cX10_partnerOf 35 = .ok (.iload_n 2, 1) := by decide +kernel
theorem dX10_partnerOf_36 : decode cX10_partnerOf 36 = .ok (.ireturn, 1) := by decide +kernel
theorem dX10_batchAt_0 : decode cX10_batchAt 0 = .ok (.iload_n 1, 1) := by decide +kernel
theorem dX10_batchAt_1 : decode cX10_batchAt 1 = .ok (.ifCond .lt 17, 3) := by decide +kernel
theorem dX10_batchAt_4 : decode cX10_batchAt 4 = .ok (.iload_n 1, 1) := by decide +kernel
theorem dX10_batchAt_5 : decode cX10_batchAt 5 = .ok (.aload_n 0, 1) := by decide +kernel
theorem dX10_batchAt_6 : decode cX10_batchAt 6 = .ok (.getfield 10, 3) := by decide +kernel
theorem dX10_batchAt_9 : decode cX10_batchAt 9 = .ok (.getfield 204, 3) := by decide +kernel
theorem dX10_batchAt_12 : decode cX10_batchAt 12 = .ok (.getfield 213, 3) := by decide +kernel
theorem dX10_batchAt_15 : decode cX10_batchAt 15 = .ok (.if_icmp .lt 13, 3) := by decide +kernel
theorem dX10_batchAt_18 : decode cX10_batchAt 18 = .ok (.new 214, 3) := by decide +kernel
theorem dX10_batchAt_21 : decode cX10_batchAt 21 = .ok (.dup, 1) := by decide +kernel
theorem dX10_batchAt_22 : decode cX10_batchAt 22 = .ok (.ldc 216, 2) := by decide +kernel
theorem dX10_batchAt_24 : decode cX10_batchAt 24 = .ok (.invokespecial 218, 3) := by decide +kernel
theorem dX10_batchAt_27 : decode cX10_batchAt 27 = .ok (.athrow, 1) := by decide +kernel
theorem dX10_batchAt_28 : decode cX10_batchAt 28 = .ok (.aload_n 0, 1) := by decide +kernel
theorem dX10_batchAt_29 : decode cX10_batchAt 29 = .ok (.getfield 10, 3) := by decide +kernel
theorem dX10_batchAt_32 : decode cX10_batchAt 32 = .ok (.getfield 204, 3) := by decide +kernel
theorem dX10_batchAt_35 : decode cX10_batchAt 35 = .ok (.getfield 219, 3) := by decide +kernel
theorem dX10_batchAt_38 : decode cX10_batchAt 38 = .ok (.iload_n 1, 1) := by decide +kernel
theorem dX10_batchAt_39 : decode cX10_batchAt 39 = .ok (.iaload, 1) := by decide +kernel
theorem dX10_batchAt_40 : decode cX10_batchAt 40 = .ok (.ireturn, 1) := by decide +kernel
theorem dX10_latenessNow_0 : decode cX10_latenessNow 0 = .ok (.aload_n 0, 1) := by decide +kernel
theorem dX10_latenessNow_1 : decode cX10_latenessNow 1 = .ok (.getfield 10, 3) := by decide +kernel
theorem dX10_latenessNow_4 : decode cX10_latenessNow 4 = .ok (.getfield 204, 3) := by decide +kernel
theorem dX10_latenessNow_7 : decode cX10_latenessNow 7 = .ok (.iload_n 1, 1) := by decide +kernel
theorem dX10_latenessNow_8 : decode cX10_latenessNow 8 = .ok (.invokevirtual 222, 3) := by decide +kernel
theorem dX10_latenessNow_11 : decode cX10_latenessNow 11 = .ok (.istore_n 2, 1) := by decide +kernel
theorem dX10_latenessNow_12 : decode cX10_latenessNow 12 = .ok (.iload_n 2, 1) := by decide +kernel
theorem dX10_latenessNow_13 : decode cX10_latenessNow 13 = .ok (.ifCond .ge 13, 3) := by decide +kernel
theorem dX10_latenessNow_16 : decode cX10_latenessNow 16 = .ok (.new 154, 3) := by decide +kernel
theorem dX10_latenessNow_19 : decode cX10_latenessNow 19 = .ok (.dup, 1) := by decide +kernel
theorem dX10_latenessNow_20 : decode cX10_latenessNow 20 = .ok (.ldc 225, 2) := by decide +kernel
theorem dX10_latenessNow_22 : decode cX10_latenessNow 22 = .ok (.invokespecial 158, 3) := by decide +kernel
theorem dX10_latenessNow_25 : decode cX10_latenessNow 25 = .ok (.athrow, 1) := by decide +kernel
theorem dX10_latenessNow_26 : decode cX10_latenessNow 26 = .ok (.aload_n 0, 1) := by decide +kernel
theorem dX10_latenessNow_27 : decode cX10_latenessNow 27 = .ok (.getfield 10, 3) := by decide +kernel
theorem dX10_latenessNow_30 : decode cX10_latenessNow 30 = .ok (.getfield 204, 3) := by decide +kernel
theorem dX10_latenessNow_33 : decode cX10_latenessNow 33 = .ok (.iload_n 2, 1) := by decide +kernel
theorem dX10_latenessNow_34 : decode cX10_latenessNow 34 = .ok (.aload_n 0, 1) := by decide +kernel
theorem dX10_latenessNow_35 : decode cX10_latenessNow 35 = .ok (.getfield 10, 3) := by decide +kernel
theorem dX10_latenessNow_38 : decode cX10_latenessNow 38 = .ok (.getfield 204, 3) := by decide +kernel
theorem dX10_latenessNow_41 : decode cX10_latenessNow 41 = .ok (.getfield 208, 3) := by decide +kernel
theorem dX10_latenessNow_44 : decode cX10_latenessNow 44 = .ok (.invokevirtual 227, 3) := by decide +kernel
theorem dX10_latenessNow_47 : decode cX10_latenessNow 47 = .ok (.ireturn, 1) := by decide +kernel
theorem dX10_leastLateness_0 : decode cX10_leastLateness 0 = .ok (.aload_n 0, 1) := by decide +kernel
theorem dX10_leastLateness_1 : decode cX10_leastLateness 1 = .ok (.getfield 36, 3) := by decide +kernel
theorem dX10_leastLateness_4 : decode cX10_leastLateness 4 = .ok (.aload_n 0, 1) := by decide +kernel
theorem dX10_leastLateness_5 : decode cX10_leastLateness 5 = .ok (.getfield 10, 3) := by decide +kernel
theorem dX10_leastLateness_8 : decode cX10_leastLateness 8 = .ok (.getfield 204, 3) := by decide +kernel
theorem dX10_leastLateness_11 : decode cX10_leastLateness 11 = .ok (.invokevirtual 230, 3) := by decide +kernel
theorem dX10_leastLateness_14 : decode cX10_leastLateness 14 = .ok (.ireturn, 1) := by decide +kernel
theorem dX10_leastLatenessByOrders_0 : decode cX10_leastLatenessByOrders 0 = .ok (.aload_n 0, 1) := by decide +kernel
theorem dX10_leastLatenessByOrders_1 : decode cX10_leastLatenessByOrders 1 = .ok (.getfield 36, 3) := by decide +kernel
theorem dX10_leastLatenessByOrders_4 : decode cX10_leastLatenessByOrders 4 = .ok (.aload_n 0, 1) := by decide +kernel
theorem dX10_leastLatenessByOrders_5 : decode cX10_leastLatenessByOrders 5 = .ok (.getfield 10, 3) := by decide +kernel
theorem dX10_leastLatenessByOrders_8 : decode cX10_leastLatenessByOrders 8 = .ok (.getfield 204, 3) := by decide +kernel
theorem dX10_leastLatenessByOrders_11 : decode cX10_leastLatenessByOrders 11 = .ok (.invokevirtual 233, 3) := by decide +kernel
theorem dX10_leastLatenessByOrders_14 : decode cX10_leastLatenessByOrders 14 = .ok (.ireturn, 1) := by decide +kernel
theorem dX10_bestFirst_0 : decode cX10_bestFirst 0 = .ok (.aload_n 0, 1) := by decide +kernel
theorem dX10_bestFirst_1 : decode cX10_bestFirst 1 = .ok (.getfield 36, 3) := by decide +kernel
theorem dX10_bestFirst_4 : decode cX10_bestFirst 4 = .ok (.aload_n 0, 1) := by decide +kernel
theorem dX10_bestFirst_5 : decode cX10_bestFirst 5 = .ok (.getfield 10, 3) := by decide +kernel
theorem dX10_bestFirst_8 : decode cX10_bestFirst 8 = .ok (.getfield 204, 3) := by decide +kernel
theorem dX10_bestFirst_11 : decode cX10_bestFirst 11 = .ok (.invokevirtual 236, 3) := by decide +kernel
theorem dX10_bestFirst_14 : decode cX10_bestFirst 14 = .ok (.istore_n 1, 1) := by decide +kernel
theorem dX10_bestFirst_15 : decode cX10_bestFirst 15 = .ok (.iload_n 1, 1) := by decide +kernel
theorem dX10_bestFirst_16 : decode cX10_bestFirst 16 = .ok (.ifCond .ge 13, 3) := by decide +kernel
theorem dX10_bestFirst_19 : decode cX10_bestFirst 19 = .ok (.new 154, 3) := by decide +kernel
theorem dX10_bestFirst_22 : decode cX10_bestFirst 22 = .ok (.dup, 1) := by decide +kernel
theorem dX10_bestFirst_23 : decode cX10_bestFirst 23 = .ok (.ldc 239, 2) := by decide +kernel
theorem dX10_bestFirst_25 : decode cX10_bestFirst 25 = .ok (.invokespecial 158, 3) := by decide +kernel
theorem dX10_bestFirst_28 : decode cX10_bestFirst 28 = .ok (.athrow, 1) := by decide +kernel
theorem dX10_bestFirst_29 : decode cX10_bestFirst 29 = .ok (.aload_n 0, 1) := by decide +kernel
theorem dX10_bestFirst_30 : decode cX10_bestFirst 30 = .ok (.getfield 10, 3) := by decide +kernel
theorem dX10_bestFirst_33 : decode cX10_bestFirst 33 = .ok (.getfield 204, 3) := by decide +kernel
theorem dX10_bestFirst_36 : decode cX10_bestFirst 36 = .ok (.getfield 219, 3) := by decide +kernel
theorem dX10_bestFirst_39 : decode cX10_bestFirst 39 = .ok (.iload_n 1, 1) := by decide +kernel
theorem dX10_bestFirst_40 : decode cX10_bestFirst 40 = .ok (.iaload, 1) := by decide +kernel
theorem dX10_bestFirst_41 : decode cX10_bestFirst 41 = .ok (.ireturn, 1) := by decide +kernel
theorem dX10_latenessByIds_0 : decode cX10_latenessByIds 0 = .ok (.aload_n 0, 1) := by decide +kernel
theorem dX10_latenessByIds_1 : decode cX10_latenessByIds 1 = .ok (.getfield 36, 3) := by decide +kernel
theorem dX10_latenessByIds_4 : decode cX10_latenessByIds 4 = .ok (.aload_n 0, 1) := by decide +kernel
theorem dX10_latenessByIds_5 : decode cX10_latenessByIds 5 = .ok (.getfield 10, 3) := by decide +kernel
theorem dX10_latenessByIds_8 : decode cX10_latenessByIds 8 = .ok (.getfield 204, 3) := by decide +kernel
theorem dX10_latenessByIds_11 : decode cX10_latenessByIds 11 = .ok (.invokevirtual 241, 3) := by decide +kernel
theorem dX10_latenessByIds_14 : decode cX10_latenessByIds 14 = .ok (.ireturn, 1) := by decide +kernel
theorem dX10_latenessTotal_0 : decode cX10_latenessTotal 0 = .ok (.aload_n 0, 1) := by decide +kernel
theorem dX10_latenessTotal_1 : decode cX10_latenessTotal 1 = .ok (.getfield 10, 3) := by decide +kernel
theorem dX10_latenessTotal_4 : decode cX10_latenessTotal 4 = .ok (.getfield 204, 3) := by decide +kernel
theorem dX10_latenessTotal_7 : decode cX10_latenessTotal 7 = .ok (.getfield 247, 3) := by decide +kernel
theorem dX10_latenessTotal_10 : decode cX10_latenessTotal 10 = .ok (.lreturn, 1) := by decide +kernel
theorem dX10_bakingShare_0 : decode cX10_bakingShare 0 = .ok (.aload_n 0, 1) := by decide +kernel
theorem dX10_bakingShare_1 : decode cX10_bakingShare 1 = .ok (.getfield 10, 3) := by decide +kernel
theorem dX10_bakingShare_4 : decode cX10_bakingShare 4 = .ok (.getfield 204, 3) := by decide +kernel
theorem dX10_bakingShare_7 : decode cX10_bakingShare 7 = .ok (.getfield 208, 3) := by decide +kernel
theorem dX10_bakingShare_10 : decode cX10_bakingShare 10 = .ok (.ifCond .ne 13, 3) := by decide +kernel
theorem dX10_bakingShare_13 : decode cX10_bakingShare 13 = .ok (.new 170, 3) := by decide +kernel
theorem dX10_bakingShare_16 : decode cX10_bakingShare 16 = .ok (.dup, 1) := by decide +kernel
theorem dX10_bakingShare_17 : decode cX10_bakingShare 17 = .ok (.ldc 251, 2) := by decide +kernel
theorem dX10_bakingShare_19 : decode cX10_bakingShare 19 = .ok (.invokespecial 174, 3) := by decide +kernel
theorem dX10_bakingShare_22 : decode cX10_bakingShare 22 = .ok (.athrow, 1) := by decide +kernel
theorem dX10_bakingShare_23 : decode cX10_bakingShare 23 = .ok (.aload_n 0, 1) := by decide +kernel
theorem dX10_bakingShare_24 : decode cX10_bakingShare 24 = .ok (.getfield 10, 3) := by decide +kernel
theorem dX10_bakingShare_27 : decode cX10_bakingShare 27 = .ok (.getfield 204, 3) := by decide +kernel
theorem dX10_bakingShare_30 : decode cX10_bakingShare 30 = .ok (.getfield 253, 3) := by decide +kernel
theorem dX10_bakingShare_33 : decode cX10_bakingShare 33 = .ok (.i2f, 1) := by decide +kernel
theorem dX10_bakingShare_34 : decode cX10_bakingShare 34 = .ok (.aload_n 0, 1) := by decide +kernel
theorem dX10_bakingShare_35 : decode cX10_bakingShare 35 = .ok (.getfield 10, 3) := by decide +kernel
theorem dX10_bakingShare_38 : decode cX10_bakingShare 38 = .ok (.getfield 204, 3) := by decide +kernel
theorem dX10_bakingShare_41 : decode cX10_bakingShare 41 = .ok (.getfield 208, 3) := by decide +kernel
theorem dX10_bakingShare_44 : decode cX10_bakingShare 44 = .ok (.i2f, 1) := by decide +kernel
theorem dX10_bakingShare_45 : decode cX10_bakingShare 45 = .ok (.fdiv, 1) := by decide +kernel
theorem dX10_bakingShare_46 : decode cX10_bakingShare 46 = .ok (.freturn, 1) := by decide +kernel
theorem dX10_writeLabel_0 : decode cX10_writeLabel 0 = .ok (.aload_n 0, 1) := by decide +kernel
theorem dX10_writeLabel_1 : decode cX10_writeLabel 1 = .ok (.iload_n 1, 1) := by decide +kernel
theorem dX10_writeLabel_2 : decode cX10_writeLabel 2 = .ok (.invokevirtual 99, 3) := by decide +kernel
theorem dX10_writeLabel_5 : decode cX10_writeLabel 5 = .ok (.aload_n 0, 1) := by decide +kernel
theorem dX10_writeLabel_6 : decode cX10_writeLabel 6 = .ok (.getfield 10, 3) := by decide +kernel
theorem dX10_writeLabel_9 : decode cX10_writeLabel 9 = .ok (.getfield 90, 3) := by decide +kernel
theorem dX10_writeLabel_12 : decode cX10_writeLabel 12 = .ok (.astore_n 2, 1) := by decide +kernel
theorem dX10_writeLabel_13 : decode cX10_writeLabel 13 = .ok (.aload_n 0, 1) := by decide +kernel
theorem dX10_writeLabel_14 : decode cX10_writeLabel 14 = .ok (.getfield 47, 3) := by decide +kernel
theorem dX10_writeLabel_17 : decode cX10_writeLabel 17 = .ok (.iconst 0, 1) := by decide +kernel
theorem dX10_writeLabel_18 : decode cX10_writeLabel 18 = .ok (.invokevirtual 256, 3) := by decide +kernel
theorem dX10_writeLabel_21 : decode cX10_writeLabel 21 = .ok (.aload_n 0, 1) := by decide +kernel
theorem dX10_writeLabel_22 : decode cX10_writeLabel 22 = .ok (.getfield 47, 3) := by decide +kernel
theorem dX10_writeLabel_25 : decode cX10_writeLabel 25 = .ok (.iload_n 1, 1) := by decide +kernel
theorem dX10_writeLabel_26 : decode cX10_writeLabel 26 = .ok (.invokevirtual 259, 3) := by decide +kernel
theorem dX10_writeLabel_29 : decode cX10_writeLabel 29 = .ok (.bipush 58, 2) := by decide +kernel
theorem dX10_writeLabel_31 : decode cX10_writeLabel 31 = .ok (.invokevirtual 263, 3) := by decide +kernel
theorem dX10_writeLabel_34 : decode cX10_writeLabel 34 = .ok (.aload_n 2, 1) := by decide +kernel
theorem dX10_writeLabel_35 : decode cX10_writeLabel 35 = .ok (.getfield 103, 3) := by decide +kernel
theorem dX10_writeLabel_38 : decode cX10_writeLabel 38 = .ok (.iload_n 1, 1) := by decide +kernel
theorem dX10_writeLabel_39 : decode cX10_writeLabel 39 = .ok (.iaload, 1) := by decide +kernel
theorem dX10_writeLabel_40 : decode cX10_writeLabel 40 = .ok (.invokevirtual 259, 3) := by decide +kernel
theorem dX10_writeLabel_43 : decode cX10_writeLabel 43 = .ok (.pop, 1) := by decide +kernel
theorem dX10_writeLabel_44 : decode cX10_writeLabel 44 = .ok (.iconst 0, 1) := by decide +kernel
theorem dX10_writeLabel_45 : decode cX10_writeLabel 45 = .ok (.istore_n 3, 1) := by decide +kernel
theorem dX10_writeLabel_46 : decode cX10_writeLabel 46 = .ok (.iload_n 3, 1) := by decide +kernel
theorem dX10_writeLabel_47 : decode cX10_writeLabel 47 = .ok (.bipush 8, 2) := by decide +kernel
theorem dX10_writeLabel_49 : decode cX10_writeLabel 49 = .ok (.if_icmp .ge 28, 3) := by decide +kernel
theorem dX10_writeLabel_52 : decode cX10_writeLabel 52 = .ok (.aload_n 0, 1) := by decide +kernel
theorem dX10_writeLabel_53 : decode cX10_writeLabel 53 = .ok (.getfield 47, 3) := by decide +kernel
theorem dX10_writeLabel_56 : decode cX10_writeLabel 56 = .ok (.bipush 32, 2) := by decide +kernel
theorem dX10_writeLabel_58 : decode cX10_writeLabel 58 = .ok (.invokevirtual 263, 3) := by decide +kernel
theorem dX10_writeLabel_61 : decode cX10_writeLabel 61 = .ok (.aload_n 2, 1) := by decide +kernel
theorem dX10_writeLabel_62 : decode cX10_writeLabel 62 = .ok (.iload_n 1, 1) := by decide +kernel
theorem dX10_writeLabel_63 : decode cX10_writeLabel 63 = .ok (.iload_n 3, 1) := by decide +kernel
theorem dX10_writeLabel_64 : decode cX10_writeLabel 64 = .ok (.invokevirtual 266, 3) := by decide +kernel
theorem dX10_writeLabel_67 : decode cX10_writeLabel 67 = .ok (.invokevirtual 259, 3) := by decide +kernel
theorem dX10_writeLabel_70 : decode cX10_writeLabel 70 = .ok (.pop, 1) := by decide +kernel
theorem dX10_writeLabel_71 : decode cX10_writeLabel 71 = .ok (.iinc 3 1, 3) := by decide +kernel
theorem dX10_writeLabel_74 : decode cX10_writeLabel 74 = .ok (.goto (-28), 3) := by decide +kernel
theorem dX10_writeLabel_77 : decode cX10_writeLabel 77 = .ok (.aload_n 2, 1) := by decide +kernel
theorem dX10_writeLabel_78 : decode cX10_writeLabel 78 = .ok (.iload_n 1, 1) := by decide +kernel
theorem dX10_writeLabel_79 : decode cX10_writeLabel 79 = .ok (.invokevirtual 106, 3) := by decide +kernel
theorem dX10_writeLabel_82 : decode cX10_writeLabel 82 = .ok (.ifCond .eq 17, 3) := by decide +kernel
theorem dX10_writeLabel_85 : decode cX10_writeLabel 85 = .ok (.aload_n 0, 1) := by decide +kernel
theorem dX10_writeLabel_86 : decode cX10_writeLabel 86 = .ok (.getfield 47, 3) := by decide +kernel
theorem dX10_writeLabel_89 : decode cX10_writeLabel 89 = .ok (.ldc_w 269, 3) := by decide +kernel
theorem dX10_writeLabel_92 : decode cX10_writeLabel 92 = .ok (.invokevirtual 271, 3) := by decide +kernel
theorem dX10_writeLabel_95 : decode cX10_writeLabel 95 = .ok (.pop, 1) := by decide +kernel
theorem dX10_writeLabel_96 : decode cX10_writeLabel 96 = .ok (.goto 22, 3) := by decide +kernel
theorem dX10_writeLabel_99 : decode cX10_writeLabel 99 = .ok (.aload_n 2, 1) := by decide +kernel
theorem dX10_writeLabel_100 : decode cX10_writeLabel 100 = .ok (.iload_n 1, 1) := by decide +kernel
theorem dX10_writeLabel_101 : decode cX10_writeLabel 101 = .ok (.invokevirtual 110, 3) := by decide +kernel
theorem dX10_writeLabel_104 : decode cX10_writeLabel 104 = .ok (.ifCond .eq 14, 3) := by decide +kernel
theorem dX10_writeLabel_107 : decode cX10_writeLabel 107 = .ok (.aload_n 0, 1) := by decide +kernel
theorem dX10_writeLabel_108 : decode cX10_writeLabel 108 = .ok (.getfield 47, 3) := by decide +kernel
theorem dX10_writeLabel_111 : decode cX10_writeLabel 111 = .ok (.ldc_w 274, 3) := by decide +kernel
theorem dX10_writeLabel_114 : decode cX10_writeLabel 114 = .ok (.invokevirtual 271, 3) := by decide +kernel
theorem dX10_writeLabel_117 : decode cX10_writeLabel 117 = .ok (.pop, 1) := by decide +kernel
theorem dX10_writeLabel_118 : decode cX10_writeLabel 118 = .ok (.aload_n 0, 1) := by decide +kernel
theorem dX10_writeLabel_119 : decode cX10_writeLabel 119 = .ok (.getfield 47, 3) := by decide +kernel
theorem dX10_writeLabel_122 : decode cX10_writeLabel 122 = .ok (.invokevirtual 276, 3) := by decide +kernel
theorem dX10_writeLabel_125 : decode cX10_writeLabel 125 = .ok (.ireturn, 1) := by decide +kernel
theorem dX10_labelAt_0 : decode cX10_labelAt 0 = .ok (.iload_n 1, 1) := by decide +kernel
theorem dX10_labelAt_1 : decode cX10_labelAt 1 = .ok (.ifCond .lt 14, 3) := by decide +kernel
theorem dX10_labelAt_4 : decode cX10_labelAt 4 = .ok (.iload_n 1, 1) := by decide +kernel
theorem dX10_labelAt_5 : decode cX10_labelAt 5 = .ok (.aload_n 0, 1) := by decide +kernel
theorem dX10_labelAt_6 : decode cX10_labelAt 6 = .ok (.getfield 47, 3) := by decide +kernel
theorem dX10_labelAt_9 : decode cX10_labelAt 9 = .ok (.invokevirtual 276, 3) := by decide +kernel
theorem dX10_labelAt_12 : decode cX10_labelAt 12 = .ok (.if_icmp .lt 14, 3) := by decide +kernel
theorem dX10_labelAt_15 : decode cX10_labelAt 15 = .ok (.new 214, 3) := by decide +kernel
theorem dX10_labelAt_18 : decode cX10_labelAt 18 = .ok (.dup, 1) := by decide +kernel
theorem dX10_labelAt_19 : decode cX10_labelAt 19 = .ok (.ldc_w 279, 3) := by decide +kernel
theorem dX10_labelAt_22 : decode cX10_labelAt 22 = .ok (.invokespecial 218, 3) := by decide +kernel
theorem dX10_labelAt_25 : decode cX10_labelAt 25 = .ok (.athrow, 1) := by decide +kernel
theorem dX10_labelAt_26 : decode cX10_labelAt 26 = .ok (.aload_n 0, 1) := by decide +kernel
theorem dX10_labelAt_27 : decode cX10_labelAt 27 = .ok (.getfield 47, 3) := by decide +kernel
theorem dX10_labelAt_30 : decode cX10_labelAt 30 = .ok (.iload_n 1, 1) := by decide +kernel
theorem dX10_labelAt_31 : decode cX10_labelAt 31 = .ok (.invokevirtual 281, 3) := by decide +kernel
theorem dX10_labelAt_34 : decode cX10_labelAt 34 = .ok (.ireturn, 1) := by decide +kernel
theorem dX10_type_0 : decode cX10_type 0 = .ok (.iload_n 1, 1) := by decide +kernel
theorem dX10_type_1 : decode cX10_type 1 = .ok (.bipush 32, 2) := by decide +kernel
theorem dX10_type_3 : decode cX10_type 3 = .ok (.bipush 126, 2) := by decide +kernel
theorem dX10_type_5 : decode cX10_type 5 = .ok (.invokestatic 285, 3) := by decide +kernel
theorem dX10_type_8 : decode cX10_type 8 = .ok (.ifCond .eq 14, 3) := by decide +kernel
theorem dX10_type_11 : decode cX10_type 11 = .ok (.new 289, 3) := by decide +kernel
theorem dX10_type_14 : decode cX10_type 14 = .ok (.dup, 1) := by decide +kernel
theorem dX10_type_15 : decode cX10_type 15 = .ok (.ldc_w 291, 3) := by decide +kernel
theorem dX10_type_18 : decode cX10_type 18 = .ok (.invokespecial 293, 3) := by decide +kernel
theorem dX10_type_21 : decode cX10_type 21 = .ok (.athrow, 1) := by decide +kernel
theorem dX10_type_22 : decode cX10_type 22 = .ok (.aload_n 0, 1) := by decide +kernel
theorem dX10_type_23 : decode cX10_type 23 = .ok (.getfield 54, 3) := by decide +kernel
theorem dX10_type_26 : decode cX10_type 26 = .ok (.getfield 294, 3) := by decide +kernel
theorem dX10_type_29 : decode cX10_type 29 = .ok (.bipush 60, 2) := by decide +kernel
theorem dX10_type_31 : decode cX10_type 31 = .ok (.if_icmp .lt 14, 3) := by decide +kernel
theorem dX10_type_34 : decode cX10_type 34 = .ok (.new 296, 3) := by decide +kernel
theorem dX10_type_37 : decode cX10_type 37 = .ok (.dup, 1) := by decide +kernel
theorem dX10_type_38 : decode cX10_type 38 = .ok (.ldc_w 298, 3) := by decide +kernel
theorem dX10_type_41 : decode cX10_type 41 = .ok (.invokespecial 300, 3) := by decide +kernel
theorem dX10_type_44 : decode cX10_type 44 = .ok (.athrow, 1) := by decide +kernel
theorem dX10_type_45 : decode cX10_type 45 = .ok (.aload_n 0, 1) := by decide +kernel
theorem dX10_type_46 : decode cX10_type 46 = .ok (.getfield 54, 3) := by decide +kernel
theorem dX10_type_49 : decode cX10_type 49 = .ok (.iload_n 1, 1) := by decide +kernel
theorem dX10_type_50 : decode cX10_type 50 = .ok (.invokevirtual 301, 3) := by decide +kernel
theorem dX10_type_53 : decode cX10_type 53 = .ok (.aload_n 0, 1) := by decide +kernel
theorem dX10_type_54 : decode cX10_type 54 = .ok (.getfield 54, 3) := by decide +kernel
theorem dX10_type_57 : decode cX10_type 57 = .ok (.getfield 294, 3) := by decide +kernel
theorem dX10_type_60 : decode cX10_type 60 = .ok (.ireturn, 1) := by decide +kernel
theorem dX10_execute_0 : decode cX10_execute 0 = .ok (.aload_n 0, 1) := by decide +kernel
theorem dX10_execute_1 : decode cX10_execute 1 = .ok (.getfield 54, 3) := by decide +kernel
theorem dX10_execute_4 : decode cX10_execute 4 = .ok (.invokevirtual 304, 3) := by decide +kernel
theorem dX10_execute_7 : decode cX10_execute 7 = .ok (.istore_n 1, 1) := by decide +kernel
theorem dX10_execute_8 : decode cX10_execute 8 = .ok (.iload_n 1, 1) := by decide +kernel
theorem dX10_execute_9 : decode cX10_execute 9 = .ok (.ifCond .ge 32, 3) := by decide +kernel
theorem dX10_execute_12 : decode cX10_execute 12 = .ok (.aload_n 0, 1) := by decide +kernel
theorem dX10_execute_13 : decode cX10_execute 13 = .ok (.aload_n 0, 1) := by decide +kernel
theorem dX10_execute_14 : decode cX10_execute 14 = .ok (.getfield 54, 3) := by decide +kernel
theorem dX10_execute_17 : decode cX10_execute 17 = .ok (.getfield 307, 3) := by decide +kernel
theorem dX10_execute_20 : decode cX10_execute 20 = .ok (.putfield 58, 3) := by decide +kernel
theorem dX10_execute_23 : decode cX10_execute 23 = .ok (.aload_n 0, 1) := by decide +kernel
theorem dX10_execute_24 : decode cX10_execute 24 = .ok (.getfield 54, 3) := by decide +kernel
theorem dX10_execute_27 : decode cX10_execute 27 = .ok (.invokevirtual 310, 3) := by decide +kernel
theorem dX10_execute_30 : decode cX10_execute 30 = .ok (.new 289, 3) := by decide +kernel
theorem dX10_execute_33 : decode cX10_execute 33 = .ok (.dup, 1) := by decide +kernel
theorem dX10_execute_34 : decode cX10_execute 34 = .ok (.ldc_w 313, 3) := by decide +kernel
theorem dX10_execute_37 : decode cX10_execute 37 = .ok (.invokespecial 293, 3) := by decide +kernel
theorem dX10_execute_40 : decode cX10_execute 40 = .ok (.athrow, 1) := by decide +kernel
theorem dX10_execute_41 : decode cX10_execute 41 = .ok (.aload_n 0, 1) := by decide +kernel
theorem dX10_execute_42 : decode cX10_execute 42 = .ok (.getfield 22, 3) := by decide +kernel
theorem dX10_execute_45 : decode cX10_execute 45 = .ok (.aload_n 0, 1) := by decide +kernel
theorem dX10_execute_46 : decode cX10_execute 46 = .ok (.getfield 10, 3) := by decide +kernel
theorem dX10_execute_49 : decode cX10_execute 49 = .ok (.invokevirtual 315, 3) := by decide +kernel
theorem dX10_execute_52 : decode cX10_execute 52 = .ok (.aload_n 0, 1) := by decide +kernel
theorem dX10_execute_53 : decode cX10_execute 53 = .ok (.iload_n 1, 1) := by decide +kernel
theorem dX10_execute_54 : decode cX10_execute 54 = .ok (.invokevirtual 319, 3) := by decide +kernel
theorem dX10_execute_57 : decode cX10_execute 57 = .ok (.istore_n 2, 1) := by decide +kernel
theorem dX10_execute_58 : decode cX10_execute 58 = .ok (.aload_n 0, 1) := by decide +kernel
theorem dX10_execute_59 : decode cX10_execute 59 = .ok (.getfield 54, 3) := by decide +kernel
theorem dX10_execute_62 : decode cX10_execute 62 = .ok (.invokevirtual 310, 3) := by decide +kernel
theorem dX10_execute_65 : decode cX10_execute 65 = .ok (.iload_n 2, 1) := by decide +kernel
theorem dX10_execute_66 : decode cX10_execute 66 = .ok (.iload_n 1, 1) := by decide +kernel
theorem dX10_execute_67 : decode cX10_execute 67 = .ok (.if_icmp .ge 30, 3) := by decide +kernel
theorem dX10_execute_70 : decode cX10_execute 70 = .ok (.aload_n 0, 1) := by decide +kernel
theorem dX10_execute_71 : decode cX10_execute 71 = .ok (.getfield 22, 3) := by decide +kernel
theorem dX10_execute_74 : decode cX10_execute 74 = .ok (.aload_n 0, 1) := by decide +kernel
theorem dX10_execute_75 : decode cX10_execute 75 = .ok (.getfield 10, 3) := by decide +kernel
theorem dX10_execute_78 : decode cX10_execute 78 = .ok (.invokevirtual 322, 3) := by decide +kernel
theorem dX10_execute_81 : decode cX10_execute 81 = .ok (.aload_n 0, 1) := by decide +kernel
theorem dX10_execute_82 : decode cX10_execute 82 = .ok (.iload_n 2, 1) := by decide +kernel
theorem dX10_execute_83 : decode cX10_execute 83 = .ok (.putfield 62, 3) := by decide +kernel
theorem dX10_execute_86 : decode cX10_execute 86 = .ok (.new 296, 3) := by decide +kernel
theorem dX10_execute_89 : decode cX10_execute 89 = .ok (.dup, 1) := by decide +kernel
theorem dX10_execute_90 : decode cX10_execute 90 = .ok (.ldc_w 325, 3) := by decide +kernel
theorem dX10_execute_93 : decode cX10_execute 93 = .ok (.invokespecial 300, 3) := by decide +kernel
theorem dX10_execute_96 : decode cX10_execute 96 = .ok (.athrow, 1) := by decide +kernel
theorem dX10_execute_97 : decode cX10_execute 97 = .ok (.aload_n 0, 1) := by decide +kernel
theorem dX10_execute_98 : decode cX10_execute 98 = .ok (.getfield 22, 3) := by decide +kernel
theorem dX10_execute_101 : decode cX10_execute 101 = .ok (.invokevirtual 327, 3) := by decide +kernel
theorem dX10_execute_104 : decode cX10_execute 104 = .ok (.iload_n 1, 1) := by decide +kernel
theorem dX10_execute_105 : decode cX10_execute 105 = .ok (.ireturn, 1) := by decide +kernel
theorem dX10_errorPosition_0 : decode cX10_errorPosition 0 = .ok (.aload_n 0, 1) := by decide +kernel
theorem dX10_errorPosition_1 : decode cX10_errorPosition 1 = .ok (.getfield 58, 3) := by decide +kernel
theorem dX10_errorPosition_4 : decode cX10_errorPosition 4 = .ok (.iconst (-1), 1) := by decide +kernel
theorem dX10_errorPosition_5 : decode cX10_errorPosition 5 = .ok (.if_icmp .ne 14, 3) := by decide +kernel
theorem dX10_errorPosition_8 : decode cX10_errorPosition 8 = .ok (.new 154, 3) := by decide +kernel
theorem dX10_errorPosition_11 : decode cX10_errorPosition 11 = .ok (.dup, 1) := by decide +kernel
theorem dX10_errorPosition_12 : decode cX10_errorPosition 12 = .ok (.ldc_w 330, 3) := by decide +kernel
theorem dX10_errorPosition_15 : decode cX10_errorPosition 15 = .ok (.invokespecial 158, 3) := by decide +kernel
theorem dX10_errorPosition_18 : decode cX10_errorPosition 18 = .ok (.athrow, 1) := by decide +kernel
theorem dX10_errorPosition_19 : decode cX10_errorPosition 19 = .ok (.aload_n 0, 1) := by decide +kernel
theorem dX10_errorPosition_20 : decode cX10_errorPosition 20 = .ok (.getfield 58, 3) := by decide +kernel
theorem dX10_errorPosition_23 : decode cX10_errorPosition 23 = .ok (.ireturn, 1) := by decide +kernel
theorem dX10_failedCommand_0 : decode cX10_failedCommand 0 = .ok (.aload_n 0, 1) := by decide +kernel
theorem dX10_failedCommand_1 : decode cX10_failedCommand 1 = .ok (.getfield 62, 3) := by decide +kernel
theorem dX10_failedCommand_4 : decode cX10_failedCommand 4 = .ok (.iconst (-1), 1) := by decide +kernel
theorem dX10_failedCommand_5 : decode cX10_failedCommand 5 = .ok (.if_icmp .ne 14, 3) := by decide +kernel
theorem dX10_failedCommand_8 : decode cX10_failedCommand 8 = .ok (.new 154, 3) := by decide +kernel
theorem dX10_failedCommand_11 : decode cX10_failedCommand 11 = .ok (.dup, 1) := by decide +kernel
theorem dX10_failedCommand_12 : decode cX10_failedCommand 12 = .ok (.ldc_w 332, 3) := by decide +kernel
theorem dX10_failedCommand_15 : decode cX10_failedCommand 15 = .ok (.invokespecial 158, 3) := by decide +kernel
theorem dX10_failedCommand_18 : decode cX10_failedCommand 18 = .ok (.athrow, 1) := by decide +kernel
theorem dX10_failedCommand_19 : decode cX10_failedCommand 19 = .ok (.aload_n 0, 1) := by decide +kernel
theorem dX10_failedCommand_20 : decode cX10_failedCommand 20 = .ok (.getfield 62, 3) := by decide +kernel
theorem dX10_failedCommand_23 : decode cX10_failedCommand 23 = .ok (.ireturn, 1) := by decide +kernel
theorem dX10_undo_0 : decode cX10_undo 0 = .ok (.aload_n 0, 1) := by decide +kernel
theorem dX10_undo_1 : decode cX10_undo 1 = .ok (.getfield 22, 3) := by decide +kernel
theorem dX10_undo_4 : decode cX10_undo 4 = .ok (.getfield 334, 3) := by decide +kernel
theorem dX10_undo_7 : decode cX10_undo 7 = .ok (.ifCond .ne 14, 3) := by decide +kernel
theorem dX10_undo_10 : decode cX10_undo 10 = .ok (.new 296, 3) := by decide +kernel
theorem dX10_undo_13 : decode cX10_undo 13 = .ok (.dup, 1) := by decide +kernel
theorem dX10_undo_14 : decode cX10_undo 14 = .ok (.ldc_w 335, 3) := by decide +kernel
theorem dX10_undo_17 : decode cX10_undo 17 = .ok (.invokespecial 300, 3) := by decide +kernel
theorem dX10_undo_20 : decode cX10_undo 20 = .ok (.athrow, 1) := by decide +kernel
theorem dX10_undo_21 : decode cX10_undo 21 = .ok (.aload_n 0, 1) := by decide +kernel
theorem dX10_undo_22 : decode cX10_undo 22 = .ok (.getfield 22, 3) := by decide +kernel
theorem dX10_undo_25 : decode cX10_undo 25 = .ok (.aload_n 0, 1) := by decide +kernel
theorem dX10_undo_26 : decode cX10_undo 26 = .ok (.getfield 10, 3) := by decide +kernel
theorem dX10_undo_29 : decode cX10_undo 29 = .ok (.invokevirtual 337, 3) := by decide +kernel
theorem dX10_undo_32 : decode cX10_undo 32 = .ok (.aload_n 0, 1) := by decide +kernel
theorem dX10_undo_33 : decode cX10_undo 33 = .ok (.getfield 22, 3) := by decide +kernel
theorem dX10_undo_36 : decode cX10_undo 36 = .ok (.getfield 334, 3) := by decide +kernel
theorem dX10_undo_39 : decode cX10_undo 39 = .ok (.ireturn, 1) := by decide +kernel
theorem dX10_save_0 : decode cX10_save 0 = .ok (.aload_n 0, 1) := by decide +kernel
theorem dX10_save_1 : decode cX10_save 1 = .ok (.getfield 16, 3) := by decide +kernel
theorem dX10_save_4 : decode cX10_save 4 = .ok (.aload_n 0, 1) := by decide +kernel
theorem dX10_save_5 : decode cX10_save 5 = .ok (.getfield 10, 3) := by decide +kernel
theorem dX10_save_8 : decode cX10_save 8 = .ok (.invokevirtual 340, 3) := by decide +kernel
theorem dX10_save_11 : decode cX10_save 11 = .ok (.aload_n 0, 1) := by decide +kernel
theorem dX10_save_12 : decode cX10_save 12 = .ok (.iconst 1, 1) := by decide +kernel
theorem dX10_save_13 : decode cX10_save 13 = .ok (.putfield 343, 3) := by decide +kernel
theorem dX10_save_16 : decode cX10_save 16 = .ok (.aload_n 0, 1) := by decide +kernel
theorem dX10_save_17 : decode cX10_save 17 = .ok (.getfield 10, 3) := by decide +kernel
theorem dX10_save_20 : decode cX10_save 20 = .ok (.getfield 204, 3) := by decide +kernel
theorem dX10_save_23 : decode cX10_save 23 = .ok (.getfield 208, 3) := by decide +kernel
theorem dX10_save_26 : decode cX10_save 26 = .ok (.ireturn, 1) := by decide +kernel
theorem dX10_restore_0 : decode cX10_restore 0 = .ok (.aload_n 0, 1) := by decide +kernel
theorem dX10_restore_1 : decode cX10_restore 1 = .ok (.getfield 343, 3) := by decide +kernel
theorem dX10_restore_4 : decode cX10_restore 4 = .ok (.ifCond .ne 14, 3) := by decide +kernel
theorem dX10_restore_7 : decode cX10_restore 7 = .ok (.new 296, 3) := by decide +kernel
theorem dX10_restore_10 : decode cX10_restore 10 = .ok (.dup, 1) := by decide +kernel
theorem dX10_restore_11 : decode cX10_restore 11 = .ok (.ldc_w 347, 3) := by decide +kernel
theorem dX10_restore_14 : decode cX10_restore 14 = .ok (.invokespecial 300, 3) := by decide +kernel
theorem dX10_restore_17 : decode cX10_restore 17 = .ok (.athrow, 1) := by decide +kernel
theorem dX10_restore_18 : decode cX10_restore 18 = .ok (.aload_n 0, 1) := by decide +kernel
theorem dX10_restore_19 : decode cX10_restore 19 = .ok (.getfield 10, 3) := by decide +kernel
theorem dX10_restore_22 : decode cX10_restore 22 = .ok (.aload_n 0, 1) := by decide +kernel
theorem dX10_restore_23 : decode cX10_restore 23 = .ok (.getfield 16, 3) := by decide +kernel
theorem dX10_restore_26 : decode cX10_restore 26 = .ok (.invokevirtual 340, 3) := by decide +kernel
theorem dX10_restore_29 : decode cX10_restore 29 = .ok (.aload_n 0, 1) := by decide +kernel
theorem dX10_restore_30 : decode cX10_restore 30 = .ok (.getfield 22, 3) := by decide +kernel
theorem dX10_restore_33 : decode cX10_restore 33 = .ok (.invokevirtual 349, 3) := by decide +kernel
theorem dX10_restore_36 : decode cX10_restore 36 = .ok (.aload_n 0, 1) := by decide +kernel
theorem dX10_restore_37 : decode cX10_restore 37 = .ok (.getfield 10, 3) := by decide +kernel
theorem dX10_restore_40 : decode cX10_restore 40 = .ok (.getfield 204, 3) := by decide +kernel
theorem dX10_restore_43 : decode cX10_restore 43 = .ok (.getfield 208, 3) := by decide +kernel
theorem dX10_restore_46 : decode cX10_restore 46 = .ok (.ireturn, 1) := by decide +kernel
theorem dX10_performProgram_0 : decode cX10_performProgram 0 = .ok (.aload_n 0, 1) := by decide +kernel
theorem dX10_performProgram_1 : decode cX10_performProgram 1 = .ok (.getfield 54, 3) := by decide +kernel
theorem dX10_performProgram_4 : decode cX10_performProgram 4 = .ok (.iconst 0, 1) := by decide +kernel
theorem dX10_performProgram_5 : decode cX10_performProgram 5 = .ok (.putfield 307, 3) := by decide +kernel
theorem dX10_performProgram_8 : decode cX10_performProgram 8 = .ok (.iconst 0, 1) := by decide +kernel
theorem dX10_performProgram_9 : decode cX10_performProgram 9 = .ok (.istore_n 2, 1) := by decide +kernel
theorem dX10_performProgram_10 : decode cX10_performProgram 10 = .ok (.iload_n 2, 1) := by decide +kernel
theorem dX10_performProgram_11 : decode cX10_performProgram 11 = .ok (.iload_n 1, 1) := by decide +kernel
theorem dX10_performProgram_12 : decode cX10_performProgram 12 = .ok (.if_icmp .ge 112, 3) := by decide +kernel
theorem dX10_performProgram_15 : decode cX10_performProgram 15 = .ok (.aload_n 0, 1) := by decide +kernel
theorem dX10_performProgram_16 : decode cX10_performProgram 16 = .ok (.getfield 54, 3) := by decide +kernel
theorem dX10_performProgram_19 : decode cX10_performProgram 19 = .ok (.invokevirtual 363, 3) := by decide +kernel
theorem dX10_performProgram_22 : decode cX10_performProgram 22 = .ok (.ifCond .ne 5, 3) := by decide +kernel
theorem dX10_performProgram_25 : decode cX10_performProgram 25 = .ok (.iload_n 2, 1) := by decide +kernel
theorem dX10_performProgram_26 : decode cX10_performProgram 26 = .ok (.ireturn, 1) := by decide +kernel
theorem dX10_performProgram_27 : decode cX10_performProgram 27 = .ok (.aload_n 0, 1) := by decide +kernel
theorem dX10_performProgram_28 : decode cX10_performProgram 28 = .ok (.getfield 54, 3) := by decide +kernel
theorem dX10_performProgram_31 : decode cX10_performProgram 31 = .ok (.getfield 367, 3) := by decide +kernel
theorem dX10_performProgram_34 : decode cX10_performProgram 34 = .ok (.astore_n 3, 1) := by decide +kernel
theorem dX10_performProgram_35 : decode cX10_performProgram 35 = .ok (.aload_n 0, 1) := by decide +kernel
theorem dX10_performProgram_36 : decode cX10_performProgram 36 = .ok (.getfield 54, 3) := by decide +kernel
theorem dX10_performProgram_39 : decode cX10_performProgram 39 = .ok (.getfield 370, 3) := by decide +kernel
theorem dX10_performProgram_42 : decode cX10_performProgram 42 = .ok (.iconst 0, 1) := by decide +kernel
theorem dX10_performProgram_43 : decode cX10_performProgram 43 = .ok (.iaload, 1) := by decide +kernel
theorem dX10_performProgram_44 : decode cX10_performProgram 44 = .ok (.istore 4, 2) := by decide +kernel
theorem dX10_performProgram_46 : decode cX10_performProgram 46 = .ok (.aload_n 0, 1) := by decide +kernel
theorem dX10_performProgram_47 : decode cX10_performProgram 47 = .ok (.getfield 54, 3) := by decide +kernel
theorem dX10_performProgram_50 : decode cX10_performProgram 50 = .ok (.getfield 370, 3) := by decide +kernel
theorem dX10_performProgram_53 : decode cX10_performProgram 53 = .ok (.iconst 1, 1) := by decide +kernel
theorem dX10_performProgram_54 : decode cX10_performProgram 54 = .ok (.iaload, 1) := by decide +kernel
theorem dX10_performProgram_55 : decode cX10_performProgram 55 = .ok (.istore 5, 2) := by decide +kernel
theorem dX10_performProgram_57 : decode cX10_performProgram 57 = .ok (.aload_n 0, 1) := by decide +kernel
theorem dX10_performProgram_58 : decode cX10_performProgram 58 = .ok (.getfield 54, 3) := by decide +kernel
theorem dX10_performProgram_61 : decode cX10_performProgram 61 = .ok (.getfield 370, 3) := by decide +kernel
theorem dX10_performProgram_64 : decode cX10_performProgram 64 = .ok (.iconst 2, 1) := by decide +kernel
theorem dX10_performProgram_65 : decode cX10_performProgram 65 = .ok (.iaload, 1) := by decide +kernel
theorem dX10_performProgram_66 : decode cX10_performProgram 66 = .ok (.istore 6, 2) := by decide +kernel
theorem dX10_performProgram_68 : decode cX10_performProgram 68 = .ok (.aload_n 0, 1) := by decide +kernel
theorem dX10_performProgram_69 : decode cX10_performProgram 69 = .ok (.getfield 10, 3) := by decide +kernel
theorem dX10_performProgram_72 : decode cX10_performProgram 72 = .ok (.aload_n 3, 1) := by decide +kernel
theorem dX10_performProgram_73 : decode cX10_performProgram 73 = .ok (.iload 4, 2) := by decide +kernel
theorem dX10_performProgram_75 : decode cX10_performProgram 75 = .ok (.iload 5, 2) := by decide +kernel
theorem dX10_performProgram_77 : decode cX10_performProgram 77 = .ok (.iload 6, 2) := by decide +kernel
theorem dX10_performProgram_79 : decode cX10_performProgram 79 = .ok (.invokevirtual 352, 3) := by decide +kernel
theorem dX10_performProgram_82 : decode cX10_performProgram 82 = .ok (.getstatic 373, 3) := by decide +kernel
theorem dX10_performProgram_85 : decode cX10_performProgram 85 = .ok (.if_acmp .eq 5, 3) := by decide +kernel
theorem dX10_performProgram_88 : decode cX10_performProgram 88 = .ok (.iload_n 2, 1) := by decide +kernel
theorem dX10_performProgram_89 : decode cX10_performProgram 89 = .ok (.ireturn, 1) := by decide +kernel
theorem dX10_performProgram_90 : decode cX10_performProgram 90 = .ok (.aload_n 0, 1) := by decide +kernel
theorem dX10_performProgram_91 : decode cX10_performProgram 91 = .ok (.getfield 10, 3) := by decide +kernel
theorem dX10_performProgram_94 : decode cX10_performProgram 94 = .ok (.aload_n 3, 1) := by decide +kernel
theorem dX10_performProgram_95 : decode cX10_performProgram 95 = .ok (.iload 4, 2) := by decide +kernel
theorem dX10_performProgram_97 : decode cX10_performProgram 97 = .ok (.iload 5, 2) := by decide +kernel
theorem dX10_performProgram_99 : decode cX10_performProgram 99 = .ok (.iload 6, 2) := by decide +kernel
theorem dX10_performProgram_101 : decode cX10_performProgram 101 = .ok (.invokevirtual 360, 3) := by decide +kernel
theorem dX10_performProgram_104 : decode cX10_performProgram 104 = .ok (.pop, 1) := by decide +kernel
theorem dX10_performProgram_105 : decode cX10_performProgram 105 = .ok (.aload_n 0, 1) := by decide +kernel
theorem dX10_performProgram_106 : decode cX10_performProgram 106 = .ok (.getfield 54, 3) := by decide +kernel
theorem dX10_performProgram_109 : decode cX10_performProgram 109 = .ok (.dup, 1) := by decide +kernel
theorem dX10_performProgram_110 : decode cX10_performProgram 110 = .ok (.getfield 307, 3) := by decide +kernel
theorem dX10_performProgram_113 : decode cX10_performProgram 113 = .ok (.iconst 1, 1) := by decide +kernel
theorem dX10_performProgram_114 : decode cX10_performProgram 114 = .ok (.iadd, 1) := by decide +kernel
theorem dX10_performProgram_115 : decode cX10_performProgram 115 = .ok (.putfield 307, 3) := by decide +kernel
theorem dX10_performProgram_118 : decode cX10_performProgram 118 = .ok (.iinc 2 1, 3) := by decide +kernel
theorem dX10_performProgram_121 : decode cX10_performProgram 121 = .ok (.goto (-111), 3) := by decide +kernel
theorem dX10_performProgram_124 : decode cX10_performProgram 124 = .ok (.iload_n 1, 1) := by decide +kernel
theorem dX10_performProgram_125 : decode cX10_performProgram 125 = .ok (.ireturn, 1) := by decide +kernel
