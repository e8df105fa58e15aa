theorem dX10_needleCount_0 : decode cX10_needleCount 0 = .ok (.aload_n 0, 1) := by decide +kernel
theorem dX10_needleCount_1 : decode cX10_needleCount 1 = .ok (.getfield 10, 3) := by decide +kernel
theorem dX10_needleCount_4 : decode cX10_needleCount 4 = .ok (.getfield 90, 3) := by decide +kernel
theorem dX10_needleCount_7 : decode cX10_needleCount 7 = .ok (.getfield 94, 3) := by decide +kernel
theorem dX10_needleCount_10 : decode cX10_needleCount 10 = .ok (.ireturn, 1) := by decide +kernel
theorem dX10_strengthOf_0 : decode cX10_strengthOf 0 = .ok (.aload_n 0, 1) := by decide +kernel
theorem dX10_strengthOf_1 : decode cX10_strengthOf 1 = .ok (.iload_n 1, 1) := by decide +kernel
theorem dX10_strengthOf_2 : decode cX10_strengthOf 2 = .ok (.invokevirtual 99, 3) := by decide +kernel
theorem dX10_strengthOf_5 : decode cX10_strengthOf 5 = .ok (.aload_n 0, 1) := by decide +kernel
theorem dX10_strengthOf_6 : decode cX10_strengthOf 6 = .ok (.getfield 10, 3) := by decide +kernel
theorem dX10_strengthOf_9 : decode cX10_strengthOf 9 = .ok (.getfield 90, 3) := by decide +kernel
theorem dX10_strengthOf_12 : decode cX10_strengthOf 12 = .ok (.getfield 103, 3) := by decide +kernel
theorem dX10_strengthOf_15 : decode cX10_strengthOf 15 = .ok (.iload_n 1, 1) := by decide +kernel
theorem dX10_strengthOf_16 : decode cX10_strengthOf 16 = .ok (.iaload, 1) := by decide +kernel
theorem dX10_strengthOf_17 : decode cX10_strengthOf 17 = .ok (.ireturn, 1) := by decide +kernel
theorem dX10_isDiscarded_0 : decode cX10_isDiscarded 0 = .ok (.aload_n 0, 1) := by decide +kernel
theorem dX10_isDiscarded_1 : decode cX10_isDiscarded 1 = .ok (.iload_n 1, 1) := by decide +kernel
theorem dX10_isDiscarded_2 : decode cX10_isDiscarded 2 = .ok (.invokevirtual 99, 3) := by decide +kernel
theorem dX10_isDiscarded_5 : decode cX10_isDiscarded 5 = .ok (.aload_n 0, 1) := by decide +kernel
theorem dX10_isDiscarded_6 : decode cX10_isDiscarded 6 = .ok (.getfield 10, 3) := by decide +kernel
theorem dX10_isDiscarded_9 : decode cX10_isDiscarded 9 = .ok (.getfield 90, 3) := by decide +kernel
theorem dX10_isDiscarded_12 : decode cX10_isDiscarded 12 = .ok (.iload_n 1, 1) := by decide +kernel
theorem dX10_isDiscarded_13 : decode cX10_isDiscarded 13 = .ok (.invokevirtual 106, 3) := by decide +kernel
theorem dX10_isDiscarded_16 : decode cX10_isDiscarded 16 = .ok (.ireturn, 1) := by decide +kernel
theorem dX10_isReject_0 : decode cX10_isReject 0 = .ok (.aload_n 0, 1) := by decide +kernel
theorem dX10_isReject_1 : decode cX10_isReject 1 = .ok (.iload_n 1, 1) := by decide +kernel
theorem dX10_isReject_2 : decode cX10_isReject 2 = .ok (.invokevirtual 99, 3) := by decide +kernel
theorem dX10_isReject_5 : decode cX10_isReject 5 = .ok (.aload_n 0, 1) := by decide +kernel
theorem dX10_isReject_6 : decode cX10_isReject 6 = .ok (.getfield 10, 3) := by decide +kernel
theorem dX10_isReject_9 : decode cX10_isReject 9 = .ok (.getfield 90, 3) := by decide +kernel
theorem dX10_isReject_12 : decode cX10_isReject 12 = .ok (.iload_n 1, 1) := by decide +kernel
theorem dX10_isReject_13 : decode cX10_isReject 13 = .ok (.invokevirtual 110, 3) := by decide +kernel
theorem dX10_isReject_16 : decode cX10_isReject 16 = .ok (.ireturn, 1) := by decide +kernel
theorem dX10_tolerance_0 : decode cX10_tolerance 0 = .ok (.aload_n 0, 1) := by decide +kernel
theorem dX10_tolerance_1 : decode cX10_tolerance 1 = .ok (.getfield 10, 3) := by decide +kernel
theorem dX10_tolerance_4 : decode cX10_tolerance 4 = .ok (.getfield 90, 3) := by decide +kernel
theorem dX10_tolerance_7 : decode cX10_tolerance 7 = .ok (.getfield 113, 3) := by decide +kernel
theorem dX10_tolerance_10 : decode cX10_tolerance 10 = .ok (.ireturn, 1) := by decide +kernel
theorem dX10_deviationAt_0 : decode cX10_deviationAt 0 = .ok (.aload_n 0, 1) := by decide +kernel
theorem dX10_deviationAt_1 : decode cX10_deviationAt 1 = .ok (.iload_n 1, 1) := by decide +kernel
theorem dX10_deviationAt_2 : decode cX10_deviationAt 2 = .ok (.invokevirtual 99, 3) := by decide +kernel
theorem dX10_deviationAt_5 : decode cX10_deviationAt 5 = .ok (.iload_n 2, 1) := by decide +kernel
theorem dX10_deviationAt_6 : decode cX10_deviationAt 6 = .ok (.invokestatic 116, 3) := by decide +kernel
theorem dX10_deviationAt_9 : decode cX10_deviationAt 9 = .ok (.aload_n 0, 1) := by decide +kernel
theorem dX10_deviationAt_10 : decode cX10_deviationAt 10 = .ok (.getfield 10, 3) := by decide +kernel
theorem dX10_deviationAt_13 : decode cX10_deviationAt 13 = .ok (.getfield 90, 3) := by decide +kernel
theorem dX10_deviationAt_16 : decode cX10_deviationAt 16 = .ok (.iload_n 1, 1) := by decide +kernel
theorem dX10_deviationAt_17 : decode cX10_deviationAt 17 = .ok (.iload_n 2, 1) := by decide +kernel
theorem dX10_deviationAt_18 : decode cX10_deviationAt 18 = .ok (.invokevirtual 119, 3) := by decide +kernel
theorem dX10_deviationAt_21 : decode cX10_deviationAt 21 = .ok (.ireturn, 1) := by decide +kernel
theorem dX10_trueCourse_0 : decode cX10_trueCourse 0 = .ok (.aload_n 0, 1) := by decide +kernel
theorem dX10_trueCourse_1 : decode cX10_trueCourse 1 = .ok (.iload_n 1, 1) := by decide +kernel
theorem dX10_trueCourse_2 : decode cX10_trueCourse 2 = .ok (.invokevirtual 99, 3) := by decide +kernel
theorem dX10_trueCourse_5 : decode cX10_trueCourse 5 = .ok (.iload_n 2, 1) := by decide +kernel
theorem dX10_trueCourse_6 : decode cX10_trueCourse 6 = .ok (.invokestatic 116, 3) := by decide +kernel
theorem dX10_trueCourse_9 : decode cX10_trueCourse 9 = .ok (.aload_n 0, 1) := by decide +kernel
theorem dX10_trueCourse_10 : decode cX10_trueCourse 10 = .ok (.getfield 10, 3) := by decide +kernel
theorem dX10_trueCourse_13 : decode cX10_trueCourse 13 = .ok (.getfield 90, 3) := by decide +kernel
theorem dX10_trueCourse_16 : decode cX10_trueCourse 16 = .ok (.iload_n 1, 1) := by decide +kernel
theorem dX10_trueCourse_17 : decode cX10_trueCourse 17 = .ok (.iload_n 2, 1) := by decide +kernel
theorem dX10_trueCourse_18 : decode cX10_trueCourse 18 = .ok (.invokevirtual 123, 3) := by decide +kernel
theorem dX10_trueCourse_21 : decode cX10_trueCourse 21 = .ok (.ireturn, 1) := by decide +kernel
theorem dX10_errorOf_0 : decode cX10_errorOf 0 = .ok (.aload_n 0, 1) := by decide +kernel
theorem dX10_errorOf_1 : decode cX10_errorOf 1 = .ok (.iload_n 1, 1) := by decide +kernel
theorem dX10_errorOf_2 : decode cX10_errorOf 2 = .ok (.invokevirtual 99, 3) := by decide +kernel
theorem dX10_errorOf_5 : decode cX10_errorOf 5 = .ok (.aload_n 0, 1) := by decide +kernel
theorem dX10_errorOf_6 : decode cX10_errorOf 6 = .ok (.getfield 10, 3) := by decide +kernel
theorem dX10_errorOf_9 : decode cX10_errorOf 9 = .ok (.getfield 90, 3) := by decide +kernel
theorem dX10_errorOf_12 : decode cX10_errorOf 12 = .ok (.iload_n 1, 1) := by decide +kernel
theorem dX10_errorOf_13 : decode cX10_errorOf 13 = .ok (.iconst 0, 1) := by decide +kernel
theorem dX10_errorOf_14 : decode cX10_errorOf 14 = .ok (.invokevirtual 142, 3) := by decide +kernel
theorem dX10_errorOf_17 : decode cX10_errorOf 17 = .ok (.ireturn, 1) := by decide +kernel
theorem dX10_bestShift_0 : decode cX10_bestShift 0 = .ok (.aload_n 0, 1) := by decide +kernel
theorem dX10_bestShift_1 : decode cX10_bestShift 1 = .ok (.iload_n 1, 1) := by decide +kernel
theorem dX10_bestShift_2 : decode cX10_bestShift 2 = .ok (.invokevirtual 99, 3) := by decide +kernel
theorem dX10_bestShift_5 : decode cX10_bestShift 5 = .ok (.aload_n 0, 1) := by decide +kernel
theorem dX10_bestShift_6 : decode cX10_bestShift 6 = .ok (.getfield 10, 3) := by decide +kernel
theorem dX10_bestShift_9 : decode cX10_bestShift 9 = .ok (.getfield 90, 3) := by decide +kernel
theorem dX10_bestShift_12 : decode cX10_bestShift 12 = .ok (.iload_n 1, 1) := by decide +kernel
theorem dX10_bestShift_13 : decode cX10_bestShift 13 = .ok (.invokevirtual 145, 3) := by decide +kernel
theorem dX10_bestShift_16 : decode cX10_bestShift 16 = .ok (.ireturn, 1) := by decide +kernel
theorem dX10_bestShiftBySum_0 : decode cX10_bestShiftBySum 0 = .ok (.aload_n 0, 1) := by decide +kernel
theorem dX10_bestShiftBySum_1 : decode cX10_bestShiftBySum 1 = .ok (.iload_n 1, 1) := by decide +kernel
theorem dX10_bestShiftBySum_2 : decode cX10_bestShiftBySum 2 = .ok (.invokevirtual 99, 3) := by decide +kernel
theorem dX10_bestShiftBySum_5 : decode cX10_bestShiftBySum 5 = .ok (.aload_n 0, 1) := by decide +kernel
theorem dX10_bestShiftBySum_6 : decode cX10_bestShiftBySum 6 = .ok (.getfield 10, 3) := by decide +kernel
theorem dX10_bestShiftBySum_9 : decode cX10_bestShiftBySum 9 = .ok (.getfield 90, 3) := by decide +kernel
theorem dX10_bestShiftBySum_12 : decode cX10_bestShiftBySum 12 = .ok (.iload_n 1, 1) := by decide +kernel
theorem dX10_bestShiftBySum_13 : decode cX10_bestShiftBySum 13 = .ok (.invokevirtual 148, 3) := by decide +kernel
theorem dX10_bestShiftBySum_16 : decode cX10_bestShiftBySum 16 = .ok (.ireturn, 1) := by decide +kernel
