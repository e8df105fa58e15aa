theorem dX10_courseFor_0 : decode cX10_courseFor 0 = .ok (.aload_n 0, 1) := by decide +kernel
theorem dX10_courseFor_1 : decode cX10_courseFor 1 = .ok (.iload_n 1, 1) := by decide +kernel
theorem dX10_courseFor_2 : decode cX10_courseFor 2 = .ok (.invokevirtual 99, 3) := by decide +kernel
theorem dX10_courseFor_5 : decode cX10_courseFor 5 = .ok (.iload_n 2, 1) := by decide +kernel
theorem dX10_courseFor_6 : decode cX10_courseFor 6 = .ok (.invokestatic 116, 3) := by decide +kernel
theorem dX10_courseFor_9 : decode cX10_courseFor 9 = .ok (.aload_n 0, 1) := by decide +kernel
theorem dX10_courseFor_10 : decode cX10_courseFor 10 = .ok (.getfield 10, 3) := by decide +kernel
theorem dX10_courseFor_13 : decode cX10_courseFor 13 = .ok (.getfield 90, 3) := by decide +kernel
theorem dX10_courseFor_16 : decode cX10_courseFor 16 = .ok (.iload_n 1, 1) := by decide +kernel
theorem dX10_courseFor_17 : decode cX10_courseFor 17 = .ok (.iload_n 2, 1) := by decide +kernel
theorem dX10_courseFor_18 : decode cX10_courseFor 18 = .ok (.invokevirtual 126, 3) := by decide +kernel
theorem dX10_courseFor_21 : decode cX10_courseFor 21 = .ok (.invokestatic 129, 3) := by decide +kernel
theorem dX10_courseFor_24 : decode cX10_courseFor 24 = .ok (.ireturn, 1) := by decide +kernel
theorem dX10_courseForNearby_0 : decode cX10_courseForNearby 0 = .ok (.aload_n 0, 1) := by decide +kernel
theorem dX10_courseForNearby_1 : decode cX10_courseForNearby 1 = .ok (.iload_n 1, 1) := by decide +kernel
theorem dX10_courseForNearby_2 : decode cX10_courseForNearby 2 = .ok (.invokevirtual 99, 3) := by decide +kernel
theorem dX10_courseForNearby_5 : decode cX10_courseForNearby 5 = .ok (.iload_n 2, 1) := by decide +kernel
theorem dX10_courseForNearby_6 : decode cX10_courseForNearby 6 = .ok (.invokestatic 116, 3) := by decide +kernel
theorem dX10_courseForNearby_9 : decode cX10_courseForNearby 9 = .ok (.aload_n 0, 1) := by decide +kernel
theorem dX10_courseForNearby_10 : decode cX10_courseForNearby 10 = .ok (.getfield 10, 3) := by decide +kernel
theorem dX10_courseForNearby_13 : decode cX10_courseForNearby 13 = .ok (.getfield 90, 3) := by decide +kernel
theorem dX10_courseForNearby_16 : decode cX10_courseForNearby 16 = .ok (.iload_n 1, 1) := by decide +kernel
theorem dX10_courseForNearby_17 : decode cX10_courseForNearby 17 = .ok (.iload_n 2, 1) := by decide +kernel
theorem dX10_courseForNearby_18 : decode cX10_courseForNearby 18 = .ok (.invokevirtual 133, 3) := by decide +kernel
theorem dX10_courseForNearby_21 : decode cX10_courseForNearby 21 = .ok (.invokestatic 129, 3) := by decide +kernel
theorem dX10_courseForNearby_24 : decode cX10_courseForNearby 24 = .ok (.ireturn, 1) := by decide +kernel
theorem dX10_clock_0 : decode cX10_clock 0 = .ok (.aload_n 0, 1) := by decide +kernel
theorem dX10_clock_1 : decode cX10_clock 1 = .ok (.getfield 10, 3) := by decide +kernel
theorem dX10_clock_4 : decode cX10_clock 4 = .ok (.getfield 204, 3) := by decide +kernel
theorem dX10_clock_7 : decode cX10_clock 7 = .ok (.getfield 208, 3) := by decide +kernel
theorem dX10_clock_10 : decode cX10_clock 10 = .ok (.ireturn, 1) := by decide +kernel
theorem dX10_batchCount_0 : decode cX10_batchCount 0 = .ok (.aload_n 0, 1) := by decide +kernel
theorem dX10_batchCount_1 : decode cX10_batchCount 1 = .ok (.getfield 10, 3) := by decide +kernel
theorem dX10_batchCount_4 : decode cX10_batchCount 4 = .ok (.getfield 204, 3) := by decide +kernel
theorem dX10_batchCount_7 : decode cX10_batchCount 7 = .ok (.getfield 213, 3) := by decide +kernel
theorem dX10_batchCount_10 : decode cX10_batchCount 10 = .ok (.ireturn, 1) := by decide +kernel
theorem dX10_bakedCount_0 : decode cX10_bakedCount 0 = .ok (.aload_n 0, 1) := by decide +kernel
theorem dX10_bakedCount_1 : decode cX10_bakedCount 1 = .ok (.getfield 10, 3) := by decide +kernel
theorem dX10_bakedCount_4 : decode cX10_bakedCount 4 = .ok (.getfield 204, 3) := by decide +kernel
theorem dX10_bakedCount_7 : decode cX10_bakedCount 7 = .ok (.getfield 244, 3) := by decide +kernel
theorem dX10_bakedCount_10 : decode cX10_bakedCount 10 = .ok (.ireturn, 1) := by decide +kernel
