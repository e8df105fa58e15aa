theorem dX10_addNeedle_0 : decode cX10_addNeedle 0 = .ok (.aload_n 0, 1) := by decide +kernel
theorem dX10_addNeedle_1 : decode cX10_addNeedle 1 = .ok (.getstatic 65, 3) := by decide +kernel
theorem dX10_addNeedle_4 : decode cX10_addNeedle 4 = .ok (.iload_n 1, 1) := by decide +kernel
theorem dX10_addNeedle_5 : decode cX10_addNeedle 5 = .ok (.iconst 0, 1) := by decide +kernel
theorem dX10_addNeedle_6 : decode cX10_addNeedle 6 = .ok (.iconst 0, 1) := by decide +kernel
theorem dX10_addNeedle_7 : decode cX10_addNeedle 7 = .ok (.invokevirtual 71, 3) := by decide +kernel
theorem dX10_addNeedle_10 : decode cX10_addNeedle 10 = .ok (.ireturn, 1) := by decide +kernel
theorem dX10_setDeviation_0 : decode cX10_setDeviation 0 = .ok (.aload_n 0, 1) := by decide +kernel
theorem dX10_setDeviation_1 : decode cX10_setDeviation 1 = .ok (.getstatic 75, 3) := by decide +kernel
theorem dX10_setDeviation_4 : decode cX10_setDeviation 4 = .ok (.iload_n 1, 1) := by decide +kernel
theorem dX10_setDeviation_5 : decode cX10_setDeviation 5 = .ok (.iload_n 2, 1) := by decide +kernel
theorem dX10_setDeviation_6 : decode cX10_setDeviation 6 = .ok (.iload_n 3, 1) := by decide +kernel
theorem dX10_setDeviation_7 : decode cX10_setDeviation 7 = .ok (.invokevirtual 71, 3) := by decide +kernel
theorem dX10_setDeviation_10 : decode cX10_setDeviation 10 = .ok (.ireturn, 1) := by decide +kernel
theorem dX10_shift_0 : decode cX10_shift 0 = .ok (.aload_n 0, 1) := by decide +kernel
theorem dX10_shift_1 : decode cX10_shift 1 = .ok (.getstatic 78, 3) := by decide +kernel
theorem dX10_shift_4 : decode cX10_shift 4 = .ok (.iload_n 1, 1) := by decide +kernel
theorem dX10_shift_5 : decode cX10_shift 5 = .ok (.iload_n 2, 1) := by decide +kernel
theorem dX10_shift_6 : decode cX10_shift 6 = .ok (.iconst 0, 1) := by decide +kernel
theorem dX10_shift_7 : decode cX10_shift 7 = .ok (.invokevirtual 71, 3) := by decide +kernel
theorem dX10_shift_10 : decode cX10_shift 10 = .ok (.ireturn, 1) := by decide +kernel
theorem dX10_correct_0 : decode cX10_correct 0 = .ok (.aload_n 0, 1) := by decide +kernel
theorem dX10_correct_1 : decode cX10_correct 1 = .ok (.getstatic 81, 3) := by decide +kernel
theorem dX10_correct_4 : decode cX10_correct 4 = .ok (.iload_n 1, 1) := by decide +kernel
theorem dX10_correct_5 : decode cX10_correct 5 = .ok (.iconst 0, 1) := by decide +kernel
theorem dX10_correct_6 : decode cX10_correct 6 = .ok (.iconst 0, 1) := by decide +kernel
theorem dX10_correct_7 : decode cX10_correct 7 = .ok (.invokevirtual 71, 3) := by decide +kernel
theorem dX10_correct_10 : decode cX10_correct 10 = .ok (.ireturn, 1) := by decide +kernel
theorem dX10_discard_0 : decode cX10_discard 0 = .ok (.aload_n 0, 1) := by decide +kernel
theorem dX10_discard_1 : decode cX10_discard 1 = .ok (.getstatic 84, 3) := by decide +kernel
theorem dX10_discard_4 : decode cX10_discard 4 = .ok (.iload_n 1, 1) := by decide +kernel
theorem dX10_discard_5 : decode cX10_discard 5 = .ok (.iconst 0, 1) := by decide +kernel
theorem dX10_discard_6 : decode cX10_discard 6 = .ok (.iconst 0, 1) := by decide +kernel
theorem dX10_discard_7 : decode cX10_discard 7 = .ok (.invokevirtual 71, 3) := by decide +kernel
theorem dX10_discard_10 : decode cX10_discard 10 = .ok (.ireturn, 1) := by decide +kernel
theorem dX10_setTolerance_0 : decode cX10_setTolerance 0 = .ok (.aload_n 0, 1) := by decide +kernel
theorem dX10_setTolerance_1 : decode cX10_setTolerance 1 = .ok (.getstatic 87, 3) := by decide +kernel
theorem dX10_setTolerance_4 : decode cX10_setTolerance 4 = .ok (.iload_n 1, 1) := by decide +kernel
theorem dX10_setTolerance_5 : decode cX10_setTolerance 5 = .ok (.iconst 0, 1) := by decide +kernel
theorem dX10_setTolerance_6 : decode cX10_setTolerance 6 = .ok (.iconst 0, 1) := by decide +kernel
theorem dX10_setTolerance_7 : decode cX10_setTolerance 7 = .ok (.invokevirtual 71, 3) := by decide +kernel
theorem dX10_setTolerance_10 : decode cX10_setTolerance 10 = .ok (.ireturn, 1) := by decide +kernel
theorem dX10_addBatch_0 : decode cX10_addBatch 0 = .ok (.aload_n 0, 1) := by decide +kernel
theorem dX10_addBatch_1 : decode cX10_addBatch 1 = .ok (.getstatic 192, 3) := by decide +kernel
theorem dX10_addBatch_4 : decode cX10_addBatch 4 = .ok (.iload_n 1, 1) := by decide +kernel
theorem dX10_addBatch_5 : decode cX10_addBatch 5 = .ok (.iload_n 2, 1) := by decide +kernel
theorem dX10_addBatch_6 : decode cX10_addBatch 6 = .ok (.iload_n 3, 1) := by decide +kernel
theorem dX10_addBatch_7 : decode cX10_addBatch 7 = .ok (.invokevirtual 71, 3) := by decide +kernel
theorem dX10_addBatch_10 : decode cX10_addBatch 10 = .ok (.ireturn, 1) := by decide +kernel
theorem dX10_dropBatch_0 : decode cX10_dropBatch 0 = .ok (.aload_n 0, 1) := by decide +kernel
theorem dX10_dropBatch_1 : decode cX10_dropBatch 1 = .ok (.getstatic 195, 3) := by decide +kernel
theorem dX10_dropBatch_4 : decode cX10_dropBatch 4 = .ok (.iload_n 1, 1) := by decide +kernel
theorem dX10_dropBatch_5 : decode cX10_dropBatch 5 = .ok (.iconst 0, 1) := by decide +kernel
theorem dX10_dropBatch_6 : decode cX10_dropBatch 6 = .ok (.iconst 0, 1) := by decide +kernel
theorem dX10_dropBatch_7 : decode cX10_dropBatch 7 = .ok (.invokevirtual 71, 3) := by decide +kernel
theorem dX10_dropBatch_10 : decode cX10_dropBatch 10 = .ok (.ireturn, 1) := by decide +kernel
theorem dX10_bake_0 : decode cX10_bake 0 = .ok (.aload_n 0, 1) := by decide +kernel
theorem dX10_bake_1 : decode cX10_bake 1 = .ok (.getstatic 198, 3) := by decide +kernel
theorem dX10_bake_4 : decode cX10_bake 4 = .ok (.iload_n 1, 1) := by decide +kernel
theorem dX10_bake_5 : decode cX10_bake 5 = .ok (.iconst 0, 1) := by decide +kernel
theorem dX10_bake_6 : decode cX10_bake 6 = .ok (.iconst 0, 1) := by decide +kernel
theorem dX10_bake_7 : decode cX10_bake 7 = .ok (.invokevirtual 71, 3) := by decide +kernel
theorem dX10_bake_10 : decode cX10_bake 10 = .ok (.ireturn, 1) := by decide +kernel
theorem dX10_rest_0 : decode cX10_rest 0 = .ok (.aload_n 0, 1) := by decide +kernel
theorem dX10_rest_1 : decode cX10_rest 1 = .ok (.getstatic 201, 3) := by decide +kernel
theorem dX10_rest_4 : decode cX10_rest 4 = .ok (.iload_n 1, 1) := by decide +kernel
theorem dX10_rest_5 : decode cX10_rest 5 = .ok (.iconst 0, 1) := by decide +kernel
theorem dX10_rest_6 : decode cX10_rest 6 = .ok (.iconst 0, 1) := by decide +kernel
theorem dX10_rest_7 : decode cX10_rest 7 = .ok (.invokevirtual 71, 3) := by decide +kernel
theorem dX10_rest_10 : decode cX10_rest 10 = .ok (.ireturn, 1) := by decide +kernel
