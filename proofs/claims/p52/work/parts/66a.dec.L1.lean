theorem dX11_init_0 : decode cX11_init 0 = .ok (.aload_n 0, 1) := by decide +kernel
theorem dX11_init_1 : decode cX11_init 1 = .ok (.invokespecial 1, 3) := by decide +kernel
theorem dX11_init_4 : decode cX11_init 4 = .ok (.aload_n 0, 1) := by decide +kernel
theorem dX11_init_5 : decode cX11_init 5 = .ok (.iload_n 1, 1) := by decide +kernel
theorem dX11_init_6 : decode cX11_init 6 = .ok (.putfield 7, 3) := by decide +kernel
theorem dX11_init_9 : decode cX11_init 9 = .ok (.return_, 1) := by decide +kernel
theorem dX11_next_0 : decode cX11_next 0 = .ok (.aload_n 0, 1) := by decide +kernel
theorem dX11_next_1 : decode cX11_next 1 = .ok (.aload_n 0, 1) := by decide +kernel
theorem dX11_next_2 : decode cX11_next 2 = .ok (.getfield 7, 3) := by decide +kernel
theorem dX11_next_5 : decode cX11_next 5 = .ok (.ldc 13, 2) := by decide +kernel
theorem dX11_next_7 : decode cX11_next 7 = .ok (.imul, 1) := by decide +kernel
theorem dX11_next_8 : decode cX11_next 8 = .ok (.sipush 12345, 3) := by decide +kernel
theorem dX11_next_11 : decode cX11_next 11 = .ok (.iadd, 1) := by decide +kernel
theorem dX11_next_12 : decode cX11_next 12 = .ok (.putfield 7, 3) := by decide +kernel
theorem dX11_next_15 : decode cX11_next 15 = .ok (.aload_n 0, 1) := by decide +kernel
theorem dX11_next_16 : decode cX11_next 16 = .ok (.getfield 7, 3) := by decide +kernel
theorem dX11_next_19 : decode cX11_next 19 = .ok (.bipush 16, 2) := by decide +kernel
theorem dX11_next_21 : decode cX11_next 21 = .ok (.iushr, 1) := by decide +kernel
theorem dX11_next_22 : decode cX11_next 22 = .ok (.iload_n 1, 1) := by decide +kernel
theorem dX11_next_23 : decode cX11_next 23 = .ok (.irem, 1) := by decide +kernel
theorem dX11_next_24 : decode cX11_next 24 = .ok (.ireturn, 1) := by decide +kernel
theorem dL_cell_0 : decode cL_cell 0 = .ok (.aload_n 0, 1) := by decide +kernel
theorem dL_cell_1 : decode cL_cell 1 = .ok (.arraylength, 1) := by decide +kernel
theorem dL_cell_2 : decode cL_cell 2 = .ok (.ifCond .ne 13, 3) := by decide +kernel
theorem dL_cell_5 : decode cL_cell 5 = .ok (.bipush 71, 2) := by decide +kernel
theorem dL_cell_7 : decode cL_cell 7 = .ok (.iload_n 1, 1) := by decide +kernel
theorem dL_cell_8 : decode cL_cell 8 = .ok (.imul, 1) := by decide +kernel
theorem dL_cell_9 : decode cL_cell 9 = .ok (.bipush 13, 2) := by decide +kernel
theorem dL_cell_11 : decode cL_cell 11 = .ok (.iadd, 1) := by decide +kernel
theorem dL_cell_12 : decode cL_cell 12 = .ok (.goto 19, 3) := by decide +kernel
theorem dL_cell_15 : decode cL_cell 15 = .ok (.aload_n 0, 1) := by decide +kernel
theorem dL_cell_16 : decode cL_cell 16 = .ok (.iload_n 1, 1) := by decide +kernel
theorem dL_cell_17 : decode cL_cell 17 = .ok (.aload_n 0, 1) := by decide +kernel
theorem dL_cell_18 : decode cL_cell 18 = .ok (.arraylength, 1) := by decide +kernel
theorem dL_cell_19 : decode cL_cell 19 = .ok (.irem, 1) := by decide +kernel
theorem dL_cell_20 : decode cL_cell 20 = .ok (.iaload, 1) := by decide +kernel
theorem dL_cell_21 : decode cL_cell 21 = .ok (.iconst 5, 1) := by decide +kernel
theorem dL_cell_22 : decode cL_cell 22 = .ok (.iload_n 1, 1) := by decide +kernel
theorem dL_cell_23 : decode cL_cell 23 = .ok (.aload_n 0, 1) := by decide +kernel
theorem dL_cell_24 : decode cL_cell 24 = .ok (.arraylength, 1) := by decide +kernel
theorem dL_cell_25 : decode cL_cell 25 = .ok (.idiv, 1) := by decide +kernel
theorem dL_cell_26 : decode cL_cell 26 = .ok (.imul, 1) := by decide +kernel
theorem dL_cell_27 : decode cL_cell 27 = .ok (.bipush 17, 2) := by decide +kernel
theorem dL_cell_29 : decode cL_cell 29 = .ok (.irem, 1) := by decide +kernel
theorem dL_cell_30 : decode cL_cell 30 = .ok (.iushr, 1) := by decide +kernel
theorem dL_cell_31 : decode cL_cell 31 = .ok (.ireturn, 1) := by decide +kernel
theorem dL_addNeedle_0 : decode cL_addNeedle 0 = .ok (.aload_n 0, 1) := by decide +kernel
theorem dL_addNeedle_1 : decode cL_addNeedle 1 = .ok (.iload_n 1, 1) := by decide +kernel
theorem dL_addNeedle_2 : decode cL_addNeedle 2 = .ok (.invokevirtual 7, 3) := by decide +kernel
theorem dL_addNeedle_5 : decode cL_addNeedle 5 = .ok (.ireturn, 1) := by decide +kernel
theorem dL_addNeedle_6 : decode cL_addNeedle 6 = .ok (.astore_n 2, 1) := by decide +kernel
theorem dL_addNeedle_7 : decode cL_addNeedle 7 = .ok (.iconst (-1), 1) := by decide +kernel
theorem dL_addNeedle_8 : decode cL_addNeedle 8 = .ok (.ireturn, 1) := by decide +kernel
theorem dL_addNeedle_9 : decode cL_addNeedle 9 = .ok (.astore_n 2, 1) := by decide +kernel
theorem dL_addNeedle_10 : decode cL_addNeedle 10 = .ok (.bipush (-2), 2) := by decide +kernel
theorem dL_addNeedle_12 : decode cL_addNeedle 12 = .ok (.ireturn, 1) := by decide +kernel
theorem dL_setDeviation_0 : decode cL_setDeviation 0 = .ok (.bipush 100, 2) := by decide +kernel
theorem dL_setDeviation_2 : decode cL_setDeviation 2 = .ok (.aload_n 0, 1) := by decide +kernel
theorem dL_setDeviation_3 : decode cL_setDeviation 3 = .ok (.iload_n 1, 1) := by decide +kernel
theorem dL_setDeviation_4 : decode cL_setDeviation 4 = .ok (.iload_n 2, 1) := by decide +kernel
theorem dL_setDeviation_5 : decode cL_setDeviation 5 = .ok (.iload_n 3, 1) := by decide +kernel
theorem dL_setDeviation_6 : decode cL_setDeviation 6 = .ok (.invokevirtual 17, 3) := by decide +kernel
theorem dL_setDeviation_9 : decode cL_setDeviation 9 = .ok (.iadd, 1) := by decide +kernel
theorem dL_setDeviation_10 : decode cL_setDeviation 10 = .ok (.ireturn, 1) := by decide +kernel
theorem dL_setDeviation_11 : decode cL_setDeviation 11 = .ok (.astore 4, 2) := by decide +kernel
theorem dL_setDeviation_13 : decode cL_setDeviation 13 = .ok (.iconst (-1), 1) := by decide +kernel
theorem dL_setDeviation_14 : decode cL_setDeviation 14 = .ok (.ireturn, 1) := by decide +kernel
theorem dL_setDeviation_15 : decode cL_setDeviation 15 = .ok (.astore 4, 2) := by decide +kernel
theorem dL_setDeviation_17 : decode cL_setDeviation 17 = .ok (.bipush (-2), 2) := by decide +kernel
theorem dL_setDeviation_19 : decode cL_setDeviation 19 = .ok (.ireturn, 1) := by decide +kernel
theorem dL_setDeviation_20 : decode cL_setDeviation 20 = .ok (.astore 4, 2) := by decide +kernel
theorem dL_setDeviation_22 : decode cL_setDeviation 22 = .ok (.bipush (-3), 2) := by decide +kernel
theorem dL_setDeviation_24 : decode cL_setDeviation 24 = .ok (.ireturn, 1) := by decide +kernel
theorem dL_shift_0 : decode cL_shift 0 = .ok (.aload_n 0, 1) := by decide +kernel
theorem dL_shift_1 : decode cL_shift 1 = .ok (.iload_n 1, 1) := by decide +kernel
theorem dL_shift_2 : decode cL_shift 2 = .ok (.iload_n 2, 1) := by decide +kernel
theorem dL_shift_3 : decode cL_shift 3 = .ok (.invokevirtual 23, 3) := by decide +kernel
theorem dL_shift_6 : decode cL_shift 6 = .ok (.ireturn, 1) := by decide +kernel
theorem dL_shift_7 : decode cL_shift 7 = .ok (.astore_n 3, 1) := by decide +kernel
theorem dL_shift_8 : decode cL_shift 8 = .ok (.iconst (-1), 1) := by decide +kernel
theorem dL_shift_9 : decode cL_shift 9 = .ok (.ireturn, 1) := by decide +kernel
theorem dL_shift_10 : decode cL_shift 10 = .ok (.astore_n 3, 1) := by decide +kernel
theorem dL_shift_11 : decode cL_shift 11 = .ok (.bipush (-2), 2) := by decide +kernel
theorem dL_shift_13 : decode cL_shift 13 = .ok (.ireturn, 1) := by decide +kernel
theorem dL_shift_14 : decode cL_shift 14 = .ok (.astore_n 3, 1) := by decide +kernel
theorem dL_shift_15 : decode cL_shift 15 = .ok (.bipush (-3), 2) := by decide +kernel
theorem dL_shift_17 : decode cL_shift 17 = .ok (.ireturn, 1) := by decide +kernel
theorem dL_shift_18 : decode cL_shift 18 = .ok (.astore_n 3, 1) := by decide +kernel
theorem dL_shift_19 : decode cL_shift 19 = .ok (.bipush (-4), 2) := by decide +kernel
theorem dL_shift_21 : decode cL_shift 21 = .ok (.ireturn, 1) := by decide +kernel
theorem dL_correct_0 : decode cL_correct 0 = .ok (.bipush 100, 2) := by decide +kernel
theorem dL_correct_2 : decode cL_correct 2 = .ok (.aload_n 0, 1) := by decide +kernel
theorem dL_correct_3 : decode cL_correct 3 = .ok (.iload_n 1, 1) := by decide +kernel
theorem dL_correct_4 : decode cL_correct 4 = .ok (.invokevirtual 29, 3) := by decide +kernel
theorem dL_correct_7 : decode cL_correct 7 = .ok (.iadd, 1) := by decide +kernel
theorem dL_correct_8 : decode cL_correct 8 = .ok (.ireturn, 1) := by decide +kernel
theorem dL_correct_9 : decode cL_correct 9 = .ok (.astore_n 2, 1) := by decide +kernel
theorem dL_correct_10 : decode cL_correct 10 = .ok (.iconst (-1), 1) := by decide +kernel
theorem dL_correct_11 : decode cL_correct 11 = .ok (.ireturn, 1) := by decide +kernel
theorem dL_correct_12 : decode cL_correct 12 = .ok (.astore_n 2, 1) := by decide +kernel
theorem dL_correct_13 : decode cL_correct 13 = .ok (.bipush (-2), 2) := by decide +kernel
theorem dL_correct_15 : decode cL_correct 15 = .ok (.ireturn, 1) := by decide +kernel
theorem dL_correct_16 : decode cL_correct 16 = .ok (.astore_n 2, 1) := by decide +kernel
theorem dL_correct_17 : decode cL_correct 17 = .ok (.bipush (-3), 2) := by decide +kernel
theorem dL_correct_19 : decode cL_correct 19 = .ok (.ireturn, 1) := by decide +kernel
theorem dL_discard_0 : decode cL_discard 0 = .ok (.aload_n 0, 1) := by decide +kernel
theorem dL_discard_1 : decode cL_discard 1 = .ok (.iload_n 1, 1) := by decide +kernel
theorem dL_discard_2 : decode cL_discard 2 = .ok (.invokevirtual 32, 3) := by decide +kernel
theorem dL_discard_5 : decode cL_discard 5 = .ok (.ireturn, 1) := by decide +kernel
theorem dL_discard_6 : decode cL_discard 6 = .ok (.astore_n 2, 1) := by decide +kernel
theorem dL_discard_7 : decode cL_discard 7 = .ok (.iconst (-1), 1) := by decide +kernel
theorem dL_discard_8 : decode cL_discard 8 = .ok (.ireturn, 1) := by decide +kernel
theorem dL_discard_9 : decode cL_discard 9 = .ok (.astore_n 2, 1) := by decide +kernel
theorem dL_discard_10 : decode cL_discard 10 = .ok (.bipush (-2), 2) := by decide +kernel
theorem dL_discard_12 : decode cL_discard 12 = .ok (.ireturn, 1) := by decide +kernel
theorem dL_setTolerance_0 : decode cL_setTolerance 0 = .ok (.aload_n 0, 1) := by decide +kernel
theorem dL_setTolerance_1 : decode cL_setTolerance 1 = .ok (.iload_n 1, 1) := by decide +kernel
theorem dL_setTolerance_2 : decode cL_setTolerance 2 = .ok (.invokevirtual 35, 3) := by decide +kernel
theorem dL_setTolerance_5 : decode cL_setTolerance 5 = .ok (.ireturn, 1) := by decide +kernel
theorem dL_setTolerance_6 : decode cL_setTolerance 6 = .ok (.astore_n 2, 1) := by decide +kernel
theorem dL_setTolerance_7 : decode cL_setTolerance 7 = .ok (.iconst (-1), 1) := by decide +kernel
theorem dL_setTolerance_8 : decode cL_setTolerance 8 = .ok (.ireturn, 1) := by decide +kernel
theorem dL_strengthOf_0 : decode cL_strengthOf 0 = .ok (.aload_n 0, 1) := by decide +kernel
theorem dL_strengthOf_1 : decode cL_strengthOf 1 = .ok (.iload_n 1, 1) := by decide +kernel
theorem dL_strengthOf_2 : decode cL_strengthOf 2 = .ok (.invokevirtual 38, 3) := by decide +kernel
theorem dL_strengthOf_5 : decode cL_strengthOf 5 = .ok (.ireturn, 1) := by decide +kernel
theorem dL_strengthOf_6 : decode cL_strengthOf 6 = .ok (.astore_n 2, 1) := by decide +kernel
theorem dL_strengthOf_7 : decode cL_strengthOf 7 = .ok (.iconst (-1), 1) := by decide +kernel
theorem dL_strengthOf_8 : decode cL_strengthOf 8 = .ok (.ireturn, 1) := by decide +kernel
theorem dL_isDiscarded_0 : decode cL_isDiscarded 0 = .ok (.aload_n 0, 1) := by decide +kernel
theorem dL_isDiscarded_1 : decode cL_isDiscarded 1 = .ok (.iload_n 1, 1) := by decide +kernel
theorem dL_isDiscarded_2 : decode cL_isDiscarded 2 = .ok (.invokevirtual 41, 3) := by decide +kernel
theorem dL_isDiscarded_5 : decode cL_isDiscarded 5 = .ok (.ifCond .eq 7, 3) := by decide +kernel
theorem dL_isDiscarded_8 : decode cL_isDiscarded 8 = .ok (.iconst 1, 1) := by decide +kernel
theorem dL_isDiscarded_9 : decode cL_isDiscarded 9 = .ok (.goto 4, 3) := by decide +kernel
theorem dL_isDiscarded_12 : decode cL_isDiscarded 12 = .ok (.iconst 0, 1) := by decide +kernel
theorem dL_isDiscarded_13 : decode cL_isDiscarded 13 = .ok (.ireturn, 1) := by decide +kernel
theorem dL_isDiscarded_14 : decode cL_isDiscarded 14 = .ok (.astore_n 2, 1) := by decide +kernel
theorem dL_isDiscarded_15 : decode cL_isDiscarded 15 = .ok (.iconst (-1), 1) := by decide +kernel
theorem dL_isDiscarded_16 : decode cL_isDiscarded 16 = .ok (.ireturn, 1) := by decide +kernel
theorem dL_isReject_0 : decode cL_isReject 0 = .ok (.aload_n 0, 1) := by decide +kernel
theorem dL_isReject_1 : decode cL_isReject 1 = .ok (.iload_n 1, 1) := by decide +kernel
theorem dL_isReject_2 : decode cL_isReject 2 = .ok (.invokevirtual 45, 3) := by decide +kernel
theorem dL_isReject_5 : decode cL_isReject 5 = .ok (.ifCond .eq 7, 3) := by decide +kernel
theorem dL_isReject_8 : decode cL_isReject 8 = .ok (.iconst 1, 1) := by decide +kernel
theorem dL_isReject_9 : decode cL_isReject 9 = .ok (.goto 4, 3) := by decide +kernel
theorem dL_isReject_12 : decode cL_isReject 12 = .ok (.iconst 0, 1) := by decide +kernel
theorem dL_isReject_13 : decode cL_isReject 13 = .ok (.ireturn, 1) := by decide +kernel
theorem dL_isReject_14 : decode cL_isReject 14 = .ok (.astore_n 2, 1) := by decide +kernel
theorem dL_isReject_15 : decode cL_isReject 15 = .ok (.iconst (-1), 1) := by decide +kernel
theorem dL_isReject_16 : decode cL_isReject 16 = .ok (.ireturn, 1) := by decide +kernel
theorem dL_deviationAt_0 : decode cL_deviationAt 0 = .ok (.bipush 100, 2) := by decide +kernel
theorem dL_deviationAt_2 : decode cL_deviationAt 2 = .ok (.aload_n 0, 1) := by decide +kernel
theorem dL_deviationAt_3 : decode cL_deviationAt 3 = .ok (.iload_n 1, 1) := by decide +kernel
theorem dL_deviationAt_4 : decode cL_deviationAt 4 = .ok (.iload_n 2, 1) := by decide +kernel
theorem dL_deviationAt_5 : decode cL_deviationAt 5 = .ok (.invokevirtual 48, 3) := by decide +kernel
theorem dL_deviationAt_8 : decode cL_deviationAt 8 = .ok (.iadd, 1) := by decide +kernel
theorem dL_deviationAt_9 : decode cL_deviationAt 9 = .ok (.ireturn, 1) := by decide +kernel
theorem dL_deviationAt_10 : decode cL_deviationAt 10 = .ok (.astore_n 3, 1) := by decide +kernel
theorem dL_deviationAt_11 : decode cL_deviationAt 11 = .ok (.iconst (-1), 1) := by decide +kernel
theorem dL_deviationAt_12 : decode cL_deviationAt 12 = .ok (.ireturn, 1) := by decide +kernel
theorem dL_deviationAt_13 : decode cL_deviationAt 13 = .ok (.astore_n 3, 1) := by decide +kernel
theorem dL_deviationAt_14 : decode cL_deviationAt 14 = .ok (.bipush (-2), 2) := by decide +kernel
theorem dL_deviationAt_16 : decode cL_deviationAt 16 = .ok (.ireturn, 1) := by decide +kernel
theorem dL_trueCourse_0 : decode cL_trueCourse 0 = .ok (.aload_n 0, 1) := by decide +kernel
theorem dL_trueCourse_1 : decode cL_trueCourse 1 = .ok (.iload_n 1, 1) := by decide +kernel
theorem dL_trueCourse_2 : decode cL_trueCourse 2 = .ok (.iload_n 2, 1) := by decide +kernel
theorem dL_trueCourse_3 : decode cL_trueCourse 3 = .ok (.invokevirtual 51, 3) := by decide +kernel
theorem dL_trueCourse_6 : decode cL_trueCourse 6 = .ok (.ireturn, 1) := by decide +kernel
theorem dL_trueCourse_7 : decode cL_trueCourse 7 = .ok (.astore_n 3, 1) := by decide +kernel
theorem dL_trueCourse_8 : decode cL_trueCourse 8 = .ok (.iconst (-1), 1) := by decide +kernel
theorem dL_trueCourse_9 : decode cL_trueCourse 9 = .ok (.ireturn, 1) := by decide +kernel
theorem dL_trueCourse_10 : decode cL_trueCourse 10 = .ok (.astore_n 3, 1) := by decide +kernel
theorem dL_trueCourse_11 : decode cL_trueCourse 11 = .ok (.bipush (-2), 2) := by decide +kernel
theorem dL_trueCourse_13 : decode cL_trueCourse 13 = .ok (.ireturn, 1) := by decide +kernel
theorem dL_courseFor_0 : decode cL_courseFor 0 = .ok (.aload_n 0, 1) := by decide +kernel
theorem dL_courseFor_1 : decode cL_courseFor 1 = .ok (.iload_n 1, 1) := by decide +kernel
theorem dL_courseFor_2 : decode cL_courseFor 2 = .ok (.iload_n 2, 1) := by decide +kernel
theorem dL_courseFor_3 : decode cL_courseFor 3 = .ok (.invokevirtual 54, 3) := by decide +kernel
theorem dL_courseFor_6 : decode cL_courseFor 6 = .ok (.ireturn, 1) := by decide +kernel
theorem dL_courseFor_7 : decode cL_courseFor 7 = .ok (.astore_n 3, 1) := by decide +kernel
theorem dL_courseFor_8 : decode cL_courseFor 8 = .ok (.iconst (-1), 1) := by decide +kernel
theorem dL_courseFor_9 : decode cL_courseFor 9 = .ok (.ireturn, 1) := by decide +kernel
theorem dL_courseFor_10 : decode cL_courseFor 10 = .ok (.astore_n 3, 1) := by decide +kernel
theorem dL_courseFor_11 : decode cL_courseFor 11 = .ok (.bipush (-2), 2) := by decide +kernel
theorem dL_courseFor_13 : decode cL_courseFor 13 = .ok (.ireturn, 1) := by decide +kernel
theorem dL_courseFor_14 : decode cL_courseFor 14 = .ok (.astore_n 3, 1) := by decide +kernel
theorem dL_courseFor_15 : decode cL_courseFor 15 = .ok (.bipush (-3), 2) := by decide +kernel
theorem dL_courseFor_17 : decode cL_courseFor 17 = .ok (.ireturn, 1) := by decide +kernel
theorem dL_courseForNearby_0 : decode cL_courseForNearby 0 = .ok (.aload_n 0, 1) := by decide +kernel
theorem dL_courseForNearby_1 : decode cL_courseForNearby 1 = .ok (.iload_n 1, 1) := by decide +kernel
theorem dL_courseForNearby_2 : decode cL_courseForNearby 2 = .ok (.iload_n 2, 1) := by decide +kernel
theorem dL_courseForNearby_3 : decode cL_courseForNearby 3 = .ok (.invokevirtual 59, 3) := by decide +kernel
theorem dL_courseForNearby_6 : decode cL_courseForNearby 6 = .ok (.ireturn, 1) := by decide +kernel
theorem dL_courseForNearby_7 : decode cL_courseForNearby 7 = .ok (.astore_n 3, 1) := by decide +kernel
theorem dL_courseForNearby_8 : decode cL_courseForNearby 8 = .ok (.iconst (-1), 1) := by decide +kernel
theorem dL_courseForNearby_9 : decode cL_courseForNearby 9 = .ok (.ireturn, 1) := by decide +kernel
theorem dL_courseForNearby_10 : decode cL_courseForNearby 10 = .ok (.astore_n 3, 1) := by decide +kernel
theorem dL_courseForNearby_11 : decode cL_courseForNearby 11 = .ok (.bipush (-2), 2) := by decide +kernel
theorem dL_courseForNearby_13 : decode cL_courseForNearby 13 = .ok (.ireturn, 1) := by decide +kernel
theorem dL_courseForNearby_14 : decode cL_courseForNearby 14 = .ok (.astore_n 3, 1) := by decide +kernel
theorem dL_courseForNearby_15 : decode cL_courseForNearby 15 = .ok (.bipush (-3), 2) := by decide +kernel
theorem dL_courseForNearby_17 : decode cL_courseForNearby 17 = .ok (.ireturn, 1) := by decide +kernel
theorem dL_missedCourses_0 : decode cL_missedCourses 0 = .ok (.aload_n 0, 1) := by decide +kernel
theorem dL_missedCourses_1 : decode cL_missedCourses 1 = .ok (.iload_n 1, 1) := by decide +kernel
theorem dL_missedCourses_2 : decode cL_missedCourses 2 = .ok (.invokevirtual 62, 3) := by decide +kernel
theorem dL_missedCourses_5 : decode cL_missedCourses 5 = .ok (.ireturn, 1) := by decide +kernel
theorem dL_missedCourses_6 : decode cL_missedCourses 6 = .ok (.astore_n 2, 1) := by decide +kernel
theorem dL_missedCourses_7 : decode cL_missedCourses 7 = .ok (.iconst (-1), 1) := by decide +kernel
theorem dL_missedCourses_8 : decode cL_missedCourses 8 = .ok (.ireturn, 1) := by decide +kernel
theorem dL_errorOf_0 : decode cL_errorOf 0 = .ok (.aload_n 0, 1) := by decide +kernel
theorem dL_errorOf_1 : decode cL_errorOf 1 = .ok (.iload_n 1, 1) := by decide +kernel
theorem dL_errorOf_2 : decode cL_errorOf 2 = .ok (.invokevirtual 65, 3) := by decide +kernel
theorem dL_errorOf_5 : decode cL_errorOf 5 = .ok (.ireturn, 1) := by decide +kernel
theorem dL_errorOf_6 : decode cL_errorOf 6 = .ok (.astore_n 2, 1) := by decide +kernel
theorem dL_errorOf_7 : decode cL_errorOf 7 = .ok (.iconst (-1), 1) := by decide +kernel
theorem dL_errorOf_8 : decode cL_errorOf 8 = .ok (.ireturn, 1) := by decide +kernel
theorem dL_bestShift_0 : decode cL_bestShift 0 = .ok (.bipush 100, 2) := by decide +kernel
theorem dL_bestShift_2 : decode cL_bestShift 2 = .ok (.aload_n 0, 1) := by decide +kernel
theorem dL_bestShift_3 : decode cL_bestShift 3 = .ok (.iload_n 1, 1) := by decide +kernel
theorem dL_bestShift_4 : decode cL_bestShift 4 = .ok (.invokevirtual 68, 3) := by decide +kernel
theorem dL_bestShift_7 : decode cL_bestShift 7 = .ok (.iadd, 1) := by decide +kernel
theorem dL_bestShift_8 : decode cL_bestShift 8 = .ok (.ireturn, 1) := by decide +kernel
theorem dL_bestShift_9 : decode cL_bestShift 9 = .ok (.astore_n 2, 1) := by decide +kernel
theorem dL_bestShift_10 : decode cL_bestShift 10 = .ok (.iconst (-1), 1) := by decide +kernel
theorem dL_bestShift_11 : decode cL_bestShift 11 = .ok (.ireturn, 1) := by decide +kernel
theorem dL_bestShiftBySum_0 : decode cL_bestShiftBySum 0 = .ok (.bipush 100, 2) := by decide +kernel
theorem dL_bestShiftBySum_2 : decode cL_bestShiftBySum 2 = .ok (.aload_n 0, 1) := by decide +kernel
theorem dL_bestShiftBySum_3 : decode cL_bestShiftBySum 3 = .ok (.iload_n 1, 1) := by decide +kernel
theorem dL_bestShiftBySum_4 : decode cL_bestShiftBySum 4 = .ok (.invokevirtual 71, 3) := by decide +kernel
theorem dL_bestShiftBySum_7 : decode cL_bestShiftBySum 7 = .ok (.iadd, 1) := by decide +kernel
theorem dL_bestShiftBySum_8 : decode cL_bestShiftBySum 8 = .ok (.ireturn, 1) := by decide +kernel
theorem dL_bestShiftBySum_9 : decode cL_bestShiftBySum 9 = .ok (.astore_n 2, 1) := by decide +kernel
theorem dL_bestShiftBySum_10 : decode cL_bestShiftBySum 10 = .ok (.iconst (-1), 1) := by decide +kernel
theorem dL_bestShiftBySum_11 : decode cL_bestShiftBySum 11 = .ok (.ireturn, 1) := by decide +kernel
theorem dL_needleAtRank_0 : decode cL_needleAtRank 0 = .ok (.aload_n 0, 1) := by decide +kernel
theorem dL_needleAtRank_1 : decode cL_needleAtRank 1 = .ok (.iload_n 1, 1) := by decide +kernel
theorem dL_needleAtRank_2 : decode cL_needleAtRank 2 = .ok (.invokevirtual 74, 3) := by decide +kernel
theorem dL_needleAtRank_5 : decode cL_needleAtRank 5 = .ok (.ireturn, 1) := by decide +kernel
theorem dL_needleAtRank_6 : decode cL_needleAtRank 6 = .ok (.astore_n 2, 1) := by decide +kernel
theorem dL_needleAtRank_7 : decode cL_needleAtRank 7 = .ok (.iconst (-1), 1) := by decide +kernel
theorem dL_needleAtRank_8 : decode cL_needleAtRank 8 = .ok (.ireturn, 1) := by decide +kernel
theorem dL_meanError_0 : decode cL_meanError 0 = .ok (.aload_n 0, 1) := by decide +kernel
theorem dL_meanError_1 : decode cL_meanError 1 = .ok (.invokevirtual 77, 3) := by decide +kernel
theorem dL_meanError_4 : decode cL_meanError 4 = .ok (.dreturn, 1) := by decide +kernel
theorem dL_meanError_5 : decode cL_meanError 5 = .ok (.astore_n 1, 1) := by decide +kernel
theorem dL_meanError_6 : decode cL_meanError 6 = .ok (.ldc2_w 83, 3) := by decide +kernel
theorem dL_meanError_9 : decode cL_meanError 9 = .ok (.dreturn, 1) := by decide +kernel
theorem dL_partnerOf_0 : decode cL_partnerOf 0 = .ok (.aload_n 0, 1) := by decide +kernel
theorem dL_partnerOf_1 : decode cL_partnerOf 1 = .ok (.iload_n 1, 1) := by decide +kernel
theorem dL_partnerOf_2 : decode cL_partnerOf 2 = .ok (.invokevirtual 85, 3) := by decide +kernel
theorem dL_partnerOf_5 : decode cL_partnerOf 5 = .ok (.ireturn, 1) := by decide +kernel
theorem dL_partnerOf_6 : decode cL_partnerOf 6 = .ok (.astore_n 2, 1) := by decide +kernel
theorem dL_partnerOf_7 : decode cL_partnerOf 7 = .ok (.iconst (-1), 1) := by decide +kernel
theorem dL_partnerOf_8 : decode cL_partnerOf 8 = .ok (.ireturn, 1) := by decide +kernel
theorem dL_partnerOf_9 : decode cL_partnerOf 9 = .ok (.astore_n 2, 1) := by decide +kernel
theorem dL_partnerOf_10 : decode cL_partnerOf 10 = .ok (.bipush (-2), 2) := by decide +kernel
theorem dL_partnerOf_12 : decode cL_partnerOf 12 = .ok (.ireturn, 1) := by decide +kernel
theorem dL_addBatch_0 : decode cL_addBatch 0 = .ok (.aload_n 0, 1) := by decide +kernel
theorem dL_addBatch_1 : decode cL_addBatch 1 = .ok (.iload_n 1, 1) := by decide +kernel
theorem dL_addBatch_2 : decode cL_addBatch 2 = .ok (.iload_n 2, 1) := by decide +kernel
theorem dL_addBatch_3 : decode cL_addBatch 3 = .ok (.iload_n 3, 1) := by decide +kernel
theorem dL_addBatch_4 : decode cL_addBatch 4 = .ok (.invokevirtual 88, 3) := by decide +kernel
theorem dL_addBatch_7 : decode cL_addBatch 7 = .ok (.ireturn, 1) := by decide +kernel
theorem dL_addBatch_8 : decode cL_addBatch 8 = .ok (.astore 4, 2) := by decide +kernel
theorem dL_addBatch_10 : decode cL_addBatch 10 = .ok (.iconst (-1), 1) := by decide +kernel
theorem dL_addBatch_11 : decode cL_addBatch 11 = .ok (.ireturn, 1) := by decide +kernel
theorem dL_addBatch_12 : decode cL_addBatch 12 = .ok (.astore 4, 2) := by decide +kernel
theorem dL_addBatch_14 : decode cL_addBatch 14 = .ok (.bipush (-2), 2) := by decide +kernel
theorem dL_addBatch_16 : decode cL_addBatch 16 = .ok (.ireturn, 1) := by decide +kernel
theorem dL_dropBatch_0 : decode cL_dropBatch 0 = .ok (.aload_n 0, 1) := by decide +kernel
theorem dL_dropBatch_1 : decode cL_dropBatch 1 = .ok (.iload_n 1, 1) := by decide +kernel
theorem dL_dropBatch_2 : decode cL_dropBatch 2 = .ok (.invokevirtual 91, 3) := by decide +kernel
theorem dL_dropBatch_5 : decode cL_dropBatch 5 = .ok (.ireturn, 1) := by decide +kernel
theorem dL_dropBatch_6 : decode cL_dropBatch 6 = .ok (.astore_n 2, 1) := by decide +kernel
theorem dL_dropBatch_7 : decode cL_dropBatch 7 = .ok (.iconst (-1), 1) := by decide +kernel
theorem dL_dropBatch_8 : decode cL_dropBatch 8 = .ok (.ireturn, 1) := by decide +kernel
theorem dL_bake_0 : decode cL_bake 0 = .ok (.aload_n 0, 1) := by decide +kernel
theorem dL_bake_1 : decode cL_bake 1 = .ok (.iload_n 1, 1) := by decide +kernel
theorem dL_bake_2 : decode cL_bake 2 = .ok (.invokevirtual 94, 3) := by decide +kernel
theorem dL_bake_5 : decode cL_bake 5 = .ok (.ireturn, 1) := by decide +kernel
theorem dL_bake_6 : decode cL_bake 6 = .ok (.astore_n 2, 1) := by decide +kernel
theorem dL_bake_7 : decode cL_bake 7 = .ok (.iconst (-1), 1) := by decide +kernel
theorem dL_bake_8 : decode cL_bake 8 = .ok (.ireturn, 1) := by decide +kernel
theorem dL_rest_0 : decode cL_rest 0 = .ok (.aload_n 0, 1) := by decide +kernel
theorem dL_rest_1 : decode cL_rest 1 = .ok (.iload_n 1, 1) := by decide +kernel
theorem dL_rest_2 : decode cL_rest 2 = .ok (.invokevirtual 97, 3) := by decide +kernel
theorem dL_rest_5 : decode cL_rest 5 = .ok (.ireturn, 1) := by decide +kernel
theorem dL_rest_6 : decode cL_rest 6 = .ok (.astore_n 2, 1) := by decide +kernel
theorem dL_rest_7 : decode cL_rest 7 = .ok (.iconst (-1), 1) := by decide +kernel
theorem dL_rest_8 : decode cL_rest 8 = .ok (.ireturn, 1) := by decide +kernel
theorem dL_batchAt_0 : decode cL_batchAt 0 = .ok (.aload_n 0, 1) := by decide +kernel
theorem dL_batchAt_1 : decode cL_batchAt 1 = .ok (.iload_n 1, 1) := by decide +kernel
theorem dL_batchAt_2 : decode cL_batchAt 2 = .ok (.invokevirtual 100, 3) := by decide +kernel
theorem dL_batchAt_5 : decode cL_batchAt 5 = .ok (.ireturn, 1) := by decide +kernel
theorem dL_batchAt_6 : decode cL_batchAt 6 = .ok (.astore_n 2, 1) := by decide +kernel
theorem dL_batchAt_7 : decode cL_batchAt 7 = .ok (.iconst (-1), 1) := by decide +kernel
theorem dL_batchAt_8 : decode cL_batchAt 8 = .ok (.ireturn, 1) := by decide +kernel
theorem dL_latenessNow_0 : decode cL_latenessNow 0 = .ok (.aload_n 0, 1) := by decide +kernel
theorem dL_latenessNow_1 : decode cL_latenessNow 1 = .ok (.iload_n 1, 1) := by decide +kernel
theorem dL_latenessNow_2 : decode cL_latenessNow 2 = .ok (.invokevirtual 103, 3) := by decide +kernel
theorem dL_latenessNow_5 : decode cL_latenessNow 5 = .ok (.ireturn, 1) := by decide +kernel
theorem dL_latenessNow_6 : decode cL_latenessNow 6 = .ok (.astore_n 2, 1) := by decide +kernel
theorem dL_latenessNow_7 : decode cL_latenessNow 7 = .ok (.iconst (-1), 1) := by decide +kernel
theorem dL_latenessNow_8 : decode cL_latenessNow 8 = .ok (.ireturn, 1) := by decide +kernel
theorem dL_bestFirst_0 : decode cL_bestFirst 0 = .ok (.aload_n 0, 1) := by decide +kernel
theorem dL_bestFirst_1 : decode cL_bestFirst 1 = .ok (.invokevirtual 106, 3) := by decide +kernel
theorem dL_bestFirst_4 : decode cL_bestFirst 4 = .ok (.ireturn, 1) := by decide +kernel
theorem dL_bestFirst_5 : decode cL_bestFirst 5 = .ok (.astore_n 1, 1) := by decide +kernel
theorem dL_bestFirst_6 : decode cL_bestFirst 6 = .ok (.iconst (-1), 1) := by decide +kernel
theorem dL_bestFirst_7 : decode cL_bestFirst 7 = .ok (.ireturn, 1) := by decide +kernel
theorem dL_bakingShare_0 : decode cL_bakingShare 0 = .ok (.aload_n 0, 1) := by decide +kernel
theorem dL_bakingShare_1 : decode cL_bakingShare 1 = .ok (.invokevirtual 110, 3) := by decide +kernel
theorem dL_bakingShare_4 : decode cL_bakingShare 4 = .ok (.freturn, 1) := by decide +kernel
theorem dL_bakingShare_5 : decode cL_bakingShare 5 = .ok (.astore_n 1, 1) := by decide +kernel
theorem dL_bakingShare_6 : decode cL_bakingShare 6 = .ok (.ldc 114, 2) := by decide +kernel
theorem dL_bakingShare_8 : decode cL_bakingShare 8 = .ok (.freturn, 1) := by decide +kernel
theorem dL_writeLabel_0 : decode cL_writeLabel 0 = .ok (.aload_n 0, 1) := by decide +kernel
theorem dL_writeLabel_1 : decode cL_writeLabel 1 = .ok (.iload_n 1, 1) := by decide +kernel
theorem dL_writeLabel_2 : decode cL_writeLabel 2 = .ok (.invokevirtual 115, 3) := by decide +kernel
theorem dL_writeLabel_5 : decode cL_writeLabel 5 = .ok (.ireturn, 1) := by decide +kernel
theorem dL_writeLabel_6 : decode cL_writeLabel 6 = .ok (.astore_n 2, 1) := by decide +kernel
theorem dL_writeLabel_7 : decode cL_writeLabel 7 = .ok (.iconst (-1), 1) := by decide +kernel
theorem dL_writeLabel_8 : decode cL_writeLabel 8 = .ok (.ireturn, 1) := by decide +kernel
theorem dL_labelAt_0 : decode cL_labelAt 0 = .ok (.aload_n 0, 1) := by decide +kernel
theorem dL_labelAt_1 : decode cL_labelAt 1 = .ok (.iload_n 1, 1) := by decide +kernel
theorem dL_labelAt_2 : decode cL_labelAt 2 = .ok (.invokevirtual 118, 3) := by decide +kernel
theorem dL_labelAt_5 : decode cL_labelAt 5 = .ok (.ireturn, 1) := by decide +kernel
theorem dL_labelAt_6 : decode cL_labelAt 6 = .ok (.astore_n 2, 1) := by decide +kernel
theorem dL_labelAt_7 : decode cL_labelAt 7 = .ok (.iconst (-1), 1) := by decide +kernel
theorem dL_labelAt_8 : decode cL_labelAt 8 = .ok (.ireturn, 1) := by decide +kernel
theorem dL_type_0 : decode cL_type 0 = .ok (.aload_n 0, 1) := by decide +kernel
theorem dL_type_1 : decode cL_type 1 = .ok (.iload_n 1, 1) := by decide +kernel
theorem dL_type_2 : decode cL_type 2 = .ok (.invokevirtual 122, 3) := by decide +kernel
theorem dL_type_5 : decode cL_type 5 = .ok (.ireturn, 1) := by decide +kernel
theorem dL_type_6 : decode cL_type 6 = .ok (.astore_n 2, 1) := by decide +kernel
theorem dL_type_7 : decode cL_type 7 = .ok (.iconst (-1), 1) := by decide +kernel
theorem dL_type_8 : decode cL_type 8 = .ok (.ireturn, 1) := by decide +kernel
theorem dL_type_9 : decode cL_type 9 = .ok (.astore_n 2, 1) := by decide +kernel
theorem dL_type_10 : decode cL_type 10 = .ok (.bipush (-2), 2) := by decide +kernel
theorem dL_type_12 : decode cL_type 12 = .ok (.ireturn, 1) := by decide +kernel
theorem dL_execute_0 : decode cL_execute 0 = .ok (.aload_n 0, 1) := by decide +kernel
theorem dL_execute_1 : decode cL_execute 1 = .ok (.invokevirtual 126, 3) := by decide +kernel
theorem dL_execute_4 : decode cL_execute 4 = .ok (.ireturn, 1) := by decide +kernel
theorem dL_execute_5 : decode cL_execute 5 = .ok (.astore_n 1, 1) := by decide +kernel
theorem dL_execute_6 : decode cL_execute 6 = .ok (.iconst (-1), 1) := by decide +kernel
theorem dL_execute_7 : decode cL_execute 7 = .ok (.ireturn, 1) := by decide +kernel
theorem dL_execute_8 : decode cL_execute 8 = .ok (.astore_n 1, 1) := by decide +kernel
theorem dL_execute_9 : decode cL_execute 9 = .ok (.bipush (-2), 2) := by decide +kernel
theorem dL_execute_11 : decode cL_execute 11 = .ok (.ireturn, 1) := by decide +kernel
theorem dL_errorPosition_0 : decode cL_errorPosition 0 = .ok (.aload_n 0, 1) := by decide +kernel
theorem dL_errorPosition_1 : decode cL_errorPosition 1 = .ok (.invokevirtual 129, 3) := by decide +kernel
theorem dL_errorPosition_4 : decode cL_errorPosition 4 = .ok (.ireturn, 1) := by decide +kernel
theorem dL_errorPosition_5 : decode cL_errorPosition 5 = .ok (.astore_n 1, 1) := by decide +kernel
theorem dL_errorPosition_6 : decode cL_errorPosition 6 = .ok (.iconst (-1), 1) := by decide +kernel
theorem dL_errorPosition_7 : decode cL_errorPosition 7 = .ok (.ireturn, 1) := by decide +kernel
theorem dL_failedCommand_0 : decode cL_failedCommand 0 = .ok (.aload_n 0, 1) := by decide +kernel
theorem dL_failedCommand_1 : decode cL_failedCommand 1 = .ok (.invokevirtual 132, 3) := by decide +kernel
theorem dL_failedCommand_4 : decode cL_failedCommand 4 = .ok (.ireturn, 1) := by decide +kernel
theorem dL_failedCommand_5 : decode cL_failedCommand 5 = .ok (.astore_n 1, 1) := by decide +kernel
theorem dL_failedCommand_6 : decode cL_failedCommand 6 = .ok (.iconst (-1), 1) := by decide +kernel
theorem dL_failedCommand_7 : decode cL_failedCommand 7 = .ok (.ireturn, 1) := by decide +kernel
theorem dL_undo_0 : decode cL_undo 0 = .ok (.aload_n 0, 1) := by decide +kernel
theorem dL_undo_1 : decode cL_undo 1 = .ok (.invokevirtual 135, 3) := by decide +kernel
theorem dL_undo_4 : decode cL_undo 4 = .ok (.ireturn, 1) := by decide +kernel
theorem dL_undo_5 : decode cL_undo 5 = .ok (.astore_n 1, 1) := by decide +kernel
theorem dL_undo_6 : decode cL_undo 6 = .ok (.iconst (-1), 1) := by decide +kernel
theorem dL_undo_7 : decode cL_undo 7 = .ok (.ireturn, 1) := by decide +kernel
theorem dL_restore_0 : decode cL_restore 0 = .ok (.aload_n 0, 1) := by decide +kernel
theorem dL_restore_1 : decode cL_restore 1 = .ok (.invokevirtual 138, 3) := by decide +kernel
theorem dL_restore_4 : decode cL_restore 4 = .ok (.ireturn, 1) := by decide +kernel
theorem dL_restore_5 : decode cL_restore 5 = .ok (.astore_n 1, 1) := by decide +kernel
theorem dL_restore_6 : decode cL_restore 6 = .ok (.iconst (-1), 1) := by decide +kernel
theorem dL_restore_7 : decode cL_restore 7 = .ok (.ireturn, 1) := by decide +kernel
theorem dL_said_0 : decode cL_said 0 = .ok (.new 141, 3) := by decide +kernel
theorem dL_said_3 : decode cL_said 3 = .ok (.dup, 1) := by decide +kernel
theorem dL_said_4 : decode cL_said 4 = .ok (.invokespecial 143, 3) := by decide +kernel
theorem dL_said_7 : decode cL_said 7 = .ok (.astore_n 2, 1) := by decide +kernel
theorem dL_said_8 : decode cL_said 8 = .ok (.iconst 0, 1) := by decide +kernel
theorem dL_said_9 : decode cL_said 9 = .ok (.istore_n 3, 1) := by decide +kernel
theorem dL_said_10 : decode cL_said 10 = .ok (.iload_n 3, 1) := by decide +kernel
theorem dL_said_11 : decode cL_said 11 = .ok (.iload_n 1, 1) := by decide +kernel
theorem dL_said_12 : decode cL_said 12 = .ok (.if_icmp .ge 20, 3) := by decide +kernel
theorem dL_said_15 : decode cL_said 15 = .ok (.aload_n 2, 1) := by decide +kernel
theorem dL_said_16 : decode cL_said 16 = .ok (.aload_n 0, 1) := by decide +kernel
theorem dL_said_17 : decode cL_said 17 = .ok (.iload_n 3, 1) := by decide +kernel
theorem dL_said_18 : decode cL_said 18 = .ok (.invokestatic 144, 3) := by decide +kernel
theorem dL_said_21 : decode cL_said 21 = .ok (.i2c, 1) := by decide +kernel
theorem dL_said_22 : decode cL_said 22 = .ok (.invokevirtual 149, 3) := by decide +kernel
theorem dL_said_25 : decode cL_said 25 = .ok (.pop, 1) := by decide +kernel
theorem dL_said_26 : decode cL_said 26 = .ok (.iinc 3 1, 3) := by decide +kernel
theorem dL_said_29 : decode cL_said 29 = .ok (.goto (-19), 3) := by decide +kernel
theorem dL_said_32 : decode cL_said 32 = .ok (.aload_n 2, 1) := by decide +kernel
theorem dL_said_33 : decode cL_said 33 = .ok (.invokevirtual 153, 3) := by decide +kernel
theorem dL_said_36 : decode cL_said 36 = .ok (.areturn, 1) := by decide +kernel
theorem dL_some_0 : decode cL_some 0 = .ok (.aload_n 0, 1) := by decide +kernel
theorem dL_some_1 : decode cL_some 1 = .ok (.bipush 25, 2) := by decide +kernel
theorem dL_some_3 : decode cL_some 3 = .ok (.invokevirtual 168, 3) := by decide +kernel
theorem dL_some_6 : decode cL_some 6 = .ok (.ifCond .ne 7, 3) := by decide +kernel
theorem dL_some_9 : decode cL_some 9 = .ok (.iload_n 1, 1) := by decide +kernel
theorem dL_some_10 : decode cL_some 10 = .ok (.goto 12, 3) := by decide +kernel
theorem dL_some_13 : decode cL_some 13 = .ok (.aload_n 0, 1) := by decide +kernel
theorem dL_some_14 : decode cL_some 14 = .ok (.iconst 1, 1) := by decide +kernel
theorem dL_some_15 : decode cL_some 15 = .ok (.iload_n 1, 1) := by decide +kernel
theorem dL_some_16 : decode cL_some 16 = .ok (.invokestatic 173, 3) := by decide +kernel
theorem dL_some_19 : decode cL_some 19 = .ok (.invokevirtual 168, 3) := by decide +kernel
theorem dL_some_22 : decode cL_some 22 = .ok (.ireturn, 1) := by decide +kernel
theorem dL_batch_0 : decode cL_batch 0 = .ok (.aload_n 0, 1) := by decide +kernel
theorem dL_batch_1 : decode cL_batch 1 = .ok (.invokevirtual 178, 3) := by decide +kernel
theorem dL_batch_4 : decode cL_batch 4 = .ok (.istore_n 2, 1) := by decide +kernel
theorem dL_batch_5 : decode cL_batch 5 = .ok (.iload_n 2, 1) := by decide +kernel
theorem dL_batch_6 : decode cL_batch 6 = .ok (.ifCond .eq 12, 3) := by decide +kernel
theorem dL_batch_9 : decode cL_batch 9 = .ok (.aload_n 1, 1) := by decide +kernel
theorem dL_batch_10 : decode cL_batch 10 = .ok (.bipush 20, 2) := by decide +kernel
theorem dL_batch_12 : decode cL_batch 12 = .ok (.invokevirtual 168, 3) := by decide +kernel
theorem dL_batch_15 : decode cL_batch 15 = .ok (.ifCond .ne 12, 3) := by decide +kernel
theorem dL_batch_18 : decode cL_batch 18 = .ok (.aload_n 1, 1) := by decide +kernel
theorem dL_batch_19 : decode cL_batch 19 = .ok (.bipush 9, 2) := by decide +kernel
theorem dL_batch_21 : decode cL_batch 21 = .ok (.invokevirtual 168, 3) := by decide +kernel
theorem dL_batch_24 : decode cL_batch 24 = .ok (.goto 12, 3) := by decide +kernel
theorem dL_batch_27 : decode cL_batch 27 = .ok (.aload_n 0, 1) := by decide +kernel
theorem dL_batch_28 : decode cL_batch 28 = .ok (.aload_n 1, 1) := by decide +kernel
theorem dL_batch_29 : decode cL_batch 29 = .ok (.iload_n 2, 1) := by decide +kernel
theorem dL_batch_30 : decode cL_batch 30 = .ok (.invokevirtual 168, 3) := by decide +kernel
theorem dL_batch_33 : decode cL_batch 33 = .ok (.invokestatic 181, 3) := by decide +kernel
theorem dL_batch_36 : decode cL_batch 36 = .ok (.ireturn, 1) := by decide +kernel
theorem dL_degrees_0 : decode cL_degrees 0 = .ok (.aload_n 0, 1) := by decide +kernel
theorem dL_degrees_1 : decode cL_degrees 1 = .ok (.bipush 30, 2) := by decide +kernel
theorem dL_degrees_3 : decode cL_degrees 3 = .ok (.invokevirtual 168, 3) := by decide +kernel
theorem dL_degrees_6 : decode cL_degrees 6 = .ok (.ifCond .ne 8, 3) := by decide +kernel
theorem dL_degrees_9 : decode cL_degrees 9 = .ok (.bipush 21, 2) := by decide +kernel
theorem dL_degrees_11 : decode cL_degrees 11 = .ok (.goto 38, 3) := by decide +kernel
theorem dL_degrees_14 : decode cL_degrees 14 = .ok (.aload_n 0, 1) := by decide +kernel
theorem dL_degrees_15 : decode cL_degrees 15 = .ok (.aload_n 0, 1) := by decide +kernel
theorem dL_degrees_16 : decode cL_degrees 16 = .ok (.iconst 3, 1) := by decide +kernel
theorem dL_degrees_17 : decode cL_degrees 17 = .ok (.invokevirtual 168, 3) := by decide +kernel
theorem dL_degrees_20 : decode cL_degrees 20 = .ok (.ifCond .ne 8, 3) := by decide +kernel
theorem dL_degrees_23 : decode cL_degrees 23 = .ok (.bipush 41, 2) := by decide +kernel
theorem dL_degrees_25 : decode cL_degrees 25 = .ok (.goto 5, 3) := by decide +kernel
theorem dL_degrees_28 : decode cL_degrees 28 = .ok (.bipush 13, 2) := by decide +kernel
theorem dL_degrees_30 : decode cL_degrees 30 = .ok (.invokevirtual 168, 3) := by decide +kernel
theorem dL_degrees_33 : decode cL_degrees 33 = .ok (.aload_n 0, 1) := by decide +kernel
theorem dL_degrees_34 : decode cL_degrees 34 = .ok (.iconst 3, 1) := by decide +kernel
theorem dL_degrees_35 : decode cL_degrees 35 = .ok (.invokevirtual 168, 3) := by decide +kernel
theorem dL_degrees_38 : decode cL_degrees 38 = .ok (.ifCond .ne 8, 3) := by decide +kernel
theorem dL_degrees_41 : decode cL_degrees 41 = .ok (.bipush 20, 2) := by decide +kernel
theorem dL_degrees_43 : decode cL_degrees 43 = .ok (.goto 5, 3) := by decide +kernel
theorem dL_degrees_46 : decode cL_degrees 46 = .ok (.bipush 6, 2) := by decide +kernel
theorem dL_degrees_48 : decode cL_degrees 48 = .ok (.isub, 1) := by decide +kernel
theorem dL_degrees_49 : decode cL_degrees 49 = .ok (.ireturn, 1) := by decide +kernel
theorem dL_acts_0 : decode cL_acts 0 = .ok (.aload_n 2, 1) := by decide +kernel
theorem dL_acts_1 : decode cL_acts 1 = .ok (.aload_n 0, 1) := by decide +kernel
theorem dL_acts_2 : decode cL_acts 2 = .ok (.invokevirtual 183, 3) := by decide +kernel
theorem dL_acts_5 : decode cL_acts 5 = .ok (.invokestatic 186, 3) := by decide +kernel
theorem dL_acts_8 : decode cL_acts 8 = .ok (.istore_n 3, 1) := by decide +kernel
theorem dL_acts_9 : decode cL_acts 9 = .ok (.iload_n 1, 1) := by decide +kernel
theorem dL_acts_10 : decode cL_acts 10 = .ok (.bipush 36, 2) := by decide +kernel
theorem dL_acts_12 : decode cL_acts 12 = .ok (.irem, 1) := by decide +kernel
theorem dL_acts_13 : decode cL_acts 13 = .ok (.tableswitch 360 0 27 #[127, 127, 127, 167, 167, 167, 167, 167, 167, 167, 167, 167, 197, 197, 197, 221, 221, 221, 227, 233, 233, 258, 258, 258, 258, 258, 323, 333], 127) := by decide +kernel
theorem dL_acts_140 : decode cL_acts 140 = .ok (.aload_n 0, 1) := by decide +kernel
theorem dL_acts_141 : decode cL_acts 141 = .ok (.aload_n 2, 1) := by decide +kernel
theorem dL_acts_142 : decode cL_acts 142 = .ok (.bipush 30, 2) := by decide +kernel
theorem dL_acts_144 : decode cL_acts 144 = .ok (.invokevirtual 168, 3) := by decide +kernel
theorem dL_acts_147 : decode cL_acts 147 = .ok (.ifCond .ne 8, 3) := by decide +kernel
theorem dL_acts_150 : decode cL_acts 150 = .ok (.bipush 100, 2) := by decide +kernel
theorem dL_acts_152 : decode cL_acts 152 = .ok (.goto 24, 3) := by decide +kernel
theorem dL_acts_155 : decode cL_acts 155 = .ok (.iconst 1, 1) := by decide +kernel
theorem dL_acts_156 : decode cL_acts 156 = .ok (.aload_n 2, 1) := by decide +kernel
theorem dL_acts_157 : decode cL_acts 157 = .ok (.aload_n 2, 1) := by decide +kernel
theorem dL_acts_158 : decode cL_acts 158 = .ok (.iconst 3, 1) := by decide +kernel
theorem dL_acts_159 : decode cL_acts 159 = .ok (.invokevirtual 168, 3) := by decide +kernel
theorem dL_acts_162 : decode cL_acts 162 = .ok (.ifCond .ne 8, 3) := by decide +kernel
theorem dL_acts_165 : decode cL_acts 165 = .ok (.bipush 99, 2) := by decide +kernel
theorem dL_acts_167 : decode cL_acts 167 = .ok (.goto 5, 3) := by decide +kernel
theorem dL_acts_170 : decode cL_acts 170 = .ok (.bipush 12, 2) := by decide +kernel
theorem dL_acts_172 : decode cL_acts 172 = .ok (.invokevirtual 168, 3) := by decide +kernel
theorem dL_acts_175 : decode cL_acts 175 = .ok (.iadd, 1) := by decide +kernel
theorem dL_acts_176 : decode cL_acts 176 = .ok (.invokestatic 190, 3) := by decide +kernel
theorem dL_acts_179 : decode cL_acts 179 = .ok (.ireturn, 1) := by decide +kernel
theorem dL_acts_180 : decode cL_acts 180 = .ok (.aload_n 0, 1) := by decide +kernel
theorem dL_acts_181 : decode cL_acts 181 = .ok (.iload_n 3, 1) := by decide +kernel
theorem dL_acts_182 : decode cL_acts 182 = .ok (.aload_n 2, 1) := by decide +kernel
theorem dL_acts_183 : decode cL_acts 183 = .ok (.bipush 40, 2) := by decide +kernel
theorem dL_acts_185 : decode cL_acts 185 = .ok (.invokevirtual 168, 3) := by decide +kernel
theorem dL_acts_188 : decode cL_acts 188 = .ok (.ifCond .ne 8, 3) := by decide +kernel
theorem dL_acts_191 : decode cL_acts 191 = .ok (.bipush 8, 2) := by decide +kernel
theorem dL_acts_193 : decode cL_acts 193 = .ok (.goto 9, 3) := by decide +kernel
theorem dL_acts_196 : decode cL_acts 196 = .ok (.aload_n 2, 1) := by decide +kernel
theorem dL_acts_197 : decode cL_acts 197 = .ok (.bipush 8, 2) := by decide +kernel
theorem dL_acts_199 : decode cL_acts 199 = .ok (.invokevirtual 168, 3) := by decide +kernel
theorem dL_acts_202 : decode cL_acts 202 = .ok (.aload_n 2, 1) := by decide +kernel
theorem dL_acts_203 : decode cL_acts 203 = .ok (.invokestatic 192, 3) := by decide +kernel
theorem dL_acts_206 : decode cL_acts 206 = .ok (.invokestatic 196, 3) := by decide +kernel
theorem dL_acts_209 : decode cL_acts 209 = .ok (.ireturn, 1) := by decide +kernel
theorem dL_acts_210 : decode cL_acts 210 = .ok (.aload_n 0, 1) := by decide +kernel
theorem dL_acts_211 : decode cL_acts 211 = .ok (.iload_n 3, 1) := by decide +kernel
theorem dL_acts_212 : decode cL_acts 212 = .ok (.aload_n 2, 1) := by decide +kernel
theorem dL_acts_213 : decode cL_acts 213 = .ok (.bipush 30, 2) := by decide +kernel
theorem dL_acts_215 : decode cL_acts 215 = .ok (.invokevirtual 168, 3) := by decide +kernel
theorem dL_acts_218 : decode cL_acts 218 = .ok (.ifCond .ne 8, 3) := by decide +kernel
theorem dL_acts_221 : decode cL_acts 221 = .ok (.bipush 41, 2) := by decide +kernel
theorem dL_acts_223 : decode cL_acts 223 = .ok (.goto 7, 3) := by decide +kernel
theorem dL_acts_226 : decode cL_acts 226 = .ok (.aload_n 2, 1) := by decide +kernel
theorem dL_acts_227 : decode cL_acts 227 = .ok (.invokestatic 192, 3) := by decide +kernel
theorem dL_acts_230 : decode cL_acts 230 = .ok (.invokestatic 199, 3) := by decide +kernel
theorem dL_acts_233 : decode cL_acts 233 = .ok (.ireturn, 1) := by decide +kernel
theorem dL_acts_234 : decode cL_acts 234 = .ok (.aload_n 0, 1) := by decide +kernel
theorem dL_acts_235 : decode cL_acts 235 = .ok (.iload_n 3, 1) := by decide +kernel
theorem dL_acts_236 : decode cL_acts 236 = .ok (.invokestatic 202, 3) := by decide +kernel
theorem dL_acts_239 : decode cL_acts 239 = .ok (.ireturn, 1) := by decide +kernel
theorem dL_acts_240 : decode cL_acts 240 = .ok (.aload_n 0, 1) := by decide +kernel
theorem dL_acts_241 : decode cL_acts 241 = .ok (.iload_n 3, 1) := by decide +kernel
theorem dL_acts_242 : decode cL_acts 242 = .ok (.invokestatic 204, 3) := by decide +kernel
theorem dL_acts_245 : decode cL_acts 245 = .ok (.ireturn, 1) := by decide +kernel
theorem dL_acts_246 : decode cL_acts 246 = .ok (.aload_n 0, 1) := by decide +kernel
theorem dL_acts_247 : decode cL_acts 247 = .ok (.aload_n 2, 1) := by decide +kernel
theorem dL_acts_248 : decode cL_acts 248 = .ok (.bipush 30, 2) := by decide +kernel
theorem dL_acts_250 : decode cL_acts 250 = .ok (.invokevirtual 168, 3) := by decide +kernel
theorem dL_acts_253 : decode cL_acts 253 = .ok (.ifCond .ne 8, 3) := by decide +kernel
theorem dL_acts_256 : decode cL_acts 256 = .ok (.bipush 21, 2) := by decide +kernel
theorem dL_acts_258 : decode cL_acts 258 = .ok (.goto 9, 3) := by decide +kernel
theorem dL_acts_261 : decode cL_acts 261 = .ok (.aload_n 2, 1) := by decide +kernel
theorem dL_acts_262 : decode cL_acts 262 = .ok (.bipush 21, 2) := by decide +kernel
theorem dL_acts_264 : decode cL_acts 264 = .ok (.invokevirtual 168, 3) := by decide +kernel
theorem dL_acts_267 : decode cL_acts 267 = .ok (.invokestatic 206, 3) := by decide +kernel
theorem dL_acts_270 : decode cL_acts 270 = .ok (.ireturn, 1) := by decide +kernel
theorem dL_acts_271 : decode cL_acts 271 = .ok (.aload_n 0, 1) := by decide +kernel
theorem dL_acts_272 : decode cL_acts 272 = .ok (.aload_n 2, 1) := by decide +kernel
theorem dL_acts_273 : decode cL_acts 273 = .ok (.bipush 30, 2) := by decide +kernel
theorem dL_acts_275 : decode cL_acts 275 = .ok (.invokevirtual 168, 3) := by decide +kernel
theorem dL_acts_278 : decode cL_acts 278 = .ok (.ifCond .ne 8, 3) := by decide +kernel
theorem dL_acts_281 : decode cL_acts 281 = .ok (.bipush 61, 2) := by decide +kernel
theorem dL_acts_283 : decode cL_acts 283 = .ok (.goto 24, 3) := by decide +kernel
theorem dL_acts_286 : decode cL_acts 286 = .ok (.iconst 1, 1) := by decide +kernel
theorem dL_acts_287 : decode cL_acts 287 = .ok (.aload_n 2, 1) := by decide +kernel
theorem dL_acts_288 : decode cL_acts 288 = .ok (.aload_n 2, 1) := by decide +kernel
theorem dL_acts_289 : decode cL_acts 289 = .ok (.iconst 3, 1) := by decide +kernel
theorem dL_acts_290 : decode cL_acts 290 = .ok (.invokevirtual 168, 3) := by decide +kernel
theorem dL_acts_293 : decode cL_acts 293 = .ok (.ifCond .ne 8, 3) := by decide +kernel
theorem dL_acts_296 : decode cL_acts 296 = .ok (.bipush 60, 2) := by decide +kernel
theorem dL_acts_298 : decode cL_acts 298 = .ok (.goto 5, 3) := by decide +kernel
theorem dL_acts_301 : decode cL_acts 301 = .ok (.bipush 15, 2) := by decide +kernel
theorem dL_acts_303 : decode cL_acts 303 = .ok (.invokevirtual 168, 3) := by decide +kernel
theorem dL_acts_306 : decode cL_acts 306 = .ok (.iadd, 1) := by decide +kernel
theorem dL_acts_307 : decode cL_acts 307 = .ok (.iconst 1, 1) := by decide +kernel
theorem dL_acts_308 : decode cL_acts 308 = .ok (.aload_n 0, 1) := by decide +kernel
theorem dL_acts_309 : decode cL_acts 309 = .ok (.invokevirtual 208, 3) := by decide +kernel
theorem dL_acts_312 : decode cL_acts 312 = .ok (.sipush 900, 3) := by decide +kernel
theorem dL_acts_315 : decode cL_acts 315 = .ok (.irem, 1) := by decide +kernel
theorem dL_acts_316 : decode cL_acts 316 = .ok (.iadd, 1) := by decide +kernel
theorem dL_acts_317 : decode cL_acts 317 = .ok (.aload_n 2, 1) := by decide +kernel
theorem dL_acts_318 : decode cL_acts 318 = .ok (.bipush 90, 2) := by decide +kernel
theorem dL_acts_320 : decode cL_acts 320 = .ok (.invokevirtual 168, 3) := by decide +kernel
theorem dL_acts_323 : decode cL_acts 323 = .ok (.iadd, 1) := by decide +kernel
theorem dL_acts_324 : decode cL_acts 324 = .ok (.iconst 1, 1) := by decide +kernel
theorem dL_acts_325 : decode cL_acts 325 = .ok (.aload_n 2, 1) := by decide +kernel
theorem dL_acts_326 : decode cL_acts 326 = .ok (.bipush 9, 2) := by decide +kernel
theorem dL_acts_328 : decode cL_acts 328 = .ok (.invokevirtual 168, 3) := by decide +kernel
theorem dL_acts_331 : decode cL_acts 331 = .ok (.iadd, 1) := by decide +kernel
theorem dL_acts_332 : decode cL_acts 332 = .ok (.invokestatic 211, 3) := by decide +kernel
theorem dL_acts_335 : decode cL_acts 335 = .ok (.ireturn, 1) := by decide +kernel
theorem dL_acts_336 : decode cL_acts 336 = .ok (.aload_n 0, 1) := by decide +kernel
theorem dL_acts_337 : decode cL_acts 337 = .ok (.aload_n 0, 1) := by decide +kernel
theorem dL_acts_338 : decode cL_acts 338 = .ok (.aload_n 2, 1) := by decide +kernel
theorem dL_acts_339 : decode cL_acts 339 = .ok (.invokestatic 213, 3) := by decide +kernel
theorem dL_acts_342 : decode cL_acts 342 = .ok (.invokestatic 217, 3) := by decide +kernel
theorem dL_acts_345 : decode cL_acts 345 = .ok (.ireturn, 1) := by decide +kernel
theorem dL_acts_346 : decode cL_acts 346 = .ok (.aload_n 0, 1) := by decide +kernel
theorem dL_acts_347 : decode cL_acts 347 = .ok (.aload_n 2, 1) := by decide +kernel
theorem dL_acts_348 : decode cL_acts 348 = .ok (.bipush 30, 2) := by decide +kernel
theorem dL_acts_350 : decode cL_acts 350 = .ok (.invokevirtual 168, 3) := by decide +kernel
theorem dL_acts_353 : decode cL_acts 353 = .ok (.ifCond .ne 8, 3) := by decide +kernel
theorem dL_acts_356 : decode cL_acts 356 = .ok (.bipush 61, 2) := by decide +kernel
theorem dL_acts_358 : decode cL_acts 358 = .ok (.goto 11, 3) := by decide +kernel
theorem dL_acts_361 : decode cL_acts 361 = .ok (.iconst 1, 1) := by decide +kernel
theorem dL_acts_362 : decode cL_acts 362 = .ok (.aload_n 2, 1) := by decide +kernel
theorem dL_acts_363 : decode cL_acts 363 = .ok (.bipush 20, 2) := by decide +kernel
theorem dL_acts_365 : decode cL_acts 365 = .ok (.invokevirtual 168, 3) := by decide +kernel
theorem dL_acts_368 : decode cL_acts 368 = .ok (.iadd, 1) := by decide +kernel
theorem dL_acts_369 : decode cL_acts 369 = .ok (.invokestatic 219, 3) := by decide +kernel
theorem dL_acts_372 : decode cL_acts 372 = .ok (.ireturn, 1) := by decide +kernel
theorem dL_acts_373 : decode cL_acts 373 = .ok (.aload_n 0, 1) := by decide +kernel
theorem dL_acts_374 : decode cL_acts 374 = .ok (.aload_n 0, 1) := by decide +kernel
theorem dL_acts_375 : decode cL_acts 375 = .ok (.aload_n 2, 1) := by decide +kernel
theorem dL_acts_376 : decode cL_acts 376 = .ok (.invokestatic 213, 3) := by decide +kernel
theorem dL_acts_379 : decode cL_acts 379 = .ok (.invokestatic 221, 3) := by decide +kernel
theorem dL_acts_382 : decode cL_acts 382 = .ok (.ireturn, 1) := by decide +kernel
theorem dL_stock_0 : decode cL_stock 0 = .ok (.aload_n 0, 1) := by decide +kernel
theorem dL_stock_1 : decode cL_stock 1 = .ok (.bipush 40, 2) := by decide +kernel
theorem dL_stock_3 : decode cL_stock 3 = .ok (.invokestatic 190, 3) := by decide +kernel
theorem dL_stock_6 : decode cL_stock 6 = .ok (.aload_n 0, 1) := by decide +kernel
theorem dL_stock_7 : decode cL_stock 7 = .ok (.bipush 7, 2) := by decide +kernel
theorem dL_stock_9 : decode cL_stock 9 = .ok (.invokestatic 190, 3) := by decide +kernel
theorem dL_stock_12 : decode cL_stock 12 = .ok (.iadd, 1) := by decide +kernel
theorem dL_stock_13 : decode cL_stock 13 = .ok (.aload_n 0, 1) := by decide +kernel
theorem dL_stock_14 : decode cL_stock 14 = .ok (.bipush 30, 2) := by decide +kernel
theorem dL_stock_16 : decode cL_stock 16 = .ok (.invokestatic 190, 3) := by decide +kernel
theorem dL_stock_19 : decode cL_stock 19 = .ok (.iadd, 1) := by decide +kernel
theorem dL_stock_20 : decode cL_stock 20 = .ok (.aload_n 0, 1) := by decide +kernel
theorem dL_stock_21 : decode cL_stock 21 = .ok (.iconst 0, 1) := by decide +kernel
theorem dL_stock_22 : decode cL_stock 22 = .ok (.iconst 0, 1) := by decide +kernel
theorem dL_stock_23 : decode cL_stock 23 = .ok (.iconst 4, 1) := by decide +kernel
theorem dL_stock_24 : decode cL_stock 24 = .ok (.invokestatic 196, 3) := by decide +kernel
theorem dL_stock_27 : decode cL_stock 27 = .ok (.iadd, 1) := by decide +kernel
theorem dL_stock_28 : decode cL_stock 28 = .ok (.aload_n 0, 1) := by decide +kernel
theorem dL_stock_29 : decode cL_stock 29 = .ok (.iconst 0, 1) := by decide +kernel
theorem dL_stock_30 : decode cL_stock 30 = .ok (.iconst 1, 1) := by decide +kernel
theorem dL_stock_31 : decode cL_stock 31 = .ok (.bipush (-3), 2) := by decide +kernel
theorem dL_stock_33 : decode cL_stock 33 = .ok (.invokestatic 196, 3) := by decide +kernel
theorem dL_stock_36 : decode cL_stock 36 = .ok (.iadd, 1) := by decide +kernel
theorem dL_stock_37 : decode cL_stock 37 = .ok (.aload_n 0, 1) := by decide +kernel
theorem dL_stock_38 : decode cL_stock 38 = .ok (.iconst 1, 1) := by decide +kernel
theorem dL_stock_39 : decode cL_stock 39 = .ok (.bipush 7, 2) := by decide +kernel
theorem dL_stock_41 : decode cL_stock 41 = .ok (.bipush 12, 2) := by decide +kernel
theorem dL_stock_43 : decode cL_stock 43 = .ok (.invokestatic 196, 3) := by decide +kernel
theorem dL_stock_46 : decode cL_stock 46 = .ok (.iadd, 1) := by decide +kernel
theorem dL_stock_47 : decode cL_stock 47 = .ok (.aload_n 0, 1) := by decide +kernel
theorem dL_stock_48 : decode cL_stock 48 = .ok (.iconst 2, 1) := by decide +kernel
theorem dL_stock_49 : decode cL_stock 49 = .ok (.iconst 5, 1) := by decide +kernel
theorem dL_stock_50 : decode cL_stock 50 = .ok (.invokestatic 199, 3) := by decide +kernel
theorem dL_stock_53 : decode cL_stock 53 = .ok (.iadd, 1) := by decide +kernel
theorem dL_stock_54 : decode cL_stock 54 = .ok (.istore_n 1, 1) := by decide +kernel
theorem dL_stock_55 : decode cL_stock 55 = .ok (.iload_n 1, 1) := by decide +kernel
theorem dL_stock_56 : decode cL_stock 56 = .ok (.aload_n 0, 1) := by decide +kernel
theorem dL_stock_57 : decode cL_stock 57 = .ok (.iconst 5, 1) := by decide +kernel
theorem dL_stock_58 : decode cL_stock 58 = .ok (.bipush 30, 2) := by decide +kernel
theorem dL_stock_60 : decode cL_stock 60 = .ok (.iconst 2, 1) := by decide +kernel
theorem dL_stock_61 : decode cL_stock 61 = .ok (.invokestatic 211, 3) := by decide +kernel
theorem dL_stock_64 : decode cL_stock 64 = .ok (.iadd, 1) := by decide +kernel
theorem dL_stock_65 : decode cL_stock 65 = .ok (.aload_n 0, 1) := by decide +kernel
theorem dL_stock_66 : decode cL_stock 66 = .ok (.bipush 20, 2) := by decide +kernel
theorem dL_stock_68 : decode cL_stock 68 = .ok (.bipush 10, 2) := by decide +kernel
theorem dL_stock_70 : decode cL_stock 70 = .ok (.iconst 3, 1) := by decide +kernel
theorem dL_stock_71 : decode cL_stock 71 = .ok (.invokestatic 211, 3) := by decide +kernel
theorem dL_stock_74 : decode cL_stock 74 = .ok (.iadd, 1) := by decide +kernel
theorem dL_stock_75 : decode cL_stock 75 = .ok (.aload_n 0, 1) := by decide +kernel
theorem dL_stock_76 : decode cL_stock 76 = .ok (.bipush 9, 2) := by decide +kernel
theorem dL_stock_78 : decode cL_stock 78 = .ok (.bipush 25, 2) := by decide +kernel
theorem dL_stock_80 : decode cL_stock 80 = .ok (.iconst 1, 1) := by decide +kernel
theorem dL_stock_81 : decode cL_stock 81 = .ok (.invokestatic 211, 3) := by decide +kernel
theorem dL_stock_84 : decode cL_stock 84 = .ok (.iadd, 1) := by decide +kernel
theorem dL_stock_85 : decode cL_stock 85 = .ok (.aload_n 0, 1) := by decide +kernel
theorem dL_stock_86 : decode cL_stock 86 = .ok (.iconst 3, 1) := by decide +kernel
theorem dL_stock_87 : decode cL_stock 87 = .ok (.invokestatic 219, 3) := by decide +kernel
theorem dL_stock_90 : decode cL_stock 90 = .ok (.iadd, 1) := by decide +kernel
theorem dL_stock_91 : decode cL_stock 91 = .ok (.ireturn, 1) := by decide +kernel
theorem dL_isGood_0 : decode cL_isGood 0 = .ok (.aload_n 0, 1) := by decide +kernel
theorem dL_isGood_1 : decode cL_isGood 1 = .ok (.iload_n 1, 1) := by decide +kernel
theorem dL_isGood_2 : decode cL_isGood 2 = .ok (.invokestatic 268, 3) := by decide +kernel
theorem dL_isGood_5 : decode cL_isGood 5 = .ok (.ifCond .ne 15, 3) := by decide +kernel
theorem dL_isGood_8 : decode cL_isGood 8 = .ok (.aload_n 0, 1) := by decide +kernel
theorem dL_isGood_9 : decode cL_isGood 9 = .ok (.iload_n 1, 1) := by decide +kernel
theorem dL_isGood_10 : decode cL_isGood 10 = .ok (.invokestatic 280, 3) := by decide +kernel
theorem dL_isGood_13 : decode cL_isGood 13 = .ok (.ifCond .ne 7, 3) := by decide +kernel
theorem dL_isGood_16 : decode cL_isGood 16 = .ok (.iconst 1, 1) := by decide +kernel
theorem dL_isGood_17 : decode cL_isGood 17 = .ok (.goto 4, 3) := by decide +kernel
theorem dL_isGood_20 : decode cL_isGood 20 = .ok (.iconst 0, 1) := by decide +kernel
theorem dL_isGood_21 : decode cL_isGood 21 = .ok (.ireturn, 1) := by decide +kernel
