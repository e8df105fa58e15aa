theorem dX10_modify_0 : decode cX10_modify 0 = .ok (.aload_n 0, 1) := by decide +kernel
theorem dX10_modify_1 : decode cX10_modify 1 = .ok (.getfield 10, 3) := by decide +kernel
theorem dX10_modify_4 : decode cX10_modify 4 = .ok (.aload_n 1, 1) := by decide +kernel
theorem dX10_modify_5 : decode cX10_modify 5 = .ok (.iload_n 2, 1) := by decide +kernel
theorem dX10_modify_6 : decode cX10_modify 6 = .ok (.iload_n 3, 1) := by decide +kernel
theorem dX10_modify_7 : decode cX10_modify 7 = .ok (.iload 4, 2) := by decide +kernel
theorem dX10_modify_9 : decode cX10_modify 9 = .ok (.invokevirtual 352, 3) := by decide +kernel
theorem dX10_modify_12 : decode cX10_modify 12 = .ok (.invokestatic 356, 3) := by decide +kernel
theorem dX10_modify_15 : decode cX10_modify 15 = .ok (.aload_n 0, 1) := by decide +kernel
theorem dX10_modify_16 : decode cX10_modify 16 = .ok (.getfield 22, 3) := by decide +kernel
theorem dX10_modify_19 : decode cX10_modify 19 = .ok (.aload_n 0, 1) := by decide +kernel
theorem dX10_modify_20 : decode cX10_modify 20 = .ok (.getfield 10, 3) := by decide +kernel
theorem dX10_modify_23 : decode cX10_modify 23 = .ok (.invokevirtual 315, 3) := by decide +kernel
theorem dX10_modify_26 : decode cX10_modify 26 = .ok (.aload_n 0, 1) := by decide +kernel
theorem dX10_modify_27 : decode cX10_modify 27 = .ok (.getfield 22, 3) := by decide +kernel
theorem dX10_modify_30 : decode cX10_modify 30 = .ok (.invokevirtual 327, 3) := by decide +kernel
theorem dX10_modify_33 : decode cX10_modify 33 = .ok (.aload_n 0, 1) := by decide +kernel
theorem dX10_modify_34 : decode cX10_modify 34 = .ok (.getfield 10, 3) := by decide +kernel
theorem dX10_modify_37 : decode cX10_modify 37 = .ok (.aload_n 1, 1) := by decide +kernel
theorem dX10_modify_38 : decode cX10_modify 38 = .ok (.iload_n 2, 1) := by decide +kernel
theorem dX10_modify_39 : decode cX10_modify 39 = .ok (.iload_n 3, 1) := by decide +kernel
theorem dX10_modify_40 : decode cX10_modify 40 = .ok (.iload 4, 2) := by decide +kernel
theorem dX10_modify_42 : decode cX10_modify 42 = .ok (.invokevirtual 360, 3) := by decide +kernel
theorem dX10_modify_45 : decode cX10_modify 45 = .ok (.ireturn, 1) := by decide +kernel
theorem dX10_needNeedle_0 : decode cX10_needNeedle 0 = .ok (.aload_n 0, 1) := by decide +kernel
theorem dX10_needNeedle_1 : decode cX10_needNeedle 1 = .ok (.getfield 10, 3) := by decide +kernel
theorem dX10_needNeedle_4 : decode cX10_needNeedle 4 = .ok (.getfield 90, 3) := by decide +kernel
theorem dX10_needNeedle_7 : decode cX10_needNeedle 7 = .ok (.iload_n 1, 1) := by decide +kernel
theorem dX10_needNeedle_8 : decode cX10_needNeedle 8 = .ok (.invokevirtual 379, 3) := by decide +kernel
theorem dX10_needNeedle_11 : decode cX10_needNeedle 11 = .ok (.ifCond .ne 9, 3) := by decide +kernel
theorem dX10_needNeedle_14 : decode cX10_needNeedle 14 = .ok (.getstatic 382, 3) := by decide +kernel
theorem dX10_needNeedle_17 : decode cX10_needNeedle 17 = .ok (.invokestatic 356, 3) := by decide +kernel
theorem dX10_needNeedle_20 : decode cX10_needNeedle 20 = .ok (.return_, 1) := by decide +kernel
theorem dX10_needCourse_0 : decode cX10_needCourse 0 = .ok (.iload_n 0, 1) := by decide +kernel
theorem dX10_needCourse_1 : decode cX10_needCourse 1 = .ok (.iconst 0, 1) := by decide +kernel
theorem dX10_needCourse_2 : decode cX10_needCourse 2 = .ok (.sipush 359, 3) := by decide +kernel
theorem dX10_needCourse_5 : decode cX10_needCourse 5 = .ok (.invokestatic 285, 3) := by decide +kernel
theorem dX10_needCourse_8 : decode cX10_needCourse 8 = .ok (.ifCond .eq 14, 3) := by decide +kernel
theorem dX10_needCourse_11 : decode cX10_needCourse 11 = .ok (.new 289, 3) := by decide +kernel
theorem dX10_needCourse_14 : decode cX10_needCourse 14 = .ok (.dup, 1) := by decide +kernel
theorem dX10_needCourse_15 : decode cX10_needCourse 15 = .ok (.ldc_w 385, 3) := by decide +kernel
theorem dX10_needCourse_18 : decode cX10_needCourse 18 = .ok (.invokespecial 293, 3) := by decide +kernel
theorem dX10_needCourse_21 : decode cX10_needCourse 21 = .ok (.athrow, 1) := by decide +kernel
theorem dX10_needCourse_22 : decode cX10_needCourse 22 = .ok (.return_, 1) := by decide +kernel
theorem dX10_found_0 : decode cX10_found 0 = .ok (.iload_n 0, 1) := by decide +kernel
theorem dX10_found_1 : decode cX10_found 1 = .ok (.ifCond .ge 14, 3) := by decide +kernel
theorem dX10_found_4 : decode cX10_found 4 = .ok (.new 154, 3) := by decide +kernel
theorem dX10_found_7 : decode cX10_found 7 = .ok (.dup, 1) := by decide +kernel
theorem dX10_found_8 : decode cX10_found 8 = .ok (.ldc_w 387, 3) := by decide +kernel
theorem dX10_found_11 : decode cX10_found 11 = .ok (.invokespecial 158, 3) := by decide +kernel
theorem dX10_found_14 : decode cX10_found 14 = .ok (.athrow, 1) := by decide +kernel
theorem dX10_found_15 : decode cX10_found 15 = .ok (.iload_n 0, 1) := by decide +kernel
theorem dX10_found_16 : decode cX10_found 16 = .ok (.ireturn, 1) := by decide +kernel
theorem dX10_refuse_0 : decode cX10_refuse 0 = .ok (.getstatic 389, 3) := by decide +kernel
theorem dX10_refuse_3 : decode cX10_refuse 3 = .ok (.aload_n 0, 1) := by decide +kernel
theorem dX10_refuse_4 : decode cX10_refuse 4 = .ok (.invokevirtual 394, 3) := by decide +kernel
theorem dX10_refuse_7 : decode cX10_refuse 7 = .ok (.iaload, 1) := by decide +kernel
theorem dX10_refuse_8 : decode cX10_refuse 8 = .ok (.tableswitch 105 1 6 #[40, 51, 62, 73, 84, 95], 40) := by decide +kernel
theorem dX10_refuse_48 : decode cX10_refuse 48 = .ok (.new 214, 3) := by decide +kernel
theorem dX10_refuse_51 : decode cX10_refuse 51 = .ok (.dup, 1) := by decide +kernel
theorem dX10_refuse_52 : decode cX10_refuse 52 = .ok (.ldc_w 397, 3) := by decide +kernel
theorem dX10_refuse_55 : decode cX10_refuse 55 = .ok (.invokespecial 218, 3) := by decide +kernel
theorem dX10_refuse_58 : decode cX10_refuse 58 = .ok (.athrow, 1) := by decide +kernel
theorem dX10_refuse_59 : decode cX10_refuse 59 = .ok (.new 289, 3) := by decide +kernel
theorem dX10_refuse_62 : decode cX10_refuse 62 = .ok (.dup, 1) := by decide +kernel
theorem dX10_refuse_63 : decode cX10_refuse 63 = .ok (.ldc_w 399, 3) := by decide +kernel
theorem dX10_refuse_66 : decode cX10_refuse 66 = .ok (.invokespecial 293, 3) := by decide +kernel
theorem dX10_refuse_69 : decode cX10_refuse 69 = .ok (.athrow, 1) := by decide +kernel
theorem dX10_refuse_70 : decode cX10_refuse 70 = .ok (.new 296, 3) := by decide +kernel
theorem dX10_refuse_73 : decode cX10_refuse 73 = .ok (.dup, 1) := by decide +kernel
theorem dX10_refuse_74 : decode cX10_refuse 74 = .ok (.ldc_w 401, 3) := by decide +kernel
theorem dX10_refuse_77 : decode cX10_refuse 77 = .ok (.invokespecial 300, 3) := by decide +kernel
theorem dX10_refuse_80 : decode cX10_refuse 80 = .ok (.athrow, 1) := by decide +kernel
theorem dX10_refuse_81 : decode cX10_refuse 81 = .ok (.new 296, 3) := by decide +kernel
theorem dX10_refuse_84 : decode cX10_refuse 84 = .ok (.dup, 1) := by decide +kernel
theorem dX10_refuse_85 : decode cX10_refuse 85 = .ok (.ldc_w 403, 3) := by decide +kernel
theorem dX10_refuse_88 : decode cX10_refuse 88 = .ok (.invokespecial 300, 3) := by decide +kernel
theorem dX10_refuse_91 : decode cX10_refuse 91 = .ok (.athrow, 1) := by decide +kernel
theorem dX10_refuse_92 : decode cX10_refuse 92 = .ok (.new 405, 3) := by decide +kernel
theorem dX10_refuse_95 : decode cX10_refuse 95 = .ok (.dup, 1) := by decide +kernel
theorem dX10_refuse_96 : decode cX10_refuse 96 = .ok (.ldc_w 407, 3) := by decide +kernel
theorem dX10_refuse_99 : decode cX10_refuse 99 = .ok (.invokespecial 409, 3) := by decide +kernel
theorem dX10_refuse_102 : decode cX10_refuse 102 = .ok (.athrow, 1) := by decide +kernel
theorem dX10_refuse_103 : decode cX10_refuse 103 = .ok (.new 154, 3) := by decide +kernel
theorem dX10_refuse_106 : decode cX10_refuse 106 = .ok (.dup, 1) := by decide +kernel
theorem dX10_refuse_107 : decode cX10_refuse 107 = .ok (.ldc 225, 2) := by decide +kernel
theorem dX10_refuse_109 : decode cX10_refuse 109 = .ok (.invokespecial 158, 3) := by decide +kernel
theorem dX10_refuse_112 : decode cX10_refuse 112 = .ok (.athrow, 1) := by decide +kernel
theorem dX10_refuse_113 : decode cX10_refuse 113 = .ok (.return_, 1) := by decide +kernel
