theorem dX3_init_0 : decode cX3_init 0 = .ok (.aload_n 0, 1) := by decide +kernel
theorem dX3_init_1 : decode cX3_init 1 = .ok (.invokespecial 3, 3) := by decide +kernel
theorem dX3_init_4 : decode cX3_init 4 = .ok (.aload_n 0, 1) := by decide +kernel
theorem dX3_init_5 : decode cX3_init 5 = .ok (.bipush 10, 2) := by decide +kernel
theorem dX3_init_7 : decode cX3_init 7 = .ok (.putfield 9, 3) := by decide +kernel
theorem dX3_init_10 : decode cX3_init 10 = .ok (.aload_n 0, 1) := by decide +kernel
theorem dX3_init_11 : decode cX3_init 11 = .ok (.bipush 8, 2) := by decide +kernel
theorem dX3_init_13 : decode cX3_init 13 = .ok (.newarray .int, 2) := by decide +kernel
theorem dX3_init_15 : decode cX3_init 15 = .ok (.putfield 15, 3) := by decide +kernel
theorem dX3_init_18 : decode cX3_init 18 = .ok (.aload_n 0, 1) := by decide +kernel
theorem dX3_init_19 : decode cX3_init 19 = .ok (.bipush 64, 2) := by decide +kernel
theorem dX3_init_21 : decode cX3_init 21 = .ok (.newarray .int, 2) := by decide +kernel
theorem dX3_init_23 : decode cX3_init 23 = .ok (.putfield 19, 3) := by decide +kernel
theorem dX3_init_26 : decode cX3_init 26 = .ok (.return_, 1) := by decide +kernel
theorem dX3_copyFrom_0 : decode cX3_copyFrom 0 = .ok (.aload_n 0, 1) := by decide +kernel
theorem dX3_copyFrom_1 : decode cX3_copyFrom 1 = .ok (.aload_n 1, 1) := by decide +kernel
theorem dX3_copyFrom_2 : decode cX3_copyFrom 2 = .ok (.getfield 22, 3) := by decide +kernel
theorem dX3_copyFrom_5 : decode cX3_copyFrom 5 = .ok (.putfield 22, 3) := by decide +kernel
theorem dX3_copyFrom_8 : decode cX3_copyFrom 8 = .ok (.aload_n 0, 1) := by decide +kernel
theorem dX3_copyFrom_9 : decode cX3_copyFrom 9 = .ok (.aload_n 1, 1) := by decide +kernel
theorem dX3_copyFrom_10 : decode cX3_copyFrom 10 = .ok (.getfield 9, 3) := by decide +kernel
theorem dX3_copyFrom_13 : decode cX3_copyFrom 13 = .ok (.putfield 9, 3) := by decide +kernel
theorem dX3_copyFrom_16 : decode cX3_copyFrom 16 = .ok (.aload_n 0, 1) := by decide +kernel
theorem dX3_copyFrom_17 : decode cX3_copyFrom 17 = .ok (.aload_n 1, 1) := by decide +kernel
theorem dX3_copyFrom_18 : decode cX3_copyFrom 18 = .ok (.getfield 25, 3) := by decide +kernel
theorem dX3_copyFrom_21 : decode cX3_copyFrom 21 = .ok (.putfield 25, 3) := by decide +kernel
theorem dX3_copyFrom_24 : decode cX3_copyFrom 24 = .ok (.aload_n 1, 1) := by decide +kernel
theorem dX3_copyFrom_25 : decode cX3_copyFrom 25 = .ok (.getfield 15, 3) := by decide +kernel
theorem dX3_copyFrom_28 : decode cX3_copyFrom 28 = .ok (.iconst 0, 1) := by decide +kernel
theorem dX3_copyFrom_29 : decode cX3_copyFrom 29 = .ok (.aload_n 0, 1) := by decide +kernel
theorem dX3_copyFrom_30 : decode cX3_copyFrom 30 = .ok (.getfield 15, 3) := by decide +kernel
theorem dX3_copyFrom_33 : decode cX3_copyFrom 33 = .ok (.iconst 0, 1) := by decide +kernel
theorem dX3_copyFrom_34 : decode cX3_copyFrom 34 = .ok (.bipush 8, 2) := by decide +kernel
theorem dX3_copyFrom_36 : decode cX3_copyFrom 36 = .ok (.invokestatic 28, 3) := by decide +kernel
theorem dX3_copyFrom_39 : decode cX3_copyFrom 39 = .ok (.aload_n 1, 1) := by decide +kernel
theorem dX3_copyFrom_40 : decode cX3_copyFrom 40 = .ok (.getfield 19, 3) := by decide +kernel
theorem dX3_copyFrom_43 : decode cX3_copyFrom 43 = .ok (.iconst 0, 1) := by decide +kernel
theorem dX3_copyFrom_44 : decode cX3_copyFrom 44 = .ok (.aload_n 0, 1) := by decide +kernel
theorem dX3_copyFrom_45 : decode cX3_copyFrom 45 = .ok (.getfield 19, 3) := by decide +kernel
theorem dX3_copyFrom_48 : decode cX3_copyFrom 48 = .ok (.iconst 0, 1) := by decide +kernel
theorem dX3_copyFrom_49 : decode cX3_copyFrom 49 = .ok (.bipush 64, 2) := by decide +kernel
theorem dX3_copyFrom_51 : decode cX3_copyFrom 51 = .ok (.invokestatic 28, 3) := by decide +kernel
theorem dX3_copyFrom_54 : decode cX3_copyFrom 54 = .ok (.return_, 1) := by decide +kernel
theorem dX3_has_0 : decode cX3_has 0 = .ok (.iload_n 1, 1) := by decide +kernel
theorem dX3_has_1 : decode cX3_has 1 = .ok (.ifCond .lt 15, 3) := by decide +kernel
theorem dX3_has_4 : decode cX3_has 4 = .ok (.iload_n 1, 1) := by decide +kernel
theorem dX3_has_5 : decode cX3_has 5 = .ok (.aload_n 0, 1) := by decide +kernel
theorem dX3_has_6 : decode cX3_has 6 = .ok (.getfield 22, 3) := by decide +kernel
theorem dX3_has_9 : decode cX3_has 9 = .ok (.if_icmp .ge 7, 3) := by decide +kernel
theorem dX3_has_12 : decode cX3_has 12 = .ok (.iconst 1, 1) := by decide +kernel
theorem dX3_has_13 : decode cX3_has 13 = .ok (.goto 4, 3) := by decide +kernel
theorem dX3_has_16 : decode cX3_has 16 = .ok (.iconst 0, 1) := by decide +kernel
theorem dX3_has_17 : decode cX3_has 17 = .ok (.ireturn, 1) := by decide +kernel
theorem dX3_at_0 : decode cX3_at 0 = .ok (.aload_n 0, 1) := by decide +kernel
theorem dX3_at_1 : decode cX3_at 1 = .ok (.getfield 19, 3) := by decide +kernel
theorem dX3_at_4 : decode cX3_at 4 = .ok (.iload_n 1, 1) := by decide +kernel
theorem dX3_at_5 : decode cX3_at 5 = .ok (.bipush 8, 2) := by decide +kernel
theorem dX3_at_7 : decode cX3_at 7 = .ok (.imul, 1) := by decide +kernel
theorem dX3_at_8 : decode cX3_at 8 = .ok (.iload_n 2, 1) := by decide +kernel
theorem dX3_at_9 : decode cX3_at 9 = .ok (.iadd, 1) := by decide +kernel
theorem dX3_at_10 : decode cX3_at 10 = .ok (.iaload, 1) := by decide +kernel
theorem dX3_at_11 : decode cX3_at 11 = .ok (.ireturn, 1) := by decide +kernel
theorem dX3_isOut_0 : decode cX3_isOut 0 = .ok (.aload_n 0, 1) := by decide +kernel
theorem dX3_isOut_1 : decode cX3_isOut 1 = .ok (.getfield 25, 3) := by decide +kernel
theorem dX3_isOut_4 : decode cX3_isOut 4 = .ok (.iload_n 1, 1) := by decide +kernel
theorem dX3_isOut_5 : decode cX3_isOut 5 = .ok (.invokestatic 34, 3) := by decide +kernel
theorem dX3_isOut_8 : decode cX3_isOut 8 = .ok (.ireturn, 1) := by decide +kernel
theorem dX3_isTooWide_0 : decode cX3_isTooWide 0 = .ok (.iconst 0, 1) := by decide +kernel
theorem dX3_isTooWide_1 : decode cX3_isTooWide 1 = .ok (.istore_n 2, 1) := by decide +kernel
theorem dX3_isTooWide_2 : decode cX3_isTooWide 2 = .ok (.iload_n 2, 1) := by decide +kernel
theorem dX3_isTooWide_3 : decode cX3_isTooWide 3 = .ok (.bipush 8, 2) := by decide +kernel
theorem dX3_isTooWide_5 : decode cX3_isTooWide 5 = .ok (.if_icmp .ge 32, 3) := by decide +kernel
theorem dX3_isTooWide_8 : decode cX3_isTooWide 8 = .ok (.aload_n 0, 1) := by decide +kernel
theorem dX3_isTooWide_9 : decode cX3_isTooWide 9 = .ok (.iload_n 1, 1) := by decide +kernel
theorem dX3_isTooWide_10 : decode cX3_isTooWide 10 = .ok (.iload_n 2, 1) := by decide +kernel
theorem dX3_isTooWide_11 : decode cX3_isTooWide 11 = .ok (.invokevirtual 38, 3) := by decide +kernel
theorem dX3_isTooWide_14 : decode cX3_isTooWide 14 = .ok (.aload_n 0, 1) := by decide +kernel
theorem dX3_isTooWide_15 : decode cX3_isTooWide 15 = .ok (.getfield 9, 3) := by decide +kernel
theorem dX3_isTooWide_18 : decode cX3_isTooWide 18 = .ok (.ineg, 1) := by decide +kernel
theorem dX3_isTooWide_19 : decode cX3_isTooWide 19 = .ok (.aload_n 0, 1) := by decide +kernel
theorem dX3_isTooWide_20 : decode cX3_isTooWide 20 = .ok (.getfield 9, 3) := by decide +kernel
theorem dX3_isTooWide_23 : decode cX3_isTooWide 23 = .ok (.invokestatic 42, 3) := by decide +kernel
theorem dX3_isTooWide_26 : decode cX3_isTooWide 26 = .ok (.ifCond .eq 5, 3) := by decide +kernel
theorem dX3_isTooWide_29 : decode cX3_isTooWide 29 = .ok (.iconst 1, 1) := by decide +kernel
theorem dX3_isTooWide_30 : decode cX3_isTooWide 30 = .ok (.ireturn, 1) := by decide +kernel
theorem dX3_isTooWide_31 : decode cX3_isTooWide 31 = .ok (.iinc 2 1, 3) := by decide +kernel
theorem dX3_isTooWide_34 : decode cX3_isTooWide 34 = .ok (.goto (-32), 3) := by decide +kernel
theorem dX3_isTooWide_37 : decode cX3_isTooWide 37 = .ok (.iconst 0, 1) := by decide +kernel
theorem dX3_isTooWide_38 : decode cX3_isTooWide 38 = .ok (.ireturn, 1) := by decide +kernel
theorem dX3_countTooWide_0 : decode cX3_countTooWide 0 = .ok (.iconst 0, 1) := by decide +kernel
theorem dX3_countTooWide_1 : decode cX3_countTooWide 1 = .ok (.istore_n 1, 1) := by decide +kernel
theorem dX3_countTooWide_2 : decode cX3_countTooWide 2 = .ok (.iconst 0, 1) := by decide +kernel
theorem dX3_countTooWide_3 : decode cX3_countTooWide 3 = .ok (.istore_n 2, 1) := by decide +kernel
theorem dX3_countTooWide_4 : decode cX3_countTooWide 4 = .ok (.iload_n 2, 1) := by decide +kernel
theorem dX3_countTooWide_5 : decode cX3_countTooWide 5 = .ok (.aload_n 0, 1) := by decide +kernel
theorem dX3_countTooWide_6 : decode cX3_countTooWide 6 = .ok (.getfield 22, 3) := by decide +kernel
theorem dX3_countTooWide_9 : decode cX3_countTooWide 9 = .ok (.if_icmp .ge 25, 3) := by decide +kernel
theorem dX3_countTooWide_12 : decode cX3_countTooWide 12 = .ok (.iload_n 1, 1) := by decide +kernel
theorem dX3_countTooWide_13 : decode cX3_countTooWide 13 = .ok (.aload_n 0, 1) := by decide +kernel
theorem dX3_countTooWide_14 : decode cX3_countTooWide 14 = .ok (.iload_n 2, 1) := by decide +kernel
theorem dX3_countTooWide_15 : decode cX3_countTooWide 15 = .ok (.invokevirtual 46, 3) := by decide +kernel
theorem dX3_countTooWide_18 : decode cX3_countTooWide 18 = .ok (.ifCond .eq 7, 3) := by decide +kernel
theorem dX3_countTooWide_21 : decode cX3_countTooWide 21 = .ok (.iconst 1, 1) := by decide +kernel
theorem dX3_countTooWide_22 : decode cX3_countTooWide 22 = .ok (.goto 4, 3) := by decide +kernel
theorem dX3_countTooWide_25 : decode cX3_countTooWide 25 = .ok (.iconst 0, 1) := by decide +kernel
theorem dX3_countTooWide_26 : decode cX3_countTooWide 26 = .ok (.iadd, 1) := by decide +kernel
theorem dX3_countTooWide_27 : decode cX3_countTooWide 27 = .ok (.istore_n 1, 1) := by decide +kernel
theorem dX3_countTooWide_28 : decode cX3_countTooWide 28 = .ok (.iinc 2 1, 3) := by decide +kernel
theorem dX3_countTooWide_31 : decode cX3_countTooWide 31 = .ok (.goto (-27), 3) := by decide +kernel
theorem dX3_countTooWide_34 : decode cX3_countTooWide 34 = .ok (.iload_n 1, 1) := by decide +kernel
theorem dX3_countTooWide_35 : decode cX3_countTooWide 35 = .ok (.ireturn, 1) := by decide +kernel
theorem dX3_goodSet_0 : decode cX3_goodSet 0 = .ok (.iconst 0, 1) := by decide +kernel
theorem dX3_goodSet_1 : decode cX3_goodSet 1 = .ok (.istore_n 1, 1) := by decide +kernel
theorem dX3_goodSet_2 : decode cX3_goodSet 2 = .ok (.iconst 0, 1) := by decide +kernel
theorem dX3_goodSet_3 : decode cX3_goodSet 3 = .ok (.istore_n 2, 1) := by decide +kernel
theorem dX3_goodSet_4 : decode cX3_goodSet 4 = .ok (.iload_n 2, 1) := by decide +kernel
theorem dX3_goodSet_5 : decode cX3_goodSet 5 = .ok (.aload_n 0, 1) := by decide +kernel
theorem dX3_goodSet_6 : decode cX3_goodSet 6 = .ok (.getfield 22, 3) := by decide +kernel
theorem dX3_goodSet_9 : decode cX3_goodSet 9 = .ok (.if_icmp .ge 31, 3) := by decide +kernel
theorem dX3_goodSet_12 : decode cX3_goodSet 12 = .ok (.aload_n 0, 1) := by decide +kernel
theorem dX3_goodSet_13 : decode cX3_goodSet 13 = .ok (.iload_n 2, 1) := by decide +kernel
theorem dX3_goodSet_14 : decode cX3_goodSet 14 = .ok (.invokevirtual 50, 3) := by decide +kernel
theorem dX3_goodSet_17 : decode cX3_goodSet 17 = .ok (.ifCond .ne 17, 3) := by decide +kernel
theorem dX3_goodSet_20 : decode cX3_goodSet 20 = .ok (.aload_n 0, 1) := by decide +kernel
theorem dX3_goodSet_21 : decode cX3_goodSet 21 = .ok (.iload_n 2, 1) := by decide +kernel
theorem dX3_goodSet_22 : decode cX3_goodSet 22 = .ok (.invokevirtual 46, 3) := by decide +kernel
theorem dX3_goodSet_25 : decode cX3_goodSet 25 = .ok (.ifCond .ne 9, 3) := by decide +kernel
theorem dX3_goodSet_28 : decode cX3_goodSet 28 = .ok (.iload_n 1, 1) := by decide +kernel
theorem dX3_goodSet_29 : decode cX3_goodSet 29 = .ok (.iconst 1, 1) := by decide +kernel
theorem dX3_goodSet_30 : decode cX3_goodSet 30 = .ok (.iload_n 2, 1) := by decide +kernel
theorem dX3_goodSet_31 : decode cX3_goodSet 31 = .ok (.ishl, 1) := by decide +kernel
theorem dX3_goodSet_32 : decode cX3_goodSet 32 = .ok (.ior, 1) := by decide +kernel
theorem dX3_goodSet_33 : decode cX3_goodSet 33 = .ok (.istore_n 1, 1) := by decide +kernel
theorem dX3_goodSet_34 : decode cX3_goodSet 34 = .ok (.iinc 2 1, 3) := by decide +kernel
theorem dX3_goodSet_37 : decode cX3_goodSet 37 = .ok (.goto (-33), 3) := by decide +kernel
theorem dX3_goodSet_40 : decode cX3_goodSet 40 = .ok (.iload_n 1, 1) := by decide +kernel
theorem dX3_goodSet_41 : decode cX3_goodSet 41 = .ok (.ireturn, 1) := by decide +kernel
theorem dX3_whyNotAdd_0 : decode cX3_whyNotAdd 0 = .ok (.iload_n 1, 1) := by decide +kernel
theorem dX3_whyNotAdd_1 : decode cX3_whyNotAdd 1 = .ok (.iconst 1, 1) := by decide +kernel
theorem dX3_whyNotAdd_2 : decode cX3_whyNotAdd 2 = .ok (.bipush 99, 2) := by decide +kernel
theorem dX3_whyNotAdd_4 : decode cX3_whyNotAdd 4 = .ok (.invokestatic 42, 3) := by decide +kernel
theorem dX3_whyNotAdd_7 : decode cX3_whyNotAdd 7 = .ok (.ifCond .eq 7, 3) := by decide +kernel
theorem dX3_whyNotAdd_10 : decode cX3_whyNotAdd 10 = .ok (.getstatic 53, 3) := by decide +kernel
theorem dX3_whyNotAdd_13 : decode cX3_whyNotAdd 13 = .ok (.areturn, 1) := by decide +kernel
theorem dX3_whyNotAdd_14 : decode cX3_whyNotAdd 14 = .ok (.aload_n 0, 1) := by decide +kernel
theorem dX3_whyNotAdd_15 : decode cX3_whyNotAdd 15 = .ok (.getfield 22, 3) := by decide +kernel
theorem dX3_whyNotAdd_18 : decode cX3_whyNotAdd 18 = .ok (.bipush 8, 2) := by decide +kernel
theorem dX3_whyNotAdd_20 : decode cX3_whyNotAdd 20 = .ok (.if_icmp .lt 9, 3) := by decide +kernel
theorem dX3_whyNotAdd_23 : decode cX3_whyNotAdd 23 = .ok (.getstatic 59, 3) := by decide +kernel
theorem dX3_whyNotAdd_26 : decode cX3_whyNotAdd 26 = .ok (.goto 6, 3) := by decide +kernel
theorem dX3_whyNotAdd_29 : decode cX3_whyNotAdd 29 = .ok (.getstatic 62, 3) := by decide +kernel
theorem dX3_whyNotAdd_32 : decode cX3_whyNotAdd 32 = .ok (.areturn, 1) := by decide +kernel
theorem dX3_add_0 : decode cX3_add 0 = .ok (.aload_n 0, 1) := by decide +kernel
theorem dX3_add_1 : decode cX3_add 1 = .ok (.getfield 15, 3) := by decide +kernel
theorem dX3_add_4 : decode cX3_add 4 = .ok (.aload_n 0, 1) := by decide +kernel
theorem dX3_add_5 : decode cX3_add 5 = .ok (.getfield 22, 3) := by decide +kernel
theorem dX3_add_8 : decode cX3_add 8 = .ok (.iload_n 1, 1) := by decide +kernel
theorem dX3_add_9 : decode cX3_add 9 = .ok (.iastore, 1) := by decide +kernel
theorem dX3_add_10 : decode cX3_add 10 = .ok (.iconst 0, 1) := by decide +kernel
theorem dX3_add_11 : decode cX3_add 11 = .ok (.istore_n 2, 1) := by decide +kernel
theorem dX3_add_12 : decode cX3_add 12 = .ok (.iload_n 2, 1) := by decide +kernel
theorem dX3_add_13 : decode cX3_add 13 = .ok (.bipush 8, 2) := by decide +kernel
theorem dX3_add_15 : decode cX3_add 15 = .ok (.if_icmp .ge 24, 3) := by decide +kernel
theorem dX3_add_18 : decode cX3_add 18 = .ok (.aload_n 0, 1) := by decide +kernel
theorem dX3_add_19 : decode cX3_add 19 = .ok (.getfield 19, 3) := by decide +kernel
theorem dX3_add_22 : decode cX3_add 22 = .ok (.aload_n 0, 1) := by decide +kernel
theorem dX3_add_23 : decode cX3_add 23 = .ok (.getfield 22, 3) := by decide +kernel
theorem dX3_add_26 : decode cX3_add 26 = .ok (.bipush 8, 2) := by decide +kernel
theorem dX3_add_28 : decode cX3_add 28 = .ok (.imul, 1) := by decide +kernel
theorem dX3_add_29 : decode cX3_add 29 = .ok (.iload_n 2, 1) := by decide +kernel
theorem dX3_add_30 : decode cX3_add 30 = .ok (.iadd, 1) := by decide +kernel
theorem dX3_add_31 : decode cX3_add 31 = .ok (.iconst 0, 1) := by decide +kernel
theorem dX3_add_32 : decode cX3_add 32 = .ok (.iastore, 1) := by decide +kernel
theorem dX3_add_33 : decode cX3_add 33 = .ok (.iinc 2 1, 3) := by decide +kernel
theorem dX3_add_36 : decode cX3_add 36 = .ok (.goto (-24), 3) := by decide +kernel
theorem dX3_add_39 : decode cX3_add 39 = .ok (.aload_n 0, 1) := by decide +kernel
theorem dX3_add_40 : decode cX3_add 40 = .ok (.dup, 1) := by decide +kernel
theorem dX3_add_41 : decode cX3_add 41 = .ok (.getfield 22, 3) := by decide +kernel
theorem dX3_add_44 : decode cX3_add 44 = .ok (.iconst 1, 1) := by decide +kernel
theorem dX3_add_45 : decode cX3_add 45 = .ok (.iadd, 1) := by decide +kernel
theorem dX3_add_46 : decode cX3_add 46 = .ok (.putfield 22, 3) := by decide +kernel
theorem dX3_add_49 : decode cX3_add 49 = .ok (.aload_n 0, 1) := by decide +kernel
theorem dX3_add_50 : decode cX3_add 50 = .ok (.getfield 22, 3) := by decide +kernel
theorem dX3_add_53 : decode cX3_add 53 = .ok (.iconst 1, 1) := by decide +kernel
theorem dX3_add_54 : decode cX3_add 54 = .ok (.isub, 1) := by decide +kernel
theorem dX3_add_55 : decode cX3_add 55 = .ok (.ireturn, 1) := by decide +kernel
theorem dX3_whyNotPut_0 : decode cX3_whyNotPut 0 = .ok (.aload_n 0, 1) := by decide +kernel
theorem dX3_whyNotPut_1 : decode cX3_whyNotPut 1 = .ok (.iload_n 1, 1) := by decide +kernel
theorem dX3_whyNotPut_2 : decode cX3_whyNotPut 2 = .ok (.invokevirtual 65, 3) := by decide +kernel
theorem dX3_whyNotPut_5 : decode cX3_whyNotPut 5 = .ok (.ifCond .ne 7, 3) := by decide +kernel
theorem dX3_whyNotPut_8 : decode cX3_whyNotPut 8 = .ok (.getstatic 68, 3) := by decide +kernel
theorem dX3_whyNotPut_11 : decode cX3_whyNotPut 11 = .ok (.areturn, 1) := by decide +kernel
theorem dX3_whyNotPut_12 : decode cX3_whyNotPut 12 = .ok (.iload_n 2, 1) := by decide +kernel
theorem dX3_whyNotPut_13 : decode cX3_whyNotPut 13 = .ok (.iconst 0, 1) := by decide +kernel
theorem dX3_whyNotPut_14 : decode cX3_whyNotPut 14 = .ok (.bipush 7, 2) := by decide +kernel
theorem dX3_whyNotPut_16 : decode cX3_whyNotPut 16 = .ok (.invokestatic 42, 3) := by decide +kernel
theorem dX3_whyNotPut_19 : decode cX3_whyNotPut 19 = .ok (.ifCond .ne 14, 3) := by decide +kernel
theorem dX3_whyNotPut_22 : decode cX3_whyNotPut 22 = .ok (.iload_n 3, 1) := by decide +kernel
theorem dX3_whyNotPut_23 : decode cX3_whyNotPut 23 = .ok (.bipush (-20), 2) := by decide +kernel
theorem dX3_whyNotPut_25 : decode cX3_whyNotPut 25 = .ok (.bipush 20, 2) := by decide +kernel
theorem dX3_whyNotPut_27 : decode cX3_whyNotPut 27 = .ok (.invokestatic 42, 3) := by decide +kernel
theorem dX3_whyNotPut_30 : decode cX3_whyNotPut 30 = .ok (.ifCond .eq 7, 3) := by decide +kernel
theorem dX3_whyNotPut_33 : decode cX3_whyNotPut 33 = .ok (.getstatic 53, 3) := by decide +kernel
theorem dX3_whyNotPut_36 : decode cX3_whyNotPut 36 = .ok (.areturn, 1) := by decide +kernel
theorem dX3_whyNotPut_37 : decode cX3_whyNotPut 37 = .ok (.aload_n 0, 1) := by decide +kernel
theorem dX3_whyNotPut_38 : decode cX3_whyNotPut 38 = .ok (.iload_n 1, 1) := by decide +kernel
theorem dX3_whyNotPut_39 : decode cX3_whyNotPut 39 = .ok (.invokevirtual 50, 3) := by decide +kernel
theorem dX3_whyNotPut_42 : decode cX3_whyNotPut 42 = .ok (.ifCond .eq 9, 3) := by decide +kernel
theorem dX3_whyNotPut_45 : decode cX3_whyNotPut 45 = .ok (.getstatic 71, 3) := by decide +kernel
theorem dX3_whyNotPut_48 : decode cX3_whyNotPut 48 = .ok (.goto 6, 3) := by decide +kernel
theorem dX3_whyNotPut_51 : decode cX3_whyNotPut 51 = .ok (.getstatic 62, 3) := by decide +kernel
theorem dX3_whyNotPut_54 : decode cX3_whyNotPut 54 = .ok (.areturn, 1) := by decide +kernel
theorem dX3_put_0 : decode cX3_put 0 = .ok (.aload_n 0, 1) := by decide +kernel
theorem dX3_put_1 : decode cX3_put 1 = .ok (.iload_n 1, 1) := by decide +kernel
theorem dX3_put_2 : decode cX3_put 2 = .ok (.iload_n 2, 1) := by decide +kernel
theorem dX3_put_3 : decode cX3_put 3 = .ok (.invokevirtual 38, 3) := by decide +kernel
theorem dX3_put_6 : decode cX3_put 6 = .ok (.istore 4, 2) := by decide +kernel
theorem dX3_put_8 : decode cX3_put 8 = .ok (.aload_n 0, 1) := by decide +kernel
theorem dX3_put_9 : decode cX3_put 9 = .ok (.getfield 19, 3) := by decide +kernel
theorem dX3_put_12 : decode cX3_put 12 = .ok (.iload_n 1, 1) := by decide +kernel
theorem dX3_put_13 : decode cX3_put 13 = .ok (.bipush 8, 2) := by decide +kernel
theorem dX3_put_15 : decode cX3_put 15 = .ok (.imul, 1) := by decide +kernel
theorem dX3_put_16 : decode cX3_put 16 = .ok (.iload_n 2, 1) := by decide +kernel
theorem dX3_put_17 : decode cX3_put 17 = .ok (.iadd, 1) := by decide +kernel
theorem dX3_put_18 : decode cX3_put 18 = .ok (.iload_n 3, 1) := by decide +kernel
theorem dX3_put_19 : decode cX3_put 19 = .ok (.iastore, 1) := by decide +kernel
theorem dX3_put_20 : decode cX3_put 20 = .ok (.iload 4, 2) := by decide +kernel
theorem dX3_put_22 : decode cX3_put 22 = .ok (.ireturn, 1) := by decide +kernel
theorem dX3_whyNotShift_0 : decode cX3_whyNotShift 0 = .ok (.aload_n 0, 1) := by decide +kernel
theorem dX3_whyNotShift_1 : decode cX3_whyNotShift 1 = .ok (.iload_n 1, 1) := by decide +kernel
theorem dX3_whyNotShift_2 : decode cX3_whyNotShift 2 = .ok (.invokevirtual 65, 3) := by decide +kernel
theorem dX3_whyNotShift_5 : decode cX3_whyNotShift 5 = .ok (.ifCond .ne 7, 3) := by decide +kernel
theorem dX3_whyNotShift_8 : decode cX3_whyNotShift 8 = .ok (.getstatic 68, 3) := by decide +kernel
theorem dX3_whyNotShift_11 : decode cX3_whyNotShift 11 = .ok (.areturn, 1) := by decide +kernel
theorem dX3_whyNotShift_12 : decode cX3_whyNotShift 12 = .ok (.iload_n 2, 1) := by decide +kernel
theorem dX3_whyNotShift_13 : decode cX3_whyNotShift 13 = .ok (.bipush (-40), 2) := by decide +kernel
theorem dX3_whyNotShift_15 : decode cX3_whyNotShift 15 = .ok (.bipush 40, 2) := by decide +kernel
theorem dX3_whyNotShift_17 : decode cX3_whyNotShift 17 = .ok (.invokestatic 42, 3) := by decide +kernel
theorem dX3_whyNotShift_20 : decode cX3_whyNotShift 20 = .ok (.ifCond .eq 7, 3) := by decide +kernel
theorem dX3_whyNotShift_23 : decode cX3_whyNotShift 23 = .ok (.getstatic 53, 3) := by decide +kernel
theorem dX3_whyNotShift_26 : decode cX3_whyNotShift 26 = .ok (.areturn, 1) := by decide +kernel
theorem dX3_whyNotShift_27 : decode cX3_whyNotShift 27 = .ok (.aload_n 0, 1) := by decide +kernel
theorem dX3_whyNotShift_28 : decode cX3_whyNotShift 28 = .ok (.iload_n 1, 1) := by decide +kernel
theorem dX3_whyNotShift_29 : decode cX3_whyNotShift 29 = .ok (.iload_n 2, 1) := by decide +kernel
theorem dX3_whyNotShift_30 : decode cX3_whyNotShift 30 = .ok (.invokevirtual 74, 3) := by decide +kernel
theorem dX3_whyNotShift_33 : decode cX3_whyNotShift 33 = .ok (.areturn, 1) := by decide +kernel
theorem dX3_whyNotCorrect_0 : decode cX3_whyNotCorrect 0 = .ok (.aload_n 0, 1) := by decide +kernel
theorem dX3_whyNotCorrect_1 : decode cX3_whyNotCorrect 1 = .ok (.iload_n 1, 1) := by decide +kernel
theorem dX3_whyNotCorrect_2 : decode cX3_whyNotCorrect 2 = .ok (.invokevirtual 65, 3) := by decide +kernel
theorem dX3_whyNotCorrect_5 : decode cX3_whyNotCorrect 5 = .ok (.ifCond .ne 7, 3) := by decide +kernel
theorem dX3_whyNotCorrect_8 : decode cX3_whyNotCorrect 8 = .ok (.getstatic 68, 3) := by decide +kernel
theorem dX3_whyNotCorrect_11 : decode cX3_whyNotCorrect 11 = .ok (.areturn, 1) := by decide +kernel
theorem dX3_whyNotCorrect_12 : decode cX3_whyNotCorrect 12 = .ok (.aload_n 0, 1) := by decide +kernel
theorem dX3_whyNotCorrect_13 : decode cX3_whyNotCorrect 13 = .ok (.iload_n 1, 1) := by decide +kernel
theorem dX3_whyNotCorrect_14 : decode cX3_whyNotCorrect 14 = .ok (.aload_n 0, 1) := by decide +kernel
theorem dX3_whyNotCorrect_15 : decode cX3_whyNotCorrect 15 = .ok (.iload_n 1, 1) := by decide +kernel
theorem dX3_whyNotCorrect_16 : decode cX3_whyNotCorrect 16 = .ok (.invokevirtual 78, 3) := by decide +kernel
theorem dX3_whyNotCorrect_19 : decode cX3_whyNotCorrect 19 = .ok (.invokevirtual 74, 3) := by decide +kernel
theorem dX3_whyNotCorrect_22 : decode cX3_whyNotCorrect 22 = .ok (.areturn, 1) := by decide +kernel
theorem dX3_whyNotMove_0 : decode cX3_whyNotMove 0 = .ok (.aload_n 0, 1) := by decide +kernel
theorem dX3_whyNotMove_1 : decode cX3_whyNotMove 1 = .ok (.iload_n 1, 1) := by decide +kernel
theorem dX3_whyNotMove_2 : decode cX3_whyNotMove 2 = .ok (.invokevirtual 50, 3) := by decide +kernel
theorem dX3_whyNotMove_5 : decode cX3_whyNotMove 5 = .ok (.ifCond .eq 7, 3) := by decide +kernel
theorem dX3_whyNotMove_8 : decode cX3_whyNotMove 8 = .ok (.getstatic 71, 3) := by decide +kernel
theorem dX3_whyNotMove_11 : decode cX3_whyNotMove 11 = .ok (.areturn, 1) := by decide +kernel
theorem dX3_whyNotMove_12 : decode cX3_whyNotMove 12 = .ok (.iconst 0, 1) := by decide +kernel
theorem dX3_whyNotMove_13 : decode cX3_whyNotMove 13 = .ok (.istore_n 3, 1) := by decide +kernel
theorem dX3_whyNotMove_14 : decode cX3_whyNotMove 14 = .ok (.iload_n 3, 1) := by decide +kernel
theorem dX3_whyNotMove_15 : decode cX3_whyNotMove 15 = .ok (.bipush 8, 2) := by decide +kernel
theorem dX3_whyNotMove_17 : decode cX3_whyNotMove 17 = .ok (.if_icmp .ge 31, 3) := by decide +kernel
theorem dX3_whyNotMove_20 : decode cX3_whyNotMove 20 = .ok (.aload_n 0, 1) := by decide +kernel
theorem dX3_whyNotMove_21 : decode cX3_whyNotMove 21 = .ok (.iload_n 1, 1) := by decide +kernel
theorem dX3_whyNotMove_22 : decode cX3_whyNotMove 22 = .ok (.iload_n 3, 1) := by decide +kernel
theorem dX3_whyNotMove_23 : decode cX3_whyNotMove 23 = .ok (.invokevirtual 38, 3) := by decide +kernel
theorem dX3_whyNotMove_26 : decode cX3_whyNotMove 26 = .ok (.iload_n 2, 1) := by decide +kernel
theorem dX3_whyNotMove_27 : decode cX3_whyNotMove 27 = .ok (.iadd, 1) := by decide +kernel
theorem dX3_whyNotMove_28 : decode cX3_whyNotMove 28 = .ok (.bipush (-20), 2) := by decide +kernel
theorem dX3_whyNotMove_30 : decode cX3_whyNotMove 30 = .ok (.bipush 20, 2) := by decide +kernel
theorem dX3_whyNotMove_32 : decode cX3_whyNotMove 32 = .ok (.invokestatic 42, 3) := by decide +kernel
theorem dX3_whyNotMove_35 : decode cX3_whyNotMove 35 = .ok (.ifCond .eq 7, 3) := by decide +kernel
theorem dX3_whyNotMove_38 : decode cX3_whyNotMove 38 = .ok (.getstatic 82, 3) := by decide +kernel
theorem dX3_whyNotMove_41 : decode cX3_whyNotMove 41 = .ok (.areturn, 1) := by decide +kernel
theorem dX3_whyNotMove_42 : decode cX3_whyNotMove 42 = .ok (.iinc 3 1, 3) := by decide +kernel
theorem dX3_whyNotMove_45 : decode cX3_whyNotMove 45 = .ok (.goto (-31), 3) := by decide +kernel
theorem dX3_whyNotMove_48 : decode cX3_whyNotMove 48 = .ok (.getstatic 62, 3) := by decide +kernel
theorem dX3_whyNotMove_51 : decode cX3_whyNotMove 51 = .ok (.areturn, 1) := by decide +kernel
theorem dX3_move_0 : decode cX3_move 0 = .ok (.iconst 0, 1) := by decide +kernel
theorem dX3_move_1 : decode cX3_move 1 = .ok (.istore_n 3, 1) := by decide +kernel
theorem dX3_move_2 : decode cX3_move 2 = .ok (.iload_n 3, 1) := by decide +kernel
theorem dX3_move_3 : decode cX3_move 3 = .ok (.bipush 8, 2) := by decide +kernel
theorem dX3_move_5 : decode cX3_move 5 = .ok (.if_icmp .ge 24, 3) := by decide +kernel
theorem dX3_move_8 : decode cX3_move 8 = .ok (.aload_n 0, 1) := by decide +kernel
theorem dX3_move_9 : decode cX3_move 9 = .ok (.getfield 19, 3) := by decide +kernel
theorem dX3_move_12 : decode cX3_move 12 = .ok (.iload_n 1, 1) := by decide +kernel
theorem dX3_move_13 : decode cX3_move 13 = .ok (.bipush 8, 2) := by decide +kernel
theorem dX3_move_15 : decode cX3_move 15 = .ok (.imul, 1) := by decide +kernel
theorem dX3_move_16 : decode cX3_move 16 = .ok (.iload_n 3, 1) := by decide +kernel
theorem dX3_move_17 : decode cX3_move 17 = .ok (.iadd, 1) := by decide +kernel
theorem dX3_move_18 : decode cX3_move 18 = .ok (.dup2, 1) := by decide +kernel
theorem dX3_move_19 : decode cX3_move 19 = .ok (.iaload, 1) := by decide +kernel
theorem dX3_move_20 : decode cX3_move 20 = .ok (.iload_n 2, 1) := by decide +kernel
theorem dX3_move_21 : decode cX3_move 21 = .ok (.iadd, 1) := by decide +kernel
theorem dX3_move_22 : decode cX3_move 22 = .ok (.iastore, 1) := by decide +kernel
theorem dX3_move_23 : decode cX3_move 23 = .ok (.iinc 3 1, 3) := by decide +kernel
theorem dX3_move_26 : decode cX3_move 26 = .ok (.goto (-24), 3) := by decide +kernel
theorem dX3_move_29 : decode cX3_move 29 = .ok (.return_, 1) := by decide +kernel
theorem dX3_moveByBest_0 : decode cX3_moveByBest 0 = .ok (.aload_n 0, 1) := by decide +kernel
theorem dX3_moveByBest_1 : decode cX3_moveByBest 1 = .ok (.iload_n 1, 1) := by decide +kernel
theorem dX3_moveByBest_2 : decode cX3_moveByBest 2 = .ok (.invokevirtual 78, 3) := by decide +kernel
theorem dX3_moveByBest_5 : decode cX3_moveByBest 5 = .ok (.istore_n 2, 1) := by decide +kernel
theorem dX3_moveByBest_6 : decode cX3_moveByBest 6 = .ok (.aload_n 0, 1) := by decide +kernel
theorem dX3_moveByBest_7 : decode cX3_moveByBest 7 = .ok (.iload_n 1, 1) := by decide +kernel
theorem dX3_moveByBest_8 : decode cX3_moveByBest 8 = .ok (.iload_n 2, 1) := by decide +kernel
theorem dX3_moveByBest_9 : decode cX3_moveByBest 9 = .ok (.invokevirtual 85, 3) := by decide +kernel
theorem dX3_moveByBest_12 : decode cX3_moveByBest 12 = .ok (.iload_n 2, 1) := by decide +kernel
theorem dX3_moveByBest_13 : decode cX3_moveByBest 13 = .ok (.ireturn, 1) := by decide +kernel
theorem dX3_whyNotThrowOut_0 : decode cX3_whyNotThrowOut 0 = .ok (.aload_n 0, 1) := by decide +kernel
theorem dX3_whyNotThrowOut_1 : decode cX3_whyNotThrowOut 1 = .ok (.iload_n 1, 1) := by decide +kernel
theorem dX3_whyNotThrowOut_2 : decode cX3_whyNotThrowOut 2 = .ok (.invokevirtual 65, 3) := by decide +kernel
theorem dX3_whyNotThrowOut_5 : decode cX3_whyNotThrowOut 5 = .ok (.ifCond .ne 7, 3) := by decide +kernel
theorem dX3_whyNotThrowOut_8 : decode cX3_whyNotThrowOut 8 = .ok (.getstatic 68, 3) := by decide +kernel
theorem dX3_whyNotThrowOut_11 : decode cX3_whyNotThrowOut 11 = .ok (.areturn, 1) := by decide +kernel
theorem dX3_whyNotThrowOut_12 : decode cX3_whyNotThrowOut 12 = .ok (.aload_n 0, 1) := by decide +kernel
theorem dX3_whyNotThrowOut_13 : decode cX3_whyNotThrowOut 13 = .ok (.iload_n 1, 1) := by decide +kernel
theorem dX3_whyNotThrowOut_14 : decode cX3_whyNotThrowOut 14 = .ok (.invokevirtual 50, 3) := by decide +kernel
theorem dX3_whyNotThrowOut_17 : decode cX3_whyNotThrowOut 17 = .ok (.ifCond .eq 9, 3) := by decide +kernel
theorem dX3_whyNotThrowOut_20 : decode cX3_whyNotThrowOut 20 = .ok (.getstatic 71, 3) := by decide +kernel
theorem dX3_whyNotThrowOut_23 : decode cX3_whyNotThrowOut 23 = .ok (.goto 6, 3) := by decide +kernel
theorem dX3_whyNotThrowOut_26 : decode cX3_whyNotThrowOut 26 = .ok (.getstatic 62, 3) := by decide +kernel
theorem dX3_whyNotThrowOut_29 : decode cX3_whyNotThrowOut 29 = .ok (.areturn, 1) := by decide +kernel
theorem dX3_throwOut_0 : decode cX3_throwOut 0 = .ok (.aload_n 0, 1) := by decide +kernel
theorem dX3_throwOut_1 : decode cX3_throwOut 1 = .ok (.dup, 1) := by decide +kernel
theorem dX3_throwOut_2 : decode cX3_throwOut 2 = .ok (.getfield 25, 3) := by decide +kernel
theorem dX3_throwOut_5 : decode cX3_throwOut 5 = .ok (.iconst 1, 1) := by decide +kernel
theorem dX3_throwOut_6 : decode cX3_throwOut 6 = .ok (.iload_n 1, 1) := by decide +kernel
theorem dX3_throwOut_7 : decode cX3_throwOut 7 = .ok (.ishl, 1) := by decide +kernel
theorem dX3_throwOut_8 : decode cX3_throwOut 8 = .ok (.ior, 1) := by decide +kernel
theorem dX3_throwOut_9 : decode cX3_throwOut 9 = .ok (.putfield 25, 3) := by decide +kernel
theorem dX3_throwOut_12 : decode cX3_throwOut 12 = .ok (.aload_n 0, 1) := by decide +kernel
theorem dX3_throwOut_13 : decode cX3_throwOut 13 = .ok (.getfield 25, 3) := by decide +kernel
theorem dX3_throwOut_16 : decode cX3_throwOut 16 = .ok (.invokestatic 89, 3) := by decide +kernel
theorem dX3_throwOut_19 : decode cX3_throwOut 19 = .ok (.ireturn, 1) := by decide +kernel
theorem dX3_interpolated_0 : decode cX3_interpolated 0 = .ok (.iload_n 2, 1) := by decide +kernel
theorem dX3_interpolated_1 : decode cX3_interpolated 1 = .ok (.bipush 45, 2) := by decide +kernel
theorem dX3_interpolated_3 : decode cX3_interpolated 3 = .ok (.idiv, 1) := by decide +kernel
theorem dX3_interpolated_4 : decode cX3_interpolated 4 = .ok (.istore_n 3, 1) := by decide +kernel
theorem dX3_interpolated_5 : decode cX3_interpolated 5 = .ok (.iload_n 2, 1) := by decide +kernel
theorem dX3_interpolated_6 : decode cX3_interpolated 6 = .ok (.bipush 45, 2) := by decide +kernel
theorem dX3_interpolated_8 : decode cX3_interpolated 8 = .ok (.irem, 1) := by decide +kernel
theorem dX3_interpolated_9 : decode cX3_interpolated 9 = .ok (.istore 4, 2) := by decide +kernel
theorem dX3_interpolated_11 : decode cX3_interpolated 11 = .ok (.aload_n 0, 1) := by decide +kernel
theorem dX3_interpolated_12 : decode cX3_interpolated 12 = .ok (.iload_n 1, 1) := by decide +kernel
theorem dX3_interpolated_13 : decode cX3_interpolated 13 = .ok (.iload_n 3, 1) := by decide +kernel
theorem dX3_interpolated_14 : decode cX3_interpolated 14 = .ok (.invokevirtual 38, 3) := by decide +kernel
theorem dX3_interpolated_17 : decode cX3_interpolated 17 = .ok (.bipush 45, 2) := by decide +kernel
theorem dX3_interpolated_19 : decode cX3_interpolated 19 = .ok (.iload 4, 2) := by decide +kernel
theorem dX3_interpolated_21 : decode cX3_interpolated 21 = .ok (.isub, 1) := by decide +kernel
theorem dX3_interpolated_22 : decode cX3_interpolated 22 = .ok (.imul, 1) := by decide +kernel
theorem dX3_interpolated_23 : decode cX3_interpolated 23 = .ok (.aload_n 0, 1) := by decide +kernel
theorem dX3_interpolated_24 : decode cX3_interpolated 24 = .ok (.iload_n 1, 1) := by decide +kernel
theorem dX3_interpolated_25 : decode cX3_interpolated 25 = .ok (.iload_n 3, 1) := by decide +kernel
theorem dX3_interpolated_26 : decode cX3_interpolated 26 = .ok (.iconst 1, 1) := by decide +kernel
theorem dX3_interpolated_27 : decode cX3_interpolated 27 = .ok (.iadd, 1) := by decide +kernel
theorem dX3_interpolated_28 : decode cX3_interpolated 28 = .ok (.bipush 8, 2) := by decide +kernel
theorem dX3_interpolated_30 : decode cX3_interpolated 30 = .ok (.irem, 1) := by decide +kernel
theorem dX3_interpolated_31 : decode cX3_interpolated 31 = .ok (.invokevirtual 38, 3) := by decide +kernel
theorem dX3_interpolated_34 : decode cX3_interpolated 34 = .ok (.iload 4, 2) := by decide +kernel
theorem dX3_interpolated_36 : decode cX3_interpolated 36 = .ok (.imul, 1) := by decide +kernel
theorem dX3_interpolated_37 : decode cX3_interpolated 37 = .ok (.iadd, 1) := by decide +kernel
theorem dX3_interpolated_38 : decode cX3_interpolated 38 = .ok (.istore 5, 2) := by decide +kernel
theorem dX3_interpolated_40 : decode cX3_interpolated 40 = .ok (.iload 5, 2) := by decide +kernel
theorem dX3_interpolated_42 : decode cX3_interpolated 42 = .ok (.bipush 45, 2) := by decide +kernel
theorem dX3_interpolated_44 : decode cX3_interpolated 44 = .ok (.invokestatic 94, 3) := by decide +kernel
theorem dX3_interpolated_47 : decode cX3_interpolated 47 = .ok (.ireturn, 1) := by decide +kernel
theorem dX3_corrected_0 : decode cX3_corrected 0 = .ok (.iload_n 2, 1) := by decide +kernel
theorem dX3_corrected_1 : decode cX3_corrected 1 = .ok (.aload_n 0, 1) := by decide +kernel
theorem dX3_corrected_2 : decode cX3_corrected 2 = .ok (.iload_n 1, 1) := by decide +kernel
theorem dX3_corrected_3 : decode cX3_corrected 3 = .ok (.iload_n 2, 1) := by decide +kernel
theorem dX3_corrected_4 : decode cX3_corrected 4 = .ok (.invokevirtual 99, 3) := by decide +kernel
theorem dX3_corrected_7 : decode cX3_corrected 7 = .ok (.iadd, 1) := by decide +kernel
theorem dX3_corrected_8 : decode cX3_corrected 8 = .ok (.sipush 360, 3) := by decide +kernel
theorem dX3_corrected_11 : decode cX3_corrected 11 = .ok (.invokestatic 102, 3) := by decide +kernel
theorem dX3_corrected_14 : decode cX3_corrected 14 = .ok (.ireturn, 1) := by decide +kernel
theorem dX3_lowestCourse_0 : decode cX3_lowestCourse 0 = .ok (.iconst 0, 1) := by decide +kernel
theorem dX3_lowestCourse_1 : decode cX3_lowestCourse 1 = .ok (.istore_n 3, 1) := by decide +kernel
theorem dX3_lowestCourse_2 : decode cX3_lowestCourse 2 = .ok (.iload_n 3, 1) := by decide +kernel
theorem dX3_lowestCourse_3 : decode cX3_lowestCourse 3 = .ok (.sipush 360, 3) := by decide +kernel
theorem dX3_lowestCourse_6 : decode cX3_lowestCourse 6 = .ok (.if_icmp .ge 21, 3) := by decide +kernel
theorem dX3_lowestCourse_9 : decode cX3_lowestCourse 9 = .ok (.aload_n 0, 1) := by decide +kernel
theorem dX3_lowestCourse_10 : decode cX3_lowestCourse 10 = .ok (.iload_n 1, 1) := by decide +kernel
theorem dX3_lowestCourse_11 : decode cX3_lowestCourse 11 = .ok (.iload_n 3, 1) := by decide +kernel
theorem dX3_lowestCourse_12 : decode cX3_lowestCourse 12 = .ok (.invokevirtual 105, 3) := by decide +kernel
theorem dX3_lowestCourse_15 : decode cX3_lowestCourse 15 = .ok (.iload_n 2, 1) := by decide +kernel
theorem dX3_lowestCourse_16 : decode cX3_lowestCourse 16 = .ok (.if_icmp .ne 5, 3) := by decide +kernel
theorem dX3_lowestCourse_19 : decode cX3_lowestCourse 19 = .ok (.iload_n 3, 1) := by decide +kernel
theorem dX3_lowestCourse_20 : decode cX3_lowestCourse 20 = .ok (.ireturn, 1) := by decide +kernel
theorem dX3_lowestCourse_21 : decode cX3_lowestCourse 21 = .ok (.iinc 3 1, 3) := by decide +kernel
theorem dX3_lowestCourse_24 : decode cX3_lowestCourse 24 = .ok (.goto (-22), 3) := by decide +kernel
theorem dX3_lowestCourse_27 : decode cX3_lowestCourse 27 = .ok (.iconst (-1), 1) := by decide +kernel
theorem dX3_lowestCourse_28 : decode cX3_lowestCourse 28 = .ok (.ireturn, 1) := by decide +kernel
theorem dX3_lowestNearbyCourse_0 : decode cX3_lowestNearbyCourse 0 = .ok (.iconst (-1), 1) := by decide +kernel
theorem dX3_lowestNearbyCourse_1 : decode cX3_lowestNearbyCourse 1 = .ok (.istore_n 3, 1) := by decide +kernel
theorem dX3_lowestNearbyCourse_2 : decode cX3_lowestNearbyCourse 2 = .ok (.bipush (-20), 2) := by decide +kernel
theorem dX3_lowestNearbyCourse_4 : decode cX3_lowestNearbyCourse 4 = .ok (.istore 4, 2) := by decide +kernel
theorem dX3_lowestNearbyCourse_6 : decode cX3_lowestNearbyCourse 6 = .ok (.iload 4, 2) := by decide +kernel
theorem dX3_lowestNearbyCourse_8 : decode cX3_lowestNearbyCourse 8 = .ok (.bipush 20, 2) := by decide +kernel
theorem dX3_lowestNearbyCourse_10 : decode cX3_lowestNearbyCourse 10 = .ok (.if_icmp .gt 58, 3) := by decide +kernel
theorem dX3_lowestNearbyCourse_13 : decode cX3_lowestNearbyCourse 13 = .ok (.iload_n 2, 1) := by decide +kernel
theorem dX3_lowestNearbyCourse_14 : decode cX3_lowestNearbyCourse 14 = .ok (.iload 4, 2) := by decide +kernel
theorem dX3_lowestNearbyCourse_16 : decode cX3_lowestNearbyCourse 16 = .ok (.iadd, 1) := by decide +kernel
theorem dX3_lowestNearbyCourse_17 : decode cX3_lowestNearbyCourse 17 = .ok (.sipush 360, 3) := by decide +kernel
theorem dX3_lowestNearbyCourse_20 : decode cX3_lowestNearbyCourse 20 = .ok (.invokestatic 102, 3) := by decide +kernel
theorem dX3_lowestNearbyCourse_23 : decode cX3_lowestNearbyCourse 23 = .ok (.istore 5, 2) := by decide +kernel
theorem dX3_lowestNearbyCourse_25 : decode cX3_lowestNearbyCourse 25 = .ok (.iload_n 3, 1) := by decide +kernel
theorem dX3_lowestNearbyCourse_26 : decode cX3_lowestNearbyCourse 26 = .ok (.iconst (-1), 1) := by decide +kernel
theorem dX3_lowestNearbyCourse_27 : decode cX3_lowestNearbyCourse 27 = .ok (.if_icmp .eq 9, 3) := by decide +kernel
theorem dX3_lowestNearbyCourse_30 : decode cX3_lowestNearbyCourse 30 = .ok (.iload 5, 2) := by decide +kernel
theorem dX3_lowestNearbyCourse_32 : decode cX3_lowestNearbyCourse 32 = .ok (.iload_n 3, 1) := by decide +kernel
theorem dX3_lowestNearbyCourse_33 : decode cX3_lowestNearbyCourse 33 = .ok (.if_icmp .ge 7, 3) := by decide +kernel
theorem dX3_lowestNearbyCourse_36 : decode cX3_lowestNearbyCourse 36 = .ok (.iconst 1, 1) := by decide +kernel
theorem dX3_lowestNearbyCourse_37 : decode cX3_lowestNearbyCourse 37 = .ok (.goto 4, 3) := by decide +kernel
theorem dX3_lowestNearbyCourse_40 : decode cX3_lowestNearbyCourse 40 = .ok (.iconst 0, 1) := by decide +kernel
theorem dX3_lowestNearbyCourse_41 : decode cX3_lowestNearbyCourse 41 = .ok (.istore 6, 2) := by decide +kernel
theorem dX3_lowestNearbyCourse_43 : decode cX3_lowestNearbyCourse 43 = .ok (.iload 6, 2) := by decide +kernel
theorem dX3_lowestNearbyCourse_45 : decode cX3_lowestNearbyCourse 45 = .ok (.ifCond .eq 17, 3) := by decide +kernel
theorem dX3_lowestNearbyCourse_48 : decode cX3_lowestNearbyCourse 48 = .ok (.aload_n 0, 1) := by decide +kernel
theorem dX3_lowestNearbyCourse_49 : decode cX3_lowestNearbyCourse 49 = .ok (.iload_n 1, 1) := by decide +kernel
theorem dX3_lowestNearbyCourse_50 : decode cX3_lowestNearbyCourse 50 = .ok (.iload 5, 2) := by decide +kernel
theorem dX3_lowestNearbyCourse_52 : decode cX3_lowestNearbyCourse 52 = .ok (.invokevirtual 105, 3) := by decide +kernel
theorem dX3_lowestNearbyCourse_55 : decode cX3_lowestNearbyCourse 55 = .ok (.iload_n 2, 1) := by decide +kernel
theorem dX3_lowestNearbyCourse_56 : decode cX3_lowestNearbyCourse 56 = .ok (.if_icmp .ne 6, 3) := by decide +kernel
theorem dX3_lowestNearbyCourse_59 : decode cX3_lowestNearbyCourse 59 = .ok (.iload 5, 2) := by decide +kernel
theorem dX3_lowestNearbyCourse_61 : decode cX3_lowestNearbyCourse 61 = .ok (.istore_n 3, 1) := by decide +kernel
theorem dX3_lowestNearbyCourse_62 : decode cX3_lowestNearbyCourse 62 = .ok (.iinc 4 1, 3) := by decide +kernel
theorem dX3_lowestNearbyCourse_65 : decode cX3_lowestNearbyCourse 65 = .ok (.goto (-59), 3) := by decide +kernel
theorem dX3_lowestNearbyCourse_68 : decode cX3_lowestNearbyCourse 68 = .ok (.iload_n 3, 1) := by decide +kernel
theorem dX3_lowestNearbyCourse_69 : decode cX3_lowestNearbyCourse 69 = .ok (.ireturn, 1) := by decide +kernel
theorem dX3_errorShiftedBy_0 : decode cX3_errorShiftedBy 0 = .ok (.iconst 0, 1) := by decide +kernel
theorem dX3_errorShiftedBy_1 : decode cX3_errorShiftedBy 1 = .ok (.istore_n 3, 1) := by decide +kernel
theorem dX3_errorShiftedBy_2 : decode cX3_errorShiftedBy 2 = .ok (.iconst 0, 1) := by decide +kernel
theorem dX3_errorShiftedBy_3 : decode cX3_errorShiftedBy 3 = .ok (.istore 4, 2) := by decide +kernel
theorem dX3_errorShiftedBy_5 : decode cX3_errorShiftedBy 5 = .ok (.iload 4, 2) := by decide +kernel
theorem dX3_errorShiftedBy_7 : decode cX3_errorShiftedBy 7 = .ok (.bipush 8, 2) := by decide +kernel
theorem dX3_errorShiftedBy_9 : decode cX3_errorShiftedBy 9 = .ok (.if_icmp .ge 28, 3) := by decide +kernel
theorem dX3_errorShiftedBy_12 : decode cX3_errorShiftedBy 12 = .ok (.aload_n 0, 1) := by decide +kernel
theorem dX3_errorShiftedBy_13 : decode cX3_errorShiftedBy 13 = .ok (.iload_n 1, 1) := by decide +kernel
theorem dX3_errorShiftedBy_14 : decode cX3_errorShiftedBy 14 = .ok (.iload 4, 2) := by decide +kernel
theorem dX3_errorShiftedBy_16 : decode cX3_errorShiftedBy 16 = .ok (.invokevirtual 38, 3) := by decide +kernel
theorem dX3_errorShiftedBy_19 : decode cX3_errorShiftedBy 19 = .ok (.iload_n 2, 1) := by decide +kernel
theorem dX3_errorShiftedBy_20 : decode cX3_errorShiftedBy 20 = .ok (.iadd, 1) := by decide +kernel
theorem dX3_errorShiftedBy_21 : decode cX3_errorShiftedBy 21 = .ok (.istore 5, 2) := by decide +kernel
theorem dX3_errorShiftedBy_23 : decode cX3_errorShiftedBy 23 = .ok (.iload_n 3, 1) := by decide +kernel
theorem dX3_errorShiftedBy_24 : decode cX3_errorShiftedBy 24 = .ok (.iload 5, 2) := by decide +kernel
theorem dX3_errorShiftedBy_26 : decode cX3_errorShiftedBy 26 = .ok (.iload 5, 2) := by decide +kernel
theorem dX3_errorShiftedBy_28 : decode cX3_errorShiftedBy 28 = .ok (.imul, 1) := by decide +kernel
theorem dX3_errorShiftedBy_29 : decode cX3_errorShiftedBy 29 = .ok (.iadd, 1) := by decide +kernel
theorem dX3_errorShiftedBy_30 : decode cX3_errorShiftedBy 30 = .ok (.istore_n 3, 1) := by decide +kernel
theorem dX3_errorShiftedBy_31 : decode cX3_errorShiftedBy 31 = .ok (.iinc 4 1, 3) := by decide +kernel
theorem dX3_errorShiftedBy_34 : decode cX3_errorShiftedBy 34 = .ok (.goto (-29), 3) := by decide +kernel
theorem dX3_errorShiftedBy_37 : decode cX3_errorShiftedBy 37 = .ok (.iload_n 3, 1) := by decide +kernel
theorem dX3_errorShiftedBy_38 : decode cX3_errorShiftedBy 38 = .ok (.ireturn, 1) := by decide +kernel
theorem dX3_shiftByTrying_0 : decode cX3_shiftByTrying 0 = .ok (.iconst 0, 1) := by decide +kernel
theorem dX3_shiftByTrying_1 : decode cX3_shiftByTrying 1 = .ok (.istore_n 2, 1) := by decide +kernel
theorem dX3_shiftByTrying_2 : decode cX3_shiftByTrying 2 = .ok (.aload_n 0, 1) := by decide +kernel
theorem dX3_shiftByTrying_3 : decode cX3_shiftByTrying 3 = .ok (.iload_n 1, 1) := by decide +kernel
theorem dX3_shiftByTrying_4 : decode cX3_shiftByTrying 4 = .ok (.iconst 0, 1) := by decide +kernel
theorem dX3_shiftByTrying_5 : decode cX3_shiftByTrying 5 = .ok (.invokevirtual 108, 3) := by decide +kernel
theorem dX3_shiftByTrying_8 : decode cX3_shiftByTrying 8 = .ok (.istore_n 3, 1) := by decide +kernel
theorem dX3_shiftByTrying_9 : decode cX3_shiftByTrying 9 = .ok (.iconst 1, 1) := by decide +kernel
theorem dX3_shiftByTrying_10 : decode cX3_shiftByTrying 10 = .ok (.istore 4, 2) := by decide +kernel
theorem dX3_shiftByTrying_12 : decode cX3_shiftByTrying 12 = .ok (.iload 4, 2) := by decide +kernel
theorem dX3_shiftByTrying_14 : decode cX3_shiftByTrying 14 = .ok (.bipush 20, 2) := by decide +kernel
theorem dX3_shiftByTrying_16 : decode cX3_shiftByTrying 16 = .ok (.if_icmp .gt 54, 3) := by decide +kernel
theorem dX3_shiftByTrying_19 : decode cX3_shiftByTrying 19 = .ok (.iload 4, 2) := by decide +kernel
theorem dX3_shiftByTrying_21 : decode cX3_shiftByTrying 21 = .ok (.ineg, 1) := by decide +kernel
theorem dX3_shiftByTrying_22 : decode cX3_shiftByTrying 22 = .ok (.istore 5, 2) := by decide +kernel
theorem dX3_shiftByTrying_24 : decode cX3_shiftByTrying 24 = .ok (.iload 5, 2) := by decide +kernel
theorem dX3_shiftByTrying_26 : decode cX3_shiftByTrying 26 = .ok (.iload 4, 2) := by decide +kernel
theorem dX3_shiftByTrying_28 : decode cX3_shiftByTrying 28 = .ok (.if_icmp .gt 36, 3) := by decide +kernel
theorem dX3_shiftByTrying_31 : decode cX3_shiftByTrying 31 = .ok (.aload_n 0, 1) := by decide +kernel
theorem dX3_shiftByTrying_32 : decode cX3_shiftByTrying 32 = .ok (.iload_n 1, 1) := by decide +kernel
theorem dX3_shiftByTrying_33 : decode cX3_shiftByTrying 33 = .ok (.iload 5, 2) := by decide +kernel
theorem dX3_shiftByTrying_35 : decode cX3_shiftByTrying 35 = .ok (.invokevirtual 108, 3) := by decide +kernel
theorem dX3_shiftByTrying_38 : decode cX3_shiftByTrying 38 = .ok (.istore 6, 2) := by decide +kernel
theorem dX3_shiftByTrying_40 : decode cX3_shiftByTrying 40 = .ok (.iload 6, 2) := by decide +kernel
theorem dX3_shiftByTrying_42 : decode cX3_shiftByTrying 42 = .ok (.iload_n 3, 1) := by decide +kernel
theorem dX3_shiftByTrying_43 : decode cX3_shiftByTrying 43 = .ok (.if_icmp .ge 9, 3) := by decide +kernel
theorem dX3_shiftByTrying_46 : decode cX3_shiftByTrying 46 = .ok (.iload 6, 2) := by decide +kernel
theorem dX3_shiftByTrying_48 : decode cX3_shiftByTrying 48 = .ok (.istore_n 3, 1) := by decide +kernel
theorem dX3_shiftByTrying_49 : decode cX3_shiftByTrying 49 = .ok (.iload 5, 2) := by decide +kernel
theorem dX3_shiftByTrying_51 : decode cX3_shiftByTrying 51 = .ok (.istore_n 2, 1) := by decide +kernel
theorem dX3_shiftByTrying_52 : decode cX3_shiftByTrying 52 = .ok (.iload 5, 2) := by decide +kernel
theorem dX3_shiftByTrying_54 : decode cX3_shiftByTrying 54 = .ok (.iconst 2, 1) := by decide +kernel
theorem dX3_shiftByTrying_55 : decode cX3_shiftByTrying 55 = .ok (.iload 4, 2) := by decide +kernel
theorem dX3_shiftByTrying_57 : decode cX3_shiftByTrying 57 = .ok (.imul, 1) := by decide +kernel
theorem dX3_shiftByTrying_58 : decode cX3_shiftByTrying 58 = .ok (.iadd, 1) := by decide +kernel
theorem dX3_shiftByTrying_59 : decode cX3_shiftByTrying 59 = .ok (.istore 5, 2) := by decide +kernel
theorem dX3_shiftByTrying_61 : decode cX3_shiftByTrying 61 = .ok (.goto (-37), 3) := by decide +kernel
theorem dX3_shiftByTrying_64 : decode cX3_shiftByTrying 64 = .ok (.iinc 4 1, 3) := by decide +kernel
theorem dX3_shiftByTrying_67 : decode cX3_shiftByTrying 67 = .ok (.goto (-55), 3) := by decide +kernel
theorem dX3_shiftByTrying_70 : decode cX3_shiftByTrying 70 = .ok (.iload_n 2, 1) := by decide +kernel
theorem dX3_shiftByTrying_71 : decode cX3_shiftByTrying 71 = .ok (.ireturn, 1) := by decide +kernel
theorem dX3_shiftFromSum_0 : decode cX3_shiftFromSum 0 = .ok (.iconst 0, 1) := by decide +kernel
theorem dX3_shiftFromSum_1 : decode cX3_shiftFromSum 1 = .ok (.istore_n 2, 1) := by decide +kernel
theorem dX3_shiftFromSum_2 : decode cX3_shiftFromSum 2 = .ok (.iconst 0, 1) := by decide +kernel
theorem dX3_shiftFromSum_3 : decode cX3_shiftFromSum 3 = .ok (.istore_n 3, 1) := by decide +kernel
theorem dX3_shiftFromSum_4 : decode cX3_shiftFromSum 4 = .ok (.iload_n 3, 1) := by decide +kernel
theorem dX3_shiftFromSum_5 : decode cX3_shiftFromSum 5 = .ok (.bipush 8, 2) := by decide +kernel
theorem dX3_shiftFromSum_7 : decode cX3_shiftFromSum 7 = .ok (.if_icmp .ge 18, 3) := by decide +kernel
theorem dX3_shiftFromSum_10 : decode cX3_shiftFromSum 10 = .ok (.iload_n 2, 1) := by decide +kernel
theorem dX3_shiftFromSum_11 : decode cX3_shiftFromSum 11 = .ok (.aload_n 0, 1) := by decide +kernel
theorem dX3_shiftFromSum_12 : decode cX3_shiftFromSum 12 = .ok (.iload_n 1, 1) := by decide +kernel
theorem dX3_shiftFromSum_13 : decode cX3_shiftFromSum 13 = .ok (.iload_n 3, 1) := by decide +kernel
theorem dX3_shiftFromSum_14 : decode cX3_shiftFromSum 14 = .ok (.invokevirtual 38, 3) := by decide +kernel
theorem dX3_shiftFromSum_17 : decode cX3_shiftFromSum 17 = .ok (.iadd, 1) := by decide +kernel
theorem dX3_shiftFromSum_18 : decode cX3_shiftFromSum 18 = .ok (.istore_n 2, 1) := by decide +kernel
theorem dX3_shiftFromSum_19 : decode cX3_shiftFromSum 19 = .ok (.iinc 3 1, 3) := by decide +kernel
theorem dX3_shiftFromSum_22 : decode cX3_shiftFromSum 22 = .ok (.goto (-18), 3) := by decide +kernel
theorem dX3_shiftFromSum_25 : decode cX3_shiftFromSum 25 = .ok (.iload_n 2, 1) := by decide +kernel
theorem dX3_shiftFromSum_26 : decode cX3_shiftFromSum 26 = .ok (.invokestatic 111, 3) := by decide +kernel
theorem dX3_shiftFromSum_29 : decode cX3_shiftFromSum 29 = .ok (.iconst 4, 1) := by decide +kernel
theorem dX3_shiftFromSum_30 : decode cX3_shiftFromSum 30 = .ok (.iadd, 1) := by decide +kernel
theorem dX3_shiftFromSum_31 : decode cX3_shiftFromSum 31 = .ok (.iconst 1, 1) := by decide +kernel
theorem dX3_shiftFromSum_32 : decode cX3_shiftFromSum 32 = .ok (.isub, 1) := by decide +kernel
theorem dX3_shiftFromSum_33 : decode cX3_shiftFromSum 33 = .ok (.bipush 8, 2) := by decide +kernel
theorem dX3_shiftFromSum_35 : decode cX3_shiftFromSum 35 = .ok (.idiv, 1) := by decide +kernel
theorem dX3_shiftFromSum_36 : decode cX3_shiftFromSum 36 = .ok (.istore_n 3, 1) := by decide +kernel
theorem dX3_shiftFromSum_37 : decode cX3_shiftFromSum 37 = .ok (.iload_n 2, 1) := by decide +kernel
theorem dX3_shiftFromSum_38 : decode cX3_shiftFromSum 38 = .ok (.ifCond .le 8, 3) := by decide +kernel
theorem dX3_shiftFromSum_41 : decode cX3_shiftFromSum 41 = .ok (.iload_n 3, 1) := by decide +kernel
theorem dX3_shiftFromSum_42 : decode cX3_shiftFromSum 42 = .ok (.ineg, 1) := by decide +kernel
theorem dX3_shiftFromSum_43 : decode cX3_shiftFromSum 43 = .ok (.goto 4, 3) := by decide +kernel
theorem dX3_shiftFromSum_46 : decode cX3_shiftFromSum 46 = .ok (.iload_n 3, 1) := by decide +kernel
theorem dX3_shiftFromSum_47 : decode cX3_shiftFromSum 47 = .ok (.ireturn, 1) := by decide +kernel
theorem dX3_countAheadOf_0 : decode cX3_countAheadOf 0 = .ok (.iconst 0, 1) := by decide +kernel
theorem dX3_countAheadOf_1 : decode cX3_countAheadOf 1 = .ok (.istore_n 2, 1) := by decide +kernel
theorem dX3_countAheadOf_2 : decode cX3_countAheadOf 2 = .ok (.iconst 0, 1) := by decide +kernel
theorem dX3_countAheadOf_3 : decode cX3_countAheadOf 3 = .ok (.istore_n 3, 1) := by decide +kernel
theorem dX3_countAheadOf_4 : decode cX3_countAheadOf 4 = .ok (.iload_n 3, 1) := by decide +kernel
theorem dX3_countAheadOf_5 : decode cX3_countAheadOf 5 = .ok (.aload_n 0, 1) := by decide +kernel
theorem dX3_countAheadOf_6 : decode cX3_countAheadOf 6 = .ok (.getfield 22, 3) := by decide +kernel
theorem dX3_countAheadOf_9 : decode cX3_countAheadOf 9 = .ok (.if_icmp .ge 26, 3) := by decide +kernel
theorem dX3_countAheadOf_12 : decode cX3_countAheadOf 12 = .ok (.iload_n 2, 1) := by decide +kernel
theorem dX3_countAheadOf_13 : decode cX3_countAheadOf 13 = .ok (.aload_n 0, 1) := by decide +kernel
theorem dX3_countAheadOf_14 : decode cX3_countAheadOf 14 = .ok (.iload_n 3, 1) := by decide +kernel
theorem dX3_countAheadOf_15 : decode cX3_countAheadOf 15 = .ok (.iload_n 1, 1) := by decide +kernel
theorem dX3_countAheadOf_16 : decode cX3_countAheadOf 16 = .ok (.invokevirtual 114, 3) := by decide +kernel
theorem dX3_countAheadOf_19 : decode cX3_countAheadOf 19 = .ok (.ifCond .eq 7, 3) := by decide +kernel
theorem dX3_countAheadOf_22 : decode cX3_countAheadOf 22 = .ok (.iconst 1, 1) := by decide +kernel
theorem dX3_countAheadOf_23 : decode cX3_countAheadOf 23 = .ok (.goto 4, 3) := by decide +kernel
theorem dX3_countAheadOf_26 : decode cX3_countAheadOf 26 = .ok (.iconst 0, 1) := by decide +kernel
theorem dX3_countAheadOf_27 : decode cX3_countAheadOf 27 = .ok (.iadd, 1) := by decide +kernel
theorem dX3_countAheadOf_28 : decode cX3_countAheadOf 28 = .ok (.istore_n 2, 1) := by decide +kernel
theorem dX3_countAheadOf_29 : decode cX3_countAheadOf 29 = .ok (.iinc 3 1, 3) := by decide +kernel
theorem dX3_countAheadOf_32 : decode cX3_countAheadOf 32 = .ok (.goto (-28), 3) := by decide +kernel
theorem dX3_countAheadOf_35 : decode cX3_countAheadOf 35 = .ok (.iload_n 2, 1) := by decide +kernel
theorem dX3_countAheadOf_36 : decode cX3_countAheadOf 36 = .ok (.ireturn, 1) := by decide +kernel
theorem dX3_isAhead_0 : decode cX3_isAhead 0 = .ok (.aload_n 0, 1) := by decide +kernel
theorem dX3_isAhead_1 : decode cX3_isAhead 1 = .ok (.iload_n 1, 1) := by decide +kernel
theorem dX3_isAhead_2 : decode cX3_isAhead 2 = .ok (.iconst 0, 1) := by decide +kernel
theorem dX3_isAhead_3 : decode cX3_isAhead 3 = .ok (.invokevirtual 108, 3) := by decide +kernel
theorem dX3_isAhead_6 : decode cX3_isAhead 6 = .ok (.istore_n 3, 1) := by decide +kernel
theorem dX3_isAhead_7 : decode cX3_isAhead 7 = .ok (.aload_n 0, 1) := by decide +kernel
theorem dX3_isAhead_8 : decode cX3_isAhead 8 = .ok (.iload_n 2, 1) := by decide +kernel
theorem dX3_isAhead_9 : decode cX3_isAhead 9 = .ok (.iconst 0, 1) := by decide +kernel
theorem dX3_isAhead_10 : decode cX3_isAhead 10 = .ok (.invokevirtual 108, 3) := by decide +kernel
theorem dX3_isAhead_13 : decode cX3_isAhead 13 = .ok (.istore 4, 2) := by decide +kernel
theorem dX3_isAhead_15 : decode cX3_isAhead 15 = .ok (.iload_n 3, 1) := by decide +kernel
theorem dX3_isAhead_16 : decode cX3_isAhead 16 = .ok (.iload 4, 2) := by decide +kernel
theorem dX3_isAhead_18 : decode cX3_isAhead 18 = .ok (.if_icmp .eq 15, 3) := by decide +kernel
theorem dX3_isAhead_21 : decode cX3_isAhead 21 = .ok (.iload_n 3, 1) := by decide +kernel
theorem dX3_isAhead_22 : decode cX3_isAhead 22 = .ok (.iload 4, 2) := by decide +kernel
theorem dX3_isAhead_24 : decode cX3_isAhead 24 = .ok (.if_icmp .ge 7, 3) := by decide +kernel
theorem dX3_isAhead_27 : decode cX3_isAhead 27 = .ok (.iconst 1, 1) := by decide +kernel
theorem dX3_isAhead_28 : decode cX3_isAhead 28 = .ok (.goto 4, 3) := by decide +kernel
theorem dX3_isAhead_31 : decode cX3_isAhead 31 = .ok (.iconst 0, 1) := by decide +kernel
theorem dX3_isAhead_32 : decode cX3_isAhead 32 = .ok (.ireturn, 1) := by decide +kernel
theorem dX3_isAhead_33 : decode cX3_isAhead 33 = .ok (.aload_n 0, 1) := by decide +kernel
theorem dX3_isAhead_34 : decode cX3_isAhead 34 = .ok (.getfield 15, 3) := by decide +kernel
theorem dX3_isAhead_37 : decode cX3_isAhead 37 = .ok (.iload_n 1, 1) := by decide +kernel
theorem dX3_isAhead_38 : decode cX3_isAhead 38 = .ok (.iaload, 1) := by decide +kernel
theorem dX3_isAhead_39 : decode cX3_isAhead 39 = .ok (.aload_n 0, 1) := by decide +kernel
theorem dX3_isAhead_40 : decode cX3_isAhead 40 = .ok (.getfield 15, 3) := by decide +kernel
theorem dX3_isAhead_43 : decode cX3_isAhead 43 = .ok (.iload_n 2, 1) := by decide +kernel
theorem dX3_isAhead_44 : decode cX3_isAhead 44 = .ok (.iaload, 1) := by decide +kernel
theorem dX3_isAhead_45 : decode cX3_isAhead 45 = .ok (.if_icmp .eq 24, 3) := by decide +kernel
theorem dX3_isAhead_48 : decode cX3_isAhead 48 = .ok (.aload_n 0, 1) := by decide +kernel
theorem dX3_isAhead_49 : decode cX3_isAhead 49 = .ok (.getfield 15, 3) := by decide +kernel
theorem dX3_isAhead_52 : decode cX3_isAhead 52 = .ok (.iload_n 1, 1) := by decide +kernel
theorem dX3_isAhead_53 : decode cX3_isAhead 53 = .ok (.iaload, 1) := by decide +kernel
theorem dX3_isAhead_54 : decode cX3_isAhead 54 = .ok (.aload_n 0, 1) := by decide +kernel
theorem dX3_isAhead_55 : decode cX3_isAhead 55 = .ok (.getfield 15, 3) := by decide +kernel
theorem dX3_isAhead_58 : decode cX3_isAhead 58 = .ok (.iload_n 2, 1) := by decide +kernel
theorem dX3_isAhead_59 : decode cX3_isAhead 59 = .ok (.iaload, 1) := by decide +kernel
theorem dX3_isAhead_60 : decode cX3_isAhead 60 = .ok (.if_icmp .le 7, 3) := by decide +kernel
theorem dX3_isAhead_63 : decode cX3_isAhead 63 = .ok (.iconst 1, 1) := by decide +kernel
theorem dX3_isAhead_64 : decode cX3_isAhead 64 = .ok (.goto 4, 3) := by decide +kernel
theorem dX3_isAhead_67 : decode cX3_isAhead 67 = .ok (.iconst 0, 1) := by decide +kernel
theorem dX3_isAhead_68 : decode cX3_isAhead 68 = .ok (.ireturn, 1) := by decide +kernel
theorem dX3_isAhead_69 : decode cX3_isAhead 69 = .ok (.iload_n 1, 1) := by decide +kernel
theorem dX3_isAhead_70 : decode cX3_isAhead 70 = .ok (.iload_n 2, 1) := by decide +kernel
theorem dX3_isAhead_71 : decode cX3_isAhead 71 = .ok (.if_icmp .ge 7, 3) := by decide +kernel
theorem dX3_isAhead_74 : decode cX3_isAhead 74 = .ok (.iconst 1, 1) := by decide +kernel
theorem dX3_isAhead_75 : decode cX3_isAhead 75 = .ok (.goto 4, 3) := by decide +kernel
theorem dX3_isAhead_78 : decode cX3_isAhead 78 = .ok (.iconst 0, 1) := by decide +kernel
theorem dX3_isAhead_79 : decode cX3_isAhead 79 = .ok (.ireturn, 1) := by decide +kernel
theorem dX10_outside_0 : decode cX10_outside 0 = .ok (.iload_n 0, 1) := by decide +kernel
theorem dX10_outside_1 : decode cX10_outside 1 = .ok (.iload_n 1, 1) := by decide +kernel
theorem dX10_outside_2 : decode cX10_outside 2 = .ok (.if_icmp .lt 8, 3) := by decide +kernel
theorem dX10_outside_5 : decode cX10_outside 5 = .ok (.iload_n 0, 1) := by decide +kernel
theorem dX10_outside_6 : decode cX10_outside 6 = .ok (.iload_n 2, 1) := by decide +kernel
theorem dX10_outside_7 : decode cX10_outside 7 = .ok (.if_icmp .le 7, 3) := by decide +kernel
theorem dX10_outside_10 : decode cX10_outside 10 = .ok (.iconst 1, 1) := by decide +kernel
theorem dX10_outside_11 : decode cX10_outside 11 = .ok (.goto 4, 3) := by decide +kernel
theorem dX10_outside_14 : decode cX10_outside 14 = .ok (.iconst 0, 1) := by decide +kernel
theorem dX10_outside_15 : decode cX10_outside 15 = .ok (.ireturn, 1) := by decide +kernel
theorem dX10_holds_0 : decode cX10_holds 0 = .ok (.iload_n 0, 1) := by decide +kernel
theorem dX10_holds_1 : decode cX10_holds 1 = .ok (.iload_n 1, 1) := by decide +kernel
theorem dX10_holds_2 : decode cX10_holds 2 = .ok (.ishr, 1) := by decide +kernel
theorem dX10_holds_3 : decode cX10_holds 3 = .ok (.iconst 1, 1) := by decide +kernel
theorem dX10_holds_4 : decode cX10_holds 4 = .ok (.iand, 1) := by decide +kernel
theorem dX10_holds_5 : decode cX10_holds 5 = .ok (.ifCond .eq 7, 3) := by decide +kernel
theorem dX10_holds_8 : decode cX10_holds 8 = .ok (.iconst 1, 1) := by decide +kernel
theorem dX10_holds_9 : decode cX10_holds 9 = .ok (.goto 4, 3) := by decide +kernel
theorem dX10_holds_12 : decode cX10_holds 12 = .ok (.iconst 0, 1) := by decide +kernel
theorem dX10_holds_13 : decode cX10_holds 13 = .ok (.ireturn, 1) := by decide +kernel
