theorem dX5_init_0 : decode cX5_init 0 = .ok (.aload_n 0, 1) := by decide +kernel
theorem dX5_init_1 : decode cX5_init 1 = .ok (.invokespecial 3, 3) := by decide +kernel
theorem dX5_init_4 : decode cX5_init 4 = .ok (.aload_n 0, 1) := by decide +kernel
theorem dX5_init_5 : decode cX5_init 5 = .ok (.bipush 7, 2) := by decide +kernel
theorem dX5_init_7 : decode cX5_init 7 = .ok (.newarray .int, 2) := by decide +kernel
theorem dX5_init_9 : decode cX5_init 9 = .ok (.putfield 9, 3) := by decide +kernel
theorem dX5_init_12 : decode cX5_init 12 = .ok (.aload_n 0, 1) := by decide +kernel
theorem dX5_init_13 : decode cX5_init 13 = .ok (.bipush 7, 2) := by decide +kernel
theorem dX5_init_15 : decode cX5_init 15 = .ok (.newarray .int, 2) := by decide +kernel
theorem dX5_init_17 : decode cX5_init 17 = .ok (.putfield 15, 3) := by decide +kernel
theorem dX5_init_20 : decode cX5_init 20 = .ok (.aload_n 0, 1) := by decide +kernel
theorem dX5_init_21 : decode cX5_init 21 = .ok (.bipush 7, 2) := by decide +kernel
theorem dX5_init_23 : decode cX5_init 23 = .ok (.newarray .int, 2) := by decide +kernel
theorem dX5_init_25 : decode cX5_init 25 = .ok (.putfield 18, 3) := by decide +kernel
theorem dX5_init_28 : decode cX5_init 28 = .ok (.aload_n 0, 1) := by decide +kernel
theorem dX5_init_29 : decode cX5_init 29 = .ok (.bipush 7, 2) := by decide +kernel
theorem dX5_init_31 : decode cX5_init 31 = .ok (.newarray .int, 2) := by decide +kernel
theorem dX5_init_33 : decode cX5_init 33 = .ok (.putfield 21, 3) := by decide +kernel
theorem dX5_init_36 : decode cX5_init 36 = .ok (.return_, 1) := by decide +kernel
theorem dX5_copyFrom_0 : decode cX5_copyFrom 0 = .ok (.aload_n 0, 1) := by decide +kernel
theorem dX5_copyFrom_1 : decode cX5_copyFrom 1 = .ok (.aload_n 1, 1) := by decide +kernel
theorem dX5_copyFrom_2 : decode cX5_copyFrom 2 = .ok (.getfield 24, 3) := by decide +kernel
theorem dX5_copyFrom_5 : decode cX5_copyFrom 5 = .ok (.putfield 24, 3) := by decide +kernel
theorem dX5_copyFrom_8 : decode cX5_copyFrom 8 = .ok (.aload_n 0, 1) := by decide +kernel
theorem dX5_copyFrom_9 : decode cX5_copyFrom 9 = .ok (.aload_n 1, 1) := by decide +kernel
theorem dX5_copyFrom_10 : decode cX5_copyFrom 10 = .ok (.getfield 28, 3) := by decide +kernel
theorem dX5_copyFrom_13 : decode cX5_copyFrom 13 = .ok (.putfield 28, 3) := by decide +kernel
theorem dX5_copyFrom_16 : decode cX5_copyFrom 16 = .ok (.aload_n 0, 1) := by decide +kernel
theorem dX5_copyFrom_17 : decode cX5_copyFrom 17 = .ok (.aload_n 1, 1) := by decide +kernel
theorem dX5_copyFrom_18 : decode cX5_copyFrom 18 = .ok (.getfield 31, 3) := by decide +kernel
theorem dX5_copyFrom_21 : decode cX5_copyFrom 21 = .ok (.putfield 31, 3) := by decide +kernel
theorem dX5_copyFrom_24 : decode cX5_copyFrom 24 = .ok (.aload_n 0, 1) := by decide +kernel
theorem dX5_copyFrom_25 : decode cX5_copyFrom 25 = .ok (.aload_n 1, 1) := by decide +kernel
theorem dX5_copyFrom_26 : decode cX5_copyFrom 26 = .ok (.getfield 34, 3) := by decide +kernel
theorem dX5_copyFrom_29 : decode cX5_copyFrom 29 = .ok (.putfield 34, 3) := by decide +kernel
theorem dX5_copyFrom_32 : decode cX5_copyFrom 32 = .ok (.aload_n 0, 1) := by decide +kernel
theorem dX5_copyFrom_33 : decode cX5_copyFrom 33 = .ok (.aload_n 1, 1) := by decide +kernel
theorem dX5_copyFrom_34 : decode cX5_copyFrom 34 = .ok (.getfield 37, 3) := by decide +kernel
theorem dX5_copyFrom_37 : decode cX5_copyFrom 37 = .ok (.putfield 37, 3) := by decide +kernel
theorem dX5_copyFrom_40 : decode cX5_copyFrom 40 = .ok (.aload_n 0, 1) := by decide +kernel
theorem dX5_copyFrom_41 : decode cX5_copyFrom 41 = .ok (.aload_n 1, 1) := by decide +kernel
theorem dX5_copyFrom_42 : decode cX5_copyFrom 42 = .ok (.getfield 40, 3) := by decide +kernel
theorem dX5_copyFrom_45 : decode cX5_copyFrom 45 = .ok (.putfield 40, 3) := by decide +kernel
theorem dX5_copyFrom_48 : decode cX5_copyFrom 48 = .ok (.aload_n 1, 1) := by decide +kernel
theorem dX5_copyFrom_49 : decode cX5_copyFrom 49 = .ok (.getfield 9, 3) := by decide +kernel
theorem dX5_copyFrom_52 : decode cX5_copyFrom 52 = .ok (.iconst 0, 1) := by decide +kernel
theorem dX5_copyFrom_53 : decode cX5_copyFrom 53 = .ok (.aload_n 0, 1) := by decide +kernel
theorem dX5_copyFrom_54 : decode cX5_copyFrom 54 = .ok (.getfield 9, 3) := by decide +kernel
theorem dX5_copyFrom_57 : decode cX5_copyFrom 57 = .ok (.iconst 0, 1) := by decide +kernel
theorem dX5_copyFrom_58 : decode cX5_copyFrom 58 = .ok (.bipush 7, 2) := by decide +kernel
theorem dX5_copyFrom_60 : decode cX5_copyFrom 60 = .ok (.invokestatic 44, 3) := by decide +kernel
theorem dX5_copyFrom_63 : decode cX5_copyFrom 63 = .ok (.aload_n 1, 1) := by decide +kernel
theorem dX5_copyFrom_64 : decode cX5_copyFrom 64 = .ok (.getfield 15, 3) := by decide +kernel
theorem dX5_copyFrom_67 : decode cX5_copyFrom 67 = .ok (.iconst 0, 1) := by decide +kernel
theorem dX5_copyFrom_68 : decode cX5_copyFrom 68 = .ok (.aload_n 0, 1) := by decide +kernel
theorem dX5_copyFrom_69 : decode cX5_copyFrom 69 = .ok (.getfield 15, 3) := by decide +kernel
theorem dX5_copyFrom_72 : decode cX5_copyFrom 72 = .ok (.iconst 0, 1) := by decide +kernel
theorem dX5_copyFrom_73 : decode cX5_copyFrom 73 = .ok (.bipush 7, 2) := by decide +kernel
theorem dX5_copyFrom_75 : decode cX5_copyFrom 75 = .ok (.invokestatic 44, 3) := by decide +kernel
theorem dX5_copyFrom_78 : decode cX5_copyFrom 78 = .ok (.aload_n 1, 1) := by decide +kernel
theorem dX5_copyFrom_79 : decode cX5_copyFrom 79 = .ok (.getfield 18, 3) := by decide +kernel
theorem dX5_copyFrom_82 : decode cX5_copyFrom 82 = .ok (.iconst 0, 1) := by decide +kernel
theorem dX5_copyFrom_83 : decode cX5_copyFrom 83 = .ok (.aload_n 0, 1) := by decide +kernel
theorem dX5_copyFrom_84 : decode cX5_copyFrom 84 = .ok (.getfield 18, 3) := by decide +kernel
theorem dX5_copyFrom_87 : decode cX5_copyFrom 87 = .ok (.iconst 0, 1) := by decide +kernel
theorem dX5_copyFrom_88 : decode cX5_copyFrom 88 = .ok (.bipush 7, 2) := by decide +kernel
theorem dX5_copyFrom_90 : decode cX5_copyFrom 90 = .ok (.invokestatic 44, 3) := by decide +kernel
theorem dX5_copyFrom_93 : decode cX5_copyFrom 93 = .ok (.aload_n 1, 1) := by decide +kernel
theorem dX5_copyFrom_94 : decode cX5_copyFrom 94 = .ok (.getfield 21, 3) := by decide +kernel
theorem dX5_copyFrom_97 : decode cX5_copyFrom 97 = .ok (.iconst 0, 1) := by decide +kernel
theorem dX5_copyFrom_98 : decode cX5_copyFrom 98 = .ok (.aload_n 0, 1) := by decide +kernel
theorem dX5_copyFrom_99 : decode cX5_copyFrom 99 = .ok (.getfield 21, 3) := by decide +kernel
theorem dX5_copyFrom_102 : decode cX5_copyFrom 102 = .ok (.iconst 0, 1) := by decide +kernel
theorem dX5_copyFrom_103 : decode cX5_copyFrom 103 = .ok (.bipush 7, 2) := by decide +kernel
theorem dX5_copyFrom_105 : decode cX5_copyFrom 105 = .ok (.invokestatic 44, 3) := by decide +kernel
theorem dX5_copyFrom_108 : decode cX5_copyFrom 108 = .ok (.return_, 1) := by decide +kernel
theorem dX5_placeOf_0 : decode cX5_placeOf 0 = .ok (.iconst 0, 1) := by decide +kernel
theorem dX5_placeOf_1 : decode cX5_placeOf 1 = .ok (.istore_n 2, 1) := by decide +kernel
theorem dX5_placeOf_2 : decode cX5_placeOf 2 = .ok (.iload_n 2, 1) := by decide +kernel
theorem dX5_placeOf_3 : decode cX5_placeOf 3 = .ok (.aload_n 0, 1) := by decide +kernel
theorem dX5_placeOf_4 : decode cX5_placeOf 4 = .ok (.getfield 28, 3) := by decide +kernel
theorem dX5_placeOf_7 : decode cX5_placeOf 7 = .ok (.if_icmp .ge 21, 3) := by decide +kernel
theorem dX5_placeOf_10 : decode cX5_placeOf 10 = .ok (.aload_n 0, 1) := by decide +kernel
theorem dX5_placeOf_11 : decode cX5_placeOf 11 = .ok (.getfield 9, 3) := by decide +kernel
theorem dX5_placeOf_14 : decode cX5_placeOf 14 = .ok (.iload_n 2, 1) := by decide +kernel
theorem dX5_placeOf_15 : decode cX5_placeOf 15 = .ok (.iaload, 1) := by decide +kernel
theorem dX5_placeOf_16 : decode cX5_placeOf 16 = .ok (.iload_n 1, 1) := by decide +kernel
theorem dX5_placeOf_17 : decode cX5_placeOf 17 = .ok (.if_icmp .ne 5, 3) := by decide +kernel
theorem dX5_placeOf_20 : decode cX5_placeOf 20 = .ok (.iload_n 2, 1) := by decide +kernel
theorem dX5_placeOf_21 : decode cX5_placeOf 21 = .ok (.ireturn, 1) := by decide +kernel
theorem dX5_placeOf_22 : decode cX5_placeOf 22 = .ok (.iinc 2 1, 3) := by decide +kernel
theorem dX5_placeOf_25 : decode cX5_placeOf 25 = .ok (.goto (-23), 3) := by decide +kernel
theorem dX5_placeOf_28 : decode cX5_placeOf 28 = .ok (.iconst (-1), 1) := by decide +kernel
theorem dX5_placeOf_29 : decode cX5_placeOf 29 = .ok (.ireturn, 1) := by decide +kernel
theorem dX5_latenessFrom_0 : decode cX5_latenessFrom 0 = .ok (.iload_n 2, 1) := by decide +kernel
theorem dX5_latenessFrom_1 : decode cX5_latenessFrom 1 = .ok (.aload_n 0, 1) := by decide +kernel
theorem dX5_latenessFrom_2 : decode cX5_latenessFrom 2 = .ok (.getfield 15, 3) := by decide +kernel
theorem dX5_latenessFrom_5 : decode cX5_latenessFrom 5 = .ok (.iload_n 1, 1) := by decide +kernel
theorem dX5_latenessFrom_6 : decode cX5_latenessFrom 6 = .ok (.iaload, 1) := by decide +kernel
theorem dX5_latenessFrom_7 : decode cX5_latenessFrom 7 = .ok (.iadd, 1) := by decide +kernel
theorem dX5_latenessFrom_8 : decode cX5_latenessFrom 8 = .ok (.aload_n 0, 1) := by decide +kernel
theorem dX5_latenessFrom_9 : decode cX5_latenessFrom 9 = .ok (.getfield 18, 3) := by decide +kernel
theorem dX5_latenessFrom_12 : decode cX5_latenessFrom 12 = .ok (.iload_n 1, 1) := by decide +kernel
theorem dX5_latenessFrom_13 : decode cX5_latenessFrom 13 = .ok (.iaload, 1) := by decide +kernel
theorem dX5_latenessFrom_14 : decode cX5_latenessFrom 14 = .ok (.isub, 1) := by decide +kernel
theorem dX5_latenessFrom_15 : decode cX5_latenessFrom 15 = .ok (.istore_n 3, 1) := by decide +kernel
theorem dX5_latenessFrom_16 : decode cX5_latenessFrom 16 = .ok (.iload_n 3, 1) := by decide +kernel
theorem dX5_latenessFrom_17 : decode cX5_latenessFrom 17 = .ok (.ifCond .le 14, 3) := by decide +kernel
theorem dX5_latenessFrom_20 : decode cX5_latenessFrom 20 = .ok (.aload_n 0, 1) := by decide +kernel
theorem dX5_latenessFrom_21 : decode cX5_latenessFrom 21 = .ok (.getfield 21, 3) := by decide +kernel
theorem dX5_latenessFrom_24 : decode cX5_latenessFrom 24 = .ok (.iload_n 1, 1) := by decide +kernel
theorem dX5_latenessFrom_25 : decode cX5_latenessFrom 25 = .ok (.iaload, 1) := by decide +kernel
theorem dX5_latenessFrom_26 : decode cX5_latenessFrom 26 = .ok (.iload_n 3, 1) := by decide +kernel
theorem dX5_latenessFrom_27 : decode cX5_latenessFrom 27 = .ok (.imul, 1) := by decide +kernel
theorem dX5_latenessFrom_28 : decode cX5_latenessFrom 28 = .ok (.goto 4, 3) := by decide +kernel
theorem dX5_latenessFrom_31 : decode cX5_latenessFrom 31 = .ok (.iconst 0, 1) := by decide +kernel
theorem dX5_latenessFrom_32 : decode cX5_latenessFrom 32 = .ok (.ireturn, 1) := by decide +kernel
theorem dX5_whyNotAdd_0 : decode cX5_whyNotAdd 0 = .ok (.iload_n 1, 1) := by decide +kernel
theorem dX5_whyNotAdd_1 : decode cX5_whyNotAdd 1 = .ok (.iconst 1, 1) := by decide +kernel
theorem dX5_whyNotAdd_2 : decode cX5_whyNotAdd 2 = .ok (.bipush 60, 2) := by decide +kernel
theorem dX5_whyNotAdd_4 : decode cX5_whyNotAdd 4 = .ok (.invokestatic 50, 3) := by decide +kernel
theorem dX5_whyNotAdd_7 : decode cX5_whyNotAdd 7 = .ok (.ifCond .ne 24, 3) := by decide +kernel
theorem dX5_whyNotAdd_10 : decode cX5_whyNotAdd 10 = .ok (.iload_n 2, 1) := by decide +kernel
theorem dX5_whyNotAdd_11 : decode cX5_whyNotAdd 11 = .ok (.iconst 1, 1) := by decide +kernel
theorem dX5_whyNotAdd_12 : decode cX5_whyNotAdd 12 = .ok (.sipush 999, 3) := by decide +kernel
theorem dX5_whyNotAdd_15 : decode cX5_whyNotAdd 15 = .ok (.invokestatic 50, 3) := by decide +kernel
theorem dX5_whyNotAdd_18 : decode cX5_whyNotAdd 18 = .ok (.ifCond .ne 13, 3) := by decide +kernel
theorem dX5_whyNotAdd_21 : decode cX5_whyNotAdd 21 = .ok (.iload_n 3, 1) := by decide +kernel
theorem dX5_whyNotAdd_22 : decode cX5_whyNotAdd 22 = .ok (.iconst 1, 1) := by decide +kernel
theorem dX5_whyNotAdd_23 : decode cX5_whyNotAdd 23 = .ok (.bipush 9, 2) := by decide +kernel
theorem dX5_whyNotAdd_25 : decode cX5_whyNotAdd 25 = .ok (.invokestatic 50, 3) := by decide +kernel
theorem dX5_whyNotAdd_28 : decode cX5_whyNotAdd 28 = .ok (.ifCond .eq 7, 3) := by decide +kernel
theorem dX5_whyNotAdd_31 : decode cX5_whyNotAdd 31 = .ok (.getstatic 54, 3) := by decide +kernel
theorem dX5_whyNotAdd_34 : decode cX5_whyNotAdd 34 = .ok (.areturn, 1) := by decide +kernel
theorem dX5_whyNotAdd_35 : decode cX5_whyNotAdd 35 = .ok (.aload_n 0, 1) := by decide +kernel
theorem dX5_whyNotAdd_36 : decode cX5_whyNotAdd 36 = .ok (.getfield 28, 3) := by decide +kernel
theorem dX5_whyNotAdd_39 : decode cX5_whyNotAdd 39 = .ok (.bipush 7, 2) := by decide +kernel
theorem dX5_whyNotAdd_41 : decode cX5_whyNotAdd 41 = .ok (.if_icmp .lt 9, 3) := by decide +kernel
theorem dX5_whyNotAdd_44 : decode cX5_whyNotAdd 44 = .ok (.getstatic 60, 3) := by decide +kernel
theorem dX5_whyNotAdd_47 : decode cX5_whyNotAdd 47 = .ok (.goto 6, 3) := by decide +kernel
theorem dX5_whyNotAdd_50 : decode cX5_whyNotAdd 50 = .ok (.getstatic 63, 3) := by decide +kernel
theorem dX5_whyNotAdd_53 : decode cX5_whyNotAdd 53 = .ok (.areturn, 1) := by decide +kernel
theorem dX5_add_0 : decode cX5_add 0 = .ok (.aload_n 0, 1) := by decide +kernel
theorem dX5_add_1 : decode cX5_add 1 = .ok (.getfield 9, 3) := by decide +kernel
theorem dX5_add_4 : decode cX5_add 4 = .ok (.aload_n 0, 1) := by decide +kernel
theorem dX5_add_5 : decode cX5_add 5 = .ok (.getfield 28, 3) := by decide +kernel
theorem dX5_add_8 : decode cX5_add 8 = .ok (.aload_n 0, 1) := by decide +kernel
theorem dX5_add_9 : decode cX5_add 9 = .ok (.getfield 31, 3) := by decide +kernel
theorem dX5_add_12 : decode cX5_add 12 = .ok (.iastore, 1) := by decide +kernel
theorem dX5_add_13 : decode cX5_add 13 = .ok (.aload_n 0, 1) := by decide +kernel
theorem dX5_add_14 : decode cX5_add 14 = .ok (.getfield 15, 3) := by decide +kernel
theorem dX5_add_17 : decode cX5_add 17 = .ok (.aload_n 0, 1) := by decide +kernel
theorem dX5_add_18 : decode cX5_add 18 = .ok (.getfield 28, 3) := by decide +kernel
theorem dX5_add_21 : decode cX5_add 21 = .ok (.iload_n 1, 1) := by decide +kernel
theorem dX5_add_22 : decode cX5_add 22 = .ok (.iastore, 1) := by decide +kernel
theorem dX5_add_23 : decode cX5_add 23 = .ok (.aload_n 0, 1) := by decide +kernel
theorem dX5_add_24 : decode cX5_add 24 = .ok (.getfield 18, 3) := by decide +kernel
theorem dX5_add_27 : decode cX5_add 27 = .ok (.aload_n 0, 1) := by decide +kernel
theorem dX5_add_28 : decode cX5_add 28 = .ok (.getfield 28, 3) := by decide +kernel
theorem dX5_add_31 : decode cX5_add 31 = .ok (.iload_n 2, 1) := by decide +kernel
theorem dX5_add_32 : decode cX5_add 32 = .ok (.iastore, 1) := by decide +kernel
theorem dX5_add_33 : decode cX5_add 33 = .ok (.aload_n 0, 1) := by decide +kernel
theorem dX5_add_34 : decode cX5_add 34 = .ok (.getfield 21, 3) := by decide +kernel
theorem dX5_add_37 : decode cX5_add 37 = .ok (.aload_n 0, 1) := by decide +kernel
theorem dX5_add_38 : decode cX5_add 38 = .ok (.getfield 28, 3) := by decide +kernel
theorem dX5_add_41 : decode cX5_add 41 = .ok (.iload_n 3, 1) := by decide +kernel
theorem dX5_add_42 : decode cX5_add 42 = .ok (.iastore, 1) := by decide +kernel
theorem dX5_add_43 : decode cX5_add 43 = .ok (.aload_n 0, 1) := by decide +kernel
theorem dX5_add_44 : decode cX5_add 44 = .ok (.dup, 1) := by decide +kernel
theorem dX5_add_45 : decode cX5_add 45 = .ok (.getfield 28, 3) := by decide +kernel
theorem dX5_add_48 : decode cX5_add 48 = .ok (.iconst 1, 1) := by decide +kernel
theorem dX5_add_49 : decode cX5_add 49 = .ok (.iadd, 1) := by decide +kernel
theorem dX5_add_50 : decode cX5_add 50 = .ok (.putfield 28, 3) := by decide +kernel
theorem dX5_add_53 : decode cX5_add 53 = .ok (.aload_n 0, 1) := by decide +kernel
theorem dX5_add_54 : decode cX5_add 54 = .ok (.dup, 1) := by decide +kernel
theorem dX5_add_55 : decode cX5_add 55 = .ok (.getfield 31, 3) := by decide +kernel
theorem dX5_add_58 : decode cX5_add 58 = .ok (.iconst 1, 1) := by decide +kernel
theorem dX5_add_59 : decode cX5_add 59 = .ok (.iadd, 1) := by decide +kernel
theorem dX5_add_60 : decode cX5_add 60 = .ok (.putfield 31, 3) := by decide +kernel
theorem dX5_add_63 : decode cX5_add 63 = .ok (.aload_n 0, 1) := by decide +kernel
theorem dX5_add_64 : decode cX5_add 64 = .ok (.getfield 31, 3) := by decide +kernel
theorem dX5_add_67 : decode cX5_add 67 = .ok (.iconst 1, 1) := by decide +kernel
theorem dX5_add_68 : decode cX5_add 68 = .ok (.isub, 1) := by decide +kernel
theorem dX5_add_69 : decode cX5_add 69 = .ok (.ireturn, 1) := by decide +kernel
theorem dX5_takeOut_0 : decode cX5_takeOut 0 = .ok (.aload_n 0, 1) := by decide +kernel
theorem dX5_takeOut_1 : decode cX5_takeOut 1 = .ok (.dup, 1) := by decide +kernel
theorem dX5_takeOut_2 : decode cX5_takeOut 2 = .ok (.getfield 28, 3) := by decide +kernel
theorem dX5_takeOut_5 : decode cX5_takeOut 5 = .ok (.iconst 1, 1) := by decide +kernel
theorem dX5_takeOut_6 : decode cX5_takeOut 6 = .ok (.isub, 1) := by decide +kernel
theorem dX5_takeOut_7 : decode cX5_takeOut 7 = .ok (.putfield 28, 3) := by decide +kernel
theorem dX5_takeOut_10 : decode cX5_takeOut 10 = .ok (.iload_n 1, 1) := by decide +kernel
theorem dX5_takeOut_11 : decode cX5_takeOut 11 = .ok (.istore_n 2, 1) := by decide +kernel
theorem dX5_takeOut_12 : decode cX5_takeOut 12 = .ok (.iload_n 2, 1) := by decide +kernel
theorem dX5_takeOut_13 : decode cX5_takeOut 13 = .ok (.aload_n 0, 1) := by decide +kernel
theorem dX5_takeOut_14 : decode cX5_takeOut 14 = .ok (.getfield 28, 3) := by decide +kernel
theorem dX5_takeOut_17 : decode cX5_takeOut 17 = .ok (.if_icmp .ge 65, 3) := by decide +kernel
theorem dX5_takeOut_20 : decode cX5_takeOut 20 = .ok (.aload_n 0, 1) := by decide +kernel
theorem dX5_takeOut_21 : decode cX5_takeOut 21 = .ok (.getfield 9, 3) := by decide +kernel
theorem dX5_takeOut_24 : decode cX5_takeOut 24 = .ok (.iload_n 2, 1) := by decide +kernel
theorem dX5_takeOut_25 : decode cX5_takeOut 25 = .ok (.aload_n 0, 1) := by decide +kernel
theorem dX5_takeOut_26 : decode cX5_takeOut 26 = .ok (.getfield 9, 3) := by decide +kernel
theorem dX5_takeOut_29 : decode cX5_takeOut 29 = .ok (.iload_n 2, 1) := by decide +kernel
theorem dX5_takeOut_30 : decode cX5_takeOut 30 = .ok (.iconst 1, 1) := by decide +kernel
theorem dX5_takeOut_31 : decode cX5_takeOut 31 = .ok (.iadd, 1) := by decide +kernel
theorem dX5_takeOut_32 : decode cX5_takeOut 32 = .ok (.iaload, 1) := by decide +kernel
theorem dX5_takeOut_33 : decode cX5_takeOut 33 = .ok (.iastore, 1) := by decide +kernel
theorem dX5_takeOut_34 : decode cX5_takeOut 34 = .ok (.aload_n 0, 1) := by decide +kernel
theorem dX5_takeOut_35 : decode cX5_takeOut 35 = .ok (.getfield 15, 3) := by decide +kernel
theorem dX5_takeOut_38 : decode cX5_takeOut 38 = .ok (.iload_n 2, 1) := by decide +kernel
theorem dX5_takeOut_39 : decode cX5_takeOut 39 = .ok (.aload_n 0, 1) := by decide +kernel
theorem dX5_takeOut_40 : decode cX5_takeOut 40 = .ok (.getfield 15, 3) := by decide +kernel
theorem dX5_takeOut_43 : decode cX5_takeOut 43 = .ok (.iload_n 2, 1) := by decide +kernel
theorem dX5_takeOut_44 : decode cX5_takeOut 44 = .ok (.iconst 1, 1) := by decide +kernel
theorem dX5_takeOut_45 : decode cX5_takeOut 45 = .ok (.iadd, 1) := by decide +kernel
theorem dX5_takeOut_46 : decode cX5_takeOut 46 = .ok (.iaload, 1) := by decide +kernel
theorem dX5_takeOut_47 : decode cX5_takeOut 47 = .ok (.iastore, 1) := by decide +kernel
theorem dX5_takeOut_48 : decode cX5_takeOut 48 = .ok (.aload_n 0, 1) := by decide +kernel
theorem dX5_takeOut_49 : decode cX5_takeOut 49 = .ok (.getfield 18, 3) := by decide +kernel
theorem dX5_takeOut_52 : decode cX5_takeOut 52 = .ok (.iload_n 2, 1) := by decide +kernel
theorem dX5_takeOut_53 : decode cX5_takeOut 53 = .ok (.aload_n 0, 1) := by decide +kernel
theorem dX5_takeOut_54 : decode cX5_takeOut 54 = .ok (.getfield 18, 3) := by decide +kernel
theorem dX5_takeOut_57 : decode cX5_takeOut 57 = .ok (.iload_n 2, 1) := by decide +kernel
theorem dX5_takeOut_58 : decode cX5_takeOut 58 = .ok (.iconst 1, 1) := by decide +kernel
theorem dX5_takeOut_59 : decode cX5_takeOut 59 = .ok (.iadd, 1) := by decide +kernel
theorem dX5_takeOut_60 : decode cX5_takeOut 60 = .ok (.iaload, 1) := by decide +kernel
theorem dX5_takeOut_61 : decode cX5_takeOut 61 = .ok (.iastore, 1) := by decide +kernel
theorem dX5_takeOut_62 : decode cX5_takeOut 62 = .ok (.aload_n 0, 1) := by decide +kernel
theorem dX5_takeOut_63 : decode cX5_takeOut 63 = .ok (.getfield 21, 3) := by decide +kernel
theorem dX5_takeOut_66 : decode cX5_takeOut 66 = .ok (.iload_n 2, 1) := by decide +kernel
theorem dX5_takeOut_67 : decode cX5_takeOut 67 = .ok (.aload_n 0, 1) := by decide +kernel
theorem dX5_takeOut_68 : decode cX5_takeOut 68 = .ok (.getfield 21, 3) := by decide +kernel
theorem dX5_takeOut_71 : decode cX5_takeOut 71 = .ok (.iload_n 2, 1) := by decide +kernel
theorem dX5_takeOut_72 : decode cX5_takeOut 72 = .ok (.iconst 1, 1) := by decide +kernel
theorem dX5_takeOut_73 : decode cX5_takeOut 73 = .ok (.iadd, 1) := by decide +kernel
theorem dX5_takeOut_74 : decode cX5_takeOut 74 = .ok (.iaload, 1) := by decide +kernel
theorem dX5_takeOut_75 : decode cX5_takeOut 75 = .ok (.iastore, 1) := by decide +kernel
theorem dX5_takeOut_76 : decode cX5_takeOut 76 = .ok (.iinc 2 1, 3) := by decide +kernel
theorem dX5_takeOut_79 : decode cX5_takeOut 79 = .ok (.goto (-67), 3) := by decide +kernel
theorem dX5_takeOut_82 : decode cX5_takeOut 82 = .ok (.return_, 1) := by decide +kernel
theorem dX5_finish_0 : decode cX5_finish 0 = .ok (.aload_n 0, 1) := by decide +kernel
theorem dX5_finish_1 : decode cX5_finish 1 = .ok (.iload_n 1, 1) := by decide +kernel
theorem dX5_finish_2 : decode cX5_finish 2 = .ok (.aload_n 0, 1) := by decide +kernel
theorem dX5_finish_3 : decode cX5_finish 3 = .ok (.getfield 24, 3) := by decide +kernel
theorem dX5_finish_6 : decode cX5_finish 6 = .ok (.invokevirtual 66, 3) := by decide +kernel
theorem dX5_finish_9 : decode cX5_finish 9 = .ok (.istore_n 2, 1) := by decide +kernel
theorem dX5_finish_10 : decode cX5_finish 10 = .ok (.aload_n 0, 1) := by decide +kernel
theorem dX5_finish_11 : decode cX5_finish 11 = .ok (.dup, 1) := by decide +kernel
theorem dX5_finish_12 : decode cX5_finish 12 = .ok (.getfield 24, 3) := by decide +kernel
theorem dX5_finish_15 : decode cX5_finish 15 = .ok (.aload_n 0, 1) := by decide +kernel
theorem dX5_finish_16 : decode cX5_finish 16 = .ok (.getfield 15, 3) := by decide +kernel
theorem dX5_finish_19 : decode cX5_finish 19 = .ok (.iload_n 1, 1) := by decide +kernel
theorem dX5_finish_20 : decode cX5_finish 20 = .ok (.iaload, 1) := by decide +kernel
theorem dX5_finish_21 : decode cX5_finish 21 = .ok (.iadd, 1) := by decide +kernel
theorem dX5_finish_22 : decode cX5_finish 22 = .ok (.putfield 24, 3) := by decide +kernel
theorem dX5_finish_25 : decode cX5_finish 25 = .ok (.aload_n 0, 1) := by decide +kernel
theorem dX5_finish_26 : decode cX5_finish 26 = .ok (.dup, 1) := by decide +kernel
theorem dX5_finish_27 : decode cX5_finish 27 = .ok (.getfield 34, 3) := by decide +kernel
theorem dX5_finish_30 : decode cX5_finish 30 = .ok (.iconst 1, 1) := by decide +kernel
theorem dX5_finish_31 : decode cX5_finish 31 = .ok (.iadd, 1) := by decide +kernel
theorem dX5_finish_32 : decode cX5_finish 32 = .ok (.putfield 34, 3) := by decide +kernel
theorem dX5_finish_35 : decode cX5_finish 35 = .ok (.aload_n 0, 1) := by decide +kernel
theorem dX5_finish_36 : decode cX5_finish 36 = .ok (.dup, 1) := by decide +kernel
theorem dX5_finish_37 : decode cX5_finish 37 = .ok (.getfield 37, 3) := by decide +kernel
theorem dX5_finish_40 : decode cX5_finish 40 = .ok (.aload_n 0, 1) := by decide +kernel
theorem dX5_finish_41 : decode cX5_finish 41 = .ok (.getfield 15, 3) := by decide +kernel
theorem dX5_finish_44 : decode cX5_finish 44 = .ok (.iload_n 1, 1) := by decide +kernel
theorem dX5_finish_45 : decode cX5_finish 45 = .ok (.iaload, 1) := by decide +kernel
theorem dX5_finish_46 : decode cX5_finish 46 = .ok (.iadd, 1) := by decide +kernel
theorem dX5_finish_47 : decode cX5_finish 47 = .ok (.putfield 37, 3) := by decide +kernel
theorem dX5_finish_50 : decode cX5_finish 50 = .ok (.aload_n 0, 1) := by decide +kernel
theorem dX5_finish_51 : decode cX5_finish 51 = .ok (.dup, 1) := by decide +kernel
theorem dX5_finish_52 : decode cX5_finish 52 = .ok (.getfield 40, 3) := by decide +kernel
theorem dX5_finish_55 : decode cX5_finish 55 = .ok (.iload_n 2, 1) := by decide +kernel
theorem dX5_finish_56 : decode cX5_finish 56 = .ok (.i2l, 1) := by decide +kernel
theorem dX5_finish_57 : decode cX5_finish 57 = .ok (.ladd, 1) := by decide +kernel
theorem dX5_finish_58 : decode cX5_finish 58 = .ok (.putfield 40, 3) := by decide +kernel
theorem dX5_finish_61 : decode cX5_finish 61 = .ok (.aload_n 0, 1) := by decide +kernel
theorem dX5_finish_62 : decode cX5_finish 62 = .ok (.iload_n 1, 1) := by decide +kernel
theorem dX5_finish_63 : decode cX5_finish 63 = .ok (.invokevirtual 70, 3) := by decide +kernel
theorem dX5_finish_66 : decode cX5_finish 66 = .ok (.iload_n 2, 1) := by decide +kernel
theorem dX5_finish_67 : decode cX5_finish 67 = .ok (.ireturn, 1) := by decide +kernel
