theorem dX2_init_0 : decode cX2_init 0 = .ok (.aload_n 0, 1) := by decide +kernel
theorem dX2_init_1 : decode cX2_init 1 = .ok (.invokespecial 3, 3) := by decide +kernel
theorem dX2_init_4 : decode cX2_init 4 = .ok (.aload_n 0, 1) := by decide +kernel
theorem dX2_init_5 : decode cX2_init 5 = .ok (.bipush 9, 2) := by decide +kernel
theorem dX2_init_7 : decode cX2_init 7 = .ok (.anewarray 11, 3) := by decide +kernel
theorem dX2_init_10 : decode cX2_init 10 = .ok (.putfield 13, 3) := by decide +kernel
theorem dX2_init_13 : decode cX2_init 13 = .ok (.iconst 0, 1) := by decide +kernel
theorem dX2_init_14 : decode cX2_init 14 = .ok (.istore_n 1, 1) := by decide +kernel
theorem dX2_init_15 : decode cX2_init 15 = .ok (.iload_n 1, 1) := by decide +kernel
theorem dX2_init_16 : decode cX2_init 16 = .ok (.bipush 9, 2) := by decide +kernel
theorem dX2_init_18 : decode cX2_init 18 = .ok (.if_icmp .ge 22, 3) := by decide +kernel
theorem dX2_init_21 : decode cX2_init 21 = .ok (.aload_n 0, 1) := by decide +kernel
theorem dX2_init_22 : decode cX2_init 22 = .ok (.getfield 13, 3) := by decide +kernel
theorem dX2_init_25 : decode cX2_init 25 = .ok (.iload_n 1, 1) := by decide +kernel
theorem dX2_init_26 : decode cX2_init 26 = .ok (.new 11, 3) := by decide +kernel
theorem dX2_init_29 : decode cX2_init 29 = .ok (.dup, 1) := by decide +kernel
theorem dX2_init_30 : decode cX2_init 30 = .ok (.invokespecial 17, 3) := by decide +kernel
theorem dX2_init_33 : decode cX2_init 33 = .ok (.aastore, 1) := by decide +kernel
theorem dX2_init_34 : decode cX2_init 34 = .ok (.iinc 1 1, 3) := by decide +kernel
theorem dX2_init_37 : decode cX2_init 37 = .ok (.goto (-22), 3) := by decide +kernel
theorem dX2_init_40 : decode cX2_init 40 = .ok (.return_, 1) := by decide +kernel
theorem dX2_prepare_0 : decode cX2_prepare 0 = .ok (.aload_n 0, 1) := by decide +kernel
theorem dX2_prepare_1 : decode cX2_prepare 1 = .ok (.getfield 13, 3) := by decide +kernel
theorem dX2_prepare_4 : decode cX2_prepare 4 = .ok (.aload_n 0, 1) := by decide +kernel
theorem dX2_prepare_5 : decode cX2_prepare 5 = .ok (.getfield 18, 3) := by decide +kernel
theorem dX2_prepare_8 : decode cX2_prepare 8 = .ok (.aload_n 0, 1) := by decide +kernel
theorem dX2_prepare_9 : decode cX2_prepare 9 = .ok (.getfield 22, 3) := by decide +kernel
theorem dX2_prepare_12 : decode cX2_prepare 12 = .ok (.iadd, 1) := by decide +kernel
theorem dX2_prepare_13 : decode cX2_prepare 13 = .ok (.bipush 9, 2) := by decide +kernel
theorem dX2_prepare_15 : decode cX2_prepare 15 = .ok (.irem, 1) := by decide +kernel
theorem dX2_prepare_16 : decode cX2_prepare 16 = .ok (.aaload, 1) := by decide +kernel
theorem dX2_prepare_17 : decode cX2_prepare 17 = .ok (.aload_n 1, 1) := by decide +kernel
theorem dX2_prepare_18 : decode cX2_prepare 18 = .ok (.invokevirtual 25, 3) := by decide +kernel
theorem dX2_prepare_21 : decode cX2_prepare 21 = .ok (.return_, 1) := by decide +kernel
theorem dX2_putBack_0 : decode cX2_putBack 0 = .ok (.aload_n 1, 1) := by decide +kernel
theorem dX2_putBack_1 : decode cX2_putBack 1 = .ok (.aload_n 0, 1) := by decide +kernel
theorem dX2_putBack_2 : decode cX2_putBack 2 = .ok (.getfield 13, 3) := by decide +kernel
theorem dX2_putBack_5 : decode cX2_putBack 5 = .ok (.aload_n 0, 1) := by decide +kernel
theorem dX2_putBack_6 : decode cX2_putBack 6 = .ok (.getfield 18, 3) := by decide +kernel
theorem dX2_putBack_9 : decode cX2_putBack 9 = .ok (.aload_n 0, 1) := by decide +kernel
theorem dX2_putBack_10 : decode cX2_putBack 10 = .ok (.getfield 22, 3) := by decide +kernel
theorem dX2_putBack_13 : decode cX2_putBack 13 = .ok (.iadd, 1) := by decide +kernel
theorem dX2_putBack_14 : decode cX2_putBack 14 = .ok (.bipush 9, 2) := by decide +kernel
theorem dX2_putBack_16 : decode cX2_putBack 16 = .ok (.irem, 1) := by decide +kernel
theorem dX2_putBack_17 : decode cX2_putBack 17 = .ok (.aaload, 1) := by decide +kernel
theorem dX2_putBack_18 : decode cX2_putBack 18 = .ok (.invokevirtual 25, 3) := by decide +kernel
theorem dX2_putBack_21 : decode cX2_putBack 21 = .ok (.return_, 1) := by decide +kernel
theorem dX2_keepPrepared_0 : decode cX2_keepPrepared 0 = .ok (.aload_n 0, 1) := by decide +kernel
theorem dX2_keepPrepared_1 : decode cX2_keepPrepared 1 = .ok (.getfield 22, 3) := by decide +kernel
theorem dX2_keepPrepared_4 : decode cX2_keepPrepared 4 = .ok (.bipush 8, 2) := by decide +kernel
theorem dX2_keepPrepared_6 : decode cX2_keepPrepared 6 = .ok (.if_icmp .ge 16, 3) := by decide +kernel
theorem dX2_keepPrepared_9 : decode cX2_keepPrepared 9 = .ok (.aload_n 0, 1) := by decide +kernel
theorem dX2_keepPrepared_10 : decode cX2_keepPrepared 10 = .ok (.dup, 1) := by decide +kernel
theorem dX2_keepPrepared_11 : decode cX2_keepPrepared 11 = .ok (.getfield 22, 3) := by decide +kernel
theorem dX2_keepPrepared_14 : decode cX2_keepPrepared 14 = .ok (.iconst 1, 1) := by decide +kernel
theorem dX2_keepPrepared_15 : decode cX2_keepPrepared 15 = .ok (.iadd, 1) := by decide +kernel
theorem dX2_keepPrepared_16 : decode cX2_keepPrepared 16 = .ok (.putfield 22, 3) := by decide +kernel
theorem dX2_keepPrepared_19 : decode cX2_keepPrepared 19 = .ok (.goto 16, 3) := by decide +kernel
theorem dX2_keepPrepared_22 : decode cX2_keepPrepared 22 = .ok (.aload_n 0, 1) := by decide +kernel
theorem dX2_keepPrepared_23 : decode cX2_keepPrepared 23 = .ok (.aload_n 0, 1) := by decide +kernel
theorem dX2_keepPrepared_24 : decode cX2_keepPrepared 24 = .ok (.getfield 18, 3) := by decide +kernel
theorem dX2_keepPrepared_27 : decode cX2_keepPrepared 27 = .ok (.iconst 1, 1) := by decide +kernel
theorem dX2_keepPrepared_28 : decode cX2_keepPrepared 28 = .ok (.iadd, 1) := by decide +kernel
theorem dX2_keepPrepared_29 : decode cX2_keepPrepared 29 = .ok (.bipush 9, 2) := by decide +kernel
theorem dX2_keepPrepared_31 : decode cX2_keepPrepared 31 = .ok (.irem, 1) := by decide +kernel
theorem dX2_keepPrepared_32 : decode cX2_keepPrepared 32 = .ok (.putfield 18, 3) := by decide +kernel
theorem dX2_keepPrepared_35 : decode cX2_keepPrepared 35 = .ok (.return_, 1) := by decide +kernel
theorem dX2_takeBack_0 : decode cX2_takeBack 0 = .ok (.aload_n 0, 1) := by decide +kernel
theorem dX2_takeBack_1 : decode cX2_takeBack 1 = .ok (.getfield 22, 3) := by decide +kernel
theorem dX2_takeBack_4 : decode cX2_takeBack 4 = .ok (.ifCond .le 18, 3) := by decide +kernel
theorem dX2_takeBack_7 : decode cX2_takeBack 7 = .ok (.aload_n 0, 1) := by decide +kernel
theorem dX2_takeBack_8 : decode cX2_takeBack 8 = .ok (.dup, 1) := by decide +kernel
theorem dX2_takeBack_9 : decode cX2_takeBack 9 = .ok (.getfield 22, 3) := by decide +kernel
theorem dX2_takeBack_12 : decode cX2_takeBack 12 = .ok (.iconst 1, 1) := by decide +kernel
theorem dX2_takeBack_13 : decode cX2_takeBack 13 = .ok (.isub, 1) := by decide +kernel
theorem dX2_takeBack_14 : decode cX2_takeBack 14 = .ok (.putfield 22, 3) := by decide +kernel
theorem dX2_takeBack_17 : decode cX2_takeBack 17 = .ok (.aload_n 0, 1) := by decide +kernel
theorem dX2_takeBack_18 : decode cX2_takeBack 18 = .ok (.aload_n 1, 1) := by decide +kernel
theorem dX2_takeBack_19 : decode cX2_takeBack 19 = .ok (.invokevirtual 29, 3) := by decide +kernel
theorem dX2_takeBack_22 : decode cX2_takeBack 22 = .ok (.return_, 1) := by decide +kernel
theorem dX2_forget_0 : decode cX2_forget 0 = .ok (.aload_n 0, 1) := by decide +kernel
theorem dX2_forget_1 : decode cX2_forget 1 = .ok (.iconst 0, 1) := by decide +kernel
theorem dX2_forget_2 : decode cX2_forget 2 = .ok (.putfield 22, 3) := by decide +kernel
theorem dX2_forget_5 : decode cX2_forget 5 = .ok (.return_, 1) := by decide +kernel
