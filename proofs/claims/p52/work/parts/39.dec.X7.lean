theorem dX7_init_0 : decode cX7_init 0 = .ok (.aload_n 0, 1) := by decide +kernel
theorem dX7_init_1 : decode cX7_init 1 = .ok (.invokespecial 3, 3) := by decide +kernel
theorem dX7_init_4 : decode cX7_init 4 = .ok (.aload_n 0, 1) := by decide +kernel
theorem dX7_init_5 : decode cX7_init 5 = .ok (.bipush 60, 2) := by decide +kernel
theorem dX7_init_7 : decode cX7_init 7 = .ok (.newarray .char, 2) := by decide +kernel
theorem dX7_init_9 : decode cX7_init 9 = .ok (.putfield 9, 3) := by decide +kernel
theorem dX7_init_12 : decode cX7_init 12 = .ok (.aload_n 0, 1) := by decide +kernel
theorem dX7_init_13 : decode cX7_init 13 = .ok (.getstatic 15, 3) := by decide +kernel
theorem dX7_init_16 : decode cX7_init 16 = .ok (.putfield 21, 3) := by decide +kernel
theorem dX7_init_19 : decode cX7_init 19 = .ok (.aload_n 0, 1) := by decide +kernel
theorem dX7_init_20 : decode cX7_init 20 = .ok (.iconst 3, 1) := by decide +kernel
theorem dX7_init_21 : decode cX7_init 21 = .ok (.newarray .int, 2) := by decide +kernel
theorem dX7_init_23 : decode cX7_init 23 = .ok (.putfield 24, 3) := by decide +kernel
theorem dX7_init_26 : decode cX7_init 26 = .ok (.return_, 1) := by decide +kernel
theorem dX7_append_0 : decode cX7_append 0 = .ok (.aload_n 0, 1) := by decide +kernel
theorem dX7_append_1 : decode cX7_append 1 = .ok (.getfield 9, 3) := by decide +kernel
theorem dX7_append_4 : decode cX7_append 4 = .ok (.aload_n 0, 1) := by decide +kernel
theorem dX7_append_5 : decode cX7_append 5 = .ok (.getfield 28, 3) := by decide +kernel
theorem dX7_append_8 : decode cX7_append 8 = .ok (.iload_n 1, 1) := by decide +kernel
theorem dX7_append_9 : decode cX7_append 9 = .ok (.castore, 1) := by decide +kernel
theorem dX7_append_10 : decode cX7_append 10 = .ok (.aload_n 0, 1) := by decide +kernel
theorem dX7_append_11 : decode cX7_append 11 = .ok (.dup, 1) := by decide +kernel
theorem dX7_append_12 : decode cX7_append 12 = .ok (.getfield 28, 3) := by decide +kernel
theorem dX7_append_15 : decode cX7_append 15 = .ok (.iconst 1, 1) := by decide +kernel
theorem dX7_append_16 : decode cX7_append 16 = .ok (.iadd, 1) := by decide +kernel
theorem dX7_append_17 : decode cX7_append 17 = .ok (.putfield 28, 3) := by decide +kernel
theorem dX7_append_20 : decode cX7_append 20 = .ok (.return_, 1) := by decide +kernel
theorem dX7_empty_0 : decode cX7_empty 0 = .ok (.aload_n 0, 1) := by decide +kernel
theorem dX7_empty_1 : decode cX7_empty 1 = .ok (.iconst 0, 1) := by decide +kernel
theorem dX7_empty_2 : decode cX7_empty 2 = .ok (.putfield 28, 3) := by decide +kernel
theorem dX7_empty_5 : decode cX7_empty 5 = .ok (.return_, 1) := by decide +kernel
theorem dX7_countCommands_0 : decode cX7_countCommands 0 = .ok (.aload_n 0, 1) := by decide +kernel
theorem dX7_countCommands_1 : decode cX7_countCommands 1 = .ok (.iconst 0, 1) := by decide +kernel
theorem dX7_countCommands_2 : decode cX7_countCommands 2 = .ok (.putfield 32, 3) := by decide +kernel
theorem dX7_countCommands_5 : decode cX7_countCommands 5 = .ok (.iconst 1, 1) := by decide +kernel
theorem dX7_countCommands_6 : decode cX7_countCommands 6 = .ok (.istore_n 1, 1) := by decide +kernel
theorem dX7_countCommands_7 : decode cX7_countCommands 7 = .ok (.iload_n 1, 1) := by decide +kernel
theorem dX7_countCommands_8 : decode cX7_countCommands 8 = .ok (.bipush 60, 2) := by decide +kernel
theorem dX7_countCommands_10 : decode cX7_countCommands 10 = .ok (.if_icmp .gt 42, 3) := by decide +kernel
theorem dX7_countCommands_13 : decode cX7_countCommands 13 = .ok (.aload_n 0, 1) := by decide +kernel
theorem dX7_countCommands_14 : decode cX7_countCommands 14 = .ok (.invokevirtual 35, 3) := by decide +kernel
theorem dX7_countCommands_17 : decode cX7_countCommands 17 = .ok (.ifCond .ne 5, 3) := by decide +kernel
theorem dX7_countCommands_20 : decode cX7_countCommands 20 = .ok (.iconst (-1), 1) := by decide +kernel
theorem dX7_countCommands_21 : decode cX7_countCommands 21 = .ok (.ireturn, 1) := by decide +kernel
theorem dX7_countCommands_22 : decode cX7_countCommands 22 = .ok (.aload_n 0, 1) := by decide +kernel
theorem dX7_countCommands_23 : decode cX7_countCommands 23 = .ok (.getfield 32, 3) := by decide +kernel
theorem dX7_countCommands_26 : decode cX7_countCommands 26 = .ok (.aload_n 0, 1) := by decide +kernel
theorem dX7_countCommands_27 : decode cX7_countCommands 27 = .ok (.getfield 28, 3) := by decide +kernel
theorem dX7_countCommands_30 : decode cX7_countCommands 30 = .ok (.if_icmp .ne 5, 3) := by decide +kernel
theorem dX7_countCommands_33 : decode cX7_countCommands 33 = .ok (.iload_n 1, 1) := by decide +kernel
theorem dX7_countCommands_34 : decode cX7_countCommands 34 = .ok (.ireturn, 1) := by decide +kernel
theorem dX7_countCommands_35 : decode cX7_countCommands 35 = .ok (.aload_n 0, 1) := by decide +kernel
theorem dX7_countCommands_36 : decode cX7_countCommands 36 = .ok (.bipush 59, 2) := by decide +kernel
theorem dX7_countCommands_38 : decode cX7_countCommands 38 = .ok (.invokevirtual 39, 3) := by decide +kernel
theorem dX7_countCommands_41 : decode cX7_countCommands 41 = .ok (.ifCond .ne 5, 3) := by decide +kernel
theorem dX7_countCommands_44 : decode cX7_countCommands 44 = .ok (.iconst (-1), 1) := by decide +kernel
theorem dX7_countCommands_45 : decode cX7_countCommands 45 = .ok (.ireturn, 1) := by decide +kernel
theorem dX7_countCommands_46 : decode cX7_countCommands 46 = .ok (.iinc 1 1, 3) := by decide +kernel
theorem dX7_countCommands_49 : decode cX7_countCommands 49 = .ok (.goto (-42), 3) := by decide +kernel
theorem dX7_countCommands_52 : decode cX7_countCommands 52 = .ok (.iconst (-1), 1) := by decide +kernel
theorem dX7_countCommands_53 : decode cX7_countCommands 53 = .ok (.ireturn, 1) := by decide +kernel
theorem dX7_readsCommand_0 : decode cX7_readsCommand 0 = .ok (.aload_n 0, 1) := by decide +kernel
theorem dX7_readsCommand_1 : decode cX7_readsCommand 1 = .ok (.getfield 32, 3) := by decide +kernel
theorem dX7_readsCommand_4 : decode cX7_readsCommand 4 = .ok (.istore_n 1, 1) := by decide +kernel
theorem dX7_readsCommand_5 : decode cX7_readsCommand 5 = .ok (.iload_n 1, 1) := by decide +kernel
theorem dX7_readsCommand_6 : decode cX7_readsCommand 6 = .ok (.istore_n 2, 1) := by decide +kernel
theorem dX7_readsCommand_7 : decode cX7_readsCommand 7 = .ok (.iconst 0, 1) := by decide +kernel
theorem dX7_readsCommand_8 : decode cX7_readsCommand 8 = .ok (.istore_n 3, 1) := by decide +kernel
theorem dX7_readsCommand_9 : decode cX7_readsCommand 9 = .ok (.iload_n 3, 1) := by decide +kernel
theorem dX7_readsCommand_10 : decode cX7_readsCommand 10 = .ok (.getstatic 43, 3) := by decide +kernel
theorem dX7_readsCommand_13 : decode cX7_readsCommand 13 = .ok (.arraylength, 1) := by decide +kernel
theorem dX7_readsCommand_14 : decode cX7_readsCommand 14 = .ok (.if_icmp .ge 49, 3) := by decide +kernel
theorem dX7_readsCommand_17 : decode cX7_readsCommand 17 = .ok (.aload_n 0, 1) := by decide +kernel
theorem dX7_readsCommand_18 : decode cX7_readsCommand 18 = .ok (.iload_n 1, 1) := by decide +kernel
theorem dX7_readsCommand_19 : decode cX7_readsCommand 19 = .ok (.putfield 32, 3) := by decide +kernel
theorem dX7_readsCommand_22 : decode cX7_readsCommand 22 = .ok (.aload_n 0, 1) := by decide +kernel
theorem dX7_readsCommand_23 : decode cX7_readsCommand 23 = .ok (.getstatic 43, 3) := by decide +kernel
theorem dX7_readsCommand_26 : decode cX7_readsCommand 26 = .ok (.iload_n 3, 1) := by decide +kernel
theorem dX7_readsCommand_27 : decode cX7_readsCommand 27 = .ok (.aaload, 1) := by decide +kernel
theorem dX7_readsCommand_28 : decode cX7_readsCommand 28 = .ok (.getfield 47, 3) := by decide +kernel
theorem dX7_readsCommand_31 : decode cX7_readsCommand 31 = .ok (.invokevirtual 51, 3) := by decide +kernel
theorem dX7_readsCommand_34 : decode cX7_readsCommand 34 = .ok (.ifCond .eq 14, 3) := by decide +kernel
theorem dX7_readsCommand_37 : decode cX7_readsCommand 37 = .ok (.aload_n 0, 1) := by decide +kernel
theorem dX7_readsCommand_38 : decode cX7_readsCommand 38 = .ok (.getstatic 43, 3) := by decide +kernel
theorem dX7_readsCommand_41 : decode cX7_readsCommand 41 = .ok (.iload_n 3, 1) := by decide +kernel
theorem dX7_readsCommand_42 : decode cX7_readsCommand 42 = .ok (.aaload, 1) := by decide +kernel
theorem dX7_readsCommand_43 : decode cX7_readsCommand 43 = .ok (.putfield 21, 3) := by decide +kernel
theorem dX7_readsCommand_46 : decode cX7_readsCommand 46 = .ok (.iconst 1, 1) := by decide +kernel
theorem dX7_readsCommand_47 : decode cX7_readsCommand 47 = .ok (.ireturn, 1) := by decide +kernel
theorem dX7_readsCommand_48 : decode cX7_readsCommand 48 = .ok (.iload_n 2, 1) := by decide +kernel
theorem dX7_readsCommand_49 : decode cX7_readsCommand 49 = .ok (.aload_n 0, 1) := by decide +kernel
theorem dX7_readsCommand_50 : decode cX7_readsCommand 50 = .ok (.getfield 32, 3) := by decide +kernel
theorem dX7_readsCommand_53 : decode cX7_readsCommand 53 = .ok (.invokestatic 55, 3) := by decide +kernel
theorem dX7_readsCommand_56 : decode cX7_readsCommand 56 = .ok (.istore_n 2, 1) := by decide +kernel
theorem dX7_readsCommand_57 : decode cX7_readsCommand 57 = .ok (.iinc 3 1, 3) := by decide +kernel
theorem dX7_readsCommand_60 : decode cX7_readsCommand 60 = .ok (.goto (-51), 3) := by decide +kernel
theorem dX7_readsCommand_63 : decode cX7_readsCommand 63 = .ok (.aload_n 0, 1) := by decide +kernel
theorem dX7_readsCommand_64 : decode cX7_readsCommand 64 = .ok (.iload_n 2, 1) := by decide +kernel
theorem dX7_readsCommand_65 : decode cX7_readsCommand 65 = .ok (.putfield 32, 3) := by decide +kernel
theorem dX7_readsCommand_68 : decode cX7_readsCommand 68 = .ok (.iconst 0, 1) := by decide +kernel
theorem dX7_readsCommand_69 : decode cX7_readsCommand 69 = .ok (.ireturn, 1) := by decide +kernel
theorem dX7_follows_0 : decode cX7_follows 0 = .ok (.aload_n 0, 1) := by decide +kernel
theorem dX7_follows_1 : decode cX7_follows 1 = .ok (.getfield 24, 3) := by decide +kernel
theorem dX7_follows_4 : decode cX7_follows 4 = .ok (.iconst 0, 1) := by decide +kernel
theorem dX7_follows_5 : decode cX7_follows 5 = .ok (.invokestatic 61, 3) := by decide +kernel
theorem dX7_follows_8 : decode cX7_follows 8 = .ok (.aload_n 0, 1) := by decide +kernel
theorem dX7_follows_9 : decode cX7_follows 9 = .ok (.iconst 0, 1) := by decide +kernel
theorem dX7_follows_10 : decode cX7_follows 10 = .ok (.putfield 67, 3) := by decide +kernel
theorem dX7_follows_13 : decode cX7_follows 13 = .ok (.iconst 0, 1) := by decide +kernel
theorem dX7_follows_14 : decode cX7_follows 14 = .ok (.istore_n 2, 1) := by decide +kernel
theorem dX7_follows_15 : decode cX7_follows 15 = .ok (.iload_n 2, 1) := by decide +kernel
theorem dX7_follows_16 : decode cX7_follows 16 = .ok (.aload_n 1, 1) := by decide +kernel
theorem dX7_follows_17 : decode cX7_follows 17 = .ok (.invokevirtual 70, 3) := by decide +kernel
theorem dX7_follows_20 : decode cX7_follows 20 = .ok (.if_icmp .ge 23, 3) := by decide +kernel
theorem dX7_follows_23 : decode cX7_follows 23 = .ok (.aload_n 0, 1) := by decide +kernel
theorem dX7_follows_24 : decode cX7_follows 24 = .ok (.aload_n 1, 1) := by decide +kernel
theorem dX7_follows_25 : decode cX7_follows 25 = .ok (.iload_n 2, 1) := by decide +kernel
theorem dX7_follows_26 : decode cX7_follows 26 = .ok (.invokevirtual 75, 3) := by decide +kernel
theorem dX7_follows_29 : decode cX7_follows 29 = .ok (.invokevirtual 79, 3) := by decide +kernel
theorem dX7_follows_32 : decode cX7_follows 32 = .ok (.ifCond .ne 5, 3) := by decide +kernel
theorem dX7_follows_35 : decode cX7_follows 35 = .ok (.iconst 0, 1) := by decide +kernel
theorem dX7_follows_36 : decode cX7_follows 36 = .ok (.ireturn, 1) := by decide +kernel
theorem dX7_follows_37 : decode cX7_follows 37 = .ok (.iinc 2 1, 3) := by decide +kernel
theorem dX7_follows_40 : decode cX7_follows 40 = .ok (.goto (-25), 3) := by decide +kernel
theorem dX7_follows_43 : decode cX7_follows 43 = .ok (.iconst 1, 1) := by decide +kernel
theorem dX7_follows_44 : decode cX7_follows 44 = .ok (.ireturn, 1) := by decide +kernel
theorem dX7_takesPart_0 : decode cX7_takesPart 0 = .ok (.iload_n 1, 1) := by decide +kernel
theorem dX7_takesPart_1 : decode cX7_takesPart 1 = .ok (.lookupswitch 69 #[(68, 35), (71, 49), (78, 42)], 35) := by decide +kernel
theorem dX7_takesPart_36 : decode cX7_takesPart 36 = .ok (.aload_n 0, 1) := by decide +kernel
theorem dX7_takesPart_37 : decode cX7_takesPart 37 = .ok (.iconst 1, 1) := by decide +kernel
theorem dX7_takesPart_38 : decode cX7_takesPart 38 = .ok (.iconst 1, 1) := by decide +kernel
theorem dX7_takesPart_39 : decode cX7_takesPart 39 = .ok (.invokevirtual 82, 3) := by decide +kernel
theorem dX7_takesPart_42 : decode cX7_takesPart 42 = .ok (.ireturn, 1) := by decide +kernel
theorem dX7_takesPart_43 : decode cX7_takesPart 43 = .ok (.aload_n 0, 1) := by decide +kernel
theorem dX7_takesPart_44 : decode cX7_takesPart 44 = .ok (.iconst 3, 1) := by decide +kernel
theorem dX7_takesPart_45 : decode cX7_takesPart 45 = .ok (.iconst 1, 1) := by decide +kernel
theorem dX7_takesPart_46 : decode cX7_takesPart 46 = .ok (.invokevirtual 82, 3) := by decide +kernel
theorem dX7_takesPart_49 : decode cX7_takesPart 49 = .ok (.ireturn, 1) := by decide +kernel
theorem dX7_takesPart_50 : decode cX7_takesPart 50 = .ok (.aload_n 0, 1) := by decide +kernel
theorem dX7_takesPart_51 : decode cX7_takesPart 51 = .ok (.iconst 3, 1) := by decide +kernel
theorem dX7_takesPart_52 : decode cX7_takesPart 52 = .ok (.aload_n 0, 1) := by decide +kernel
theorem dX7_takesPart_53 : decode cX7_takesPart 53 = .ok (.bipush 45, 2) := by decide +kernel
theorem dX7_takesPart_55 : decode cX7_takesPart 55 = .ok (.invokevirtual 39, 3) := by decide +kernel
theorem dX7_takesPart_58 : decode cX7_takesPart 58 = .ok (.ifCond .eq 7, 3) := by decide +kernel
theorem dX7_takesPart_61 : decode cX7_takesPart 61 = .ok (.iconst (-1), 1) := by decide +kernel
theorem dX7_takesPart_62 : decode cX7_takesPart 62 = .ok (.goto 4, 3) := by decide +kernel
theorem dX7_takesPart_65 : decode cX7_takesPart 65 = .ok (.iconst 1, 1) := by decide +kernel
theorem dX7_takesPart_66 : decode cX7_takesPart 66 = .ok (.invokevirtual 82, 3) := by decide +kernel
theorem dX7_takesPart_69 : decode cX7_takesPart 69 = .ok (.ireturn, 1) := by decide +kernel
theorem dX7_takesPart_70 : decode cX7_takesPart 70 = .ok (.aload_n 0, 1) := by decide +kernel
theorem dX7_takesPart_71 : decode cX7_takesPart 71 = .ok (.iload_n 1, 1) := by decide +kernel
theorem dX7_takesPart_72 : decode cX7_takesPart 72 = .ok (.invokevirtual 39, 3) := by decide +kernel
theorem dX7_takesPart_75 : decode cX7_takesPart 75 = .ok (.ireturn, 1) := by decide +kernel
theorem dX7_takesSign_0 : decode cX7_takesSign 0 = .ok (.aload_n 0, 1) := by decide +kernel
theorem dX7_takesSign_1 : decode cX7_takesSign 1 = .ok (.getfield 32, 3) := by decide +kernel
theorem dX7_takesSign_4 : decode cX7_takesSign 4 = .ok (.aload_n 0, 1) := by decide +kernel
theorem dX7_takesSign_5 : decode cX7_takesSign 5 = .ok (.getfield 28, 3) := by decide +kernel
theorem dX7_takesSign_8 : decode cX7_takesSign 8 = .ok (.if_icmp .ge 16, 3) := by decide +kernel
theorem dX7_takesSign_11 : decode cX7_takesSign 11 = .ok (.aload_n 0, 1) := by decide +kernel
theorem dX7_takesSign_12 : decode cX7_takesSign 12 = .ok (.getfield 9, 3) := by decide +kernel
theorem dX7_takesSign_15 : decode cX7_takesSign 15 = .ok (.aload_n 0, 1) := by decide +kernel
theorem dX7_takesSign_16 : decode cX7_takesSign 16 = .ok (.getfield 32, 3) := by decide +kernel
theorem dX7_takesSign_19 : decode cX7_takesSign 19 = .ok (.caload, 1) := by decide +kernel
theorem dX7_takesSign_20 : decode cX7_takesSign 20 = .ok (.iload_n 1, 1) := by decide +kernel
theorem dX7_takesSign_21 : decode cX7_takesSign 21 = .ok (.if_icmp .eq 5, 3) := by decide +kernel
theorem dX7_takesSign_24 : decode cX7_takesSign 24 = .ok (.iconst 0, 1) := by decide +kernel
theorem dX7_takesSign_25 : decode cX7_takesSign 25 = .ok (.ireturn, 1) := by decide +kernel
theorem dX7_takesSign_26 : decode cX7_takesSign 26 = .ok (.aload_n 0, 1) := by decide +kernel
theorem dX7_takesSign_27 : decode cX7_takesSign 27 = .ok (.dup, 1) := by decide +kernel
theorem dX7_takesSign_28 : decode cX7_takesSign 28 = .ok (.getfield 32, 3) := by decide +kernel
theorem dX7_takesSign_31 : decode cX7_takesSign 31 = .ok (.iconst 1, 1) := by decide +kernel
theorem dX7_takesSign_32 : decode cX7_takesSign 32 = .ok (.iadd, 1) := by decide +kernel
theorem dX7_takesSign_33 : decode cX7_takesSign 33 = .ok (.putfield 32, 3) := by decide +kernel
theorem dX7_takesSign_36 : decode cX7_takesSign 36 = .ok (.iconst 1, 1) := by decide +kernel
theorem dX7_takesSign_37 : decode cX7_takesSign 37 = .ok (.ireturn, 1) := by decide +kernel
theorem dX7_takesNumber_0 : decode cX7_takesNumber 0 = .ok (.iconst 0, 1) := by decide +kernel
theorem dX7_takesNumber_1 : decode cX7_takesNumber 1 = .ok (.istore_n 3, 1) := by decide +kernel
theorem dX7_takesNumber_2 : decode cX7_takesNumber 2 = .ok (.iconst 0, 1) := by decide +kernel
theorem dX7_takesNumber_3 : decode cX7_takesNumber 3 = .ok (.istore 4, 2) := by decide +kernel
theorem dX7_takesNumber_5 : decode cX7_takesNumber 5 = .ok (.iload 4, 2) := by decide +kernel
theorem dX7_takesNumber_7 : decode cX7_takesNumber 7 = .ok (.iload_n 1, 1) := by decide +kernel
theorem dX7_takesNumber_8 : decode cX7_takesNumber 8 = .ok (.if_icmp .ge 44, 3) := by decide +kernel
theorem dX7_takesNumber_11 : decode cX7_takesNumber 11 = .ok (.aload_n 0, 1) := by decide +kernel
theorem dX7_takesNumber_12 : decode cX7_takesNumber 12 = .ok (.invokevirtual 86, 3) := by decide +kernel
theorem dX7_takesNumber_15 : decode cX7_takesNumber 15 = .ok (.ifCond .eq 37, 3) := by decide +kernel
theorem dX7_takesNumber_18 : decode cX7_takesNumber 18 = .ok (.iload_n 3, 1) := by decide +kernel
theorem dX7_takesNumber_19 : decode cX7_takesNumber 19 = .ok (.bipush 10, 2) := by decide +kernel
theorem dX7_takesNumber_21 : decode cX7_takesNumber 21 = .ok (.imul, 1) := by decide +kernel
theorem dX7_takesNumber_22 : decode cX7_takesNumber 22 = .ok (.aload_n 0, 1) := by decide +kernel
theorem dX7_takesNumber_23 : decode cX7_takesNumber 23 = .ok (.getfield 9, 3) := by decide +kernel
theorem dX7_takesNumber_26 : decode cX7_takesNumber 26 = .ok (.aload_n 0, 1) := by decide +kernel
theorem dX7_takesNumber_27 : decode cX7_takesNumber 27 = .ok (.getfield 32, 3) := by decide +kernel
theorem dX7_takesNumber_30 : decode cX7_takesNumber 30 = .ok (.caload, 1) := by decide +kernel
theorem dX7_takesNumber_31 : decode cX7_takesNumber 31 = .ok (.bipush 48, 2) := by decide +kernel
theorem dX7_takesNumber_33 : decode cX7_takesNumber 33 = .ok (.isub, 1) := by decide +kernel
theorem dX7_takesNumber_34 : decode cX7_takesNumber 34 = .ok (.iadd, 1) := by decide +kernel
theorem dX7_takesNumber_35 : decode cX7_takesNumber 35 = .ok (.istore_n 3, 1) := by decide +kernel
theorem dX7_takesNumber_36 : decode cX7_takesNumber 36 = .ok (.aload_n 0, 1) := by decide +kernel
theorem dX7_takesNumber_37 : decode cX7_takesNumber 37 = .ok (.dup, 1) := by decide +kernel
theorem dX7_takesNumber_38 : decode cX7_takesNumber 38 = .ok (.getfield 32, 3) := by decide +kernel
theorem dX7_takesNumber_41 : decode cX7_takesNumber 41 = .ok (.iconst 1, 1) := by decide +kernel
theorem dX7_takesNumber_42 : decode cX7_takesNumber 42 = .ok (.iadd, 1) := by decide +kernel
theorem dX7_takesNumber_43 : decode cX7_takesNumber 43 = .ok (.putfield 32, 3) := by decide +kernel
theorem dX7_takesNumber_46 : decode cX7_takesNumber 46 = .ok (.iinc 4 1, 3) := by decide +kernel
theorem dX7_takesNumber_49 : decode cX7_takesNumber 49 = .ok (.goto (-44), 3) := by decide +kernel
theorem dX7_takesNumber_52 : decode cX7_takesNumber 52 = .ok (.iload 4, 2) := by decide +kernel
theorem dX7_takesNumber_54 : decode cX7_takesNumber 54 = .ok (.ifCond .eq 11, 3) := by decide +kernel
theorem dX7_takesNumber_57 : decode cX7_takesNumber 57 = .ok (.aload_n 0, 1) := by decide +kernel
theorem dX7_takesNumber_58 : decode cX7_takesNumber 58 = .ok (.getfield 67, 3) := by decide +kernel
theorem dX7_takesNumber_61 : decode cX7_takesNumber 61 = .ok (.iconst 3, 1) := by decide +kernel
theorem dX7_takesNumber_62 : decode cX7_takesNumber 62 = .ok (.if_icmp .lt 5, 3) := by decide +kernel
theorem dX7_takesNumber_65 : decode cX7_takesNumber 65 = .ok (.iconst 0, 1) := by decide +kernel
theorem dX7_takesNumber_66 : decode cX7_takesNumber 66 = .ok (.ireturn, 1) := by decide +kernel
theorem dX7_takesNumber_67 : decode cX7_takesNumber 67 = .ok (.aload_n 0, 1) := by decide +kernel
theorem dX7_takesNumber_68 : decode cX7_takesNumber 68 = .ok (.getfield 24, 3) := by decide +kernel
theorem dX7_takesNumber_71 : decode cX7_takesNumber 71 = .ok (.aload_n 0, 1) := by decide +kernel
theorem dX7_takesNumber_72 : decode cX7_takesNumber 72 = .ok (.getfield 67, 3) := by decide +kernel
theorem dX7_takesNumber_75 : decode cX7_takesNumber 75 = .ok (.iload_n 3, 1) := by decide +kernel
theorem dX7_takesNumber_76 : decode cX7_takesNumber 76 = .ok (.iload_n 2, 1) := by decide +kernel
theorem dX7_takesNumber_77 : decode cX7_takesNumber 77 = .ok (.imul, 1) := by decide +kernel
theorem dX7_takesNumber_78 : decode cX7_takesNumber 78 = .ok (.iastore, 1) := by decide +kernel
theorem dX7_takesNumber_79 : decode cX7_takesNumber 79 = .ok (.aload_n 0, 1) := by decide +kernel
theorem dX7_takesNumber_80 : decode cX7_takesNumber 80 = .ok (.dup, 1) := by decide +kernel
theorem dX7_takesNumber_81 : decode cX7_takesNumber 81 = .ok (.getfield 67, 3) := by decide +kernel
theorem dX7_takesNumber_84 : decode cX7_takesNumber 84 = .ok (.iconst 1, 1) := by decide +kernel
theorem dX7_takesNumber_85 : decode cX7_takesNumber 85 = .ok (.iadd, 1) := by decide +kernel
theorem dX7_takesNumber_86 : decode cX7_takesNumber 86 = .ok (.putfield 67, 3) := by decide +kernel
theorem dX7_takesNumber_89 : decode cX7_takesNumber 89 = .ok (.iconst 1, 1) := by decide +kernel
theorem dX7_takesNumber_90 : decode cX7_takesNumber 90 = .ok (.ireturn, 1) := by decide +kernel
theorem dX7_atDigit_0 : decode cX7_atDigit 0 = .ok (.aload_n 0, 1) := by decide +kernel
theorem dX7_atDigit_1 : decode cX7_atDigit 1 = .ok (.getfield 32, 3) := by decide +kernel
theorem dX7_atDigit_4 : decode cX7_atDigit 4 = .ok (.aload_n 0, 1) := by decide +kernel
theorem dX7_atDigit_5 : decode cX7_atDigit 5 = .ok (.getfield 28, 3) := by decide +kernel
theorem dX7_atDigit_8 : decode cX7_atDigit 8 = .ok (.if_icmp .ge 35, 3) := by decide +kernel
theorem dX7_atDigit_11 : decode cX7_atDigit 11 = .ok (.aload_n 0, 1) := by decide +kernel
theorem dX7_atDigit_12 : decode cX7_atDigit 12 = .ok (.getfield 9, 3) := by decide +kernel
theorem dX7_atDigit_15 : decode cX7_atDigit 15 = .ok (.aload_n 0, 1) := by decide +kernel
theorem dX7_atDigit_16 : decode cX7_atDigit 16 = .ok (.getfield 32, 3) := by decide +kernel
theorem dX7_atDigit_19 : decode cX7_atDigit 19 = .ok (.caload, 1) := by decide +kernel
theorem dX7_atDigit_20 : decode cX7_atDigit 20 = .ok (.bipush 48, 2) := by decide +kernel
theorem dX7_atDigit_22 : decode cX7_atDigit 22 = .ok (.if_icmp .lt 21, 3) := by decide +kernel
theorem dX7_atDigit_25 : decode cX7_atDigit 25 = .ok (.aload_n 0, 1) := by decide +kernel
theorem dX7_atDigit_26 : decode cX7_atDigit 26 = .ok (.getfield 9, 3) := by decide +kernel
theorem dX7_atDigit_29 : decode cX7_atDigit 29 = .ok (.aload_n 0, 1) := by decide +kernel
theorem dX7_atDigit_30 : decode cX7_atDigit 30 = .ok (.getfield 32, 3) := by decide +kernel
theorem dX7_atDigit_33 : decode cX7_atDigit 33 = .ok (.caload, 1) := by decide +kernel
theorem dX7_atDigit_34 : decode cX7_atDigit 34 = .ok (.bipush 57, 2) := by decide +kernel
theorem dX7_atDigit_36 : decode cX7_atDigit 36 = .ok (.if_icmp .gt 7, 3) := by decide +kernel
theorem dX7_atDigit_39 : decode cX7_atDigit 39 = .ok (.iconst 1, 1) := by decide +kernel
theorem dX7_atDigit_40 : decode cX7_atDigit 40 = .ok (.goto 4, 3) := by decide +kernel
theorem dX7_atDigit_43 : decode cX7_atDigit 43 = .ok (.iconst 0, 1) := by decide +kernel
theorem dX7_atDigit_44 : decode cX7_atDigit 44 = .ok (.ireturn, 1) := by decide +kernel
