theorem dJ6_valueOf_2dffe_0 : decode cJ6_valueOf_2dffe 0 = .ok (.iload_n 0, 1) := by decide +kernel
theorem dJ6_valueOf_2dffe_1 : decode cJ6_valueOf_2dffe 1 = .ok (.bipush (-128), 2) := by decide +kernel
theorem dJ6_valueOf_2dffe_3 : decode cJ6_valueOf_2dffe 3 = .ok (.if_icmp .lt 20, 3) := by decide +kernel
theorem dJ6_valueOf_2dffe_6 : decode cJ6_valueOf_2dffe 6 = .ok (.iload_n 0, 1) := by decide +kernel
theorem dJ6_valueOf_2dffe_7 : decode cJ6_valueOf_2dffe 7 = .ok (.getstatic 191, 3) := by decide +kernel
theorem dJ6_valueOf_2dffe_10 : decode cJ6_valueOf_2dffe 10 = .ok (.if_icmp .gt 13, 3) := by decide +kernel
theorem dJ6_valueOf_2dffe_13 : decode cJ6_valueOf_2dffe 13 = .ok (.getstatic 195, 3) := by decide +kernel
theorem dJ6_valueOf_2dffe_16 : decode cJ6_valueOf_2dffe 16 = .ok (.iload_n 0, 1) := by decide +kernel
theorem dJ6_valueOf_2dffe_17 : decode cJ6_valueOf_2dffe 17 = .ok (.sipush 128, 3) := by decide +kernel
theorem dJ6_valueOf_2dffe_20 : decode cJ6_valueOf_2dffe 20 = .ok (.iadd, 1) := by decide +kernel
theorem dJ6_valueOf_2dffe_21 : decode cJ6_valueOf_2dffe 21 = .ok (.aaload, 1) := by decide +kernel
theorem dJ6_valueOf_2dffe_22 : decode cJ6_valueOf_2dffe 22 = .ok (.areturn, 1) := by decide +kernel
theorem dJ6_valueOf_2dffe_23 : decode cJ6_valueOf_2dffe 23 = .ok (.new 1, 3) := by decide +kernel
theorem dJ6_valueOf_2dffe_26 : decode cJ6_valueOf_2dffe 26 = .ok (.dup, 1) := by decide +kernel
theorem dJ6_valueOf_2dffe_27 : decode cJ6_valueOf_2dffe 27 = .ok (.iload_n 0, 1) := by decide +kernel
theorem dJ6_valueOf_2dffe_28 : decode cJ6_valueOf_2dffe 28 = .ok (.invokespecial 199, 3) := by decide +kernel
theorem dJ6_valueOf_2dffe_31 : decode cJ6_valueOf_2dffe 31 = .ok (.areturn, 1) := by decide +kernel
theorem dJ6_intValue_8abf5_0 : decode cJ6_intValue_8abf5 0 = .ok (.aload_n 0, 1) := by decide +kernel
theorem dJ6_intValue_8abf5_1 : decode cJ6_intValue_8abf5 1 = .ok (.getfield 205, 3) := by decide +kernel
theorem dJ6_intValue_8abf5_4 : decode cJ6_intValue_8abf5 4 = .ok (.ireturn, 1) := by decide +kernel
theorem dJ6_compareTo_e8194_0 : decode cJ6_compareTo_e8194 0 = .ok (.aload_n 0, 1) := by decide +kernel
theorem dJ6_compareTo_e8194_1 : decode cJ6_compareTo_e8194 1 = .ok (.getfield 205, 3) := by decide +kernel
theorem dJ6_compareTo_e8194_4 : decode cJ6_compareTo_e8194 4 = .ok (.aload_n 1, 1) := by decide +kernel
theorem dJ6_compareTo_e8194_5 : decode cJ6_compareTo_e8194 5 = .ok (.getfield 205, 3) := by decide +kernel
theorem dJ6_compareTo_e8194_8 : decode cJ6_compareTo_e8194 8 = .ok (.invokestatic 259, 3) := by decide +kernel
theorem dJ6_compareTo_e8194_11 : decode cJ6_compareTo_e8194 11 = .ok (.ireturn, 1) := by decide +kernel
theorem dJ6_compare_7cf53_0 : decode cJ6_compare_7cf53 0 = .ok (.iload_n 0, 1) := by decide +kernel
theorem dJ6_compare_7cf53_1 : decode cJ6_compare_7cf53 1 = .ok (.iload_n 1, 1) := by decide +kernel
theorem dJ6_compare_7cf53_2 : decode cJ6_compare_7cf53 2 = .ok (.if_icmp .ge 7, 3) := by decide +kernel
theorem dJ6_compare_7cf53_5 : decode cJ6_compare_7cf53 5 = .ok (.iconst (-1), 1) := by decide +kernel
theorem dJ6_compare_7cf53_6 : decode cJ6_compare_7cf53 6 = .ok (.goto 13, 3) := by decide +kernel
theorem dJ6_compare_7cf53_9 : decode cJ6_compare_7cf53 9 = .ok (.iload_n 0, 1) := by decide +kernel
theorem dJ6_compare_7cf53_10 : decode cJ6_compare_7cf53 10 = .ok (.iload_n 1, 1) := by decide +kernel
theorem dJ6_compare_7cf53_11 : decode cJ6_compare_7cf53 11 = .ok (.if_icmp .ne 7, 3) := by decide +kernel
theorem dJ6_compare_7cf53_14 : decode cJ6_compare_7cf53 14 = .ok (.iconst 0, 1) := by decide +kernel
theorem dJ6_compare_7cf53_15 : decode cJ6_compare_7cf53 15 = .ok (.goto 4, 3) := by decide +kernel
theorem dJ6_compare_7cf53_18 : decode cJ6_compare_7cf53 18 = .ok (.iconst 1, 1) := by decide +kernel
theorem dJ6_compare_7cf53_19 : decode cJ6_compare_7cf53 19 = .ok (.ireturn, 1) := by decide +kernel
theorem dJ6_compareTo_e47da_0 : decode cJ6_compareTo_e47da 0 = .ok (.aload_n 0, 1) := by decide +kernel
theorem dJ6_compareTo_e47da_1 : decode cJ6_compareTo_e47da 1 = .ok (.aload_n 1, 1) := by decide +kernel
theorem dJ6_compareTo_e47da_2 : decode cJ6_compareTo_e47da 2 = .ok (.checkcast 1, 3) := by decide +kernel
theorem dJ6_compareTo_e47da_5 : decode cJ6_compareTo_e47da 5 = .ok (.invokevirtual 284, 3) := by decide +kernel
theorem dJ6_compareTo_e47da_8 : decode cJ6_compareTo_e47da 8 = .ok (.ireturn, 1) := by decide +kernel
theorem dJxa1e45_init_da8c8_0 : decode cJxa1e45_init_da8c8 0 = .ok (.aload_n 0, 1) := by decide +kernel
theorem dJxa1e45_init_da8c8_1 : decode cJxa1e45_init_da8c8 1 = .ok (.invokespecial 1, 3) := by decide +kernel
theorem dJxa1e45_init_da8c8_4 : decode cJxa1e45_init_da8c8 4 = .ok (.return_, 1) := by decide +kernel
theorem dJxc12de_init_da8c8_0 : decode cJxc12de_init_da8c8 0 = .ok (.aload_n 0, 1) := by decide +kernel
theorem dJxc12de_init_da8c8_1 : decode cJxc12de_init_da8c8 1 = .ok (.invokespecial 1, 3) := by decide +kernel
theorem dJxc12de_init_da8c8_4 : decode cJxc12de_init_da8c8 4 = .ok (.aload_n 0, 1) := by decide +kernel
theorem dJxc12de_init_da8c8_5 : decode cJxc12de_init_da8c8 5 = .ok (.iconst 0, 1) := by decide +kernel
theorem dJxc12de_init_da8c8_6 : decode cJxc12de_init_da8c8 6 = .ok (.putfield 7, 3) := by decide +kernel
theorem dJxc12de_init_da8c8_9 : decode cJxc12de_init_da8c8 9 = .ok (.return_, 1) := by decide +kernel
theorem dJx4a65c_init_da8c8_0 : decode cJx4a65c_init_da8c8 0 = .ok (.aload_n 0, 1) := by decide +kernel
theorem dJx4a65c_init_da8c8_1 : decode cJx4a65c_init_da8c8 1 = .ok (.invokespecial 1, 3) := by decide +kernel
theorem dJx4a65c_init_da8c8_4 : decode cJx4a65c_init_da8c8 4 = .ok (.aload_n 0, 1) := by decide +kernel
theorem dJx4a65c_init_da8c8_5 : decode cJx4a65c_init_da8c8 5 = .ok (.getstatic 39, 3) := by decide +kernel
theorem dJx4a65c_init_da8c8_8 : decode cJx4a65c_init_da8c8 8 = .ok (.putfield 9, 3) := by decide +kernel
theorem dJx4a65c_init_da8c8_11 : decode cJx4a65c_init_da8c8 11 = .ok (.return_, 1) := by decide +kernel
theorem dJx4a65c_grow_92f84_0 : decode cJx4a65c_grow_92f84 0 = .ok (.aload_n 0, 1) := by decide +kernel
theorem dJx4a65c_grow_92f84_1 : decode cJx4a65c_grow_92f84 1 = .ok (.getfield 9, 3) := by decide +kernel
theorem dJx4a65c_grow_92f84_4 : decode cJx4a65c_grow_92f84 4 = .ok (.arraylength, 1) := by decide +kernel
theorem dJx4a65c_grow_92f84_5 : decode cJx4a65c_grow_92f84 5 = .ok (.istore_n 2, 1) := by decide +kernel
theorem dJx4a65c_grow_92f84_6 : decode cJx4a65c_grow_92f84 6 = .ok (.iload_n 2, 1) := by decide +kernel
theorem dJx4a65c_grow_92f84_7 : decode cJx4a65c_grow_92f84 7 = .ok (.ifCond .gt 13, 3) := by decide +kernel
theorem dJx4a65c_grow_92f84_10 : decode cJx4a65c_grow_92f84 10 = .ok (.aload_n 0, 1) := by decide +kernel
theorem dJx4a65c_grow_92f84_11 : decode cJx4a65c_grow_92f84 11 = .ok (.getfield 9, 3) := by decide +kernel
theorem dJx4a65c_grow_92f84_14 : decode cJx4a65c_grow_92f84 14 = .ok (.getstatic 39, 3) := by decide +kernel
theorem dJx4a65c_grow_92f84_17 : decode cJx4a65c_grow_92f84 17 = .ok (.if_acmp .eq 28, 3) := by decide +kernel
theorem dJx4a65c_grow_92f84_20 : decode cJx4a65c_grow_92f84 20 = .ok (.iload_n 2, 1) := by decide +kernel
theorem dJx4a65c_grow_92f84_21 : decode cJx4a65c_grow_92f84 21 = .ok (.iload_n 1, 1) := by decide +kernel
theorem dJx4a65c_grow_92f84_22 : decode cJx4a65c_grow_92f84 22 = .ok (.iload_n 2, 1) := by decide +kernel
theorem dJx4a65c_grow_92f84_23 : decode cJx4a65c_grow_92f84 23 = .ok (.isub, 1) := by decide +kernel
theorem dJx4a65c_grow_92f84_24 : decode cJx4a65c_grow_92f84 24 = .ok (.iload_n 2, 1) := by decide +kernel
theorem dJx4a65c_grow_92f84_25 : decode cJx4a65c_grow_92f84 25 = .ok (.iconst 1, 1) := by decide +kernel
theorem dJx4a65c_grow_92f84_26 : decode cJx4a65c_grow_92f84 26 = .ok (.ishr, 1) := by decide +kernel
theorem dJx4a65c_grow_92f84_27 : decode cJx4a65c_grow_92f84 27 = .ok (.invokestatic 73, 3) := by decide +kernel
theorem dJx4a65c_grow_92f84_30 : decode cJx4a65c_grow_92f84 30 = .ok (.istore_n 3, 1) := by decide +kernel
theorem dJx4a65c_grow_92f84_31 : decode cJx4a65c_grow_92f84 31 = .ok (.aload_n 0, 1) := by decide +kernel
theorem dJx4a65c_grow_92f84_32 : decode cJx4a65c_grow_92f84 32 = .ok (.aload_n 0, 1) := by decide +kernel
theorem dJx4a65c_grow_92f84_33 : decode cJx4a65c_grow_92f84 33 = .ok (.getfield 9, 3) := by decide +kernel
theorem dJx4a65c_grow_92f84_36 : decode cJx4a65c_grow_92f84 36 = .ok (.iload_n 3, 1) := by decide +kernel
theorem dJx4a65c_grow_92f84_37 : decode cJx4a65c_grow_92f84 37 = .ok (.invokestatic 66, 3) := by decide +kernel
theorem dJx4a65c_grow_92f84_40 : decode cJx4a65c_grow_92f84 40 = .ok (.dup_x1, 1) := by decide +kernel
theorem dJx4a65c_grow_92f84_41 : decode cJx4a65c_grow_92f84 41 = .ok (.putfield 9, 3) := by decide +kernel
theorem dJx4a65c_grow_92f84_44 : decode cJx4a65c_grow_92f84 44 = .ok (.areturn, 1) := by decide +kernel
theorem dJx4a65c_grow_92f84_45 : decode cJx4a65c_grow_92f84 45 = .ok (.aload_n 0, 1) := by decide +kernel
theorem dJx4a65c_grow_92f84_46 : decode cJx4a65c_grow_92f84 46 = .ok (.bipush 10, 2) := by decide +kernel
theorem dJx4a65c_grow_92f84_48 : decode cJx4a65c_grow_92f84 48 = .ok (.iload_n 1, 1) := by decide +kernel
theorem dJx4a65c_grow_92f84_49 : decode cJx4a65c_grow_92f84 49 = .ok (.invokestatic 79, 3) := by decide +kernel
theorem dJx4a65c_grow_92f84_52 : decode cJx4a65c_grow_92f84 52 = .ok (.anewarray 7, 3) := by decide +kernel
theorem dJx4a65c_grow_92f84_55 : decode cJx4a65c_grow_92f84 55 = .ok (.dup_x1, 1) := by decide +kernel
theorem dJx4a65c_grow_92f84_56 : decode cJx4a65c_grow_92f84 56 = .ok (.putfield 9, 3) := by decide +kernel
theorem dJx4a65c_grow_92f84_59 : decode cJx4a65c_grow_92f84 59 = .ok (.areturn, 1) := by decide +kernel
theorem dJx4a65c_grow_d5877_0 : decode cJx4a65c_grow_d5877 0 = .ok (.aload_n 0, 1) := by decide +kernel
theorem dJx4a65c_grow_d5877_1 : decode cJx4a65c_grow_d5877 1 = .ok (.aload_n 0, 1) := by decide +kernel
theorem dJx4a65c_grow_d5877_2 : decode cJx4a65c_grow_d5877 2 = .ok (.getfield 48, 3) := by decide +kernel
theorem dJx4a65c_grow_d5877_5 : decode cJx4a65c_grow_d5877 5 = .ok (.iconst 1, 1) := by decide +kernel
theorem dJx4a65c_grow_d5877_6 : decode cJx4a65c_grow_d5877 6 = .ok (.iadd, 1) := by decide +kernel
theorem dJx4a65c_grow_d5877_7 : decode cJx4a65c_grow_d5877 7 = .ok (.invokevirtual 69, 3) := by decide +kernel
theorem dJx4a65c_grow_d5877_10 : decode cJx4a65c_grow_d5877 10 = .ok (.areturn, 1) := by decide +kernel
theorem dJx4a65c_size_8abf5_0 : decode cJx4a65c_size_8abf5 0 = .ok (.aload_n 0, 1) := by decide +kernel
theorem dJx4a65c_size_8abf5_1 : decode cJx4a65c_size_8abf5 1 = .ok (.getfield 48, 3) := by decide +kernel
theorem dJx4a65c_size_8abf5_4 : decode cJx4a65c_size_8abf5 4 = .ok (.ireturn, 1) := by decide +kernel
theorem dJx4a65c_elementData_915e3_0 : decode cJx4a65c_elementData_915e3 0 = .ok (.aload_n 0, 1) := by decide +kernel
theorem dJx4a65c_elementData_915e3_1 : decode cJx4a65c_elementData_915e3 1 = .ok (.getfield 9, 3) := by decide +kernel
theorem dJx4a65c_elementData_915e3_4 : decode cJx4a65c_elementData_915e3 4 = .ok (.iload_n 1, 1) := by decide +kernel
theorem dJx4a65c_elementData_915e3_5 : decode cJx4a65c_elementData_915e3 5 = .ok (.aaload, 1) := by decide +kernel
theorem dJx4a65c_elementData_915e3_6 : decode cJx4a65c_elementData_915e3 6 = .ok (.areturn, 1) := by decide +kernel
theorem dJx4a65c_get_915e3_0 : decode cJx4a65c_get_915e3 0 = .ok (.iload_n 1, 1) := by decide +kernel
theorem dJx4a65c_get_915e3_1 : decode cJx4a65c_get_915e3 1 = .ok (.aload_n 0, 1) := by decide +kernel
theorem dJx4a65c_get_915e3_2 : decode cJx4a65c_get_915e3 2 = .ok (.getfield 48, 3) := by decide +kernel
theorem dJx4a65c_get_915e3_5 : decode cJx4a65c_get_915e3 5 = .ok (.invokestatic 118, 3) := by decide +kernel
theorem dJx4a65c_get_915e3_8 : decode cJx4a65c_get_915e3 8 = .ok (.pop, 1) := by decide +kernel
theorem dJx4a65c_get_915e3_9 : decode cJx4a65c_get_915e3 9 = .ok (.aload_n 0, 1) := by decide +kernel
theorem dJx4a65c_get_915e3_10 : decode cJx4a65c_get_915e3 10 = .ok (.iload_n 1, 1) := by decide +kernel
theorem dJx4a65c_get_915e3_11 : decode cJx4a65c_get_915e3 11 = .ok (.invokevirtual 123, 3) := by decide +kernel
theorem dJx4a65c_get_915e3_14 : decode cJx4a65c_get_915e3 14 = .ok (.areturn, 1) := by decide +kernel
theorem dJx4a65c_add_72be8_0 : decode cJx4a65c_add_72be8 0 = .ok (.iload_n 3, 1) := by decide +kernel
theorem dJx4a65c_add_72be8_1 : decode cJx4a65c_add_72be8 1 = .ok (.aload_n 2, 1) := by decide +kernel
theorem dJx4a65c_add_72be8_2 : decode cJx4a65c_add_72be8 2 = .ok (.arraylength, 1) := by decide +kernel
theorem dJx4a65c_add_72be8_3 : decode cJx4a65c_add_72be8 3 = .ok (.if_icmp .ne 8, 3) := by decide +kernel
theorem dJx4a65c_add_72be8_6 : decode cJx4a65c_add_72be8 6 = .ok (.aload_n 0, 1) := by decide +kernel
theorem dJx4a65c_add_72be8_7 : decode cJx4a65c_add_72be8 7 = .ok (.invokevirtual 129, 3) := by decide +kernel
theorem dJx4a65c_add_72be8_10 : decode cJx4a65c_add_72be8 10 = .ok (.astore_n 2, 1) := by decide +kernel
theorem dJx4a65c_add_72be8_11 : decode cJx4a65c_add_72be8 11 = .ok (.aload_n 2, 1) := by decide +kernel
theorem dJx4a65c_add_72be8_12 : decode cJx4a65c_add_72be8 12 = .ok (.iload_n 3, 1) := by decide +kernel
theorem dJx4a65c_add_72be8_13 : decode cJx4a65c_add_72be8 13 = .ok (.aload_n 1, 1) := by decide +kernel
theorem dJx4a65c_add_72be8_14 : decode cJx4a65c_add_72be8 14 = .ok (.aastore, 1) := by decide +kernel
theorem dJx4a65c_add_72be8_15 : decode cJx4a65c_add_72be8 15 = .ok (.aload_n 0, 1) := by decide +kernel
theorem dJx4a65c_add_72be8_16 : decode cJx4a65c_add_72be8 16 = .ok (.iload_n 3, 1) := by decide +kernel
theorem dJx4a65c_add_72be8_17 : decode cJx4a65c_add_72be8 17 = .ok (.iconst 1, 1) := by decide +kernel
theorem dJx4a65c_add_72be8_18 : decode cJx4a65c_add_72be8 18 = .ok (.iadd, 1) := by decide +kernel
theorem dJx4a65c_add_72be8_19 : decode cJx4a65c_add_72be8 19 = .ok (.putfield 48, 3) := by decide +kernel
theorem dJx4a65c_add_72be8_22 : decode cJx4a65c_add_72be8 22 = .ok (.return_, 1) := by decide +kernel
theorem dJx4a65c_add_9ea2d_0 : decode cJx4a65c_add_9ea2d 0 = .ok (.aload_n 0, 1) := by decide +kernel
theorem dJx4a65c_add_9ea2d_1 : decode cJx4a65c_add_9ea2d 1 = .ok (.dup, 1) := by decide +kernel
theorem dJx4a65c_add_9ea2d_2 : decode cJx4a65c_add_9ea2d 2 = .ok (.getfield 63, 3) := by decide +kernel
theorem dJx4a65c_add_9ea2d_5 : decode cJx4a65c_add_9ea2d 5 = .ok (.iconst 1, 1) := by decide +kernel
theorem dJx4a65c_add_9ea2d_6 : decode cJx4a65c_add_9ea2d 6 = .ok (.iadd, 1) := by decide +kernel
theorem dJx4a65c_add_9ea2d_7 : decode cJx4a65c_add_9ea2d 7 = .ok (.putfield 63, 3) := by decide +kernel
theorem dJx4a65c_add_9ea2d_10 : decode cJx4a65c_add_9ea2d 10 = .ok (.aload_n 0, 1) := by decide +kernel
theorem dJx4a65c_add_9ea2d_11 : decode cJx4a65c_add_9ea2d 11 = .ok (.aload_n 1, 1) := by decide +kernel
theorem dJx4a65c_add_9ea2d_12 : decode cJx4a65c_add_9ea2d 12 = .ok (.aload_n 0, 1) := by decide +kernel
theorem dJx4a65c_add_9ea2d_13 : decode cJx4a65c_add_9ea2d 13 = .ok (.getfield 9, 3) := by decide +kernel
theorem dJx4a65c_add_9ea2d_16 : decode cJx4a65c_add_9ea2d 16 = .ok (.aload_n 0, 1) := by decide +kernel
theorem dJx4a65c_add_9ea2d_17 : decode cJx4a65c_add_9ea2d 17 = .ok (.getfield 48, 3) := by decide +kernel
theorem dJx4a65c_add_9ea2d_20 : decode cJx4a65c_add_9ea2d 20 = .ok (.invokevirtual 131, 3) := by decide +kernel
theorem dJx4a65c_add_9ea2d_23 : decode cJx4a65c_add_9ea2d 23 = .ok (.iconst 1, 1) := by decide +kernel
theorem dJx4a65c_add_9ea2d_24 : decode cJx4a65c_add_9ea2d 24 = .ok (.ireturn, 1) := by decide +kernel
theorem dJx4a65c_sort_a3821_0 : decode cJx4a65c_sort_a3821 0 = .ok (.aload_n 0, 1) := by decide +kernel
theorem dJx4a65c_sort_a3821_1 : decode cJx4a65c_sort_a3821 1 = .ok (.getfield 63, 3) := by decide +kernel
theorem dJx4a65c_sort_a3821_4 : decode cJx4a65c_sort_a3821 4 = .ok (.istore_n 2, 1) := by decide +kernel
theorem dJx4a65c_sort_a3821_5 : decode cJx4a65c_sort_a3821 5 = .ok (.aload_n 0, 1) := by decide +kernel
theorem dJx4a65c_sort_a3821_6 : decode cJx4a65c_sort_a3821 6 = .ok (.getfield 9, 3) := by decide +kernel
theorem dJx4a65c_sort_a3821_9 : decode cJx4a65c_sort_a3821 9 = .ok (.iconst 0, 1) := by decide +kernel
theorem dJx4a65c_sort_a3821_10 : decode cJx4a65c_sort_a3821 10 = .ok (.aload_n 0, 1) := by decide +kernel
theorem dJx4a65c_sort_a3821_11 : decode cJx4a65c_sort_a3821 11 = .ok (.getfield 48, 3) := by decide +kernel
theorem dJx4a65c_sort_a3821_14 : decode cJx4a65c_sort_a3821 14 = .ok (.aload_n 1, 1) := by decide +kernel
theorem dJx4a65c_sort_a3821_15 : decode cJx4a65c_sort_a3821 15 = .ok (.invokestatic 325, 3) := by decide +kernel
theorem dJx4a65c_sort_a3821_18 : decode cJx4a65c_sort_a3821 18 = .ok (.aload_n 0, 1) := by decide +kernel
theorem dJx4a65c_sort_a3821_19 : decode cJx4a65c_sort_a3821 19 = .ok (.getfield 63, 3) := by decide +kernel
theorem dJx4a65c_sort_a3821_22 : decode cJx4a65c_sort_a3821 22 = .ok (.iload_n 2, 1) := by decide +kernel
theorem dJx4a65c_sort_a3821_23 : decode cJx4a65c_sort_a3821 23 = .ok (.if_icmp .eq 11, 3) := by decide +kernel
theorem dJx4a65c_sort_a3821_26 : decode cJx4a65c_sort_a3821 26 = .ok (.new 161, 3) := by decide +kernel
theorem dJx4a65c_sort_a3821_29 : decode cJx4a65c_sort_a3821 29 = .ok (.dup, 1) := by decide +kernel
theorem dJx4a65c_sort_a3821_30 : decode cJx4a65c_sort_a3821 30 = .ok (.invokespecial 163, 3) := by decide +kernel
theorem dJx4a65c_sort_a3821_33 : decode cJx4a65c_sort_a3821 33 = .ok (.athrow, 1) := by decide +kernel
theorem dJx4a65c_sort_a3821_34 : decode cJx4a65c_sort_a3821 34 = .ok (.aload_n 0, 1) := by decide +kernel
theorem dJx4a65c_sort_a3821_35 : decode cJx4a65c_sort_a3821 35 = .ok (.dup, 1) := by decide +kernel
theorem dJx4a65c_sort_a3821_36 : decode cJx4a65c_sort_a3821 36 = .ok (.getfield 63, 3) := by decide +kernel
theorem dJx4a65c_sort_a3821_39 : decode cJx4a65c_sort_a3821 39 = .ok (.iconst 1, 1) := by decide +kernel
theorem dJx4a65c_sort_a3821_40 : decode cJx4a65c_sort_a3821 40 = .ok (.iadd, 1) := by decide +kernel
theorem dJx4a65c_sort_a3821_41 : decode cJx4a65c_sort_a3821 41 = .ok (.putfield 63, 3) := by decide +kernel
theorem dJx4a65c_sort_a3821_44 : decode cJx4a65c_sort_a3821 44 = .ok (.return_, 1) := by decide +kernel
theorem dJ7_rangeCheck_23922_0 : decode cJ7_rangeCheck_23922 0 = .ok (.iload_n 1, 1) := by decide +kernel
theorem dJ7_rangeCheck_23922_1 : decode cJ7_rangeCheck_23922 1 = .ok (.iload_n 2, 1) := by decide +kernel
theorem dJ7_rangeCheck_23922_2 : decode cJ7_rangeCheck_23922 2 = .ok (.if_icmp .le 44, 3) := by decide +kernel
theorem dJ7_rangeCheck_23922_5 : decode cJ7_rangeCheck_23922 5 = .ok (.new 43, 3) := by decide +kernel
theorem dJ7_rangeCheck_23922_8 : decode cJ7_rangeCheck_23922 8 = .ok (.dup, 1) := by decide +kernel
theorem dJ7_rangeCheck_23922_9 : decode cJ7_rangeCheck_23922 9 = .ok (.new 45, 3) := by decide +kernel
theorem dJ7_rangeCheck_23922_12 : decode cJ7_rangeCheck_23922 12 = .ok (.dup, 1) := by decide +kernel
theorem dJ7_rangeCheck_23922_13 : decode cJ7_rangeCheck_23922 13 = .ok (.invokespecial 47, 3) := by decide +kernel
theorem dJ7_rangeCheck_23922_16 : decode cJ7_rangeCheck_23922 16 = .ok (.ldc 48, 2) := by decide +kernel
theorem dJ7_rangeCheck_23922_18 : decode cJ7_rangeCheck_23922 18 = .ok (.invokevirtual 50, 3) := by decide +kernel
theorem dJ7_rangeCheck_23922_21 : decode cJ7_rangeCheck_23922 21 = .ok (.iload_n 1, 1) := by decide +kernel
theorem dJ7_rangeCheck_23922_22 : decode cJ7_rangeCheck_23922 22 = .ok (.invokevirtual 54, 3) := by decide +kernel
theorem dJ7_rangeCheck_23922_25 : decode cJ7_rangeCheck_23922 25 = .ok (.ldc 57, 2) := by decide +kernel
theorem dJ7_rangeCheck_23922_27 : decode cJ7_rangeCheck_23922 27 = .ok (.invokevirtual 50, 3) := by decide +kernel
theorem dJ7_rangeCheck_23922_30 : decode cJ7_rangeCheck_23922 30 = .ok (.iload_n 2, 1) := by decide +kernel
theorem dJ7_rangeCheck_23922_31 : decode cJ7_rangeCheck_23922 31 = .ok (.invokevirtual 54, 3) := by decide +kernel
theorem dJ7_rangeCheck_23922_34 : decode cJ7_rangeCheck_23922 34 = .ok (.ldc 59, 2) := by decide +kernel
theorem dJ7_rangeCheck_23922_36 : decode cJ7_rangeCheck_23922 36 = .ok (.invokevirtual 50, 3) := by decide +kernel
theorem dJ7_rangeCheck_23922_39 : decode cJ7_rangeCheck_23922 39 = .ok (.invokevirtual 61, 3) := by decide +kernel
theorem dJ7_rangeCheck_23922_42 : decode cJ7_rangeCheck_23922 42 = .ok (.invokespecial 65, 3) := by decide +kernel
theorem dJ7_rangeCheck_23922_45 : decode cJ7_rangeCheck_23922 45 = .ok (.athrow, 1) := by decide +kernel
theorem dJ7_rangeCheck_23922_46 : decode cJ7_rangeCheck_23922 46 = .ok (.iload_n 1, 1) := by decide +kernel
theorem dJ7_rangeCheck_23922_47 : decode cJ7_rangeCheck_23922 47 = .ok (.ifCond .ge 12, 3) := by decide +kernel
theorem dJ7_rangeCheck_23922_50 : decode cJ7_rangeCheck_23922 50 = .ok (.new 68, 3) := by decide +kernel
theorem dJ7_rangeCheck_23922_53 : decode cJ7_rangeCheck_23922 53 = .ok (.dup, 1) := by decide +kernel
theorem dJ7_rangeCheck_23922_54 : decode cJ7_rangeCheck_23922 54 = .ok (.iload_n 1, 1) := by decide +kernel
theorem dJ7_rangeCheck_23922_55 : decode cJ7_rangeCheck_23922 55 = .ok (.invokespecial 70, 3) := by decide +kernel
theorem dJ7_rangeCheck_23922_58 : decode cJ7_rangeCheck_23922 58 = .ok (.athrow, 1) := by decide +kernel
theorem dJ7_rangeCheck_23922_59 : decode cJ7_rangeCheck_23922 59 = .ok (.iload_n 2, 1) := by decide +kernel
theorem dJ7_rangeCheck_23922_60 : decode cJ7_rangeCheck_23922 60 = .ok (.iload_n 0, 1) := by decide +kernel
theorem dJ7_rangeCheck_23922_61 : decode cJ7_rangeCheck_23922 61 = .ok (.if_icmp .le 12, 3) := by decide +kernel
theorem dJ7_rangeCheck_23922_64 : decode cJ7_rangeCheck_23922 64 = .ok (.new 68, 3) := by decide +kernel
theorem dJ7_rangeCheck_23922_67 : decode cJ7_rangeCheck_23922 67 = .ok (.dup, 1) := by decide +kernel
theorem dJ7_rangeCheck_23922_68 : decode cJ7_rangeCheck_23922 68 = .ok (.iload_n 2, 1) := by decide +kernel
theorem dJ7_rangeCheck_23922_69 : decode cJ7_rangeCheck_23922 69 = .ok (.invokespecial 70, 3) := by decide +kernel
theorem dJ7_rangeCheck_23922_72 : decode cJ7_rangeCheck_23922 72 = .ok (.athrow, 1) := by decide +kernel
theorem dJ7_rangeCheck_23922_73 : decode cJ7_rangeCheck_23922 73 = .ok (.return_, 1) := by decide +kernel
theorem dJ7_sort_ec627_0 : decode cJ7_sort_ec627 0 = .ok (.aload_n 0, 1) := by decide +kernel
theorem dJ7_sort_ec627_1 : decode cJ7_sort_ec627 1 = .ok (.arraylength, 1) := by decide +kernel
theorem dJ7_sort_ec627_2 : decode cJ7_sort_ec627 2 = .ok (.iload_n 1, 1) := by decide +kernel
theorem dJ7_sort_ec627_3 : decode cJ7_sort_ec627 3 = .ok (.iload_n 2, 1) := by decide +kernel
theorem dJ7_sort_ec627_4 : decode cJ7_sort_ec627 4 = .ok (.invokestatic 13, 3) := by decide +kernel
theorem dJ7_sort_ec627_7 : decode cJ7_sort_ec627 7 = .ok (.getstatic 112, 3) := by decide +kernel
theorem dJ7_sort_ec627_10 : decode cJ7_sort_ec627 10 = .ok (.ifCond .eq 12, 3) := by decide +kernel
theorem dJ7_sort_ec627_13 : decode cJ7_sort_ec627 13 = .ok (.aload_n 0, 1) := by decide +kernel
theorem dJ7_sort_ec627_14 : decode cJ7_sort_ec627 14 = .ok (.iload_n 1, 1) := by decide +kernel
theorem dJ7_sort_ec627_15 : decode cJ7_sort_ec627 15 = .ok (.iload_n 2, 1) := by decide +kernel
theorem dJ7_sort_ec627_16 : decode cJ7_sort_ec627 16 = .ok (.invokestatic 134, 3) := by decide +kernel
theorem dJ7_sort_ec627_19 : decode cJ7_sort_ec627 19 = .ok (.goto 12, 3) := by decide +kernel
theorem dJ7_sort_ec627_22 : decode cJ7_sort_ec627 22 = .ok (.aload_n 0, 1) := by decide +kernel
theorem dJ7_sort_ec627_23 : decode cJ7_sort_ec627 23 = .ok (.iload_n 1, 1) := by decide +kernel
theorem dJ7_sort_ec627_24 : decode cJ7_sort_ec627 24 = .ok (.iload_n 2, 1) := by decide +kernel
theorem dJ7_sort_ec627_25 : decode cJ7_sort_ec627 25 = .ok (.aconst_null, 1) := by decide +kernel
theorem dJ7_sort_ec627_26 : decode cJ7_sort_ec627 26 = .ok (.iconst 0, 1) := by decide +kernel
theorem dJ7_sort_ec627_27 : decode cJ7_sort_ec627 27 = .ok (.iconst 0, 1) := by decide +kernel
theorem dJ7_sort_ec627_28 : decode cJ7_sort_ec627 28 = .ok (.invokestatic 122, 3) := by decide +kernel
theorem dJ7_sort_ec627_31 : decode cJ7_sort_ec627 31 = .ok (.return_, 1) := by decide +kernel
theorem dJ7_sort_a871f_0 : decode cJ7_sort_a871f 0 = .ok (.aload_n 3, 1) := by decide +kernel
theorem dJ7_sort_a871f_1 : decode cJ7_sort_a871f 1 = .ok (.ifnonnull 12, 3) := by decide +kernel
theorem dJ7_sort_a871f_4 : decode cJ7_sort_a871f 4 = .ok (.aload_n 0, 1) := by decide +kernel
theorem dJ7_sort_a871f_5 : decode cJ7_sort_a871f 5 = .ok (.iload_n 1, 1) := by decide +kernel
theorem dJ7_sort_a871f_6 : decode cJ7_sort_a871f 6 = .ok (.iload_n 2, 1) := by decide +kernel
theorem dJ7_sort_a871f_7 : decode cJ7_sort_a871f 7 = .ok (.invokestatic 164, 3) := by decide +kernel
theorem dJ7_sort_a871f_10 : decode cJ7_sort_a871f 10 = .ok (.goto 36, 3) := by decide +kernel
theorem dJ7_sort_a871f_13 : decode cJ7_sort_a871f 13 = .ok (.aload_n 0, 1) := by decide +kernel
theorem dJ7_sort_a871f_14 : decode cJ7_sort_a871f 14 = .ok (.arraylength, 1) := by decide +kernel
theorem dJ7_sort_a871f_15 : decode cJ7_sort_a871f 15 = .ok (.iload_n 1, 1) := by decide +kernel
theorem dJ7_sort_a871f_16 : decode cJ7_sort_a871f 16 = .ok (.iload_n 2, 1) := by decide +kernel
theorem dJ7_sort_a871f_17 : decode cJ7_sort_a871f 17 = .ok (.invokestatic 13, 3) := by decide +kernel
theorem dJ7_sort_a871f_20 : decode cJ7_sort_a871f 20 = .ok (.getstatic 112, 3) := by decide +kernel
theorem dJ7_sort_a871f_23 : decode cJ7_sort_a871f 23 = .ok (.ifCond .eq 13, 3) := by decide +kernel
theorem dJ7_sort_a871f_26 : decode cJ7_sort_a871f 26 = .ok (.aload_n 0, 1) := by decide +kernel
theorem dJ7_sort_a871f_27 : decode cJ7_sort_a871f 27 = .ok (.iload_n 1, 1) := by decide +kernel
theorem dJ7_sort_a871f_28 : decode cJ7_sort_a871f 28 = .ok (.iload_n 2, 1) := by decide +kernel
theorem dJ7_sort_a871f_29 : decode cJ7_sort_a871f 29 = .ok (.aload_n 3, 1) := by decide +kernel
theorem dJ7_sort_a871f_30 : decode cJ7_sort_a871f 30 = .ok (.invokestatic 166, 3) := by decide +kernel
theorem dJ7_sort_a871f_33 : decode cJ7_sort_a871f 33 = .ok (.goto 13, 3) := by decide +kernel
theorem dJ7_sort_a871f_36 : decode cJ7_sort_a871f 36 = .ok (.aload_n 0, 1) := by decide +kernel
theorem dJ7_sort_a871f_37 : decode cJ7_sort_a871f 37 = .ok (.iload_n 1, 1) := by decide +kernel
theorem dJ7_sort_a871f_38 : decode cJ7_sort_a871f 38 = .ok (.iload_n 2, 1) := by decide +kernel
theorem dJ7_sort_a871f_39 : decode cJ7_sort_a871f 39 = .ok (.aload_n 3, 1) := by decide +kernel
theorem dJ7_sort_a871f_40 : decode cJ7_sort_a871f 40 = .ok (.aconst_null, 1) := by decide +kernel
theorem dJ7_sort_a871f_41 : decode cJ7_sort_a871f 41 = .ok (.iconst 0, 1) := by decide +kernel
theorem dJ7_sort_a871f_42 : decode cJ7_sort_a871f 42 = .ok (.iconst 0, 1) := by decide +kernel
theorem dJ7_sort_a871f_43 : decode cJ7_sort_a871f 43 = .ok (.invokestatic 79, 3) := by decide +kernel
theorem dJ7_sort_a871f_46 : decode cJ7_sort_a871f 46 = .ok (.return_, 1) := by decide +kernel
theorem dJxd5e46_sort_2ec40_0 : decode cJxd5e46_sort_2ec40 0 = .ok (.aload_n 0, 1) := by decide +kernel
theorem dJxd5e46_sort_2ec40_1 : decode cJxd5e46_sort_2ec40 1 = .ok (.aconst_null, 1) := by decide +kernel
theorem dJxd5e46_sort_2ec40_2 : decode cJxd5e46_sort_2ec40 2 = .ok (.invokeinterface 7 2, 5) := by decide +kernel
theorem dJxd5e46_sort_2ec40_7 : decode cJxd5e46_sort_2ec40 7 = .ok (.return_, 1) := by decide +kernel
theorem dJx2f0ea_sort_50963_0 : decode cJx2f0ea_sort_50963 0 = .ok (.getstatic 37, 3) := by decide +kernel
theorem dJx2f0ea_sort_50963_3 : decode cJx2f0ea_sort_50963 3 = .ok (.ifCond .ne 30, 3) := by decide +kernel
theorem dJx2f0ea_sort_50963_6 : decode cJx2f0ea_sort_50963 6 = .ok (.aload_n 0, 1) := by decide +kernel
theorem dJx2f0ea_sort_50963_7 : decode cJx2f0ea_sort_50963 7 = .ok (.ifnull 18, 3) := by decide +kernel
theorem dJx2f0ea_sort_50963_10 : decode cJx2f0ea_sort_50963 10 = .ok (.iload_n 1, 1) := by decide +kernel
theorem dJx2f0ea_sort_50963_11 : decode cJx2f0ea_sort_50963 11 = .ok (.ifCond .lt 14, 3) := by decide +kernel
theorem dJx2f0ea_sort_50963_14 : decode cJx2f0ea_sort_50963 14 = .ok (.iload_n 1, 1) := by decide +kernel
theorem dJx2f0ea_sort_50963_15 : decode cJx2f0ea_sort_50963 15 = .ok (.iload_n 2, 1) := by decide +kernel
theorem dJx2f0ea_sort_50963_16 : decode cJx2f0ea_sort_50963 16 = .ok (.if_icmp .gt 9, 3) := by decide +kernel
theorem dJx2f0ea_sort_50963_19 : decode cJx2f0ea_sort_50963 19 = .ok (.iload_n 2, 1) := by decide +kernel
theorem dJx2f0ea_sort_50963_20 : decode cJx2f0ea_sort_50963 20 = .ok (.aload_n 0, 1) := by decide +kernel
theorem dJx2f0ea_sort_50963_21 : decode cJx2f0ea_sort_50963 21 = .ok (.arraylength, 1) := by decide +kernel
theorem dJx2f0ea_sort_50963_22 : decode cJx2f0ea_sort_50963 22 = .ok (.if_icmp .le 11, 3) := by decide +kernel
theorem dJx2f0ea_sort_50963_25 : decode cJx2f0ea_sort_50963 25 = .ok (.new 41, 3) := by decide +kernel
theorem dJx2f0ea_sort_50963_28 : decode cJx2f0ea_sort_50963 28 = .ok (.dup, 1) := by decide +kernel
theorem dJx2f0ea_sort_50963_29 : decode cJx2f0ea_sort_50963 29 = .ok (.invokespecial 43, 3) := by decide +kernel
theorem dJx2f0ea_sort_50963_32 : decode cJx2f0ea_sort_50963 32 = .ok (.athrow, 1) := by decide +kernel
theorem dJx2f0ea_sort_50963_33 : decode cJx2f0ea_sort_50963 33 = .ok (.iload_n 2, 1) := by decide +kernel
theorem dJx2f0ea_sort_50963_34 : decode cJx2f0ea_sort_50963 34 = .ok (.iload_n 1, 1) := by decide +kernel
theorem dJx2f0ea_sort_50963_35 : decode cJx2f0ea_sort_50963 35 = .ok (.isub, 1) := by decide +kernel
theorem dJx2f0ea_sort_50963_36 : decode cJx2f0ea_sort_50963 36 = .ok (.istore 6, 2) := by decide +kernel
theorem dJx2f0ea_sort_50963_38 : decode cJx2f0ea_sort_50963 38 = .ok (.iload 6, 2) := by decide +kernel
theorem dJx2f0ea_sort_50963_40 : decode cJx2f0ea_sort_50963 40 = .ok (.iconst 2, 1) := by decide +kernel
theorem dJx2f0ea_sort_50963_41 : decode cJx2f0ea_sort_50963 41 = .ok (.if_icmp .ge 4, 3) := by decide +kernel
theorem dJx2f0ea_sort_50963_44 : decode cJx2f0ea_sort_50963 44 = .ok (.return_, 1) := by decide +kernel
theorem dJx2f0ea_sort_50963_45 : decode cJx2f0ea_sort_50963 45 = .ok (.iload 6, 2) := by decide +kernel
theorem dJx2f0ea_sort_50963_47 : decode cJx2f0ea_sort_50963 47 = .ok (.bipush 32, 2) := by decide +kernel
theorem dJx2f0ea_sort_50963_49 : decode cJx2f0ea_sort_50963 49 = .ok (.if_icmp .ge 22, 3) := by decide +kernel
theorem dJx2f0ea_sort_50963_52 : decode cJx2f0ea_sort_50963 52 = .ok (.aload_n 0, 1) := by decide +kernel
theorem dJx2f0ea_sort_50963_53 : decode cJx2f0ea_sort_50963 53 = .ok (.iload_n 1, 1) := by decide +kernel
theorem dJx2f0ea_sort_50963_54 : decode cJx2f0ea_sort_50963 54 = .ok (.iload_n 2, 1) := by decide +kernel
theorem dJx2f0ea_sort_50963_55 : decode cJx2f0ea_sort_50963 55 = .ok (.invokestatic 44, 3) := by decide +kernel
theorem dJx2f0ea_sort_50963_58 : decode cJx2f0ea_sort_50963 58 = .ok (.istore 7, 2) := by decide +kernel
theorem dJx2f0ea_sort_50963_60 : decode cJx2f0ea_sort_50963 60 = .ok (.aload_n 0, 1) := by decide +kernel
theorem dJx2f0ea_sort_50963_61 : decode cJx2f0ea_sort_50963 61 = .ok (.iload_n 1, 1) := by decide +kernel
theorem dJx2f0ea_sort_50963_62 : decode cJx2f0ea_sort_50963 62 = .ok (.iload_n 2, 1) := by decide +kernel
theorem dJx2f0ea_sort_50963_63 : decode cJx2f0ea_sort_50963 63 = .ok (.iload_n 1, 1) := by decide +kernel
theorem dJx2f0ea_sort_50963_64 : decode cJx2f0ea_sort_50963 64 = .ok (.iload 7, 2) := by decide +kernel
theorem dJx2f0ea_sort_50963_66 : decode cJx2f0ea_sort_50963 66 = .ok (.iadd, 1) := by decide +kernel
theorem dJx2f0ea_sort_50963_67 : decode cJx2f0ea_sort_50963 67 = .ok (.invokestatic 48, 3) := by decide +kernel
theorem dJx2f0ea_sort_50963_70 : decode cJx2f0ea_sort_50963 70 = .ok (.return_, 1) := by decide +kernel
theorem dJx2f0ea_sort_50963_71 : decode cJx2f0ea_sort_50963 71 = .ok (.new 7, 3) := by decide +kernel
theorem dJx2f0ea_sort_50963_74 : decode cJx2f0ea_sort_50963 74 = .ok (.dup, 1) := by decide +kernel
theorem dJx2f0ea_sort_50963_75 : decode cJx2f0ea_sort_50963 75 = .ok (.aload_n 0, 1) := by decide +kernel
theorem dJx2f0ea_sort_50963_76 : decode cJx2f0ea_sort_50963 76 = .ok (.aload_n 3, 1) := by decide +kernel
theorem dJx2f0ea_sort_50963_77 : decode cJx2f0ea_sort_50963 77 = .ok (.iload 4, 2) := by decide +kernel
theorem dJx2f0ea_sort_50963_79 : decode cJx2f0ea_sort_50963 79 = .ok (.iload 5, 2) := by decide +kernel
theorem dJx2f0ea_sort_50963_81 : decode cJx2f0ea_sort_50963 81 = .ok (.invokespecial 52, 3) := by decide +kernel
theorem dJx2f0ea_sort_50963_84 : decode cJx2f0ea_sort_50963 84 = .ok (.astore 7, 2) := by decide +kernel
theorem dJx2f0ea_sort_50963_86 : decode cJx2f0ea_sort_50963 86 = .ok (.iload 6, 2) := by decide +kernel
theorem dJx2f0ea_sort_50963_88 : decode cJx2f0ea_sort_50963 88 = .ok (.invokestatic 55, 3) := by decide +kernel
theorem dJx2f0ea_sort_50963_91 : decode cJx2f0ea_sort_50963 91 = .ok (.istore 8, 2) := by decide +kernel
theorem dJx2f0ea_sort_50963_93 : decode cJx2f0ea_sort_50963 93 = .ok (.aload_n 0, 1) := by decide +kernel
theorem dJx2f0ea_sort_50963_94 : decode cJx2f0ea_sort_50963 94 = .ok (.iload_n 1, 1) := by decide +kernel
theorem dJx2f0ea_sort_50963_95 : decode cJx2f0ea_sort_50963 95 = .ok (.iload_n 2, 1) := by decide +kernel
theorem dJx2f0ea_sort_50963_96 : decode cJx2f0ea_sort_50963 96 = .ok (.invokestatic 44, 3) := by decide +kernel
theorem dJx2f0ea_sort_50963_99 : decode cJx2f0ea_sort_50963 99 = .ok (.istore 9, 2) := by decide +kernel
theorem dJx2f0ea_sort_50963_101 : decode cJx2f0ea_sort_50963 101 = .ok (.iload 9, 2) := by decide +kernel
theorem dJx2f0ea_sort_50963_103 : decode cJx2f0ea_sort_50963 103 = .ok (.iload 8, 2) := by decide +kernel
theorem dJx2f0ea_sort_50963_105 : decode cJx2f0ea_sort_50963 105 = .ok (.if_icmp .ge 36, 3) := by decide +kernel
theorem dJx2f0ea_sort_50963_108 : decode cJx2f0ea_sort_50963 108 = .ok (.iload 6, 2) := by decide +kernel
theorem dJx2f0ea_sort_50963_110 : decode cJx2f0ea_sort_50963 110 = .ok (.iload 8, 2) := by decide +kernel
theorem dJx2f0ea_sort_50963_112 : decode cJx2f0ea_sort_50963 112 = .ok (.if_icmp .gt 8, 3) := by decide +kernel
theorem dJx2f0ea_sort_50963_115 : decode cJx2f0ea_sort_50963 115 = .ok (.iload 6, 2) := by decide +kernel
theorem dJx2f0ea_sort_50963_117 : decode cJx2f0ea_sort_50963 117 = .ok (.goto 5, 3) := by decide +kernel
theorem dJx2f0ea_sort_50963_120 : decode cJx2f0ea_sort_50963 120 = .ok (.iload 8, 2) := by decide +kernel
theorem dJx2f0ea_sort_50963_122 : decode cJx2f0ea_sort_50963 122 = .ok (.istore 10, 2) := by decide +kernel
theorem dJx2f0ea_sort_50963_124 : decode cJx2f0ea_sort_50963 124 = .ok (.aload_n 0, 1) := by decide +kernel
theorem dJx2f0ea_sort_50963_125 : decode cJx2f0ea_sort_50963 125 = .ok (.iload_n 1, 1) := by decide +kernel
theorem dJx2f0ea_sort_50963_126 : decode cJx2f0ea_sort_50963 126 = .ok (.iload_n 1, 1) := by decide +kernel
theorem dJx2f0ea_sort_50963_127 : decode cJx2f0ea_sort_50963 127 = .ok (.iload 10, 2) := by decide +kernel
theorem dJx2f0ea_sort_50963_129 : decode cJx2f0ea_sort_50963 129 = .ok (.iadd, 1) := by decide +kernel
theorem dJx2f0ea_sort_50963_130 : decode cJx2f0ea_sort_50963 130 = .ok (.iload_n 1, 1) := by decide +kernel
theorem dJx2f0ea_sort_50963_131 : decode cJx2f0ea_sort_50963 131 = .ok (.iload 9, 2) := by decide +kernel
theorem dJx2f0ea_sort_50963_133 : decode cJx2f0ea_sort_50963 133 = .ok (.iadd, 1) := by decide +kernel
theorem dJx2f0ea_sort_50963_134 : decode cJx2f0ea_sort_50963 134 = .ok (.invokestatic 48, 3) := by decide +kernel
theorem dJx2f0ea_sort_50963_137 : decode cJx2f0ea_sort_50963 137 = .ok (.iload 10, 2) := by decide +kernel
theorem dJx2f0ea_sort_50963_139 : decode cJx2f0ea_sort_50963 139 = .ok (.istore 9, 2) := by decide +kernel
theorem dJx2f0ea_sort_50963_141 : decode cJx2f0ea_sort_50963 141 = .ok (.aload 7, 2) := by decide +kernel
theorem dJx2f0ea_sort_50963_143 : decode cJx2f0ea_sort_50963 143 = .ok (.iload_n 1, 1) := by decide +kernel
theorem dJx2f0ea_sort_50963_144 : decode cJx2f0ea_sort_50963 144 = .ok (.iload 9, 2) := by decide +kernel
theorem dJx2f0ea_sort_50963_146 : decode cJx2f0ea_sort_50963 146 = .ok (.invokevirtual 59, 3) := by decide +kernel
theorem dJx2f0ea_sort_50963_149 : decode cJx2f0ea_sort_50963 149 = .ok (.aload 7, 2) := by decide +kernel
theorem dJx2f0ea_sort_50963_151 : decode cJx2f0ea_sort_50963 151 = .ok (.invokevirtual 63, 3) := by decide +kernel
theorem dJx2f0ea_sort_50963_154 : decode cJx2f0ea_sort_50963 154 = .ok (.iload_n 1, 1) := by decide +kernel
theorem dJx2f0ea_sort_50963_155 : decode cJx2f0ea_sort_50963 155 = .ok (.iload 9, 2) := by decide +kernel
theorem dJx2f0ea_sort_50963_157 : decode cJx2f0ea_sort_50963 157 = .ok (.iadd, 1) := by decide +kernel
theorem dJx2f0ea_sort_50963_158 : decode cJx2f0ea_sort_50963 158 = .ok (.istore_n 1, 1) := by decide +kernel
theorem dJx2f0ea_sort_50963_159 : decode cJx2f0ea_sort_50963 159 = .ok (.iload 6, 2) := by decide +kernel
theorem dJx2f0ea_sort_50963_161 : decode cJx2f0ea_sort_50963 161 = .ok (.iload 9, 2) := by decide +kernel
theorem dJx2f0ea_sort_50963_163 : decode cJx2f0ea_sort_50963 163 = .ok (.isub, 1) := by decide +kernel
theorem dJx2f0ea_sort_50963_164 : decode cJx2f0ea_sort_50963 164 = .ok (.istore 6, 2) := by decide +kernel
theorem dJx2f0ea_sort_50963_166 : decode cJx2f0ea_sort_50963 166 = .ok (.iload 6, 2) := by decide +kernel
theorem dJx2f0ea_sort_50963_168 : decode cJx2f0ea_sort_50963 168 = .ok (.ifCond .ne (-75), 3) := by decide +kernel
theorem dJx2f0ea_sort_50963_171 : decode cJx2f0ea_sort_50963 171 = .ok (.getstatic 37, 3) := by decide +kernel
theorem dJx2f0ea_sort_50963_174 : decode cJx2f0ea_sort_50963 174 = .ok (.ifCond .ne 16, 3) := by decide +kernel
theorem dJx2f0ea_sort_50963_177 : decode cJx2f0ea_sort_50963 177 = .ok (.iload_n 1, 1) := by decide +kernel
theorem dJx2f0ea_sort_50963_178 : decode cJx2f0ea_sort_50963 178 = .ok (.iload_n 2, 1) := by decide +kernel
theorem dJx2f0ea_sort_50963_179 : decode cJx2f0ea_sort_50963 179 = .ok (.if_icmp .eq 11, 3) := by decide +kernel
theorem dJx2f0ea_sort_50963_182 : decode cJx2f0ea_sort_50963 182 = .ok (.new 41, 3) := by decide +kernel
theorem dJx2f0ea_sort_50963_185 : decode cJx2f0ea_sort_50963 185 = .ok (.dup, 1) := by decide +kernel
theorem dJx2f0ea_sort_50963_186 : decode cJx2f0ea_sort_50963 186 = .ok (.invokespecial 43, 3) := by decide +kernel
theorem dJx2f0ea_sort_50963_189 : decode cJx2f0ea_sort_50963 189 = .ok (.athrow, 1) := by decide +kernel
theorem dJx2f0ea_sort_50963_190 : decode cJx2f0ea_sort_50963 190 = .ok (.aload 7, 2) := by decide +kernel
theorem dJx2f0ea_sort_50963_192 : decode cJx2f0ea_sort_50963 192 = .ok (.invokevirtual 66, 3) := by decide +kernel
theorem dJx2f0ea_sort_50963_195 : decode cJx2f0ea_sort_50963 195 = .ok (.getstatic 37, 3) := by decide +kernel
theorem dJx2f0ea_sort_50963_198 : decode cJx2f0ea_sort_50963 198 = .ok (.ifCond .ne 20, 3) := by decide +kernel
theorem dJx2f0ea_sort_50963_201 : decode cJx2f0ea_sort_50963 201 = .ok (.aload 7, 2) := by decide +kernel
theorem dJx2f0ea_sort_50963_203 : decode cJx2f0ea_sort_50963 203 = .ok (.getfield 13, 3) := by decide +kernel
theorem dJx2f0ea_sort_50963_206 : decode cJx2f0ea_sort_50963 206 = .ok (.iconst 1, 1) := by decide +kernel
theorem dJx2f0ea_sort_50963_207 : decode cJx2f0ea_sort_50963 207 = .ok (.if_icmp .eq 11, 3) := by decide +kernel
theorem dJx2f0ea_sort_50963_210 : decode cJx2f0ea_sort_50963 210 = .ok (.new 41, 3) := by decide +kernel
theorem dJx2f0ea_sort_50963_213 : decode cJx2f0ea_sort_50963 213 = .ok (.dup, 1) := by decide +kernel
theorem dJx2f0ea_sort_50963_214 : decode cJx2f0ea_sort_50963 214 = .ok (.invokespecial 43, 3) := by decide +kernel
theorem dJx2f0ea_sort_50963_217 : decode cJx2f0ea_sort_50963 217 = .ok (.athrow, 1) := by decide +kernel
theorem dJx2f0ea_sort_50963_218 : decode cJx2f0ea_sort_50963 218 = .ok (.return_, 1) := by decide +kernel
theorem dJx2f0ea_binarySort_cb36d_0 : decode cJx2f0ea_binarySort_cb36d 0 = .ok (.getstatic 37, 3) := by decide +kernel
theorem dJx2f0ea_binarySort_cb36d_3 : decode cJx2f0ea_binarySort_cb36d 3 = .ok (.ifCond .ne 21, 3) := by decide +kernel
theorem dJx2f0ea_binarySort_cb36d_6 : decode cJx2f0ea_binarySort_cb36d 6 = .ok (.iload_n 1, 1) := by decide +kernel
theorem dJx2f0ea_binarySort_cb36d_7 : decode cJx2f0ea_binarySort_cb36d 7 = .ok (.iload_n 3, 1) := by decide +kernel
theorem dJx2f0ea_binarySort_cb36d_8 : decode cJx2f0ea_binarySort_cb36d 8 = .ok (.if_icmp .gt 8, 3) := by decide +kernel
theorem dJx2f0ea_binarySort_cb36d_11 : decode cJx2f0ea_binarySort_cb36d 11 = .ok (.iload_n 3, 1) := by decide +kernel
theorem dJx2f0ea_binarySort_cb36d_12 : decode cJx2f0ea_binarySort_cb36d 12 = .ok (.iload_n 2, 1) := by decide +kernel
theorem dJx2f0ea_binarySort_cb36d_13 : decode cJx2f0ea_binarySort_cb36d 13 = .ok (.if_icmp .le 11, 3) := by decide +kernel
theorem dJx2f0ea_binarySort_cb36d_16 : decode cJx2f0ea_binarySort_cb36d 16 = .ok (.new 41, 3) := by decide +kernel
theorem dJx2f0ea_binarySort_cb36d_19 : decode cJx2f0ea_binarySort_cb36d 19 = .ok (.dup, 1) := by decide +kernel
theorem dJx2f0ea_binarySort_cb36d_20 : decode cJx2f0ea_binarySort_cb36d 20 = .ok (.invokespecial 43, 3) := by decide +kernel
theorem dJx2f0ea_binarySort_cb36d_23 : decode cJx2f0ea_binarySort_cb36d 23 = .ok (.athrow, 1) := by decide +kernel
theorem dJx2f0ea_binarySort_cb36d_24 : decode cJx2f0ea_binarySort_cb36d 24 = .ok (.iload_n 3, 1) := by decide +kernel
theorem dJx2f0ea_binarySort_cb36d_25 : decode cJx2f0ea_binarySort_cb36d 25 = .ok (.iload_n 1, 1) := by decide +kernel
theorem dJx2f0ea_binarySort_cb36d_26 : decode cJx2f0ea_binarySort_cb36d 26 = .ok (.if_icmp .ne 6, 3) := by decide +kernel
theorem dJx2f0ea_binarySort_cb36d_29 : decode cJx2f0ea_binarySort_cb36d 29 = .ok (.iinc 3 1, 3) := by decide +kernel
theorem dJx2f0ea_binarySort_cb36d_32 : decode cJx2f0ea_binarySort_cb36d 32 = .ok (.iload_n 3, 1) := by decide +kernel
theorem dJx2f0ea_binarySort_cb36d_33 : decode cJx2f0ea_binarySort_cb36d 33 = .ok (.iload_n 2, 1) := by decide +kernel
theorem dJx2f0ea_binarySort_cb36d_34 : decode cJx2f0ea_binarySort_cb36d 34 = .ok (.if_icmp .ge 188, 3) := by decide +kernel
theorem dJx2f0ea_binarySort_cb36d_37 : decode cJx2f0ea_binarySort_cb36d 37 = .ok (.aload_n 0, 1) := by decide +kernel
theorem dJx2f0ea_binarySort_cb36d_38 : decode cJx2f0ea_binarySort_cb36d 38 = .ok (.iload_n 3, 1) := by decide +kernel
theorem dJx2f0ea_binarySort_cb36d_39 : decode cJx2f0ea_binarySort_cb36d 39 = .ok (.aaload, 1) := by decide +kernel
theorem dJx2f0ea_binarySort_cb36d_40 : decode cJx2f0ea_binarySort_cb36d 40 = .ok (.checkcast 69, 3) := by decide +kernel
theorem dJx2f0ea_binarySort_cb36d_43 : decode cJx2f0ea_binarySort_cb36d 43 = .ok (.astore 4, 2) := by decide +kernel
theorem dJx2f0ea_binarySort_cb36d_45 : decode cJx2f0ea_binarySort_cb36d 45 = .ok (.iload_n 1, 1) := by decide +kernel
theorem dJx2f0ea_binarySort_cb36d_46 : decode cJx2f0ea_binarySort_cb36d 46 = .ok (.istore 5, 2) := by decide +kernel
theorem dJx2f0ea_binarySort_cb36d_48 : decode cJx2f0ea_binarySort_cb36d 48 = .ok (.iload_n 3, 1) := by decide +kernel
theorem dJx2f0ea_binarySort_cb36d_49 : decode cJx2f0ea_binarySort_cb36d 49 = .ok (.istore 6, 2) := by decide +kernel
theorem dJx2f0ea_binarySort_cb36d_51 : decode cJx2f0ea_binarySort_cb36d 51 = .ok (.getstatic 37, 3) := by decide +kernel
theorem dJx2f0ea_binarySort_cb36d_54 : decode cJx2f0ea_binarySort_cb36d 54 = .ok (.ifCond .ne 18, 3) := by decide +kernel
theorem dJx2f0ea_binarySort_cb36d_57 : decode cJx2f0ea_binarySort_cb36d 57 = .ok (.iload 5, 2) := by decide +kernel
theorem dJx2f0ea_binarySort_cb36d_59 : decode cJx2f0ea_binarySort_cb36d 59 = .ok (.iload 6, 2) := by decide +kernel
theorem dJx2f0ea_binarySort_cb36d_61 : decode cJx2f0ea_binarySort_cb36d 61 = .ok (.if_icmp .le 11, 3) := by decide +kernel
theorem dJx2f0ea_binarySort_cb36d_64 : decode cJx2f0ea_binarySort_cb36d 64 = .ok (.new 41, 3) := by decide +kernel
theorem dJx2f0ea_binarySort_cb36d_67 : decode cJx2f0ea_binarySort_cb36d 67 = .ok (.dup, 1) := by decide +kernel
theorem dJx2f0ea_binarySort_cb36d_68 : decode cJx2f0ea_binarySort_cb36d 68 = .ok (.invokespecial 43, 3) := by decide +kernel
theorem dJx2f0ea_binarySort_cb36d_71 : decode cJx2f0ea_binarySort_cb36d 71 = .ok (.athrow, 1) := by decide +kernel
theorem dJx2f0ea_binarySort_cb36d_72 : decode cJx2f0ea_binarySort_cb36d 72 = .ok (.iload 5, 2) := by decide +kernel
theorem dJx2f0ea_binarySort_cb36d_74 : decode cJx2f0ea_binarySort_cb36d 74 = .ok (.iload 6, 2) := by decide +kernel
theorem dJx2f0ea_binarySort_cb36d_76 : decode cJx2f0ea_binarySort_cb36d 76 = .ok (.if_icmp .ge 42, 3) := by decide +kernel
theorem dJx2f0ea_binarySort_cb36d_79 : decode cJx2f0ea_binarySort_cb36d 79 = .ok (.iload 5, 2) := by decide +kernel
theorem dJx2f0ea_binarySort_cb36d_81 : decode cJx2f0ea_binarySort_cb36d 81 = .ok (.iload 6, 2) := by decide +kernel
theorem dJx2f0ea_binarySort_cb36d_83 : decode cJx2f0ea_binarySort_cb36d 83 = .ok (.iadd, 1) := by decide +kernel
theorem dJx2f0ea_binarySort_cb36d_84 : decode cJx2f0ea_binarySort_cb36d 84 = .ok (.iconst 1, 1) := by decide +kernel
theorem dJx2f0ea_binarySort_cb36d_85 : decode cJx2f0ea_binarySort_cb36d 85 = .ok (.iushr, 1) := by decide +kernel
theorem dJx2f0ea_binarySort_cb36d_86 : decode cJx2f0ea_binarySort_cb36d 86 = .ok (.istore 7, 2) := by decide +kernel
theorem dJx2f0ea_binarySort_cb36d_88 : decode cJx2f0ea_binarySort_cb36d 88 = .ok (.aload 4, 2) := by decide +kernel
theorem dJx2f0ea_binarySort_cb36d_90 : decode cJx2f0ea_binarySort_cb36d 90 = .ok (.aload_n 0, 1) := by decide +kernel
theorem dJx2f0ea_binarySort_cb36d_91 : decode cJx2f0ea_binarySort_cb36d 91 = .ok (.iload 7, 2) := by decide +kernel
theorem dJx2f0ea_binarySort_cb36d_93 : decode cJx2f0ea_binarySort_cb36d 93 = .ok (.aaload, 1) := by decide +kernel
theorem dJx2f0ea_binarySort_cb36d_94 : decode cJx2f0ea_binarySort_cb36d 94 = .ok (.invokeinterface 71 2, 5) := by decide +kernel
theorem dJx2f0ea_binarySort_cb36d_99 : decode cJx2f0ea_binarySort_cb36d 99 = .ok (.ifCond .ge 10, 3) := by decide +kernel
theorem dJx2f0ea_binarySort_cb36d_102 : decode cJx2f0ea_binarySort_cb36d 102 = .ok (.iload 7, 2) := by decide +kernel
theorem dJx2f0ea_binarySort_cb36d_104 : decode cJx2f0ea_binarySort_cb36d 104 = .ok (.istore 6, 2) := by decide +kernel
theorem dJx2f0ea_binarySort_cb36d_106 : decode cJx2f0ea_binarySort_cb36d 106 = .ok (.goto 9, 3) := by decide +kernel
theorem dJx2f0ea_binarySort_cb36d_109 : decode cJx2f0ea_binarySort_cb36d 109 = .ok (.iload 7, 2) := by decide +kernel
theorem dJx2f0ea_binarySort_cb36d_111 : decode cJx2f0ea_binarySort_cb36d 111 = .ok (.iconst 1, 1) := by decide +kernel
theorem dJx2f0ea_binarySort_cb36d_112 : decode cJx2f0ea_binarySort_cb36d 112 = .ok (.iadd, 1) := by decide +kernel
theorem dJx2f0ea_binarySort_cb36d_113 : decode cJx2f0ea_binarySort_cb36d 113 = .ok (.istore 5, 2) := by decide +kernel
theorem dJx2f0ea_binarySort_cb36d_115 : decode cJx2f0ea_binarySort_cb36d 115 = .ok (.goto (-43), 3) := by decide +kernel
theorem dJx2f0ea_binarySort_cb36d_118 : decode cJx2f0ea_binarySort_cb36d 118 = .ok (.getstatic 37, 3) := by decide +kernel
theorem dJx2f0ea_binarySort_cb36d_121 : decode cJx2f0ea_binarySort_cb36d 121 = .ok (.ifCond .ne 18, 3) := by decide +kernel
theorem dJx2f0ea_binarySort_cb36d_124 : decode cJx2f0ea_binarySort_cb36d 124 = .ok (.iload 5, 2) := by decide +kernel
theorem dJx2f0ea_binarySort_cb36d_126 : decode cJx2f0ea_binarySort_cb36d 126 = .ok (.iload 6, 2) := by decide +kernel
theorem dJx2f0ea_binarySort_cb36d_128 : decode cJx2f0ea_binarySort_cb36d 128 = .ok (.if_icmp .eq 11, 3) := by decide +kernel
theorem dJx2f0ea_binarySort_cb36d_131 : decode cJx2f0ea_binarySort_cb36d 131 = .ok (.new 41, 3) := by decide +kernel
theorem dJx2f0ea_binarySort_cb36d_134 : decode cJx2f0ea_binarySort_cb36d 134 = .ok (.dup, 1) := by decide +kernel
theorem dJx2f0ea_binarySort_cb36d_135 : decode cJx2f0ea_binarySort_cb36d 135 = .ok (.invokespecial 43, 3) := by decide +kernel
theorem dJx2f0ea_binarySort_cb36d_138 : decode cJx2f0ea_binarySort_cb36d 138 = .ok (.athrow, 1) := by decide +kernel
theorem dJx2f0ea_binarySort_cb36d_139 : decode cJx2f0ea_binarySort_cb36d 139 = .ok (.iload_n 3, 1) := by decide +kernel
theorem dJx2f0ea_binarySort_cb36d_140 : decode cJx2f0ea_binarySort_cb36d 140 = .ok (.iload 5, 2) := by decide +kernel
theorem dJx2f0ea_binarySort_cb36d_142 : decode cJx2f0ea_binarySort_cb36d 142 = .ok (.isub, 1) := by decide +kernel
theorem dJx2f0ea_binarySort_cb36d_143 : decode cJx2f0ea_binarySort_cb36d 143 = .ok (.istore 7, 2) := by decide +kernel
theorem dJx2f0ea_binarySort_cb36d_145 : decode cJx2f0ea_binarySort_cb36d 145 = .ok (.iload 7, 2) := by decide +kernel
theorem dJx2f0ea_binarySort_cb36d_147 : decode cJx2f0ea_binarySort_cb36d 147 = .ok (.lookupswitch 50 #[(1, 37), (2, 25)], 25) := by decide +kernel
theorem dJx2f0ea_binarySort_cb36d_172 : decode cJx2f0ea_binarySort_cb36d 172 = .ok (.aload_n 0, 1) := by decide +kernel
theorem dJx2f0ea_binarySort_cb36d_173 : decode cJx2f0ea_binarySort_cb36d 173 = .ok (.iload 5, 2) := by decide +kernel
theorem dJx2f0ea_binarySort_cb36d_175 : decode cJx2f0ea_binarySort_cb36d 175 = .ok (.iconst 2, 1) := by decide +kernel
theorem dJx2f0ea_binarySort_cb36d_176 : decode cJx2f0ea_binarySort_cb36d 176 = .ok (.iadd, 1) := by decide +kernel
theorem dJx2f0ea_binarySort_cb36d_177 : decode cJx2f0ea_binarySort_cb36d 177 = .ok (.aload_n 0, 1) := by decide +kernel
theorem dJx2f0ea_binarySort_cb36d_178 : decode cJx2f0ea_binarySort_cb36d 178 = .ok (.iload 5, 2) := by decide +kernel
theorem dJx2f0ea_binarySort_cb36d_180 : decode cJx2f0ea_binarySort_cb36d 180 = .ok (.iconst 1, 1) := by decide +kernel
theorem dJx2f0ea_binarySort_cb36d_181 : decode cJx2f0ea_binarySort_cb36d 181 = .ok (.iadd, 1) := by decide +kernel
theorem dJx2f0ea_binarySort_cb36d_182 : decode cJx2f0ea_binarySort_cb36d 182 = .ok (.aaload, 1) := by decide +kernel
theorem dJx2f0ea_binarySort_cb36d_183 : decode cJx2f0ea_binarySort_cb36d 183 = .ok (.aastore, 1) := by decide +kernel
theorem dJx2f0ea_binarySort_cb36d_184 : decode cJx2f0ea_binarySort_cb36d 184 = .ok (.aload_n 0, 1) := by decide +kernel
theorem dJx2f0ea_binarySort_cb36d_185 : decode cJx2f0ea_binarySort_cb36d 185 = .ok (.iload 5, 2) := by decide +kernel
theorem dJx2f0ea_binarySort_cb36d_187 : decode cJx2f0ea_binarySort_cb36d 187 = .ok (.iconst 1, 1) := by decide +kernel
theorem dJx2f0ea_binarySort_cb36d_188 : decode cJx2f0ea_binarySort_cb36d 188 = .ok (.iadd, 1) := by decide +kernel
theorem dJx2f0ea_binarySort_cb36d_189 : decode cJx2f0ea_binarySort_cb36d 189 = .ok (.aload_n 0, 1) := by decide +kernel
theorem dJx2f0ea_binarySort_cb36d_190 : decode cJx2f0ea_binarySort_cb36d 190 = .ok (.iload 5, 2) := by decide +kernel
theorem dJx2f0ea_binarySort_cb36d_192 : decode cJx2f0ea_binarySort_cb36d 192 = .ok (.aaload, 1) := by decide +kernel
theorem dJx2f0ea_binarySort_cb36d_193 : decode cJx2f0ea_binarySort_cb36d 193 = .ok (.aastore, 1) := by decide +kernel
theorem dJx2f0ea_binarySort_cb36d_194 : decode cJx2f0ea_binarySort_cb36d 194 = .ok (.goto 16, 3) := by decide +kernel
theorem dJx2f0ea_binarySort_cb36d_197 : decode cJx2f0ea_binarySort_cb36d 197 = .ok (.aload_n 0, 1) := by decide +kernel
theorem dJx2f0ea_binarySort_cb36d_198 : decode cJx2f0ea_binarySort_cb36d 198 = .ok (.iload 5, 2) := by decide +kernel
theorem dJx2f0ea_binarySort_cb36d_200 : decode cJx2f0ea_binarySort_cb36d 200 = .ok (.aload_n 0, 1) := by decide +kernel
theorem dJx2f0ea_binarySort_cb36d_201 : decode cJx2f0ea_binarySort_cb36d 201 = .ok (.iload 5, 2) := by decide +kernel
theorem dJx2f0ea_binarySort_cb36d_203 : decode cJx2f0ea_binarySort_cb36d 203 = .ok (.iconst 1, 1) := by decide +kernel
theorem dJx2f0ea_binarySort_cb36d_204 : decode cJx2f0ea_binarySort_cb36d 204 = .ok (.iadd, 1) := by decide +kernel
theorem dJx2f0ea_binarySort_cb36d_205 : decode cJx2f0ea_binarySort_cb36d 205 = .ok (.iload 7, 2) := by decide +kernel
theorem dJx2f0ea_binarySort_cb36d_207 : decode cJx2f0ea_binarySort_cb36d 207 = .ok (.invokestatic 75, 3) := by decide +kernel
theorem dJx2f0ea_binarySort_cb36d_210 : decode cJx2f0ea_binarySort_cb36d 210 = .ok (.aload_n 0, 1) := by decide +kernel
theorem dJx2f0ea_binarySort_cb36d_211 : decode cJx2f0ea_binarySort_cb36d 211 = .ok (.iload 5, 2) := by decide +kernel
theorem dJx2f0ea_binarySort_cb36d_213 : decode cJx2f0ea_binarySort_cb36d 213 = .ok (.aload 4, 2) := by decide +kernel
theorem dJx2f0ea_binarySort_cb36d_215 : decode cJx2f0ea_binarySort_cb36d 215 = .ok (.aastore, 1) := by decide +kernel
theorem dJx2f0ea_binarySort_cb36d_216 : decode cJx2f0ea_binarySort_cb36d 216 = .ok (.iinc 3 1, 3) := by decide +kernel
theorem dJx2f0ea_binarySort_cb36d_219 : decode cJx2f0ea_binarySort_cb36d 219 = .ok (.goto (-187), 3) := by decide +kernel
theorem dJx2f0ea_binarySort_cb36d_222 : decode cJx2f0ea_binarySort_cb36d 222 = .ok (.return_, 1) := by decide +kernel
theorem dJx2f0ea_countRunAndMakeAscending_0373e_0 : decode cJx2f0ea_countRunAndMakeAscending_0373e 0 = .ok (.getstatic 37, 3) := by decide +kernel
theorem dJx2f0ea_countRunAndMakeAscending_0373e_3 : decode cJx2f0ea_countRunAndMakeAscending_0373e 3 = .ok (.ifCond .ne 16, 3) := by decide +kernel
theorem dJx2f0ea_countRunAndMakeAscending_0373e_6 : decode cJx2f0ea_countRunAndMakeAscending_0373e 6 = .ok (.iload_n 1, 1) := by decide +kernel
theorem dJx2f0ea_countRunAndMakeAscending_0373e_7 : decode cJx2f0ea_countRunAndMakeAscending_0373e 7 = .ok (.iload_n 2, 1) := by decide +kernel
theorem dJx2f0ea_countRunAndMakeAscending_0373e_8 : decode cJx2f0ea_countRunAndMakeAscending_0373e 8 = .ok (.if_icmp .lt 11, 3) := by decide +kernel
theorem dJx2f0ea_countRunAndMakeAscending_0373e_11 : decode cJx2f0ea_countRunAndMakeAscending_0373e 11 = .ok (.new 41, 3) := by decide +kernel
theorem dJx2f0ea_countRunAndMakeAscending_0373e_14 : decode cJx2f0ea_countRunAndMakeAscending_0373e 14 = .ok (.dup, 1) := by decide +kernel
theorem dJx2f0ea_countRunAndMakeAscending_0373e_15 : decode cJx2f0ea_countRunAndMakeAscending_0373e 15 = .ok (.invokespecial 43, 3) := by decide +kernel
theorem dJx2f0ea_countRunAndMakeAscending_0373e_18 : decode cJx2f0ea_countRunAndMakeAscending_0373e 18 = .ok (.athrow, 1) := by decide +kernel
theorem dJx2f0ea_countRunAndMakeAscending_0373e_19 : decode cJx2f0ea_countRunAndMakeAscending_0373e 19 = .ok (.iload_n 1, 1) := by decide +kernel
theorem dJx2f0ea_countRunAndMakeAscending_0373e_20 : decode cJx2f0ea_countRunAndMakeAscending_0373e 20 = .ok (.iconst 1, 1) := by decide +kernel
theorem dJx2f0ea_countRunAndMakeAscending_0373e_21 : decode cJx2f0ea_countRunAndMakeAscending_0373e 21 = .ok (.iadd, 1) := by decide +kernel
theorem dJx2f0ea_countRunAndMakeAscending_0373e_22 : decode cJx2f0ea_countRunAndMakeAscending_0373e 22 = .ok (.istore_n 3, 1) := by decide +kernel
theorem dJx2f0ea_countRunAndMakeAscending_0373e_23 : decode cJx2f0ea_countRunAndMakeAscending_0373e 23 = .ok (.iload_n 3, 1) := by decide +kernel
theorem dJx2f0ea_countRunAndMakeAscending_0373e_24 : decode cJx2f0ea_countRunAndMakeAscending_0373e 24 = .ok (.iload_n 2, 1) := by decide +kernel
theorem dJx2f0ea_countRunAndMakeAscending_0373e_25 : decode cJx2f0ea_countRunAndMakeAscending_0373e 25 = .ok (.if_icmp .ne 5, 3) := by decide +kernel
theorem dJx2f0ea_countRunAndMakeAscending_0373e_28 : decode cJx2f0ea_countRunAndMakeAscending_0373e 28 = .ok (.iconst 1, 1) := by decide +kernel
theorem dJx2f0ea_countRunAndMakeAscending_0373e_29 : decode cJx2f0ea_countRunAndMakeAscending_0373e 29 = .ok (.ireturn, 1) := by decide +kernel
theorem dJx2f0ea_countRunAndMakeAscending_0373e_30 : decode cJx2f0ea_countRunAndMakeAscending_0373e 30 = .ok (.aload_n 0, 1) := by decide +kernel
theorem dJx2f0ea_countRunAndMakeAscending_0373e_31 : decode cJx2f0ea_countRunAndMakeAscending_0373e 31 = .ok (.iload_n 3, 1) := by decide +kernel
theorem dJx2f0ea_countRunAndMakeAscending_0373e_32 : decode cJx2f0ea_countRunAndMakeAscending_0373e 32 = .ok (.iinc 3 1, 3) := by decide +kernel
theorem dJx2f0ea_countRunAndMakeAscending_0373e_35 : decode cJx2f0ea_countRunAndMakeAscending_0373e 35 = .ok (.aaload, 1) := by decide +kernel
theorem dJx2f0ea_countRunAndMakeAscending_0373e_36 : decode cJx2f0ea_countRunAndMakeAscending_0373e 36 = .ok (.checkcast 69, 3) := by decide +kernel
theorem dJx2f0ea_countRunAndMakeAscending_0373e_39 : decode cJx2f0ea_countRunAndMakeAscending_0373e 39 = .ok (.aload_n 0, 1) := by decide +kernel
theorem dJx2f0ea_countRunAndMakeAscending_0373e_40 : decode cJx2f0ea_countRunAndMakeAscending_0373e 40 = .ok (.iload_n 1, 1) := by decide +kernel
theorem dJx2f0ea_countRunAndMakeAscending_0373e_41 : decode cJx2f0ea_countRunAndMakeAscending_0373e 41 = .ok (.aaload, 1) := by decide +kernel
theorem dJx2f0ea_countRunAndMakeAscending_0373e_42 : decode cJx2f0ea_countRunAndMakeAscending_0373e 42 = .ok (.invokeinterface 71 2, 5) := by decide +kernel
theorem dJx2f0ea_countRunAndMakeAscending_0373e_47 : decode cJx2f0ea_countRunAndMakeAscending_0373e 47 = .ok (.ifCond .ge 42, 3) := by decide +kernel
theorem dJx2f0ea_countRunAndMakeAscending_0373e_50 : decode cJx2f0ea_countRunAndMakeAscending_0373e 50 = .ok (.iload_n 3, 1) := by decide +kernel
theorem dJx2f0ea_countRunAndMakeAscending_0373e_51 : decode cJx2f0ea_countRunAndMakeAscending_0373e 51 = .ok (.iload_n 2, 1) := by decide +kernel
theorem dJx2f0ea_countRunAndMakeAscending_0373e_52 : decode cJx2f0ea_countRunAndMakeAscending_0373e 52 = .ok (.if_icmp .ge 28, 3) := by decide +kernel
theorem dJx2f0ea_countRunAndMakeAscending_0373e_55 : decode cJx2f0ea_countRunAndMakeAscending_0373e 55 = .ok (.aload_n 0, 1) := by decide +kernel
theorem dJx2f0ea_countRunAndMakeAscending_0373e_56 : decode cJx2f0ea_countRunAndMakeAscending_0373e 56 = .ok (.iload_n 3, 1) := by decide +kernel
theorem dJx2f0ea_countRunAndMakeAscending_0373e_57 : decode cJx2f0ea_countRunAndMakeAscending_0373e 57 = .ok (.aaload, 1) := by decide +kernel
theorem dJx2f0ea_countRunAndMakeAscending_0373e_58 : decode cJx2f0ea_countRunAndMakeAscending_0373e 58 = .ok (.checkcast 69, 3) := by decide +kernel
theorem dJx2f0ea_countRunAndMakeAscending_0373e_61 : decode cJx2f0ea_countRunAndMakeAscending_0373e 61 = .ok (.aload_n 0, 1) := by decide +kernel
theorem dJx2f0ea_countRunAndMakeAscending_0373e_62 : decode cJx2f0ea_countRunAndMakeAscending_0373e 62 = .ok (.iload_n 3, 1) := by decide +kernel
theorem dJx2f0ea_countRunAndMakeAscending_0373e_63 : decode cJx2f0ea_countRunAndMakeAscending_0373e 63 = .ok (.iconst 1, 1) := by decide +kernel
theorem dJx2f0ea_countRunAndMakeAscending_0373e_64 : decode cJx2f0ea_countRunAndMakeAscending_0373e 64 = .ok (.isub, 1) := by decide +kernel
theorem dJx2f0ea_countRunAndMakeAscending_0373e_65 : decode cJx2f0ea_countRunAndMakeAscending_0373e 65 = .ok (.aaload, 1) := by decide +kernel
theorem dJx2f0ea_countRunAndMakeAscending_0373e_66 : decode cJx2f0ea_countRunAndMakeAscending_0373e 66 = .ok (.invokeinterface 71 2, 5) := by decide +kernel
theorem dJx2f0ea_countRunAndMakeAscending_0373e_71 : decode cJx2f0ea_countRunAndMakeAscending_0373e 71 = .ok (.ifCond .ge 9, 3) := by decide +kernel
theorem dJx2f0ea_countRunAndMakeAscending_0373e_74 : decode cJx2f0ea_countRunAndMakeAscending_0373e 74 = .ok (.iinc 3 1, 3) := by decide +kernel
theorem dJx2f0ea_countRunAndMakeAscending_0373e_77 : decode cJx2f0ea_countRunAndMakeAscending_0373e 77 = .ok (.goto (-27), 3) := by decide +kernel
theorem dJx2f0ea_countRunAndMakeAscending_0373e_80 : decode cJx2f0ea_countRunAndMakeAscending_0373e 80 = .ok (.aload_n 0, 1) := by decide +kernel
theorem dJx2f0ea_countRunAndMakeAscending_0373e_81 : decode cJx2f0ea_countRunAndMakeAscending_0373e 81 = .ok (.iload_n 1, 1) := by decide +kernel
theorem dJx2f0ea_countRunAndMakeAscending_0373e_82 : decode cJx2f0ea_countRunAndMakeAscending_0373e 82 = .ok (.iload_n 3, 1) := by decide +kernel
theorem dJx2f0ea_countRunAndMakeAscending_0373e_83 : decode cJx2f0ea_countRunAndMakeAscending_0373e 83 = .ok (.invokestatic 81, 3) := by decide +kernel
theorem dJx2f0ea_countRunAndMakeAscending_0373e_86 : decode cJx2f0ea_countRunAndMakeAscending_0373e 86 = .ok (.goto 33, 3) := by decide +kernel
theorem dJx2f0ea_countRunAndMakeAscending_0373e_89 : decode cJx2f0ea_countRunAndMakeAscending_0373e 89 = .ok (.iload_n 3, 1) := by decide +kernel
theorem dJx2f0ea_countRunAndMakeAscending_0373e_90 : decode cJx2f0ea_countRunAndMakeAscending_0373e 90 = .ok (.iload_n 2, 1) := by decide +kernel
theorem dJx2f0ea_countRunAndMakeAscending_0373e_91 : decode cJx2f0ea_countRunAndMakeAscending_0373e 91 = .ok (.if_icmp .ge 28, 3) := by decide +kernel
theorem dJx2f0ea_countRunAndMakeAscending_0373e_94 : decode cJx2f0ea_countRunAndMakeAscending_0373e 94 = .ok (.aload_n 0, 1) := by decide +kernel
theorem dJx2f0ea_countRunAndMakeAscending_0373e_95 : decode cJx2f0ea_countRunAndMakeAscending_0373e 95 = .ok (.iload_n 3, 1) := by decide +kernel
theorem dJx2f0ea_countRunAndMakeAscending_0373e_96 : decode cJx2f0ea_countRunAndMakeAscending_0373e 96 = .ok (.aaload, 1) := by decide +kernel
theorem dJx2f0ea_countRunAndMakeAscending_0373e_97 : decode cJx2f0ea_countRunAndMakeAscending_0373e 97 = .ok (.checkcast 69, 3) := by decide +kernel
theorem dJx2f0ea_countRunAndMakeAscending_0373e_100 : decode cJx2f0ea_countRunAndMakeAscending_0373e 100 = .ok (.aload_n 0, 1) := by decide +kernel
theorem dJx2f0ea_countRunAndMakeAscending_0373e_101 : decode cJx2f0ea_countRunAndMakeAscending_0373e 101 = .ok (.iload_n 3, 1) := by decide +kernel
theorem dJx2f0ea_countRunAndMakeAscending_0373e_102 : decode cJx2f0ea_countRunAndMakeAscending_0373e 102 = .ok (.iconst 1, 1) := by decide +kernel
theorem dJx2f0ea_countRunAndMakeAscending_0373e_103 : decode cJx2f0ea_countRunAndMakeAscending_0373e 103 = .ok (.isub, 1) := by decide +kernel
theorem dJx2f0ea_countRunAndMakeAscending_0373e_104 : decode cJx2f0ea_countRunAndMakeAscending_0373e 104 = .ok (.aaload, 1) := by decide +kernel
theorem dJx2f0ea_countRunAndMakeAscending_0373e_105 : decode cJx2f0ea_countRunAndMakeAscending_0373e 105 = .ok (.invokeinterface 71 2, 5) := by decide +kernel
theorem dJx2f0ea_countRunAndMakeAscending_0373e_110 : decode cJx2f0ea_countRunAndMakeAscending_0373e 110 = .ok (.ifCond .lt 9, 3) := by decide +kernel
theorem dJx2f0ea_countRunAndMakeAscending_0373e_113 : decode cJx2f0ea_countRunAndMakeAscending_0373e 113 = .ok (.iinc 3 1, 3) := by decide +kernel
theorem dJx2f0ea_countRunAndMakeAscending_0373e_116 : decode cJx2f0ea_countRunAndMakeAscending_0373e 116 = .ok (.goto (-27), 3) := by decide +kernel
theorem dJx2f0ea_countRunAndMakeAscending_0373e_119 : decode cJx2f0ea_countRunAndMakeAscending_0373e 119 = .ok (.iload_n 3, 1) := by decide +kernel
theorem dJx2f0ea_countRunAndMakeAscending_0373e_120 : decode cJx2f0ea_countRunAndMakeAscending_0373e 120 = .ok (.iload_n 1, 1) := by decide +kernel
theorem dJx2f0ea_countRunAndMakeAscending_0373e_121 : decode cJx2f0ea_countRunAndMakeAscending_0373e 121 = .ok (.isub, 1) := by decide +kernel
theorem dJx2f0ea_countRunAndMakeAscending_0373e_122 : decode cJx2f0ea_countRunAndMakeAscending_0373e 122 = .ok (.ireturn, 1) := by decide +kernel
theorem dJx2f0ea_reverseRange_ec627_0 : decode cJx2f0ea_reverseRange_ec627 0 = .ok (.iinc 2 (-1), 3) := by decide +kernel
theorem dJx2f0ea_reverseRange_ec627_3 : decode cJx2f0ea_reverseRange_ec627 3 = .ok (.iload_n 1, 1) := by decide +kernel
theorem dJx2f0ea_reverseRange_ec627_4 : decode cJx2f0ea_reverseRange_ec627 4 = .ok (.iload_n 2, 1) := by decide +kernel
theorem dJx2f0ea_reverseRange_ec627_5 : decode cJx2f0ea_reverseRange_ec627 5 = .ok (.if_icmp .ge 26, 3) := by decide +kernel
theorem dJx2f0ea_reverseRange_ec627_8 : decode cJx2f0ea_reverseRange_ec627 8 = .ok (.aload_n 0, 1) := by decide +kernel
theorem dJx2f0ea_reverseRange_ec627_9 : decode cJx2f0ea_reverseRange_ec627 9 = .ok (.iload_n 1, 1) := by decide +kernel
theorem dJx2f0ea_reverseRange_ec627_10 : decode cJx2f0ea_reverseRange_ec627 10 = .ok (.aaload, 1) := by decide +kernel
theorem dJx2f0ea_reverseRange_ec627_11 : decode cJx2f0ea_reverseRange_ec627 11 = .ok (.astore_n 3, 1) := by decide +kernel
theorem dJx2f0ea_reverseRange_ec627_12 : decode cJx2f0ea_reverseRange_ec627 12 = .ok (.aload_n 0, 1) := by decide +kernel
theorem dJx2f0ea_reverseRange_ec627_13 : decode cJx2f0ea_reverseRange_ec627 13 = .ok (.iload_n 1, 1) := by decide +kernel
theorem dJx2f0ea_reverseRange_ec627_14 : decode cJx2f0ea_reverseRange_ec627 14 = .ok (.iinc 1 1, 3) := by decide +kernel
theorem dJx2f0ea_reverseRange_ec627_17 : decode cJx2f0ea_reverseRange_ec627 17 = .ok (.aload_n 0, 1) := by decide +kernel
theorem dJx2f0ea_reverseRange_ec627_18 : decode cJx2f0ea_reverseRange_ec627 18 = .ok (.iload_n 2, 1) := by decide +kernel
theorem dJx2f0ea_reverseRange_ec627_19 : decode cJx2f0ea_reverseRange_ec627 19 = .ok (.aaload, 1) := by decide +kernel
theorem dJx2f0ea_reverseRange_ec627_20 : decode cJx2f0ea_reverseRange_ec627 20 = .ok (.aastore, 1) := by decide +kernel
theorem dJx2f0ea_reverseRange_ec627_21 : decode cJx2f0ea_reverseRange_ec627 21 = .ok (.aload_n 0, 1) := by decide +kernel
theorem dJx2f0ea_reverseRange_ec627_22 : decode cJx2f0ea_reverseRange_ec627 22 = .ok (.iload_n 2, 1) := by decide +kernel
theorem dJx2f0ea_reverseRange_ec627_23 : decode cJx2f0ea_reverseRange_ec627 23 = .ok (.iinc 2 (-1), 3) := by decide +kernel
theorem dJx2f0ea_reverseRange_ec627_26 : decode cJx2f0ea_reverseRange_ec627 26 = .ok (.aload_n 3, 1) := by decide +kernel
theorem dJx2f0ea_reverseRange_ec627_27 : decode cJx2f0ea_reverseRange_ec627 27 = .ok (.aastore, 1) := by decide +kernel
theorem dJx2f0ea_reverseRange_ec627_28 : decode cJx2f0ea_reverseRange_ec627 28 = .ok (.goto (-25), 3) := by decide +kernel
theorem dJx2f0ea_reverseRange_ec627_31 : decode cJx2f0ea_reverseRange_ec627 31 = .ok (.return_, 1) := by decide +kernel
theorem dJ15_checkIndex_7cf53_0 : decode cJ15_checkIndex_7cf53 0 = .ok (.iload_n 0, 1) := by decide +kernel
theorem dJ15_checkIndex_7cf53_1 : decode cJ15_checkIndex_7cf53 1 = .ok (.iload_n 1, 1) := by decide +kernel
theorem dJ15_checkIndex_7cf53_2 : decode cJ15_checkIndex_7cf53 2 = .ok (.aconst_null, 1) := by decide +kernel
theorem dJ15_checkIndex_7cf53_3 : decode cJ15_checkIndex_7cf53 3 = .ok (.invokestatic 105, 3) := by decide +kernel
theorem dJ15_checkIndex_7cf53_6 : decode cJ15_checkIndex_7cf53 6 = .ok (.ireturn, 1) := by decide +kernel
