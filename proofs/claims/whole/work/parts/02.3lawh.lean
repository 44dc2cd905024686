theorem dJ6_bitCount_0f7a4_0 : decode cJ6_bitCount_0f7a4 0 = .ok (.iload_n 0, 1) := by decide +kernel
theorem dJ6_bitCount_0f7a4_1 : decode cJ6_bitCount_0f7a4 1 = .ok (.iload_n 0, 1) := by decide +kernel
theorem dJ6_bitCount_0f7a4_2 : decode cJ6_bitCount_0f7a4 2 = .ok (.iconst 1, 1) := by decide +kernel
theorem dJ6_bitCount_0f7a4_3 : decode cJ6_bitCount_0f7a4 3 = .ok (.iushr, 1) := by decide +kernel
theorem dJ6_bitCount_0f7a4_4 : decode cJ6_bitCount_0f7a4 4 = .ok (.ldc_w 265, 3) := by decide +kernel
theorem dJ6_bitCount_0f7a4_7 : decode cJ6_bitCount_0f7a4 7 = .ok (.iand, 1) := by decide +kernel
theorem dJ6_bitCount_0f7a4_8 : decode cJ6_bitCount_0f7a4 8 = .ok (.isub, 1) := by decide +kernel
theorem dJ6_bitCount_0f7a4_9 : decode cJ6_bitCount_0f7a4 9 = .ok (.istore_n 0, 1) := by decide +kernel
theorem dJ6_bitCount_0f7a4_10 : decode cJ6_bitCount_0f7a4 10 = .ok (.iload_n 0, 1) := by decide +kernel
theorem dJ6_bitCount_0f7a4_11 : decode cJ6_bitCount_0f7a4 11 = .ok (.ldc_w 266, 3) := by decide +kernel
theorem dJ6_bitCount_0f7a4_14 : decode cJ6_bitCount_0f7a4 14 = .ok (.iand, 1) := by decide +kernel
theorem dJ6_bitCount_0f7a4_15 : decode cJ6_bitCount_0f7a4 15 = .ok (.iload_n 0, 1) := by decide +kernel
theorem dJ6_bitCount_0f7a4_16 : decode cJ6_bitCount_0f7a4 16 = .ok (.iconst 2, 1) := by decide +kernel
theorem dJ6_bitCount_0f7a4_17 : decode cJ6_bitCount_0f7a4 17 = .ok (.iushr, 1) := by decide +kernel
theorem dJ6_bitCount_0f7a4_18 : decode cJ6_bitCount_0f7a4 18 = .ok (.ldc_w 266, 3) := by decide +kernel
theorem dJ6_bitCount_0f7a4_21 : decode cJ6_bitCount_0f7a4 21 = .ok (.iand, 1) := by decide +kernel
theorem dJ6_bitCount_0f7a4_22 : decode cJ6_bitCount_0f7a4 22 = .ok (.iadd, 1) := by decide +kernel
theorem dJ6_bitCount_0f7a4_23 : decode cJ6_bitCount_0f7a4 23 = .ok (.istore_n 0, 1) := by decide +kernel
theorem dJ6_bitCount_0f7a4_24 : decode cJ6_bitCount_0f7a4 24 = .ok (.iload_n 0, 1) := by decide +kernel
theorem dJ6_bitCount_0f7a4_25 : decode cJ6_bitCount_0f7a4 25 = .ok (.iload_n 0, 1) := by decide +kernel
theorem dJ6_bitCount_0f7a4_26 : decode cJ6_bitCount_0f7a4 26 = .ok (.iconst 4, 1) := by decide +kernel
theorem dJ6_bitCount_0f7a4_27 : decode cJ6_bitCount_0f7a4 27 = .ok (.iushr, 1) := by decide +kernel
theorem dJ6_bitCount_0f7a4_28 : decode cJ6_bitCount_0f7a4 28 = .ok (.iadd, 1) := by decide +kernel
theorem dJ6_bitCount_0f7a4_29 : decode cJ6_bitCount_0f7a4 29 = .ok (.ldc_w 267, 3) := by decide +kernel
theorem dJ6_bitCount_0f7a4_32 : decode cJ6_bitCount_0f7a4 32 = .ok (.iand, 1) := by decide +kernel
theorem dJ6_bitCount_0f7a4_33 : decode cJ6_bitCount_0f7a4 33 = .ok (.istore_n 0, 1) := by decide +kernel
theorem dJ6_bitCount_0f7a4_34 : decode cJ6_bitCount_0f7a4 34 = .ok (.iload_n 0, 1) := by decide +kernel
theorem dJ6_bitCount_0f7a4_35 : decode cJ6_bitCount_0f7a4 35 = .ok (.iload_n 0, 1) := by decide +kernel
theorem dJ6_bitCount_0f7a4_36 : decode cJ6_bitCount_0f7a4 36 = .ok (.bipush 8, 2) := by decide +kernel
theorem dJ6_bitCount_0f7a4_38 : decode cJ6_bitCount_0f7a4 38 = .ok (.iushr, 1) := by decide +kernel
theorem dJ6_bitCount_0f7a4_39 : decode cJ6_bitCount_0f7a4 39 = .ok (.iadd, 1) := by decide +kernel
theorem dJ6_bitCount_0f7a4_40 : decode cJ6_bitCount_0f7a4 40 = .ok (.istore_n 0, 1) := by decide +kernel
theorem dJ6_bitCount_0f7a4_41 : decode cJ6_bitCount_0f7a4 41 = .ok (.iload_n 0, 1) := by decide +kernel
theorem dJ6_bitCount_0f7a4_42 : decode cJ6_bitCount_0f7a4 42 = .ok (.iload_n 0, 1) := by decide +kernel
theorem dJ6_bitCount_0f7a4_43 : decode cJ6_bitCount_0f7a4 43 = .ok (.bipush 16, 2) := by decide +kernel
theorem dJ6_bitCount_0f7a4_45 : decode cJ6_bitCount_0f7a4 45 = .ok (.iushr, 1) := by decide +kernel
theorem dJ6_bitCount_0f7a4_46 : decode cJ6_bitCount_0f7a4 46 = .ok (.iadd, 1) := by decide +kernel
theorem dJ6_bitCount_0f7a4_47 : decode cJ6_bitCount_0f7a4 47 = .ok (.istore_n 0, 1) := by decide +kernel
theorem dJ6_bitCount_0f7a4_48 : decode cJ6_bitCount_0f7a4 48 = .ok (.iload_n 0, 1) := by decide +kernel
theorem dJ6_bitCount_0f7a4_49 : decode cJ6_bitCount_0f7a4 49 = .ok (.bipush 63, 2) := by decide +kernel
theorem dJ6_bitCount_0f7a4_51 : decode cJ6_bitCount_0f7a4 51 = .ok (.iand, 1) := by decide +kernel
theorem dJ6_bitCount_0f7a4_52 : decode cJ6_bitCount_0f7a4 52 = .ok (.ireturn, 1) := by decide +kernel
theorem dJ9_floorMod_7cf53_0 : decode cJ9_floorMod_7cf53 0 = .ok (.iload_n 0, 1) := by decide +kernel
theorem dJ9_floorMod_7cf53_1 : decode cJ9_floorMod_7cf53 1 = .ok (.iload_n 1, 1) := by decide +kernel
theorem dJ9_floorMod_7cf53_2 : decode cJ9_floorMod_7cf53 2 = .ok (.irem, 1) := by decide +kernel
theorem dJ9_floorMod_7cf53_3 : decode cJ9_floorMod_7cf53 3 = .ok (.istore_n 2, 1) := by decide +kernel
theorem dJ9_floorMod_7cf53_4 : decode cJ9_floorMod_7cf53 4 = .ok (.iload_n 0, 1) := by decide +kernel
theorem dJ9_floorMod_7cf53_5 : decode cJ9_floorMod_7cf53 5 = .ok (.iload_n 1, 1) := by decide +kernel
theorem dJ9_floorMod_7cf53_6 : decode cJ9_floorMod_7cf53 6 = .ok (.ixor, 1) := by decide +kernel
theorem dJ9_floorMod_7cf53_7 : decode cJ9_floorMod_7cf53 7 = .ok (.ifCond .ge 11, 3) := by decide +kernel
theorem dJ9_floorMod_7cf53_10 : decode cJ9_floorMod_7cf53 10 = .ok (.iload_n 2, 1) := by decide +kernel
theorem dJ9_floorMod_7cf53_11 : decode cJ9_floorMod_7cf53 11 = .ok (.ifCond .eq 7, 3) := by decide +kernel
theorem dJ9_floorMod_7cf53_14 : decode cJ9_floorMod_7cf53 14 = .ok (.iload_n 2, 1) := by decide +kernel
theorem dJ9_floorMod_7cf53_15 : decode cJ9_floorMod_7cf53 15 = .ok (.iload_n 1, 1) := by decide +kernel
theorem dJ9_floorMod_7cf53_16 : decode cJ9_floorMod_7cf53 16 = .ok (.iadd, 1) := by decide +kernel
theorem dJ9_floorMod_7cf53_17 : decode cJ9_floorMod_7cf53 17 = .ok (.ireturn, 1) := by decide +kernel
theorem dJ9_floorMod_7cf53_18 : decode cJ9_floorMod_7cf53 18 = .ok (.iload_n 2, 1) := by decide +kernel
theorem dJ9_floorMod_7cf53_19 : decode cJ9_floorMod_7cf53 19 = .ok (.ireturn, 1) := by decide +kernel
theorem dJ9_max_7cf53_0 : decode cJ9_max_7cf53 0 = .ok (.iload_n 0, 1) := by decide +kernel
theorem dJ9_max_7cf53_1 : decode cJ9_max_7cf53 1 = .ok (.iload_n 1, 1) := by decide +kernel
theorem dJ9_max_7cf53_2 : decode cJ9_max_7cf53 2 = .ok (.if_icmp .lt 7, 3) := by decide +kernel
theorem dJ9_max_7cf53_5 : decode cJ9_max_7cf53 5 = .ok (.iload_n 0, 1) := by decide +kernel
theorem dJ9_max_7cf53_6 : decode cJ9_max_7cf53 6 = .ok (.goto 4, 3) := by decide +kernel
theorem dJ9_max_7cf53_9 : decode cJ9_max_7cf53 9 = .ok (.iload_n 1, 1) := by decide +kernel
theorem dJ9_max_7cf53_10 : decode cJ9_max_7cf53 10 = .ok (.ireturn, 1) := by decide +kernel
theorem dJ9_min_7cf53_0 : decode cJ9_min_7cf53 0 = .ok (.iload_n 0, 1) := by decide +kernel
theorem dJ9_min_7cf53_1 : decode cJ9_min_7cf53 1 = .ok (.iload_n 1, 1) := by decide +kernel
theorem dJ9_min_7cf53_2 : decode cJ9_min_7cf53 2 = .ok (.if_icmp .gt 7, 3) := by decide +kernel
theorem dJ9_min_7cf53_5 : decode cJ9_min_7cf53 5 = .ok (.iload_n 0, 1) := by decide +kernel
theorem dJ9_min_7cf53_6 : decode cJ9_min_7cf53 6 = .ok (.goto 4, 3) := by decide +kernel
theorem dJ9_min_7cf53_9 : decode cJ9_min_7cf53 9 = .ok (.iload_n 1, 1) := by decide +kernel
theorem dJ9_min_7cf53_10 : decode cJ9_min_7cf53 10 = .ok (.ireturn, 1) := by decide +kernel
theorem dJxa1e45_init_da8c8_0 : decode cJxa1e45_init_da8c8 0 = .ok (.aload_n 0, 1) := by decide +kernel
theorem dJxa1e45_init_da8c8_1 : decode cJxa1e45_init_da8c8 1 = .ok (.invokespecial 1, 3) := by decide +kernel
theorem dJxa1e45_init_da8c8_4 : decode cJxa1e45_init_da8c8 4 = .ok (.return_, 1) := by decide +kernel
theorem dJxc12de_init_da8c8_0 : decode cJxc12de_init_da8c8 0 = .ok (.aload_n 0, 1) := by decide +kernel
theorem dJxc12de_init_da8c8_1 : decode cJxc12de_init_da8c8 1 = .ok (.invokespecial 1, 3) := by decide +kernel
theorem dJxc12de_init_da8c8_4 : decode cJxc12de_init_da8c8 4 = .ok (.aload_n 0, 1) := by decide +kernel
theorem dJxc12de_init_da8c8_5 : decode cJxc12de_init_da8c8 5 = .ok (.iconst 0, 1) := by decide +kernel
theorem dJxc12de_init_da8c8_6 : decode cJxc12de_init_da8c8 6 = .ok (.putfield 7, 3) := by decide +kernel
theorem dJxc12de_init_da8c8_9 : decode cJxc12de_init_da8c8 9 = .ok (.return_, 1) := by decide +kernel
theorem dJx4a65c_init_da8c8_0 : decode cJx4a65c_init_da8c8 0 = .ok (.aload_n 0, 1) := by decide +kernel
theorem dJx4a65c_init_da8c8_1 : decode cJx4a65c_init_da8c8 1 = .ok (.invokespecial 1, 3) := by decide +kernel
theorem dJx4a65c_init_da8c8_4 : decode cJx4a65c_init_da8c8 4 = .ok (.aload_n 0, 1) := by decide +kernel
theorem dJx4a65c_init_da8c8_5 : decode cJx4a65c_init_da8c8 5 = .ok (.getstatic 39, 3) := by decide +kernel
theorem dJx4a65c_init_da8c8_8 : decode cJx4a65c_init_da8c8 8 = .ok (.putfield 9, 3) := by decide +kernel
theorem dJx4a65c_init_da8c8_11 : decode cJx4a65c_init_da8c8 11 = .ok (.return_, 1) := by decide +kernel
theorem dJx4a65c_grow_92f84_0 : decode cJx4a65c_grow_92f84 0 = .ok (.aload_n 0, 1) := by decide +kernel
theorem dJx4a65c_grow_92f84_1 : decode cJx4a65c_grow_92f84 1 = .ok (.getfield 9, 3) := by decide +kernel
theorem dJx4a65c_grow_92f84_4 : decode cJx4a65c_grow_92f84 4 = .ok (.arraylength, 1) := by decide +kernel
theorem dJx4a65c_grow_92f84_5 : decode cJx4a65c_grow_92f84 5 = .ok (.istore_n 2, 1) := by decide +kernel
theorem dJx4a65c_grow_92f84_6 : decode cJx4a65c_grow_92f84 6 = .ok (.iload_n 2, 1) := by decide +kernel
theorem dJx4a65c_grow_92f84_7 : decode cJx4a65c_grow_92f84 7 = .ok (.ifCond .gt 13, 3) := by decide +kernel
theorem dJx4a65c_grow_92f84_10 : decode cJx4a65c_grow_92f84 10 = .ok (.aload_n 0, 1) := by decide +kernel
theorem dJx4a65c_grow_92f84_11 : decode cJx4a65c_grow_92f84 11 = .ok (.getfield 9, 3) := by decide +kernel
theorem dJx4a65c_grow_92f84_14 : decode cJx4a65c_grow_92f84 14 = .ok (.getstatic 39, 3) := by decide +kernel
theorem dJx4a65c_grow_92f84_17 : decode cJx4a65c_grow_92f84 17 = .ok (.if_acmp .eq 28, 3) := by decide +kernel
theorem dJx4a65c_grow_92f84_20 : decode cJx4a65c_grow_92f84 20 = .ok (.iload_n 2, 1) := by decide +kernel
theorem dJx4a65c_grow_92f84_21 : decode cJx4a65c_grow_92f84 21 = .ok (.iload_n 1, 1) := by decide +kernel
theorem dJx4a65c_grow_92f84_22 : decode cJx4a65c_grow_92f84 22 = .ok (.iload_n 2, 1) := by decide +kernel
theorem dJx4a65c_grow_92f84_23 : decode cJx4a65c_grow_92f84 23 = .ok (.isub, 1) := by decide +kernel
theorem dJx4a65c_grow_92f84_24 : decode cJx4a65c_grow_92f84 24 = .ok (.iload_n 2, 1) := by decide +kernel
theorem dJx4a65c_grow_92f84_25 : decode cJx4a65c_grow_92f84 25 = .ok (.iconst 1, 1) := by decide +kernel
theorem dJx4a65c_grow_92f84_26 : decode cJx4a65c_grow_92f84 26 = .ok (.ishr, 1) := by decide +kernel
theorem dJx4a65c_grow_92f84_27 : decode cJx4a65c_grow_92f84 27 = .ok (.invokestatic 73, 3) := by decide +kernel
theorem dJx4a65c_grow_92f84_30 : decode cJx4a65c_grow_92f84 30 = .ok (.istore_n 3, 1) := by decide +kernel
theorem dJx4a65c_grow_92f84_31 : decode cJx4a65c_grow_92f84 31 = .ok (.aload_n 0, 1) := by decide +kernel
theorem dJx4a65c_grow_92f84_32 : decode cJx4a65c_grow_92f84 32 = .ok (.aload_n 0, 1) := by decide +kernel
theorem dJx4a65c_grow_92f84_33 : decode cJx4a65c_grow_92f84 33 = .ok (.getfield 9, 3) := by decide +kernel
theorem dJx4a65c_grow_92f84_36 : decode cJx4a65c_grow_92f84 36 = .ok (.iload_n 3, 1) := by decide +kernel
theorem dJx4a65c_grow_92f84_37 : decode cJx4a65c_grow_92f84 37 = .ok (.invokestatic 66, 3) := by decide +kernel
theorem dJx4a65c_grow_92f84_40 : decode cJx4a65c_grow_92f84 40 = .ok (.dup_x1, 1) := by decide +kernel
theorem dJx4a65c_grow_92f84_41 : decode cJx4a65c_grow_92f84 41 = .ok (.putfield 9, 3) := by decide +kernel
theorem dJx4a65c_grow_92f84_44 : decode cJx4a65c_grow_92f84 44 = .ok (.areturn, 1) := by decide +kernel
theorem dJx4a65c_grow_92f84_45 : decode cJx4a65c_grow_92f84 45 = .ok (.aload_n 0, 1) := by decide +kernel
theorem dJx4a65c_grow_92f84_46 : decode cJx4a65c_grow_92f84 46 = .ok (.bipush 10, 2) := by decide +kernel
theorem dJx4a65c_grow_92f84_48 : decode cJx4a65c_grow_92f84 48 = .ok (.iload_n 1, 1) := by decide +kernel
theorem dJx4a65c_grow_92f84_49 : decode cJx4a65c_grow_92f84 49 = .ok (.invokestatic 79, 3) := by decide +kernel
theorem dJx4a65c_grow_92f84_52 : decode cJx4a65c_grow_92f84 52 = .ok (.anewarray 7, 3) := by decide +kernel
theorem dJx4a65c_grow_92f84_55 : decode cJx4a65c_grow_92f84 55 = .ok (.dup_x1, 1) := by decide +kernel
theorem dJx4a65c_grow_92f84_56 : decode cJx4a65c_grow_92f84 56 = .ok (.putfield 9, 3) := by decide +kernel
theorem dJx4a65c_grow_92f84_59 : decode cJx4a65c_grow_92f84 59 = .ok (.areturn, 1) := by decide +kernel
theorem dJx4a65c_grow_d5877_0 : decode cJx4a65c_grow_d5877 0 = .ok (.aload_n 0, 1) := by decide +kernel
theorem dJx4a65c_grow_d5877_1 : decode cJx4a65c_grow_d5877 1 = .ok (.aload_n 0, 1) := by decide +kernel
theorem dJx4a65c_grow_d5877_2 : decode cJx4a65c_grow_d5877 2 = .ok (.getfield 48, 3) := by decide +kernel
theorem dJx4a65c_grow_d5877_5 : decode cJx4a65c_grow_d5877 5 = .ok (.iconst 1, 1) := by decide +kernel
theorem dJx4a65c_grow_d5877_6 : decode cJx4a65c_grow_d5877 6 = .ok (.iadd, 1) := by decide +kernel
theorem dJx4a65c_grow_d5877_7 : decode cJx4a65c_grow_d5877 7 = .ok (.invokevirtual 69, 3) := by decide +kernel
theorem dJx4a65c_grow_d5877_10 : decode cJx4a65c_grow_d5877 10 = .ok (.areturn, 1) := by decide +kernel
theorem dJx4a65c_size_8abf5_0 : decode cJx4a65c_size_8abf5 0 = .ok (.aload_n 0, 1) := by decide +kernel
theorem dJx4a65c_size_8abf5_1 : decode cJx4a65c_size_8abf5 1 = .ok (.getfield 48, 3) := by decide +kernel
theorem dJx4a65c_size_8abf5_4 : decode cJx4a65c_size_8abf5 4 = .ok (.ireturn, 1) := by decide +kernel
theorem dJx4a65c_elementData_915e3_0 : decode cJx4a65c_elementData_915e3 0 = .ok (.aload_n 0, 1) := by decide +kernel
theorem dJx4a65c_elementData_915e3_1 : decode cJx4a65c_elementData_915e3 1 = .ok (.getfield 9, 3) := by decide +kernel
theorem dJx4a65c_elementData_915e3_4 : decode cJx4a65c_elementData_915e3 4 = .ok (.iload_n 1, 1) := by decide +kernel
theorem dJx4a65c_elementData_915e3_5 : decode cJx4a65c_elementData_915e3 5 = .ok (.aaload, 1) := by decide +kernel
theorem dJx4a65c_elementData_915e3_6 : decode cJx4a65c_elementData_915e3 6 = .ok (.areturn, 1) := by decide +kernel
theorem dJx4a65c_get_915e3_0 : decode cJx4a65c_get_915e3 0 = .ok (.iload_n 1, 1) := by decide +kernel
theorem dJx4a65c_get_915e3_1 : decode cJx4a65c_get_915e3 1 = .ok (.aload_n 0, 1) := by decide +kernel
theorem dJx4a65c_get_915e3_2 : decode cJx4a65c_get_915e3 2 = .ok (.getfield 48, 3) := by decide +kernel
theorem dJx4a65c_get_915e3_5 : decode cJx4a65c_get_915e3 5 = .ok (.invokestatic 118, 3) := by decide +kernel
theorem dJx4a65c_get_915e3_8 : decode cJx4a65c_get_915e3 8 = .ok (.pop, 1) := by decide +kernel
theorem dJx4a65c_get_915e3_9 : decode cJx4a65c_get_915e3 9 = .ok (.aload_n 0, 1) := by decide +kernel
theorem dJx4a65c_get_915e3_10 : decode cJx4a65c_get_915e3 10 = .ok (.iload_n 1, 1) := by decide +kernel
theorem dJx4a65c_get_915e3_11 : decode cJx4a65c_get_915e3 11 = .ok (.invokevirtual 123, 3) := by decide +kernel
theorem dJx4a65c_get_915e3_14 : decode cJx4a65c_get_915e3 14 = .ok (.areturn, 1) := by decide +kernel
theorem dJx4a65c_add_72be8_0 : decode cJx4a65c_add_72be8 0 = .ok (.iload_n 3, 1) := by decide +kernel
theorem dJx4a65c_add_72be8_1 : decode cJx4a65c_add_72be8 1 = .ok (.aload_n 2, 1) := by decide +kernel
theorem dJx4a65c_add_72be8_2 : decode cJx4a65c_add_72be8 2 = .ok (.arraylength, 1) := by decide +kernel
theorem dJx4a65c_add_72be8_3 : decode cJx4a65c_add_72be8 3 = .ok (.if_icmp .ne 8, 3) := by decide +kernel
theorem dJx4a65c_add_72be8_6 : decode cJx4a65c_add_72be8 6 = .ok (.aload_n 0, 1) := by decide +kernel
theorem dJx4a65c_add_72be8_7 : decode cJx4a65c_add_72be8 7 = .ok (.invokevirtual 129, 3) := by decide +kernel
theorem dJx4a65c_add_72be8_10 : decode cJx4a65c_add_72be8 10 = .ok (.astore_n 2, 1) := by decide +kernel
theorem dJx4a65c_add_72be8_11 : decode cJx4a65c_add_72be8 11 = .ok (.aload_n 2, 1) := by decide +kernel
theorem dJx4a65c_add_72be8_12 : decode cJx4a65c_add_72be8 12 = .ok (.iload_n 3, 1) := by decide +kernel
theorem dJx4a65c_add_72be8_13 : decode cJx4a65c_add_72be8 13 = .ok (.aload_n 1, 1) := by decide +kernel
theorem dJx4a65c_add_72be8_14 : decode cJx4a65c_add_72be8 14 = .ok (.aastore, 1) := by decide +kernel
theorem dJx4a65c_add_72be8_15 : decode cJx4a65c_add_72be8 15 = .ok (.aload_n 0, 1) := by decide +kernel
theorem dJx4a65c_add_72be8_16 : decode cJx4a65c_add_72be8 16 = .ok (.iload_n 3, 1) := by decide +kernel
theorem dJx4a65c_add_72be8_17 : decode cJx4a65c_add_72be8 17 = .ok (.iconst 1, 1) := by decide +kernel
theorem dJx4a65c_add_72be8_18 : decode cJx4a65c_add_72be8 18 = .ok (.iadd, 1) := by decide +kernel
theorem dJx4a65c_add_72be8_19 : decode cJx4a65c_add_72be8 19 = .ok (.putfield 48, 3) := by decide +kernel
theorem dJx4a65c_add_72be8_22 : decode cJx4a65c_add_72be8 22 = .ok (.return_, 1) := by decide +kernel
theorem dJx4a65c_add_9ea2d_0 : decode cJx4a65c_add_9ea2d 0 = .ok (.aload_n 0, 1) := by decide +kernel
theorem dJx4a65c_add_9ea2d_1 : decode cJx4a65c_add_9ea2d 1 = .ok (.dup, 1) := by decide +kernel
theorem dJx4a65c_add_9ea2d_2 : decode cJx4a65c_add_9ea2d 2 = .ok (.getfield 63, 3) := by decide +kernel
theorem dJx4a65c_add_9ea2d_5 : decode cJx4a65c_add_9ea2d 5 = .ok (.iconst 1, 1) := by decide +kernel
theorem dJx4a65c_add_9ea2d_6 : decode cJx4a65c_add_9ea2d 6 = .ok (.iadd, 1) := by decide +kernel
theorem dJx4a65c_add_9ea2d_7 : decode cJx4a65c_add_9ea2d 7 = .ok (.putfield 63, 3) := by decide +kernel
theorem dJx4a65c_add_9ea2d_10 : decode cJx4a65c_add_9ea2d 10 = .ok (.aload_n 0, 1) := by decide +kernel
theorem dJx4a65c_add_9ea2d_11 : decode cJx4a65c_add_9ea2d 11 = .ok (.aload_n 1, 1) := by decide +kernel
theorem dJx4a65c_add_9ea2d_12 : decode cJx4a65c_add_9ea2d 12 = .ok (.aload_n 0, 1) := by decide +kernel
theorem dJx4a65c_add_9ea2d_13 : decode cJx4a65c_add_9ea2d 13 = .ok (.getfield 9, 3) := by decide +kernel
theorem dJx4a65c_add_9ea2d_16 : decode cJx4a65c_add_9ea2d 16 = .ok (.aload_n 0, 1) := by decide +kernel
theorem dJx4a65c_add_9ea2d_17 : decode cJx4a65c_add_9ea2d 17 = .ok (.getfield 48, 3) := by decide +kernel
theorem dJx4a65c_add_9ea2d_20 : decode cJx4a65c_add_9ea2d 20 = .ok (.invokevirtual 131, 3) := by decide +kernel
theorem dJx4a65c_add_9ea2d_23 : decode cJx4a65c_add_9ea2d 23 = .ok (.iconst 1, 1) := by decide +kernel
theorem dJx4a65c_add_9ea2d_24 : decode cJx4a65c_add_9ea2d 24 = .ok (.ireturn, 1) := by decide +kernel
theorem dJ7_copyOf_1904c_0 : decode cJ7_copyOf_1904c 0 = .ok (.aload_n 0, 1) := by decide +kernel
theorem dJ7_copyOf_1904c_1 : decode cJ7_copyOf_1904c 1 = .ok (.iload_n 1, 1) := by decide +kernel
theorem dJ7_copyOf_1904c_2 : decode cJ7_copyOf_1904c 2 = .ok (.aload_n 0, 1) := by decide +kernel
theorem dJ7_copyOf_1904c_3 : decode cJ7_copyOf_1904c 3 = .ok (.invokevirtual 86, 3) := by decide +kernel
theorem dJ7_copyOf_1904c_6 : decode cJ7_copyOf_1904c 6 = .ok (.invokestatic 300, 3) := by decide +kernel
theorem dJ7_copyOf_1904c_9 : decode cJ7_copyOf_1904c 9 = .ok (.areturn, 1) := by decide +kernel
theorem dJ7_copyOf_6403c_0 : decode cJ7_copyOf_6403c 0 = .ok (.aload_n 2, 1) := by decide +kernel
theorem dJ7_copyOf_6403c_1 : decode cJ7_copyOf_6403c 1 = .ok (.ldc 110, 2) := by decide +kernel
theorem dJ7_copyOf_6403c_3 : decode cJ7_copyOf_6403c 3 = .ok (.if_acmp .ne 10, 3) := by decide +kernel
theorem dJ7_copyOf_6403c_6 : decode cJ7_copyOf_6403c 6 = .ok (.iload_n 1, 1) := by decide +kernel
theorem dJ7_copyOf_6403c_7 : decode cJ7_copyOf_6403c 7 = .ok (.anewarray 2, 3) := by decide +kernel
theorem dJ7_copyOf_6403c_10 : decode cJ7_copyOf_6403c 10 = .ok (.goto 14, 3) := by decide +kernel
theorem dJ7_copyOf_6403c_13 : decode cJ7_copyOf_6403c 13 = .ok (.aload_n 2, 1) := by decide +kernel
theorem dJ7_copyOf_6403c_14 : decode cJ7_copyOf_6403c 14 = .ok (.invokevirtual 90, 3) := by decide +kernel
theorem dJ7_copyOf_6403c_17 : decode cJ7_copyOf_6403c 17 = .ok (.iload_n 1, 1) := by decide +kernel
theorem dJ7_copyOf_6403c_18 : decode cJ7_copyOf_6403c 18 = .ok (.invokestatic 95, 3) := by decide +kernel
theorem dJ7_copyOf_6403c_21 : decode cJ7_copyOf_6403c 21 = .ok (.checkcast 110, 3) := by decide +kernel
theorem dJ7_copyOf_6403c_24 : decode cJ7_copyOf_6403c 24 = .ok (.astore_n 3, 1) := by decide +kernel
theorem dJ7_copyOf_6403c_25 : decode cJ7_copyOf_6403c 25 = .ok (.aload_n 0, 1) := by decide +kernel
theorem dJ7_copyOf_6403c_26 : decode cJ7_copyOf_6403c 26 = .ok (.iconst 0, 1) := by decide +kernel
theorem dJ7_copyOf_6403c_27 : decode cJ7_copyOf_6403c 27 = .ok (.aload_n 3, 1) := by decide +kernel
theorem dJ7_copyOf_6403c_28 : decode cJ7_copyOf_6403c 28 = .ok (.iconst 0, 1) := by decide +kernel
theorem dJ7_copyOf_6403c_29 : decode cJ7_copyOf_6403c 29 = .ok (.aload_n 0, 1) := by decide +kernel
theorem dJ7_copyOf_6403c_30 : decode cJ7_copyOf_6403c 30 = .ok (.arraylength, 1) := by decide +kernel
theorem dJ7_copyOf_6403c_31 : decode cJ7_copyOf_6403c 31 = .ok (.iload_n 1, 1) := by decide +kernel
theorem dJ7_copyOf_6403c_32 : decode cJ7_copyOf_6403c 32 = .ok (.invokestatic 304, 3) := by decide +kernel
theorem dJ7_copyOf_6403c_35 : decode cJ7_copyOf_6403c 35 = .ok (.invokestatic 150, 3) := by decide +kernel
theorem dJ7_copyOf_6403c_38 : decode cJ7_copyOf_6403c 38 = .ok (.aload_n 3, 1) := by decide +kernel
theorem dJ7_copyOf_6403c_39 : decode cJ7_copyOf_6403c 39 = .ok (.areturn, 1) := by decide +kernel
theorem dJ15_checkIndex_7cf53_0 : decode cJ15_checkIndex_7cf53 0 = .ok (.iload_n 0, 1) := by decide +kernel
theorem dJ15_checkIndex_7cf53_1 : decode cJ15_checkIndex_7cf53 1 = .ok (.iload_n 1, 1) := by decide +kernel
theorem dJ15_checkIndex_7cf53_2 : decode cJ15_checkIndex_7cf53 2 = .ok (.aconst_null, 1) := by decide +kernel
theorem dJ15_checkIndex_7cf53_3 : decode cJ15_checkIndex_7cf53 3 = .ok (.invokestatic 105, 3) := by decide +kernel
theorem dJ15_checkIndex_7cf53_6 : decode cJ15_checkIndex_7cf53 6 = .ok (.ireturn, 1) := by decide +kernel
theorem dJ8_newLength_cabcc_0 : decode cJ8_newLength_cabcc 0 = .ok (.iload_n 0, 1) := by decide +kernel
theorem dJ8_newLength_cabcc_1 : decode cJ8_newLength_cabcc 1 = .ok (.iload_n 1, 1) := by decide +kernel
theorem dJ8_newLength_cabcc_2 : decode cJ8_newLength_cabcc 2 = .ok (.iload_n 2, 1) := by decide +kernel
theorem dJ8_newLength_cabcc_3 : decode cJ8_newLength_cabcc 3 = .ok (.invokestatic 194, 3) := by decide +kernel
theorem dJ8_newLength_cabcc_6 : decode cJ8_newLength_cabcc 6 = .ok (.iadd, 1) := by decide +kernel
theorem dJ8_newLength_cabcc_7 : decode cJ8_newLength_cabcc 7 = .ok (.istore_n 3, 1) := by decide +kernel
theorem dJ8_newLength_cabcc_8 : decode cJ8_newLength_cabcc 8 = .ok (.iconst 0, 1) := by decide +kernel
theorem dJ8_newLength_cabcc_9 : decode cJ8_newLength_cabcc 9 = .ok (.iload_n 3, 1) := by decide +kernel
theorem dJ8_newLength_cabcc_10 : decode cJ8_newLength_cabcc 10 = .ok (.if_icmp .ge 11, 3) := by decide +kernel
theorem dJ8_newLength_cabcc_13 : decode cJ8_newLength_cabcc 13 = .ok (.iload_n 3, 1) := by decide +kernel
theorem dJ8_newLength_cabcc_14 : decode cJ8_newLength_cabcc 14 = .ok (.ldc 200, 2) := by decide +kernel
theorem dJ8_newLength_cabcc_16 : decode cJ8_newLength_cabcc 16 = .ok (.if_icmp .gt 5, 3) := by decide +kernel
theorem dJ8_newLength_cabcc_19 : decode cJ8_newLength_cabcc 19 = .ok (.iload_n 3, 1) := by decide +kernel
theorem dJ8_newLength_cabcc_20 : decode cJ8_newLength_cabcc 20 = .ok (.ireturn, 1) := by decide +kernel
theorem dJ8_newLength_cabcc_21 : decode cJ8_newLength_cabcc 21 = .ok (.iload_n 0, 1) := by decide +kernel
theorem dJ8_newLength_cabcc_22 : decode cJ8_newLength_cabcc 22 = .ok (.iload_n 1, 1) := by decide +kernel
theorem dJ8_newLength_cabcc_23 : decode cJ8_newLength_cabcc 23 = .ok (.invokestatic 201, 3) := by decide +kernel
theorem dJ8_newLength_cabcc_26 : decode cJ8_newLength_cabcc 26 = .ok (.ireturn, 1) := by decide +kernel
theorem dJ8_hugeLength_7cf53_0 : decode cJ8_hugeLength_7cf53 0 = .ok (.iload_n 0, 1) := by decide +kernel
theorem dJ8_hugeLength_7cf53_1 : decode cJ8_hugeLength_7cf53 1 = .ok (.iload_n 1, 1) := by decide +kernel
theorem dJ8_hugeLength_7cf53_2 : decode cJ8_hugeLength_7cf53 2 = .ok (.iadd, 1) := by decide +kernel
theorem dJ8_hugeLength_7cf53_3 : decode cJ8_hugeLength_7cf53 3 = .ok (.istore_n 2, 1) := by decide +kernel
theorem dJ8_hugeLength_7cf53_4 : decode cJ8_hugeLength_7cf53 4 = .ok (.iload_n 2, 1) := by decide +kernel
theorem dJ8_hugeLength_7cf53_5 : decode cJ8_hugeLength_7cf53 5 = .ok (.ifCond .ge 44, 3) := by decide +kernel
theorem dJ8_hugeLength_7cf53_8 : decode cJ8_hugeLength_7cf53 8 = .ok (.new 204, 3) := by decide +kernel
theorem dJ8_hugeLength_7cf53_11 : decode cJ8_hugeLength_7cf53 11 = .ok (.dup, 1) := by decide +kernel
theorem dJ8_hugeLength_7cf53_12 : decode cJ8_hugeLength_7cf53 12 = .ok (.new 89, 3) := by decide +kernel
theorem dJ8_hugeLength_7cf53_15 : decode cJ8_hugeLength_7cf53 15 = .ok (.dup, 1) := by decide +kernel
theorem dJ8_hugeLength_7cf53_16 : decode cJ8_hugeLength_7cf53 16 = .ok (.invokespecial 91, 3) := by decide +kernel
theorem dJ8_hugeLength_7cf53_19 : decode cJ8_hugeLength_7cf53 19 = .ok (.ldc 206, 2) := by decide +kernel
theorem dJ8_hugeLength_7cf53_21 : decode cJ8_hugeLength_7cf53 21 = .ok (.invokevirtual 94, 3) := by decide +kernel
theorem dJ8_hugeLength_7cf53_24 : decode cJ8_hugeLength_7cf53 24 = .ok (.iload_n 0, 1) := by decide +kernel
theorem dJ8_hugeLength_7cf53_25 : decode cJ8_hugeLength_7cf53 25 = .ok (.invokevirtual 98, 3) := by decide +kernel
theorem dJ8_hugeLength_7cf53_28 : decode cJ8_hugeLength_7cf53 28 = .ok (.ldc 208, 2) := by decide +kernel
theorem dJ8_hugeLength_7cf53_30 : decode cJ8_hugeLength_7cf53 30 = .ok (.invokevirtual 94, 3) := by decide +kernel
theorem dJ8_hugeLength_7cf53_33 : decode cJ8_hugeLength_7cf53 33 = .ok (.iload_n 1, 1) := by decide +kernel
theorem dJ8_hugeLength_7cf53_34 : decode cJ8_hugeLength_7cf53 34 = .ok (.invokevirtual 98, 3) := by decide +kernel
theorem dJ8_hugeLength_7cf53_37 : decode cJ8_hugeLength_7cf53 37 = .ok (.ldc 210, 2) := by decide +kernel
theorem dJ8_hugeLength_7cf53_39 : decode cJ8_hugeLength_7cf53 39 = .ok (.invokevirtual 94, 3) := by decide +kernel
theorem dJ8_hugeLength_7cf53_42 : decode cJ8_hugeLength_7cf53 42 = .ok (.invokevirtual 101, 3) := by decide +kernel
theorem dJ8_hugeLength_7cf53_45 : decode cJ8_hugeLength_7cf53 45 = .ok (.invokespecial 212, 3) := by decide +kernel
theorem dJ8_hugeLength_7cf53_48 : decode cJ8_hugeLength_7cf53 48 = .ok (.athrow, 1) := by decide +kernel
theorem dJ8_hugeLength_7cf53_49 : decode cJ8_hugeLength_7cf53 49 = .ok (.iload_n 2, 1) := by decide +kernel
theorem dJ8_hugeLength_7cf53_50 : decode cJ8_hugeLength_7cf53 50 = .ok (.ldc 200, 2) := by decide +kernel
theorem dJ8_hugeLength_7cf53_52 : decode cJ8_hugeLength_7cf53 52 = .ok (.if_icmp .gt 6, 3) := by decide +kernel
theorem dJ8_hugeLength_7cf53_55 : decode cJ8_hugeLength_7cf53 55 = .ok (.ldc 200, 2) := by decide +kernel
theorem dJ8_hugeLength_7cf53_57 : decode cJ8_hugeLength_7cf53 57 = .ok (.ireturn, 1) := by decide +kernel
theorem dJ8_hugeLength_7cf53_58 : decode cJ8_hugeLength_7cf53 58 = .ok (.iload_n 2, 1) := by decide +kernel
theorem dJ8_hugeLength_7cf53_59 : decode cJ8_hugeLength_7cf53 59 = .ok (.ireturn, 1) := by decide +kernel
theorem dJ3_checkIndex_8e157_0 : decode cJ3_checkIndex_8e157 0 = .ok (.iload_n 0, 1) := by decide +kernel
theorem dJ3_checkIndex_8e157_1 : decode cJ3_checkIndex_8e157 1 = .ok (.ifCond .lt 8, 3) := by decide +kernel
theorem dJ3_checkIndex_8e157_4 : decode cJ3_checkIndex_8e157 4 = .ok (.iload_n 0, 1) := by decide +kernel
theorem dJ3_checkIndex_8e157_5 : decode cJ3_checkIndex_8e157 5 = .ok (.iload_n 1, 1) := by decide +kernel
theorem dJ3_checkIndex_8e157_6 : decode cJ3_checkIndex_8e157 6 = .ok (.if_icmp .lt 10, 3) := by decide +kernel
theorem dJ3_checkIndex_8e157_9 : decode cJ3_checkIndex_8e157 9 = .ok (.aload_n 2, 1) := by decide +kernel
theorem dJ3_checkIndex_8e157_10 : decode cJ3_checkIndex_8e157 10 = .ok (.iload_n 0, 1) := by decide +kernel
theorem dJ3_checkIndex_8e157_11 : decode cJ3_checkIndex_8e157 11 = .ok (.iload_n 1, 1) := by decide +kernel
theorem dJ3_checkIndex_8e157_12 : decode cJ3_checkIndex_8e157 12 = .ok (.invokestatic 95, 3) := by decide +kernel
theorem dJ3_checkIndex_8e157_15 : decode cJ3_checkIndex_8e157 15 = .ok (.athrow, 1) := by decide +kernel
theorem dJ3_checkIndex_8e157_16 : decode cJ3_checkIndex_8e157 16 = .ok (.iload_n 0, 1) := by decide +kernel
theorem dJ3_checkIndex_8e157_17 : decode cJ3_checkIndex_8e157 17 = .ok (.ireturn, 1) := by decide +kernel
theorem dL_source_0 : decode cL_source 0 = .ok (.aload_n 2, 1) := by decide +kernel
theorem dL_source_1 : decode cL_source 1 = .ok (.iconst 0, 1) := by decide +kernel
theorem dL_source_2 : decode cL_source 2 = .ok (.aload_n 0, 1) := by decide +kernel
theorem dL_source_3 : decode cL_source 3 = .ok (.iload_n 1, 1) := by decide +kernel
theorem dL_source_4 : decode cL_source 4 = .ok (.invokevirtual 7, 3) := by decide +kernel
theorem dL_source_7 : decode cL_source 7 = .ok (.i2l, 1) := by decide +kernel
theorem dL_source_8 : decode cL_source 8 = .ok (.lastore, 1) := by decide +kernel
theorem dL_source_9 : decode cL_source 9 = .ok (.goto 9, 3) := by decide +kernel
theorem dL_source_12 : decode cL_source 12 = .ok (.astore_n 3, 1) := by decide +kernel
theorem dL_source_13 : decode cL_source 13 = .ok (.iconst 1, 1) := by decide +kernel
theorem dL_source_14 : decode cL_source 14 = .ok (.ireturn, 1) := by decide +kernel
theorem dL_source_15 : decode cL_source 15 = .ok (.astore_n 3, 1) := by decide +kernel
theorem dL_source_16 : decode cL_source 16 = .ok (.iconst 2, 1) := by decide +kernel
theorem dL_source_17 : decode cL_source 17 = .ok (.ireturn, 1) := by decide +kernel
theorem dL_source_18 : decode cL_source 18 = .ok (.iconst 0, 1) := by decide +kernel
theorem dL_source_19 : decode cL_source 19 = .ok (.ireturn, 1) := by decide +kernel
theorem dL_put_0 : decode cL_put 0 = .ok (.aload 4, 2) := by decide +kernel
theorem dL_put_2 : decode cL_put 2 = .ok (.iconst 0, 1) := by decide +kernel
theorem dL_put_3 : decode cL_put 3 = .ok (.aload_n 0, 1) := by decide +kernel
theorem dL_put_4 : decode cL_put 4 = .ok (.iload_n 1, 1) := by decide +kernel
theorem dL_put_5 : decode cL_put 5 = .ok (.iload_n 2, 1) := by decide +kernel
theorem dL_put_6 : decode cL_put 6 = .ok (.iload_n 3, 1) := by decide +kernel
theorem dL_put_7 : decode cL_put 7 = .ok (.invokevirtual 17, 3) := by decide +kernel
theorem dL_put_10 : decode cL_put 10 = .ok (.i2l, 1) := by decide +kernel
theorem dL_put_11 : decode cL_put 11 = .ok (.lastore, 1) := by decide +kernel
theorem dL_put_12 : decode cL_put 12 = .ok (.goto 11, 3) := by decide +kernel
theorem dL_put_15 : decode cL_put 15 = .ok (.astore 5, 2) := by decide +kernel
theorem dL_put_17 : decode cL_put 17 = .ok (.iconst 1, 1) := by decide +kernel
theorem dL_put_18 : decode cL_put 18 = .ok (.ireturn, 1) := by decide +kernel
theorem dL_put_19 : decode cL_put 19 = .ok (.astore 5, 2) := by decide +kernel
theorem dL_put_21 : decode cL_put 21 = .ok (.iconst 2, 1) := by decide +kernel
theorem dL_put_22 : decode cL_put 22 = .ok (.ireturn, 1) := by decide +kernel
theorem dL_put_23 : decode cL_put 23 = .ok (.iconst 0, 1) := by decide +kernel
theorem dL_put_24 : decode cL_put 24 = .ok (.ireturn, 1) := by decide +kernel
theorem dL_map_0 : decode cL_map 0 = .ok (.aload 4, 2) := by decide +kernel
theorem dL_map_2 : decode cL_map 2 = .ok (.iconst 0, 1) := by decide +kernel
theorem dL_map_3 : decode cL_map 3 = .ok (.aload_n 0, 1) := by decide +kernel
theorem dL_map_4 : decode cL_map 4 = .ok (.iload_n 1, 1) := by decide +kernel
theorem dL_map_5 : decode cL_map 5 = .ok (.iload_n 2, 1) := by decide +kernel
theorem dL_map_6 : decode cL_map 6 = .ok (.iload_n 3, 1) := by decide +kernel
theorem dL_map_7 : decode cL_map 7 = .ok (.invokevirtual 23, 3) := by decide +kernel
theorem dL_map_10 : decode cL_map 10 = .ok (.i2l, 1) := by decide +kernel
theorem dL_map_11 : decode cL_map 11 = .ok (.lastore, 1) := by decide +kernel
theorem dL_map_12 : decode cL_map 12 = .ok (.goto 15, 3) := by decide +kernel
theorem dL_map_15 : decode cL_map 15 = .ok (.astore 5, 2) := by decide +kernel
theorem dL_map_17 : decode cL_map 17 = .ok (.iconst 1, 1) := by decide +kernel
theorem dL_map_18 : decode cL_map 18 = .ok (.ireturn, 1) := by decide +kernel
theorem dL_map_19 : decode cL_map 19 = .ok (.astore 5, 2) := by decide +kernel
theorem dL_map_21 : decode cL_map 21 = .ok (.iconst 2, 1) := by decide +kernel
theorem dL_map_22 : decode cL_map 22 = .ok (.ireturn, 1) := by decide +kernel
theorem dL_map_23 : decode cL_map 23 = .ok (.astore 5, 2) := by decide +kernel
theorem dL_map_25 : decode cL_map 25 = .ok (.iconst 3, 1) := by decide +kernel
theorem dL_map_26 : decode cL_map 26 = .ok (.ireturn, 1) := by decide +kernel
theorem dL_map_27 : decode cL_map 27 = .ok (.iconst 0, 1) := by decide +kernel
theorem dL_map_28 : decode cL_map 28 = .ok (.ireturn, 1) := by decide +kernel
theorem dL_filter_0 : decode cL_filter 0 = .ok (.aload 4, 2) := by decide +kernel
theorem dL_filter_2 : decode cL_filter 2 = .ok (.iconst 0, 1) := by decide +kernel
theorem dL_filter_3 : decode cL_filter 3 = .ok (.aload_n 0, 1) := by decide +kernel
theorem dL_filter_4 : decode cL_filter 4 = .ok (.iload_n 1, 1) := by decide +kernel
theorem dL_filter_5 : decode cL_filter 5 = .ok (.iload_n 2, 1) := by decide +kernel
theorem dL_filter_6 : decode cL_filter 6 = .ok (.iload_n 3, 1) := by decide +kernel
theorem dL_filter_7 : decode cL_filter 7 = .ok (.invokevirtual 26, 3) := by decide +kernel
theorem dL_filter_10 : decode cL_filter 10 = .ok (.i2l, 1) := by decide +kernel
theorem dL_filter_11 : decode cL_filter 11 = .ok (.lastore, 1) := by decide +kernel
theorem dL_filter_12 : decode cL_filter 12 = .ok (.goto 11, 3) := by decide +kernel
theorem dL_filter_15 : decode cL_filter 15 = .ok (.astore 5, 2) := by decide +kernel
theorem dL_filter_17 : decode cL_filter 17 = .ok (.iconst 1, 1) := by decide +kernel
theorem dL_filter_18 : decode cL_filter 18 = .ok (.ireturn, 1) := by decide +kernel
theorem dL_filter_19 : decode cL_filter 19 = .ok (.astore 5, 2) := by decide +kernel
theorem dL_filter_21 : decode cL_filter 21 = .ok (.iconst 2, 1) := by decide +kernel
theorem dL_filter_22 : decode cL_filter 22 = .ok (.ireturn, 1) := by decide +kernel
theorem dL_filter_23 : decode cL_filter 23 = .ok (.iconst 0, 1) := by decide +kernel
theorem dL_filter_24 : decode cL_filter 24 = .ok (.ireturn, 1) := by decide +kernel
theorem dL_union_0 : decode cL_union 0 = .ok (.aload_n 3, 1) := by decide +kernel
theorem dL_union_1 : decode cL_union 1 = .ok (.iconst 0, 1) := by decide +kernel
theorem dL_union_2 : decode cL_union 2 = .ok (.aload_n 0, 1) := by decide +kernel
theorem dL_union_3 : decode cL_union 3 = .ok (.iload_n 1, 1) := by decide +kernel
theorem dL_union_4 : decode cL_union 4 = .ok (.iload_n 2, 1) := by decide +kernel
theorem dL_union_5 : decode cL_union 5 = .ok (.invokevirtual 29, 3) := by decide +kernel
theorem dL_union_8 : decode cL_union 8 = .ok (.i2l, 1) := by decide +kernel
theorem dL_union_9 : decode cL_union 9 = .ok (.lastore, 1) := by decide +kernel
theorem dL_union_10 : decode cL_union 10 = .ok (.goto 11, 3) := by decide +kernel
theorem dL_union_13 : decode cL_union 13 = .ok (.astore 4, 2) := by decide +kernel
theorem dL_union_15 : decode cL_union 15 = .ok (.iconst 1, 1) := by decide +kernel
theorem dL_union_16 : decode cL_union 16 = .ok (.ireturn, 1) := by decide +kernel
theorem dL_union_17 : decode cL_union 17 = .ok (.astore 4, 2) := by decide +kernel
theorem dL_union_19 : decode cL_union 19 = .ok (.iconst 2, 1) := by decide +kernel
theorem dL_union_20 : decode cL_union 20 = .ok (.ireturn, 1) := by decide +kernel
theorem dL_union_21 : decode cL_union 21 = .ok (.iconst 0, 1) := by decide +kernel
theorem dL_union_22 : decode cL_union 22 = .ok (.ireturn, 1) := by decide +kernel
theorem dL_group_0 : decode cL_group 0 = .ok (.aload 4, 2) := by decide +kernel
theorem dL_group_2 : decode cL_group 2 = .ok (.iconst 0, 1) := by decide +kernel
theorem dL_group_3 : decode cL_group 3 = .ok (.aload_n 0, 1) := by decide +kernel
theorem dL_group_4 : decode cL_group 4 = .ok (.iload_n 1, 1) := by decide +kernel
theorem dL_group_5 : decode cL_group 5 = .ok (.iload_n 2, 1) := by decide +kernel
theorem dL_group_6 : decode cL_group 6 = .ok (.iload_n 3, 1) := by decide +kernel
theorem dL_group_7 : decode cL_group 7 = .ok (.invokevirtual 33, 3) := by decide +kernel
theorem dL_group_10 : decode cL_group 10 = .ok (.i2l, 1) := by decide +kernel
theorem dL_group_11 : decode cL_group 11 = .ok (.lastore, 1) := by decide +kernel
theorem dL_group_12 : decode cL_group 12 = .ok (.goto 15, 3) := by decide +kernel
theorem dL_group_15 : decode cL_group 15 = .ok (.astore 5, 2) := by decide +kernel
theorem dL_group_17 : decode cL_group 17 = .ok (.iconst 1, 1) := by decide +kernel
theorem dL_group_18 : decode cL_group 18 = .ok (.ireturn, 1) := by decide +kernel
theorem dL_group_19 : decode cL_group 19 = .ok (.astore 5, 2) := by decide +kernel
theorem dL_group_21 : decode cL_group 21 = .ok (.iconst 2, 1) := by decide +kernel
theorem dL_group_22 : decode cL_group 22 = .ok (.ireturn, 1) := by decide +kernel
theorem dL_group_23 : decode cL_group 23 = .ok (.astore 5, 2) := by decide +kernel
theorem dL_group_25 : decode cL_group 25 = .ok (.iconst 3, 1) := by decide +kernel
theorem dL_group_26 : decode cL_group 26 = .ok (.ireturn, 1) := by decide +kernel
theorem dL_group_27 : decode cL_group 27 = .ok (.iconst 0, 1) := by decide +kernel
theorem dL_group_28 : decode cL_group 28 = .ok (.ireturn, 1) := by decide +kernel
theorem dL_join_0 : decode cL_join 0 = .ok (.aload 4, 2) := by decide +kernel
theorem dL_join_2 : decode cL_join 2 = .ok (.iconst 0, 1) := by decide +kernel
theorem dL_join_3 : decode cL_join 3 = .ok (.aload_n 0, 1) := by decide +kernel
theorem dL_join_4 : decode cL_join 4 = .ok (.iload_n 1, 1) := by decide +kernel
theorem dL_join_5 : decode cL_join 5 = .ok (.iload_n 2, 1) := by decide +kernel
theorem dL_join_6 : decode cL_join 6 = .ok (.iload_n 3, 1) := by decide +kernel
theorem dL_join_7 : decode cL_join 7 = .ok (.invokevirtual 36, 3) := by decide +kernel
theorem dL_join_10 : decode cL_join 10 = .ok (.i2l, 1) := by decide +kernel
theorem dL_join_11 : decode cL_join 11 = .ok (.lastore, 1) := by decide +kernel
theorem dL_join_12 : decode cL_join 12 = .ok (.goto 15, 3) := by decide +kernel
theorem dL_join_15 : decode cL_join 15 = .ok (.astore 5, 2) := by decide +kernel
theorem dL_join_17 : decode cL_join 17 = .ok (.iconst 1, 1) := by decide +kernel
theorem dL_join_18 : decode cL_join 18 = .ok (.ireturn, 1) := by decide +kernel
theorem dL_join_19 : decode cL_join 19 = .ok (.astore 5, 2) := by decide +kernel
theorem dL_join_21 : decode cL_join 21 = .ok (.iconst 2, 1) := by decide +kernel
theorem dL_join_22 : decode cL_join 22 = .ok (.ireturn, 1) := by decide +kernel
theorem dL_join_23 : decode cL_join 23 = .ok (.astore 5, 2) := by decide +kernel
theorem dL_join_25 : decode cL_join 25 = .ok (.iconst 3, 1) := by decide +kernel
theorem dL_join_26 : decode cL_join 26 = .ok (.ireturn, 1) := by decide +kernel
theorem dL_join_27 : decode cL_join 27 = .ok (.iconst 0, 1) := by decide +kernel
theorem dL_join_28 : decode cL_join 28 = .ok (.ireturn, 1) := by decide +kernel
theorem dL_partitions_0 : decode cL_partitions 0 = .ok (.aload_n 2, 1) := by decide +kernel
theorem dL_partitions_1 : decode cL_partitions 1 = .ok (.iconst 0, 1) := by decide +kernel
theorem dL_partitions_2 : decode cL_partitions 2 = .ok (.aload_n 0, 1) := by decide +kernel
theorem dL_partitions_3 : decode cL_partitions 3 = .ok (.iload_n 1, 1) := by decide +kernel
theorem dL_partitions_4 : decode cL_partitions 4 = .ok (.invokevirtual 39, 3) := by decide +kernel
theorem dL_partitions_7 : decode cL_partitions 7 = .ok (.i2l, 1) := by decide +kernel
theorem dL_partitions_8 : decode cL_partitions 8 = .ok (.lastore, 1) := by decide +kernel
theorem dL_partitions_9 : decode cL_partitions 9 = .ok (.goto 6, 3) := by decide +kernel
theorem dL_partitions_12 : decode cL_partitions 12 = .ok (.astore_n 3, 1) := by decide +kernel
theorem dL_partitions_13 : decode cL_partitions 13 = .ok (.iconst 1, 1) := by decide +kernel
theorem dL_partitions_14 : decode cL_partitions 14 = .ok (.ireturn, 1) := by decide +kernel
theorem dL_partitions_15 : decode cL_partitions 15 = .ok (.iconst 0, 1) := by decide +kernel
theorem dL_partitions_16 : decode cL_partitions 16 = .ok (.ireturn, 1) := by decide +kernel
theorem dL_rowsIn_0 : decode cL_rowsIn 0 = .ok (.aload_n 3, 1) := by decide +kernel
theorem dL_rowsIn_1 : decode cL_rowsIn 1 = .ok (.iconst 0, 1) := by decide +kernel
theorem dL_rowsIn_2 : decode cL_rowsIn 2 = .ok (.aload_n 0, 1) := by decide +kernel
theorem dL_rowsIn_3 : decode cL_rowsIn 3 = .ok (.iload_n 1, 1) := by decide +kernel
theorem dL_rowsIn_4 : decode cL_rowsIn 4 = .ok (.iload_n 2, 1) := by decide +kernel
theorem dL_rowsIn_5 : decode cL_rowsIn 5 = .ok (.invokevirtual 42, 3) := by decide +kernel
theorem dL_rowsIn_8 : decode cL_rowsIn 8 = .ok (.i2l, 1) := by decide +kernel
theorem dL_rowsIn_9 : decode cL_rowsIn 9 = .ok (.lastore, 1) := by decide +kernel
theorem dL_rowsIn_10 : decode cL_rowsIn 10 = .ok (.goto 7, 3) := by decide +kernel
theorem dL_rowsIn_13 : decode cL_rowsIn 13 = .ok (.astore 4, 2) := by decide +kernel
theorem dL_rowsIn_15 : decode cL_rowsIn 15 = .ok (.iconst 1, 1) := by decide +kernel
theorem dL_rowsIn_16 : decode cL_rowsIn 16 = .ok (.ireturn, 1) := by decide +kernel
theorem dL_rowsIn_17 : decode cL_rowsIn 17 = .ok (.iconst 0, 1) := by decide +kernel
theorem dL_rowsIn_18 : decode cL_rowsIn 18 = .ok (.ireturn, 1) := by decide +kernel
theorem dL_rows_0 : decode cL_rows 0 = .ok (.aload_n 2, 1) := by decide +kernel
theorem dL_rows_1 : decode cL_rows 1 = .ok (.iconst 0, 1) := by decide +kernel
theorem dL_rows_2 : decode cL_rows 2 = .ok (.aload_n 0, 1) := by decide +kernel
theorem dL_rows_3 : decode cL_rows 3 = .ok (.iload_n 1, 1) := by decide +kernel
theorem dL_rows_4 : decode cL_rows 4 = .ok (.invokevirtual 45, 3) := by decide +kernel
theorem dL_rows_7 : decode cL_rows 7 = .ok (.i2l, 1) := by decide +kernel
theorem dL_rows_8 : decode cL_rows 8 = .ok (.lastore, 1) := by decide +kernel
theorem dL_rows_9 : decode cL_rows 9 = .ok (.goto 6, 3) := by decide +kernel
theorem dL_rows_12 : decode cL_rows 12 = .ok (.astore_n 3, 1) := by decide +kernel
theorem dL_rows_13 : decode cL_rows 13 = .ok (.iconst 1, 1) := by decide +kernel
theorem dL_rows_14 : decode cL_rows 14 = .ok (.ireturn, 1) := by decide +kernel
theorem dL_rows_15 : decode cL_rows 15 = .ok (.iconst 0, 1) := by decide +kernel
theorem dL_rows_16 : decode cL_rows 16 = .ok (.ireturn, 1) := by decide +kernel
theorem dL_keyAt_0 : decode cL_keyAt 0 = .ok (.aload 4, 2) := by decide +kernel
theorem dL_keyAt_2 : decode cL_keyAt 2 = .ok (.iconst 0, 1) := by decide +kernel
theorem dL_keyAt_3 : decode cL_keyAt 3 = .ok (.aload_n 0, 1) := by decide +kernel
theorem dL_keyAt_4 : decode cL_keyAt 4 = .ok (.iload_n 1, 1) := by decide +kernel
theorem dL_keyAt_5 : decode cL_keyAt 5 = .ok (.iload_n 2, 1) := by decide +kernel
theorem dL_keyAt_6 : decode cL_keyAt 6 = .ok (.iload_n 3, 1) := by decide +kernel
theorem dL_keyAt_7 : decode cL_keyAt 7 = .ok (.invokevirtual 48, 3) := by decide +kernel
theorem dL_keyAt_10 : decode cL_keyAt 10 = .ok (.i2l, 1) := by decide +kernel
theorem dL_keyAt_11 : decode cL_keyAt 11 = .ok (.lastore, 1) := by decide +kernel
theorem dL_keyAt_12 : decode cL_keyAt 12 = .ok (.goto 7, 3) := by decide +kernel
theorem dL_keyAt_15 : decode cL_keyAt 15 = .ok (.astore 5, 2) := by decide +kernel
theorem dL_keyAt_17 : decode cL_keyAt 17 = .ok (.iconst 1, 1) := by decide +kernel
theorem dL_keyAt_18 : decode cL_keyAt 18 = .ok (.ireturn, 1) := by decide +kernel
theorem dL_keyAt_19 : decode cL_keyAt 19 = .ok (.iconst 0, 1) := by decide +kernel
theorem dL_keyAt_20 : decode cL_keyAt 20 = .ok (.ireturn, 1) := by decide +kernel
theorem dL_valueAt_0 : decode cL_valueAt 0 = .ok (.aload 4, 2) := by decide +kernel
theorem dL_valueAt_2 : decode cL_valueAt 2 = .ok (.iconst 0, 1) := by decide +kernel
theorem dL_valueAt_3 : decode cL_valueAt 3 = .ok (.aload_n 0, 1) := by decide +kernel
theorem dL_valueAt_4 : decode cL_valueAt 4 = .ok (.iload_n 1, 1) := by decide +kernel
theorem dL_valueAt_5 : decode cL_valueAt 5 = .ok (.iload_n 2, 1) := by decide +kernel
theorem dL_valueAt_6 : decode cL_valueAt 6 = .ok (.iload_n 3, 1) := by decide +kernel
theorem dL_valueAt_7 : decode cL_valueAt 7 = .ok (.invokevirtual 51, 3) := by decide +kernel
theorem dL_valueAt_10 : decode cL_valueAt 10 = .ok (.i2l, 1) := by decide +kernel
theorem dL_valueAt_11 : decode cL_valueAt 11 = .ok (.lastore, 1) := by decide +kernel
theorem dL_valueAt_12 : decode cL_valueAt 12 = .ok (.goto 7, 3) := by decide +kernel
theorem dL_valueAt_15 : decode cL_valueAt 15 = .ok (.astore 5, 2) := by decide +kernel
theorem dL_valueAt_17 : decode cL_valueAt 17 = .ok (.iconst 1, 1) := by decide +kernel
theorem dL_valueAt_18 : decode cL_valueAt 18 = .ok (.ireturn, 1) := by decide +kernel
theorem dL_valueAt_19 : decode cL_valueAt 19 = .ok (.iconst 0, 1) := by decide +kernel
theorem dL_valueAt_20 : decode cL_valueAt 20 = .ok (.ireturn, 1) := by decide +kernel
theorem dL_isBroad_0 : decode cL_isBroad 0 = .ok (.aload_n 2, 1) := by decide +kernel
theorem dL_isBroad_1 : decode cL_isBroad 1 = .ok (.iconst 0, 1) := by decide +kernel
theorem dL_isBroad_2 : decode cL_isBroad 2 = .ok (.aload_n 0, 1) := by decide +kernel
theorem dL_isBroad_3 : decode cL_isBroad 3 = .ok (.iload_n 1, 1) := by decide +kernel
theorem dL_isBroad_4 : decode cL_isBroad 4 = .ok (.invokevirtual 54, 3) := by decide +kernel
theorem dL_isBroad_7 : decode cL_isBroad 7 = .ok (.ifCond .eq 7, 3) := by decide +kernel
theorem dL_isBroad_10 : decode cL_isBroad 10 = .ok (.lconst 1, 1) := by decide +kernel
theorem dL_isBroad_11 : decode cL_isBroad 11 = .ok (.goto 4, 3) := by decide +kernel
theorem dL_isBroad_14 : decode cL_isBroad 14 = .ok (.lconst 0, 1) := by decide +kernel
theorem dL_isBroad_15 : decode cL_isBroad 15 = .ok (.lastore, 1) := by decide +kernel
theorem dL_isBroad_16 : decode cL_isBroad 16 = .ok (.goto 9, 3) := by decide +kernel
theorem dL_isBroad_19 : decode cL_isBroad 19 = .ok (.astore_n 3, 1) := by decide +kernel
theorem dL_isBroad_20 : decode cL_isBroad 20 = .ok (.iconst 1, 1) := by decide +kernel
theorem dL_isBroad_21 : decode cL_isBroad 21 = .ok (.ireturn, 1) := by decide +kernel
theorem dL_isBroad_22 : decode cL_isBroad 22 = .ok (.astore_n 3, 1) := by decide +kernel
theorem dL_isBroad_23 : decode cL_isBroad 23 = .ok (.iconst 2, 1) := by decide +kernel
theorem dL_isBroad_24 : decode cL_isBroad 24 = .ok (.ireturn, 1) := by decide +kernel
theorem dL_isBroad_25 : decode cL_isBroad 25 = .ok (.iconst 0, 1) := by decide +kernel
theorem dL_isBroad_26 : decode cL_isBroad 26 = .ok (.ireturn, 1) := by decide +kernel
theorem dL_digest_0 : decode cL_digest 0 = .ok (.aload_n 2, 1) := by decide +kernel
theorem dL_digest_1 : decode cL_digest 1 = .ok (.iconst 0, 1) := by decide +kernel
theorem dL_digest_2 : decode cL_digest 2 = .ok (.aload_n 0, 1) := by decide +kernel
theorem dL_digest_3 : decode cL_digest 3 = .ok (.iload_n 1, 1) := by decide +kernel
theorem dL_digest_4 : decode cL_digest 4 = .ok (.invokevirtual 58, 3) := by decide +kernel
theorem dL_digest_7 : decode cL_digest 7 = .ok (.i2l, 1) := by decide +kernel
theorem dL_digest_8 : decode cL_digest 8 = .ok (.lastore, 1) := by decide +kernel
theorem dL_digest_9 : decode cL_digest 9 = .ok (.goto 6, 3) := by decide +kernel
theorem dL_digest_12 : decode cL_digest 12 = .ok (.astore_n 3, 1) := by decide +kernel
theorem dL_digest_13 : decode cL_digest 13 = .ok (.iconst 1, 1) := by decide +kernel
theorem dL_digest_14 : decode cL_digest 14 = .ok (.ireturn, 1) := by decide +kernel
theorem dL_digest_15 : decode cL_digest 15 = .ok (.iconst 0, 1) := by decide +kernel
theorem dL_digest_16 : decode cL_digest 16 = .ok (.ireturn, 1) := by decide +kernel
theorem dL_digestInPlace_0 : decode cL_digestInPlace 0 = .ok (.aload_n 2, 1) := by decide +kernel
theorem dL_digestInPlace_1 : decode cL_digestInPlace 1 = .ok (.iconst 0, 1) := by decide +kernel
theorem dL_digestInPlace_2 : decode cL_digestInPlace 2 = .ok (.aload_n 0, 1) := by decide +kernel
theorem dL_digestInPlace_3 : decode cL_digestInPlace 3 = .ok (.iload_n 1, 1) := by decide +kernel
theorem dL_digestInPlace_4 : decode cL_digestInPlace 4 = .ok (.invokevirtual 61, 3) := by decide +kernel
theorem dL_digestInPlace_7 : decode cL_digestInPlace 7 = .ok (.i2l, 1) := by decide +kernel
theorem dL_digestInPlace_8 : decode cL_digestInPlace 8 = .ok (.lastore, 1) := by decide +kernel
theorem dL_digestInPlace_9 : decode cL_digestInPlace 9 = .ok (.goto 6, 3) := by decide +kernel
theorem dL_digestInPlace_12 : decode cL_digestInPlace 12 = .ok (.astore_n 3, 1) := by decide +kernel
theorem dL_digestInPlace_13 : decode cL_digestInPlace 13 = .ok (.iconst 1, 1) := by decide +kernel
theorem dL_digestInPlace_14 : decode cL_digestInPlace 14 = .ok (.ireturn, 1) := by decide +kernel
theorem dL_digestInPlace_15 : decode cL_digestInPlace 15 = .ok (.iconst 0, 1) := by decide +kernel
theorem dL_digestInPlace_16 : decode cL_digestInPlace 16 = .ok (.ireturn, 1) := by decide +kernel
theorem dL_setWorkers_0 : decode cL_setWorkers 0 = .ok (.aload_n 2, 1) := by decide +kernel
theorem dL_setWorkers_1 : decode cL_setWorkers 1 = .ok (.iconst 0, 1) := by decide +kernel
theorem dL_setWorkers_2 : decode cL_setWorkers 2 = .ok (.aload_n 0, 1) := by decide +kernel
theorem dL_setWorkers_3 : decode cL_setWorkers 3 = .ok (.iload_n 1, 1) := by decide +kernel
theorem dL_setWorkers_4 : decode cL_setWorkers 4 = .ok (.invokevirtual 64, 3) := by decide +kernel
theorem dL_setWorkers_7 : decode cL_setWorkers 7 = .ok (.i2l, 1) := by decide +kernel
theorem dL_setWorkers_8 : decode cL_setWorkers 8 = .ok (.lastore, 1) := by decide +kernel
theorem dL_setWorkers_9 : decode cL_setWorkers 9 = .ok (.goto 6, 3) := by decide +kernel
theorem dL_setWorkers_12 : decode cL_setWorkers 12 = .ok (.astore_n 3, 1) := by decide +kernel
theorem dL_setWorkers_13 : decode cL_setWorkers 13 = .ok (.iconst 1, 1) := by decide +kernel
theorem dL_setWorkers_14 : decode cL_setWorkers 14 = .ok (.ireturn, 1) := by decide +kernel
theorem dL_setWorkers_15 : decode cL_setWorkers 15 = .ok (.iconst 0, 1) := by decide +kernel
theorem dL_setWorkers_16 : decode cL_setWorkers 16 = .ok (.ireturn, 1) := by decide +kernel
theorem dL_setSlowness_0 : decode cL_setSlowness 0 = .ok (.aload_n 3, 1) := by decide +kernel
theorem dL_setSlowness_1 : decode cL_setSlowness 1 = .ok (.iconst 0, 1) := by decide +kernel
theorem dL_setSlowness_2 : decode cL_setSlowness 2 = .ok (.aload_n 0, 1) := by decide +kernel
theorem dL_setSlowness_3 : decode cL_setSlowness 3 = .ok (.iload_n 1, 1) := by decide +kernel
theorem dL_setSlowness_4 : decode cL_setSlowness 4 = .ok (.iload_n 2, 1) := by decide +kernel
theorem dL_setSlowness_5 : decode cL_setSlowness 5 = .ok (.invokevirtual 67, 3) := by decide +kernel
theorem dL_setSlowness_8 : decode cL_setSlowness 8 = .ok (.i2l, 1) := by decide +kernel
theorem dL_setSlowness_9 : decode cL_setSlowness 9 = .ok (.lastore, 1) := by decide +kernel
theorem dL_setSlowness_10 : decode cL_setSlowness 10 = .ok (.goto 11, 3) := by decide +kernel
theorem dL_setSlowness_13 : decode cL_setSlowness 13 = .ok (.astore 4, 2) := by decide +kernel
theorem dL_setSlowness_15 : decode cL_setSlowness 15 = .ok (.iconst 1, 1) := by decide +kernel
theorem dL_setSlowness_16 : decode cL_setSlowness 16 = .ok (.ireturn, 1) := by decide +kernel
theorem dL_setSlowness_17 : decode cL_setSlowness 17 = .ok (.astore 4, 2) := by decide +kernel
theorem dL_setSlowness_19 : decode cL_setSlowness 19 = .ok (.iconst 2, 1) := by decide +kernel
theorem dL_setSlowness_20 : decode cL_setSlowness 20 = .ok (.ireturn, 1) := by decide +kernel
theorem dL_setSlowness_21 : decode cL_setSlowness 21 = .ok (.iconst 0, 1) := by decide +kernel
theorem dL_setSlowness_22 : decode cL_setSlowness 22 = .ok (.ireturn, 1) := by decide +kernel
theorem dL_setMemory_0 : decode cL_setMemory 0 = .ok (.aload_n 2, 1) := by decide +kernel
theorem dL_setMemory_1 : decode cL_setMemory 1 = .ok (.iconst 0, 1) := by decide +kernel
theorem dL_setMemory_2 : decode cL_setMemory 2 = .ok (.aload_n 0, 1) := by decide +kernel
theorem dL_setMemory_3 : decode cL_setMemory 3 = .ok (.iload_n 1, 1) := by decide +kernel
theorem dL_setMemory_4 : decode cL_setMemory 4 = .ok (.invokevirtual 70, 3) := by decide +kernel
theorem dL_setMemory_7 : decode cL_setMemory 7 = .ok (.i2l, 1) := by decide +kernel
theorem dL_setMemory_8 : decode cL_setMemory 8 = .ok (.lastore, 1) := by decide +kernel
theorem dL_setMemory_9 : decode cL_setMemory 9 = .ok (.goto 6, 3) := by decide +kernel
theorem dL_setMemory_12 : decode cL_setMemory 12 = .ok (.astore_n 3, 1) := by decide +kernel
theorem dL_setMemory_13 : decode cL_setMemory 13 = .ok (.iconst 1, 1) := by decide +kernel
theorem dL_setMemory_14 : decode cL_setMemory 14 = .ok (.ireturn, 1) := by decide +kernel
theorem dL_setMemory_15 : decode cL_setMemory 15 = .ok (.iconst 0, 1) := by decide +kernel
theorem dL_setMemory_16 : decode cL_setMemory 16 = .ok (.ireturn, 1) := by decide +kernel
theorem dL_setLimit_0 : decode cL_setLimit 0 = .ok (.aload_n 2, 1) := by decide +kernel
theorem dL_setLimit_1 : decode cL_setLimit 1 = .ok (.iconst 0, 1) := by decide +kernel
theorem dL_setLimit_2 : decode cL_setLimit 2 = .ok (.aload_n 0, 1) := by decide +kernel
theorem dL_setLimit_3 : decode cL_setLimit 3 = .ok (.iload_n 1, 1) := by decide +kernel
theorem dL_setLimit_4 : decode cL_setLimit 4 = .ok (.invokevirtual 73, 3) := by decide +kernel
theorem dL_setLimit_7 : decode cL_setLimit 7 = .ok (.i2l, 1) := by decide +kernel
theorem dL_setLimit_8 : decode cL_setLimit 8 = .ok (.lastore, 1) := by decide +kernel
theorem dL_setLimit_9 : decode cL_setLimit 9 = .ok (.goto 6, 3) := by decide +kernel
theorem dL_setLimit_12 : decode cL_setLimit 12 = .ok (.astore_n 3, 1) := by decide +kernel
theorem dL_setLimit_13 : decode cL_setLimit 13 = .ok (.iconst 1, 1) := by decide +kernel
theorem dL_setLimit_14 : decode cL_setLimit 14 = .ok (.ireturn, 1) := by decide +kernel
theorem dL_setLimit_15 : decode cL_setLimit 15 = .ok (.iconst 0, 1) := by decide +kernel
theorem dL_setLimit_16 : decode cL_setLimit 16 = .ok (.ireturn, 1) := by decide +kernel
theorem dL_setRoom_0 : decode cL_setRoom 0 = .ok (.aload_n 2, 1) := by decide +kernel
theorem dL_setRoom_1 : decode cL_setRoom 1 = .ok (.iconst 0, 1) := by decide +kernel
theorem dL_setRoom_2 : decode cL_setRoom 2 = .ok (.aload_n 0, 1) := by decide +kernel
theorem dL_setRoom_3 : decode cL_setRoom 3 = .ok (.iload_n 1, 1) := by decide +kernel
theorem dL_setRoom_4 : decode cL_setRoom 4 = .ok (.invokevirtual 76, 3) := by decide +kernel
theorem dL_setRoom_7 : decode cL_setRoom 7 = .ok (.i2l, 1) := by decide +kernel
theorem dL_setRoom_8 : decode cL_setRoom 8 = .ok (.lastore, 1) := by decide +kernel
theorem dL_setRoom_9 : decode cL_setRoom 9 = .ok (.goto 6, 3) := by decide +kernel
theorem dL_setRoom_12 : decode cL_setRoom 12 = .ok (.astore_n 3, 1) := by decide +kernel
theorem dL_setRoom_13 : decode cL_setRoom 13 = .ok (.iconst 1, 1) := by decide +kernel
theorem dL_setRoom_14 : decode cL_setRoom 14 = .ok (.ireturn, 1) := by decide +kernel
theorem dL_setRoom_15 : decode cL_setRoom 15 = .ok (.iconst 0, 1) := by decide +kernel
theorem dL_setRoom_16 : decode cL_setRoom 16 = .ok (.ireturn, 1) := by decide +kernel
theorem dL_mark_0 : decode cL_mark 0 = .ok (.aload_n 3, 1) := by decide +kernel
theorem dL_mark_1 : decode cL_mark 1 = .ok (.iconst 0, 1) := by decide +kernel
theorem dL_mark_2 : decode cL_mark 2 = .ok (.aload_n 0, 1) := by decide +kernel
theorem dL_mark_3 : decode cL_mark 3 = .ok (.iload_n 1, 1) := by decide +kernel
theorem dL_mark_4 : decode cL_mark 4 = .ok (.iload_n 2, 1) := by decide +kernel
theorem dL_mark_5 : decode cL_mark 5 = .ok (.invokevirtual 79, 3) := by decide +kernel
theorem dL_mark_8 : decode cL_mark 8 = .ok (.ifCond .eq 7, 3) := by decide +kernel
theorem dL_mark_11 : decode cL_mark 11 = .ok (.lconst 1, 1) := by decide +kernel
theorem dL_mark_12 : decode cL_mark 12 = .ok (.goto 4, 3) := by decide +kernel
theorem dL_mark_15 : decode cL_mark 15 = .ok (.lconst 0, 1) := by decide +kernel
theorem dL_mark_16 : decode cL_mark 16 = .ok (.lastore, 1) := by decide +kernel
theorem dL_mark_17 : decode cL_mark 17 = .ok (.goto 7, 3) := by decide +kernel
theorem dL_mark_20 : decode cL_mark 20 = .ok (.astore 4, 2) := by decide +kernel
theorem dL_mark_22 : decode cL_mark 22 = .ok (.iconst 1, 1) := by decide +kernel
theorem dL_mark_23 : decode cL_mark 23 = .ok (.ireturn, 1) := by decide +kernel
theorem dL_mark_24 : decode cL_mark 24 = .ok (.iconst 0, 1) := by decide +kernel
theorem dL_mark_25 : decode cL_mark 25 = .ok (.ireturn, 1) := by decide +kernel
theorem dL_isCached_0 : decode cL_isCached 0 = .ok (.aload_n 2, 1) := by decide +kernel
theorem dL_isCached_1 : decode cL_isCached 1 = .ok (.iconst 0, 1) := by decide +kernel
theorem dL_isCached_2 : decode cL_isCached 2 = .ok (.aload_n 0, 1) := by decide +kernel
theorem dL_isCached_3 : decode cL_isCached 3 = .ok (.iload_n 1, 1) := by decide +kernel
theorem dL_isCached_4 : decode cL_isCached 4 = .ok (.invokevirtual 83, 3) := by decide +kernel
theorem dL_isCached_7 : decode cL_isCached 7 = .ok (.ifCond .eq 7, 3) := by decide +kernel
theorem dL_isCached_10 : decode cL_isCached 10 = .ok (.lconst 1, 1) := by decide +kernel
theorem dL_isCached_11 : decode cL_isCached 11 = .ok (.goto 4, 3) := by decide +kernel
theorem dL_isCached_14 : decode cL_isCached 14 = .ok (.lconst 0, 1) := by decide +kernel
theorem dL_isCached_15 : decode cL_isCached 15 = .ok (.lastore, 1) := by decide +kernel
theorem dL_isCached_16 : decode cL_isCached 16 = .ok (.goto 6, 3) := by decide +kernel
theorem dL_isCached_19 : decode cL_isCached 19 = .ok (.astore_n 3, 1) := by decide +kernel
theorem dL_isCached_20 : decode cL_isCached 20 = .ok (.iconst 1, 1) := by decide +kernel
theorem dL_isCached_21 : decode cL_isCached 21 = .ok (.ireturn, 1) := by decide +kernel
theorem dL_isCached_22 : decode cL_isCached 22 = .ok (.iconst 0, 1) := by decide +kernel
theorem dL_isCached_23 : decode cL_isCached 23 = .ok (.ireturn, 1) := by decide +kernel
theorem dL_stages_0 : decode cL_stages 0 = .ok (.aload_n 2, 1) := by decide +kernel
theorem dL_stages_1 : decode cL_stages 1 = .ok (.iconst 0, 1) := by decide +kernel
theorem dL_stages_2 : decode cL_stages 2 = .ok (.aload_n 0, 1) := by decide +kernel
theorem dL_stages_3 : decode cL_stages 3 = .ok (.iload_n 1, 1) := by decide +kernel
theorem dL_stages_4 : decode cL_stages 4 = .ok (.invokevirtual 86, 3) := by decide +kernel
theorem dL_stages_7 : decode cL_stages 7 = .ok (.i2l, 1) := by decide +kernel
theorem dL_stages_8 : decode cL_stages 8 = .ok (.lastore, 1) := by decide +kernel
theorem dL_stages_9 : decode cL_stages 9 = .ok (.goto 6, 3) := by decide +kernel
theorem dL_stages_12 : decode cL_stages 12 = .ok (.astore_n 3, 1) := by decide +kernel
theorem dL_stages_13 : decode cL_stages 13 = .ok (.iconst 1, 1) := by decide +kernel
theorem dL_stages_14 : decode cL_stages 14 = .ok (.ireturn, 1) := by decide +kernel
theorem dL_stages_15 : decode cL_stages 15 = .ok (.iconst 0, 1) := by decide +kernel
theorem dL_stages_16 : decode cL_stages 16 = .ok (.ireturn, 1) := by decide +kernel
theorem dL_outputOf_0 : decode cL_outputOf 0 = .ok (.aload_n 3, 1) := by decide +kernel
theorem dL_outputOf_1 : decode cL_outputOf 1 = .ok (.iconst 0, 1) := by decide +kernel
theorem dL_outputOf_2 : decode cL_outputOf 2 = .ok (.aload_n 0, 1) := by decide +kernel
theorem dL_outputOf_3 : decode cL_outputOf 3 = .ok (.iload_n 1, 1) := by decide +kernel
theorem dL_outputOf_4 : decode cL_outputOf 4 = .ok (.iload_n 2, 1) := by decide +kernel
theorem dL_outputOf_5 : decode cL_outputOf 5 = .ok (.invokevirtual 89, 3) := by decide +kernel
theorem dL_outputOf_8 : decode cL_outputOf 8 = .ok (.i2l, 1) := by decide +kernel
theorem dL_outputOf_9 : decode cL_outputOf 9 = .ok (.lastore, 1) := by decide +kernel
theorem dL_outputOf_10 : decode cL_outputOf 10 = .ok (.goto 7, 3) := by decide +kernel
theorem dL_outputOf_13 : decode cL_outputOf 13 = .ok (.astore 4, 2) := by decide +kernel
theorem dL_outputOf_15 : decode cL_outputOf 15 = .ok (.iconst 1, 1) := by decide +kernel
theorem dL_outputOf_16 : decode cL_outputOf 16 = .ok (.ireturn, 1) := by decide +kernel
theorem dL_outputOf_17 : decode cL_outputOf 17 = .ok (.iconst 0, 1) := by decide +kernel
theorem dL_outputOf_18 : decode cL_outputOf 18 = .ok (.ireturn, 1) := by decide +kernel
theorem dL_run_0 : decode cL_run 0 = .ok (.aload_n 2, 1) := by decide +kernel
theorem dL_run_1 : decode cL_run 1 = .ok (.iconst 0, 1) := by decide +kernel
theorem dL_run_2 : decode cL_run 2 = .ok (.aload_n 0, 1) := by decide +kernel
theorem dL_run_3 : decode cL_run 3 = .ok (.iload_n 1, 1) := by decide +kernel
theorem dL_run_4 : decode cL_run 4 = .ok (.invokevirtual 92, 3) := by decide +kernel
theorem dL_run_7 : decode cL_run 7 = .ok (.i2l, 1) := by decide +kernel
theorem dL_run_8 : decode cL_run 8 = .ok (.lastore, 1) := by decide +kernel
theorem dL_run_9 : decode cL_run 9 = .ok (.goto 6, 3) := by decide +kernel
theorem dL_run_12 : decode cL_run 12 = .ok (.astore_n 3, 1) := by decide +kernel
theorem dL_run_13 : decode cL_run 13 = .ok (.iconst 1, 1) := by decide +kernel
theorem dL_run_14 : decode cL_run 14 = .ok (.ireturn, 1) := by decide +kernel
theorem dL_run_15 : decode cL_run 15 = .ok (.iconst 0, 1) := by decide +kernel
theorem dL_run_16 : decode cL_run 16 = .ok (.ireturn, 1) := by decide +kernel
theorem dL_nodeOf_0 : decode cL_nodeOf 0 = .ok (.aload_n 2, 1) := by decide +kernel
theorem dL_nodeOf_1 : decode cL_nodeOf 1 = .ok (.iconst 0, 1) := by decide +kernel
theorem dL_nodeOf_2 : decode cL_nodeOf 2 = .ok (.aload_n 0, 1) := by decide +kernel
theorem dL_nodeOf_3 : decode cL_nodeOf 3 = .ok (.iload_n 1, 1) := by decide +kernel
theorem dL_nodeOf_4 : decode cL_nodeOf 4 = .ok (.invokevirtual 95, 3) := by decide +kernel
theorem dL_nodeOf_7 : decode cL_nodeOf 7 = .ok (.i2l, 1) := by decide +kernel
theorem dL_nodeOf_8 : decode cL_nodeOf 8 = .ok (.lastore, 1) := by decide +kernel
theorem dL_nodeOf_9 : decode cL_nodeOf 9 = .ok (.goto 6, 3) := by decide +kernel
theorem dL_nodeOf_12 : decode cL_nodeOf 12 = .ok (.astore_n 3, 1) := by decide +kernel
theorem dL_nodeOf_13 : decode cL_nodeOf 13 = .ok (.iconst 1, 1) := by decide +kernel
theorem dL_nodeOf_14 : decode cL_nodeOf 14 = .ok (.ireturn, 1) := by decide +kernel
theorem dL_nodeOf_15 : decode cL_nodeOf 15 = .ok (.iconst 0, 1) := by decide +kernel
theorem dL_nodeOf_16 : decode cL_nodeOf 16 = .ok (.ireturn, 1) := by decide +kernel
theorem dL_partitionOf_0 : decode cL_partitionOf 0 = .ok (.aload_n 2, 1) := by decide +kernel
theorem dL_partitionOf_1 : decode cL_partitionOf 1 = .ok (.iconst 0, 1) := by decide +kernel
theorem dL_partitionOf_2 : decode cL_partitionOf 2 = .ok (.aload_n 0, 1) := by decide +kernel
theorem dL_partitionOf_3 : decode cL_partitionOf 3 = .ok (.iload_n 1, 1) := by decide +kernel
theorem dL_partitionOf_4 : decode cL_partitionOf 4 = .ok (.invokevirtual 98, 3) := by decide +kernel
theorem dL_partitionOf_7 : decode cL_partitionOf 7 = .ok (.i2l, 1) := by decide +kernel
theorem dL_partitionOf_8 : decode cL_partitionOf 8 = .ok (.lastore, 1) := by decide +kernel
theorem dL_partitionOf_9 : decode cL_partitionOf 9 = .ok (.goto 6, 3) := by decide +kernel
theorem dL_partitionOf_12 : decode cL_partitionOf 12 = .ok (.astore_n 3, 1) := by decide +kernel
theorem dL_partitionOf_13 : decode cL_partitionOf 13 = .ok (.iconst 1, 1) := by decide +kernel
theorem dL_partitionOf_14 : decode cL_partitionOf 14 = .ok (.ireturn, 1) := by decide +kernel
theorem dL_partitionOf_15 : decode cL_partitionOf 15 = .ok (.iconst 0, 1) := by decide +kernel
theorem dL_partitionOf_16 : decode cL_partitionOf 16 = .ok (.ireturn, 1) := by decide +kernel
theorem dL_workerOf_0 : decode cL_workerOf 0 = .ok (.aload_n 2, 1) := by decide +kernel
theorem dL_workerOf_1 : decode cL_workerOf 1 = .ok (.iconst 0, 1) := by decide +kernel
theorem dL_workerOf_2 : decode cL_workerOf 2 = .ok (.aload_n 0, 1) := by decide +kernel
theorem dL_workerOf_3 : decode cL_workerOf 3 = .ok (.iload_n 1, 1) := by decide +kernel
theorem dL_workerOf_4 : decode cL_workerOf 4 = .ok (.invokevirtual 101, 3) := by decide +kernel
theorem dL_workerOf_7 : decode cL_workerOf 7 = .ok (.i2l, 1) := by decide +kernel
theorem dL_workerOf_8 : decode cL_workerOf 8 = .ok (.lastore, 1) := by decide +kernel
theorem dL_workerOf_9 : decode cL_workerOf 9 = .ok (.goto 6, 3) := by decide +kernel
theorem dL_workerOf_12 : decode cL_workerOf 12 = .ok (.astore_n 3, 1) := by decide +kernel
theorem dL_workerOf_13 : decode cL_workerOf 13 = .ok (.iconst 1, 1) := by decide +kernel
theorem dL_workerOf_14 : decode cL_workerOf 14 = .ok (.ireturn, 1) := by decide +kernel
theorem dL_workerOf_15 : decode cL_workerOf 15 = .ok (.iconst 0, 1) := by decide +kernel
theorem dL_workerOf_16 : decode cL_workerOf 16 = .ok (.ireturn, 1) := by decide +kernel
theorem dL_startOf_0 : decode cL_startOf 0 = .ok (.aload_n 2, 1) := by decide +kernel
theorem dL_startOf_1 : decode cL_startOf 1 = .ok (.iconst 0, 1) := by decide +kernel
theorem dL_startOf_2 : decode cL_startOf 2 = .ok (.aload_n 0, 1) := by decide +kernel
theorem dL_startOf_3 : decode cL_startOf 3 = .ok (.iload_n 1, 1) := by decide +kernel
theorem dL_startOf_4 : decode cL_startOf 4 = .ok (.invokevirtual 104, 3) := by decide +kernel
theorem dL_startOf_7 : decode cL_startOf 7 = .ok (.i2l, 1) := by decide +kernel
theorem dL_startOf_8 : decode cL_startOf 8 = .ok (.lastore, 1) := by decide +kernel
theorem dL_startOf_9 : decode cL_startOf 9 = .ok (.goto 6, 3) := by decide +kernel
theorem dL_startOf_12 : decode cL_startOf 12 = .ok (.astore_n 3, 1) := by decide +kernel
theorem dL_startOf_13 : decode cL_startOf 13 = .ok (.iconst 1, 1) := by decide +kernel
theorem dL_startOf_14 : decode cL_startOf 14 = .ok (.ireturn, 1) := by decide +kernel
theorem dL_startOf_15 : decode cL_startOf 15 = .ok (.iconst 0, 1) := by decide +kernel
theorem dL_startOf_16 : decode cL_startOf 16 = .ok (.ireturn, 1) := by decide +kernel
theorem dL_endOf_0 : decode cL_endOf 0 = .ok (.aload_n 2, 1) := by decide +kernel
theorem dL_endOf_1 : decode cL_endOf 1 = .ok (.iconst 0, 1) := by decide +kernel
theorem dL_endOf_2 : decode cL_endOf 2 = .ok (.aload_n 0, 1) := by decide +kernel
theorem dL_endOf_3 : decode cL_endOf 3 = .ok (.iload_n 1, 1) := by decide +kernel
theorem dL_endOf_4 : decode cL_endOf 4 = .ok (.invokevirtual 107, 3) := by decide +kernel
theorem dL_endOf_7 : decode cL_endOf 7 = .ok (.i2l, 1) := by decide +kernel
theorem dL_endOf_8 : decode cL_endOf 8 = .ok (.lastore, 1) := by decide +kernel
theorem dL_endOf_9 : decode cL_endOf 9 = .ok (.goto 6, 3) := by decide +kernel
theorem dL_endOf_12 : decode cL_endOf 12 = .ok (.astore_n 3, 1) := by decide +kernel
theorem dL_endOf_13 : decode cL_endOf 13 = .ok (.iconst 1, 1) := by decide +kernel
theorem dL_endOf_14 : decode cL_endOf 14 = .ok (.ireturn, 1) := by decide +kernel
theorem dL_endOf_15 : decode cL_endOf 15 = .ok (.iconst 0, 1) := by decide +kernel
theorem dL_endOf_16 : decode cL_endOf 16 = .ok (.ireturn, 1) := by decide +kernel
theorem dL_isCopy_0 : decode cL_isCopy 0 = .ok (.aload_n 2, 1) := by decide +kernel
theorem dL_isCopy_1 : decode cL_isCopy 1 = .ok (.iconst 0, 1) := by decide +kernel
theorem dL_isCopy_2 : decode cL_isCopy 2 = .ok (.aload_n 0, 1) := by decide +kernel
theorem dL_isCopy_3 : decode cL_isCopy 3 = .ok (.iload_n 1, 1) := by decide +kernel
theorem dL_isCopy_4 : decode cL_isCopy 4 = .ok (.invokevirtual 110, 3) := by decide +kernel
theorem dL_isCopy_7 : decode cL_isCopy 7 = .ok (.ifCond .eq 7, 3) := by decide +kernel
theorem dL_isCopy_10 : decode cL_isCopy 10 = .ok (.lconst 1, 1) := by decide +kernel
theorem dL_isCopy_11 : decode cL_isCopy 11 = .ok (.goto 4, 3) := by decide +kernel
theorem dL_isCopy_14 : decode cL_isCopy 14 = .ok (.lconst 0, 1) := by decide +kernel
theorem dL_isCopy_15 : decode cL_isCopy 15 = .ok (.lastore, 1) := by decide +kernel
theorem dL_isCopy_16 : decode cL_isCopy 16 = .ok (.goto 6, 3) := by decide +kernel
theorem dL_isCopy_19 : decode cL_isCopy 19 = .ok (.astore_n 3, 1) := by decide +kernel
theorem dL_isCopy_20 : decode cL_isCopy 20 = .ok (.iconst 1, 1) := by decide +kernel
theorem dL_isCopy_21 : decode cL_isCopy 21 = .ok (.ireturn, 1) := by decide +kernel
theorem dL_isCopy_22 : decode cL_isCopy 22 = .ok (.iconst 0, 1) := by decide +kernel
theorem dL_isCopy_23 : decode cL_isCopy 23 = .ok (.ireturn, 1) := by decide +kernel
