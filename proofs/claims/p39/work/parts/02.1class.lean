theorem dX0_init_0 : decode cX0_init 0 = .ok (.aload_n 0, 1) := by decide +kernel
theorem dX0_init_1 : decode cX0_init 1 = .ok (.invokespecial 3, 3) := by decide +kernel
theorem dX0_init_4 : decode cX0_init 4 = .ok (.aload_n 0, 1) := by decide +kernel
theorem dX0_init_5 : decode cX0_init 5 = .ok (.new 9, 3) := by decide +kernel
theorem dX0_init_8 : decode cX0_init 8 = .ok (.dup, 1) := by decide +kernel
theorem dX0_init_9 : decode cX0_init 9 = .ok (.bipush 14, 2) := by decide +kernel
theorem dX0_init_11 : decode cX0_init 11 = .ok (.invokespecial 11, 3) := by decide +kernel
theorem dX0_init_14 : decode cX0_init 14 = .ok (.putfield 14, 3) := by decide +kernel
theorem dX0_init_17 : decode cX0_init 17 = .ok (.aload_n 0, 1) := by decide +kernel
theorem dX0_init_18 : decode cX0_init 18 = .ok (.new 9, 3) := by decide +kernel
theorem dX0_init_21 : decode cX0_init 21 = .ok (.dup, 1) := by decide +kernel
theorem dX0_init_22 : decode cX0_init 22 = .ok (.bipush 14, 2) := by decide +kernel
theorem dX0_init_24 : decode cX0_init 24 = .ok (.invokespecial 11, 3) := by decide +kernel
theorem dX0_init_27 : decode cX0_init 27 = .ok (.putfield 20, 3) := by decide +kernel
theorem dX0_init_30 : decode cX0_init 30 = .ok (.return_, 1) := by decide +kernel
theorem dX0_holds_0 : decode cX0_holds 0 = .ok (.aload_n 0, 1) := by decide +kernel
theorem dX0_holds_1 : decode cX0_holds 1 = .ok (.getfield 23, 3) := by decide +kernel
theorem dX0_holds_4 : decode cX0_holds 4 = .ok (.iload_n 1, 1) := by decide +kernel
theorem dX0_holds_5 : decode cX0_holds 5 = .ok (.invokestatic 27, 3) := by decide +kernel
theorem dX0_holds_8 : decode cX0_holds 8 = .ok (.ireturn, 1) := by decide +kernel
theorem dX0_empty_0 : decode cX0_empty 0 = .ok (.aload_n 0, 1) := by decide +kernel
theorem dX0_empty_1 : decode cX0_empty 1 = .ok (.iconst 0, 1) := by decide +kernel
theorem dX0_empty_2 : decode cX0_empty 2 = .ok (.putfield 31, 3) := by decide +kernel
theorem dX0_empty_5 : decode cX0_empty 5 = .ok (.aload_n 0, 1) := by decide +kernel
theorem dX0_empty_6 : decode cX0_empty 6 = .ok (.iconst 0, 1) := by decide +kernel
theorem dX0_empty_7 : decode cX0_empty 7 = .ok (.putfield 23, 3) := by decide +kernel
theorem dX0_empty_10 : decode cX0_empty 10 = .ok (.aload_n 0, 1) := by decide +kernel
theorem dX0_empty_11 : decode cX0_empty 11 = .ok (.iconst 0, 1) := by decide +kernel
theorem dX0_empty_12 : decode cX0_empty 12 = .ok (.putfield 34, 3) := by decide +kernel
theorem dX0_empty_15 : decode cX0_empty 15 = .ok (.return_, 1) := by decide +kernel
theorem dX0_makeLatest_0 : decode cX0_makeLatest 0 = .ok (.iconst 0, 1) := by decide +kernel
theorem dX0_makeLatest_1 : decode cX0_makeLatest 1 = .ok (.istore_n 2, 1) := by decide +kernel
theorem dX0_makeLatest_2 : decode cX0_makeLatest 2 = .ok (.iload_n 2, 1) := by decide +kernel
theorem dX0_makeLatest_3 : decode cX0_makeLatest 3 = .ok (.aload_n 0, 1) := by decide +kernel
theorem dX0_makeLatest_4 : decode cX0_makeLatest 4 = .ok (.getfield 31, 3) := by decide +kernel
theorem dX0_makeLatest_7 : decode cX0_makeLatest 7 = .ok (.if_icmp .ge 42, 3) := by decide +kernel
theorem dX0_makeLatest_10 : decode cX0_makeLatest 10 = .ok (.aload_n 0, 1) := by decide +kernel
theorem dX0_makeLatest_11 : decode cX0_makeLatest 11 = .ok (.getfield 14, 3) := by decide +kernel
theorem dX0_makeLatest_14 : decode cX0_makeLatest 14 = .ok (.iload_n 2, 1) := by decide +kernel
theorem dX0_makeLatest_15 : decode cX0_makeLatest 15 = .ok (.invokevirtual 37, 3) := by decide +kernel
theorem dX0_makeLatest_18 : decode cX0_makeLatest 18 = .ok (.iload_n 1, 1) := by decide +kernel
theorem dX0_makeLatest_19 : decode cX0_makeLatest 19 = .ok (.if_icmp .ne 24, 3) := by decide +kernel
theorem dX0_makeLatest_22 : decode cX0_makeLatest 22 = .ok (.aload_n 0, 1) := by decide +kernel
theorem dX0_makeLatest_23 : decode cX0_makeLatest 23 = .ok (.getfield 20, 3) := by decide +kernel
theorem dX0_makeLatest_26 : decode cX0_makeLatest 26 = .ok (.iload_n 2, 1) := by decide +kernel
theorem dX0_makeLatest_27 : decode cX0_makeLatest 27 = .ok (.invokevirtual 37, 3) := by decide +kernel
theorem dX0_makeLatest_30 : decode cX0_makeLatest 30 = .ok (.istore_n 3, 1) := by decide +kernel
theorem dX0_makeLatest_31 : decode cX0_makeLatest 31 = .ok (.aload_n 0, 1) := by decide +kernel
theorem dX0_makeLatest_32 : decode cX0_makeLatest 32 = .ok (.iload_n 2, 1) := by decide +kernel
theorem dX0_makeLatest_33 : decode cX0_makeLatest 33 = .ok (.invokevirtual 41, 3) := by decide +kernel
theorem dX0_makeLatest_36 : decode cX0_makeLatest 36 = .ok (.aload_n 0, 1) := by decide +kernel
theorem dX0_makeLatest_37 : decode cX0_makeLatest 37 = .ok (.iload_n 1, 1) := by decide +kernel
theorem dX0_makeLatest_38 : decode cX0_makeLatest 38 = .ok (.iload_n 3, 1) := by decide +kernel
theorem dX0_makeLatest_39 : decode cX0_makeLatest 39 = .ok (.invokevirtual 44, 3) := by decide +kernel
theorem dX0_makeLatest_42 : decode cX0_makeLatest 42 = .ok (.return_, 1) := by decide +kernel
theorem dX0_makeLatest_43 : decode cX0_makeLatest 43 = .ok (.iinc 2 1, 3) := by decide +kernel
theorem dX0_makeLatest_46 : decode cX0_makeLatest 46 = .ok (.goto (-44), 3) := by decide +kernel
theorem dX0_makeLatest_49 : decode cX0_makeLatest 49 = .ok (.return_, 1) := by decide +kernel
theorem dX0_enter_0 : decode cX0_enter 0 = .ok (.iload_n 2, 1) := by decide +kernel
theorem dX0_enter_1 : decode cX0_enter 1 = .ok (.aload_n 0, 1) := by decide +kernel
theorem dX0_enter_2 : decode cX0_enter 2 = .ok (.getfield 48, 3) := by decide +kernel
theorem dX0_enter_5 : decode cX0_enter 5 = .ok (.if_icmp .gt 15, 3) := by decide +kernel
theorem dX0_enter_8 : decode cX0_enter 8 = .ok (.aload_n 0, 1) := by decide +kernel
theorem dX0_enter_9 : decode cX0_enter 9 = .ok (.iload_n 2, 1) := by decide +kernel
theorem dX0_enter_10 : decode cX0_enter 10 = .ok (.invokevirtual 51, 3) := by decide +kernel
theorem dX0_enter_13 : decode cX0_enter 13 = .ok (.pop, 1) := by decide +kernel
theorem dX0_enter_14 : decode cX0_enter 14 = .ok (.aload_n 0, 1) := by decide +kernel
theorem dX0_enter_15 : decode cX0_enter 15 = .ok (.iload_n 1, 1) := by decide +kernel
theorem dX0_enter_16 : decode cX0_enter 16 = .ok (.iload_n 2, 1) := by decide +kernel
theorem dX0_enter_17 : decode cX0_enter 17 = .ok (.invokevirtual 44, 3) := by decide +kernel
theorem dX0_enter_20 : decode cX0_enter 20 = .ok (.return_, 1) := by decide +kernel
theorem dX0_makeRoomFor_0 : decode cX0_makeRoomFor 0 = .ok (.iconst 0, 1) := by decide +kernel
theorem dX0_makeRoomFor_1 : decode cX0_makeRoomFor 1 = .ok (.istore_n 2, 1) := by decide +kernel
theorem dX0_makeRoomFor_2 : decode cX0_makeRoomFor 2 = .ok (.iconst 0, 1) := by decide +kernel
theorem dX0_makeRoomFor_3 : decode cX0_makeRoomFor 3 = .ok (.istore_n 3, 1) := by decide +kernel
theorem dX0_makeRoomFor_4 : decode cX0_makeRoomFor 4 = .ok (.iload_n 3, 1) := by decide +kernel
theorem dX0_makeRoomFor_5 : decode cX0_makeRoomFor 5 = .ok (.bipush 14, 2) := by decide +kernel
theorem dX0_makeRoomFor_7 : decode cX0_makeRoomFor 7 = .ok (.if_icmp .ge 37, 3) := by decide +kernel
theorem dX0_makeRoomFor_10 : decode cX0_makeRoomFor 10 = .ok (.aload_n 0, 1) := by decide +kernel
theorem dX0_makeRoomFor_11 : decode cX0_makeRoomFor 11 = .ok (.getfield 31, 3) := by decide +kernel
theorem dX0_makeRoomFor_14 : decode cX0_makeRoomFor 14 = .ok (.ifCond .le 30, 3) := by decide +kernel
theorem dX0_makeRoomFor_17 : decode cX0_makeRoomFor 17 = .ok (.aload_n 0, 1) := by decide +kernel
theorem dX0_makeRoomFor_18 : decode cX0_makeRoomFor 18 = .ok (.getfield 34, 3) := by decide +kernel
theorem dX0_makeRoomFor_21 : decode cX0_makeRoomFor 21 = .ok (.iload_n 1, 1) := by decide +kernel
theorem dX0_makeRoomFor_22 : decode cX0_makeRoomFor 22 = .ok (.iadd, 1) := by decide +kernel
theorem dX0_makeRoomFor_23 : decode cX0_makeRoomFor 23 = .ok (.aload_n 0, 1) := by decide +kernel
theorem dX0_makeRoomFor_24 : decode cX0_makeRoomFor 24 = .ok (.getfield 48, 3) := by decide +kernel
theorem dX0_makeRoomFor_27 : decode cX0_makeRoomFor 27 = .ok (.if_icmp .le 17, 3) := by decide +kernel
theorem dX0_makeRoomFor_30 : decode cX0_makeRoomFor 30 = .ok (.aload_n 0, 1) := by decide +kernel
theorem dX0_makeRoomFor_31 : decode cX0_makeRoomFor 31 = .ok (.iconst 0, 1) := by decide +kernel
theorem dX0_makeRoomFor_32 : decode cX0_makeRoomFor 32 = .ok (.invokevirtual 41, 3) := by decide +kernel
theorem dX0_makeRoomFor_35 : decode cX0_makeRoomFor 35 = .ok (.iinc 2 1, 3) := by decide +kernel
theorem dX0_makeRoomFor_38 : decode cX0_makeRoomFor 38 = .ok (.iinc 3 1, 3) := by decide +kernel
theorem dX0_makeRoomFor_41 : decode cX0_makeRoomFor 41 = .ok (.goto (-37), 3) := by decide +kernel
theorem dX0_makeRoomFor_44 : decode cX0_makeRoomFor 44 = .ok (.iload_n 2, 1) := by decide +kernel
theorem dX0_makeRoomFor_45 : decode cX0_makeRoomFor 45 = .ok (.ireturn, 1) := by decide +kernel
theorem dX0_append_0 : decode cX0_append 0 = .ok (.aload_n 0, 1) := by decide +kernel
theorem dX0_append_1 : decode cX0_append 1 = .ok (.getfield 14, 3) := by decide +kernel
theorem dX0_append_4 : decode cX0_append 4 = .ok (.aload_n 0, 1) := by decide +kernel
theorem dX0_append_5 : decode cX0_append 5 = .ok (.getfield 31, 3) := by decide +kernel
theorem dX0_append_8 : decode cX0_append 8 = .ok (.iload_n 1, 1) := by decide +kernel
theorem dX0_append_9 : decode cX0_append 9 = .ok (.invokevirtual 54, 3) := by decide +kernel
theorem dX0_append_12 : decode cX0_append 12 = .ok (.aload_n 0, 1) := by decide +kernel
theorem dX0_append_13 : decode cX0_append 13 = .ok (.getfield 20, 3) := by decide +kernel
theorem dX0_append_16 : decode cX0_append 16 = .ok (.aload_n 0, 1) := by decide +kernel
theorem dX0_append_17 : decode cX0_append 17 = .ok (.getfield 31, 3) := by decide +kernel
theorem dX0_append_20 : decode cX0_append 20 = .ok (.iload_n 2, 1) := by decide +kernel
theorem dX0_append_21 : decode cX0_append 21 = .ok (.invokevirtual 54, 3) := by decide +kernel
theorem dX0_append_24 : decode cX0_append 24 = .ok (.aload_n 0, 1) := by decide +kernel
theorem dX0_append_25 : decode cX0_append 25 = .ok (.aload_n 0, 1) := by decide +kernel
theorem dX0_append_26 : decode cX0_append 26 = .ok (.getfield 23, 3) := by decide +kernel
theorem dX0_append_29 : decode cX0_append 29 = .ok (.iload_n 1, 1) := by decide +kernel
theorem dX0_append_30 : decode cX0_append 30 = .ok (.invokestatic 57, 3) := by decide +kernel
theorem dX0_append_33 : decode cX0_append 33 = .ok (.putfield 23, 3) := by decide +kernel
theorem dX0_append_36 : decode cX0_append 36 = .ok (.aload_n 0, 1) := by decide +kernel
theorem dX0_append_37 : decode cX0_append 37 = .ok (.dup, 1) := by decide +kernel
theorem dX0_append_38 : decode cX0_append 38 = .ok (.getfield 34, 3) := by decide +kernel
theorem dX0_append_41 : decode cX0_append 41 = .ok (.iload_n 2, 1) := by decide +kernel
theorem dX0_append_42 : decode cX0_append 42 = .ok (.iadd, 1) := by decide +kernel
theorem dX0_append_43 : decode cX0_append 43 = .ok (.putfield 34, 3) := by decide +kernel
theorem dX0_append_46 : decode cX0_append 46 = .ok (.aload_n 0, 1) := by decide +kernel
theorem dX0_append_47 : decode cX0_append 47 = .ok (.dup, 1) := by decide +kernel
theorem dX0_append_48 : decode cX0_append 48 = .ok (.getfield 31, 3) := by decide +kernel
theorem dX0_append_51 : decode cX0_append 51 = .ok (.iconst 1, 1) := by decide +kernel
theorem dX0_append_52 : decode cX0_append 52 = .ok (.iadd, 1) := by decide +kernel
theorem dX0_append_53 : decode cX0_append 53 = .ok (.putfield 31, 3) := by decide +kernel
theorem dX0_append_56 : decode cX0_append 56 = .ok (.return_, 1) := by decide +kernel
theorem dX0_remove_0 : decode cX0_remove 0 = .ok (.aload_n 0, 1) := by decide +kernel
theorem dX0_remove_1 : decode cX0_remove 1 = .ok (.dup, 1) := by decide +kernel
theorem dX0_remove_2 : decode cX0_remove 2 = .ok (.getfield 23, 3) := by decide +kernel
theorem dX0_remove_5 : decode cX0_remove 5 = .ok (.iconst 0, 1) := by decide +kernel
theorem dX0_remove_6 : decode cX0_remove 6 = .ok (.aload_n 0, 1) := by decide +kernel
theorem dX0_remove_7 : decode cX0_remove 7 = .ok (.getfield 14, 3) := by decide +kernel
theorem dX0_remove_10 : decode cX0_remove 10 = .ok (.iload_n 1, 1) := by decide +kernel
theorem dX0_remove_11 : decode cX0_remove 11 = .ok (.invokevirtual 37, 3) := by decide +kernel
theorem dX0_remove_14 : decode cX0_remove 14 = .ok (.invokestatic 57, 3) := by decide +kernel
theorem dX0_remove_17 : decode cX0_remove 17 = .ok (.iconst (-1), 1) := by decide +kernel
theorem dX0_remove_18 : decode cX0_remove 18 = .ok (.ixor, 1) := by decide +kernel
theorem dX0_remove_19 : decode cX0_remove 19 = .ok (.iand, 1) := by decide +kernel
theorem dX0_remove_20 : decode cX0_remove 20 = .ok (.putfield 23, 3) := by decide +kernel
theorem dX0_remove_23 : decode cX0_remove 23 = .ok (.aload_n 0, 1) := by decide +kernel
theorem dX0_remove_24 : decode cX0_remove 24 = .ok (.dup, 1) := by decide +kernel
theorem dX0_remove_25 : decode cX0_remove 25 = .ok (.getfield 34, 3) := by decide +kernel
theorem dX0_remove_28 : decode cX0_remove 28 = .ok (.aload_n 0, 1) := by decide +kernel
theorem dX0_remove_29 : decode cX0_remove 29 = .ok (.getfield 20, 3) := by decide +kernel
theorem dX0_remove_32 : decode cX0_remove 32 = .ok (.iload_n 1, 1) := by decide +kernel
theorem dX0_remove_33 : decode cX0_remove 33 = .ok (.invokevirtual 37, 3) := by decide +kernel
theorem dX0_remove_36 : decode cX0_remove 36 = .ok (.isub, 1) := by decide +kernel
theorem dX0_remove_37 : decode cX0_remove 37 = .ok (.putfield 34, 3) := by decide +kernel
theorem dX0_remove_40 : decode cX0_remove 40 = .ok (.aload_n 0, 1) := by decide +kernel
theorem dX0_remove_41 : decode cX0_remove 41 = .ok (.dup, 1) := by decide +kernel
theorem dX0_remove_42 : decode cX0_remove 42 = .ok (.getfield 31, 3) := by decide +kernel
theorem dX0_remove_45 : decode cX0_remove 45 = .ok (.iconst 1, 1) := by decide +kernel
theorem dX0_remove_46 : decode cX0_remove 46 = .ok (.isub, 1) := by decide +kernel
theorem dX0_remove_47 : decode cX0_remove 47 = .ok (.putfield 31, 3) := by decide +kernel
theorem dX0_remove_50 : decode cX0_remove 50 = .ok (.iload_n 1, 1) := by decide +kernel
theorem dX0_remove_51 : decode cX0_remove 51 = .ok (.istore_n 2, 1) := by decide +kernel
theorem dX0_remove_52 : decode cX0_remove 52 = .ok (.iload_n 2, 1) := by decide +kernel
theorem dX0_remove_53 : decode cX0_remove 53 = .ok (.aload_n 0, 1) := by decide +kernel
theorem dX0_remove_54 : decode cX0_remove 54 = .ok (.getfield 31, 3) := by decide +kernel
theorem dX0_remove_57 : decode cX0_remove 57 = .ok (.if_icmp .ge 45, 3) := by decide +kernel
theorem dX0_remove_60 : decode cX0_remove 60 = .ok (.aload_n 0, 1) := by decide +kernel
theorem dX0_remove_61 : decode cX0_remove 61 = .ok (.getfield 14, 3) := by decide +kernel
theorem dX0_remove_64 : decode cX0_remove 64 = .ok (.iload_n 2, 1) := by decide +kernel
theorem dX0_remove_65 : decode cX0_remove 65 = .ok (.aload_n 0, 1) := by decide +kernel
theorem dX0_remove_66 : decode cX0_remove 66 = .ok (.getfield 14, 3) := by decide +kernel
theorem dX0_remove_69 : decode cX0_remove 69 = .ok (.iload_n 2, 1) := by decide +kernel
theorem dX0_remove_70 : decode cX0_remove 70 = .ok (.iconst 1, 1) := by decide +kernel
theorem dX0_remove_71 : decode cX0_remove 71 = .ok (.iadd, 1) := by decide +kernel
theorem dX0_remove_72 : decode cX0_remove 72 = .ok (.invokevirtual 37, 3) := by decide +kernel
theorem dX0_remove_75 : decode cX0_remove 75 = .ok (.invokevirtual 54, 3) := by decide +kernel
theorem dX0_remove_78 : decode cX0_remove 78 = .ok (.aload_n 0, 1) := by decide +kernel
theorem dX0_remove_79 : decode cX0_remove 79 = .ok (.getfield 20, 3) := by decide +kernel
theorem dX0_remove_82 : decode cX0_remove 82 = .ok (.iload_n 2, 1) := by decide +kernel
theorem dX0_remove_83 : decode cX0_remove 83 = .ok (.aload_n 0, 1) := by decide +kernel
theorem dX0_remove_84 : decode cX0_remove 84 = .ok (.getfield 20, 3) := by decide +kernel
theorem dX0_remove_87 : decode cX0_remove 87 = .ok (.iload_n 2, 1) := by decide +kernel
theorem dX0_remove_88 : decode cX0_remove 88 = .ok (.iconst 1, 1) := by decide +kernel
theorem dX0_remove_89 : decode cX0_remove 89 = .ok (.iadd, 1) := by decide +kernel
theorem dX0_remove_90 : decode cX0_remove 90 = .ok (.invokevirtual 37, 3) := by decide +kernel
theorem dX0_remove_93 : decode cX0_remove 93 = .ok (.invokevirtual 54, 3) := by decide +kernel
theorem dX0_remove_96 : decode cX0_remove 96 = .ok (.iinc 2 1, 3) := by decide +kernel
theorem dX0_remove_99 : decode cX0_remove 99 = .ok (.goto (-47), 3) := by decide +kernel
theorem dX0_remove_102 : decode cX0_remove 102 = .ok (.return_, 1) := by decide +kernel
theorem dX1_init_0 : decode cX1_init 0 = .ok (.aload_n 0, 1) := by decide +kernel
theorem dX1_init_1 : decode cX1_init 1 = .ok (.invokespecial 3, 3) := by decide +kernel
theorem dX1_init_4 : decode cX1_init 4 = .ok (.aload_n 0, 1) := by decide +kernel
theorem dX1_init_5 : decode cX1_init 5 = .ok (.new 9, 3) := by decide +kernel
theorem dX1_init_8 : decode cX1_init 8 = .ok (.dup, 1) := by decide +kernel
theorem dX1_init_9 : decode cX1_init 9 = .ok (.iconst 4, 1) := by decide +kernel
theorem dX1_init_10 : decode cX1_init 10 = .ok (.invokespecial 11, 3) := by decide +kernel
theorem dX1_init_13 : decode cX1_init 13 = .ok (.putfield 14, 3) := by decide +kernel
theorem dX1_init_16 : decode cX1_init 16 = .ok (.aload_n 0, 1) := by decide +kernel
theorem dX1_init_17 : decode cX1_init 17 = .ok (.new 9, 3) := by decide +kernel
theorem dX1_init_20 : decode cX1_init 20 = .ok (.dup, 1) := by decide +kernel
theorem dX1_init_21 : decode cX1_init 21 = .ok (.iconst 4, 1) := by decide +kernel
theorem dX1_init_22 : decode cX1_init 22 = .ok (.invokespecial 11, 3) := by decide +kernel
theorem dX1_init_25 : decode cX1_init 25 = .ok (.putfield 20, 3) := by decide +kernel
theorem dX1_init_28 : decode cX1_init 28 = .ok (.aload_n 0, 1) := by decide +kernel
theorem dX1_init_29 : decode cX1_init 29 = .ok (.iconst 2, 1) := by decide +kernel
theorem dX1_init_30 : decode cX1_init 30 = .ok (.putfield 23, 3) := by decide +kernel
theorem dX1_init_33 : decode cX1_init 33 = .ok (.aload_n 0, 1) := by decide +kernel
theorem dX1_init_34 : decode cX1_init 34 = .ok (.aload_n 1, 1) := by decide +kernel
theorem dX1_init_35 : decode cX1_init 35 = .ok (.putfield 27, 3) := by decide +kernel
theorem dX1_init_38 : decode cX1_init 38 = .ok (.iconst 0, 1) := by decide +kernel
theorem dX1_init_39 : decode cX1_init 39 = .ok (.istore_n 2, 1) := by decide +kernel
theorem dX1_init_40 : decode cX1_init 40 = .ok (.iload_n 2, 1) := by decide +kernel
theorem dX1_init_41 : decode cX1_init 41 = .ok (.iconst 4, 1) := by decide +kernel
theorem dX1_init_42 : decode cX1_init 42 = .ok (.if_icmp .ge 18, 3) := by decide +kernel
theorem dX1_init_45 : decode cX1_init 45 = .ok (.aload_n 0, 1) := by decide +kernel
theorem dX1_init_46 : decode cX1_init 46 = .ok (.getfield 14, 3) := by decide +kernel
theorem dX1_init_49 : decode cX1_init 49 = .ok (.iload_n 2, 1) := by decide +kernel
theorem dX1_init_50 : decode cX1_init 50 = .ok (.iconst 1, 1) := by decide +kernel
theorem dX1_init_51 : decode cX1_init 51 = .ok (.invokevirtual 31, 3) := by decide +kernel
theorem dX1_init_54 : decode cX1_init 54 = .ok (.iinc 2 1, 3) := by decide +kernel
theorem dX1_init_57 : decode cX1_init 57 = .ok (.goto (-17), 3) := by decide +kernel
theorem dX1_init_60 : decode cX1_init 60 = .ok (.return_, 1) := by decide +kernel
theorem dX1_workOff_0 : decode cX1_workOff 0 = .ok (.iconst 0, 1) := by decide +kernel
theorem dX1_workOff_1 : decode cX1_workOff 1 = .ok (.istore_n 3, 1) := by decide +kernel
theorem dX1_workOff_2 : decode cX1_workOff 2 = .ok (.iload_n 3, 1) := by decide +kernel
theorem dX1_workOff_3 : decode cX1_workOff 3 = .ok (.iconst 4, 1) := by decide +kernel
theorem dX1_workOff_4 : decode cX1_workOff 4 = .ok (.if_icmp .ge 18, 3) := by decide +kernel
theorem dX1_workOff_7 : decode cX1_workOff 7 = .ok (.aload_n 0, 1) := by decide +kernel
theorem dX1_workOff_8 : decode cX1_workOff 8 = .ok (.getfield 20, 3) := by decide +kernel
theorem dX1_workOff_11 : decode cX1_workOff 11 = .ok (.iload_n 3, 1) := by decide +kernel
theorem dX1_workOff_12 : decode cX1_workOff 12 = .ok (.iload_n 2, 1) := by decide +kernel
theorem dX1_workOff_13 : decode cX1_workOff 13 = .ok (.invokevirtual 31, 3) := by decide +kernel
theorem dX1_workOff_16 : decode cX1_workOff 16 = .ok (.iinc 3 1, 3) := by decide +kernel
theorem dX1_workOff_19 : decode cX1_workOff 19 = .ok (.goto (-17), 3) := by decide +kernel
theorem dX1_workOff_22 : decode cX1_workOff 22 = .ok (.iload_n 2, 1) := by decide +kernel
theorem dX1_workOff_23 : decode cX1_workOff 23 = .ok (.istore_n 3, 1) := by decide +kernel
theorem dX1_workOff_24 : decode cX1_workOff 24 = .ok (.iconst 0, 1) := by decide +kernel
theorem dX1_workOff_25 : decode cX1_workOff 25 = .ok (.istore 4, 2) := by decide +kernel
theorem dX1_workOff_27 : decode cX1_workOff 27 = .ok (.iload 4, 2) := by decide +kernel
theorem dX1_workOff_29 : decode cX1_workOff 29 = .ok (.bipush 17, 2) := by decide +kernel
theorem dX1_workOff_31 : decode cX1_workOff 31 = .ok (.if_icmp .ge 42, 3) := by decide +kernel
theorem dX1_workOff_34 : decode cX1_workOff 34 = .ok (.aload_n 1, 1) := by decide +kernel
theorem dX1_workOff_35 : decode cX1_workOff 35 = .ok (.iload_n 3, 1) := by decide +kernel
theorem dX1_workOff_36 : decode cX1_workOff 36 = .ok (.invokevirtual 35, 3) := by decide +kernel
theorem dX1_workOff_39 : decode cX1_workOff 39 = .ok (.aload_n 1, 1) := by decide +kernel
theorem dX1_workOff_40 : decode cX1_workOff 40 = .ok (.getfield 41, 3) := by decide +kernel
theorem dX1_workOff_43 : decode cX1_workOff 43 = .ok (.if_icmp .ge 30, 3) := by decide +kernel
theorem dX1_workOff_46 : decode cX1_workOff 46 = .ok (.aload_n 0, 1) := by decide +kernel
theorem dX1_workOff_47 : decode cX1_workOff 47 = .ok (.aload_n 1, 1) := by decide +kernel
theorem dX1_workOff_48 : decode cX1_workOff 48 = .ok (.iload_n 3, 1) := by decide +kernel
theorem dX1_workOff_49 : decode cX1_workOff 49 = .ok (.invokevirtual 44, 3) := by decide +kernel
theorem dX1_workOff_52 : decode cX1_workOff 52 = .ok (.ifCond .eq 9, 3) := by decide +kernel
theorem dX1_workOff_55 : decode cX1_workOff 55 = .ok (.iload_n 3, 1) := by decide +kernel
theorem dX1_workOff_56 : decode cX1_workOff 56 = .ok (.iconst 1, 1) := by decide +kernel
theorem dX1_workOff_57 : decode cX1_workOff 57 = .ok (.iadd, 1) := by decide +kernel
theorem dX1_workOff_58 : decode cX1_workOff 58 = .ok (.goto 8, 3) := by decide +kernel
theorem dX1_workOff_61 : decode cX1_workOff 61 = .ok (.aload_n 1, 1) := by decide +kernel
theorem dX1_workOff_62 : decode cX1_workOff 62 = .ok (.iload_n 3, 1) := by decide +kernel
theorem dX1_workOff_63 : decode cX1_workOff 63 = .ok (.invokevirtual 48, 3) := by decide +kernel
theorem dX1_workOff_66 : decode cX1_workOff 66 = .ok (.istore_n 3, 1) := by decide +kernel
theorem dX1_workOff_67 : decode cX1_workOff 67 = .ok (.iinc 4 1, 3) := by decide +kernel
theorem dX1_workOff_70 : decode cX1_workOff 70 = .ok (.goto (-43), 3) := by decide +kernel
theorem dX1_workOff_73 : decode cX1_workOff 73 = .ok (.iload_n 3, 1) := by decide +kernel
theorem dX1_workOff_74 : decode cX1_workOff 74 = .ok (.ireturn, 1) := by decide +kernel
theorem dX1_look_0 : decode cX1_look 0 = .ok (.iconst 0, 1) := by decide +kernel
theorem dX1_look_1 : decode cX1_look 1 = .ok (.istore_n 3, 1) := by decide +kernel
theorem dX1_look_2 : decode cX1_look 2 = .ok (.iconst 2, 1) := by decide +kernel
theorem dX1_look_3 : decode cX1_look 3 = .ok (.aload_n 1, 1) := by decide +kernel
theorem dX1_look_4 : decode cX1_look 4 = .ok (.iload_n 2, 1) := by decide +kernel
theorem dX1_look_5 : decode cX1_look 5 = .ok (.invokevirtual 35, 3) := by decide +kernel
theorem dX1_look_8 : decode cX1_look 8 = .ok (.imul, 1) := by decide +kernel
theorem dX1_look_9 : decode cX1_look 9 = .ok (.aload_n 1, 1) := by decide +kernel
theorem dX1_look_10 : decode cX1_look 10 = .ok (.getfield 41, 3) := by decide +kernel
theorem dX1_look_13 : decode cX1_look 13 = .ok (.if_icmp .lt 7, 3) := by decide +kernel
theorem dX1_look_16 : decode cX1_look 16 = .ok (.iconst 1, 1) := by decide +kernel
theorem dX1_look_17 : decode cX1_look 17 = .ok (.goto 4, 3) := by decide +kernel
theorem dX1_look_20 : decode cX1_look 20 = .ok (.iconst 0, 1) := by decide +kernel
theorem dX1_look_21 : decode cX1_look 21 = .ok (.istore 4, 2) := by decide +kernel
theorem dX1_look_23 : decode cX1_look 23 = .ok (.iconst 0, 1) := by decide +kernel
theorem dX1_look_24 : decode cX1_look 24 = .ok (.istore 5, 2) := by decide +kernel
theorem dX1_look_26 : decode cX1_look 26 = .ok (.iload 5, 2) := by decide +kernel
theorem dX1_look_28 : decode cX1_look 28 = .ok (.aload_n 0, 1) := by decide +kernel
theorem dX1_look_29 : decode cX1_look 29 = .ok (.getfield 23, 3) := by decide +kernel
theorem dX1_look_32 : decode cX1_look 32 = .ok (.if_icmp .ge 62, 3) := by decide +kernel
theorem dX1_look_35 : decode cX1_look 35 = .ok (.aload_n 0, 1) := by decide +kernel
theorem dX1_look_36 : decode cX1_look 36 = .ok (.getfield 20, 3) := by decide +kernel
theorem dX1_look_39 : decode cX1_look 39 = .ok (.iload 5, 2) := by decide +kernel
theorem dX1_look_41 : decode cX1_look 41 = .ok (.invokevirtual 51, 3) := by decide +kernel
theorem dX1_look_44 : decode cX1_look 44 = .ok (.iload_n 2, 1) := by decide +kernel
theorem dX1_look_45 : decode cX1_look 45 = .ok (.if_icmp .gt 43, 3) := by decide +kernel
theorem dX1_look_48 : decode cX1_look 48 = .ok (.aload_n 1, 1) := by decide +kernel
theorem dX1_look_49 : decode cX1_look 49 = .ok (.getfield 54, 3) := by decide +kernel
theorem dX1_look_52 : decode cX1_look 52 = .ok (.aload_n 1, 1) := by decide +kernel
theorem dX1_look_53 : decode cX1_look 53 = .ok (.getfield 41, 3) := by decide +kernel
theorem dX1_look_56 : decode cX1_look 56 = .ok (.if_icmp .ge 14, 3) := by decide +kernel
theorem dX1_look_59 : decode cX1_look 59 = .ok (.aload_n 0, 1) := by decide +kernel
theorem dX1_look_60 : decode cX1_look 60 = .ok (.aload_n 1, 1) := by decide +kernel
theorem dX1_look_61 : decode cX1_look 61 = .ok (.iload 5, 2) := by decide +kernel
theorem dX1_look_63 : decode cX1_look 63 = .ok (.iload_n 2, 1) := by decide +kernel
theorem dX1_look_64 : decode cX1_look 64 = .ok (.invokevirtual 57, 3) := by decide +kernel
theorem dX1_look_67 : decode cX1_look 67 = .ok (.goto 21, 3) := by decide +kernel
theorem dX1_look_70 : decode cX1_look 70 = .ok (.iload 4, 2) := by decide +kernel
theorem dX1_look_72 : decode cX1_look 72 = .ok (.ifCond .eq 16, 3) := by decide +kernel
theorem dX1_look_75 : decode cX1_look 75 = .ok (.aload_n 0, 1) := by decide +kernel
theorem dX1_look_76 : decode cX1_look 76 = .ok (.aload_n 1, 1) := by decide +kernel
theorem dX1_look_77 : decode cX1_look 77 = .ok (.iload 5, 2) := by decide +kernel
theorem dX1_look_79 : decode cX1_look 79 = .ok (.iload_n 2, 1) := by decide +kernel
theorem dX1_look_80 : decode cX1_look 80 = .ok (.invokevirtual 61, 3) := by decide +kernel
theorem dX1_look_83 : decode cX1_look 83 = .ok (.ifCond .eq 5, 3) := by decide +kernel
theorem dX1_look_86 : decode cX1_look 86 = .ok (.iconst 1, 1) := by decide +kernel
theorem dX1_look_87 : decode cX1_look 87 = .ok (.istore_n 3, 1) := by decide +kernel
theorem dX1_look_88 : decode cX1_look 88 = .ok (.iinc 5 1, 3) := by decide +kernel
theorem dX1_look_91 : decode cX1_look 91 = .ok (.goto (-65), 3) := by decide +kernel
theorem dX1_look_94 : decode cX1_look 94 = .ok (.iload_n 3, 1) := by decide +kernel
theorem dX1_look_95 : decode cX1_look 95 = .ok (.ireturn, 1) := by decide +kernel
theorem dX1_takeNext_0 : decode cX1_takeNext 0 = .ok (.aload_n 1, 1) := by decide +kernel
theorem dX1_takeNext_1 : decode cX1_takeNext 1 = .ok (.getfield 54, 3) := by decide +kernel
theorem dX1_takeNext_4 : decode cX1_takeNext 4 = .ok (.istore 4, 2) := by decide +kernel
theorem dX1_takeNext_6 : decode cX1_takeNext 6 = .ok (.iload_n 3, 1) := by decide +kernel
theorem dX1_takeNext_7 : decode cX1_takeNext 7 = .ok (.aload_n 1, 1) := by decide +kernel
theorem dX1_takeNext_8 : decode cX1_takeNext 8 = .ok (.getfield 65, 3) := by decide +kernel
theorem dX1_takeNext_11 : decode cX1_takeNext 11 = .ok (.iload 4, 2) := by decide +kernel
theorem dX1_takeNext_13 : decode cX1_takeNext 13 = .ok (.invokevirtual 51, 3) := by decide +kernel
theorem dX1_takeNext_16 : decode cX1_takeNext 16 = .ok (.aload_n 0, 1) := by decide +kernel
theorem dX1_takeNext_17 : decode cX1_takeNext 17 = .ok (.getfield 14, 3) := by decide +kernel
theorem dX1_takeNext_20 : decode cX1_takeNext 20 = .ok (.iload_n 2, 1) := by decide +kernel
theorem dX1_takeNext_21 : decode cX1_takeNext 21 = .ok (.invokevirtual 51, 3) := by decide +kernel
theorem dX1_takeNext_24 : decode cX1_takeNext 24 = .ok (.imul, 1) := by decide +kernel
theorem dX1_takeNext_25 : decode cX1_takeNext 25 = .ok (.iadd, 1) := by decide +kernel
theorem dX1_takeNext_26 : decode cX1_takeNext 26 = .ok (.istore 5, 2) := by decide +kernel
theorem dX1_takeNext_28 : decode cX1_takeNext 28 = .ok (.aload_n 1, 1) := by decide +kernel
theorem dX1_takeNext_29 : decode cX1_takeNext 29 = .ok (.aload_n 0, 1) := by decide +kernel
theorem dX1_takeNext_30 : decode cX1_takeNext 30 = .ok (.getfield 27, 3) := by decide +kernel
theorem dX1_takeNext_33 : decode cX1_takeNext 33 = .ok (.aload_n 1, 1) := by decide +kernel
theorem dX1_takeNext_34 : decode cX1_takeNext 34 = .ok (.getfield 68, 3) := by decide +kernel
theorem dX1_takeNext_37 : decode cX1_takeNext 37 = .ok (.iload 4, 2) := by decide +kernel
theorem dX1_takeNext_39 : decode cX1_takeNext 39 = .ok (.iload_n 2, 1) := by decide +kernel
theorem dX1_takeNext_40 : decode cX1_takeNext 40 = .ok (.iload_n 3, 1) := by decide +kernel
theorem dX1_takeNext_41 : decode cX1_takeNext 41 = .ok (.iload 5, 2) := by decide +kernel
theorem dX1_takeNext_43 : decode cX1_takeNext 43 = .ok (.iconst 0, 1) := by decide +kernel
theorem dX1_takeNext_44 : decode cX1_takeNext 44 = .ok (.invokevirtual 71, 3) := by decide +kernel
theorem dX1_takeNext_47 : decode cX1_takeNext 47 = .ok (.iload 5, 2) := by decide +kernel
theorem dX1_takeNext_49 : decode cX1_takeNext 49 = .ok (.invokevirtual 77, 3) := by decide +kernel
theorem dX1_takeNext_52 : decode cX1_takeNext 52 = .ok (.aload_n 0, 1) := by decide +kernel
theorem dX1_takeNext_53 : decode cX1_takeNext 53 = .ok (.getfield 20, 3) := by decide +kernel
theorem dX1_takeNext_56 : decode cX1_takeNext 56 = .ok (.iload_n 2, 1) := by decide +kernel
theorem dX1_takeNext_57 : decode cX1_takeNext 57 = .ok (.iload 5, 2) := by decide +kernel
theorem dX1_takeNext_59 : decode cX1_takeNext 59 = .ok (.invokevirtual 31, 3) := by decide +kernel
theorem dX1_takeNext_62 : decode cX1_takeNext 62 = .ok (.return_, 1) := by decide +kernel
theorem dX1_takesCopy_0 : decode cX1_takesCopy 0 = .ok (.aload_n 1, 1) := by decide +kernel
theorem dX1_takesCopy_1 : decode cX1_takesCopy 1 = .ok (.iload_n 3, 1) := by decide +kernel
theorem dX1_takesCopy_2 : decode cX1_takesCopy 2 = .ok (.invokevirtual 80, 3) := by decide +kernel
theorem dX1_takesCopy_5 : decode cX1_takesCopy 5 = .ok (.istore 4, 2) := by decide +kernel
theorem dX1_takesCopy_7 : decode cX1_takesCopy 7 = .ok (.iload 4, 2) := by decide +kernel
theorem dX1_takesCopy_9 : decode cX1_takesCopy 9 = .ok (.aload_n 1, 1) := by decide +kernel
theorem dX1_takesCopy_10 : decode cX1_takesCopy 10 = .ok (.getfield 41, 3) := by decide +kernel
theorem dX1_takesCopy_13 : decode cX1_takesCopy 13 = .ok (.if_icmp .lt 5, 3) := by decide +kernel
theorem dX1_takesCopy_16 : decode cX1_takesCopy 16 = .ok (.iconst 0, 1) := by decide +kernel
theorem dX1_takesCopy_17 : decode cX1_takesCopy 17 = .ok (.ireturn, 1) := by decide +kernel
theorem dX1_takesCopy_18 : decode cX1_takesCopy 18 = .ok (.iload_n 3, 1) := by decide +kernel
theorem dX1_takesCopy_19 : decode cX1_takesCopy 19 = .ok (.aload_n 1, 1) := by decide +kernel
theorem dX1_takesCopy_20 : decode cX1_takesCopy 20 = .ok (.getfield 65, 3) := by decide +kernel
theorem dX1_takesCopy_23 : decode cX1_takesCopy 23 = .ok (.iload 4, 2) := by decide +kernel
theorem dX1_takesCopy_25 : decode cX1_takesCopy 25 = .ok (.invokevirtual 51, 3) := by decide +kernel
theorem dX1_takesCopy_28 : decode cX1_takesCopy 28 = .ok (.aload_n 0, 1) := by decide +kernel
theorem dX1_takesCopy_29 : decode cX1_takesCopy 29 = .ok (.getfield 14, 3) := by decide +kernel
theorem dX1_takesCopy_32 : decode cX1_takesCopy 32 = .ok (.iload_n 2, 1) := by decide +kernel
theorem dX1_takesCopy_33 : decode cX1_takesCopy 33 = .ok (.invokevirtual 51, 3) := by decide +kernel
theorem dX1_takesCopy_36 : decode cX1_takesCopy 36 = .ok (.imul, 1) := by decide +kernel
theorem dX1_takesCopy_37 : decode cX1_takesCopy 37 = .ok (.iadd, 1) := by decide +kernel
theorem dX1_takesCopy_38 : decode cX1_takesCopy 38 = .ok (.istore 5, 2) := by decide +kernel
theorem dX1_takesCopy_40 : decode cX1_takesCopy 40 = .ok (.iload 5, 2) := by decide +kernel
theorem dX1_takesCopy_42 : decode cX1_takesCopy 42 = .ok (.aload_n 1, 1) := by decide +kernel
theorem dX1_takesCopy_43 : decode cX1_takesCopy 43 = .ok (.getfield 83, 3) := by decide +kernel
theorem dX1_takesCopy_46 : decode cX1_takesCopy 46 = .ok (.iload 4, 2) := by decide +kernel
theorem dX1_takesCopy_48 : decode cX1_takesCopy 48 = .ok (.invokevirtual 51, 3) := by decide +kernel
theorem dX1_takesCopy_51 : decode cX1_takesCopy 51 = .ok (.if_icmp .lt 5, 3) := by decide +kernel
theorem dX1_takesCopy_54 : decode cX1_takesCopy 54 = .ok (.iconst 0, 1) := by decide +kernel
theorem dX1_takesCopy_55 : decode cX1_takesCopy 55 = .ok (.ireturn, 1) := by decide +kernel
theorem dX1_takesCopy_56 : decode cX1_takesCopy 56 = .ok (.aload_n 1, 1) := by decide +kernel
theorem dX1_takesCopy_57 : decode cX1_takesCopy 57 = .ok (.getfield 86, 3) := by decide +kernel
theorem dX1_takesCopy_60 : decode cX1_takesCopy 60 = .ok (.iload 4, 2) := by decide +kernel
theorem dX1_takesCopy_62 : decode cX1_takesCopy 62 = .ok (.invokevirtual 51, 3) := by decide +kernel
theorem dX1_takesCopy_65 : decode cX1_takesCopy 65 = .ok (.istore 6, 2) := by decide +kernel
theorem dX1_takesCopy_67 : decode cX1_takesCopy 67 = .ok (.aload_n 0, 1) := by decide +kernel
theorem dX1_takesCopy_68 : decode cX1_takesCopy 68 = .ok (.getfield 27, 3) := by decide +kernel
theorem dX1_takesCopy_71 : decode cX1_takesCopy 71 = .ok (.aload_n 1, 1) := by decide +kernel
theorem dX1_takesCopy_72 : decode cX1_takesCopy 72 = .ok (.getfield 68, 3) := by decide +kernel
theorem dX1_takesCopy_75 : decode cX1_takesCopy 75 = .ok (.iload 4, 2) := by decide +kernel
theorem dX1_takesCopy_77 : decode cX1_takesCopy 77 = .ok (.iload_n 2, 1) := by decide +kernel
theorem dX1_takesCopy_78 : decode cX1_takesCopy 78 = .ok (.iload_n 3, 1) := by decide +kernel
theorem dX1_takesCopy_79 : decode cX1_takesCopy 79 = .ok (.iload 5, 2) := by decide +kernel
theorem dX1_takesCopy_81 : decode cX1_takesCopy 81 = .ok (.iconst 1, 1) := by decide +kernel
theorem dX1_takesCopy_82 : decode cX1_takesCopy 82 = .ok (.invokevirtual 71, 3) := by decide +kernel
theorem dX1_takesCopy_85 : decode cX1_takesCopy 85 = .ok (.pop, 1) := by decide +kernel
theorem dX1_takesCopy_86 : decode cX1_takesCopy 86 = .ok (.aload_n 0, 1) := by decide +kernel
theorem dX1_takesCopy_87 : decode cX1_takesCopy 87 = .ok (.getfield 27, 3) := by decide +kernel
theorem dX1_takesCopy_90 : decode cX1_takesCopy 90 = .ok (.getfield 89, 3) := by decide +kernel
theorem dX1_takesCopy_93 : decode cX1_takesCopy 93 = .ok (.iload 6, 2) := by decide +kernel
theorem dX1_takesCopy_95 : decode cX1_takesCopy 95 = .ok (.iload 5, 2) := by decide +kernel
theorem dX1_takesCopy_97 : decode cX1_takesCopy 97 = .ok (.invokevirtual 31, 3) := by decide +kernel
theorem dX1_takesCopy_100 : decode cX1_takesCopy 100 = .ok (.aload_n 1, 1) := by decide +kernel
theorem dX1_takesCopy_101 : decode cX1_takesCopy 101 = .ok (.iload 4, 2) := by decide +kernel
theorem dX1_takesCopy_103 : decode cX1_takesCopy 103 = .ok (.iload 5, 2) := by decide +kernel
theorem dX1_takesCopy_105 : decode cX1_takesCopy 105 = .ok (.invokevirtual 90, 3) := by decide +kernel
theorem dX1_takesCopy_108 : decode cX1_takesCopy 108 = .ok (.aload_n 0, 1) := by decide +kernel
theorem dX1_takesCopy_109 : decode cX1_takesCopy 109 = .ok (.getfield 20, 3) := by decide +kernel
theorem dX1_takesCopy_112 : decode cX1_takesCopy 112 = .ok (.iload_n 2, 1) := by decide +kernel
theorem dX1_takesCopy_113 : decode cX1_takesCopy 113 = .ok (.iload 5, 2) := by decide +kernel
theorem dX1_takesCopy_115 : decode cX1_takesCopy 115 = .ok (.invokevirtual 31, 3) := by decide +kernel
theorem dX1_takesCopy_118 : decode cX1_takesCopy 118 = .ok (.aload_n 0, 1) := by decide +kernel
theorem dX1_takesCopy_119 : decode cX1_takesCopy 119 = .ok (.getfield 20, 3) := by decide +kernel
theorem dX1_takesCopy_122 : decode cX1_takesCopy 122 = .ok (.aload_n 0, 1) := by decide +kernel
theorem dX1_takesCopy_123 : decode cX1_takesCopy 123 = .ok (.getfield 27, 3) := by decide +kernel
theorem dX1_takesCopy_126 : decode cX1_takesCopy 126 = .ok (.getfield 93, 3) := by decide +kernel
theorem dX1_takesCopy_129 : decode cX1_takesCopy 129 = .ok (.iload 6, 2) := by decide +kernel
theorem dX1_takesCopy_131 : decode cX1_takesCopy 131 = .ok (.invokevirtual 51, 3) := by decide +kernel
theorem dX1_takesCopy_134 : decode cX1_takesCopy 134 = .ok (.iload 5, 2) := by decide +kernel
theorem dX1_takesCopy_136 : decode cX1_takesCopy 136 = .ok (.invokevirtual 31, 3) := by decide +kernel
theorem dX1_takesCopy_139 : decode cX1_takesCopy 139 = .ok (.iconst 1, 1) := by decide +kernel
theorem dX1_takesCopy_140 : decode cX1_takesCopy 140 = .ok (.ireturn, 1) := by decide +kernel
theorem dX2_init_0 : decode cX2_init 0 = .ok (.aload_n 0, 1) := by decide +kernel
theorem dX2_init_1 : decode cX2_init 1 = .ok (.invokespecial 3, 3) := by decide +kernel
theorem dX2_init_4 : decode cX2_init 4 = .ok (.aload_n 0, 1) := by decide +kernel
theorem dX2_init_5 : decode cX2_init 5 = .ok (.new 9, 3) := by decide +kernel
theorem dX2_init_8 : decode cX2_init 8 = .ok (.dup, 1) := by decide +kernel
theorem dX2_init_9 : decode cX2_init 9 = .ok (.invokespecial 11, 3) := by decide +kernel
theorem dX2_init_12 : decode cX2_init 12 = .ok (.putfield 12, 3) := by decide +kernel
theorem dX2_init_15 : decode cX2_init 15 = .ok (.aload_n 0, 1) := by decide +kernel
theorem dX2_init_16 : decode cX2_init 16 = .ok (.new 18, 3) := by decide +kernel
theorem dX2_init_19 : decode cX2_init 19 = .ok (.dup, 1) := by decide +kernel
theorem dX2_init_20 : decode cX2_init 20 = .ok (.getstatic 20, 3) := by decide +kernel
theorem dX2_init_23 : decode cX2_init 23 = .ok (.iconst (-1), 1) := by decide +kernel
theorem dX2_init_24 : decode cX2_init 24 = .ok (.iconst (-1), 1) := by decide +kernel
theorem dX2_init_25 : decode cX2_init 25 = .ok (.iconst 0, 1) := by decide +kernel
theorem dX2_init_26 : decode cX2_init 26 = .ok (.iconst 0, 1) := by decide +kernel
theorem dX2_init_27 : decode cX2_init 27 = .ok (.invokespecial 26, 3) := by decide +kernel
theorem dX2_init_30 : decode cX2_init 30 = .ok (.putfield 29, 3) := by decide +kernel
theorem dX2_init_33 : decode cX2_init 33 = .ok (.aload_n 0, 1) := by decide +kernel
theorem dX2_init_34 : decode cX2_init 34 = .ok (.iconst 4, 1) := by decide +kernel
theorem dX2_init_35 : decode cX2_init 35 = .ok (.putfield 33, 3) := by decide +kernel
theorem dX2_init_38 : decode cX2_init 38 = .ok (.return_, 1) := by decide +kernel
theorem dX2_size_0 : decode cX2_size 0 = .ok (.aload_n 0, 1) := by decide +kernel
theorem dX2_size_1 : decode cX2_size 1 = .ok (.getfield 12, 3) := by decide +kernel
theorem dX2_size_4 : decode cX2_size 4 = .ok (.invokevirtual 37, 3) := by decide +kernel
theorem dX2_size_7 : decode cX2_size 7 = .ok (.ireturn, 1) := by decide +kernel
theorem dX2_at_0 : decode cX2_at 0 = .ok (.iload_n 1, 1) := by decide +kernel
theorem dX2_at_1 : decode cX2_at 1 = .ok (.ifCond .lt 28, 3) := by decide +kernel
theorem dX2_at_4 : decode cX2_at 4 = .ok (.iload_n 1, 1) := by decide +kernel
theorem dX2_at_5 : decode cX2_at 5 = .ok (.aload_n 0, 1) := by decide +kernel
theorem dX2_at_6 : decode cX2_at 6 = .ok (.getfield 12, 3) := by decide +kernel
theorem dX2_at_9 : decode cX2_at 9 = .ok (.invokevirtual 37, 3) := by decide +kernel
theorem dX2_at_12 : decode cX2_at 12 = .ok (.if_icmp .ge 17, 3) := by decide +kernel
theorem dX2_at_15 : decode cX2_at 15 = .ok (.aload_n 0, 1) := by decide +kernel
theorem dX2_at_16 : decode cX2_at 16 = .ok (.getfield 12, 3) := by decide +kernel
theorem dX2_at_19 : decode cX2_at 19 = .ok (.iload_n 1, 1) := by decide +kernel
theorem dX2_at_20 : decode cX2_at 20 = .ok (.invokevirtual 41, 3) := by decide +kernel
theorem dX2_at_23 : decode cX2_at 23 = .ok (.checkcast 18, 3) := by decide +kernel
theorem dX2_at_26 : decode cX2_at 26 = .ok (.goto 7, 3) := by decide +kernel
theorem dX2_at_29 : decode cX2_at 29 = .ok (.aload_n 0, 1) := by decide +kernel
theorem dX2_at_30 : decode cX2_at 30 = .ok (.getfield 29, 3) := by decide +kernel
theorem dX2_at_33 : decode cX2_at 33 = .ok (.areturn, 1) := by decide +kernel
theorem dX2_add_0 : decode cX2_add 0 = .ok (.aload_n 0, 1) := by decide +kernel
theorem dX2_add_1 : decode cX2_add 1 = .ok (.getfield 12, 3) := by decide +kernel
theorem dX2_add_4 : decode cX2_add 4 = .ok (.invokevirtual 37, 3) := by decide +kernel
theorem dX2_add_7 : decode cX2_add 7 = .ok (.istore_n 2, 1) := by decide +kernel
theorem dX2_add_8 : decode cX2_add 8 = .ok (.aload_n 0, 1) := by decide +kernel
theorem dX2_add_9 : decode cX2_add 9 = .ok (.aload_n 1, 1) := by decide +kernel
theorem dX2_add_10 : decode cX2_add 10 = .ok (.getfield 45, 3) := by decide +kernel
theorem dX2_add_13 : decode cX2_add 13 = .ok (.invokevirtual 48, 3) := by decide +kernel
theorem dX2_add_16 : decode cX2_add 16 = .ok (.getfield 52, 3) := by decide +kernel
theorem dX2_add_19 : decode cX2_add 19 = .ok (.aload_n 0, 1) := by decide +kernel
theorem dX2_add_20 : decode cX2_add 20 = .ok (.aload_n 1, 1) := by decide +kernel
theorem dX2_add_21 : decode cX2_add 21 = .ok (.getfield 55, 3) := by decide +kernel
theorem dX2_add_24 : decode cX2_add 24 = .ok (.invokevirtual 48, 3) := by decide +kernel
theorem dX2_add_27 : decode cX2_add 27 = .ok (.getfield 52, 3) := by decide +kernel
theorem dX2_add_30 : decode cX2_add 30 = .ok (.ior, 1) := by decide +kernel
theorem dX2_add_31 : decode cX2_add 31 = .ok (.istore_n 3, 1) := by decide +kernel
theorem dX2_add_32 : decode cX2_add 32 = .ok (.aload_n 1, 1) := by decide +kernel
theorem dX2_add_33 : decode cX2_add 33 = .ok (.iload_n 3, 1) := by decide +kernel
theorem dX2_add_34 : decode cX2_add 34 = .ok (.iload_n 2, 1) := by decide +kernel
theorem dX2_add_35 : decode cX2_add 35 = .ok (.invokestatic 58, 3) := by decide +kernel
theorem dX2_add_38 : decode cX2_add 38 = .ok (.putfield 52, 3) := by decide +kernel
theorem dX2_add_41 : decode cX2_add 41 = .ok (.aload_n 0, 1) := by decide +kernel
theorem dX2_add_42 : decode cX2_add 42 = .ok (.getfield 12, 3) := by decide +kernel
theorem dX2_add_45 : decode cX2_add 45 = .ok (.aload_n 1, 1) := by decide +kernel
theorem dX2_add_46 : decode cX2_add 46 = .ok (.invokevirtual 62, 3) := by decide +kernel
theorem dX2_add_49 : decode cX2_add 49 = .ok (.pop, 1) := by decide +kernel
theorem dX2_add_50 : decode cX2_add 50 = .ok (.iload_n 2, 1) := by decide +kernel
theorem dX2_add_51 : decode cX2_add 51 = .ok (.ireturn, 1) := by decide +kernel
theorem dX3_init_0 : decode cX3_init 0 = .ok (.aload_n 0, 1) := by decide +kernel
theorem dX3_init_1 : decode cX3_init 1 = .ok (.invokespecial 3, 3) := by decide +kernel
theorem dX3_init_4 : decode cX3_init 4 = .ok (.aload_n 0, 1) := by decide +kernel
theorem dX3_init_5 : decode cX3_init 5 = .ok (.new 9, 3) := by decide +kernel
theorem dX3_init_8 : decode cX3_init 8 = .ok (.dup, 1) := by decide +kernel
theorem dX3_init_9 : decode cX3_init 9 = .ok (.sipush 300, 3) := by decide +kernel
theorem dX3_init_12 : decode cX3_init 12 = .ok (.invokespecial 11, 3) := by decide +kernel
theorem dX3_init_15 : decode cX3_init 15 = .ok (.putfield 14, 3) := by decide +kernel
theorem dX3_init_18 : decode cX3_init 18 = .ok (.aload_n 0, 1) := by decide +kernel
theorem dX3_init_19 : decode cX3_init 19 = .ok (.aload_n 1, 1) := by decide +kernel
theorem dX3_init_20 : decode cX3_init 20 = .ok (.putfield 20, 3) := by decide +kernel
theorem dX3_init_23 : decode cX3_init 23 = .ok (.aload_n 0, 1) := by decide +kernel
theorem dX3_init_24 : decode cX3_init 24 = .ok (.iload_n 2, 1) := by decide +kernel
theorem dX3_init_25 : decode cX3_init 25 = .ok (.putfield 24, 3) := by decide +kernel
theorem dX3_init_28 : decode cX3_init 28 = .ok (.return_, 1) := by decide +kernel
theorem dX3_of_0 : decode cX3_of 0 = .ok (.aload_n 0, 1) := by decide +kernel
theorem dX3_of_1 : decode cX3_of 1 = .ok (.getfield 20, 3) := by decide +kernel
theorem dX3_of_4 : decode cX3_of 4 = .ok (.iload_n 1, 1) := by decide +kernel
theorem dX3_of_5 : decode cX3_of 5 = .ok (.invokevirtual 28, 3) := by decide +kernel
theorem dX3_of_8 : decode cX3_of 8 = .ok (.astore_n 2, 1) := by decide +kernel
theorem dX3_of_9 : decode cX3_of 9 = .ok (.aload_n 0, 1) := by decide +kernel
theorem dX3_of_10 : decode cX3_of 10 = .ok (.getfield 24, 3) := by decide +kernel
theorem dX3_of_13 : decode cX3_of 13 = .ok (.ifCond .eq 10, 3) := by decide +kernel
theorem dX3_of_16 : decode cX3_of 16 = .ok (.aload_n 2, 1) := by decide +kernel
theorem dX3_of_17 : decode cX3_of 17 = .ok (.getfield 34, 3) := by decide +kernel
theorem dX3_of_20 : decode cX3_of 20 = .ok (.goto 7, 3) := by decide +kernel
theorem dX3_of_23 : decode cX3_of 23 = .ok (.aload_n 2, 1) := by decide +kernel
theorem dX3_of_24 : decode cX3_of 24 = .ok (.getfield 39, 3) := by decide +kernel
theorem dX3_of_27 : decode cX3_of 27 = .ok (.areturn, 1) := by decide +kernel
theorem dX3_forgetAll_0 : decode cX3_forgetAll 0 = .ok (.aload_n 0, 1) := by decide +kernel
theorem dX3_forgetAll_1 : decode cX3_forgetAll 1 = .ok (.iconst 0, 1) := by decide +kernel
theorem dX3_forgetAll_2 : decode cX3_forgetAll 2 = .ok (.putfield 42, 3) := by decide +kernel
theorem dX3_forgetAll_5 : decode cX3_forgetAll 5 = .ok (.return_, 1) := by decide +kernel
theorem dX3_forgetAllOf_0 : decode cX3_forgetAllOf 0 = .ok (.iload_n 1, 1) := by decide +kernel
theorem dX3_forgetAllOf_1 : decode cX3_forgetAllOf 1 = .ok (.istore_n 2, 1) := by decide +kernel
theorem dX3_forgetAllOf_2 : decode cX3_forgetAllOf 2 = .ok (.iload_n 2, 1) := by decide +kernel
theorem dX3_forgetAllOf_3 : decode cX3_forgetAllOf 3 = .ok (.bipush 14, 2) := by decide +kernel
theorem dX3_forgetAllOf_5 : decode cX3_forgetAllOf 5 = .ok (.if_icmp .ge 43, 3) := by decide +kernel
theorem dX3_forgetAllOf_8 : decode cX3_forgetAllOf 8 = .ok (.aload_n 0, 1) := by decide +kernel
theorem dX3_forgetAllOf_9 : decode cX3_forgetAllOf 9 = .ok (.getfield 20, 3) := by decide +kernel
theorem dX3_forgetAllOf_12 : decode cX3_forgetAllOf 12 = .ok (.iload_n 2, 1) := by decide +kernel
theorem dX3_forgetAllOf_13 : decode cX3_forgetAllOf 13 = .ok (.invokevirtual 28, 3) := by decide +kernel
theorem dX3_forgetAllOf_16 : decode cX3_forgetAllOf 16 = .ok (.getfield 46, 3) := by decide +kernel
theorem dX3_forgetAllOf_19 : decode cX3_forgetAllOf 19 = .ok (.iload_n 1, 1) := by decide +kernel
theorem dX3_forgetAllOf_20 : decode cX3_forgetAllOf 20 = .ok (.invokestatic 49, 3) := by decide +kernel
theorem dX3_forgetAllOf_23 : decode cX3_forgetAllOf 23 = .ok (.ifCond .eq 19, 3) := by decide +kernel
theorem dX3_forgetAllOf_26 : decode cX3_forgetAllOf 26 = .ok (.aload_n 0, 1) := by decide +kernel
theorem dX3_forgetAllOf_27 : decode cX3_forgetAllOf 27 = .ok (.dup, 1) := by decide +kernel
theorem dX3_forgetAllOf_28 : decode cX3_forgetAllOf 28 = .ok (.getfield 42, 3) := by decide +kernel
theorem dX3_forgetAllOf_31 : decode cX3_forgetAllOf 31 = .ok (.iconst 0, 1) := by decide +kernel
theorem dX3_forgetAllOf_32 : decode cX3_forgetAllOf 32 = .ok (.iload_n 2, 1) := by decide +kernel
theorem dX3_forgetAllOf_33 : decode cX3_forgetAllOf 33 = .ok (.invokestatic 53, 3) := by decide +kernel
theorem dX3_forgetAllOf_36 : decode cX3_forgetAllOf 36 = .ok (.iconst (-1), 1) := by decide +kernel
theorem dX3_forgetAllOf_37 : decode cX3_forgetAllOf 37 = .ok (.ixor, 1) := by decide +kernel
theorem dX3_forgetAllOf_38 : decode cX3_forgetAllOf 38 = .ok (.iand, 1) := by decide +kernel
theorem dX3_forgetAllOf_39 : decode cX3_forgetAllOf 39 = .ok (.putfield 42, 3) := by decide +kernel
theorem dX3_forgetAllOf_42 : decode cX3_forgetAllOf 42 = .ok (.iinc 2 1, 3) := by decide +kernel
theorem dX3_forgetAllOf_45 : decode cX3_forgetAllOf 45 = .ok (.goto (-43), 3) := by decide +kernel
theorem dX3_forgetAllOf_48 : decode cX3_forgetAllOf 48 = .ok (.return_, 1) := by decide +kernel
theorem dX3_freshRows_0 : decode cX3_freshRows 0 = .ok (.aload_n 0, 1) := by decide +kernel
theorem dX3_freshRows_1 : decode cX3_freshRows 1 = .ok (.getfield 20, 3) := by decide +kernel
theorem dX3_freshRows_4 : decode cX3_freshRows 4 = .ok (.iload_n 1, 1) := by decide +kernel
theorem dX3_freshRows_5 : decode cX3_freshRows 5 = .ok (.invokevirtual 28, 3) := by decide +kernel
theorem dX3_freshRows_8 : decode cX3_freshRows 8 = .ok (.getfield 46, 3) := by decide +kernel
theorem dX3_freshRows_11 : decode cX3_freshRows 11 = .ok (.aload_n 0, 1) := by decide +kernel
theorem dX3_freshRows_12 : decode cX3_freshRows 12 = .ok (.getfield 42, 3) := by decide +kernel
theorem dX3_freshRows_15 : decode cX3_freshRows 15 = .ok (.iconst (-1), 1) := by decide +kernel
theorem dX3_freshRows_16 : decode cX3_freshRows 16 = .ok (.ixor, 1) := by decide +kernel
theorem dX3_freshRows_17 : decode cX3_freshRows 17 = .ok (.iand, 1) := by decide +kernel
theorem dX3_freshRows_18 : decode cX3_freshRows 18 = .ok (.istore_n 2, 1) := by decide +kernel
theorem dX3_freshRows_19 : decode cX3_freshRows 19 = .ok (.iconst 0, 1) := by decide +kernel
theorem dX3_freshRows_20 : decode cX3_freshRows 20 = .ok (.istore_n 3, 1) := by decide +kernel
theorem dX3_freshRows_21 : decode cX3_freshRows 21 = .ok (.iload_n 3, 1) := by decide +kernel
theorem dX3_freshRows_22 : decode cX3_freshRows 22 = .ok (.bipush 14, 2) := by decide +kernel
theorem dX3_freshRows_24 : decode cX3_freshRows 24 = .ok (.if_icmp .ge 46, 3) := by decide +kernel
theorem dX3_freshRows_27 : decode cX3_freshRows 27 = .ok (.iload_n 2, 1) := by decide +kernel
theorem dX3_freshRows_28 : decode cX3_freshRows 28 = .ok (.iload_n 3, 1) := by decide +kernel
theorem dX3_freshRows_29 : decode cX3_freshRows 29 = .ok (.invokestatic 49, 3) := by decide +kernel
theorem dX3_freshRows_32 : decode cX3_freshRows 32 = .ok (.ifCond .eq 32, 3) := by decide +kernel
theorem dX3_freshRows_35 : decode cX3_freshRows 35 = .ok (.aload_n 0, 1) := by decide +kernel
theorem dX3_freshRows_36 : decode cX3_freshRows 36 = .ok (.aload_n 0, 1) := by decide +kernel
theorem dX3_freshRows_37 : decode cX3_freshRows 37 = .ok (.getfield 20, 3) := by decide +kernel
theorem dX3_freshRows_40 : decode cX3_freshRows 40 = .ok (.iload_n 3, 1) := by decide +kernel
theorem dX3_freshRows_41 : decode cX3_freshRows 41 = .ok (.invokevirtual 28, 3) := by decide +kernel
theorem dX3_freshRows_44 : decode cX3_freshRows 44 = .ok (.aload_n 0, 1) := by decide +kernel
theorem dX3_freshRows_45 : decode cX3_freshRows 45 = .ok (.iload_n 3, 1) := by decide +kernel
theorem dX3_freshRows_46 : decode cX3_freshRows 46 = .ok (.invokevirtual 57, 3) := by decide +kernel
theorem dX3_freshRows_49 : decode cX3_freshRows 49 = .ok (.invokevirtual 61, 3) := by decide +kernel
theorem dX3_freshRows_52 : decode cX3_freshRows 52 = .ok (.aload_n 0, 1) := by decide +kernel
theorem dX3_freshRows_53 : decode cX3_freshRows 53 = .ok (.aload_n 0, 1) := by decide +kernel
theorem dX3_freshRows_54 : decode cX3_freshRows 54 = .ok (.getfield 42, 3) := by decide +kernel
theorem dX3_freshRows_57 : decode cX3_freshRows 57 = .ok (.iload_n 3, 1) := by decide +kernel
theorem dX3_freshRows_58 : decode cX3_freshRows 58 = .ok (.invokestatic 53, 3) := by decide +kernel
theorem dX3_freshRows_61 : decode cX3_freshRows 61 = .ok (.putfield 42, 3) := by decide +kernel
theorem dX3_freshRows_64 : decode cX3_freshRows 64 = .ok (.iinc 3 1, 3) := by decide +kernel
theorem dX3_freshRows_67 : decode cX3_freshRows 67 = .ok (.goto (-46), 3) := by decide +kernel
theorem dX3_freshRows_70 : decode cX3_freshRows 70 = .ok (.aload_n 0, 1) := by decide +kernel
theorem dX3_freshRows_71 : decode cX3_freshRows 71 = .ok (.iload_n 1, 1) := by decide +kernel
theorem dX3_freshRows_72 : decode cX3_freshRows 72 = .ok (.invokevirtual 57, 3) := by decide +kernel
theorem dX3_freshRows_75 : decode cX3_freshRows 75 = .ok (.areturn, 1) := by decide +kernel
theorem dX3_joinsBroadly_0 : decode cX3_joinsBroadly 0 = .ok (.aload_n 0, 1) := by decide +kernel
theorem dX3_joinsBroadly_1 : decode cX3_joinsBroadly 1 = .ok (.getfield 20, 3) := by decide +kernel
theorem dX3_joinsBroadly_4 : decode cX3_joinsBroadly 4 = .ok (.iload_n 1, 1) := by decide +kernel
theorem dX3_joinsBroadly_5 : decode cX3_joinsBroadly 5 = .ok (.invokevirtual 28, 3) := by decide +kernel
theorem dX3_joinsBroadly_8 : decode cX3_joinsBroadly 8 = .ok (.astore_n 2, 1) := by decide +kernel
theorem dX3_joinsBroadly_9 : decode cX3_joinsBroadly 9 = .ok (.aload_n 2, 1) := by decide +kernel
theorem dX3_joinsBroadly_10 : decode cX3_joinsBroadly 10 = .ok (.getfield 65, 3) := by decide +kernel
theorem dX3_joinsBroadly_13 : decode cX3_joinsBroadly 13 = .ok (.getstatic 69, 3) := by decide +kernel
theorem dX3_joinsBroadly_16 : decode cX3_joinsBroadly 16 = .ok (.if_acmp .ne 28, 3) := by decide +kernel
theorem dX3_joinsBroadly_19 : decode cX3_joinsBroadly 19 = .ok (.aload_n 0, 1) := by decide +kernel
theorem dX3_joinsBroadly_20 : decode cX3_joinsBroadly 20 = .ok (.aload_n 2, 1) := by decide +kernel
theorem dX3_joinsBroadly_21 : decode cX3_joinsBroadly 21 = .ok (.getfield 74, 3) := by decide +kernel
theorem dX3_joinsBroadly_24 : decode cX3_joinsBroadly 24 = .ok (.invokevirtual 57, 3) := by decide +kernel
theorem dX3_joinsBroadly_27 : decode cX3_joinsBroadly 27 = .ok (.invokevirtual 77, 3) := by decide +kernel
theorem dX3_joinsBroadly_30 : decode cX3_joinsBroadly 30 = .ok (.aload_n 0, 1) := by decide +kernel
theorem dX3_joinsBroadly_31 : decode cX3_joinsBroadly 31 = .ok (.getfield 20, 3) := by decide +kernel
theorem dX3_joinsBroadly_34 : decode cX3_joinsBroadly 34 = .ok (.getfield 81, 3) := by decide +kernel
theorem dX3_joinsBroadly_37 : decode cX3_joinsBroadly 37 = .ok (.if_icmp .gt 7, 3) := by decide +kernel
theorem dX3_joinsBroadly_40 : decode cX3_joinsBroadly 40 = .ok (.iconst 1, 1) := by decide +kernel
theorem dX3_joinsBroadly_41 : decode cX3_joinsBroadly 41 = .ok (.goto 4, 3) := by decide +kernel
theorem dX3_joinsBroadly_44 : decode cX3_joinsBroadly 44 = .ok (.iconst 0, 1) := by decide +kernel
theorem dX3_joinsBroadly_45 : decode cX3_joinsBroadly 45 = .ok (.ireturn, 1) := by decide +kernel
theorem dX3_fill_0 : decode cX3_fill 0 = .ok (.aload_n 0, 1) := by decide +kernel
theorem dX3_fill_1 : decode cX3_fill 1 = .ok (.aload_n 1, 1) := by decide +kernel
theorem dX3_fill_2 : decode cX3_fill 2 = .ok (.getfield 84, 3) := by decide +kernel
theorem dX3_fill_5 : decode cX3_fill 5 = .ok (.invokevirtual 57, 3) := by decide +kernel
theorem dX3_fill_8 : decode cX3_fill 8 = .ok (.astore_n 3, 1) := by decide +kernel
theorem dX3_fill_9 : decode cX3_fill 9 = .ok (.aload_n 0, 1) := by decide +kernel
theorem dX3_fill_10 : decode cX3_fill 10 = .ok (.aload_n 1, 1) := by decide +kernel
theorem dX3_fill_11 : decode cX3_fill 11 = .ok (.getfield 74, 3) := by decide +kernel
theorem dX3_fill_14 : decode cX3_fill 14 = .ok (.invokevirtual 57, 3) := by decide +kernel
theorem dX3_fill_17 : decode cX3_fill 17 = .ok (.astore 4, 2) := by decide +kernel
theorem dX3_fill_19 : decode cX3_fill 19 = .ok (.aload_n 0, 1) := by decide +kernel
theorem dX3_fill_20 : decode cX3_fill 20 = .ok (.getfield 24, 3) := by decide +kernel
theorem dX3_fill_23 : decode cX3_fill 23 = .ok (.ifCond .eq 7, 3) := by decide +kernel
theorem dX3_fill_26 : decode cX3_fill 26 = .ok (.iconst 1, 1) := by decide +kernel
theorem dX3_fill_27 : decode cX3_fill 27 = .ok (.goto 7, 3) := by decide +kernel
theorem dX3_fill_30 : decode cX3_fill 30 = .ok (.aload_n 1, 1) := by decide +kernel
theorem dX3_fill_31 : decode cX3_fill 31 = .ok (.getfield 87, 3) := by decide +kernel
theorem dX3_fill_34 : decode cX3_fill 34 = .ok (.istore 5, 2) := by decide +kernel
theorem dX3_fill_36 : decode cX3_fill 36 = .ok (.aload_n 2, 1) := by decide +kernel
theorem dX3_fill_37 : decode cX3_fill 37 = .ok (.invokevirtual 90, 3) := by decide +kernel
theorem dX3_fill_40 : decode cX3_fill 40 = .ok (.aload_n 1, 1) := by decide +kernel
theorem dX3_fill_41 : decode cX3_fill 41 = .ok (.getfield 65, 3) := by decide +kernel
theorem dX3_fill_44 : decode cX3_fill 44 = .ok (.getstatic 93, 3) := by decide +kernel
theorem dX3_fill_47 : decode cX3_fill 47 = .ok (.if_acmp .ne 17, 3) := by decide +kernel
theorem dX3_fill_50 : decode cX3_fill 50 = .ok (.aload_n 0, 1) := by decide +kernel
theorem dX3_fill_51 : decode cX3_fill 51 = .ok (.aload_n 1, 1) := by decide +kernel
theorem dX3_fill_52 : decode cX3_fill 52 = .ok (.getfield 96, 3) := by decide +kernel
theorem dX3_fill_55 : decode cX3_fill 55 = .ok (.iload 5, 2) := by decide +kernel
theorem dX3_fill_57 : decode cX3_fill 57 = .ok (.aload_n 2, 1) := by decide +kernel
theorem dX3_fill_58 : decode cX3_fill 58 = .ok (.invokevirtual 99, 3) := by decide +kernel
theorem dX3_fill_61 : decode cX3_fill 61 = .ok (.goto 137, 3) := by decide +kernel
theorem dX3_fill_64 : decode cX3_fill 64 = .ok (.aload_n 1, 1) := by decide +kernel
theorem dX3_fill_65 : decode cX3_fill 65 = .ok (.getfield 65, 3) := by decide +kernel
theorem dX3_fill_68 : decode cX3_fill 68 = .ok (.getstatic 103, 3) := by decide +kernel
theorem dX3_fill_71 : decode cX3_fill 71 = .ok (.if_acmp .ne 13, 3) := by decide +kernel
theorem dX3_fill_74 : decode cX3_fill 74 = .ok (.aload_n 0, 1) := by decide +kernel
theorem dX3_fill_75 : decode cX3_fill 75 = .ok (.aload_n 3, 1) := by decide +kernel
theorem dX3_fill_76 : decode cX3_fill 76 = .ok (.aload_n 1, 1) := by decide +kernel
theorem dX3_fill_77 : decode cX3_fill 77 = .ok (.aload_n 2, 1) := by decide +kernel
theorem dX3_fill_78 : decode cX3_fill 78 = .ok (.invokevirtual 106, 3) := by decide +kernel
theorem dX3_fill_81 : decode cX3_fill 81 = .ok (.goto 117, 3) := by decide +kernel
theorem dX3_fill_84 : decode cX3_fill 84 = .ok (.aload_n 1, 1) := by decide +kernel
theorem dX3_fill_85 : decode cX3_fill 85 = .ok (.getfield 65, 3) := by decide +kernel
theorem dX3_fill_88 : decode cX3_fill 88 = .ok (.getstatic 110, 3) := by decide +kernel
theorem dX3_fill_91 : decode cX3_fill 91 = .ok (.if_acmp .ne 13, 3) := by decide +kernel
theorem dX3_fill_94 : decode cX3_fill 94 = .ok (.aload_n 0, 1) := by decide +kernel
theorem dX3_fill_95 : decode cX3_fill 95 = .ok (.aload_n 3, 1) := by decide +kernel
theorem dX3_fill_96 : decode cX3_fill 96 = .ok (.aload_n 1, 1) := by decide +kernel
theorem dX3_fill_97 : decode cX3_fill 97 = .ok (.aload_n 2, 1) := by decide +kernel
theorem dX3_fill_98 : decode cX3_fill 98 = .ok (.invokevirtual 113, 3) := by decide +kernel
theorem dX3_fill_101 : decode cX3_fill 101 = .ok (.goto 97, 3) := by decide +kernel
theorem dX3_fill_104 : decode cX3_fill 104 = .ok (.aload_n 1, 1) := by decide +kernel
theorem dX3_fill_105 : decode cX3_fill 105 = .ok (.getfield 65, 3) := by decide +kernel
theorem dX3_fill_108 : decode cX3_fill 108 = .ok (.getstatic 116, 3) := by decide +kernel
theorem dX3_fill_111 : decode cX3_fill 111 = .ok (.if_acmp .ne 14, 3) := by decide +kernel
theorem dX3_fill_114 : decode cX3_fill 114 = .ok (.aload_n 0, 1) := by decide +kernel
theorem dX3_fill_115 : decode cX3_fill 115 = .ok (.aload_n 3, 1) := by decide +kernel
theorem dX3_fill_116 : decode cX3_fill 116 = .ok (.aload 4, 2) := by decide +kernel
theorem dX3_fill_118 : decode cX3_fill 118 = .ok (.aload_n 2, 1) := by decide +kernel
theorem dX3_fill_119 : decode cX3_fill 119 = .ok (.invokevirtual 119, 3) := by decide +kernel
theorem dX3_fill_122 : decode cX3_fill 122 = .ok (.goto 76, 3) := by decide +kernel
theorem dX3_fill_125 : decode cX3_fill 125 = .ok (.aload_n 1, 1) := by decide +kernel
theorem dX3_fill_126 : decode cX3_fill 126 = .ok (.getfield 65, 3) := by decide +kernel
theorem dX3_fill_129 : decode cX3_fill 129 = .ok (.getstatic 123, 3) := by decide +kernel
theorem dX3_fill_132 : decode cX3_fill 132 = .ok (.if_acmp .ne 19, 3) := by decide +kernel
theorem dX3_fill_135 : decode cX3_fill 135 = .ok (.aload_n 0, 1) := by decide +kernel
theorem dX3_fill_136 : decode cX3_fill 136 = .ok (.aload_n 3, 1) := by decide +kernel
theorem dX3_fill_137 : decode cX3_fill 137 = .ok (.aload_n 1, 1) := by decide +kernel
theorem dX3_fill_138 : decode cX3_fill 138 = .ok (.invokevirtual 126, 3) := by decide +kernel
theorem dX3_fill_141 : decode cX3_fill 141 = .ok (.aload_n 0, 1) := by decide +kernel
theorem dX3_fill_142 : decode cX3_fill 142 = .ok (.iload 5, 2) := by decide +kernel
theorem dX3_fill_144 : decode cX3_fill 144 = .ok (.aload_n 2, 1) := by decide +kernel
theorem dX3_fill_145 : decode cX3_fill 145 = .ok (.invokevirtual 130, 3) := by decide +kernel
theorem dX3_fill_148 : decode cX3_fill 148 = .ok (.goto 50, 3) := by decide +kernel
theorem dX3_fill_151 : decode cX3_fill 151 = .ok (.aload_n 0, 1) := by decide +kernel
theorem dX3_fill_152 : decode cX3_fill 152 = .ok (.getfield 24, 3) := by decide +kernel
theorem dX3_fill_155 : decode cX3_fill 155 = .ok (.ifCond .ne 29, 3) := by decide +kernel
theorem dX3_fill_158 : decode cX3_fill 158 = .ok (.aload 4, 2) := by decide +kernel
theorem dX3_fill_160 : decode cX3_fill 160 = .ok (.invokevirtual 77, 3) := by decide +kernel
theorem dX3_fill_163 : decode cX3_fill 163 = .ok (.aload_n 0, 1) := by decide +kernel
theorem dX3_fill_164 : decode cX3_fill 164 = .ok (.getfield 20, 3) := by decide +kernel
theorem dX3_fill_167 : decode cX3_fill 167 = .ok (.getfield 81, 3) := by decide +kernel
theorem dX3_fill_170 : decode cX3_fill 170 = .ok (.if_icmp .gt 14, 3) := by decide +kernel
theorem dX3_fill_173 : decode cX3_fill 173 = .ok (.aload_n 0, 1) := by decide +kernel
theorem dX3_fill_174 : decode cX3_fill 174 = .ok (.aload_n 3, 1) := by decide +kernel
theorem dX3_fill_175 : decode cX3_fill 175 = .ok (.aload 4, 2) := by decide +kernel
theorem dX3_fill_177 : decode cX3_fill 177 = .ok (.aload_n 2, 1) := by decide +kernel
theorem dX3_fill_178 : decode cX3_fill 178 = .ok (.invokevirtual 134, 3) := by decide +kernel
theorem dX3_fill_181 : decode cX3_fill 181 = .ok (.goto 17, 3) := by decide +kernel
theorem dX3_fill_184 : decode cX3_fill 184 = .ok (.aload_n 0, 1) := by decide +kernel
theorem dX3_fill_185 : decode cX3_fill 185 = .ok (.aload_n 3, 1) := by decide +kernel
theorem dX3_fill_186 : decode cX3_fill 186 = .ok (.invokevirtual 137, 3) := by decide +kernel
theorem dX3_fill_189 : decode cX3_fill 189 = .ok (.aload_n 0, 1) := by decide +kernel
theorem dX3_fill_190 : decode cX3_fill 190 = .ok (.aload 4, 2) := by decide +kernel
theorem dX3_fill_192 : decode cX3_fill 192 = .ok (.iload 5, 2) := by decide +kernel
theorem dX3_fill_194 : decode cX3_fill 194 = .ok (.aload_n 2, 1) := by decide +kernel
theorem dX3_fill_195 : decode cX3_fill 195 = .ok (.invokevirtual 141, 3) := by decide +kernel
theorem dX3_fill_198 : decode cX3_fill 198 = .ok (.return_, 1) := by decide +kernel
theorem dX3_deal_0 : decode cX3_deal 0 = .ok (.iconst 0, 1) := by decide +kernel
theorem dX3_deal_1 : decode cX3_deal 1 = .ok (.istore 4, 2) := by decide +kernel
theorem dX3_deal_3 : decode cX3_deal 3 = .ok (.iload 4, 2) := by decide +kernel
theorem dX3_deal_5 : decode cX3_deal 5 = .ok (.iload_n 2, 1) := by decide +kernel
theorem dX3_deal_6 : decode cX3_deal 6 = .ok (.if_icmp .ge 58, 3) := by decide +kernel
theorem dX3_deal_9 : decode cX3_deal 9 = .ok (.iconst 0, 1) := by decide +kernel
theorem dX3_deal_10 : decode cX3_deal 10 = .ok (.istore 5, 2) := by decide +kernel
theorem dX3_deal_12 : decode cX3_deal 12 = .ok (.iload 5, 2) := by decide +kernel
theorem dX3_deal_14 : decode cX3_deal 14 = .ok (.aload_n 1, 1) := by decide +kernel
theorem dX3_deal_15 : decode cX3_deal 15 = .ok (.invokevirtual 77, 3) := by decide +kernel
theorem dX3_deal_18 : decode cX3_deal 18 = .ok (.if_icmp .ge 36, 3) := by decide +kernel
theorem dX3_deal_21 : decode cX3_deal 21 = .ok (.iload 5, 2) := by decide +kernel
theorem dX3_deal_23 : decode cX3_deal 23 = .ok (.iload_n 2, 1) := by decide +kernel
theorem dX3_deal_24 : decode cX3_deal 24 = .ok (.invokestatic 144, 3) := by decide +kernel
theorem dX3_deal_27 : decode cX3_deal 27 = .ok (.iload 4, 2) := by decide +kernel
theorem dX3_deal_29 : decode cX3_deal 29 = .ok (.if_icmp .ne 19, 3) := by decide +kernel
theorem dX3_deal_32 : decode cX3_deal 32 = .ok (.aload_n 3, 1) := by decide +kernel
theorem dX3_deal_33 : decode cX3_deal 33 = .ok (.aload_n 1, 1) := by decide +kernel
theorem dX3_deal_34 : decode cX3_deal 34 = .ok (.iload 5, 2) := by decide +kernel
theorem dX3_deal_36 : decode cX3_deal 36 = .ok (.invokevirtual 147, 3) := by decide +kernel
theorem dX3_deal_39 : decode cX3_deal 39 = .ok (.aload_n 1, 1) := by decide +kernel
theorem dX3_deal_40 : decode cX3_deal 40 = .ok (.iload 5, 2) := by decide +kernel
theorem dX3_deal_42 : decode cX3_deal 42 = .ok (.invokevirtual 151, 3) := by decide +kernel
theorem dX3_deal_45 : decode cX3_deal 45 = .ok (.invokevirtual 154, 3) := by decide +kernel
theorem dX3_deal_48 : decode cX3_deal 48 = .ok (.iinc 5 1, 3) := by decide +kernel
theorem dX3_deal_51 : decode cX3_deal 51 = .ok (.goto (-39), 3) := by decide +kernel
theorem dX3_deal_54 : decode cX3_deal 54 = .ok (.aload_n 3, 1) := by decide +kernel
theorem dX3_deal_55 : decode cX3_deal 55 = .ok (.invokevirtual 158, 3) := by decide +kernel
theorem dX3_deal_58 : decode cX3_deal 58 = .ok (.iinc 4 1, 3) := by decide +kernel
theorem dX3_deal_61 : decode cX3_deal 61 = .ok (.goto (-58), 3) := by decide +kernel
theorem dX3_deal_64 : decode cX3_deal 64 = .ok (.return_, 1) := by decide +kernel
theorem dX3_change_0 : decode cX3_change 0 = .ok (.iconst 0, 1) := by decide +kernel
theorem dX3_change_1 : decode cX3_change 1 = .ok (.istore 4, 2) := by decide +kernel
theorem dX3_change_3 : decode cX3_change 3 = .ok (.iload 4, 2) := by decide +kernel
theorem dX3_change_5 : decode cX3_change 5 = .ok (.aload_n 1, 1) := by decide +kernel
theorem dX3_change_6 : decode cX3_change 6 = .ok (.invokevirtual 161, 3) := by decide +kernel
theorem dX3_change_9 : decode cX3_change 9 = .ok (.if_icmp .ge 74, 3) := by decide +kernel
theorem dX3_change_12 : decode cX3_change 12 = .ok (.aload_n 1, 1) := by decide +kernel
theorem dX3_change_13 : decode cX3_change 13 = .ok (.iload 4, 2) := by decide +kernel
theorem dX3_change_15 : decode cX3_change 15 = .ok (.invokevirtual 164, 3) := by decide +kernel
theorem dX3_change_18 : decode cX3_change 18 = .ok (.istore 5, 2) := by decide +kernel
theorem dX3_change_20 : decode cX3_change 20 = .ok (.iload 5, 2) := by decide +kernel
theorem dX3_change_22 : decode cX3_change 22 = .ok (.aload_n 1, 1) := by decide +kernel
theorem dX3_change_23 : decode cX3_change 23 = .ok (.iload 4, 2) := by decide +kernel
theorem dX3_change_25 : decode cX3_change 25 = .ok (.invokevirtual 167, 3) := by decide +kernel
theorem dX3_change_28 : decode cX3_change 28 = .ok (.if_icmp .ge 45, 3) := by decide +kernel
theorem dX3_change_31 : decode cX3_change 31 = .ok (.aload_n 1, 1) := by decide +kernel
theorem dX3_change_32 : decode cX3_change 32 = .ok (.iload 5, 2) := by decide +kernel
theorem dX3_change_34 : decode cX3_change 34 = .ok (.invokevirtual 147, 3) := by decide +kernel
theorem dX3_change_37 : decode cX3_change 37 = .ok (.istore 6, 2) := by decide +kernel
theorem dX3_change_39 : decode cX3_change 39 = .ok (.aload_n 1, 1) := by decide +kernel
theorem dX3_change_40 : decode cX3_change 40 = .ok (.iload 5, 2) := by decide +kernel
theorem dX3_change_42 : decode cX3_change 42 = .ok (.invokevirtual 151, 3) := by decide +kernel
theorem dX3_change_45 : decode cX3_change 45 = .ok (.istore 7, 2) := by decide +kernel
theorem dX3_change_47 : decode cX3_change 47 = .ok (.aload_n 3, 1) := by decide +kernel
theorem dX3_change_48 : decode cX3_change 48 = .ok (.aload_n 2, 1) := by decide +kernel
theorem dX3_change_49 : decode cX3_change 49 = .ok (.iload 6, 2) := by decide +kernel
theorem dX3_change_51 : decode cX3_change 51 = .ok (.iload 7, 2) := by decide +kernel
theorem dX3_change_53 : decode cX3_change 53 = .ok (.invokevirtual 170, 3) := by decide +kernel
theorem dX3_change_56 : decode cX3_change 56 = .ok (.aload_n 2, 1) := by decide +kernel
theorem dX3_change_57 : decode cX3_change 57 = .ok (.iload 6, 2) := by decide +kernel
theorem dX3_change_59 : decode cX3_change 59 = .ok (.iload 7, 2) := by decide +kernel
theorem dX3_change_61 : decode cX3_change 61 = .ok (.invokevirtual 173, 3) := by decide +kernel
theorem dX3_change_64 : decode cX3_change 64 = .ok (.invokevirtual 154, 3) := by decide +kernel
theorem dX3_change_67 : decode cX3_change 67 = .ok (.iinc 5 1, 3) := by decide +kernel
theorem dX3_change_70 : decode cX3_change 70 = .ok (.goto (-50), 3) := by decide +kernel
theorem dX3_change_73 : decode cX3_change 73 = .ok (.aload_n 3, 1) := by decide +kernel
theorem dX3_change_74 : decode cX3_change 74 = .ok (.invokevirtual 158, 3) := by decide +kernel
theorem dX3_change_77 : decode cX3_change 77 = .ok (.iinc 4 1, 3) := by decide +kernel
theorem dX3_change_80 : decode cX3_change 80 = .ok (.goto (-77), 3) := by decide +kernel
theorem dX3_change_83 : decode cX3_change 83 = .ok (.return_, 1) := by decide +kernel
theorem dX3_sift_0 : decode cX3_sift 0 = .ok (.iconst 0, 1) := by decide +kernel
theorem dX3_sift_1 : decode cX3_sift 1 = .ok (.istore 4, 2) := by decide +kernel
theorem dX3_sift_3 : decode cX3_sift 3 = .ok (.iload 4, 2) := by decide +kernel
theorem dX3_sift_5 : decode cX3_sift 5 = .ok (.aload_n 1, 1) := by decide +kernel
theorem dX3_sift_6 : decode cX3_sift 6 = .ok (.invokevirtual 161, 3) := by decide +kernel
theorem dX3_sift_9 : decode cX3_sift 9 = .ok (.if_icmp .ge 76, 3) := by decide +kernel
theorem dX3_sift_12 : decode cX3_sift 12 = .ok (.aload_n 1, 1) := by decide +kernel
theorem dX3_sift_13 : decode cX3_sift 13 = .ok (.iload 4, 2) := by decide +kernel
theorem dX3_sift_15 : decode cX3_sift 15 = .ok (.invokevirtual 164, 3) := by decide +kernel
theorem dX3_sift_18 : decode cX3_sift 18 = .ok (.istore 5, 2) := by decide +kernel
theorem dX3_sift_20 : decode cX3_sift 20 = .ok (.iload 5, 2) := by decide +kernel
theorem dX3_sift_22 : decode cX3_sift 22 = .ok (.aload_n 1, 1) := by decide +kernel
theorem dX3_sift_23 : decode cX3_sift 23 = .ok (.iload 4, 2) := by decide +kernel
theorem dX3_sift_25 : decode cX3_sift 25 = .ok (.invokevirtual 167, 3) := by decide +kernel
theorem dX3_sift_28 : decode cX3_sift 28 = .ok (.if_icmp .ge 47, 3) := by decide +kernel
theorem dX3_sift_31 : decode cX3_sift 31 = .ok (.aload_n 1, 1) := by decide +kernel
theorem dX3_sift_32 : decode cX3_sift 32 = .ok (.iload 5, 2) := by decide +kernel
theorem dX3_sift_34 : decode cX3_sift 34 = .ok (.invokevirtual 151, 3) := by decide +kernel
theorem dX3_sift_37 : decode cX3_sift 37 = .ok (.istore 6, 2) := by decide +kernel
theorem dX3_sift_39 : decode cX3_sift 39 = .ok (.iload 6, 2) := by decide +kernel
theorem dX3_sift_41 : decode cX3_sift 41 = .ok (.aload_n 2, 1) := by decide +kernel
theorem dX3_sift_42 : decode cX3_sift 42 = .ok (.getfield 176, 3) := by decide +kernel
theorem dX3_sift_45 : decode cX3_sift 45 = .ok (.if_icmp .lt 24, 3) := by decide +kernel
theorem dX3_sift_48 : decode cX3_sift 48 = .ok (.iload 6, 2) := by decide +kernel
theorem dX3_sift_50 : decode cX3_sift 50 = .ok (.aload_n 2, 1) := by decide +kernel
theorem dX3_sift_51 : decode cX3_sift 51 = .ok (.getfield 179, 3) := by decide +kernel
theorem dX3_sift_54 : decode cX3_sift 54 = .ok (.if_icmp .gt 15, 3) := by decide +kernel
theorem dX3_sift_57 : decode cX3_sift 57 = .ok (.aload_n 3, 1) := by decide +kernel
theorem dX3_sift_58 : decode cX3_sift 58 = .ok (.aload_n 1, 1) := by decide +kernel
theorem dX3_sift_59 : decode cX3_sift 59 = .ok (.iload 5, 2) := by decide +kernel
theorem dX3_sift_61 : decode cX3_sift 61 = .ok (.invokevirtual 147, 3) := by decide +kernel
theorem dX3_sift_64 : decode cX3_sift 64 = .ok (.iload 6, 2) := by decide +kernel
theorem dX3_sift_66 : decode cX3_sift 66 = .ok (.invokevirtual 154, 3) := by decide +kernel
theorem dX3_sift_69 : decode cX3_sift 69 = .ok (.iinc 5 1, 3) := by decide +kernel
theorem dX3_sift_72 : decode cX3_sift 72 = .ok (.goto (-52), 3) := by decide +kernel
theorem dX3_sift_75 : decode cX3_sift 75 = .ok (.aload_n 3, 1) := by decide +kernel
theorem dX3_sift_76 : decode cX3_sift 76 = .ok (.invokevirtual 158, 3) := by decide +kernel
theorem dX3_sift_79 : decode cX3_sift 79 = .ok (.iinc 4 1, 3) := by decide +kernel
theorem dX3_sift_82 : decode cX3_sift 82 = .ok (.goto (-79), 3) := by decide +kernel
theorem dX3_sift_85 : decode cX3_sift 85 = .ok (.return_, 1) := by decide +kernel
theorem dX3_unite_0 : decode cX3_unite 0 = .ok (.aload_n 0, 1) := by decide +kernel
theorem dX3_unite_1 : decode cX3_unite 1 = .ok (.aload_n 1, 1) := by decide +kernel
theorem dX3_unite_2 : decode cX3_unite 2 = .ok (.aload_n 3, 1) := by decide +kernel
theorem dX3_unite_3 : decode cX3_unite 3 = .ok (.invokevirtual 182, 3) := by decide +kernel
theorem dX3_unite_6 : decode cX3_unite 6 = .ok (.aload_n 0, 1) := by decide +kernel
theorem dX3_unite_7 : decode cX3_unite 7 = .ok (.aload_n 2, 1) := by decide +kernel
theorem dX3_unite_8 : decode cX3_unite 8 = .ok (.aload_n 3, 1) := by decide +kernel
theorem dX3_unite_9 : decode cX3_unite 9 = .ok (.invokevirtual 182, 3) := by decide +kernel
theorem dX3_unite_12 : decode cX3_unite 12 = .ok (.aload_n 0, 1) := by decide +kernel
theorem dX3_unite_13 : decode cX3_unite 13 = .ok (.getfield 24, 3) := by decide +kernel
theorem dX3_unite_16 : decode cX3_unite 16 = .ok (.ifCond .eq 7, 3) := by decide +kernel
theorem dX3_unite_19 : decode cX3_unite 19 = .ok (.aload_n 3, 1) := by decide +kernel
theorem dX3_unite_20 : decode cX3_unite 20 = .ok (.invokevirtual 158, 3) := by decide +kernel
theorem dX3_unite_23 : decode cX3_unite 23 = .ok (.return_, 1) := by decide +kernel
theorem dX3_append_0 : decode cX3_append 0 = .ok (.iconst 0, 1) := by decide +kernel
theorem dX3_append_1 : decode cX3_append 1 = .ok (.istore_n 3, 1) := by decide +kernel
theorem dX3_append_2 : decode cX3_append 2 = .ok (.iload_n 3, 1) := by decide +kernel
theorem dX3_append_3 : decode cX3_append 3 = .ok (.aload_n 1, 1) := by decide +kernel
theorem dX3_append_4 : decode cX3_append 4 = .ok (.invokevirtual 161, 3) := by decide +kernel
theorem dX3_append_7 : decode cX3_append 7 = .ok (.if_icmp .ge 59, 3) := by decide +kernel
theorem dX3_append_10 : decode cX3_append 10 = .ok (.aload_n 1, 1) := by decide +kernel
theorem dX3_append_11 : decode cX3_append 11 = .ok (.iload_n 3, 1) := by decide +kernel
theorem dX3_append_12 : decode cX3_append 12 = .ok (.invokevirtual 164, 3) := by decide +kernel
theorem dX3_append_15 : decode cX3_append 15 = .ok (.istore 4, 2) := by decide +kernel
theorem dX3_append_17 : decode cX3_append 17 = .ok (.iload 4, 2) := by decide +kernel
theorem dX3_append_19 : decode cX3_append 19 = .ok (.aload_n 1, 1) := by decide +kernel
theorem dX3_append_20 : decode cX3_append 20 = .ok (.iload_n 3, 1) := by decide +kernel
theorem dX3_append_21 : decode cX3_append 21 = .ok (.invokevirtual 167, 3) := by decide +kernel
theorem dX3_append_24 : decode cX3_append 24 = .ok (.if_icmp .ge 25, 3) := by decide +kernel
theorem dX3_append_27 : decode cX3_append 27 = .ok (.aload_n 2, 1) := by decide +kernel
theorem dX3_append_28 : decode cX3_append 28 = .ok (.aload_n 1, 1) := by decide +kernel
theorem dX3_append_29 : decode cX3_append 29 = .ok (.iload 4, 2) := by decide +kernel
theorem dX3_append_31 : decode cX3_append 31 = .ok (.invokevirtual 147, 3) := by decide +kernel
theorem dX3_append_34 : decode cX3_append 34 = .ok (.aload_n 1, 1) := by decide +kernel
theorem dX3_append_35 : decode cX3_append 35 = .ok (.iload 4, 2) := by decide +kernel
theorem dX3_append_37 : decode cX3_append 37 = .ok (.invokevirtual 151, 3) := by decide +kernel
theorem dX3_append_40 : decode cX3_append 40 = .ok (.invokevirtual 154, 3) := by decide +kernel
theorem dX3_append_43 : decode cX3_append 43 = .ok (.iinc 4 1, 3) := by decide +kernel
theorem dX3_append_46 : decode cX3_append 46 = .ok (.goto (-29), 3) := by decide +kernel
theorem dX3_append_49 : decode cX3_append 49 = .ok (.aload_n 0, 1) := by decide +kernel
theorem dX3_append_50 : decode cX3_append 50 = .ok (.getfield 24, 3) := by decide +kernel
theorem dX3_append_53 : decode cX3_append 53 = .ok (.ifCond .ne 7, 3) := by decide +kernel
theorem dX3_append_56 : decode cX3_append 56 = .ok (.aload_n 2, 1) := by decide +kernel
theorem dX3_append_57 : decode cX3_append 57 = .ok (.invokevirtual 158, 3) := by decide +kernel
theorem dX3_append_60 : decode cX3_append 60 = .ok (.iinc 3 1, 3) := by decide +kernel
theorem dX3_append_63 : decode cX3_append 63 = .ok (.goto (-61), 3) := by decide +kernel
theorem dX3_append_66 : decode cX3_append 66 = .ok (.return_, 1) := by decide +kernel
theorem dX3_groupByKey_0 : decode cX3_groupByKey 0 = .ok (.aload_n 0, 1) := by decide +kernel
theorem dX3_groupByKey_1 : decode cX3_groupByKey 1 = .ok (.getfield 14, 3) := by decide +kernel
theorem dX3_groupByKey_4 : decode cX3_groupByKey 4 = .ok (.invokevirtual 90, 3) := by decide +kernel
theorem dX3_groupByKey_7 : decode cX3_groupByKey 7 = .ok (.iconst 0, 1) := by decide +kernel
theorem dX3_groupByKey_8 : decode cX3_groupByKey 8 = .ok (.istore_n 3, 1) := by decide +kernel
theorem dX3_groupByKey_9 : decode cX3_groupByKey 9 = .ok (.iload_n 3, 1) := by decide +kernel
theorem dX3_groupByKey_10 : decode cX3_groupByKey 10 = .ok (.aload_n 1, 1) := by decide +kernel
theorem dX3_groupByKey_11 : decode cX3_groupByKey 11 = .ok (.invokevirtual 77, 3) := by decide +kernel
theorem dX3_groupByKey_14 : decode cX3_groupByKey 14 = .ok (.if_icmp .ge 102, 3) := by decide +kernel
theorem dX3_groupByKey_17 : decode cX3_groupByKey 17 = .ok (.aload_n 1, 1) := by decide +kernel
theorem dX3_groupByKey_18 : decode cX3_groupByKey 18 = .ok (.iload_n 3, 1) := by decide +kernel
theorem dX3_groupByKey_19 : decode cX3_groupByKey 19 = .ok (.invokevirtual 147, 3) := by decide +kernel
theorem dX3_groupByKey_22 : decode cX3_groupByKey 22 = .ok (.istore 4, 2) := by decide +kernel
theorem dX3_groupByKey_24 : decode cX3_groupByKey 24 = .ok (.aload_n 1, 1) := by decide +kernel
theorem dX3_groupByKey_25 : decode cX3_groupByKey 25 = .ok (.iload_n 3, 1) := by decide +kernel
theorem dX3_groupByKey_26 : decode cX3_groupByKey 26 = .ok (.invokevirtual 151, 3) := by decide +kernel
theorem dX3_groupByKey_29 : decode cX3_groupByKey 29 = .ok (.istore 5, 2) := by decide +kernel
theorem dX3_groupByKey_31 : decode cX3_groupByKey 31 = .ok (.aload_n 0, 1) := by decide +kernel
theorem dX3_groupByKey_32 : decode cX3_groupByKey 32 = .ok (.getfield 14, 3) := by decide +kernel
theorem dX3_groupByKey_35 : decode cX3_groupByKey 35 = .ok (.iload 4, 2) := by decide +kernel
theorem dX3_groupByKey_37 : decode cX3_groupByKey 37 = .ok (.invokevirtual 186, 3) := by decide +kernel
theorem dX3_groupByKey_40 : decode cX3_groupByKey 40 = .ok (.istore 6, 2) := by decide +kernel
theorem dX3_groupByKey_42 : decode cX3_groupByKey 42 = .ok (.aload_n 0, 1) := by decide +kernel
theorem dX3_groupByKey_43 : decode cX3_groupByKey 43 = .ok (.getfield 14, 3) := by decide +kernel
theorem dX3_groupByKey_46 : decode cX3_groupByKey 46 = .ok (.iload 6, 2) := by decide +kernel
theorem dX3_groupByKey_48 : decode cX3_groupByKey 48 = .ok (.iconst 1, 1) := by decide +kernel
theorem dX3_groupByKey_49 : decode cX3_groupByKey 49 = .ok (.isub, 1) := by decide +kernel
theorem dX3_groupByKey_50 : decode cX3_groupByKey 50 = .ok (.iload 4, 2) := by decide +kernel
theorem dX3_groupByKey_52 : decode cX3_groupByKey 52 = .ok (.invokevirtual 189, 3) := by decide +kernel
theorem dX3_groupByKey_55 : decode cX3_groupByKey 55 = .ok (.ifCond .eq 38, 3) := by decide +kernel
theorem dX3_groupByKey_58 : decode cX3_groupByKey 58 = .ok (.aload_n 0, 1) := by decide +kernel
theorem dX3_groupByKey_59 : decode cX3_groupByKey 59 = .ok (.getfield 14, 3) := by decide +kernel
theorem dX3_groupByKey_62 : decode cX3_groupByKey 62 = .ok (.iload 6, 2) := by decide +kernel
theorem dX3_groupByKey_64 : decode cX3_groupByKey 64 = .ok (.iconst 1, 1) := by decide +kernel
theorem dX3_groupByKey_65 : decode cX3_groupByKey 65 = .ok (.isub, 1) := by decide +kernel
theorem dX3_groupByKey_66 : decode cX3_groupByKey 66 = .ok (.invokevirtual 151, 3) := by decide +kernel
theorem dX3_groupByKey_69 : decode cX3_groupByKey 69 = .ok (.istore 7, 2) := by decide +kernel
theorem dX3_groupByKey_71 : decode cX3_groupByKey 71 = .ok (.aload_n 0, 1) := by decide +kernel
theorem dX3_groupByKey_72 : decode cX3_groupByKey 72 = .ok (.getfield 14, 3) := by decide +kernel
theorem dX3_groupByKey_75 : decode cX3_groupByKey 75 = .ok (.iload 6, 2) := by decide +kernel
theorem dX3_groupByKey_77 : decode cX3_groupByKey 77 = .ok (.iconst 1, 1) := by decide +kernel
theorem dX3_groupByKey_78 : decode cX3_groupByKey 78 = .ok (.isub, 1) := by decide +kernel
theorem dX3_groupByKey_79 : decode cX3_groupByKey 79 = .ok (.aload_n 2, 1) := by decide +kernel
theorem dX3_groupByKey_80 : decode cX3_groupByKey 80 = .ok (.iload 7, 2) := by decide +kernel
theorem dX3_groupByKey_82 : decode cX3_groupByKey 82 = .ok (.iload 5, 2) := by decide +kernel
theorem dX3_groupByKey_84 : decode cX3_groupByKey 84 = .ok (.invokevirtual 192, 3) := by decide +kernel
theorem dX3_groupByKey_87 : decode cX3_groupByKey 87 = .ok (.invokevirtual 195, 3) := by decide +kernel
theorem dX3_groupByKey_90 : decode cX3_groupByKey 90 = .ok (.goto 20, 3) := by decide +kernel
theorem dX3_groupByKey_93 : decode cX3_groupByKey 93 = .ok (.aload_n 0, 1) := by decide +kernel
theorem dX3_groupByKey_94 : decode cX3_groupByKey 94 = .ok (.getfield 14, 3) := by decide +kernel
theorem dX3_groupByKey_97 : decode cX3_groupByKey 97 = .ok (.iload 6, 2) := by decide +kernel
theorem dX3_groupByKey_99 : decode cX3_groupByKey 99 = .ok (.iload 4, 2) := by decide +kernel
theorem dX3_groupByKey_101 : decode cX3_groupByKey 101 = .ok (.aload_n 2, 1) := by decide +kernel
theorem dX3_groupByKey_102 : decode cX3_groupByKey 102 = .ok (.iload 5, 2) := by decide +kernel
theorem dX3_groupByKey_104 : decode cX3_groupByKey 104 = .ok (.invokevirtual 198, 3) := by decide +kernel
theorem dX3_groupByKey_107 : decode cX3_groupByKey 107 = .ok (.invokevirtual 201, 3) := by decide +kernel
theorem dX3_groupByKey_110 : decode cX3_groupByKey 110 = .ok (.iinc 3 1, 3) := by decide +kernel
theorem dX3_groupByKey_113 : decode cX3_groupByKey 113 = .ok (.goto (-104), 3) := by decide +kernel
theorem dX3_groupByKey_116 : decode cX3_groupByKey 116 = .ok (.return_, 1) := by decide +kernel
theorem dX3_dealByKey_0 : decode cX3_dealByKey 0 = .ok (.iconst 0, 1) := by decide +kernel
theorem dX3_dealByKey_1 : decode cX3_dealByKey 1 = .ok (.istore_n 3, 1) := by decide +kernel
theorem dX3_dealByKey_2 : decode cX3_dealByKey 2 = .ok (.iload_n 3, 1) := by decide +kernel
theorem dX3_dealByKey_3 : decode cX3_dealByKey 3 = .ok (.iload_n 1, 1) := by decide +kernel
theorem dX3_dealByKey_4 : decode cX3_dealByKey 4 = .ok (.if_icmp .ge 70, 3) := by decide +kernel
theorem dX3_dealByKey_7 : decode cX3_dealByKey 7 = .ok (.iconst 0, 1) := by decide +kernel
theorem dX3_dealByKey_8 : decode cX3_dealByKey 8 = .ok (.istore 4, 2) := by decide +kernel
theorem dX3_dealByKey_10 : decode cX3_dealByKey 10 = .ok (.iload 4, 2) := by decide +kernel
theorem dX3_dealByKey_12 : decode cX3_dealByKey 12 = .ok (.aload_n 0, 1) := by decide +kernel
theorem dX3_dealByKey_13 : decode cX3_dealByKey 13 = .ok (.getfield 14, 3) := by decide +kernel
theorem dX3_dealByKey_16 : decode cX3_dealByKey 16 = .ok (.invokevirtual 77, 3) := by decide +kernel
theorem dX3_dealByKey_19 : decode cX3_dealByKey 19 = .ok (.if_icmp .ge 45, 3) := by decide +kernel
theorem dX3_dealByKey_22 : decode cX3_dealByKey 22 = .ok (.aload_n 0, 1) := by decide +kernel
theorem dX3_dealByKey_23 : decode cX3_dealByKey 23 = .ok (.getfield 14, 3) := by decide +kernel
theorem dX3_dealByKey_26 : decode cX3_dealByKey 26 = .ok (.iload 4, 2) := by decide +kernel
theorem dX3_dealByKey_28 : decode cX3_dealByKey 28 = .ok (.invokevirtual 147, 3) := by decide +kernel
theorem dX3_dealByKey_31 : decode cX3_dealByKey 31 = .ok (.istore 5, 2) := by decide +kernel
theorem dX3_dealByKey_33 : decode cX3_dealByKey 33 = .ok (.iload 5, 2) := by decide +kernel
theorem dX3_dealByKey_35 : decode cX3_dealByKey 35 = .ok (.iload_n 1, 1) := by decide +kernel
theorem dX3_dealByKey_36 : decode cX3_dealByKey 36 = .ok (.invokestatic 144, 3) := by decide +kernel
theorem dX3_dealByKey_39 : decode cX3_dealByKey 39 = .ok (.iload_n 3, 1) := by decide +kernel
theorem dX3_dealByKey_40 : decode cX3_dealByKey 40 = .ok (.if_icmp .ne 18, 3) := by decide +kernel
theorem dX3_dealByKey_43 : decode cX3_dealByKey 43 = .ok (.aload_n 2, 1) := by decide +kernel
theorem dX3_dealByKey_44 : decode cX3_dealByKey 44 = .ok (.iload 5, 2) := by decide +kernel
theorem dX3_dealByKey_46 : decode cX3_dealByKey 46 = .ok (.aload_n 0, 1) := by decide +kernel
theorem dX3_dealByKey_47 : decode cX3_dealByKey 47 = .ok (.getfield 14, 3) := by decide +kernel
theorem dX3_dealByKey_50 : decode cX3_dealByKey 50 = .ok (.iload 4, 2) := by decide +kernel
theorem dX3_dealByKey_52 : decode cX3_dealByKey 52 = .ok (.invokevirtual 151, 3) := by decide +kernel
theorem dX3_dealByKey_55 : decode cX3_dealByKey 55 = .ok (.invokevirtual 154, 3) := by decide +kernel
theorem dX3_dealByKey_58 : decode cX3_dealByKey 58 = .ok (.iinc 4 1, 3) := by decide +kernel
theorem dX3_dealByKey_61 : decode cX3_dealByKey 61 = .ok (.goto (-51), 3) := by decide +kernel
theorem dX3_dealByKey_64 : decode cX3_dealByKey 64 = .ok (.aload_n 2, 1) := by decide +kernel
theorem dX3_dealByKey_65 : decode cX3_dealByKey 65 = .ok (.invokevirtual 158, 3) := by decide +kernel
theorem dX3_dealByKey_68 : decode cX3_dealByKey 68 = .ok (.iinc 3 1, 3) := by decide +kernel
theorem dX3_dealByKey_71 : decode cX3_dealByKey 71 = .ok (.goto (-69), 3) := by decide +kernel
theorem dX3_dealByKey_74 : decode cX3_dealByKey 74 = .ok (.return_, 1) := by decide +kernel
theorem dX3_joinInOrder_0 : decode cX3_joinInOrder 0 = .ok (.iconst 0, 1) := by decide +kernel
theorem dX3_joinInOrder_1 : decode cX3_joinInOrder 1 = .ok (.istore 4, 2) := by decide +kernel
theorem dX3_joinInOrder_3 : decode cX3_joinInOrder 3 = .ok (.iload 4, 2) := by decide +kernel
theorem dX3_joinInOrder_5 : decode cX3_joinInOrder 5 = .ok (.aload_n 1, 1) := by decide +kernel
theorem dX3_joinInOrder_6 : decode cX3_joinInOrder 6 = .ok (.invokevirtual 161, 3) := by decide +kernel
theorem dX3_joinInOrder_9 : decode cX3_joinInOrder 9 = .ok (.if_icmp .ge 56, 3) := by decide +kernel
theorem dX3_joinInOrder_12 : decode cX3_joinInOrder 12 = .ok (.aload_n 1, 1) := by decide +kernel
theorem dX3_joinInOrder_13 : decode cX3_joinInOrder 13 = .ok (.iload 4, 2) := by decide +kernel
theorem dX3_joinInOrder_15 : decode cX3_joinInOrder 15 = .ok (.invokevirtual 164, 3) := by decide +kernel
theorem dX3_joinInOrder_18 : decode cX3_joinInOrder 18 = .ok (.istore 5, 2) := by decide +kernel
theorem dX3_joinInOrder_20 : decode cX3_joinInOrder 20 = .ok (.iload 5, 2) := by decide +kernel
theorem dX3_joinInOrder_22 : decode cX3_joinInOrder 22 = .ok (.aload_n 1, 1) := by decide +kernel
theorem dX3_joinInOrder_23 : decode cX3_joinInOrder 23 = .ok (.iload 4, 2) := by decide +kernel
theorem dX3_joinInOrder_25 : decode cX3_joinInOrder 25 = .ok (.invokevirtual 167, 3) := by decide +kernel
theorem dX3_joinInOrder_28 : decode cX3_joinInOrder 28 = .ok (.if_icmp .ge 27, 3) := by decide +kernel
theorem dX3_joinInOrder_31 : decode cX3_joinInOrder 31 = .ok (.aload_n 0, 1) := by decide +kernel
theorem dX3_joinInOrder_32 : decode cX3_joinInOrder 32 = .ok (.aload_n 1, 1) := by decide +kernel
theorem dX3_joinInOrder_33 : decode cX3_joinInOrder 33 = .ok (.iload 5, 2) := by decide +kernel
theorem dX3_joinInOrder_35 : decode cX3_joinInOrder 35 = .ok (.invokevirtual 147, 3) := by decide +kernel
theorem dX3_joinInOrder_38 : decode cX3_joinInOrder 38 = .ok (.aload_n 1, 1) := by decide +kernel
theorem dX3_joinInOrder_39 : decode cX3_joinInOrder 39 = .ok (.iload 5, 2) := by decide +kernel
theorem dX3_joinInOrder_41 : decode cX3_joinInOrder 41 = .ok (.invokevirtual 151, 3) := by decide +kernel
theorem dX3_joinInOrder_44 : decode cX3_joinInOrder 44 = .ok (.aload_n 2, 1) := by decide +kernel
theorem dX3_joinInOrder_45 : decode cX3_joinInOrder 45 = .ok (.aload_n 3, 1) := by decide +kernel
theorem dX3_joinInOrder_46 : decode cX3_joinInOrder 46 = .ok (.invokevirtual 205, 3) := by decide +kernel
theorem dX3_joinInOrder_49 : decode cX3_joinInOrder 49 = .ok (.iinc 5 1, 3) := by decide +kernel
theorem dX3_joinInOrder_52 : decode cX3_joinInOrder 52 = .ok (.goto (-32), 3) := by decide +kernel
theorem dX3_joinInOrder_55 : decode cX3_joinInOrder 55 = .ok (.aload_n 3, 1) := by decide +kernel
theorem dX3_joinInOrder_56 : decode cX3_joinInOrder 56 = .ok (.invokevirtual 158, 3) := by decide +kernel
theorem dX3_joinInOrder_59 : decode cX3_joinInOrder 59 = .ok (.iinc 4 1, 3) := by decide +kernel
theorem dX3_joinInOrder_62 : decode cX3_joinInOrder 62 = .ok (.goto (-59), 3) := by decide +kernel
theorem dX3_joinInOrder_65 : decode cX3_joinInOrder 65 = .ok (.return_, 1) := by decide +kernel
theorem dX3_sortByKey_0 : decode cX3_sortByKey 0 = .ok (.aload_n 0, 1) := by decide +kernel
theorem dX3_sortByKey_1 : decode cX3_sortByKey 1 = .ok (.getfield 14, 3) := by decide +kernel
theorem dX3_sortByKey_4 : decode cX3_sortByKey 4 = .ok (.invokevirtual 90, 3) := by decide +kernel
theorem dX3_sortByKey_7 : decode cX3_sortByKey 7 = .ok (.iconst 0, 1) := by decide +kernel
theorem dX3_sortByKey_8 : decode cX3_sortByKey 8 = .ok (.istore_n 2, 1) := by decide +kernel
theorem dX3_sortByKey_9 : decode cX3_sortByKey 9 = .ok (.iload_n 2, 1) := by decide +kernel
theorem dX3_sortByKey_10 : decode cX3_sortByKey 10 = .ok (.aload_n 1, 1) := by decide +kernel
theorem dX3_sortByKey_11 : decode cX3_sortByKey 11 = .ok (.invokevirtual 77, 3) := by decide +kernel
theorem dX3_sortByKey_14 : decode cX3_sortByKey 14 = .ok (.if_icmp .ge 36, 3) := by decide +kernel
theorem dX3_sortByKey_17 : decode cX3_sortByKey 17 = .ok (.aload_n 1, 1) := by decide +kernel
theorem dX3_sortByKey_18 : decode cX3_sortByKey 18 = .ok (.iload_n 2, 1) := by decide +kernel
theorem dX3_sortByKey_19 : decode cX3_sortByKey 19 = .ok (.invokevirtual 147, 3) := by decide +kernel
theorem dX3_sortByKey_22 : decode cX3_sortByKey 22 = .ok (.istore_n 3, 1) := by decide +kernel
theorem dX3_sortByKey_23 : decode cX3_sortByKey 23 = .ok (.aload_n 0, 1) := by decide +kernel
theorem dX3_sortByKey_24 : decode cX3_sortByKey 24 = .ok (.getfield 14, 3) := by decide +kernel
theorem dX3_sortByKey_27 : decode cX3_sortByKey 27 = .ok (.aload_n 0, 1) := by decide +kernel
theorem dX3_sortByKey_28 : decode cX3_sortByKey 28 = .ok (.getfield 14, 3) := by decide +kernel
theorem dX3_sortByKey_31 : decode cX3_sortByKey 31 = .ok (.iload_n 3, 1) := by decide +kernel
theorem dX3_sortByKey_32 : decode cX3_sortByKey 32 = .ok (.invokevirtual 186, 3) := by decide +kernel
theorem dX3_sortByKey_35 : decode cX3_sortByKey 35 = .ok (.iload_n 3, 1) := by decide +kernel
theorem dX3_sortByKey_36 : decode cX3_sortByKey 36 = .ok (.aload_n 1, 1) := by decide +kernel
theorem dX3_sortByKey_37 : decode cX3_sortByKey 37 = .ok (.iload_n 2, 1) := by decide +kernel
theorem dX3_sortByKey_38 : decode cX3_sortByKey 38 = .ok (.invokevirtual 151, 3) := by decide +kernel
theorem dX3_sortByKey_41 : decode cX3_sortByKey 41 = .ok (.invokevirtual 201, 3) := by decide +kernel
theorem dX3_sortByKey_44 : decode cX3_sortByKey 44 = .ok (.iinc 2 1, 3) := by decide +kernel
theorem dX3_sortByKey_47 : decode cX3_sortByKey 47 = .ok (.goto (-38), 3) := by decide +kernel
theorem dX3_sortByKey_50 : decode cX3_sortByKey 50 = .ok (.return_, 1) := by decide +kernel
theorem dX3_joinByKey_0 : decode cX3_joinByKey 0 = .ok (.iconst 0, 1) := by decide +kernel
theorem dX3_joinByKey_1 : decode cX3_joinByKey 1 = .ok (.istore 4, 2) := by decide +kernel
theorem dX3_joinByKey_3 : decode cX3_joinByKey 3 = .ok (.iload 4, 2) := by decide +kernel
theorem dX3_joinByKey_5 : decode cX3_joinByKey 5 = .ok (.iload_n 2, 1) := by decide +kernel
theorem dX3_joinByKey_6 : decode cX3_joinByKey 6 = .ok (.if_icmp .ge 73, 3) := by decide +kernel
theorem dX3_joinByKey_9 : decode cX3_joinByKey 9 = .ok (.iconst 0, 1) := by decide +kernel
theorem dX3_joinByKey_10 : decode cX3_joinByKey 10 = .ok (.istore 5, 2) := by decide +kernel
theorem dX3_joinByKey_12 : decode cX3_joinByKey 12 = .ok (.iload 5, 2) := by decide +kernel
theorem dX3_joinByKey_14 : decode cX3_joinByKey 14 = .ok (.aload_n 0, 1) := by decide +kernel
theorem dX3_joinByKey_15 : decode cX3_joinByKey 15 = .ok (.getfield 14, 3) := by decide +kernel
theorem dX3_joinByKey_18 : decode cX3_joinByKey 18 = .ok (.invokevirtual 77, 3) := by decide +kernel
theorem dX3_joinByKey_21 : decode cX3_joinByKey 21 = .ok (.if_icmp .ge 48, 3) := by decide +kernel
theorem dX3_joinByKey_24 : decode cX3_joinByKey 24 = .ok (.aload_n 0, 1) := by decide +kernel
theorem dX3_joinByKey_25 : decode cX3_joinByKey 25 = .ok (.getfield 14, 3) := by decide +kernel
theorem dX3_joinByKey_28 : decode cX3_joinByKey 28 = .ok (.iload 5, 2) := by decide +kernel
theorem dX3_joinByKey_30 : decode cX3_joinByKey 30 = .ok (.invokevirtual 147, 3) := by decide +kernel
theorem dX3_joinByKey_33 : decode cX3_joinByKey 33 = .ok (.istore 6, 2) := by decide +kernel
theorem dX3_joinByKey_35 : decode cX3_joinByKey 35 = .ok (.iload 6, 2) := by decide +kernel
theorem dX3_joinByKey_37 : decode cX3_joinByKey 37 = .ok (.iload_n 2, 1) := by decide +kernel
theorem dX3_joinByKey_38 : decode cX3_joinByKey 38 = .ok (.invokestatic 144, 3) := by decide +kernel
theorem dX3_joinByKey_41 : decode cX3_joinByKey 41 = .ok (.iload 4, 2) := by decide +kernel
theorem dX3_joinByKey_43 : decode cX3_joinByKey 43 = .ok (.if_icmp .ne 20, 3) := by decide +kernel
theorem dX3_joinByKey_46 : decode cX3_joinByKey 46 = .ok (.aload_n 0, 1) := by decide +kernel
theorem dX3_joinByKey_47 : decode cX3_joinByKey 47 = .ok (.iload 6, 2) := by decide +kernel
theorem dX3_joinByKey_49 : decode cX3_joinByKey 49 = .ok (.aload_n 0, 1) := by decide +kernel
theorem dX3_joinByKey_50 : decode cX3_joinByKey 50 = .ok (.getfield 14, 3) := by decide +kernel
theorem dX3_joinByKey_53 : decode cX3_joinByKey 53 = .ok (.iload 5, 2) := by decide +kernel
theorem dX3_joinByKey_55 : decode cX3_joinByKey 55 = .ok (.invokevirtual 151, 3) := by decide +kernel
theorem dX3_joinByKey_58 : decode cX3_joinByKey 58 = .ok (.aload_n 1, 1) := by decide +kernel
theorem dX3_joinByKey_59 : decode cX3_joinByKey 59 = .ok (.aload_n 3, 1) := by decide +kernel
theorem dX3_joinByKey_60 : decode cX3_joinByKey 60 = .ok (.invokevirtual 205, 3) := by decide +kernel
theorem dX3_joinByKey_63 : decode cX3_joinByKey 63 = .ok (.iinc 5 1, 3) := by decide +kernel
theorem dX3_joinByKey_66 : decode cX3_joinByKey 66 = .ok (.goto (-54), 3) := by decide +kernel
theorem dX3_joinByKey_69 : decode cX3_joinByKey 69 = .ok (.aload_n 3, 1) := by decide +kernel
theorem dX3_joinByKey_70 : decode cX3_joinByKey 70 = .ok (.invokevirtual 158, 3) := by decide +kernel
theorem dX3_joinByKey_73 : decode cX3_joinByKey 73 = .ok (.iinc 4 1, 3) := by decide +kernel
theorem dX3_joinByKey_76 : decode cX3_joinByKey 76 = .ok (.goto (-73), 3) := by decide +kernel
theorem dX3_joinByKey_79 : decode cX3_joinByKey 79 = .ok (.return_, 1) := by decide +kernel
theorem dX3_addMatches_0 : decode cX3_addMatches 0 = .ok (.iconst 0, 1) := by decide +kernel
theorem dX3_addMatches_1 : decode cX3_addMatches 1 = .ok (.istore 5, 2) := by decide +kernel
theorem dX3_addMatches_3 : decode cX3_addMatches 3 = .ok (.iload 5, 2) := by decide +kernel
theorem dX3_addMatches_5 : decode cX3_addMatches 5 = .ok (.aload_n 3, 1) := by decide +kernel
theorem dX3_addMatches_6 : decode cX3_addMatches 6 = .ok (.invokevirtual 77, 3) := by decide +kernel
theorem dX3_addMatches_9 : decode cX3_addMatches 9 = .ok (.if_icmp .ge 33, 3) := by decide +kernel
theorem dX3_addMatches_12 : decode cX3_addMatches 12 = .ok (.aload_n 3, 1) := by decide +kernel
theorem dX3_addMatches_13 : decode cX3_addMatches 13 = .ok (.iload 5, 2) := by decide +kernel
theorem dX3_addMatches_15 : decode cX3_addMatches 15 = .ok (.invokevirtual 147, 3) := by decide +kernel
theorem dX3_addMatches_18 : decode cX3_addMatches 18 = .ok (.iload_n 1, 1) := by decide +kernel
theorem dX3_addMatches_19 : decode cX3_addMatches 19 = .ok (.if_icmp .ne 17, 3) := by decide +kernel
theorem dX3_addMatches_22 : decode cX3_addMatches 22 = .ok (.aload 4, 2) := by decide +kernel
theorem dX3_addMatches_24 : decode cX3_addMatches 24 = .ok (.iload_n 1, 1) := by decide +kernel
theorem dX3_addMatches_25 : decode cX3_addMatches 25 = .ok (.iload_n 2, 1) := by decide +kernel
theorem dX3_addMatches_26 : decode cX3_addMatches 26 = .ok (.aload_n 3, 1) := by decide +kernel
theorem dX3_addMatches_27 : decode cX3_addMatches 27 = .ok (.iload 5, 2) := by decide +kernel
theorem dX3_addMatches_29 : decode cX3_addMatches 29 = .ok (.invokevirtual 151, 3) := by decide +kernel
theorem dX3_addMatches_32 : decode cX3_addMatches 32 = .ok (.iadd, 1) := by decide +kernel
theorem dX3_addMatches_33 : decode cX3_addMatches 33 = .ok (.invokevirtual 154, 3) := by decide +kernel
theorem dX3_addMatches_36 : decode cX3_addMatches 36 = .ok (.iinc 5 1, 3) := by decide +kernel
theorem dX3_addMatches_39 : decode cX3_addMatches 39 = .ok (.goto (-36), 3) := by decide +kernel
theorem dX3_addMatches_42 : decode cX3_addMatches 42 = .ok (.return_, 1) := by decide +kernel
theorem dX4_init_0 : decode cX4_init 0 = .ok (.aload_n 0, 1) := by decide +kernel
theorem dX4_init_1 : decode cX4_init 1 = .ok (.invokespecial 1, 3) := by decide +kernel
theorem dX4_init_4 : decode cX4_init 4 = .ok (.aload_n 0, 1) := by decide +kernel
theorem dX4_init_5 : decode cX4_init 5 = .ok (.iconst 0, 1) := by decide +kernel
theorem dX4_init_6 : decode cX4_init 6 = .ok (.iload_n 1, 1) := by decide +kernel
theorem dX4_init_7 : decode cX4_init 7 = .ok (.invokestatic 7, 3) := by decide +kernel
theorem dX4_init_10 : decode cX4_init 10 = .ok (.newarray .int, 2) := by decide +kernel
theorem dX4_init_12 : decode cX4_init 12 = .ok (.putfield 13, 3) := by decide +kernel
theorem dX4_init_15 : decode cX4_init 15 = .ok (.return_, 1) := by decide +kernel
theorem dX4_at_0 : decode cX4_at 0 = .ok (.iload_n 1, 1) := by decide +kernel
theorem dX4_at_1 : decode cX4_at 1 = .ok (.ifCond .lt 21, 3) := by decide +kernel
theorem dX4_at_4 : decode cX4_at 4 = .ok (.iload_n 1, 1) := by decide +kernel
theorem dX4_at_5 : decode cX4_at 5 = .ok (.aload_n 0, 1) := by decide +kernel
theorem dX4_at_6 : decode cX4_at 6 = .ok (.getfield 13, 3) := by decide +kernel
theorem dX4_at_9 : decode cX4_at 9 = .ok (.arraylength, 1) := by decide +kernel
theorem dX4_at_10 : decode cX4_at 10 = .ok (.if_icmp .ge 12, 3) := by decide +kernel
theorem dX4_at_13 : decode cX4_at 13 = .ok (.aload_n 0, 1) := by decide +kernel
theorem dX4_at_14 : decode cX4_at 14 = .ok (.getfield 13, 3) := by decide +kernel
theorem dX4_at_17 : decode cX4_at 17 = .ok (.iload_n 1, 1) := by decide +kernel
theorem dX4_at_18 : decode cX4_at 18 = .ok (.iaload, 1) := by decide +kernel
theorem dX4_at_19 : decode cX4_at 19 = .ok (.goto 4, 3) := by decide +kernel
theorem dX4_at_22 : decode cX4_at 22 = .ok (.iconst 0, 1) := by decide +kernel
theorem dX4_at_23 : decode cX4_at 23 = .ok (.ireturn, 1) := by decide +kernel
theorem dX4_set_0 : decode cX4_set 0 = .ok (.iload_n 1, 1) := by decide +kernel
theorem dX4_set_1 : decode cX4_set 1 = .ok (.ifCond .lt 19, 3) := by decide +kernel
theorem dX4_set_4 : decode cX4_set 4 = .ok (.iload_n 1, 1) := by decide +kernel
theorem dX4_set_5 : decode cX4_set 5 = .ok (.aload_n 0, 1) := by decide +kernel
theorem dX4_set_6 : decode cX4_set 6 = .ok (.getfield 13, 3) := by decide +kernel
theorem dX4_set_9 : decode cX4_set 9 = .ok (.arraylength, 1) := by decide +kernel
theorem dX4_set_10 : decode cX4_set 10 = .ok (.if_icmp .ge 10, 3) := by decide +kernel
theorem dX4_set_13 : decode cX4_set 13 = .ok (.aload_n 0, 1) := by decide +kernel
theorem dX4_set_14 : decode cX4_set 14 = .ok (.getfield 13, 3) := by decide +kernel
theorem dX4_set_17 : decode cX4_set 17 = .ok (.iload_n 1, 1) := by decide +kernel
theorem dX4_set_18 : decode cX4_set 18 = .ok (.iload_n 2, 1) := by decide +kernel
theorem dX4_set_19 : decode cX4_set 19 = .ok (.iastore, 1) := by decide +kernel
theorem dX4_set_20 : decode cX4_set 20 = .ok (.return_, 1) := by decide +kernel
theorem dX6_init_0 : decode cX6_init 0 = .ok (.aload_n 0, 1) := by decide +kernel
theorem dX6_init_1 : decode cX6_init 1 = .ok (.invokespecial 3, 3) := by decide +kernel
theorem dX6_init_4 : decode cX6_init 4 = .ok (.aload_n 0, 1) := by decide +kernel
theorem dX6_init_5 : decode cX6_init 5 = .ok (.new 9, 3) := by decide +kernel
theorem dX6_init_8 : decode cX6_init 8 = .ok (.dup, 1) := by decide +kernel
theorem dX6_init_9 : decode cX6_init 9 = .ok (.sipush 224, 3) := by decide +kernel
theorem dX6_init_12 : decode cX6_init 12 = .ok (.invokespecial 11, 3) := by decide +kernel
theorem dX6_init_15 : decode cX6_init 15 = .ok (.putfield 14, 3) := by decide +kernel
theorem dX6_init_18 : decode cX6_init 18 = .ok (.aload_n 0, 1) := by decide +kernel
theorem dX6_init_19 : decode cX6_init 19 = .ok (.new 9, 3) := by decide +kernel
theorem dX6_init_22 : decode cX6_init 22 = .ok (.dup, 1) := by decide +kernel
theorem dX6_init_23 : decode cX6_init 23 = .ok (.sipush 224, 3) := by decide +kernel
theorem dX6_init_26 : decode cX6_init 26 = .ok (.invokespecial 11, 3) := by decide +kernel
theorem dX6_init_29 : decode cX6_init 29 = .ok (.putfield 20, 3) := by decide +kernel
theorem dX6_init_32 : decode cX6_init 32 = .ok (.aload_n 0, 1) := by decide +kernel
theorem dX6_init_33 : decode cX6_init 33 = .ok (.new 9, 3) := by decide +kernel
theorem dX6_init_36 : decode cX6_init 36 = .ok (.dup, 1) := by decide +kernel
theorem dX6_init_37 : decode cX6_init 37 = .ok (.sipush 224, 3) := by decide +kernel
theorem dX6_init_40 : decode cX6_init 40 = .ok (.invokespecial 11, 3) := by decide +kernel
theorem dX6_init_43 : decode cX6_init 43 = .ok (.putfield 23, 3) := by decide +kernel
theorem dX6_init_46 : decode cX6_init 46 = .ok (.aload_n 0, 1) := by decide +kernel
theorem dX6_init_47 : decode cX6_init 47 = .ok (.new 9, 3) := by decide +kernel
theorem dX6_init_50 : decode cX6_init 50 = .ok (.dup, 1) := by decide +kernel
theorem dX6_init_51 : decode cX6_init 51 = .ok (.sipush 224, 3) := by decide +kernel
theorem dX6_init_54 : decode cX6_init 54 = .ok (.invokespecial 11, 3) := by decide +kernel
theorem dX6_init_57 : decode cX6_init 57 = .ok (.putfield 26, 3) := by decide +kernel
theorem dX6_init_60 : decode cX6_init 60 = .ok (.aload_n 0, 1) := by decide +kernel
theorem dX6_init_61 : decode cX6_init 61 = .ok (.new 9, 3) := by decide +kernel
theorem dX6_init_64 : decode cX6_init 64 = .ok (.dup, 1) := by decide +kernel
theorem dX6_init_65 : decode cX6_init 65 = .ok (.sipush 224, 3) := by decide +kernel
theorem dX6_init_68 : decode cX6_init 68 = .ok (.invokespecial 11, 3) := by decide +kernel
theorem dX6_init_71 : decode cX6_init 71 = .ok (.putfield 29, 3) := by decide +kernel
theorem dX6_init_74 : decode cX6_init 74 = .ok (.aload_n 0, 1) := by decide +kernel
theorem dX6_init_75 : decode cX6_init 75 = .ok (.new 9, 3) := by decide +kernel
theorem dX6_init_78 : decode cX6_init 78 = .ok (.dup, 1) := by decide +kernel
theorem dX6_init_79 : decode cX6_init 79 = .ok (.sipush 224, 3) := by decide +kernel
theorem dX6_init_82 : decode cX6_init 82 = .ok (.invokespecial 11, 3) := by decide +kernel
theorem dX6_init_85 : decode cX6_init 85 = .ok (.putfield 32, 3) := by decide +kernel
theorem dX6_init_88 : decode cX6_init 88 = .ok (.return_, 1) := by decide +kernel
theorem dX6_begin_0 : decode cX6_begin 0 = .ok (.aload_n 0, 1) := by decide +kernel
theorem dX6_begin_1 : decode cX6_begin 1 = .ok (.iconst 0, 1) := by decide +kernel
theorem dX6_begin_2 : decode cX6_begin 2 = .ok (.putfield 35, 3) := by decide +kernel
theorem dX6_begin_5 : decode cX6_begin 5 = .ok (.aload_n 0, 1) := by decide +kernel
theorem dX6_begin_6 : decode cX6_begin 6 = .ok (.iconst 0, 1) := by decide +kernel
theorem dX6_begin_7 : decode cX6_begin 7 = .ok (.putfield 39, 3) := by decide +kernel
theorem dX6_begin_10 : decode cX6_begin 10 = .ok (.aload_n 0, 1) := by decide +kernel
theorem dX6_begin_11 : decode cX6_begin 11 = .ok (.iload_n 1, 1) := by decide +kernel
theorem dX6_begin_12 : decode cX6_begin 12 = .ok (.putfield 42, 3) := by decide +kernel
theorem dX6_begin_15 : decode cX6_begin 15 = .ok (.return_, 1) := by decide +kernel
theorem dX6_add_0 : decode cX6_add 0 = .ok (.aload_n 0, 1) := by decide +kernel
theorem dX6_add_1 : decode cX6_add 1 = .ok (.getfield 35, 3) := by decide +kernel
theorem dX6_add_4 : decode cX6_add 4 = .ok (.istore 7, 2) := by decide +kernel
theorem dX6_add_6 : decode cX6_add 6 = .ok (.aload_n 0, 1) := by decide +kernel
theorem dX6_add_7 : decode cX6_add 7 = .ok (.getfield 14, 3) := by decide +kernel
theorem dX6_add_10 : decode cX6_add 10 = .ok (.iload 7, 2) := by decide +kernel
theorem dX6_add_12 : decode cX6_add 12 = .ok (.iload_n 1, 1) := by decide +kernel
theorem dX6_add_13 : decode cX6_add 13 = .ok (.invokevirtual 45, 3) := by decide +kernel
theorem dX6_add_16 : decode cX6_add 16 = .ok (.aload_n 0, 1) := by decide +kernel
theorem dX6_add_17 : decode cX6_add 17 = .ok (.getfield 20, 3) := by decide +kernel
theorem dX6_add_20 : decode cX6_add 20 = .ok (.iload 7, 2) := by decide +kernel
theorem dX6_add_22 : decode cX6_add 22 = .ok (.iload_n 2, 1) := by decide +kernel
theorem dX6_add_23 : decode cX6_add 23 = .ok (.invokevirtual 45, 3) := by decide +kernel
theorem dX6_add_26 : decode cX6_add 26 = .ok (.aload_n 0, 1) := by decide +kernel
theorem dX6_add_27 : decode cX6_add 27 = .ok (.getfield 23, 3) := by decide +kernel
theorem dX6_add_30 : decode cX6_add 30 = .ok (.iload 7, 2) := by decide +kernel
theorem dX6_add_32 : decode cX6_add 32 = .ok (.iload_n 3, 1) := by decide +kernel
theorem dX6_add_33 : decode cX6_add 33 = .ok (.invokevirtual 45, 3) := by decide +kernel
theorem dX6_add_36 : decode cX6_add 36 = .ok (.aload_n 0, 1) := by decide +kernel
theorem dX6_add_37 : decode cX6_add 37 = .ok (.getfield 26, 3) := by decide +kernel
theorem dX6_add_40 : decode cX6_add 40 = .ok (.iload 7, 2) := by decide +kernel
theorem dX6_add_42 : decode cX6_add 42 = .ok (.iload 4, 2) := by decide +kernel
theorem dX6_add_44 : decode cX6_add 44 = .ok (.invokevirtual 45, 3) := by decide +kernel
theorem dX6_add_47 : decode cX6_add 47 = .ok (.aload_n 0, 1) := by decide +kernel
theorem dX6_add_48 : decode cX6_add 48 = .ok (.getfield 29, 3) := by decide +kernel
theorem dX6_add_51 : decode cX6_add 51 = .ok (.iload 7, 2) := by decide +kernel
theorem dX6_add_53 : decode cX6_add 53 = .ok (.iload 5, 2) := by decide +kernel
theorem dX6_add_55 : decode cX6_add 55 = .ok (.invokevirtual 45, 3) := by decide +kernel
theorem dX6_add_58 : decode cX6_add 58 = .ok (.aload_n 0, 1) := by decide +kernel
theorem dX6_add_59 : decode cX6_add 59 = .ok (.getfield 32, 3) := by decide +kernel
theorem dX6_add_62 : decode cX6_add 62 = .ok (.iload 7, 2) := by decide +kernel
theorem dX6_add_64 : decode cX6_add 64 = .ok (.iload 6, 2) := by decide +kernel
theorem dX6_add_66 : decode cX6_add 66 = .ok (.ifCond .eq 7, 3) := by decide +kernel
theorem dX6_add_69 : decode cX6_add 69 = .ok (.iconst 1, 1) := by decide +kernel
theorem dX6_add_70 : decode cX6_add 70 = .ok (.goto 4, 3) := by decide +kernel
theorem dX6_add_73 : decode cX6_add 73 = .ok (.iconst 0, 1) := by decide +kernel
theorem dX6_add_74 : decode cX6_add 74 = .ok (.invokevirtual 45, 3) := by decide +kernel
theorem dX6_add_77 : decode cX6_add 77 = .ok (.aload_n 0, 1) := by decide +kernel
theorem dX6_add_78 : decode cX6_add 78 = .ok (.dup, 1) := by decide +kernel
theorem dX6_add_79 : decode cX6_add 79 = .ok (.getfield 35, 3) := by decide +kernel
theorem dX6_add_82 : decode cX6_add 82 = .ok (.iconst 1, 1) := by decide +kernel
theorem dX6_add_83 : decode cX6_add 83 = .ok (.iadd, 1) := by decide +kernel
theorem dX6_add_84 : decode cX6_add 84 = .ok (.putfield 35, 3) := by decide +kernel
theorem dX6_add_87 : decode cX6_add 87 = .ok (.iload 7, 2) := by decide +kernel
theorem dX6_add_89 : decode cX6_add 89 = .ok (.ireturn, 1) := by decide +kernel
theorem dX6_ticksOfAttempts_0 : decode cX6_ticksOfAttempts 0 = .ok (.iconst 0, 1) := by decide +kernel
theorem dX6_ticksOfAttempts_1 : decode cX6_ticksOfAttempts 1 = .ok (.istore_n 1, 1) := by decide +kernel
theorem dX6_ticksOfAttempts_2 : decode cX6_ticksOfAttempts 2 = .ok (.iconst 0, 1) := by decide +kernel
theorem dX6_ticksOfAttempts_3 : decode cX6_ticksOfAttempts 3 = .ok (.istore_n 2, 1) := by decide +kernel
theorem dX6_ticksOfAttempts_4 : decode cX6_ticksOfAttempts 4 = .ok (.iload_n 2, 1) := by decide +kernel
theorem dX6_ticksOfAttempts_5 : decode cX6_ticksOfAttempts 5 = .ok (.aload_n 0, 1) := by decide +kernel
theorem dX6_ticksOfAttempts_6 : decode cX6_ticksOfAttempts 6 = .ok (.getfield 35, 3) := by decide +kernel
theorem dX6_ticksOfAttempts_9 : decode cX6_ticksOfAttempts 9 = .ok (.if_icmp .ge 29, 3) := by decide +kernel
theorem dX6_ticksOfAttempts_12 : decode cX6_ticksOfAttempts 12 = .ok (.iload_n 1, 1) := by decide +kernel
theorem dX6_ticksOfAttempts_13 : decode cX6_ticksOfAttempts 13 = .ok (.aload_n 0, 1) := by decide +kernel
theorem dX6_ticksOfAttempts_14 : decode cX6_ticksOfAttempts 14 = .ok (.getfield 29, 3) := by decide +kernel
theorem dX6_ticksOfAttempts_17 : decode cX6_ticksOfAttempts 17 = .ok (.iload_n 2, 1) := by decide +kernel
theorem dX6_ticksOfAttempts_18 : decode cX6_ticksOfAttempts 18 = .ok (.invokevirtual 49, 3) := by decide +kernel
theorem dX6_ticksOfAttempts_21 : decode cX6_ticksOfAttempts 21 = .ok (.aload_n 0, 1) := by decide +kernel
theorem dX6_ticksOfAttempts_22 : decode cX6_ticksOfAttempts 22 = .ok (.getfield 26, 3) := by decide +kernel
theorem dX6_ticksOfAttempts_25 : decode cX6_ticksOfAttempts 25 = .ok (.iload_n 2, 1) := by decide +kernel
theorem dX6_ticksOfAttempts_26 : decode cX6_ticksOfAttempts 26 = .ok (.invokevirtual 49, 3) := by decide +kernel
theorem dX6_ticksOfAttempts_29 : decode cX6_ticksOfAttempts 29 = .ok (.isub, 1) := by decide +kernel
theorem dX6_ticksOfAttempts_30 : decode cX6_ticksOfAttempts 30 = .ok (.iadd, 1) := by decide +kernel
theorem dX6_ticksOfAttempts_31 : decode cX6_ticksOfAttempts 31 = .ok (.istore_n 1, 1) := by decide +kernel
theorem dX6_ticksOfAttempts_32 : decode cX6_ticksOfAttempts 32 = .ok (.iinc 2 1, 3) := by decide +kernel
theorem dX6_ticksOfAttempts_35 : decode cX6_ticksOfAttempts 35 = .ok (.goto (-31), 3) := by decide +kernel
theorem dX6_ticksOfAttempts_38 : decode cX6_ticksOfAttempts 38 = .ok (.iload_n 1, 1) := by decide +kernel
theorem dX6_ticksOfAttempts_39 : decode cX6_ticksOfAttempts 39 = .ok (.ireturn, 1) := by decide +kernel
theorem dX7_init_0 : decode cX7_init 0 = .ok (.aload_n 0, 1) := by decide +kernel
theorem dX7_init_1 : decode cX7_init 1 = .ok (.invokespecial 3, 3) := by decide +kernel
theorem dX7_init_4 : decode cX7_init 4 = .ok (.aload_n 0, 1) := by decide +kernel
theorem dX7_init_5 : decode cX7_init 5 = .ok (.aload_n 1, 1) := by decide +kernel
theorem dX7_init_6 : decode cX7_init 6 = .ok (.putfield 9, 3) := by decide +kernel
theorem dX7_init_9 : decode cX7_init 9 = .ok (.aload_n 0, 1) := by decide +kernel
theorem dX7_init_10 : decode cX7_init 10 = .ok (.iload_n 2, 1) := by decide +kernel
theorem dX7_init_11 : decode cX7_init 11 = .ok (.putfield 15, 3) := by decide +kernel
theorem dX7_init_14 : decode cX7_init 14 = .ok (.aload_n 0, 1) := by decide +kernel
theorem dX7_init_15 : decode cX7_init 15 = .ok (.iload_n 3, 1) := by decide +kernel
theorem dX7_init_16 : decode cX7_init 16 = .ok (.putfield 19, 3) := by decide +kernel
theorem dX7_init_19 : decode cX7_init 19 = .ok (.aload_n 0, 1) := by decide +kernel
theorem dX7_init_20 : decode cX7_init 20 = .ok (.iload 4, 2) := by decide +kernel
theorem dX7_init_22 : decode cX7_init 22 = .ok (.putfield 22, 3) := by decide +kernel
theorem dX7_init_25 : decode cX7_init 25 = .ok (.aload_n 0, 1) := by decide +kernel
theorem dX7_init_26 : decode cX7_init 26 = .ok (.iload 5, 2) := by decide +kernel
theorem dX7_init_28 : decode cX7_init 28 = .ok (.putfield 25, 3) := by decide +kernel
theorem dX7_init_31 : decode cX7_init 31 = .ok (.aload_n 0, 1) := by decide +kernel
theorem dX7_init_32 : decode cX7_init 32 = .ok (.new 28, 3) := by decide +kernel
theorem dX7_init_35 : decode cX7_init 35 = .ok (.dup, 1) := by decide +kernel
theorem dX7_init_36 : decode cX7_init 36 = .ok (.aload_n 1, 1) := by decide +kernel
theorem dX7_init_37 : decode cX7_init 37 = .ok (.getstatic 30, 3) := by decide +kernel
theorem dX7_init_40 : decode cX7_init 40 = .ok (.if_acmp .ne 8, 3) := by decide +kernel
theorem dX7_init_43 : decode cX7_init 43 = .ok (.bipush 12, 2) := by decide +kernel
theorem dX7_init_45 : decode cX7_init 45 = .ok (.goto 4, 3) := by decide +kernel
theorem dX7_init_48 : decode cX7_init 48 = .ok (.iconst 0, 1) := by decide +kernel
theorem dX7_init_49 : decode cX7_init 49 = .ok (.invokespecial 35, 3) := by decide +kernel
theorem dX7_init_52 : decode cX7_init 52 = .ok (.putfield 38, 3) := by decide +kernel
theorem dX7_init_55 : decode cX7_init 55 = .ok (.aload_n 0, 1) := by decide +kernel
theorem dX7_init_56 : decode cX7_init 56 = .ok (.new 28, 3) := by decide +kernel
theorem dX7_init_59 : decode cX7_init 59 = .ok (.dup, 1) := by decide +kernel
theorem dX7_init_60 : decode cX7_init 60 = .ok (.iload 4, 2) := by decide +kernel
theorem dX7_init_62 : decode cX7_init 62 = .ok (.invokespecial 35, 3) := by decide +kernel
theorem dX7_init_65 : decode cX7_init 65 = .ok (.putfield 42, 3) := by decide +kernel
theorem dX7_init_68 : decode cX7_init 68 = .ok (.aload_n 0, 1) := by decide +kernel
theorem dX7_init_69 : decode cX7_init 69 = .ok (.new 28, 3) := by decide +kernel
theorem dX7_init_72 : decode cX7_init 72 = .ok (.dup, 1) := by decide +kernel
theorem dX7_init_73 : decode cX7_init 73 = .ok (.iload 4, 2) := by decide +kernel
theorem dX7_init_75 : decode cX7_init 75 = .ok (.invokespecial 35, 3) := by decide +kernel
theorem dX7_init_78 : decode cX7_init 78 = .ok (.putfield 45, 3) := by decide +kernel
theorem dX7_init_81 : decode cX7_init 81 = .ok (.return_, 1) := by decide +kernel
theorem dX7_newKey_0 : decode cX7_newKey 0 = .ok (.aload_n 0, 1) := by decide +kernel
theorem dX7_newKey_1 : decode cX7_newKey 1 = .ok (.getfield 48, 3) := by decide +kernel
theorem dX7_newKey_4 : decode cX7_newKey 4 = .ok (.iconst 2, 1) := by decide +kernel
theorem dX7_newKey_5 : decode cX7_newKey 5 = .ok (.if_icmp .ne 10, 3) := by decide +kernel
theorem dX7_newKey_8 : decode cX7_newKey 8 = .ok (.iload_n 1, 1) := by decide +kernel
theorem dX7_newKey_9 : decode cX7_newKey 9 = .ok (.aload_n 0, 1) := by decide +kernel
theorem dX7_newKey_10 : decode cX7_newKey 10 = .ok (.getfield 51, 3) := by decide +kernel
theorem dX7_newKey_13 : decode cX7_newKey 13 = .ok (.iadd, 1) := by decide +kernel
theorem dX7_newKey_14 : decode cX7_newKey 14 = .ok (.ireturn, 1) := by decide +kernel
theorem dX7_newKey_15 : decode cX7_newKey 15 = .ok (.aload_n 0, 1) := by decide +kernel
theorem dX7_newKey_16 : decode cX7_newKey 16 = .ok (.getfield 48, 3) := by decide +kernel
theorem dX7_newKey_19 : decode cX7_newKey 19 = .ok (.iconst 3, 1) := by decide +kernel
theorem dX7_newKey_20 : decode cX7_newKey 20 = .ok (.if_icmp .ne 12, 3) := by decide +kernel
theorem dX7_newKey_23 : decode cX7_newKey 23 = .ok (.iload_n 1, 1) := by decide +kernel
theorem dX7_newKey_24 : decode cX7_newKey 24 = .ok (.aload_n 0, 1) := by decide +kernel
theorem dX7_newKey_25 : decode cX7_newKey 25 = .ok (.getfield 51, 3) := by decide +kernel
theorem dX7_newKey_28 : decode cX7_newKey 28 = .ok (.invokestatic 54, 3) := by decide +kernel
theorem dX7_newKey_31 : decode cX7_newKey 31 = .ok (.ireturn, 1) := by decide +kernel
theorem dX7_newKey_32 : decode cX7_newKey 32 = .ok (.aload_n 0, 1) := by decide +kernel
theorem dX7_newKey_33 : decode cX7_newKey 33 = .ok (.getfield 48, 3) := by decide +kernel
theorem dX7_newKey_36 : decode cX7_newKey 36 = .ok (.iconst 4, 1) := by decide +kernel
theorem dX7_newKey_37 : decode cX7_newKey 37 = .ok (.if_icmp .ne 7, 3) := by decide +kernel
theorem dX7_newKey_40 : decode cX7_newKey 40 = .ok (.iload_n 2, 1) := by decide +kernel
theorem dX7_newKey_41 : decode cX7_newKey 41 = .ok (.goto 4, 3) := by decide +kernel
theorem dX7_newKey_44 : decode cX7_newKey 44 = .ok (.iload_n 1, 1) := by decide +kernel
theorem dX7_newKey_45 : decode cX7_newKey 45 = .ok (.ireturn, 1) := by decide +kernel
theorem dX7_newValue_0 : decode cX7_newValue 0 = .ok (.aload_n 0, 1) := by decide +kernel
theorem dX7_newValue_1 : decode cX7_newValue 1 = .ok (.getfield 48, 3) := by decide +kernel
theorem dX7_newValue_4 : decode cX7_newValue 4 = .ok (.iconst 1, 1) := by decide +kernel
theorem dX7_newValue_5 : decode cX7_newValue 5 = .ok (.if_icmp .ne 10, 3) := by decide +kernel
theorem dX7_newValue_8 : decode cX7_newValue 8 = .ok (.iload_n 2, 1) := by decide +kernel
theorem dX7_newValue_9 : decode cX7_newValue 9 = .ok (.aload_n 0, 1) := by decide +kernel
theorem dX7_newValue_10 : decode cX7_newValue 10 = .ok (.getfield 51, 3) := by decide +kernel
theorem dX7_newValue_13 : decode cX7_newValue 13 = .ok (.imul, 1) := by decide +kernel
theorem dX7_newValue_14 : decode cX7_newValue 14 = .ok (.ireturn, 1) := by decide +kernel
theorem dX7_newValue_15 : decode cX7_newValue 15 = .ok (.aload_n 0, 1) := by decide +kernel
theorem dX7_newValue_16 : decode cX7_newValue 16 = .ok (.getfield 48, 3) := by decide +kernel
theorem dX7_newValue_19 : decode cX7_newValue 19 = .ok (.iconst 4, 1) := by decide +kernel
theorem dX7_newValue_20 : decode cX7_newValue 20 = .ok (.if_icmp .ne 5, 3) := by decide +kernel
theorem dX7_newValue_23 : decode cX7_newValue 23 = .ok (.iload_n 1, 1) := by decide +kernel
theorem dX7_newValue_24 : decode cX7_newValue 24 = .ok (.ireturn, 1) := by decide +kernel
theorem dX7_newValue_25 : decode cX7_newValue 25 = .ok (.aload_n 0, 1) := by decide +kernel
theorem dX7_newValue_26 : decode cX7_newValue 26 = .ok (.getfield 48, 3) := by decide +kernel
theorem dX7_newValue_29 : decode cX7_newValue 29 = .ok (.iconst 2, 1) := by decide +kernel
theorem dX7_newValue_30 : decode cX7_newValue 30 = .ok (.if_icmp .eq 11, 3) := by decide +kernel
theorem dX7_newValue_33 : decode cX7_newValue 33 = .ok (.aload_n 0, 1) := by decide +kernel
theorem dX7_newValue_34 : decode cX7_newValue 34 = .ok (.getfield 48, 3) := by decide +kernel
theorem dX7_newValue_37 : decode cX7_newValue 37 = .ok (.iconst 3, 1) := by decide +kernel
theorem dX7_newValue_38 : decode cX7_newValue 38 = .ok (.if_icmp .ne 7, 3) := by decide +kernel
theorem dX7_newValue_41 : decode cX7_newValue 41 = .ok (.iload_n 2, 1) := by decide +kernel
theorem dX7_newValue_42 : decode cX7_newValue 42 = .ok (.goto 9, 3) := by decide +kernel
theorem dX7_newValue_45 : decode cX7_newValue 45 = .ok (.iload_n 2, 1) := by decide +kernel
theorem dX7_newValue_46 : decode cX7_newValue 46 = .ok (.aload_n 0, 1) := by decide +kernel
theorem dX7_newValue_47 : decode cX7_newValue 47 = .ok (.getfield 51, 3) := by decide +kernel
theorem dX7_newValue_50 : decode cX7_newValue 50 = .ok (.iadd, 1) := by decide +kernel
theorem dX7_newValue_51 : decode cX7_newValue 51 = .ok (.ireturn, 1) := by decide +kernel
theorem dX7_firstOfGroup_0 : decode cX7_firstOfGroup 0 = .ok (.aload_n 0, 1) := by decide +kernel
theorem dX7_firstOfGroup_1 : decode cX7_firstOfGroup 1 = .ok (.getfield 48, 3) := by decide +kernel
theorem dX7_firstOfGroup_4 : decode cX7_firstOfGroup 4 = .ok (.iconst 3, 1) := by decide +kernel
theorem dX7_firstOfGroup_5 : decode cX7_firstOfGroup 5 = .ok (.if_icmp .ne 7, 3) := by decide +kernel
theorem dX7_firstOfGroup_8 : decode cX7_firstOfGroup 8 = .ok (.iconst 1, 1) := by decide +kernel
theorem dX7_firstOfGroup_9 : decode cX7_firstOfGroup 9 = .ok (.goto 4, 3) := by decide +kernel
theorem dX7_firstOfGroup_12 : decode cX7_firstOfGroup 12 = .ok (.iload_n 1, 1) := by decide +kernel
theorem dX7_firstOfGroup_13 : decode cX7_firstOfGroup 13 = .ok (.ireturn, 1) := by decide +kernel
theorem dX7_nextOfGroup_0 : decode cX7_nextOfGroup 0 = .ok (.aload_n 0, 1) := by decide +kernel
theorem dX7_nextOfGroup_1 : decode cX7_nextOfGroup 1 = .ok (.getfield 48, 3) := by decide +kernel
theorem dX7_nextOfGroup_4 : decode cX7_nextOfGroup 4 = .ok (.iconst 1, 1) := by decide +kernel
theorem dX7_nextOfGroup_5 : decode cX7_nextOfGroup 5 = .ok (.if_icmp .ne 9, 3) := by decide +kernel
theorem dX7_nextOfGroup_8 : decode cX7_nextOfGroup 8 = .ok (.iload_n 1, 1) := by decide +kernel
theorem dX7_nextOfGroup_9 : decode cX7_nextOfGroup 9 = .ok (.iload_n 2, 1) := by decide +kernel
theorem dX7_nextOfGroup_10 : decode cX7_nextOfGroup 10 = .ok (.invokestatic 58, 3) := by decide +kernel
theorem dX7_nextOfGroup_13 : decode cX7_nextOfGroup 13 = .ok (.ireturn, 1) := by decide +kernel
theorem dX7_nextOfGroup_14 : decode cX7_nextOfGroup 14 = .ok (.aload_n 0, 1) := by decide +kernel
theorem dX7_nextOfGroup_15 : decode cX7_nextOfGroup 15 = .ok (.getfield 48, 3) := by decide +kernel
theorem dX7_nextOfGroup_18 : decode cX7_nextOfGroup 18 = .ok (.iconst 2, 1) := by decide +kernel
theorem dX7_nextOfGroup_19 : decode cX7_nextOfGroup 19 = .ok (.if_icmp .ne 9, 3) := by decide +kernel
theorem dX7_nextOfGroup_22 : decode cX7_nextOfGroup 22 = .ok (.iload_n 1, 1) := by decide +kernel
theorem dX7_nextOfGroup_23 : decode cX7_nextOfGroup 23 = .ok (.iload_n 2, 1) := by decide +kernel
theorem dX7_nextOfGroup_24 : decode cX7_nextOfGroup 24 = .ok (.invokestatic 63, 3) := by decide +kernel
theorem dX7_nextOfGroup_27 : decode cX7_nextOfGroup 27 = .ok (.ireturn, 1) := by decide +kernel
theorem dX7_nextOfGroup_28 : decode cX7_nextOfGroup 28 = .ok (.iload_n 1, 1) := by decide +kernel
theorem dX7_nextOfGroup_29 : decode cX7_nextOfGroup 29 = .ok (.aload_n 0, 1) := by decide +kernel
theorem dX7_nextOfGroup_30 : decode cX7_nextOfGroup 30 = .ok (.iload_n 2, 1) := by decide +kernel
theorem dX7_nextOfGroup_31 : decode cX7_nextOfGroup 31 = .ok (.invokevirtual 66, 3) := by decide +kernel
theorem dX7_nextOfGroup_34 : decode cX7_nextOfGroup 34 = .ok (.iadd, 1) := by decide +kernel
theorem dX7_nextOfGroup_35 : decode cX7_nextOfGroup 35 = .ok (.ireturn, 1) := by decide +kernel
theorem dX8_init_0 : decode cX8_init 0 = .ok (.aload_n 0, 1) := by decide +kernel
theorem dX8_init_1 : decode cX8_init 1 = .ok (.invokespecial 3, 3) := by decide +kernel
theorem dX8_init_4 : decode cX8_init 4 = .ok (.aload_n 0, 1) := by decide +kernel
theorem dX8_init_5 : decode cX8_init 5 = .ok (.new 9, 3) := by decide +kernel
theorem dX8_init_8 : decode cX8_init 8 = .ok (.dup, 1) := by decide +kernel
theorem dX8_init_9 : decode cX8_init 9 = .ok (.bipush 112, 2) := by decide +kernel
theorem dX8_init_11 : decode cX8_init 11 = .ok (.invokespecial 11, 3) := by decide +kernel
theorem dX8_init_14 : decode cX8_init 14 = .ok (.putfield 14, 3) := by decide +kernel
theorem dX8_init_17 : decode cX8_init 17 = .ok (.aload_n 0, 1) := by decide +kernel
theorem dX8_init_18 : decode cX8_init 18 = .ok (.aload_n 1, 1) := by decide +kernel
theorem dX8_init_19 : decode cX8_init 19 = .ok (.putfield 20, 3) := by decide +kernel
theorem dX8_init_22 : decode cX8_init 22 = .ok (.aload_n 0, 1) := by decide +kernel
theorem dX8_init_23 : decode cX8_init 23 = .ok (.aload_n 2, 1) := by decide +kernel
theorem dX8_init_24 : decode cX8_init 24 = .ok (.putfield 24, 3) := by decide +kernel
theorem dX8_init_27 : decode cX8_init 27 = .ok (.aload_n 0, 1) := by decide +kernel
theorem dX8_init_28 : decode cX8_init 28 = .ok (.aload_n 3, 1) := by decide +kernel
theorem dX8_init_29 : decode cX8_init 29 = .ok (.putfield 28, 3) := by decide +kernel
theorem dX8_init_32 : decode cX8_init 32 = .ok (.return_, 1) := by decide +kernel
theorem dX8_countOfStages_0 : decode cX8_countOfStages 0 = .ok (.aload_n 0, 1) := by decide +kernel
theorem dX8_countOfStages_1 : decode cX8_countOfStages 1 = .ok (.getfield 32, 3) := by decide +kernel
theorem dX8_countOfStages_4 : decode cX8_countOfStages 4 = .ok (.invokestatic 36, 3) := by decide +kernel
theorem dX8_countOfStages_7 : decode cX8_countOfStages 7 = .ok (.ireturn, 1) := by decide +kernel
theorem dX8_outputOfStage_0 : decode cX8_outputOfStage 0 = .ok (.iconst 0, 1) := by decide +kernel
theorem dX8_outputOfStage_1 : decode cX8_outputOfStage 1 = .ok (.istore_n 2, 1) := by decide +kernel
theorem dX8_outputOfStage_2 : decode cX8_outputOfStage 2 = .ok (.iconst 0, 1) := by decide +kernel
theorem dX8_outputOfStage_3 : decode cX8_outputOfStage 3 = .ok (.istore_n 3, 1) := by decide +kernel
theorem dX8_outputOfStage_4 : decode cX8_outputOfStage 4 = .ok (.iload_n 3, 1) := by decide +kernel
theorem dX8_outputOfStage_5 : decode cX8_outputOfStage 5 = .ok (.bipush 14, 2) := by decide +kernel
theorem dX8_outputOfStage_7 : decode cX8_outputOfStage 7 = .ok (.if_icmp .ge 30, 3) := by decide +kernel
theorem dX8_outputOfStage_10 : decode cX8_outputOfStage 10 = .ok (.aload_n 0, 1) := by decide +kernel
theorem dX8_outputOfStage_11 : decode cX8_outputOfStage 11 = .ok (.getfield 32, 3) := by decide +kernel
theorem dX8_outputOfStage_14 : decode cX8_outputOfStage 14 = .ok (.iload_n 3, 1) := by decide +kernel
theorem dX8_outputOfStage_15 : decode cX8_outputOfStage 15 = .ok (.invokestatic 42, 3) := by decide +kernel
theorem dX8_outputOfStage_18 : decode cX8_outputOfStage 18 = .ok (.ifCond .eq 13, 3) := by decide +kernel
theorem dX8_outputOfStage_21 : decode cX8_outputOfStage 21 = .ok (.iload_n 2, 1) := by decide +kernel
theorem dX8_outputOfStage_22 : decode cX8_outputOfStage 22 = .ok (.iload_n 1, 1) := by decide +kernel
theorem dX8_outputOfStage_23 : decode cX8_outputOfStage 23 = .ok (.if_icmp .ne 5, 3) := by decide +kernel
theorem dX8_outputOfStage_26 : decode cX8_outputOfStage 26 = .ok (.iload_n 3, 1) := by decide +kernel
theorem dX8_outputOfStage_27 : decode cX8_outputOfStage 27 = .ok (.ireturn, 1) := by decide +kernel
theorem dX8_outputOfStage_28 : decode cX8_outputOfStage 28 = .ok (.iinc 2 1, 3) := by decide +kernel
theorem dX8_outputOfStage_31 : decode cX8_outputOfStage 31 = .ok (.iinc 3 1, 3) := by decide +kernel
theorem dX8_outputOfStage_34 : decode cX8_outputOfStage 34 = .ok (.goto (-30), 3) := by decide +kernel
theorem dX8_outputOfStage_37 : decode cX8_outputOfStage 37 = .ok (.iconst (-1), 1) := by decide +kernel
theorem dX8_outputOfStage_38 : decode cX8_outputOfStage 38 = .ok (.ireturn, 1) := by decide +kernel
theorem dX8_readsOf_0 : decode cX8_readsOf 0 = .ok (.aload_n 0, 1) := by decide +kernel
theorem dX8_readsOf_1 : decode cX8_readsOf 1 = .ok (.getfield 14, 3) := by decide +kernel
theorem dX8_readsOf_4 : decode cX8_readsOf 4 = .ok (.iload_n 1, 1) := by decide +kernel
theorem dX8_readsOf_5 : decode cX8_readsOf 5 = .ok (.bipush 8, 2) := by decide +kernel
theorem dX8_readsOf_7 : decode cX8_readsOf 7 = .ok (.imul, 1) := by decide +kernel
theorem dX8_readsOf_8 : decode cX8_readsOf 8 = .ok (.iload_n 2, 1) := by decide +kernel
theorem dX8_readsOf_9 : decode cX8_readsOf 9 = .ok (.iadd, 1) := by decide +kernel
theorem dX8_readsOf_10 : decode cX8_readsOf 10 = .ok (.invokevirtual 46, 3) := by decide +kernel
theorem dX8_readsOf_13 : decode cX8_readsOf 13 = .ok (.ireturn, 1) := by decide +kernel
theorem dX8_draw_0 : decode cX8_draw 0 = .ok (.aload_n 0, 1) := by decide +kernel
theorem dX8_draw_1 : decode cX8_draw 1 = .ok (.iconst 0, 1) := by decide +kernel
theorem dX8_draw_2 : decode cX8_draw 2 = .ok (.putfield 32, 3) := by decide +kernel
theorem dX8_draw_5 : decode cX8_draw 5 = .ok (.aload_n 0, 1) := by decide +kernel
theorem dX8_draw_6 : decode cX8_draw 6 = .ok (.iconst 0, 1) := by decide +kernel
theorem dX8_draw_7 : decode cX8_draw 7 = .ok (.putfield 49, 3) := by decide +kernel
theorem dX8_draw_10 : decode cX8_draw 10 = .ok (.aload_n 0, 1) := by decide +kernel
theorem dX8_draw_11 : decode cX8_draw 11 = .ok (.iconst 0, 1) := by decide +kernel
theorem dX8_draw_12 : decode cX8_draw 12 = .ok (.putfield 52, 3) := by decide +kernel
theorem dX8_draw_15 : decode cX8_draw 15 = .ok (.aload_n 0, 1) := by decide +kernel
theorem dX8_draw_16 : decode cX8_draw 16 = .ok (.iload_n 1, 1) := by decide +kernel
theorem dX8_draw_17 : decode cX8_draw 17 = .ok (.invokevirtual 55, 3) := by decide +kernel
theorem dX8_draw_20 : decode cX8_draw 20 = .ok (.bipush 13, 2) := by decide +kernel
theorem dX8_draw_22 : decode cX8_draw 22 = .ok (.istore_n 2, 1) := by decide +kernel
theorem dX8_draw_23 : decode cX8_draw 23 = .ok (.iload_n 2, 1) := by decide +kernel
theorem dX8_draw_24 : decode cX8_draw 24 = .ok (.ifCond .lt 68, 3) := by decide +kernel
theorem dX8_draw_27 : decode cX8_draw 27 = .ok (.aload_n 0, 1) := by decide +kernel
theorem dX8_draw_28 : decode cX8_draw 28 = .ok (.getfield 32, 3) := by decide +kernel
theorem dX8_draw_31 : decode cX8_draw 31 = .ok (.iload_n 2, 1) := by decide +kernel
theorem dX8_draw_32 : decode cX8_draw 32 = .ok (.invokestatic 42, 3) := by decide +kernel
theorem dX8_draw_35 : decode cX8_draw 35 = .ok (.ifCond .eq 51, 3) := by decide +kernel
theorem dX8_draw_38 : decode cX8_draw 38 = .ok (.aload_n 0, 1) := by decide +kernel
theorem dX8_draw_39 : decode cX8_draw 39 = .ok (.getfield 24, 3) := by decide +kernel
theorem dX8_draw_42 : decode cX8_draw 42 = .ok (.iload_n 2, 1) := by decide +kernel
theorem dX8_draw_43 : decode cX8_draw 43 = .ok (.invokevirtual 58, 3) := by decide +kernel
theorem dX8_draw_46 : decode cX8_draw 46 = .ok (.invokevirtual 64, 3) := by decide +kernel
theorem dX8_draw_49 : decode cX8_draw 49 = .ok (.istore_n 3, 1) := by decide +kernel
theorem dX8_draw_50 : decode cX8_draw 50 = .ok (.iconst 0, 1) := by decide +kernel
theorem dX8_draw_51 : decode cX8_draw 51 = .ok (.istore 4, 2) := by decide +kernel
theorem dX8_draw_53 : decode cX8_draw 53 = .ok (.iload 4, 2) := by decide +kernel
theorem dX8_draw_55 : decode cX8_draw 55 = .ok (.iload_n 3, 1) := by decide +kernel
theorem dX8_draw_56 : decode cX8_draw 56 = .ok (.if_icmp .ge 30, 3) := by decide +kernel
theorem dX8_draw_59 : decode cX8_draw 59 = .ok (.aload_n 0, 1) := by decide +kernel
theorem dX8_draw_60 : decode cX8_draw 60 = .ok (.getfield 14, 3) := by decide +kernel
theorem dX8_draw_63 : decode cX8_draw 63 = .ok (.iload_n 2, 1) := by decide +kernel
theorem dX8_draw_64 : decode cX8_draw 64 = .ok (.bipush 8, 2) := by decide +kernel
theorem dX8_draw_66 : decode cX8_draw 66 = .ok (.imul, 1) := by decide +kernel
theorem dX8_draw_67 : decode cX8_draw 67 = .ok (.iload 4, 2) := by decide +kernel
theorem dX8_draw_69 : decode cX8_draw 69 = .ok (.iadd, 1) := by decide +kernel
theorem dX8_draw_70 : decode cX8_draw 70 = .ok (.aload_n 0, 1) := by decide +kernel
theorem dX8_draw_71 : decode cX8_draw 71 = .ok (.iload_n 2, 1) := by decide +kernel
theorem dX8_draw_72 : decode cX8_draw 72 = .ok (.iload 4, 2) := by decide +kernel
theorem dX8_draw_74 : decode cX8_draw 74 = .ok (.invokevirtual 70, 3) := by decide +kernel
theorem dX8_draw_77 : decode cX8_draw 77 = .ok (.invokevirtual 74, 3) := by decide +kernel
theorem dX8_draw_80 : decode cX8_draw 80 = .ok (.iinc 4 1, 3) := by decide +kernel
theorem dX8_draw_83 : decode cX8_draw 83 = .ok (.goto (-30), 3) := by decide +kernel
theorem dX8_draw_86 : decode cX8_draw 86 = .ok (.iinc 2 (-1), 3) := by decide +kernel
theorem dX8_draw_89 : decode cX8_draw 89 = .ok (.goto (-66), 3) := by decide +kernel
theorem dX8_draw_92 : decode cX8_draw 92 = .ok (.return_, 1) := by decide +kernel
theorem dX8_needWhole_0 : decode cX8_needWhole 0 = .ok (.aload_n 0, 1) := by decide +kernel
theorem dX8_needWhole_1 : decode cX8_needWhole 1 = .ok (.getfield 28, 3) := by decide +kernel
theorem dX8_needWhole_4 : decode cX8_needWhole 4 = .ok (.iload_n 1, 1) := by decide +kernel
theorem dX8_needWhole_5 : decode cX8_needWhole 5 = .ok (.invokevirtual 78, 3) := by decide +kernel
theorem dX8_needWhole_8 : decode cX8_needWhole 8 = .ok (.ifCond .eq 18, 3) := by decide +kernel
theorem dX8_needWhole_11 : decode cX8_needWhole 11 = .ok (.aload_n 0, 1) := by decide +kernel
theorem dX8_needWhole_12 : decode cX8_needWhole 12 = .ok (.aload_n 0, 1) := by decide +kernel
theorem dX8_needWhole_13 : decode cX8_needWhole 13 = .ok (.getfield 52, 3) := by decide +kernel
theorem dX8_needWhole_16 : decode cX8_needWhole 16 = .ok (.iload_n 1, 1) := by decide +kernel
theorem dX8_needWhole_17 : decode cX8_needWhole 17 = .ok (.invokestatic 84, 3) := by decide +kernel
theorem dX8_needWhole_20 : decode cX8_needWhole 20 = .ok (.putfield 52, 3) := by decide +kernel
theorem dX8_needWhole_23 : decode cX8_needWhole 23 = .ok (.goto 15, 3) := by decide +kernel
theorem dX8_needWhole_26 : decode cX8_needWhole 26 = .ok (.aload_n 0, 1) := by decide +kernel
theorem dX8_needWhole_27 : decode cX8_needWhole 27 = .ok (.aload_n 0, 1) := by decide +kernel
theorem dX8_needWhole_28 : decode cX8_needWhole 28 = .ok (.getfield 32, 3) := by decide +kernel
theorem dX8_needWhole_31 : decode cX8_needWhole 31 = .ok (.iload_n 1, 1) := by decide +kernel
theorem dX8_needWhole_32 : decode cX8_needWhole 32 = .ok (.invokestatic 84, 3) := by decide +kernel
theorem dX8_needWhole_35 : decode cX8_needWhole 35 = .ok (.putfield 32, 3) := by decide +kernel
theorem dX8_needWhole_38 : decode cX8_needWhole 38 = .ok (.return_, 1) := by decide +kernel
theorem dX8_readsOfTask_0 : decode cX8_readsOfTask 0 = .ok (.iconst 0, 1) := by decide +kernel
theorem dX8_readsOfTask_1 : decode cX8_readsOfTask 1 = .ok (.istore_n 3, 1) := by decide +kernel
theorem dX8_readsOfTask_2 : decode cX8_readsOfTask 2 = .ok (.iload_n 1, 1) := by decide +kernel
theorem dX8_readsOfTask_3 : decode cX8_readsOfTask 3 = .ok (.istore 4, 2) := by decide +kernel
theorem dX8_readsOfTask_5 : decode cX8_readsOfTask 5 = .ok (.iload_n 2, 1) := by decide +kernel
theorem dX8_readsOfTask_6 : decode cX8_readsOfTask 6 = .ok (.istore 5, 2) := by decide +kernel
theorem dX8_readsOfTask_8 : decode cX8_readsOfTask 8 = .ok (.iconst 0, 1) := by decide +kernel
theorem dX8_readsOfTask_9 : decode cX8_readsOfTask 9 = .ok (.istore 6, 2) := by decide +kernel
theorem dX8_readsOfTask_11 : decode cX8_readsOfTask 11 = .ok (.iload 6, 2) := by decide +kernel
theorem dX8_readsOfTask_13 : decode cX8_readsOfTask 13 = .ok (.bipush 14, 2) := by decide +kernel
theorem dX8_readsOfTask_15 : decode cX8_readsOfTask 15 = .ok (.if_icmp .ge 263, 3) := by decide +kernel
theorem dX8_readsOfTask_18 : decode cX8_readsOfTask 18 = .ok (.aload_n 0, 1) := by decide +kernel
theorem dX8_readsOfTask_19 : decode cX8_readsOfTask 19 = .ok (.getfield 20, 3) := by decide +kernel
theorem dX8_readsOfTask_22 : decode cX8_readsOfTask 22 = .ok (.iload 4, 2) := by decide +kernel
theorem dX8_readsOfTask_24 : decode cX8_readsOfTask 24 = .ok (.invokevirtual 87, 3) := by decide +kernel
theorem dX8_readsOfTask_27 : decode cX8_readsOfTask 27 = .ok (.astore 7, 2) := by decide +kernel
theorem dX8_readsOfTask_29 : decode cX8_readsOfTask 29 = .ok (.aload_n 0, 1) := by decide +kernel
theorem dX8_readsOfTask_30 : decode cX8_readsOfTask 30 = .ok (.getfield 28, 3) := by decide +kernel
theorem dX8_readsOfTask_33 : decode cX8_readsOfTask 33 = .ok (.iload 4, 2) := by decide +kernel
theorem dX8_readsOfTask_35 : decode cX8_readsOfTask 35 = .ok (.invokevirtual 78, 3) := by decide +kernel
theorem dX8_readsOfTask_38 : decode cX8_readsOfTask 38 = .ok (.ifCond .eq 33, 3) := by decide +kernel
theorem dX8_readsOfTask_41 : decode cX8_readsOfTask 41 = .ok (.aload_n 0, 1) := by decide +kernel
theorem dX8_readsOfTask_42 : decode cX8_readsOfTask 42 = .ok (.aload_n 0, 1) := by decide +kernel
theorem dX8_readsOfTask_43 : decode cX8_readsOfTask 43 = .ok (.getfield 52, 3) := by decide +kernel
theorem dX8_readsOfTask_46 : decode cX8_readsOfTask 46 = .ok (.iload 4, 2) := by decide +kernel
theorem dX8_readsOfTask_48 : decode cX8_readsOfTask 48 = .ok (.invokestatic 84, 3) := by decide +kernel
theorem dX8_readsOfTask_51 : decode cX8_readsOfTask 51 = .ok (.putfield 52, 3) := by decide +kernel
theorem dX8_readsOfTask_54 : decode cX8_readsOfTask 54 = .ok (.iload_n 3, 1) := by decide +kernel
theorem dX8_readsOfTask_55 : decode cX8_readsOfTask 55 = .ok (.aload_n 0, 1) := by decide +kernel
theorem dX8_readsOfTask_56 : decode cX8_readsOfTask 56 = .ok (.getfield 24, 3) := by decide +kernel
theorem dX8_readsOfTask_59 : decode cX8_readsOfTask 59 = .ok (.iload 4, 2) := by decide +kernel
theorem dX8_readsOfTask_61 : decode cX8_readsOfTask 61 = .ok (.invokevirtual 58, 3) := by decide +kernel
theorem dX8_readsOfTask_64 : decode cX8_readsOfTask 64 = .ok (.iload 5, 2) := by decide +kernel
theorem dX8_readsOfTask_66 : decode cX8_readsOfTask 66 = .ok (.invokevirtual 92, 3) := by decide +kernel
theorem dX8_readsOfTask_69 : decode cX8_readsOfTask 69 = .ok (.iadd, 1) := by decide +kernel
theorem dX8_readsOfTask_70 : decode cX8_readsOfTask 70 = .ok (.ireturn, 1) := by decide +kernel
theorem dX8_readsOfTask_71 : decode cX8_readsOfTask 71 = .ok (.aload_n 0, 1) := by decide +kernel
theorem dX8_readsOfTask_72 : decode cX8_readsOfTask 72 = .ok (.aload_n 0, 1) := by decide +kernel
theorem dX8_readsOfTask_73 : decode cX8_readsOfTask 73 = .ok (.getfield 49, 3) := by decide +kernel
theorem dX8_readsOfTask_76 : decode cX8_readsOfTask 76 = .ok (.iload 4, 2) := by decide +kernel
theorem dX8_readsOfTask_78 : decode cX8_readsOfTask 78 = .ok (.invokestatic 84, 3) := by decide +kernel
theorem dX8_readsOfTask_81 : decode cX8_readsOfTask 81 = .ok (.putfield 49, 3) := by decide +kernel
theorem dX8_readsOfTask_84 : decode cX8_readsOfTask 84 = .ok (.aload 7, 2) := by decide +kernel
theorem dX8_readsOfTask_86 : decode cX8_readsOfTask 86 = .ok (.getfield 95, 3) := by decide +kernel
theorem dX8_readsOfTask_89 : decode cX8_readsOfTask 89 = .ok (.getstatic 101, 3) := by decide +kernel
theorem dX8_readsOfTask_92 : decode cX8_readsOfTask 92 = .ok (.if_acmp .ne 20, 3) := by decide +kernel
theorem dX8_readsOfTask_95 : decode cX8_readsOfTask 95 = .ok (.iload_n 3, 1) := by decide +kernel
theorem dX8_readsOfTask_96 : decode cX8_readsOfTask 96 = .ok (.aload_n 0, 1) := by decide +kernel
theorem dX8_readsOfTask_97 : decode cX8_readsOfTask 97 = .ok (.getfield 24, 3) := by decide +kernel
theorem dX8_readsOfTask_100 : decode cX8_readsOfTask 100 = .ok (.iload 4, 2) := by decide +kernel
theorem dX8_readsOfTask_102 : decode cX8_readsOfTask 102 = .ok (.invokevirtual 58, 3) := by decide +kernel
theorem dX8_readsOfTask_105 : decode cX8_readsOfTask 105 = .ok (.iload 5, 2) := by decide +kernel
theorem dX8_readsOfTask_107 : decode cX8_readsOfTask 107 = .ok (.invokevirtual 92, 3) := by decide +kernel
theorem dX8_readsOfTask_110 : decode cX8_readsOfTask 110 = .ok (.iadd, 1) := by decide +kernel
theorem dX8_readsOfTask_111 : decode cX8_readsOfTask 111 = .ok (.ireturn, 1) := by decide +kernel
theorem dX8_readsOfTask_112 : decode cX8_readsOfTask 112 = .ok (.aload_n 0, 1) := by decide +kernel
theorem dX8_readsOfTask_113 : decode cX8_readsOfTask 113 = .ok (.getfield 24, 3) := by decide +kernel
theorem dX8_readsOfTask_116 : decode cX8_readsOfTask 116 = .ok (.iload 4, 2) := by decide +kernel
theorem dX8_readsOfTask_118 : decode cX8_readsOfTask 118 = .ok (.invokevirtual 106, 3) := by decide +kernel
theorem dX8_readsOfTask_121 : decode cX8_readsOfTask 121 = .ok (.istore 8, 2) := by decide +kernel
theorem dX8_readsOfTask_123 : decode cX8_readsOfTask 123 = .ok (.aload 7, 2) := by decide +kernel
theorem dX8_readsOfTask_125 : decode cX8_readsOfTask 125 = .ok (.getfield 95, 3) := by decide +kernel
theorem dX8_readsOfTask_128 : decode cX8_readsOfTask 128 = .ok (.getstatic 109, 3) := by decide +kernel
theorem dX8_readsOfTask_131 : decode cX8_readsOfTask 131 = .ok (.if_acmp .eq 19, 3) := by decide +kernel
theorem dX8_readsOfTask_134 : decode cX8_readsOfTask 134 = .ok (.aload 7, 2) := by decide +kernel
theorem dX8_readsOfTask_136 : decode cX8_readsOfTask 136 = .ok (.getfield 95, 3) := by decide +kernel
theorem dX8_readsOfTask_139 : decode cX8_readsOfTask 139 = .ok (.getstatic 112, 3) := by decide +kernel
theorem dX8_readsOfTask_142 : decode cX8_readsOfTask 142 = .ok (.if_acmp .ne 19, 3) := by decide +kernel
theorem dX8_readsOfTask_145 : decode cX8_readsOfTask 145 = .ok (.iload 8, 2) := by decide +kernel
theorem dX8_readsOfTask_147 : decode cX8_readsOfTask 147 = .ok (.ifCond .ne 14, 3) := by decide +kernel
theorem dX8_readsOfTask_150 : decode cX8_readsOfTask 150 = .ok (.iload_n 3, 1) := by decide +kernel
theorem dX8_readsOfTask_151 : decode cX8_readsOfTask 151 = .ok (.aload_n 0, 1) := by decide +kernel
theorem dX8_readsOfTask_152 : decode cX8_readsOfTask 152 = .ok (.aload 7, 2) := by decide +kernel
theorem dX8_readsOfTask_154 : decode cX8_readsOfTask 154 = .ok (.iload 5, 2) := by decide +kernel
theorem dX8_readsOfTask_156 : decode cX8_readsOfTask 156 = .ok (.invokevirtual 115, 3) := by decide +kernel
theorem dX8_readsOfTask_159 : decode cX8_readsOfTask 159 = .ok (.iadd, 1) := by decide +kernel
theorem dX8_readsOfTask_160 : decode cX8_readsOfTask 160 = .ok (.ireturn, 1) := by decide +kernel
theorem dX8_readsOfTask_161 : decode cX8_readsOfTask 161 = .ok (.iload 8, 2) := by decide +kernel
theorem dX8_readsOfTask_163 : decode cX8_readsOfTask 163 = .ok (.ifCond .eq 30, 3) := by decide +kernel
theorem dX8_readsOfTask_166 : decode cX8_readsOfTask 166 = .ok (.aload_n 0, 1) := by decide +kernel
theorem dX8_readsOfTask_167 : decode cX8_readsOfTask 167 = .ok (.aload 7, 2) := by decide +kernel
theorem dX8_readsOfTask_169 : decode cX8_readsOfTask 169 = .ok (.getfield 119, 3) := by decide +kernel
theorem dX8_readsOfTask_172 : decode cX8_readsOfTask 172 = .ok (.invokevirtual 55, 3) := by decide +kernel
theorem dX8_readsOfTask_175 : decode cX8_readsOfTask 175 = .ok (.iload_n 3, 1) := by decide +kernel
theorem dX8_readsOfTask_176 : decode cX8_readsOfTask 176 = .ok (.aload_n 0, 1) := by decide +kernel
theorem dX8_readsOfTask_177 : decode cX8_readsOfTask 177 = .ok (.getfield 24, 3) := by decide +kernel
theorem dX8_readsOfTask_180 : decode cX8_readsOfTask 180 = .ok (.aload 7, 2) := by decide +kernel
theorem dX8_readsOfTask_182 : decode cX8_readsOfTask 182 = .ok (.getfield 119, 3) := by decide +kernel
theorem dX8_readsOfTask_185 : decode cX8_readsOfTask 185 = .ok (.invokevirtual 58, 3) := by decide +kernel
theorem dX8_readsOfTask_188 : decode cX8_readsOfTask 188 = .ok (.invokevirtual 122, 3) := by decide +kernel
theorem dX8_readsOfTask_191 : decode cX8_readsOfTask 191 = .ok (.iadd, 1) := by decide +kernel
theorem dX8_readsOfTask_192 : decode cX8_readsOfTask 192 = .ok (.istore_n 3, 1) := by decide +kernel
theorem dX8_readsOfTask_193 : decode cX8_readsOfTask 193 = .ok (.aload_n 0, 1) := by decide +kernel
theorem dX8_readsOfTask_194 : decode cX8_readsOfTask 194 = .ok (.getfield 24, 3) := by decide +kernel
theorem dX8_readsOfTask_197 : decode cX8_readsOfTask 197 = .ok (.aload 7, 2) := by decide +kernel
theorem dX8_readsOfTask_199 : decode cX8_readsOfTask 199 = .ok (.getfield 125, 3) := by decide +kernel
theorem dX8_readsOfTask_202 : decode cX8_readsOfTask 202 = .ok (.invokevirtual 58, 3) := by decide +kernel
theorem dX8_readsOfTask_205 : decode cX8_readsOfTask 205 = .ok (.invokevirtual 64, 3) := by decide +kernel
theorem dX8_readsOfTask_208 : decode cX8_readsOfTask 208 = .ok (.istore 9, 2) := by decide +kernel
theorem dX8_readsOfTask_210 : decode cX8_readsOfTask 210 = .ok (.aload 7, 2) := by decide +kernel
theorem dX8_readsOfTask_212 : decode cX8_readsOfTask 212 = .ok (.getfield 95, 3) := by decide +kernel
theorem dX8_readsOfTask_215 : decode cX8_readsOfTask 215 = .ok (.getstatic 128, 3) := by decide +kernel
theorem dX8_readsOfTask_218 : decode cX8_readsOfTask 218 = .ok (.if_acmp .ne 14, 3) := by decide +kernel
theorem dX8_readsOfTask_221 : decode cX8_readsOfTask 221 = .ok (.iload 5, 2) := by decide +kernel
theorem dX8_readsOfTask_223 : decode cX8_readsOfTask 223 = .ok (.iload 9, 2) := by decide +kernel
theorem dX8_readsOfTask_225 : decode cX8_readsOfTask 225 = .ok (.if_icmp .lt 7, 3) := by decide +kernel
theorem dX8_readsOfTask_228 : decode cX8_readsOfTask 228 = .ok (.iconst 1, 1) := by decide +kernel
theorem dX8_readsOfTask_229 : decode cX8_readsOfTask 229 = .ok (.goto 4, 3) := by decide +kernel
theorem dX8_readsOfTask_232 : decode cX8_readsOfTask 232 = .ok (.iconst 0, 1) := by decide +kernel
theorem dX8_readsOfTask_233 : decode cX8_readsOfTask 233 = .ok (.istore 10, 2) := by decide +kernel
theorem dX8_readsOfTask_235 : decode cX8_readsOfTask 235 = .ok (.iload 10, 2) := by decide +kernel
theorem dX8_readsOfTask_237 : decode cX8_readsOfTask 237 = .ok (.ifCond .eq 11, 3) := by decide +kernel
theorem dX8_readsOfTask_240 : decode cX8_readsOfTask 240 = .ok (.iload 5, 2) := by decide +kernel
theorem dX8_readsOfTask_242 : decode cX8_readsOfTask 242 = .ok (.iload 9, 2) := by decide +kernel
theorem dX8_readsOfTask_244 : decode cX8_readsOfTask 244 = .ok (.isub, 1) := by decide +kernel
theorem dX8_readsOfTask_245 : decode cX8_readsOfTask 245 = .ok (.goto 5, 3) := by decide +kernel
theorem dX8_readsOfTask_248 : decode cX8_readsOfTask 248 = .ok (.iload 5, 2) := by decide +kernel
theorem dX8_readsOfTask_250 : decode cX8_readsOfTask 250 = .ok (.istore 5, 2) := by decide +kernel
theorem dX8_readsOfTask_252 : decode cX8_readsOfTask 252 = .ok (.iload 10, 2) := by decide +kernel
theorem dX8_readsOfTask_254 : decode cX8_readsOfTask 254 = .ok (.ifCond .eq 11, 3) := by decide +kernel
theorem dX8_readsOfTask_257 : decode cX8_readsOfTask 257 = .ok (.aload 7, 2) := by decide +kernel
theorem dX8_readsOfTask_259 : decode cX8_readsOfTask 259 = .ok (.getfield 119, 3) := by decide +kernel
theorem dX8_readsOfTask_262 : decode cX8_readsOfTask 262 = .ok (.goto 8, 3) := by decide +kernel
theorem dX8_readsOfTask_265 : decode cX8_readsOfTask 265 = .ok (.aload 7, 2) := by decide +kernel
theorem dX8_readsOfTask_267 : decode cX8_readsOfTask 267 = .ok (.getfield 125, 3) := by decide +kernel
theorem dX8_readsOfTask_270 : decode cX8_readsOfTask 270 = .ok (.istore 4, 2) := by decide +kernel
theorem dX8_readsOfTask_272 : decode cX8_readsOfTask 272 = .ok (.iinc 6 1, 3) := by decide +kernel
theorem dX8_readsOfTask_275 : decode cX8_readsOfTask 275 = .ok (.goto (-264), 3) := by decide +kernel
theorem dX8_readsOfTask_278 : decode cX8_readsOfTask 278 = .ok (.iload_n 3, 1) := by decide +kernel
theorem dX8_readsOfTask_279 : decode cX8_readsOfTask 279 = .ok (.ireturn, 1) := by decide +kernel
theorem dX8_readsOfShares_0 : decode cX8_readsOfShares 0 = .ok (.aload_n 0, 1) := by decide +kernel
theorem dX8_readsOfShares_1 : decode cX8_readsOfShares 1 = .ok (.aload_n 1, 1) := by decide +kernel
theorem dX8_readsOfShares_2 : decode cX8_readsOfShares 2 = .ok (.getfield 125, 3) := by decide +kernel
theorem dX8_readsOfShares_5 : decode cX8_readsOfShares 5 = .ok (.invokevirtual 55, 3) := by decide +kernel
theorem dX8_readsOfShares_8 : decode cX8_readsOfShares 8 = .ok (.aload_n 0, 1) := by decide +kernel
theorem dX8_readsOfShares_9 : decode cX8_readsOfShares 9 = .ok (.getfield 24, 3) := by decide +kernel
theorem dX8_readsOfShares_12 : decode cX8_readsOfShares 12 = .ok (.aload_n 1, 1) := by decide +kernel
theorem dX8_readsOfShares_13 : decode cX8_readsOfShares 13 = .ok (.getfield 125, 3) := by decide +kernel
theorem dX8_readsOfShares_16 : decode cX8_readsOfShares 16 = .ok (.invokevirtual 58, 3) := by decide +kernel
theorem dX8_readsOfShares_19 : decode cX8_readsOfShares 19 = .ok (.aload_n 1, 1) := by decide +kernel
theorem dX8_readsOfShares_20 : decode cX8_readsOfShares 20 = .ok (.getfield 131, 3) := by decide +kernel
theorem dX8_readsOfShares_23 : decode cX8_readsOfShares 23 = .ok (.iload_n 2, 1) := by decide +kernel
theorem dX8_readsOfShares_24 : decode cX8_readsOfShares 24 = .ok (.invokestatic 134, 3) := by decide +kernel
theorem dX8_readsOfShares_27 : decode cX8_readsOfShares 27 = .ok (.istore_n 3, 1) := by decide +kernel
theorem dX8_readsOfShares_28 : decode cX8_readsOfShares 28 = .ok (.aload_n 1, 1) := by decide +kernel
theorem dX8_readsOfShares_29 : decode cX8_readsOfShares 29 = .ok (.getfield 95, 3) := by decide +kernel
theorem dX8_readsOfShares_32 : decode cX8_readsOfShares 32 = .ok (.getstatic 112, 3) := by decide +kernel
theorem dX8_readsOfShares_35 : decode cX8_readsOfShares 35 = .ok (.if_acmp .ne 33, 3) := by decide +kernel
theorem dX8_readsOfShares_38 : decode cX8_readsOfShares 38 = .ok (.aload_n 0, 1) := by decide +kernel
theorem dX8_readsOfShares_39 : decode cX8_readsOfShares 39 = .ok (.aload_n 1, 1) := by decide +kernel
theorem dX8_readsOfShares_40 : decode cX8_readsOfShares 40 = .ok (.getfield 119, 3) := by decide +kernel
theorem dX8_readsOfShares_43 : decode cX8_readsOfShares 43 = .ok (.invokevirtual 55, 3) := by decide +kernel
theorem dX8_readsOfShares_46 : decode cX8_readsOfShares 46 = .ok (.iload_n 3, 1) := by decide +kernel
theorem dX8_readsOfShares_47 : decode cX8_readsOfShares 47 = .ok (.aload_n 0, 1) := by decide +kernel
theorem dX8_readsOfShares_48 : decode cX8_readsOfShares 48 = .ok (.getfield 24, 3) := by decide +kernel
theorem dX8_readsOfShares_51 : decode cX8_readsOfShares 51 = .ok (.aload_n 1, 1) := by decide +kernel
theorem dX8_readsOfShares_52 : decode cX8_readsOfShares 52 = .ok (.getfield 119, 3) := by decide +kernel
theorem dX8_readsOfShares_55 : decode cX8_readsOfShares 55 = .ok (.invokevirtual 58, 3) := by decide +kernel
theorem dX8_readsOfShares_58 : decode cX8_readsOfShares 58 = .ok (.aload_n 1, 1) := by decide +kernel
theorem dX8_readsOfShares_59 : decode cX8_readsOfShares 59 = .ok (.getfield 131, 3) := by decide +kernel
theorem dX8_readsOfShares_62 : decode cX8_readsOfShares 62 = .ok (.iload_n 2, 1) := by decide +kernel
theorem dX8_readsOfShares_63 : decode cX8_readsOfShares 63 = .ok (.invokestatic 134, 3) := by decide +kernel
theorem dX8_readsOfShares_66 : decode cX8_readsOfShares 66 = .ok (.iadd, 1) := by decide +kernel
theorem dX8_readsOfShares_67 : decode cX8_readsOfShares 67 = .ok (.istore_n 3, 1) := by decide +kernel
theorem dX8_readsOfShares_68 : decode cX8_readsOfShares 68 = .ok (.iload_n 3, 1) := by decide +kernel
theorem dX8_readsOfShares_69 : decode cX8_readsOfShares 69 = .ok (.ireturn, 1) := by decide +kernel
theorem dX8_sizeOfShare_0 : decode cX8_sizeOfShare 0 = .ok (.iconst 0, 1) := by decide +kernel
theorem dX8_sizeOfShare_1 : decode cX8_sizeOfShare 1 = .ok (.istore_n 3, 1) := by decide +kernel
theorem dX8_sizeOfShare_2 : decode cX8_sizeOfShare 2 = .ok (.iconst 0, 1) := by decide +kernel
theorem dX8_sizeOfShare_3 : decode cX8_sizeOfShare 3 = .ok (.istore 4, 2) := by decide +kernel
theorem dX8_sizeOfShare_5 : decode cX8_sizeOfShare 5 = .ok (.iload 4, 2) := by decide +kernel
theorem dX8_sizeOfShare_7 : decode cX8_sizeOfShare 7 = .ok (.aload_n 0, 1) := by decide +kernel
theorem dX8_sizeOfShare_8 : decode cX8_sizeOfShare 8 = .ok (.invokevirtual 122, 3) := by decide +kernel
theorem dX8_sizeOfShare_11 : decode cX8_sizeOfShare 11 = .ok (.if_icmp .ge 26, 3) := by decide +kernel
theorem dX8_sizeOfShare_14 : decode cX8_sizeOfShare 14 = .ok (.aload_n 0, 1) := by decide +kernel
theorem dX8_sizeOfShare_15 : decode cX8_sizeOfShare 15 = .ok (.iload 4, 2) := by decide +kernel
theorem dX8_sizeOfShare_17 : decode cX8_sizeOfShare 17 = .ok (.invokevirtual 138, 3) := by decide +kernel
theorem dX8_sizeOfShare_20 : decode cX8_sizeOfShare 20 = .ok (.iload_n 1, 1) := by decide +kernel
theorem dX8_sizeOfShare_21 : decode cX8_sizeOfShare 21 = .ok (.invokestatic 141, 3) := by decide +kernel
theorem dX8_sizeOfShare_24 : decode cX8_sizeOfShare 24 = .ok (.iload_n 2, 1) := by decide +kernel
theorem dX8_sizeOfShare_25 : decode cX8_sizeOfShare 25 = .ok (.if_icmp .ne 6, 3) := by decide +kernel
theorem dX8_sizeOfShare_28 : decode cX8_sizeOfShare 28 = .ok (.iinc 3 1, 3) := by decide +kernel
theorem dX8_sizeOfShare_31 : decode cX8_sizeOfShare 31 = .ok (.iinc 4 1, 3) := by decide +kernel
theorem dX8_sizeOfShare_34 : decode cX8_sizeOfShare 34 = .ok (.goto (-29), 3) := by decide +kernel
theorem dX8_sizeOfShare_37 : decode cX8_sizeOfShare 37 = .ok (.iload_n 3, 1) := by decide +kernel
theorem dX8_sizeOfShare_38 : decode cX8_sizeOfShare 38 = .ok (.ireturn, 1) := by decide +kernel
theorem dX9_init_0 : decode cX9_init 0 = .ok (.aload_n 0, 1) := by decide +kernel
theorem dX9_init_1 : decode cX9_init 1 = .ok (.invokespecial 3, 3) := by decide +kernel
theorem dX9_init_4 : decode cX9_init 4 = .ok (.aload_n 0, 1) := by decide +kernel
theorem dX9_init_5 : decode cX9_init 5 = .ok (.iload_n 1, 1) := by decide +kernel
theorem dX9_init_6 : decode cX9_init 6 = .ok (.putfield 9, 3) := by decide +kernel
theorem dX9_init_9 : decode cX9_init 9 = .ok (.aload_n 0, 1) := by decide +kernel
theorem dX9_init_10 : decode cX9_init 10 = .ok (.new 15, 3) := by decide +kernel
theorem dX9_init_13 : decode cX9_init 13 = .ok (.dup, 1) := by decide +kernel
theorem dX9_init_14 : decode cX9_init 14 = .ok (.iload_n 1, 1) := by decide +kernel
theorem dX9_init_15 : decode cX9_init 15 = .ok (.invokespecial 17, 3) := by decide +kernel
theorem dX9_init_18 : decode cX9_init 18 = .ok (.putfield 20, 3) := by decide +kernel
theorem dX9_init_21 : decode cX9_init 21 = .ok (.aload_n 0, 1) := by decide +kernel
theorem dX9_init_22 : decode cX9_init 22 = .ok (.new 15, 3) := by decide +kernel
theorem dX9_init_25 : decode cX9_init 25 = .ok (.dup, 1) := by decide +kernel
theorem dX9_init_26 : decode cX9_init 26 = .ok (.iload_n 1, 1) := by decide +kernel
theorem dX9_init_27 : decode cX9_init 27 = .ok (.invokespecial 17, 3) := by decide +kernel
theorem dX9_init_30 : decode cX9_init 30 = .ok (.putfield 24, 3) := by decide +kernel
theorem dX9_init_33 : decode cX9_init 33 = .ok (.aload_n 0, 1) := by decide +kernel
theorem dX9_init_34 : decode cX9_init 34 = .ok (.new 15, 3) := by decide +kernel
theorem dX9_init_37 : decode cX9_init 37 = .ok (.dup, 1) := by decide +kernel
theorem dX9_init_38 : decode cX9_init 38 = .ok (.bipush 8, 2) := by decide +kernel
theorem dX9_init_40 : decode cX9_init 40 = .ok (.invokespecial 17, 3) := by decide +kernel
theorem dX9_init_43 : decode cX9_init 43 = .ok (.putfield 27, 3) := by decide +kernel
theorem dX9_init_46 : decode cX9_init 46 = .ok (.return_, 1) := by decide +kernel
theorem dX9_clear_0 : decode cX9_clear 0 = .ok (.aload_n 0, 1) := by decide +kernel
theorem dX9_clear_1 : decode cX9_clear 1 = .ok (.iconst 0, 1) := by decide +kernel
theorem dX9_clear_2 : decode cX9_clear 2 = .ok (.putfield 30, 3) := by decide +kernel
theorem dX9_clear_5 : decode cX9_clear 5 = .ok (.aload_n 0, 1) := by decide +kernel
theorem dX9_clear_6 : decode cX9_clear 6 = .ok (.iconst 0, 1) := by decide +kernel
theorem dX9_clear_7 : decode cX9_clear 7 = .ok (.putfield 33, 3) := by decide +kernel
theorem dX9_clear_10 : decode cX9_clear 10 = .ok (.return_, 1) := by decide +kernel
theorem dX9_size_0 : decode cX9_size 0 = .ok (.aload_n 0, 1) := by decide +kernel
theorem dX9_size_1 : decode cX9_size 1 = .ok (.getfield 30, 3) := by decide +kernel
theorem dX9_size_4 : decode cX9_size 4 = .ok (.ireturn, 1) := by decide +kernel
theorem dX9_parts_0 : decode cX9_parts 0 = .ok (.aload_n 0, 1) := by decide +kernel
theorem dX9_parts_1 : decode cX9_parts 1 = .ok (.getfield 33, 3) := by decide +kernel
theorem dX9_parts_4 : decode cX9_parts 4 = .ok (.ireturn, 1) := by decide +kernel
theorem dX9_begin_0 : decode cX9_begin 0 = .ok (.aload_n 0, 1) := by decide +kernel
theorem dX9_begin_1 : decode cX9_begin 1 = .ok (.getfield 27, 3) := by decide +kernel
theorem dX9_begin_4 : decode cX9_begin 4 = .ok (.iload_n 1, 1) := by decide +kernel
theorem dX9_begin_5 : decode cX9_begin 5 = .ok (.iconst 1, 1) := by decide +kernel
theorem dX9_begin_6 : decode cX9_begin 6 = .ok (.isub, 1) := by decide +kernel
theorem dX9_begin_7 : decode cX9_begin 7 = .ok (.invokevirtual 36, 3) := by decide +kernel
theorem dX9_begin_10 : decode cX9_begin 10 = .ok (.ireturn, 1) := by decide +kernel
theorem dX9_end_0 : decode cX9_end 0 = .ok (.aload_n 0, 1) := by decide +kernel
theorem dX9_end_1 : decode cX9_end 1 = .ok (.getfield 27, 3) := by decide +kernel
theorem dX9_end_4 : decode cX9_end 4 = .ok (.iload_n 1, 1) := by decide +kernel
theorem dX9_end_5 : decode cX9_end 5 = .ok (.invokevirtual 36, 3) := by decide +kernel
theorem dX9_end_8 : decode cX9_end 8 = .ok (.ireturn, 1) := by decide +kernel
theorem dX9_sizeOf_0 : decode cX9_sizeOf 0 = .ok (.aload_n 0, 1) := by decide +kernel
theorem dX9_sizeOf_1 : decode cX9_sizeOf 1 = .ok (.iload_n 1, 1) := by decide +kernel
theorem dX9_sizeOf_2 : decode cX9_sizeOf 2 = .ok (.invokevirtual 40, 3) := by decide +kernel
theorem dX9_sizeOf_5 : decode cX9_sizeOf 5 = .ok (.aload_n 0, 1) := by decide +kernel
theorem dX9_sizeOf_6 : decode cX9_sizeOf 6 = .ok (.iload_n 1, 1) := by decide +kernel
theorem dX9_sizeOf_7 : decode cX9_sizeOf 7 = .ok (.invokevirtual 43, 3) := by decide +kernel
theorem dX9_sizeOf_10 : decode cX9_sizeOf 10 = .ok (.isub, 1) := by decide +kernel
theorem dX9_sizeOf_11 : decode cX9_sizeOf 11 = .ok (.ireturn, 1) := by decide +kernel
theorem dX9_key_0 : decode cX9_key 0 = .ok (.aload_n 0, 1) := by decide +kernel
theorem dX9_key_1 : decode cX9_key 1 = .ok (.getfield 20, 3) := by decide +kernel
theorem dX9_key_4 : decode cX9_key 4 = .ok (.iload_n 1, 1) := by decide +kernel
theorem dX9_key_5 : decode cX9_key 5 = .ok (.invokevirtual 36, 3) := by decide +kernel
theorem dX9_key_8 : decode cX9_key 8 = .ok (.ireturn, 1) := by decide +kernel
theorem dX9_value_0 : decode cX9_value 0 = .ok (.aload_n 0, 1) := by decide +kernel
theorem dX9_value_1 : decode cX9_value 1 = .ok (.getfield 24, 3) := by decide +kernel
theorem dX9_value_4 : decode cX9_value 4 = .ok (.iload_n 1, 1) := by decide +kernel
theorem dX9_value_5 : decode cX9_value 5 = .ok (.invokevirtual 36, 3) := by decide +kernel
theorem dX9_value_8 : decode cX9_value 8 = .ok (.ireturn, 1) := by decide +kernel
theorem dX9_setValue_0 : decode cX9_setValue 0 = .ok (.aload_n 0, 1) := by decide +kernel
theorem dX9_setValue_1 : decode cX9_setValue 1 = .ok (.getfield 24, 3) := by decide +kernel
theorem dX9_setValue_4 : decode cX9_setValue 4 = .ok (.iload_n 1, 1) := by decide +kernel
theorem dX9_setValue_5 : decode cX9_setValue 5 = .ok (.iload_n 2, 1) := by decide +kernel
theorem dX9_setValue_6 : decode cX9_setValue 6 = .ok (.invokevirtual 46, 3) := by decide +kernel
theorem dX9_setValue_9 : decode cX9_setValue 9 = .ok (.return_, 1) := by decide +kernel
theorem dX9_add_0 : decode cX9_add 0 = .ok (.aload_n 0, 1) := by decide +kernel
theorem dX9_add_1 : decode cX9_add 1 = .ok (.getfield 30, 3) := by decide +kernel
theorem dX9_add_4 : decode cX9_add 4 = .ok (.aload_n 0, 1) := by decide +kernel
theorem dX9_add_5 : decode cX9_add 5 = .ok (.getfield 9, 3) := by decide +kernel
theorem dX9_add_8 : decode cX9_add 8 = .ok (.if_icmp .ge 37, 3) := by decide +kernel
theorem dX9_add_11 : decode cX9_add 11 = .ok (.aload_n 0, 1) := by decide +kernel
theorem dX9_add_12 : decode cX9_add 12 = .ok (.getfield 20, 3) := by decide +kernel
theorem dX9_add_15 : decode cX9_add 15 = .ok (.aload_n 0, 1) := by decide +kernel
theorem dX9_add_16 : decode cX9_add 16 = .ok (.getfield 30, 3) := by decide +kernel
theorem dX9_add_19 : decode cX9_add 19 = .ok (.iload_n 1, 1) := by decide +kernel
theorem dX9_add_20 : decode cX9_add 20 = .ok (.invokevirtual 46, 3) := by decide +kernel
theorem dX9_add_23 : decode cX9_add 23 = .ok (.aload_n 0, 1) := by decide +kernel
theorem dX9_add_24 : decode cX9_add 24 = .ok (.getfield 24, 3) := by decide +kernel
theorem dX9_add_27 : decode cX9_add 27 = .ok (.aload_n 0, 1) := by decide +kernel
theorem dX9_add_28 : decode cX9_add 28 = .ok (.getfield 30, 3) := by decide +kernel
theorem dX9_add_31 : decode cX9_add 31 = .ok (.iload_n 2, 1) := by decide +kernel
theorem dX9_add_32 : decode cX9_add 32 = .ok (.invokevirtual 46, 3) := by decide +kernel
theorem dX9_add_35 : decode cX9_add 35 = .ok (.aload_n 0, 1) := by decide +kernel
theorem dX9_add_36 : decode cX9_add 36 = .ok (.dup, 1) := by decide +kernel
theorem dX9_add_37 : decode cX9_add 37 = .ok (.getfield 30, 3) := by decide +kernel
theorem dX9_add_40 : decode cX9_add 40 = .ok (.iconst 1, 1) := by decide +kernel
theorem dX9_add_41 : decode cX9_add 41 = .ok (.iadd, 1) := by decide +kernel
theorem dX9_add_42 : decode cX9_add 42 = .ok (.putfield 30, 3) := by decide +kernel
theorem dX9_add_45 : decode cX9_add 45 = .ok (.return_, 1) := by decide +kernel
theorem dX9_insert_0 : decode cX9_insert 0 = .ok (.aload_n 0, 1) := by decide +kernel
theorem dX9_insert_1 : decode cX9_insert 1 = .ok (.getfield 30, 3) := by decide +kernel
theorem dX9_insert_4 : decode cX9_insert 4 = .ok (.aload_n 0, 1) := by decide +kernel
theorem dX9_insert_5 : decode cX9_insert 5 = .ok (.getfield 9, 3) := by decide +kernel
theorem dX9_insert_8 : decode cX9_insert 8 = .ok (.if_icmp .lt 4, 3) := by decide +kernel
theorem dX9_insert_11 : decode cX9_insert 11 = .ok (.return_, 1) := by decide +kernel
theorem dX9_insert_12 : decode cX9_insert 12 = .ok (.aload_n 0, 1) := by decide +kernel
theorem dX9_insert_13 : decode cX9_insert 13 = .ok (.getfield 30, 3) := by decide +kernel
theorem dX9_insert_16 : decode cX9_insert 16 = .ok (.istore 4, 2) := by decide +kernel
theorem dX9_insert_18 : decode cX9_insert 18 = .ok (.iload 4, 2) := by decide +kernel
theorem dX9_insert_20 : decode cX9_insert 20 = .ok (.iload_n 1, 1) := by decide +kernel
theorem dX9_insert_21 : decode cX9_insert 21 = .ok (.if_icmp .le 49, 3) := by decide +kernel
theorem dX9_insert_24 : decode cX9_insert 24 = .ok (.aload_n 0, 1) := by decide +kernel
theorem dX9_insert_25 : decode cX9_insert 25 = .ok (.getfield 20, 3) := by decide +kernel
theorem dX9_insert_28 : decode cX9_insert 28 = .ok (.iload 4, 2) := by decide +kernel
theorem dX9_insert_30 : decode cX9_insert 30 = .ok (.aload_n 0, 1) := by decide +kernel
theorem dX9_insert_31 : decode cX9_insert 31 = .ok (.getfield 20, 3) := by decide +kernel
theorem dX9_insert_34 : decode cX9_insert 34 = .ok (.iload 4, 2) := by decide +kernel
theorem dX9_insert_36 : decode cX9_insert 36 = .ok (.iconst 1, 1) := by decide +kernel
theorem dX9_insert_37 : decode cX9_insert 37 = .ok (.isub, 1) := by decide +kernel
theorem dX9_insert_38 : decode cX9_insert 38 = .ok (.invokevirtual 36, 3) := by decide +kernel
theorem dX9_insert_41 : decode cX9_insert 41 = .ok (.invokevirtual 46, 3) := by decide +kernel
theorem dX9_insert_44 : decode cX9_insert 44 = .ok (.aload_n 0, 1) := by decide +kernel
theorem dX9_insert_45 : decode cX9_insert 45 = .ok (.getfield 24, 3) := by decide +kernel
theorem dX9_insert_48 : decode cX9_insert 48 = .ok (.iload 4, 2) := by decide +kernel
theorem dX9_insert_50 : decode cX9_insert 50 = .ok (.aload_n 0, 1) := by decide +kernel
theorem dX9_insert_51 : decode cX9_insert 51 = .ok (.getfield 24, 3) := by decide +kernel
theorem dX9_insert_54 : decode cX9_insert 54 = .ok (.iload 4, 2) := by decide +kernel
theorem dX9_insert_56 : decode cX9_insert 56 = .ok (.iconst 1, 1) := by decide +kernel
theorem dX9_insert_57 : decode cX9_insert 57 = .ok (.isub, 1) := by decide +kernel
theorem dX9_insert_58 : decode cX9_insert 58 = .ok (.invokevirtual 36, 3) := by decide +kernel
theorem dX9_insert_61 : decode cX9_insert 61 = .ok (.invokevirtual 46, 3) := by decide +kernel
theorem dX9_insert_64 : decode cX9_insert 64 = .ok (.iinc 4 (-1), 3) := by decide +kernel
theorem dX9_insert_67 : decode cX9_insert 67 = .ok (.goto (-49), 3) := by decide +kernel
theorem dX9_insert_70 : decode cX9_insert 70 = .ok (.aload_n 0, 1) := by decide +kernel
theorem dX9_insert_71 : decode cX9_insert 71 = .ok (.getfield 20, 3) := by decide +kernel
theorem dX9_insert_74 : decode cX9_insert 74 = .ok (.iload_n 1, 1) := by decide +kernel
theorem dX9_insert_75 : decode cX9_insert 75 = .ok (.iload_n 2, 1) := by decide +kernel
theorem dX9_insert_76 : decode cX9_insert 76 = .ok (.invokevirtual 46, 3) := by decide +kernel
theorem dX9_insert_79 : decode cX9_insert 79 = .ok (.aload_n 0, 1) := by decide +kernel
theorem dX9_insert_80 : decode cX9_insert 80 = .ok (.getfield 24, 3) := by decide +kernel
theorem dX9_insert_83 : decode cX9_insert 83 = .ok (.iload_n 1, 1) := by decide +kernel
theorem dX9_insert_84 : decode cX9_insert 84 = .ok (.iload_n 3, 1) := by decide +kernel
theorem dX9_insert_85 : decode cX9_insert 85 = .ok (.invokevirtual 46, 3) := by decide +kernel
theorem dX9_insert_88 : decode cX9_insert 88 = .ok (.aload_n 0, 1) := by decide +kernel
theorem dX9_insert_89 : decode cX9_insert 89 = .ok (.dup, 1) := by decide +kernel
theorem dX9_insert_90 : decode cX9_insert 90 = .ok (.getfield 30, 3) := by decide +kernel
theorem dX9_insert_93 : decode cX9_insert 93 = .ok (.iconst 1, 1) := by decide +kernel
theorem dX9_insert_94 : decode cX9_insert 94 = .ok (.iadd, 1) := by decide +kernel
theorem dX9_insert_95 : decode cX9_insert 95 = .ok (.putfield 30, 3) := by decide +kernel
theorem dX9_insert_98 : decode cX9_insert 98 = .ok (.return_, 1) := by decide +kernel
theorem dX9_endPartition_0 : decode cX9_endPartition 0 = .ok (.aload_n 0, 1) := by decide +kernel
theorem dX9_endPartition_1 : decode cX9_endPartition 1 = .ok (.getfield 27, 3) := by decide +kernel
theorem dX9_endPartition_4 : decode cX9_endPartition 4 = .ok (.aload_n 0, 1) := by decide +kernel
theorem dX9_endPartition_5 : decode cX9_endPartition 5 = .ok (.getfield 33, 3) := by decide +kernel
theorem dX9_endPartition_8 : decode cX9_endPartition 8 = .ok (.aload_n 0, 1) := by decide +kernel
theorem dX9_endPartition_9 : decode cX9_endPartition 9 = .ok (.getfield 30, 3) := by decide +kernel
theorem dX9_endPartition_12 : decode cX9_endPartition 12 = .ok (.invokevirtual 46, 3) := by decide +kernel
theorem dX9_endPartition_15 : decode cX9_endPartition 15 = .ok (.aload_n 0, 1) := by decide +kernel
theorem dX9_endPartition_16 : decode cX9_endPartition 16 = .ok (.dup, 1) := by decide +kernel
theorem dX9_endPartition_17 : decode cX9_endPartition 17 = .ok (.getfield 33, 3) := by decide +kernel
theorem dX9_endPartition_20 : decode cX9_endPartition 20 = .ok (.iconst 1, 1) := by decide +kernel
theorem dX9_endPartition_21 : decode cX9_endPartition 21 = .ok (.iadd, 1) := by decide +kernel
theorem dX9_endPartition_22 : decode cX9_endPartition 22 = .ok (.putfield 33, 3) := by decide +kernel
theorem dX9_endPartition_25 : decode cX9_endPartition 25 = .ok (.return_, 1) := by decide +kernel
theorem dX9_hasKey_0 : decode cX9_hasKey 0 = .ok (.iload_n 1, 1) := by decide +kernel
theorem dX9_hasKey_1 : decode cX9_hasKey 1 = .ok (.ifCond .lt 27, 3) := by decide +kernel
theorem dX9_hasKey_4 : decode cX9_hasKey 4 = .ok (.iload_n 1, 1) := by decide +kernel
theorem dX9_hasKey_5 : decode cX9_hasKey 5 = .ok (.aload_n 0, 1) := by decide +kernel
theorem dX9_hasKey_6 : decode cX9_hasKey 6 = .ok (.getfield 30, 3) := by decide +kernel
theorem dX9_hasKey_9 : decode cX9_hasKey 9 = .ok (.if_icmp .ge 19, 3) := by decide +kernel
theorem dX9_hasKey_12 : decode cX9_hasKey 12 = .ok (.aload_n 0, 1) := by decide +kernel
theorem dX9_hasKey_13 : decode cX9_hasKey 13 = .ok (.getfield 20, 3) := by decide +kernel
theorem dX9_hasKey_16 : decode cX9_hasKey 16 = .ok (.iload_n 1, 1) := by decide +kernel
theorem dX9_hasKey_17 : decode cX9_hasKey 17 = .ok (.invokevirtual 36, 3) := by decide +kernel
theorem dX9_hasKey_20 : decode cX9_hasKey 20 = .ok (.iload_n 2, 1) := by decide +kernel
theorem dX9_hasKey_21 : decode cX9_hasKey 21 = .ok (.if_icmp .ne 7, 3) := by decide +kernel
theorem dX9_hasKey_24 : decode cX9_hasKey 24 = .ok (.iconst 1, 1) := by decide +kernel
theorem dX9_hasKey_25 : decode cX9_hasKey 25 = .ok (.goto 4, 3) := by decide +kernel
theorem dX9_hasKey_28 : decode cX9_hasKey 28 = .ok (.iconst 0, 1) := by decide +kernel
theorem dX9_hasKey_29 : decode cX9_hasKey 29 = .ok (.ireturn, 1) := by decide +kernel
theorem dX9_placeBehind_0 : decode cX9_placeBehind 0 = .ok (.iconst 0, 1) := by decide +kernel
theorem dX9_placeBehind_1 : decode cX9_placeBehind 1 = .ok (.istore_n 2, 1) := by decide +kernel
theorem dX9_placeBehind_2 : decode cX9_placeBehind 2 = .ok (.aload_n 0, 1) := by decide +kernel
theorem dX9_placeBehind_3 : decode cX9_placeBehind 3 = .ok (.getfield 30, 3) := by decide +kernel
theorem dX9_placeBehind_6 : decode cX9_placeBehind 6 = .ok (.istore_n 3, 1) := by decide +kernel
theorem dX9_placeBehind_7 : decode cX9_placeBehind 7 = .ok (.iconst 0, 1) := by decide +kernel
theorem dX9_placeBehind_8 : decode cX9_placeBehind 8 = .ok (.istore 4, 2) := by decide +kernel
theorem dX9_placeBehind_10 : decode cX9_placeBehind 10 = .ok (.iload 4, 2) := by decide +kernel
theorem dX9_placeBehind_12 : decode cX9_placeBehind 12 = .ok (.sipush 300, 3) := by decide +kernel
theorem dX9_placeBehind_15 : decode cX9_placeBehind 15 = .ok (.if_icmp .ge 45, 3) := by decide +kernel
theorem dX9_placeBehind_18 : decode cX9_placeBehind 18 = .ok (.iload_n 2, 1) := by decide +kernel
theorem dX9_placeBehind_19 : decode cX9_placeBehind 19 = .ok (.iload_n 3, 1) := by decide +kernel
theorem dX9_placeBehind_20 : decode cX9_placeBehind 20 = .ok (.if_icmp .ge 40, 3) := by decide +kernel
theorem dX9_placeBehind_23 : decode cX9_placeBehind 23 = .ok (.iload_n 2, 1) := by decide +kernel
theorem dX9_placeBehind_24 : decode cX9_placeBehind 24 = .ok (.iload_n 3, 1) := by decide +kernel
theorem dX9_placeBehind_25 : decode cX9_placeBehind 25 = .ok (.iadd, 1) := by decide +kernel
theorem dX9_placeBehind_26 : decode cX9_placeBehind 26 = .ok (.iconst 2, 1) := by decide +kernel
theorem dX9_placeBehind_27 : decode cX9_placeBehind 27 = .ok (.idiv, 1) := by decide +kernel
theorem dX9_placeBehind_28 : decode cX9_placeBehind 28 = .ok (.istore 5, 2) := by decide +kernel
theorem dX9_placeBehind_30 : decode cX9_placeBehind 30 = .ok (.aload_n 0, 1) := by decide +kernel
theorem dX9_placeBehind_31 : decode cX9_placeBehind 31 = .ok (.getfield 20, 3) := by decide +kernel
theorem dX9_placeBehind_34 : decode cX9_placeBehind 34 = .ok (.iload 5, 2) := by decide +kernel
theorem dX9_placeBehind_36 : decode cX9_placeBehind 36 = .ok (.invokevirtual 36, 3) := by decide +kernel
theorem dX9_placeBehind_39 : decode cX9_placeBehind 39 = .ok (.iload_n 1, 1) := by decide +kernel
theorem dX9_placeBehind_40 : decode cX9_placeBehind 40 = .ok (.if_icmp .gt 11, 3) := by decide +kernel
theorem dX9_placeBehind_43 : decode cX9_placeBehind 43 = .ok (.iload 5, 2) := by decide +kernel
theorem dX9_placeBehind_45 : decode cX9_placeBehind 45 = .ok (.iconst 1, 1) := by decide +kernel
theorem dX9_placeBehind_46 : decode cX9_placeBehind 46 = .ok (.iadd, 1) := by decide +kernel
theorem dX9_placeBehind_47 : decode cX9_placeBehind 47 = .ok (.istore_n 2, 1) := by decide +kernel
theorem dX9_placeBehind_48 : decode cX9_placeBehind 48 = .ok (.goto 6, 3) := by decide +kernel
theorem dX9_placeBehind_51 : decode cX9_placeBehind 51 = .ok (.iload 5, 2) := by decide +kernel
theorem dX9_placeBehind_53 : decode cX9_placeBehind 53 = .ok (.istore_n 3, 1) := by decide +kernel
theorem dX9_placeBehind_54 : decode cX9_placeBehind 54 = .ok (.iinc 4 1, 3) := by decide +kernel
theorem dX9_placeBehind_57 : decode cX9_placeBehind 57 = .ok (.goto (-47), 3) := by decide +kernel
theorem dX9_placeBehind_60 : decode cX9_placeBehind 60 = .ok (.iload_n 2, 1) := by decide +kernel
theorem dX9_placeBehind_61 : decode cX9_placeBehind 61 = .ok (.ireturn, 1) := by decide +kernel
theorem dX9_squares_0 : decode cX9_squares 0 = .ok (.iconst 0, 1) := by decide +kernel
theorem dX9_squares_1 : decode cX9_squares 1 = .ok (.istore_n 1, 1) := by decide +kernel
theorem dX9_squares_2 : decode cX9_squares 2 = .ok (.iconst 0, 1) := by decide +kernel
theorem dX9_squares_3 : decode cX9_squares 3 = .ok (.istore_n 2, 1) := by decide +kernel
theorem dX9_squares_4 : decode cX9_squares 4 = .ok (.iload_n 2, 1) := by decide +kernel
theorem dX9_squares_5 : decode cX9_squares 5 = .ok (.aload_n 0, 1) := by decide +kernel
theorem dX9_squares_6 : decode cX9_squares 6 = .ok (.getfield 30, 3) := by decide +kernel
theorem dX9_squares_9 : decode cX9_squares 9 = .ok (.if_icmp .ge 36, 3) := by decide +kernel
theorem dX9_squares_12 : decode cX9_squares 12 = .ok (.bipush 31, 2) := by decide +kernel
theorem dX9_squares_14 : decode cX9_squares 14 = .ok (.aload_n 0, 1) := by decide +kernel
theorem dX9_squares_15 : decode cX9_squares 15 = .ok (.getfield 20, 3) := by decide +kernel
theorem dX9_squares_18 : decode cX9_squares 18 = .ok (.iload_n 2, 1) := by decide +kernel
theorem dX9_squares_19 : decode cX9_squares 19 = .ok (.invokevirtual 36, 3) := by decide +kernel
theorem dX9_squares_22 : decode cX9_squares 22 = .ok (.imul, 1) := by decide +kernel
theorem dX9_squares_23 : decode cX9_squares 23 = .ok (.aload_n 0, 1) := by decide +kernel
theorem dX9_squares_24 : decode cX9_squares 24 = .ok (.getfield 24, 3) := by decide +kernel
theorem dX9_squares_27 : decode cX9_squares 27 = .ok (.iload_n 2, 1) := by decide +kernel
theorem dX9_squares_28 : decode cX9_squares 28 = .ok (.invokevirtual 36, 3) := by decide +kernel
theorem dX9_squares_31 : decode cX9_squares 31 = .ok (.iadd, 1) := by decide +kernel
theorem dX9_squares_32 : decode cX9_squares 32 = .ok (.istore_n 3, 1) := by decide +kernel
theorem dX9_squares_33 : decode cX9_squares 33 = .ok (.iload_n 1, 1) := by decide +kernel
theorem dX9_squares_34 : decode cX9_squares 34 = .ok (.iload_n 3, 1) := by decide +kernel
theorem dX9_squares_35 : decode cX9_squares 35 = .ok (.iload_n 3, 1) := by decide +kernel
theorem dX9_squares_36 : decode cX9_squares 36 = .ok (.imul, 1) := by decide +kernel
theorem dX9_squares_37 : decode cX9_squares 37 = .ok (.iadd, 1) := by decide +kernel
theorem dX9_squares_38 : decode cX9_squares 38 = .ok (.istore_n 1, 1) := by decide +kernel
theorem dX9_squares_39 : decode cX9_squares 39 = .ok (.iinc 2 1, 3) := by decide +kernel
theorem dX9_squares_42 : decode cX9_squares 42 = .ok (.goto (-38), 3) := by decide +kernel
theorem dX9_squares_45 : decode cX9_squares 45 = .ok (.iload_n 1, 1) := by decide +kernel
theorem dX9_squares_46 : decode cX9_squares 46 = .ok (.ireturn, 1) := by decide +kernel
theorem dX10_init_0 : decode cX10_init 0 = .ok (.aload_n 0, 1) := by decide +kernel
theorem dX10_init_1 : decode cX10_init 1 = .ok (.invokespecial 3, 3) := by decide +kernel
theorem dX10_init_4 : decode cX10_init 4 = .ok (.aload_n 0, 1) := by decide +kernel
theorem dX10_init_5 : decode cX10_init 5 = .ok (.new 9, 3) := by decide +kernel
theorem dX10_init_8 : decode cX10_init 8 = .ok (.dup, 1) := by decide +kernel
theorem dX10_init_9 : decode cX10_init 9 = .ok (.bipush 8, 2) := by decide +kernel
theorem dX10_init_11 : decode cX10_init 11 = .ok (.invokespecial 11, 3) := by decide +kernel
theorem dX10_init_14 : decode cX10_init 14 = .ok (.putfield 14, 3) := by decide +kernel
theorem dX10_init_17 : decode cX10_init 17 = .ok (.aload_n 0, 1) := by decide +kernel
theorem dX10_init_18 : decode cX10_init 18 = .ok (.new 9, 3) := by decide +kernel
theorem dX10_init_21 : decode cX10_init 21 = .ok (.dup, 1) := by decide +kernel
theorem dX10_init_22 : decode cX10_init 22 = .ok (.bipush 8, 2) := by decide +kernel
theorem dX10_init_24 : decode cX10_init 24 = .ok (.invokespecial 11, 3) := by decide +kernel
theorem dX10_init_27 : decode cX10_init 27 = .ok (.putfield 20, 3) := by decide +kernel
theorem dX10_init_30 : decode cX10_init 30 = .ok (.aload_n 0, 1) := by decide +kernel
theorem dX10_init_31 : decode cX10_init 31 = .ok (.new 9, 3) := by decide +kernel
theorem dX10_init_34 : decode cX10_init 34 = .ok (.dup, 1) := by decide +kernel
theorem dX10_init_35 : decode cX10_init 35 = .ok (.bipush 8, 2) := by decide +kernel
theorem dX10_init_37 : decode cX10_init 37 = .ok (.invokespecial 11, 3) := by decide +kernel
theorem dX10_init_40 : decode cX10_init 40 = .ok (.putfield 23, 3) := by decide +kernel
theorem dX10_init_43 : decode cX10_init 43 = .ok (.return_, 1) := by decide +kernel
theorem dX10_begin_0 : decode cX10_begin 0 = .ok (.aload_n 0, 1) := by decide +kernel
theorem dX10_begin_1 : decode cX10_begin 1 = .ok (.iload_n 1, 1) := by decide +kernel
theorem dX10_begin_2 : decode cX10_begin 2 = .ok (.putfield 26, 3) := by decide +kernel
theorem dX10_begin_5 : decode cX10_begin 5 = .ok (.aload_n 0, 1) := by decide +kernel
theorem dX10_begin_6 : decode cX10_begin 6 = .ok (.iload_n 2, 1) := by decide +kernel
theorem dX10_begin_7 : decode cX10_begin 7 = .ok (.putfield 30, 3) := by decide +kernel
theorem dX10_begin_10 : decode cX10_begin 10 = .ok (.aload_n 0, 1) := by decide +kernel
theorem dX10_begin_11 : decode cX10_begin 11 = .ok (.iconst 0, 1) := by decide +kernel
theorem dX10_begin_12 : decode cX10_begin 12 = .ok (.putfield 33, 3) := by decide +kernel
theorem dX10_begin_15 : decode cX10_begin 15 = .ok (.aload_n 0, 1) := by decide +kernel
theorem dX10_begin_16 : decode cX10_begin 16 = .ok (.iconst 0, 1) := by decide +kernel
theorem dX10_begin_17 : decode cX10_begin 17 = .ok (.putfield 36, 3) := by decide +kernel
theorem dX10_begin_20 : decode cX10_begin 20 = .ok (.return_, 1) := by decide +kernel
theorem dX10_take_0 : decode cX10_take 0 = .ok (.aload_n 0, 1) := by decide +kernel
theorem dX10_take_1 : decode cX10_take 1 = .ok (.getfield 23, 3) := by decide +kernel
theorem dX10_take_4 : decode cX10_take 4 = .ok (.aload_n 0, 1) := by decide +kernel
theorem dX10_take_5 : decode cX10_take 5 = .ok (.getfield 33, 3) := by decide +kernel
theorem dX10_take_8 : decode cX10_take 8 = .ok (.iload_n 1, 1) := by decide +kernel
theorem dX10_take_9 : decode cX10_take 9 = .ok (.invokevirtual 39, 3) := by decide +kernel
theorem dX10_take_12 : decode cX10_take 12 = .ok (.aload_n 0, 1) := by decide +kernel
theorem dX10_take_13 : decode cX10_take 13 = .ok (.getfield 20, 3) := by decide +kernel
theorem dX10_take_16 : decode cX10_take 16 = .ok (.aload_n 0, 1) := by decide +kernel
theorem dX10_take_17 : decode cX10_take 17 = .ok (.getfield 33, 3) := by decide +kernel
theorem dX10_take_20 : decode cX10_take 20 = .ok (.iload_n 2, 1) := by decide +kernel
theorem dX10_take_21 : decode cX10_take 21 = .ok (.invokevirtual 39, 3) := by decide +kernel
theorem dX10_take_24 : decode cX10_take 24 = .ok (.aload_n 0, 1) := by decide +kernel
theorem dX10_take_25 : decode cX10_take 25 = .ok (.dup, 1) := by decide +kernel
theorem dX10_take_26 : decode cX10_take 26 = .ok (.getfield 33, 3) := by decide +kernel
theorem dX10_take_29 : decode cX10_take 29 = .ok (.iconst 1, 1) := by decide +kernel
theorem dX10_take_30 : decode cX10_take 30 = .ok (.iadd, 1) := by decide +kernel
theorem dX10_take_31 : decode cX10_take 31 = .ok (.putfield 33, 3) := by decide +kernel
theorem dX10_take_34 : decode cX10_take 34 = .ok (.return_, 1) := by decide +kernel
theorem dX10_copy_0 : decode cX10_copy 0 = .ok (.aload_n 0, 1) := by decide +kernel
theorem dX10_copy_1 : decode cX10_copy 1 = .ok (.aload_n 0, 1) := by decide +kernel
theorem dX10_copy_2 : decode cX10_copy 2 = .ok (.getfield 36, 3) := by decide +kernel
theorem dX10_copy_5 : decode cX10_copy 5 = .ok (.iload_n 1, 1) := by decide +kernel
theorem dX10_copy_6 : decode cX10_copy 6 = .ok (.invokestatic 43, 3) := by decide +kernel
theorem dX10_copy_9 : decode cX10_copy 9 = .ok (.putfield 36, 3) := by decide +kernel
theorem dX10_copy_12 : decode cX10_copy 12 = .ok (.aload_n 0, 1) := by decide +kernel
theorem dX10_copy_13 : decode cX10_copy 13 = .ok (.getfield 20, 3) := by decide +kernel
theorem dX10_copy_16 : decode cX10_copy 16 = .ok (.iload_n 1, 1) := by decide +kernel
theorem dX10_copy_17 : decode cX10_copy 17 = .ok (.iload_n 2, 1) := by decide +kernel
theorem dX10_copy_18 : decode cX10_copy 18 = .ok (.invokevirtual 39, 3) := by decide +kernel
theorem dX10_copy_21 : decode cX10_copy 21 = .ok (.return_, 1) := by decide +kernel
theorem dX10_ended_0 : decode cX10_ended 0 = .ok (.iconst 0, 1) := by decide +kernel
theorem dX10_ended_1 : decode cX10_ended 1 = .ok (.istore_n 2, 1) := by decide +kernel
theorem dX10_ended_2 : decode cX10_ended 2 = .ok (.iconst 0, 1) := by decide +kernel
theorem dX10_ended_3 : decode cX10_ended 3 = .ok (.istore_n 3, 1) := by decide +kernel
theorem dX10_ended_4 : decode cX10_ended 4 = .ok (.iload_n 3, 1) := by decide +kernel
theorem dX10_ended_5 : decode cX10_ended 5 = .ok (.aload_n 0, 1) := by decide +kernel
theorem dX10_ended_6 : decode cX10_ended 6 = .ok (.getfield 33, 3) := by decide +kernel
theorem dX10_ended_9 : decode cX10_ended 9 = .ok (.if_icmp .ge 24, 3) := by decide +kernel
theorem dX10_ended_12 : decode cX10_ended 12 = .ok (.aload_n 0, 1) := by decide +kernel
theorem dX10_ended_13 : decode cX10_ended 13 = .ok (.getfield 20, 3) := by decide +kernel
theorem dX10_ended_16 : decode cX10_ended 16 = .ok (.iload_n 3, 1) := by decide +kernel
theorem dX10_ended_17 : decode cX10_ended 17 = .ok (.invokevirtual 47, 3) := by decide +kernel
theorem dX10_ended_20 : decode cX10_ended 20 = .ok (.iload_n 1, 1) := by decide +kernel
theorem dX10_ended_21 : decode cX10_ended 21 = .ok (.if_icmp .gt 6, 3) := by decide +kernel
theorem dX10_ended_24 : decode cX10_ended 24 = .ok (.iinc 2 1, 3) := by decide +kernel
theorem dX10_ended_27 : decode cX10_ended 27 = .ok (.iinc 3 1, 3) := by decide +kernel
theorem dX10_ended_30 : decode cX10_ended 30 = .ok (.goto (-26), 3) := by decide +kernel
theorem dX10_ended_33 : decode cX10_ended 33 = .ok (.iload_n 2, 1) := by decide +kernel
theorem dX10_ended_34 : decode cX10_ended 34 = .ok (.ireturn, 1) := by decide +kernel
theorem dX10_earliestEnd_0 : decode cX10_earliestEnd 0 = .ok (.iload_n 1, 1) := by decide +kernel
theorem dX10_earliestEnd_1 : decode cX10_earliestEnd 1 = .ok (.istore_n 2, 1) := by decide +kernel
theorem dX10_earliestEnd_2 : decode cX10_earliestEnd 2 = .ok (.iconst 0, 1) := by decide +kernel
theorem dX10_earliestEnd_3 : decode cX10_earliestEnd 3 = .ok (.istore_n 3, 1) := by decide +kernel
theorem dX10_earliestEnd_4 : decode cX10_earliestEnd 4 = .ok (.iload_n 3, 1) := by decide +kernel
theorem dX10_earliestEnd_5 : decode cX10_earliestEnd 5 = .ok (.aload_n 0, 1) := by decide +kernel
theorem dX10_earliestEnd_6 : decode cX10_earliestEnd 6 = .ok (.getfield 33, 3) := by decide +kernel
theorem dX10_earliestEnd_9 : decode cX10_earliestEnd 9 = .ok (.if_icmp .ge 39, 3) := by decide +kernel
theorem dX10_earliestEnd_12 : decode cX10_earliestEnd 12 = .ok (.aload_n 0, 1) := by decide +kernel
theorem dX10_earliestEnd_13 : decode cX10_earliestEnd 13 = .ok (.getfield 20, 3) := by decide +kernel
theorem dX10_earliestEnd_16 : decode cX10_earliestEnd 16 = .ok (.iload_n 3, 1) := by decide +kernel
theorem dX10_earliestEnd_17 : decode cX10_earliestEnd 17 = .ok (.invokevirtual 47, 3) := by decide +kernel
theorem dX10_earliestEnd_20 : decode cX10_earliestEnd 20 = .ok (.istore 4, 2) := by decide +kernel
theorem dX10_earliestEnd_22 : decode cX10_earliestEnd 22 = .ok (.iload 4, 2) := by decide +kernel
theorem dX10_earliestEnd_24 : decode cX10_earliestEnd 24 = .ok (.iload_n 1, 1) := by decide +kernel
theorem dX10_earliestEnd_25 : decode cX10_earliestEnd 25 = .ok (.if_icmp .le 17, 3) := by decide +kernel
theorem dX10_earliestEnd_28 : decode cX10_earliestEnd 28 = .ok (.iload_n 2, 1) := by decide +kernel
theorem dX10_earliestEnd_29 : decode cX10_earliestEnd 29 = .ok (.iload_n 1, 1) := by decide +kernel
theorem dX10_earliestEnd_30 : decode cX10_earliestEnd 30 = .ok (.if_icmp .eq 9, 3) := by decide +kernel
theorem dX10_earliestEnd_33 : decode cX10_earliestEnd 33 = .ok (.iload 4, 2) := by decide +kernel
theorem dX10_earliestEnd_35 : decode cX10_earliestEnd 35 = .ok (.iload_n 2, 1) := by decide +kernel
theorem dX10_earliestEnd_36 : decode cX10_earliestEnd 36 = .ok (.if_icmp .ge 6, 3) := by decide +kernel
theorem dX10_earliestEnd_39 : decode cX10_earliestEnd 39 = .ok (.iload 4, 2) := by decide +kernel
theorem dX10_earliestEnd_41 : decode cX10_earliestEnd 41 = .ok (.istore_n 2, 1) := by decide +kernel
theorem dX10_earliestEnd_42 : decode cX10_earliestEnd 42 = .ok (.iinc 3 1, 3) := by decide +kernel
theorem dX10_earliestEnd_45 : decode cX10_earliestEnd 45 = .ok (.goto (-41), 3) := by decide +kernel
theorem dX10_earliestEnd_48 : decode cX10_earliestEnd 48 = .ok (.iload_n 2, 1) := by decide +kernel
theorem dX10_earliestEnd_49 : decode cX10_earliestEnd 49 = .ok (.ireturn, 1) := by decide +kernel
theorem dX10_latestWithoutCopy_0 : decode cX10_latestWithoutCopy 0 = .ok (.aload_n 0, 1) := by decide +kernel
theorem dX10_latestWithoutCopy_1 : decode cX10_latestWithoutCopy 1 = .ok (.getfield 30, 3) := by decide +kernel
theorem dX10_latestWithoutCopy_4 : decode cX10_latestWithoutCopy 4 = .ok (.istore_n 2, 1) := by decide +kernel
theorem dX10_latestWithoutCopy_5 : decode cX10_latestWithoutCopy 5 = .ok (.iload_n 1, 1) := by decide +kernel
theorem dX10_latestWithoutCopy_6 : decode cX10_latestWithoutCopy 6 = .ok (.istore_n 3, 1) := by decide +kernel
theorem dX10_latestWithoutCopy_7 : decode cX10_latestWithoutCopy 7 = .ok (.iconst 0, 1) := by decide +kernel
theorem dX10_latestWithoutCopy_8 : decode cX10_latestWithoutCopy 8 = .ok (.istore 4, 2) := by decide +kernel
theorem dX10_latestWithoutCopy_10 : decode cX10_latestWithoutCopy 10 = .ok (.iload 4, 2) := by decide +kernel
theorem dX10_latestWithoutCopy_12 : decode cX10_latestWithoutCopy 12 = .ok (.aload_n 0, 1) := by decide +kernel
theorem dX10_latestWithoutCopy_13 : decode cX10_latestWithoutCopy 13 = .ok (.getfield 33, 3) := by decide +kernel
theorem dX10_latestWithoutCopy_16 : decode cX10_latestWithoutCopy 16 = .ok (.if_icmp .ge 47, 3) := by decide +kernel
theorem dX10_latestWithoutCopy_19 : decode cX10_latestWithoutCopy 19 = .ok (.aload_n 0, 1) := by decide +kernel
theorem dX10_latestWithoutCopy_20 : decode cX10_latestWithoutCopy 20 = .ok (.getfield 36, 3) := by decide +kernel
theorem dX10_latestWithoutCopy_23 : decode cX10_latestWithoutCopy 23 = .ok (.iload 4, 2) := by decide +kernel
theorem dX10_latestWithoutCopy_25 : decode cX10_latestWithoutCopy 25 = .ok (.invokestatic 51, 3) := by decide +kernel
theorem dX10_latestWithoutCopy_28 : decode cX10_latestWithoutCopy 28 = .ok (.ifCond .ne 29, 3) := by decide +kernel
theorem dX10_latestWithoutCopy_31 : decode cX10_latestWithoutCopy 31 = .ok (.aload_n 0, 1) := by decide +kernel
theorem dX10_latestWithoutCopy_32 : decode cX10_latestWithoutCopy 32 = .ok (.getfield 20, 3) := by decide +kernel
theorem dX10_latestWithoutCopy_35 : decode cX10_latestWithoutCopy 35 = .ok (.iload 4, 2) := by decide +kernel
theorem dX10_latestWithoutCopy_37 : decode cX10_latestWithoutCopy 37 = .ok (.invokevirtual 47, 3) := by decide +kernel
theorem dX10_latestWithoutCopy_40 : decode cX10_latestWithoutCopy 40 = .ok (.iload_n 3, 1) := by decide +kernel
theorem dX10_latestWithoutCopy_41 : decode cX10_latestWithoutCopy 41 = .ok (.if_icmp .le 16, 3) := by decide +kernel
theorem dX10_latestWithoutCopy_44 : decode cX10_latestWithoutCopy 44 = .ok (.iload 4, 2) := by decide +kernel
theorem dX10_latestWithoutCopy_46 : decode cX10_latestWithoutCopy 46 = .ok (.istore_n 2, 1) := by decide +kernel
theorem dX10_latestWithoutCopy_47 : decode cX10_latestWithoutCopy 47 = .ok (.aload_n 0, 1) := by decide +kernel
theorem dX10_latestWithoutCopy_48 : decode cX10_latestWithoutCopy 48 = .ok (.getfield 20, 3) := by decide +kernel
theorem dX10_latestWithoutCopy_51 : decode cX10_latestWithoutCopy 51 = .ok (.iload 4, 2) := by decide +kernel
theorem dX10_latestWithoutCopy_53 : decode cX10_latestWithoutCopy 53 = .ok (.invokevirtual 47, 3) := by decide +kernel
theorem dX10_latestWithoutCopy_56 : decode cX10_latestWithoutCopy 56 = .ok (.istore_n 3, 1) := by decide +kernel
theorem dX10_latestWithoutCopy_57 : decode cX10_latestWithoutCopy 57 = .ok (.iinc 4 1, 3) := by decide +kernel
theorem dX10_latestWithoutCopy_60 : decode cX10_latestWithoutCopy 60 = .ok (.goto (-50), 3) := by decide +kernel
theorem dX10_latestWithoutCopy_63 : decode cX10_latestWithoutCopy 63 = .ok (.iload_n 2, 1) := by decide +kernel
theorem dX10_latestWithoutCopy_64 : decode cX10_latestWithoutCopy 64 = .ok (.ireturn, 1) := by decide +kernel
theorem dX11_init_0 : decode cX11_init 0 = .ok (.aload_n 0, 1) := by decide +kernel
theorem dX11_init_1 : decode cX11_init 1 = .ok (.invokespecial 3, 3) := by decide +kernel
theorem dX11_init_4 : decode cX11_init 4 = .ok (.aload_n 0, 1) := by decide +kernel
theorem dX11_init_5 : decode cX11_init 5 = .ok (.bipush 20, 2) := by decide +kernel
theorem dX11_init_7 : decode cX11_init 7 = .ok (.putfield 9, 3) := by decide +kernel
theorem dX11_init_10 : decode cX11_init 10 = .ok (.aload_n 0, 1) := by decide +kernel
theorem dX11_init_11 : decode cX11_init 11 = .ok (.new 13, 3) := by decide +kernel
theorem dX11_init_14 : decode cX11_init 14 = .ok (.dup, 1) := by decide +kernel
theorem dX11_init_15 : decode cX11_init 15 = .ok (.invokespecial 15, 3) := by decide +kernel
theorem dX11_init_18 : decode cX11_init 18 = .ok (.putfield 16, 3) := by decide +kernel
theorem dX11_init_21 : decode cX11_init 21 = .ok (.aload_n 0, 1) := by decide +kernel
theorem dX11_init_22 : decode cX11_init 22 = .ok (.new 20, 3) := by decide +kernel
theorem dX11_init_25 : decode cX11_init 25 = .ok (.dup, 1) := by decide +kernel
theorem dX11_init_26 : decode cX11_init 26 = .ok (.aload_n 0, 1) := by decide +kernel
theorem dX11_init_27 : decode cX11_init 27 = .ok (.getfield 16, 3) := by decide +kernel
theorem dX11_init_30 : decode cX11_init 30 = .ok (.iconst 0, 1) := by decide +kernel
theorem dX11_init_31 : decode cX11_init 31 = .ok (.invokespecial 22, 3) := by decide +kernel
theorem dX11_init_34 : decode cX11_init 34 = .ok (.putfield 25, 3) := by decide +kernel
theorem dX11_init_37 : decode cX11_init 37 = .ok (.aload_n 0, 1) := by decide +kernel
theorem dX11_init_38 : decode cX11_init 38 = .ok (.new 20, 3) := by decide +kernel
theorem dX11_init_41 : decode cX11_init 41 = .ok (.dup, 1) := by decide +kernel
theorem dX11_init_42 : decode cX11_init 42 = .ok (.aload_n 0, 1) := by decide +kernel
theorem dX11_init_43 : decode cX11_init 43 = .ok (.getfield 16, 3) := by decide +kernel
theorem dX11_init_46 : decode cX11_init 46 = .ok (.iconst 1, 1) := by decide +kernel
theorem dX11_init_47 : decode cX11_init 47 = .ok (.invokespecial 22, 3) := by decide +kernel
theorem dX11_init_50 : decode cX11_init 50 = .ok (.putfield 29, 3) := by decide +kernel
theorem dX11_init_53 : decode cX11_init 53 = .ok (.aload_n 0, 1) := by decide +kernel
theorem dX11_init_54 : decode cX11_init 54 = .ok (.new 32, 3) := by decide +kernel
theorem dX11_init_57 : decode cX11_init 57 = .ok (.dup, 1) := by decide +kernel
theorem dX11_init_58 : decode cX11_init 58 = .ok (.invokespecial 34, 3) := by decide +kernel
theorem dX11_init_61 : decode cX11_init 61 = .ok (.putfield 35, 3) := by decide +kernel
theorem dX11_init_64 : decode cX11_init 64 = .ok (.aload_n 0, 1) := by decide +kernel
theorem dX11_init_65 : decode cX11_init 65 = .ok (.new 39, 3) := by decide +kernel
theorem dX11_init_68 : decode cX11_init 68 = .ok (.dup, 1) := by decide +kernel
theorem dX11_init_69 : decode cX11_init 69 = .ok (.aload_n 0, 1) := by decide +kernel
theorem dX11_init_70 : decode cX11_init 70 = .ok (.getfield 16, 3) := by decide +kernel
theorem dX11_init_73 : decode cX11_init 73 = .ok (.aload_n 0, 1) := by decide +kernel
theorem dX11_init_74 : decode cX11_init 74 = .ok (.getfield 25, 3) := by decide +kernel
theorem dX11_init_77 : decode cX11_init 77 = .ok (.aload_n 0, 1) := by decide +kernel
theorem dX11_init_78 : decode cX11_init 78 = .ok (.getfield 35, 3) := by decide +kernel
theorem dX11_init_81 : decode cX11_init 81 = .ok (.invokespecial 41, 3) := by decide +kernel
theorem dX11_init_84 : decode cX11_init 84 = .ok (.putfield 44, 3) := by decide +kernel
theorem dX11_init_87 : decode cX11_init 87 = .ok (.aload_n 0, 1) := by decide +kernel
theorem dX11_init_88 : decode cX11_init 88 = .ok (.new 48, 3) := by decide +kernel
theorem dX11_init_91 : decode cX11_init 91 = .ok (.dup, 1) := by decide +kernel
theorem dX11_init_92 : decode cX11_init 92 = .ok (.invokespecial 50, 3) := by decide +kernel
theorem dX11_init_95 : decode cX11_init 95 = .ok (.putfield 51, 3) := by decide +kernel
theorem dX11_init_98 : decode cX11_init 98 = .ok (.aload_n 0, 1) := by decide +kernel
theorem dX11_init_99 : decode cX11_init 99 = .ok (.new 55, 3) := by decide +kernel
theorem dX11_init_102 : decode cX11_init 102 = .ok (.dup, 1) := by decide +kernel
theorem dX11_init_103 : decode cX11_init 103 = .ok (.invokespecial 57, 3) := by decide +kernel
theorem dX11_init_106 : decode cX11_init 106 = .ok (.putfield 58, 3) := by decide +kernel
theorem dX11_init_109 : decode cX11_init 109 = .ok (.aload_n 0, 1) := by decide +kernel
theorem dX11_init_110 : decode cX11_init 110 = .ok (.new 62, 3) := by decide +kernel
theorem dX11_init_113 : decode cX11_init 113 = .ok (.dup, 1) := by decide +kernel
theorem dX11_init_114 : decode cX11_init 114 = .ok (.aload_n 0, 1) := by decide +kernel
theorem dX11_init_115 : decode cX11_init 115 = .ok (.getfield 58, 3) := by decide +kernel
theorem dX11_init_118 : decode cX11_init 118 = .ok (.invokespecial 64, 3) := by decide +kernel
theorem dX11_init_121 : decode cX11_init 121 = .ok (.putfield 67, 3) := by decide +kernel
theorem dX11_init_124 : decode cX11_init 124 = .ok (.return_, 1) := by decide +kernel
theorem dX11_source_0 : decode cX11_source 0 = .ok (.iload_n 1, 1) := by decide +kernel
theorem dX11_source_1 : decode cX11_source 1 = .ok (.invokestatic 71, 3) := by decide +kernel
theorem dX11_source_4 : decode cX11_source 4 = .ok (.aload_n 0, 1) := by decide +kernel
theorem dX11_source_5 : decode cX11_source 5 = .ok (.invokevirtual 75, 3) := by decide +kernel
theorem dX11_source_8 : decode cX11_source 8 = .ok (.new 78, 3) := by decide +kernel
theorem dX11_source_11 : decode cX11_source 11 = .ok (.dup, 1) := by decide +kernel
theorem dX11_source_12 : decode cX11_source 12 = .ok (.getstatic 80, 3) := by decide +kernel
theorem dX11_source_15 : decode cX11_source 15 = .ok (.iconst (-1), 1) := by decide +kernel
theorem dX11_source_16 : decode cX11_source 16 = .ok (.iconst (-1), 1) := by decide +kernel
theorem dX11_source_17 : decode cX11_source 17 = .ok (.bipush 12, 2) := by decide +kernel
theorem dX11_source_19 : decode cX11_source 19 = .ok (.iload_n 1, 1) := by decide +kernel
theorem dX11_source_20 : decode cX11_source 20 = .ok (.invokespecial 86, 3) := by decide +kernel
theorem dX11_source_23 : decode cX11_source 23 = .ok (.astore_n 2, 1) := by decide +kernel
theorem dX11_source_24 : decode cX11_source 24 = .ok (.aload_n 2, 1) := by decide +kernel
theorem dX11_source_25 : decode cX11_source 25 = .ok (.iload_n 1, 1) := by decide +kernel
theorem dX11_source_26 : decode cX11_source 26 = .ok (.putfield 89, 3) := by decide +kernel
theorem dX11_source_29 : decode cX11_source 29 = .ok (.aload_n 0, 1) := by decide +kernel
theorem dX11_source_30 : decode cX11_source 30 = .ok (.getfield 16, 3) := by decide +kernel
theorem dX11_source_33 : decode cX11_source 33 = .ok (.aload_n 2, 1) := by decide +kernel
theorem dX11_source_34 : decode cX11_source 34 = .ok (.invokevirtual 92, 3) := by decide +kernel
theorem dX11_source_37 : decode cX11_source 37 = .ok (.ireturn, 1) := by decide +kernel
theorem dX11_put_0 : decode cX11_put 0 = .ok (.aload_n 0, 1) := by decide +kernel
theorem dX11_put_1 : decode cX11_put 1 = .ok (.iload_n 1, 1) := by decide +kernel
theorem dX11_put_2 : decode cX11_put 2 = .ok (.invokevirtual 96, 3) := by decide +kernel
theorem dX11_put_5 : decode cX11_put 5 = .ok (.aload_n 0, 1) := by decide +kernel
theorem dX11_put_6 : decode cX11_put 6 = .ok (.getfield 16, 3) := by decide +kernel
theorem dX11_put_9 : decode cX11_put 9 = .ok (.iload_n 1, 1) := by decide +kernel
theorem dX11_put_10 : decode cX11_put 10 = .ok (.invokevirtual 99, 3) := by decide +kernel
theorem dX11_put_13 : decode cX11_put 13 = .ok (.astore 4, 2) := by decide +kernel
theorem dX11_put_15 : decode cX11_put 15 = .ok (.aload 4, 2) := by decide +kernel
theorem dX11_put_17 : decode cX11_put 17 = .ok (.getfield 103, 3) := by decide +kernel
theorem dX11_put_20 : decode cX11_put 20 = .ok (.getstatic 80, 3) := by decide +kernel
theorem dX11_put_23 : decode cX11_put 23 = .ok (.if_acmp .ne 16, 3) := by decide +kernel
theorem dX11_put_26 : decode cX11_put 26 = .ok (.aload 4, 2) := by decide +kernel
theorem dX11_put_28 : decode cX11_put 28 = .ok (.getfield 106, 3) := by decide +kernel
theorem dX11_put_31 : decode cX11_put 31 = .ok (.invokevirtual 110, 3) := by decide +kernel
theorem dX11_put_34 : decode cX11_put 34 = .ok (.bipush 12, 2) := by decide +kernel
theorem dX11_put_36 : decode cX11_put 36 = .ok (.if_icmp .lt 13, 3) := by decide +kernel
theorem dX11_put_39 : decode cX11_put 39 = .ok (.new 116, 3) := by decide +kernel
theorem dX11_put_42 : decode cX11_put 42 = .ok (.dup, 1) := by decide +kernel
theorem dX11_put_43 : decode cX11_put 43 = .ok (.ldc 118, 2) := by decide +kernel
theorem dX11_put_45 : decode cX11_put 45 = .ok (.invokespecial 120, 3) := by decide +kernel
theorem dX11_put_48 : decode cX11_put 48 = .ok (.athrow, 1) := by decide +kernel
theorem dX11_put_49 : decode cX11_put 49 = .ok (.aload 4, 2) := by decide +kernel
theorem dX11_put_51 : decode cX11_put 51 = .ok (.getfield 106, 3) := by decide +kernel
theorem dX11_put_54 : decode cX11_put 54 = .ok (.iload_n 2, 1) := by decide +kernel
theorem dX11_put_55 : decode cX11_put 55 = .ok (.iload_n 3, 1) := by decide +kernel
theorem dX11_put_56 : decode cX11_put 56 = .ok (.invokevirtual 123, 3) := by decide +kernel
theorem dX11_put_59 : decode cX11_put 59 = .ok (.aload_n 0, 1) := by decide +kernel
theorem dX11_put_60 : decode cX11_put 60 = .ok (.getfield 25, 3) := by decide +kernel
theorem dX11_put_63 : decode cX11_put 63 = .ok (.iload_n 1, 1) := by decide +kernel
theorem dX11_put_64 : decode cX11_put 64 = .ok (.invokevirtual 126, 3) := by decide +kernel
theorem dX11_put_67 : decode cX11_put 67 = .ok (.aload_n 0, 1) := by decide +kernel
theorem dX11_put_68 : decode cX11_put 68 = .ok (.getfield 29, 3) := by decide +kernel
theorem dX11_put_71 : decode cX11_put 71 = .ok (.iload_n 1, 1) := by decide +kernel
theorem dX11_put_72 : decode cX11_put 72 = .ok (.invokevirtual 126, 3) := by decide +kernel
theorem dX11_put_75 : decode cX11_put 75 = .ok (.aload_n 0, 1) := by decide +kernel
theorem dX11_put_76 : decode cX11_put 76 = .ok (.getfield 35, 3) := by decide +kernel
theorem dX11_put_79 : decode cX11_put 79 = .ok (.invokevirtual 129, 3) := by decide +kernel
theorem dX11_put_82 : decode cX11_put 82 = .ok (.aload 4, 2) := by decide +kernel
theorem dX11_put_84 : decode cX11_put 84 = .ok (.getfield 106, 3) := by decide +kernel
theorem dX11_put_87 : decode cX11_put 87 = .ok (.invokevirtual 110, 3) := by decide +kernel
theorem dX11_put_90 : decode cX11_put 90 = .ok (.ireturn, 1) := by decide +kernel
theorem dX11_map_0 : decode cX11_map 0 = .ok (.aload_n 0, 1) := by decide +kernel
theorem dX11_map_1 : decode cX11_map 1 = .ok (.iload_n 1, 1) := by decide +kernel
theorem dX11_map_2 : decode cX11_map 2 = .ok (.invokevirtual 96, 3) := by decide +kernel
theorem dX11_map_5 : decode cX11_map 5 = .ok (.iload_n 2, 1) := by decide +kernel
theorem dX11_map_6 : decode cX11_map 6 = .ok (.ifCond .lt 18, 3) := by decide +kernel
theorem dX11_map_9 : decode cX11_map 9 = .ok (.iload_n 2, 1) := by decide +kernel
theorem dX11_map_10 : decode cX11_map 10 = .ok (.iconst 4, 1) := by decide +kernel
theorem dX11_map_11 : decode cX11_map 11 = .ok (.if_icmp .gt 13, 3) := by decide +kernel
theorem dX11_map_14 : decode cX11_map 14 = .ok (.iload_n 2, 1) := by decide +kernel
theorem dX11_map_15 : decode cX11_map 15 = .ok (.iconst 3, 1) := by decide +kernel
theorem dX11_map_16 : decode cX11_map 16 = .ok (.if_icmp .ne 18, 3) := by decide +kernel
theorem dX11_map_19 : decode cX11_map 19 = .ok (.iload_n 3, 1) := by decide +kernel
theorem dX11_map_20 : decode cX11_map 20 = .ok (.iconst 1, 1) := by decide +kernel
theorem dX11_map_21 : decode cX11_map 21 = .ok (.if_icmp .ge 13, 3) := by decide +kernel
theorem dX11_map_24 : decode cX11_map 24 = .ok (.new 132, 3) := by decide +kernel
theorem dX11_map_27 : decode cX11_map 27 = .ok (.dup, 1) := by decide +kernel
theorem dX11_map_28 : decode cX11_map 28 = .ok (.ldc 134, 2) := by decide +kernel
theorem dX11_map_30 : decode cX11_map 30 = .ok (.invokespecial 136, 3) := by decide +kernel
theorem dX11_map_33 : decode cX11_map 33 = .ok (.athrow, 1) := by decide +kernel
theorem dX11_map_34 : decode cX11_map 34 = .ok (.aload_n 0, 1) := by decide +kernel
theorem dX11_map_35 : decode cX11_map 35 = .ok (.invokevirtual 75, 3) := by decide +kernel
theorem dX11_map_38 : decode cX11_map 38 = .ok (.aload_n 0, 1) := by decide +kernel
theorem dX11_map_39 : decode cX11_map 39 = .ok (.getstatic 137, 3) := by decide +kernel
theorem dX11_map_42 : decode cX11_map 42 = .ok (.iload_n 1, 1) := by decide +kernel
theorem dX11_map_43 : decode cX11_map 43 = .ok (.invokevirtual 140, 3) := by decide +kernel
theorem dX11_map_46 : decode cX11_map 46 = .ok (.astore 4, 2) := by decide +kernel
theorem dX11_map_48 : decode cX11_map 48 = .ok (.aload 4, 2) := by decide +kernel
theorem dX11_map_50 : decode cX11_map 50 = .ok (.iload_n 2, 1) := by decide +kernel
theorem dX11_map_51 : decode cX11_map 51 = .ok (.putfield 144, 3) := by decide +kernel
theorem dX11_map_54 : decode cX11_map 54 = .ok (.aload 4, 2) := by decide +kernel
theorem dX11_map_56 : decode cX11_map 56 = .ok (.iload_n 3, 1) := by decide +kernel
theorem dX11_map_57 : decode cX11_map 57 = .ok (.putfield 147, 3) := by decide +kernel
theorem dX11_map_60 : decode cX11_map 60 = .ok (.aload_n 0, 1) := by decide +kernel
theorem dX11_map_61 : decode cX11_map 61 = .ok (.getfield 16, 3) := by decide +kernel
theorem dX11_map_64 : decode cX11_map 64 = .ok (.aload 4, 2) := by decide +kernel
theorem dX11_map_66 : decode cX11_map 66 = .ok (.invokevirtual 92, 3) := by decide +kernel
theorem dX11_map_69 : decode cX11_map 69 = .ok (.ireturn, 1) := by decide +kernel
theorem dX11_filter_0 : decode cX11_filter 0 = .ok (.aload_n 0, 1) := by decide +kernel
theorem dX11_filter_1 : decode cX11_filter 1 = .ok (.iload_n 1, 1) := by decide +kernel
theorem dX11_filter_2 : decode cX11_filter 2 = .ok (.invokevirtual 96, 3) := by decide +kernel
theorem dX11_filter_5 : decode cX11_filter 5 = .ok (.aload_n 0, 1) := by decide +kernel
theorem dX11_filter_6 : decode cX11_filter 6 = .ok (.invokevirtual 75, 3) := by decide +kernel
theorem dX11_filter_9 : decode cX11_filter 9 = .ok (.aload_n 0, 1) := by decide +kernel
theorem dX11_filter_10 : decode cX11_filter 10 = .ok (.getstatic 150, 3) := by decide +kernel
theorem dX11_filter_13 : decode cX11_filter 13 = .ok (.iload_n 1, 1) := by decide +kernel
theorem dX11_filter_14 : decode cX11_filter 14 = .ok (.invokevirtual 140, 3) := by decide +kernel
theorem dX11_filter_17 : decode cX11_filter 17 = .ok (.astore 4, 2) := by decide +kernel
theorem dX11_filter_19 : decode cX11_filter 19 = .ok (.aload 4, 2) := by decide +kernel
theorem dX11_filter_21 : decode cX11_filter 21 = .ok (.iload_n 2, 1) := by decide +kernel
theorem dX11_filter_22 : decode cX11_filter 22 = .ok (.putfield 153, 3) := by decide +kernel
theorem dX11_filter_25 : decode cX11_filter 25 = .ok (.aload 4, 2) := by decide +kernel
theorem dX11_filter_27 : decode cX11_filter 27 = .ok (.iload_n 3, 1) := by decide +kernel
theorem dX11_filter_28 : decode cX11_filter 28 = .ok (.putfield 156, 3) := by decide +kernel
theorem dX11_filter_31 : decode cX11_filter 31 = .ok (.aload_n 0, 1) := by decide +kernel
theorem dX11_filter_32 : decode cX11_filter 32 = .ok (.getfield 16, 3) := by decide +kernel
theorem dX11_filter_35 : decode cX11_filter 35 = .ok (.aload 4, 2) := by decide +kernel
theorem dX11_filter_37 : decode cX11_filter 37 = .ok (.invokevirtual 92, 3) := by decide +kernel
theorem dX11_filter_40 : decode cX11_filter 40 = .ok (.ireturn, 1) := by decide +kernel
theorem dX11_union_0 : decode cX11_union 0 = .ok (.aload_n 0, 1) := by decide +kernel
theorem dX11_union_1 : decode cX11_union 1 = .ok (.iload_n 1, 1) := by decide +kernel
theorem dX11_union_2 : decode cX11_union 2 = .ok (.invokevirtual 96, 3) := by decide +kernel
theorem dX11_union_5 : decode cX11_union 5 = .ok (.aload_n 0, 1) := by decide +kernel
theorem dX11_union_6 : decode cX11_union 6 = .ok (.iload_n 2, 1) := by decide +kernel
theorem dX11_union_7 : decode cX11_union 7 = .ok (.invokevirtual 96, 3) := by decide +kernel
theorem dX11_union_10 : decode cX11_union 10 = .ok (.aload_n 0, 1) := by decide +kernel
theorem dX11_union_11 : decode cX11_union 11 = .ok (.invokevirtual 75, 3) := by decide +kernel
theorem dX11_union_14 : decode cX11_union 14 = .ok (.aload_n 0, 1) := by decide +kernel
theorem dX11_union_15 : decode cX11_union 15 = .ok (.getfield 16, 3) := by decide +kernel
theorem dX11_union_18 : decode cX11_union 18 = .ok (.iload_n 1, 1) := by decide +kernel
theorem dX11_union_19 : decode cX11_union 19 = .ok (.invokevirtual 99, 3) := by decide +kernel
theorem dX11_union_22 : decode cX11_union 22 = .ok (.astore_n 3, 1) := by decide +kernel
theorem dX11_union_23 : decode cX11_union 23 = .ok (.aload_n 0, 1) := by decide +kernel
theorem dX11_union_24 : decode cX11_union 24 = .ok (.getfield 16, 3) := by decide +kernel
theorem dX11_union_27 : decode cX11_union 27 = .ok (.iload_n 2, 1) := by decide +kernel
theorem dX11_union_28 : decode cX11_union 28 = .ok (.invokevirtual 99, 3) := by decide +kernel
theorem dX11_union_31 : decode cX11_union 31 = .ok (.astore 4, 2) := by decide +kernel
theorem dX11_union_33 : decode cX11_union 33 = .ok (.aload_n 3, 1) := by decide +kernel
theorem dX11_union_34 : decode cX11_union 34 = .ok (.getfield 159, 3) := by decide +kernel
theorem dX11_union_37 : decode cX11_union 37 = .ok (.aload 4, 2) := by decide +kernel
theorem dX11_union_39 : decode cX11_union 39 = .ok (.getfield 159, 3) := by decide +kernel
theorem dX11_union_42 : decode cX11_union 42 = .ok (.iadd, 1) := by decide +kernel
theorem dX11_union_43 : decode cX11_union 43 = .ok (.istore 5, 2) := by decide +kernel
theorem dX11_union_45 : decode cX11_union 45 = .ok (.aload_n 3, 1) := by decide +kernel
theorem dX11_union_46 : decode cX11_union 46 = .ok (.getfield 162, 3) := by decide +kernel
theorem dX11_union_49 : decode cX11_union 49 = .ok (.aload 4, 2) := by decide +kernel
theorem dX11_union_51 : decode cX11_union 51 = .ok (.getfield 162, 3) := by decide +kernel
theorem dX11_union_54 : decode cX11_union 54 = .ok (.iadd, 1) := by decide +kernel
theorem dX11_union_55 : decode cX11_union 55 = .ok (.istore 6, 2) := by decide +kernel
theorem dX11_union_57 : decode cX11_union 57 = .ok (.iload 5, 2) := by decide +kernel
theorem dX11_union_59 : decode cX11_union 59 = .ok (.sipush 300, 3) := by decide +kernel
theorem dX11_union_62 : decode cX11_union 62 = .ok (.if_icmp .gt 10, 3) := by decide +kernel
theorem dX11_union_65 : decode cX11_union 65 = .ok (.iload 6, 2) := by decide +kernel
theorem dX11_union_67 : decode cX11_union 67 = .ok (.bipush 8, 2) := by decide +kernel
theorem dX11_union_69 : decode cX11_union 69 = .ok (.if_icmp .le 13, 3) := by decide +kernel
theorem dX11_union_72 : decode cX11_union 72 = .ok (.new 116, 3) := by decide +kernel
theorem dX11_union_75 : decode cX11_union 75 = .ok (.dup, 1) := by decide +kernel
theorem dX11_union_76 : decode cX11_union 76 = .ok (.ldc 165, 2) := by decide +kernel
theorem dX11_union_78 : decode cX11_union 78 = .ok (.invokespecial 120, 3) := by decide +kernel
theorem dX11_union_81 : decode cX11_union 81 = .ok (.athrow, 1) := by decide +kernel
theorem dX11_union_82 : decode cX11_union 82 = .ok (.aload_n 0, 1) := by decide +kernel
theorem dX11_union_83 : decode cX11_union 83 = .ok (.getfield 16, 3) := by decide +kernel
theorem dX11_union_86 : decode cX11_union 86 = .ok (.new 78, 3) := by decide +kernel
theorem dX11_union_89 : decode cX11_union 89 = .ok (.dup, 1) := by decide +kernel
theorem dX11_union_90 : decode cX11_union 90 = .ok (.getstatic 167, 3) := by decide +kernel
theorem dX11_union_93 : decode cX11_union 93 = .ok (.iload_n 1, 1) := by decide +kernel
theorem dX11_union_94 : decode cX11_union 94 = .ok (.iload_n 2, 1) := by decide +kernel
theorem dX11_union_95 : decode cX11_union 95 = .ok (.iload 5, 2) := by decide +kernel
theorem dX11_union_97 : decode cX11_union 97 = .ok (.iload 6, 2) := by decide +kernel
theorem dX11_union_99 : decode cX11_union 99 = .ok (.invokespecial 86, 3) := by decide +kernel
theorem dX11_union_102 : decode cX11_union 102 = .ok (.invokevirtual 92, 3) := by decide +kernel
theorem dX11_union_105 : decode cX11_union 105 = .ok (.ireturn, 1) := by decide +kernel
theorem dX11_group_0 : decode cX11_group 0 = .ok (.aload_n 0, 1) := by decide +kernel
theorem dX11_group_1 : decode cX11_group 1 = .ok (.iload_n 1, 1) := by decide +kernel
theorem dX11_group_2 : decode cX11_group 2 = .ok (.invokevirtual 96, 3) := by decide +kernel
theorem dX11_group_5 : decode cX11_group 5 = .ok (.iload_n 2, 1) := by decide +kernel
theorem dX11_group_6 : decode cX11_group 6 = .ok (.ifCond .lt 8, 3) := by decide +kernel
theorem dX11_group_9 : decode cX11_group 9 = .ok (.iload_n 2, 1) := by decide +kernel
theorem dX11_group_10 : decode cX11_group 10 = .ok (.iconst 3, 1) := by decide +kernel
theorem dX11_group_11 : decode cX11_group 11 = .ok (.if_icmp .le 13, 3) := by decide +kernel
theorem dX11_group_14 : decode cX11_group 14 = .ok (.new 132, 3) := by decide +kernel
theorem dX11_group_17 : decode cX11_group 17 = .ok (.dup, 1) := by decide +kernel
theorem dX11_group_18 : decode cX11_group 18 = .ok (.ldc 170, 2) := by decide +kernel
theorem dX11_group_20 : decode cX11_group 20 = .ok (.invokespecial 136, 3) := by decide +kernel
theorem dX11_group_23 : decode cX11_group 23 = .ok (.athrow, 1) := by decide +kernel
theorem dX11_group_24 : decode cX11_group 24 = .ok (.iload_n 3, 1) := by decide +kernel
theorem dX11_group_25 : decode cX11_group 25 = .ok (.invokestatic 71, 3) := by decide +kernel
theorem dX11_group_28 : decode cX11_group 28 = .ok (.aload_n 0, 1) := by decide +kernel
theorem dX11_group_29 : decode cX11_group 29 = .ok (.invokevirtual 75, 3) := by decide +kernel
theorem dX11_group_32 : decode cX11_group 32 = .ok (.new 78, 3) := by decide +kernel
theorem dX11_group_35 : decode cX11_group 35 = .ok (.dup, 1) := by decide +kernel
theorem dX11_group_36 : decode cX11_group 36 = .ok (.getstatic 172, 3) := by decide +kernel
theorem dX11_group_39 : decode cX11_group 39 = .ok (.iload_n 1, 1) := by decide +kernel
theorem dX11_group_40 : decode cX11_group 40 = .ok (.iconst (-1), 1) := by decide +kernel
theorem dX11_group_41 : decode cX11_group 41 = .ok (.aload_n 0, 1) := by decide +kernel
theorem dX11_group_42 : decode cX11_group 42 = .ok (.getfield 16, 3) := by decide +kernel
theorem dX11_group_45 : decode cX11_group 45 = .ok (.iload_n 1, 1) := by decide +kernel
theorem dX11_group_46 : decode cX11_group 46 = .ok (.invokevirtual 99, 3) := by decide +kernel
theorem dX11_group_49 : decode cX11_group 49 = .ok (.getfield 159, 3) := by decide +kernel
theorem dX11_group_52 : decode cX11_group 52 = .ok (.iload_n 3, 1) := by decide +kernel
theorem dX11_group_53 : decode cX11_group 53 = .ok (.invokespecial 86, 3) := by decide +kernel
theorem dX11_group_56 : decode cX11_group 56 = .ok (.astore 4, 2) := by decide +kernel
theorem dX11_group_58 : decode cX11_group 58 = .ok (.aload 4, 2) := by decide +kernel
theorem dX11_group_60 : decode cX11_group 60 = .ok (.iload_n 2, 1) := by decide +kernel
theorem dX11_group_61 : decode cX11_group 61 = .ok (.putfield 144, 3) := by decide +kernel
theorem dX11_group_64 : decode cX11_group 64 = .ok (.aload 4, 2) := by decide +kernel
theorem dX11_group_66 : decode cX11_group 66 = .ok (.iload_n 3, 1) := by decide +kernel
theorem dX11_group_67 : decode cX11_group 67 = .ok (.putfield 89, 3) := by decide +kernel
theorem dX11_group_70 : decode cX11_group 70 = .ok (.aload_n 0, 1) := by decide +kernel
theorem dX11_group_71 : decode cX11_group 71 = .ok (.getfield 16, 3) := by decide +kernel
theorem dX11_group_74 : decode cX11_group 74 = .ok (.aload 4, 2) := by decide +kernel
theorem dX11_group_76 : decode cX11_group 76 = .ok (.invokevirtual 92, 3) := by decide +kernel
theorem dX11_group_79 : decode cX11_group 79 = .ok (.ireturn, 1) := by decide +kernel
theorem dX11_join_0 : decode cX11_join 0 = .ok (.aload_n 0, 1) := by decide +kernel
theorem dX11_join_1 : decode cX11_join 1 = .ok (.iload_n 1, 1) := by decide +kernel
theorem dX11_join_2 : decode cX11_join 2 = .ok (.invokevirtual 96, 3) := by decide +kernel
theorem dX11_join_5 : decode cX11_join 5 = .ok (.aload_n 0, 1) := by decide +kernel
theorem dX11_join_6 : decode cX11_join 6 = .ok (.iload_n 2, 1) := by decide +kernel
theorem dX11_join_7 : decode cX11_join 7 = .ok (.invokevirtual 96, 3) := by decide +kernel
theorem dX11_join_10 : decode cX11_join 10 = .ok (.iload_n 3, 1) := by decide +kernel
theorem dX11_join_11 : decode cX11_join 11 = .ok (.invokestatic 71, 3) := by decide +kernel
theorem dX11_join_14 : decode cX11_join 14 = .ok (.aload_n 0, 1) := by decide +kernel
theorem dX11_join_15 : decode cX11_join 15 = .ok (.invokevirtual 75, 3) := by decide +kernel
theorem dX11_join_18 : decode cX11_join 18 = .ok (.aload_n 0, 1) := by decide +kernel
theorem dX11_join_19 : decode cX11_join 19 = .ok (.getfield 16, 3) := by decide +kernel
theorem dX11_join_22 : decode cX11_join 22 = .ok (.iload_n 1, 1) := by decide +kernel
theorem dX11_join_23 : decode cX11_join 23 = .ok (.invokevirtual 99, 3) := by decide +kernel
theorem dX11_join_26 : decode cX11_join 26 = .ok (.getfield 159, 3) := by decide +kernel
theorem dX11_join_29 : decode cX11_join 29 = .ok (.aload_n 0, 1) := by decide +kernel
theorem dX11_join_30 : decode cX11_join 30 = .ok (.getfield 16, 3) := by decide +kernel
theorem dX11_join_33 : decode cX11_join 33 = .ok (.iload_n 2, 1) := by decide +kernel
theorem dX11_join_34 : decode cX11_join 34 = .ok (.invokevirtual 99, 3) := by decide +kernel
theorem dX11_join_37 : decode cX11_join 37 = .ok (.getfield 159, 3) := by decide +kernel
theorem dX11_join_40 : decode cX11_join 40 = .ok (.imul, 1) := by decide +kernel
theorem dX11_join_41 : decode cX11_join 41 = .ok (.istore 4, 2) := by decide +kernel
theorem dX11_join_43 : decode cX11_join 43 = .ok (.iload 4, 2) := by decide +kernel
theorem dX11_join_45 : decode cX11_join 45 = .ok (.sipush 300, 3) := by decide +kernel
theorem dX11_join_48 : decode cX11_join 48 = .ok (.if_icmp .le 13, 3) := by decide +kernel
theorem dX11_join_51 : decode cX11_join 51 = .ok (.new 116, 3) := by decide +kernel
theorem dX11_join_54 : decode cX11_join 54 = .ok (.dup, 1) := by decide +kernel
theorem dX11_join_55 : decode cX11_join 55 = .ok (.ldc 175, 2) := by decide +kernel
theorem dX11_join_57 : decode cX11_join 57 = .ok (.invokespecial 120, 3) := by decide +kernel
theorem dX11_join_60 : decode cX11_join 60 = .ok (.athrow, 1) := by decide +kernel
theorem dX11_join_61 : decode cX11_join 61 = .ok (.iload_n 3, 1) := by decide +kernel
theorem dX11_join_62 : decode cX11_join 62 = .ok (.aload_n 0, 1) := by decide +kernel
theorem dX11_join_63 : decode cX11_join 63 = .ok (.getfield 16, 3) := by decide +kernel
theorem dX11_join_66 : decode cX11_join 66 = .ok (.iload_n 1, 1) := by decide +kernel
theorem dX11_join_67 : decode cX11_join 67 = .ok (.invokevirtual 99, 3) := by decide +kernel
theorem dX11_join_70 : decode cX11_join 70 = .ok (.getfield 162, 3) := by decide +kernel
theorem dX11_join_73 : decode cX11_join 73 = .ok (.invokestatic 177, 3) := by decide +kernel
theorem dX11_join_76 : decode cX11_join 76 = .ok (.istore 5, 2) := by decide +kernel
theorem dX11_join_78 : decode cX11_join 78 = .ok (.new 78, 3) := by decide +kernel
theorem dX11_join_81 : decode cX11_join 81 = .ok (.dup, 1) := by decide +kernel
theorem dX11_join_82 : decode cX11_join 82 = .ok (.getstatic 183, 3) := by decide +kernel
theorem dX11_join_85 : decode cX11_join 85 = .ok (.iload_n 1, 1) := by decide +kernel
theorem dX11_join_86 : decode cX11_join 86 = .ok (.iload_n 2, 1) := by decide +kernel
theorem dX11_join_87 : decode cX11_join 87 = .ok (.iload 4, 2) := by decide +kernel
theorem dX11_join_89 : decode cX11_join 89 = .ok (.iload 5, 2) := by decide +kernel
theorem dX11_join_91 : decode cX11_join 91 = .ok (.invokespecial 86, 3) := by decide +kernel
theorem dX11_join_94 : decode cX11_join 94 = .ok (.astore 6, 2) := by decide +kernel
theorem dX11_join_96 : decode cX11_join 96 = .ok (.aload 6, 2) := by decide +kernel
theorem dX11_join_98 : decode cX11_join 98 = .ok (.iload_n 3, 1) := by decide +kernel
theorem dX11_join_99 : decode cX11_join 99 = .ok (.putfield 89, 3) := by decide +kernel
theorem dX11_join_102 : decode cX11_join 102 = .ok (.aload_n 0, 1) := by decide +kernel
theorem dX11_join_103 : decode cX11_join 103 = .ok (.getfield 16, 3) := by decide +kernel
theorem dX11_join_106 : decode cX11_join 106 = .ok (.aload 6, 2) := by decide +kernel
theorem dX11_join_108 : decode cX11_join 108 = .ok (.invokevirtual 92, 3) := by decide +kernel
theorem dX11_join_111 : decode cX11_join 111 = .ok (.ireturn, 1) := by decide +kernel
theorem dX11_nodes_0 : decode cX11_nodes 0 = .ok (.aload_n 0, 1) := by decide +kernel
theorem dX11_nodes_1 : decode cX11_nodes 1 = .ok (.getfield 16, 3) := by decide +kernel
theorem dX11_nodes_4 : decode cX11_nodes 4 = .ok (.invokevirtual 186, 3) := by decide +kernel
theorem dX11_nodes_7 : decode cX11_nodes 7 = .ok (.ireturn, 1) := by decide +kernel
theorem dX11_partitions_0 : decode cX11_partitions 0 = .ok (.aload_n 0, 1) := by decide +kernel
theorem dX11_partitions_1 : decode cX11_partitions 1 = .ok (.iload_n 1, 1) := by decide +kernel
theorem dX11_partitions_2 : decode cX11_partitions 2 = .ok (.invokevirtual 96, 3) := by decide +kernel
theorem dX11_partitions_5 : decode cX11_partitions 5 = .ok (.aload_n 0, 1) := by decide +kernel
theorem dX11_partitions_6 : decode cX11_partitions 6 = .ok (.getfield 25, 3) := by decide +kernel
theorem dX11_partitions_9 : decode cX11_partitions 9 = .ok (.iload_n 1, 1) := by decide +kernel
theorem dX11_partitions_10 : decode cX11_partitions 10 = .ok (.invokevirtual 187, 3) := by decide +kernel
theorem dX11_partitions_13 : decode cX11_partitions 13 = .ok (.invokevirtual 191, 3) := by decide +kernel
theorem dX11_partitions_16 : decode cX11_partitions 16 = .ok (.ireturn, 1) := by decide +kernel
theorem dX11_rowsIn_0 : decode cX11_rowsIn 0 = .ok (.aload_n 0, 1) := by decide +kernel
theorem dX11_rowsIn_1 : decode cX11_rowsIn 1 = .ok (.iload_n 1, 1) := by decide +kernel
theorem dX11_rowsIn_2 : decode cX11_rowsIn 2 = .ok (.invokevirtual 96, 3) := by decide +kernel
theorem dX11_rowsIn_5 : decode cX11_rowsIn 5 = .ok (.aload_n 0, 1) := by decide +kernel
theorem dX11_rowsIn_6 : decode cX11_rowsIn 6 = .ok (.getfield 25, 3) := by decide +kernel
theorem dX11_rowsIn_9 : decode cX11_rowsIn 9 = .ok (.iload_n 1, 1) := by decide +kernel
theorem dX11_rowsIn_10 : decode cX11_rowsIn 10 = .ok (.invokevirtual 187, 3) := by decide +kernel
theorem dX11_rowsIn_13 : decode cX11_rowsIn 13 = .ok (.astore_n 3, 1) := by decide +kernel
theorem dX11_rowsIn_14 : decode cX11_rowsIn 14 = .ok (.aload_n 3, 1) := by decide +kernel
theorem dX11_rowsIn_15 : decode cX11_rowsIn 15 = .ok (.iload_n 2, 1) := by decide +kernel
theorem dX11_rowsIn_16 : decode cX11_rowsIn 16 = .ok (.invokestatic 194, 3) := by decide +kernel
theorem dX11_rowsIn_19 : decode cX11_rowsIn 19 = .ok (.aload_n 3, 1) := by decide +kernel
theorem dX11_rowsIn_20 : decode cX11_rowsIn 20 = .ok (.iload_n 2, 1) := by decide +kernel
theorem dX11_rowsIn_21 : decode cX11_rowsIn 21 = .ok (.invokevirtual 198, 3) := by decide +kernel
theorem dX11_rowsIn_24 : decode cX11_rowsIn 24 = .ok (.ireturn, 1) := by decide +kernel
theorem dX11_rows_0 : decode cX11_rows 0 = .ok (.aload_n 0, 1) := by decide +kernel
theorem dX11_rows_1 : decode cX11_rows 1 = .ok (.iload_n 1, 1) := by decide +kernel
theorem dX11_rows_2 : decode cX11_rows 2 = .ok (.invokevirtual 96, 3) := by decide +kernel
theorem dX11_rows_5 : decode cX11_rows 5 = .ok (.aload_n 0, 1) := by decide +kernel
theorem dX11_rows_6 : decode cX11_rows 6 = .ok (.getfield 25, 3) := by decide +kernel
theorem dX11_rows_9 : decode cX11_rows 9 = .ok (.iload_n 1, 1) := by decide +kernel
theorem dX11_rows_10 : decode cX11_rows 10 = .ok (.invokevirtual 187, 3) := by decide +kernel
theorem dX11_rows_13 : decode cX11_rows 13 = .ok (.invokevirtual 110, 3) := by decide +kernel
theorem dX11_rows_16 : decode cX11_rows 16 = .ok (.ireturn, 1) := by decide +kernel
theorem dX11_keyAt_0 : decode cX11_keyAt 0 = .ok (.aload_n 0, 1) := by decide +kernel
theorem dX11_keyAt_1 : decode cX11_keyAt 1 = .ok (.iload_n 1, 1) := by decide +kernel
theorem dX11_keyAt_2 : decode cX11_keyAt 2 = .ok (.invokevirtual 96, 3) := by decide +kernel
theorem dX11_keyAt_5 : decode cX11_keyAt 5 = .ok (.aload_n 0, 1) := by decide +kernel
theorem dX11_keyAt_6 : decode cX11_keyAt 6 = .ok (.getfield 25, 3) := by decide +kernel
theorem dX11_keyAt_9 : decode cX11_keyAt 9 = .ok (.iload_n 1, 1) := by decide +kernel
theorem dX11_keyAt_10 : decode cX11_keyAt 10 = .ok (.invokevirtual 187, 3) := by decide +kernel
theorem dX11_keyAt_13 : decode cX11_keyAt 13 = .ok (.astore 4, 2) := by decide +kernel
theorem dX11_keyAt_15 : decode cX11_keyAt 15 = .ok (.aload 4, 2) := by decide +kernel
theorem dX11_keyAt_17 : decode cX11_keyAt 17 = .ok (.iload_n 2, 1) := by decide +kernel
theorem dX11_keyAt_18 : decode cX11_keyAt 18 = .ok (.iload_n 3, 1) := by decide +kernel
theorem dX11_keyAt_19 : decode cX11_keyAt 19 = .ok (.invokestatic 202, 3) := by decide +kernel
theorem dX11_keyAt_22 : decode cX11_keyAt 22 = .ok (.aload 4, 2) := by decide +kernel
theorem dX11_keyAt_24 : decode cX11_keyAt 24 = .ok (.aload 4, 2) := by decide +kernel
theorem dX11_keyAt_26 : decode cX11_keyAt 26 = .ok (.iload_n 2, 1) := by decide +kernel
theorem dX11_keyAt_27 : decode cX11_keyAt 27 = .ok (.invokevirtual 206, 3) := by decide +kernel
theorem dX11_keyAt_30 : decode cX11_keyAt 30 = .ok (.iload_n 3, 1) := by decide +kernel
theorem dX11_keyAt_31 : decode cX11_keyAt 31 = .ok (.iadd, 1) := by decide +kernel
theorem dX11_keyAt_32 : decode cX11_keyAt 32 = .ok (.invokevirtual 209, 3) := by decide +kernel
theorem dX11_keyAt_35 : decode cX11_keyAt 35 = .ok (.ireturn, 1) := by decide +kernel
theorem dX11_valueAt_0 : decode cX11_valueAt 0 = .ok (.aload_n 0, 1) := by decide +kernel
theorem dX11_valueAt_1 : decode cX11_valueAt 1 = .ok (.iload_n 1, 1) := by decide +kernel
theorem dX11_valueAt_2 : decode cX11_valueAt 2 = .ok (.invokevirtual 96, 3) := by decide +kernel
theorem dX11_valueAt_5 : decode cX11_valueAt 5 = .ok (.aload_n 0, 1) := by decide +kernel
theorem dX11_valueAt_6 : decode cX11_valueAt 6 = .ok (.getfield 25, 3) := by decide +kernel
theorem dX11_valueAt_9 : decode cX11_valueAt 9 = .ok (.iload_n 1, 1) := by decide +kernel
theorem dX11_valueAt_10 : decode cX11_valueAt 10 = .ok (.invokevirtual 187, 3) := by decide +kernel
theorem dX11_valueAt_13 : decode cX11_valueAt 13 = .ok (.astore 4, 2) := by decide +kernel
theorem dX11_valueAt_15 : decode cX11_valueAt 15 = .ok (.aload 4, 2) := by decide +kernel
theorem dX11_valueAt_17 : decode cX11_valueAt 17 = .ok (.iload_n 2, 1) := by decide +kernel
theorem dX11_valueAt_18 : decode cX11_valueAt 18 = .ok (.iload_n 3, 1) := by decide +kernel
theorem dX11_valueAt_19 : decode cX11_valueAt 19 = .ok (.invokestatic 202, 3) := by decide +kernel
theorem dX11_valueAt_22 : decode cX11_valueAt 22 = .ok (.aload 4, 2) := by decide +kernel
theorem dX11_valueAt_24 : decode cX11_valueAt 24 = .ok (.aload 4, 2) := by decide +kernel
theorem dX11_valueAt_26 : decode cX11_valueAt 26 = .ok (.iload_n 2, 1) := by decide +kernel
theorem dX11_valueAt_27 : decode cX11_valueAt 27 = .ok (.invokevirtual 206, 3) := by decide +kernel
theorem dX11_valueAt_30 : decode cX11_valueAt 30 = .ok (.iload_n 3, 1) := by decide +kernel
theorem dX11_valueAt_31 : decode cX11_valueAt 31 = .ok (.iadd, 1) := by decide +kernel
theorem dX11_valueAt_32 : decode cX11_valueAt 32 = .ok (.invokevirtual 212, 3) := by decide +kernel
theorem dX11_valueAt_35 : decode cX11_valueAt 35 = .ok (.ireturn, 1) := by decide +kernel
theorem dX11_isBroad_0 : decode cX11_isBroad 0 = .ok (.aload_n 0, 1) := by decide +kernel
theorem dX11_isBroad_1 : decode cX11_isBroad 1 = .ok (.iload_n 1, 1) := by decide +kernel
theorem dX11_isBroad_2 : decode cX11_isBroad 2 = .ok (.invokevirtual 96, 3) := by decide +kernel
theorem dX11_isBroad_5 : decode cX11_isBroad 5 = .ok (.aload_n 0, 1) := by decide +kernel
theorem dX11_isBroad_6 : decode cX11_isBroad 6 = .ok (.getfield 16, 3) := by decide +kernel
theorem dX11_isBroad_9 : decode cX11_isBroad 9 = .ok (.iload_n 1, 1) := by decide +kernel
theorem dX11_isBroad_10 : decode cX11_isBroad 10 = .ok (.invokevirtual 99, 3) := by decide +kernel
theorem dX11_isBroad_13 : decode cX11_isBroad 13 = .ok (.getfield 103, 3) := by decide +kernel
theorem dX11_isBroad_16 : decode cX11_isBroad 16 = .ok (.getstatic 183, 3) := by decide +kernel
theorem dX11_isBroad_19 : decode cX11_isBroad 19 = .ok (.if_acmp .eq 13, 3) := by decide +kernel
theorem dX11_isBroad_22 : decode cX11_isBroad 22 = .ok (.new 116, 3) := by decide +kernel
theorem dX11_isBroad_25 : decode cX11_isBroad 25 = .ok (.dup, 1) := by decide +kernel
theorem dX11_isBroad_26 : decode cX11_isBroad 26 = .ok (.ldc 215, 2) := by decide +kernel
theorem dX11_isBroad_28 : decode cX11_isBroad 28 = .ok (.invokespecial 120, 3) := by decide +kernel
theorem dX11_isBroad_31 : decode cX11_isBroad 31 = .ok (.athrow, 1) := by decide +kernel
theorem dX11_isBroad_32 : decode cX11_isBroad 32 = .ok (.aload_n 0, 1) := by decide +kernel
theorem dX11_isBroad_33 : decode cX11_isBroad 33 = .ok (.getfield 25, 3) := by decide +kernel
theorem dX11_isBroad_36 : decode cX11_isBroad 36 = .ok (.iload_n 1, 1) := by decide +kernel
theorem dX11_isBroad_37 : decode cX11_isBroad 37 = .ok (.invokevirtual 187, 3) := by decide +kernel
theorem dX11_isBroad_40 : decode cX11_isBroad 40 = .ok (.pop, 1) := by decide +kernel
theorem dX11_isBroad_41 : decode cX11_isBroad 41 = .ok (.aload_n 0, 1) := by decide +kernel
theorem dX11_isBroad_42 : decode cX11_isBroad 42 = .ok (.getfield 25, 3) := by decide +kernel
theorem dX11_isBroad_45 : decode cX11_isBroad 45 = .ok (.iload_n 1, 1) := by decide +kernel
theorem dX11_isBroad_46 : decode cX11_isBroad 46 = .ok (.invokevirtual 217, 3) := by decide +kernel
theorem dX11_isBroad_49 : decode cX11_isBroad 49 = .ok (.ireturn, 1) := by decide +kernel
theorem dX11_digest_0 : decode cX11_digest 0 = .ok (.aload_n 0, 1) := by decide +kernel
theorem dX11_digest_1 : decode cX11_digest 1 = .ok (.iload_n 1, 1) := by decide +kernel
theorem dX11_digest_2 : decode cX11_digest 2 = .ok (.invokevirtual 96, 3) := by decide +kernel
theorem dX11_digest_5 : decode cX11_digest 5 = .ok (.aload_n 0, 1) := by decide +kernel
theorem dX11_digest_6 : decode cX11_digest 6 = .ok (.getfield 25, 3) := by decide +kernel
theorem dX11_digest_9 : decode cX11_digest 9 = .ok (.iload_n 1, 1) := by decide +kernel
theorem dX11_digest_10 : decode cX11_digest 10 = .ok (.invokevirtual 187, 3) := by decide +kernel
theorem dX11_digest_13 : decode cX11_digest 13 = .ok (.invokevirtual 221, 3) := by decide +kernel
theorem dX11_digest_16 : decode cX11_digest 16 = .ok (.ireturn, 1) := by decide +kernel
theorem dX11_digestInPlace_0 : decode cX11_digestInPlace 0 = .ok (.aload_n 0, 1) := by decide +kernel
theorem dX11_digestInPlace_1 : decode cX11_digestInPlace 1 = .ok (.iload_n 1, 1) := by decide +kernel
theorem dX11_digestInPlace_2 : decode cX11_digestInPlace 2 = .ok (.invokevirtual 96, 3) := by decide +kernel
theorem dX11_digestInPlace_5 : decode cX11_digestInPlace 5 = .ok (.aload_n 0, 1) := by decide +kernel
theorem dX11_digestInPlace_6 : decode cX11_digestInPlace 6 = .ok (.getfield 29, 3) := by decide +kernel
theorem dX11_digestInPlace_9 : decode cX11_digestInPlace 9 = .ok (.iload_n 1, 1) := by decide +kernel
theorem dX11_digestInPlace_10 : decode cX11_digestInPlace 10 = .ok (.invokevirtual 187, 3) := by decide +kernel
theorem dX11_digestInPlace_13 : decode cX11_digestInPlace 13 = .ok (.invokevirtual 221, 3) := by decide +kernel
theorem dX11_digestInPlace_16 : decode cX11_digestInPlace 16 = .ok (.ireturn, 1) := by decide +kernel
theorem dX11_setWorkers_0 : decode cX11_setWorkers 0 = .ok (.iload_n 1, 1) := by decide +kernel
theorem dX11_setWorkers_1 : decode cX11_setWorkers 1 = .ok (.iconst 1, 1) := by decide +kernel
theorem dX11_setWorkers_2 : decode cX11_setWorkers 2 = .ok (.if_icmp .lt 8, 3) := by decide +kernel
theorem dX11_setWorkers_5 : decode cX11_setWorkers 5 = .ok (.iload_n 1, 1) := by decide +kernel
theorem dX11_setWorkers_6 : decode cX11_setWorkers 6 = .ok (.iconst 4, 1) := by decide +kernel
theorem dX11_setWorkers_7 : decode cX11_setWorkers 7 = .ok (.if_icmp .le 13, 3) := by decide +kernel
theorem dX11_setWorkers_10 : decode cX11_setWorkers 10 = .ok (.new 132, 3) := by decide +kernel
theorem dX11_setWorkers_13 : decode cX11_setWorkers 13 = .ok (.dup, 1) := by decide +kernel
theorem dX11_setWorkers_14 : decode cX11_setWorkers 14 = .ok (.ldc 224, 2) := by decide +kernel
theorem dX11_setWorkers_16 : decode cX11_setWorkers 16 = .ok (.invokespecial 136, 3) := by decide +kernel
theorem dX11_setWorkers_19 : decode cX11_setWorkers 19 = .ok (.athrow, 1) := by decide +kernel
theorem dX11_setWorkers_20 : decode cX11_setWorkers 20 = .ok (.aload_n 0, 1) := by decide +kernel
theorem dX11_setWorkers_21 : decode cX11_setWorkers 21 = .ok (.getfield 67, 3) := by decide +kernel
theorem dX11_setWorkers_24 : decode cX11_setWorkers 24 = .ok (.getfield 226, 3) := by decide +kernel
theorem dX11_setWorkers_27 : decode cX11_setWorkers 27 = .ok (.istore_n 2, 1) := by decide +kernel
theorem dX11_setWorkers_28 : decode cX11_setWorkers 28 = .ok (.aload_n 0, 1) := by decide +kernel
theorem dX11_setWorkers_29 : decode cX11_setWorkers 29 = .ok (.getfield 67, 3) := by decide +kernel
theorem dX11_setWorkers_32 : decode cX11_setWorkers 32 = .ok (.iload_n 1, 1) := by decide +kernel
theorem dX11_setWorkers_33 : decode cX11_setWorkers 33 = .ok (.putfield 226, 3) := by decide +kernel
theorem dX11_setWorkers_36 : decode cX11_setWorkers 36 = .ok (.iload_n 2, 1) := by decide +kernel
theorem dX11_setWorkers_37 : decode cX11_setWorkers 37 = .ok (.ireturn, 1) := by decide +kernel
theorem dX11_setSlowness_0 : decode cX11_setSlowness 0 = .ok (.iload_n 1, 1) := by decide +kernel
theorem dX11_setSlowness_1 : decode cX11_setSlowness 1 = .ok (.ifCond .lt 8, 3) := by decide +kernel
theorem dX11_setSlowness_4 : decode cX11_setSlowness 4 = .ok (.iload_n 1, 1) := by decide +kernel
theorem dX11_setSlowness_5 : decode cX11_setSlowness 5 = .ok (.iconst 4, 1) := by decide +kernel
theorem dX11_setSlowness_6 : decode cX11_setSlowness 6 = .ok (.if_icmp .lt 13, 3) := by decide +kernel
theorem dX11_setSlowness_9 : decode cX11_setSlowness 9 = .ok (.new 228, 3) := by decide +kernel
theorem dX11_setSlowness_12 : decode cX11_setSlowness 12 = .ok (.dup, 1) := by decide +kernel
theorem dX11_setSlowness_13 : decode cX11_setSlowness 13 = .ok (.ldc 230, 2) := by decide +kernel
theorem dX11_setSlowness_15 : decode cX11_setSlowness 15 = .ok (.invokespecial 232, 3) := by decide +kernel
theorem dX11_setSlowness_18 : decode cX11_setSlowness 18 = .ok (.athrow, 1) := by decide +kernel
theorem dX11_setSlowness_19 : decode cX11_setSlowness 19 = .ok (.iload_n 2, 1) := by decide +kernel
theorem dX11_setSlowness_20 : decode cX11_setSlowness 20 = .ok (.iconst 1, 1) := by decide +kernel
theorem dX11_setSlowness_21 : decode cX11_setSlowness 21 = .ok (.if_icmp .lt 9, 3) := by decide +kernel
theorem dX11_setSlowness_24 : decode cX11_setSlowness 24 = .ok (.iload_n 2, 1) := by decide +kernel
theorem dX11_setSlowness_25 : decode cX11_setSlowness 25 = .ok (.bipush 9, 2) := by decide +kernel
theorem dX11_setSlowness_27 : decode cX11_setSlowness 27 = .ok (.if_icmp .le 13, 3) := by decide +kernel
theorem dX11_setSlowness_30 : decode cX11_setSlowness 30 = .ok (.new 132, 3) := by decide +kernel
theorem dX11_setSlowness_33 : decode cX11_setSlowness 33 = .ok (.dup, 1) := by decide +kernel
theorem dX11_setSlowness_34 : decode cX11_setSlowness 34 = .ok (.ldc 233, 2) := by decide +kernel
theorem dX11_setSlowness_36 : decode cX11_setSlowness 36 = .ok (.invokespecial 136, 3) := by decide +kernel
theorem dX11_setSlowness_39 : decode cX11_setSlowness 39 = .ok (.athrow, 1) := by decide +kernel
theorem dX11_setSlowness_40 : decode cX11_setSlowness 40 = .ok (.aload_n 0, 1) := by decide +kernel
theorem dX11_setSlowness_41 : decode cX11_setSlowness 41 = .ok (.getfield 67, 3) := by decide +kernel
theorem dX11_setSlowness_44 : decode cX11_setSlowness 44 = .ok (.getfield 235, 3) := by decide +kernel
theorem dX11_setSlowness_47 : decode cX11_setSlowness 47 = .ok (.iload_n 1, 1) := by decide +kernel
theorem dX11_setSlowness_48 : decode cX11_setSlowness 48 = .ok (.invokevirtual 239, 3) := by decide +kernel
theorem dX11_setSlowness_51 : decode cX11_setSlowness 51 = .ok (.istore_n 3, 1) := by decide +kernel
theorem dX11_setSlowness_52 : decode cX11_setSlowness 52 = .ok (.aload_n 0, 1) := by decide +kernel
theorem dX11_setSlowness_53 : decode cX11_setSlowness 53 = .ok (.getfield 67, 3) := by decide +kernel
theorem dX11_setSlowness_56 : decode cX11_setSlowness 56 = .ok (.getfield 235, 3) := by decide +kernel
theorem dX11_setSlowness_59 : decode cX11_setSlowness 59 = .ok (.iload_n 1, 1) := by decide +kernel
theorem dX11_setSlowness_60 : decode cX11_setSlowness 60 = .ok (.iload_n 2, 1) := by decide +kernel
theorem dX11_setSlowness_61 : decode cX11_setSlowness 61 = .ok (.invokevirtual 243, 3) := by decide +kernel
theorem dX11_setSlowness_64 : decode cX11_setSlowness 64 = .ok (.iload_n 3, 1) := by decide +kernel
theorem dX11_setSlowness_65 : decode cX11_setSlowness 65 = .ok (.ireturn, 1) := by decide +kernel
theorem dX11_setMemory_0 : decode cX11_setMemory 0 = .ok (.iload_n 1, 1) := by decide +kernel
theorem dX11_setMemory_1 : decode cX11_setMemory 1 = .ok (.invokestatic 246, 3) := by decide +kernel
theorem dX11_setMemory_4 : decode cX11_setMemory 4 = .ok (.aload_n 0, 1) := by decide +kernel
theorem dX11_setMemory_5 : decode cX11_setMemory 5 = .ok (.getfield 9, 3) := by decide +kernel
theorem dX11_setMemory_8 : decode cX11_setMemory 8 = .ok (.istore_n 2, 1) := by decide +kernel
theorem dX11_setMemory_9 : decode cX11_setMemory 9 = .ok (.aload_n 0, 1) := by decide +kernel
theorem dX11_setMemory_10 : decode cX11_setMemory 10 = .ok (.iload_n 1, 1) := by decide +kernel
theorem dX11_setMemory_11 : decode cX11_setMemory 11 = .ok (.putfield 9, 3) := by decide +kernel
theorem dX11_setMemory_14 : decode cX11_setMemory 14 = .ok (.iload_n 2, 1) := by decide +kernel
theorem dX11_setMemory_15 : decode cX11_setMemory 15 = .ok (.ireturn, 1) := by decide +kernel
theorem dX11_setLimit_0 : decode cX11_setLimit 0 = .ok (.iload_n 1, 1) := by decide +kernel
theorem dX11_setLimit_1 : decode cX11_setLimit 1 = .ok (.invokestatic 246, 3) := by decide +kernel
theorem dX11_setLimit_4 : decode cX11_setLimit 4 = .ok (.aload_n 0, 1) := by decide +kernel
theorem dX11_setLimit_5 : decode cX11_setLimit 5 = .ok (.getfield 16, 3) := by decide +kernel
theorem dX11_setLimit_8 : decode cX11_setLimit 8 = .ok (.getfield 249, 3) := by decide +kernel
theorem dX11_setLimit_11 : decode cX11_setLimit 11 = .ok (.istore_n 2, 1) := by decide +kernel
theorem dX11_setLimit_12 : decode cX11_setLimit 12 = .ok (.aload_n 0, 1) := by decide +kernel
theorem dX11_setLimit_13 : decode cX11_setLimit 13 = .ok (.getfield 16, 3) := by decide +kernel
theorem dX11_setLimit_16 : decode cX11_setLimit 16 = .ok (.iload_n 1, 1) := by decide +kernel
theorem dX11_setLimit_17 : decode cX11_setLimit 17 = .ok (.putfield 249, 3) := by decide +kernel
theorem dX11_setLimit_20 : decode cX11_setLimit 20 = .ok (.aload_n 0, 1) := by decide +kernel
theorem dX11_setLimit_21 : decode cX11_setLimit 21 = .ok (.getfield 25, 3) := by decide +kernel
theorem dX11_setLimit_24 : decode cX11_setLimit 24 = .ok (.invokevirtual 252, 3) := by decide +kernel
theorem dX11_setLimit_27 : decode cX11_setLimit 27 = .ok (.aload_n 0, 1) := by decide +kernel
theorem dX11_setLimit_28 : decode cX11_setLimit 28 = .ok (.getfield 35, 3) := by decide +kernel
theorem dX11_setLimit_31 : decode cX11_setLimit 31 = .ok (.invokevirtual 129, 3) := by decide +kernel
theorem dX11_setLimit_34 : decode cX11_setLimit 34 = .ok (.iload_n 2, 1) := by decide +kernel
theorem dX11_setLimit_35 : decode cX11_setLimit 35 = .ok (.ireturn, 1) := by decide +kernel
theorem dX11_setRoom_0 : decode cX11_setRoom 0 = .ok (.iload_n 1, 1) := by decide +kernel
theorem dX11_setRoom_1 : decode cX11_setRoom 1 = .ok (.invokestatic 246, 3) := by decide +kernel
theorem dX11_setRoom_4 : decode cX11_setRoom 4 = .ok (.aload_n 0, 1) := by decide +kernel
theorem dX11_setRoom_5 : decode cX11_setRoom 5 = .ok (.getfield 35, 3) := by decide +kernel
theorem dX11_setRoom_8 : decode cX11_setRoom 8 = .ok (.iload_n 1, 1) := by decide +kernel
theorem dX11_setRoom_9 : decode cX11_setRoom 9 = .ok (.putfield 255, 3) := by decide +kernel
theorem dX11_setRoom_12 : decode cX11_setRoom 12 = .ok (.aload_n 0, 1) := by decide +kernel
theorem dX11_setRoom_13 : decode cX11_setRoom 13 = .ok (.getfield 35, 3) := by decide +kernel
theorem dX11_setRoom_16 : decode cX11_setRoom 16 = .ok (.iconst 0, 1) := by decide +kernel
theorem dX11_setRoom_17 : decode cX11_setRoom 17 = .ok (.invokevirtual 258, 3) := by decide +kernel
theorem dX11_setRoom_20 : decode cX11_setRoom 20 = .ok (.ireturn, 1) := by decide +kernel
theorem dX11_mark_0 : decode cX11_mark 0 = .ok (.aload_n 0, 1) := by decide +kernel
theorem dX11_mark_1 : decode cX11_mark 1 = .ok (.iload_n 1, 1) := by decide +kernel
theorem dX11_mark_2 : decode cX11_mark 2 = .ok (.invokevirtual 96, 3) := by decide +kernel
theorem dX11_mark_5 : decode cX11_mark 5 = .ok (.aload_n 0, 1) := by decide +kernel
theorem dX11_mark_6 : decode cX11_mark 6 = .ok (.getfield 16, 3) := by decide +kernel
theorem dX11_mark_9 : decode cX11_mark 9 = .ok (.iload_n 1, 1) := by decide +kernel
theorem dX11_mark_10 : decode cX11_mark 10 = .ok (.invokevirtual 99, 3) := by decide +kernel
theorem dX11_mark_13 : decode cX11_mark 13 = .ok (.getfield 261, 3) := by decide +kernel
theorem dX11_mark_16 : decode cX11_mark 16 = .ok (.istore_n 3, 1) := by decide +kernel
theorem dX11_mark_17 : decode cX11_mark 17 = .ok (.aload_n 0, 1) := by decide +kernel
theorem dX11_mark_18 : decode cX11_mark 18 = .ok (.getfield 16, 3) := by decide +kernel
theorem dX11_mark_21 : decode cX11_mark 21 = .ok (.iload_n 1, 1) := by decide +kernel
theorem dX11_mark_22 : decode cX11_mark 22 = .ok (.invokevirtual 99, 3) := by decide +kernel
theorem dX11_mark_25 : decode cX11_mark 25 = .ok (.iload_n 2, 1) := by decide +kernel
theorem dX11_mark_26 : decode cX11_mark 26 = .ok (.putfield 261, 3) := by decide +kernel
theorem dX11_mark_29 : decode cX11_mark 29 = .ok (.iload_n 3, 1) := by decide +kernel
theorem dX11_mark_30 : decode cX11_mark 30 = .ok (.ireturn, 1) := by decide +kernel
theorem dX11_isCached_0 : decode cX11_isCached 0 = .ok (.aload_n 0, 1) := by decide +kernel
theorem dX11_isCached_1 : decode cX11_isCached 1 = .ok (.iload_n 1, 1) := by decide +kernel
theorem dX11_isCached_2 : decode cX11_isCached 2 = .ok (.invokevirtual 96, 3) := by decide +kernel
theorem dX11_isCached_5 : decode cX11_isCached 5 = .ok (.aload_n 0, 1) := by decide +kernel
theorem dX11_isCached_6 : decode cX11_isCached 6 = .ok (.getfield 35, 3) := by decide +kernel
theorem dX11_isCached_9 : decode cX11_isCached 9 = .ok (.iload_n 1, 1) := by decide +kernel
theorem dX11_isCached_10 : decode cX11_isCached 10 = .ok (.invokevirtual 265, 3) := by decide +kernel
theorem dX11_isCached_13 : decode cX11_isCached 13 = .ok (.ireturn, 1) := by decide +kernel
theorem dX11_stages_0 : decode cX11_stages 0 = .ok (.aload_n 0, 1) := by decide +kernel
theorem dX11_stages_1 : decode cX11_stages 1 = .ok (.iload_n 1, 1) := by decide +kernel
theorem dX11_stages_2 : decode cX11_stages 2 = .ok (.invokevirtual 96, 3) := by decide +kernel
theorem dX11_stages_5 : decode cX11_stages 5 = .ok (.aload_n 0, 1) := by decide +kernel
theorem dX11_stages_6 : decode cX11_stages 6 = .ok (.getfield 25, 3) := by decide +kernel
theorem dX11_stages_9 : decode cX11_stages 9 = .ok (.iload_n 1, 1) := by decide +kernel
theorem dX11_stages_10 : decode cX11_stages 10 = .ok (.invokevirtual 187, 3) := by decide +kernel
theorem dX11_stages_13 : decode cX11_stages 13 = .ok (.pop, 1) := by decide +kernel
theorem dX11_stages_14 : decode cX11_stages 14 = .ok (.aload_n 0, 1) := by decide +kernel
theorem dX11_stages_15 : decode cX11_stages 15 = .ok (.getfield 44, 3) := by decide +kernel
theorem dX11_stages_18 : decode cX11_stages 18 = .ok (.iload_n 1, 1) := by decide +kernel
theorem dX11_stages_19 : decode cX11_stages 19 = .ok (.invokevirtual 268, 3) := by decide +kernel
theorem dX11_stages_22 : decode cX11_stages 22 = .ok (.aload_n 0, 1) := by decide +kernel
theorem dX11_stages_23 : decode cX11_stages 23 = .ok (.getfield 44, 3) := by decide +kernel
theorem dX11_stages_26 : decode cX11_stages 26 = .ok (.invokevirtual 271, 3) := by decide +kernel
theorem dX11_stages_29 : decode cX11_stages 29 = .ok (.ireturn, 1) := by decide +kernel
theorem dX11_outputOf_0 : decode cX11_outputOf 0 = .ok (.aload_n 0, 1) := by decide +kernel
theorem dX11_outputOf_1 : decode cX11_outputOf 1 = .ok (.iload_n 1, 1) := by decide +kernel
theorem dX11_outputOf_2 : decode cX11_outputOf 2 = .ok (.invokevirtual 96, 3) := by decide +kernel
theorem dX11_outputOf_5 : decode cX11_outputOf 5 = .ok (.aload_n 0, 1) := by decide +kernel
theorem dX11_outputOf_6 : decode cX11_outputOf 6 = .ok (.getfield 25, 3) := by decide +kernel
theorem dX11_outputOf_9 : decode cX11_outputOf 9 = .ok (.iload_n 1, 1) := by decide +kernel
theorem dX11_outputOf_10 : decode cX11_outputOf 10 = .ok (.invokevirtual 187, 3) := by decide +kernel
theorem dX11_outputOf_13 : decode cX11_outputOf 13 = .ok (.pop, 1) := by decide +kernel
theorem dX11_outputOf_14 : decode cX11_outputOf 14 = .ok (.aload_n 0, 1) := by decide +kernel
theorem dX11_outputOf_15 : decode cX11_outputOf 15 = .ok (.getfield 44, 3) := by decide +kernel
theorem dX11_outputOf_18 : decode cX11_outputOf 18 = .ok (.iload_n 1, 1) := by decide +kernel
theorem dX11_outputOf_19 : decode cX11_outputOf 19 = .ok (.invokevirtual 268, 3) := by decide +kernel
theorem dX11_outputOf_22 : decode cX11_outputOf 22 = .ok (.iload_n 2, 1) := by decide +kernel
theorem dX11_outputOf_23 : decode cX11_outputOf 23 = .ok (.ifCond .lt 14, 3) := by decide +kernel
theorem dX11_outputOf_26 : decode cX11_outputOf 26 = .ok (.iload_n 2, 1) := by decide +kernel
theorem dX11_outputOf_27 : decode cX11_outputOf 27 = .ok (.aload_n 0, 1) := by decide +kernel
theorem dX11_outputOf_28 : decode cX11_outputOf 28 = .ok (.getfield 44, 3) := by decide +kernel
theorem dX11_outputOf_31 : decode cX11_outputOf 31 = .ok (.invokevirtual 271, 3) := by decide +kernel
theorem dX11_outputOf_34 : decode cX11_outputOf 34 = .ok (.if_icmp .lt 14, 3) := by decide +kernel
theorem dX11_outputOf_37 : decode cX11_outputOf 37 = .ok (.new 228, 3) := by decide +kernel
theorem dX11_outputOf_40 : decode cX11_outputOf 40 = .ok (.dup, 1) := by decide +kernel
theorem dX11_outputOf_41 : decode cX11_outputOf 41 = .ok (.ldc_w 274, 3) := by decide +kernel
theorem dX11_outputOf_44 : decode cX11_outputOf 44 = .ok (.invokespecial 232, 3) := by decide +kernel
theorem dX11_outputOf_47 : decode cX11_outputOf 47 = .ok (.athrow, 1) := by decide +kernel
theorem dX11_outputOf_48 : decode cX11_outputOf 48 = .ok (.aload_n 0, 1) := by decide +kernel
theorem dX11_outputOf_49 : decode cX11_outputOf 49 = .ok (.getfield 44, 3) := by decide +kernel
theorem dX11_outputOf_52 : decode cX11_outputOf 52 = .ok (.iload_n 2, 1) := by decide +kernel
theorem dX11_outputOf_53 : decode cX11_outputOf 53 = .ok (.invokevirtual 276, 3) := by decide +kernel
theorem dX11_outputOf_56 : decode cX11_outputOf 56 = .ok (.ireturn, 1) := by decide +kernel
theorem dX11_run_0 : decode cX11_run 0 = .ok (.aload_n 0, 1) := by decide +kernel
theorem dX11_run_1 : decode cX11_run 1 = .ok (.iload_n 1, 1) := by decide +kernel
theorem dX11_run_2 : decode cX11_run 2 = .ok (.invokevirtual 96, 3) := by decide +kernel
theorem dX11_run_5 : decode cX11_run 5 = .ok (.aload_n 0, 1) := by decide +kernel
theorem dX11_run_6 : decode cX11_run 6 = .ok (.getfield 25, 3) := by decide +kernel
theorem dX11_run_9 : decode cX11_run 9 = .ok (.iload_n 1, 1) := by decide +kernel
theorem dX11_run_10 : decode cX11_run 10 = .ok (.invokevirtual 187, 3) := by decide +kernel
theorem dX11_run_13 : decode cX11_run 13 = .ok (.pop, 1) := by decide +kernel
theorem dX11_run_14 : decode cX11_run 14 = .ok (.aload_n 0, 1) := by decide +kernel
theorem dX11_run_15 : decode cX11_run 15 = .ok (.getfield 44, 3) := by decide +kernel
theorem dX11_run_18 : decode cX11_run 18 = .ok (.iload_n 1, 1) := by decide +kernel
theorem dX11_run_19 : decode cX11_run 19 = .ok (.invokevirtual 268, 3) := by decide +kernel
theorem dX11_run_22 : decode cX11_run 22 = .ok (.aload_n 0, 1) := by decide +kernel
theorem dX11_run_23 : decode cX11_run 23 = .ok (.getfield 58, 3) := by decide +kernel
theorem dX11_run_26 : decode cX11_run 26 = .ok (.aload_n 0, 1) := by decide +kernel
theorem dX11_run_27 : decode cX11_run 27 = .ok (.getfield 67, 3) := by decide +kernel
theorem dX11_run_30 : decode cX11_run 30 = .ok (.getfield 226, 3) := by decide +kernel
theorem dX11_run_33 : decode cX11_run 33 = .ok (.invokevirtual 279, 3) := by decide +kernel
theorem dX11_run_36 : decode cX11_run 36 = .ok (.iconst 0, 1) := by decide +kernel
theorem dX11_run_37 : decode cX11_run 37 = .ok (.istore_n 2, 1) := by decide +kernel
theorem dX11_run_38 : decode cX11_run 38 = .ok (.iconst 0, 1) := by decide +kernel
theorem dX11_run_39 : decode cX11_run 39 = .ok (.istore_n 3, 1) := by decide +kernel
theorem dX11_run_40 : decode cX11_run 40 = .ok (.iload_n 3, 1) := by decide +kernel
theorem dX11_run_41 : decode cX11_run 41 = .ok (.bipush 14, 2) := by decide +kernel
theorem dX11_run_43 : decode cX11_run 43 = .ok (.if_icmp .ge 41, 3) := by decide +kernel
theorem dX11_run_46 : decode cX11_run 46 = .ok (.aload_n 0, 1) := by decide +kernel
theorem dX11_run_47 : decode cX11_run 47 = .ok (.getfield 44, 3) := by decide +kernel
theorem dX11_run_50 : decode cX11_run 50 = .ok (.getfield 281, 3) := by decide +kernel
theorem dX11_run_53 : decode cX11_run 53 = .ok (.iload_n 3, 1) := by decide +kernel
theorem dX11_run_54 : decode cX11_run 54 = .ok (.invokestatic 284, 3) := by decide +kernel
theorem dX11_run_57 : decode cX11_run 57 = .ok (.ifCond .eq 21, 3) := by decide +kernel
theorem dX11_run_60 : decode cX11_run 60 = .ok (.aload_n 0, 1) := by decide +kernel
theorem dX11_run_61 : decode cX11_run 61 = .ok (.iload_n 3, 1) := by decide +kernel
theorem dX11_run_62 : decode cX11_run 62 = .ok (.invokevirtual 288, 3) := by decide +kernel
theorem dX11_run_65 : decode cX11_run 65 = .ok (.aload_n 0, 1) := by decide +kernel
theorem dX11_run_66 : decode cX11_run 66 = .ok (.getfield 67, 3) := by decide +kernel
theorem dX11_run_69 : decode cX11_run 69 = .ok (.aload_n 0, 1) := by decide +kernel
theorem dX11_run_70 : decode cX11_run 70 = .ok (.getfield 51, 3) := by decide +kernel
theorem dX11_run_73 : decode cX11_run 73 = .ok (.iload_n 2, 1) := by decide +kernel
theorem dX11_run_74 : decode cX11_run 74 = .ok (.invokevirtual 291, 3) := by decide +kernel
theorem dX11_run_77 : decode cX11_run 77 = .ok (.istore_n 2, 1) := by decide +kernel
theorem dX11_run_78 : decode cX11_run 78 = .ok (.iinc 3 1, 3) := by decide +kernel
theorem dX11_run_81 : decode cX11_run 81 = .ok (.goto (-41), 3) := by decide +kernel
theorem dX11_run_84 : decode cX11_run 84 = .ok (.aload_n 0, 1) := by decide +kernel
theorem dX11_run_85 : decode cX11_run 85 = .ok (.getfield 58, 3) := by decide +kernel
theorem dX11_run_88 : decode cX11_run 88 = .ok (.iload_n 2, 1) := by decide +kernel
theorem dX11_run_89 : decode cX11_run 89 = .ok (.putfield 295, 3) := by decide +kernel
theorem dX11_run_92 : decode cX11_run 92 = .ok (.aload_n 0, 1) := by decide +kernel
theorem dX11_run_93 : decode cX11_run 93 = .ok (.invokevirtual 298, 3) := by decide +kernel
theorem dX11_run_96 : decode cX11_run 96 = .ok (.iload_n 2, 1) := by decide +kernel
theorem dX11_run_97 : decode cX11_run 97 = .ok (.ireturn, 1) := by decide +kernel
theorem dX11_ticks_0 : decode cX11_ticks 0 = .ok (.aload_n 0, 1) := by decide +kernel
theorem dX11_ticks_1 : decode cX11_ticks 1 = .ok (.getfield 58, 3) := by decide +kernel
theorem dX11_ticks_4 : decode cX11_ticks 4 = .ok (.getfield 295, 3) := by decide +kernel
theorem dX11_ticks_7 : decode cX11_ticks 7 = .ok (.ireturn, 1) := by decide +kernel
theorem dX11_spilled_0 : decode cX11_spilled 0 = .ok (.aload_n 0, 1) := by decide +kernel
theorem dX11_spilled_1 : decode cX11_spilled 1 = .ok (.getfield 58, 3) := by decide +kernel
theorem dX11_spilled_4 : decode cX11_spilled 4 = .ok (.getfield 301, 3) := by decide +kernel
theorem dX11_spilled_7 : decode cX11_spilled 7 = .ok (.ireturn, 1) := by decide +kernel
theorem dX11_attempts_0 : decode cX11_attempts 0 = .ok (.aload_n 0, 1) := by decide +kernel
theorem dX11_attempts_1 : decode cX11_attempts 1 = .ok (.getfield 58, 3) := by decide +kernel
theorem dX11_attempts_4 : decode cX11_attempts 4 = .ok (.getfield 304, 3) := by decide +kernel
theorem dX11_attempts_7 : decode cX11_attempts 7 = .ok (.ireturn, 1) := by decide +kernel
theorem dX11_nodeOf_0 : decode cX11_nodeOf 0 = .ok (.aload_n 0, 1) := by decide +kernel
theorem dX11_nodeOf_1 : decode cX11_nodeOf 1 = .ok (.iload_n 1, 1) := by decide +kernel
theorem dX11_nodeOf_2 : decode cX11_nodeOf 2 = .ok (.invokevirtual 307, 3) := by decide +kernel
theorem dX11_nodeOf_5 : decode cX11_nodeOf 5 = .ok (.aload_n 0, 1) := by decide +kernel
theorem dX11_nodeOf_6 : decode cX11_nodeOf 6 = .ok (.getfield 58, 3) := by decide +kernel
theorem dX11_nodeOf_9 : decode cX11_nodeOf 9 = .ok (.getfield 310, 3) := by decide +kernel
theorem dX11_nodeOf_12 : decode cX11_nodeOf 12 = .ok (.iload_n 1, 1) := by decide +kernel
theorem dX11_nodeOf_13 : decode cX11_nodeOf 13 = .ok (.invokevirtual 239, 3) := by decide +kernel
theorem dX11_nodeOf_16 : decode cX11_nodeOf 16 = .ok (.ireturn, 1) := by decide +kernel
theorem dX11_partitionOf_0 : decode cX11_partitionOf 0 = .ok (.aload_n 0, 1) := by decide +kernel
theorem dX11_partitionOf_1 : decode cX11_partitionOf 1 = .ok (.iload_n 1, 1) := by decide +kernel
theorem dX11_partitionOf_2 : decode cX11_partitionOf 2 = .ok (.invokevirtual 307, 3) := by decide +kernel
theorem dX11_partitionOf_5 : decode cX11_partitionOf 5 = .ok (.aload_n 0, 1) := by decide +kernel
theorem dX11_partitionOf_6 : decode cX11_partitionOf 6 = .ok (.getfield 58, 3) := by decide +kernel
theorem dX11_partitionOf_9 : decode cX11_partitionOf 9 = .ok (.getfield 312, 3) := by decide +kernel
theorem dX11_partitionOf_12 : decode cX11_partitionOf 12 = .ok (.iload_n 1, 1) := by decide +kernel
theorem dX11_partitionOf_13 : decode cX11_partitionOf 13 = .ok (.invokevirtual 239, 3) := by decide +kernel
theorem dX11_partitionOf_16 : decode cX11_partitionOf 16 = .ok (.ireturn, 1) := by decide +kernel
theorem dX11_workerOf_0 : decode cX11_workerOf 0 = .ok (.aload_n 0, 1) := by decide +kernel
theorem dX11_workerOf_1 : decode cX11_workerOf 1 = .ok (.iload_n 1, 1) := by decide +kernel
theorem dX11_workerOf_2 : decode cX11_workerOf 2 = .ok (.invokevirtual 307, 3) := by decide +kernel
theorem dX11_workerOf_5 : decode cX11_workerOf 5 = .ok (.aload_n 0, 1) := by decide +kernel
theorem dX11_workerOf_6 : decode cX11_workerOf 6 = .ok (.getfield 58, 3) := by decide +kernel
theorem dX11_workerOf_9 : decode cX11_workerOf 9 = .ok (.getfield 314, 3) := by decide +kernel
theorem dX11_workerOf_12 : decode cX11_workerOf 12 = .ok (.iload_n 1, 1) := by decide +kernel
theorem dX11_workerOf_13 : decode cX11_workerOf 13 = .ok (.invokevirtual 239, 3) := by decide +kernel
theorem dX11_workerOf_16 : decode cX11_workerOf 16 = .ok (.ireturn, 1) := by decide +kernel
theorem dX11_startOf_0 : decode cX11_startOf 0 = .ok (.aload_n 0, 1) := by decide +kernel
theorem dX11_startOf_1 : decode cX11_startOf 1 = .ok (.iload_n 1, 1) := by decide +kernel
theorem dX11_startOf_2 : decode cX11_startOf 2 = .ok (.invokevirtual 307, 3) := by decide +kernel
theorem dX11_startOf_5 : decode cX11_startOf 5 = .ok (.aload_n 0, 1) := by decide +kernel
theorem dX11_startOf_6 : decode cX11_startOf 6 = .ok (.getfield 58, 3) := by decide +kernel
theorem dX11_startOf_9 : decode cX11_startOf 9 = .ok (.getfield 317, 3) := by decide +kernel
theorem dX11_startOf_12 : decode cX11_startOf 12 = .ok (.iload_n 1, 1) := by decide +kernel
theorem dX11_startOf_13 : decode cX11_startOf 13 = .ok (.invokevirtual 239, 3) := by decide +kernel
theorem dX11_startOf_16 : decode cX11_startOf 16 = .ok (.ireturn, 1) := by decide +kernel
theorem dX11_endOf_0 : decode cX11_endOf 0 = .ok (.aload_n 0, 1) := by decide +kernel
theorem dX11_endOf_1 : decode cX11_endOf 1 = .ok (.iload_n 1, 1) := by decide +kernel
theorem dX11_endOf_2 : decode cX11_endOf 2 = .ok (.invokevirtual 307, 3) := by decide +kernel
theorem dX11_endOf_5 : decode cX11_endOf 5 = .ok (.aload_n 0, 1) := by decide +kernel
theorem dX11_endOf_6 : decode cX11_endOf 6 = .ok (.getfield 58, 3) := by decide +kernel
theorem dX11_endOf_9 : decode cX11_endOf 9 = .ok (.getfield 320, 3) := by decide +kernel
theorem dX11_endOf_12 : decode cX11_endOf 12 = .ok (.iload_n 1, 1) := by decide +kernel
theorem dX11_endOf_13 : decode cX11_endOf 13 = .ok (.invokevirtual 239, 3) := by decide +kernel
theorem dX11_endOf_16 : decode cX11_endOf 16 = .ok (.ireturn, 1) := by decide +kernel
theorem dX11_isCopy_0 : decode cX11_isCopy 0 = .ok (.aload_n 0, 1) := by decide +kernel
theorem dX11_isCopy_1 : decode cX11_isCopy 1 = .ok (.iload_n 1, 1) := by decide +kernel
theorem dX11_isCopy_2 : decode cX11_isCopy 2 = .ok (.invokevirtual 307, 3) := by decide +kernel
theorem dX11_isCopy_5 : decode cX11_isCopy 5 = .ok (.aload_n 0, 1) := by decide +kernel
theorem dX11_isCopy_6 : decode cX11_isCopy 6 = .ok (.getfield 58, 3) := by decide +kernel
theorem dX11_isCopy_9 : decode cX11_isCopy 9 = .ok (.getfield 323, 3) := by decide +kernel
theorem dX11_isCopy_12 : decode cX11_isCopy 12 = .ok (.iload_n 1, 1) := by decide +kernel
theorem dX11_isCopy_13 : decode cX11_isCopy 13 = .ok (.invokevirtual 239, 3) := by decide +kernel
theorem dX11_isCopy_16 : decode cX11_isCopy 16 = .ok (.ifCond .eq 7, 3) := by decide +kernel
theorem dX11_isCopy_19 : decode cX11_isCopy 19 = .ok (.iconst 1, 1) := by decide +kernel
theorem dX11_isCopy_20 : decode cX11_isCopy 20 = .ok (.goto 4, 3) := by decide +kernel
theorem dX11_isCopy_23 : decode cX11_isCopy 23 = .ok (.iconst 0, 1) := by decide +kernel
theorem dX11_isCopy_24 : decode cX11_isCopy 24 = .ok (.ireturn, 1) := by decide +kernel
theorem dX11_share_0 : decode cX11_share 0 = .ok (.aload_n 0, 1) := by decide +kernel
theorem dX11_share_1 : decode cX11_share 1 = .ok (.getfield 58, 3) := by decide +kernel
theorem dX11_share_4 : decode cX11_share 4 = .ok (.getfield 295, 3) := by decide +kernel
theorem dX11_share_7 : decode cX11_share 7 = .ok (.aload_n 0, 1) := by decide +kernel
theorem dX11_share_8 : decode cX11_share 8 = .ok (.getfield 58, 3) := by decide +kernel
theorem dX11_share_11 : decode cX11_share 11 = .ok (.getfield 326, 3) := by decide +kernel
theorem dX11_share_14 : decode cX11_share 14 = .ok (.imul, 1) := by decide +kernel
theorem dX11_share_15 : decode cX11_share 15 = .ok (.istore_n 1, 1) := by decide +kernel
theorem dX11_share_16 : decode cX11_share 16 = .ok (.iload_n 1, 1) := by decide +kernel
theorem dX11_share_17 : decode cX11_share 17 = .ok (.ifCond .gt 7, 3) := by decide +kernel
theorem dX11_share_20 : decode cX11_share 20 = .ok (.fconst 0, 1) := by decide +kernel
theorem dX11_share_21 : decode cX11_share 21 = .ok (.goto 14, 3) := by decide +kernel
theorem dX11_share_24 : decode cX11_share 24 = .ok (.aload_n 0, 1) := by decide +kernel
theorem dX11_share_25 : decode cX11_share 25 = .ok (.getfield 58, 3) := by decide +kernel
theorem dX11_share_28 : decode cX11_share 28 = .ok (.invokevirtual 329, 3) := by decide +kernel
theorem dX11_share_31 : decode cX11_share 31 = .ok (.i2f, 1) := by decide +kernel
theorem dX11_share_32 : decode cX11_share 32 = .ok (.iload_n 1, 1) := by decide +kernel
theorem dX11_share_33 : decode cX11_share 33 = .ok (.i2f, 1) := by decide +kernel
theorem dX11_share_34 : decode cX11_share 34 = .ok (.fdiv, 1) := by decide +kernel
theorem dX11_share_35 : decode cX11_share 35 = .ok (.freturn, 1) := by decide +kernel
theorem dX11_checkNode_0 : decode cX11_checkNode 0 = .ok (.iload_n 1, 1) := by decide +kernel
theorem dX11_checkNode_1 : decode cX11_checkNode 1 = .ok (.ifCond .lt 14, 3) := by decide +kernel
theorem dX11_checkNode_4 : decode cX11_checkNode 4 = .ok (.iload_n 1, 1) := by decide +kernel
theorem dX11_checkNode_5 : decode cX11_checkNode 5 = .ok (.aload_n 0, 1) := by decide +kernel
theorem dX11_checkNode_6 : decode cX11_checkNode 6 = .ok (.getfield 16, 3) := by decide +kernel
theorem dX11_checkNode_9 : decode cX11_checkNode 9 = .ok (.invokevirtual 186, 3) := by decide +kernel
theorem dX11_checkNode_12 : decode cX11_checkNode 12 = .ok (.if_icmp .lt 14, 3) := by decide +kernel
theorem dX11_checkNode_15 : decode cX11_checkNode 15 = .ok (.new 228, 3) := by decide +kernel
theorem dX11_checkNode_18 : decode cX11_checkNode 18 = .ok (.dup, 1) := by decide +kernel
theorem dX11_checkNode_19 : decode cX11_checkNode 19 = .ok (.ldc_w 332, 3) := by decide +kernel
theorem dX11_checkNode_22 : decode cX11_checkNode 22 = .ok (.invokespecial 232, 3) := by decide +kernel
theorem dX11_checkNode_25 : decode cX11_checkNode 25 = .ok (.athrow, 1) := by decide +kernel
theorem dX11_checkNode_26 : decode cX11_checkNode 26 = .ok (.return_, 1) := by decide +kernel
theorem dX11_checkAnotherNode_0 : decode cX11_checkAnotherNode 0 = .ok (.aload_n 0, 1) := by decide +kernel
theorem dX11_checkAnotherNode_1 : decode cX11_checkAnotherNode 1 = .ok (.getfield 16, 3) := by decide +kernel
theorem dX11_checkAnotherNode_4 : decode cX11_checkAnotherNode 4 = .ok (.invokevirtual 186, 3) := by decide +kernel
theorem dX11_checkAnotherNode_7 : decode cX11_checkAnotherNode 7 = .ok (.bipush 14, 2) := by decide +kernel
theorem dX11_checkAnotherNode_9 : decode cX11_checkAnotherNode 9 = .ok (.if_icmp .lt 14, 3) := by decide +kernel
theorem dX11_checkAnotherNode_12 : decode cX11_checkAnotherNode 12 = .ok (.new 116, 3) := by decide +kernel
theorem dX11_checkAnotherNode_15 : decode cX11_checkAnotherNode 15 = .ok (.dup, 1) := by decide +kernel
theorem dX11_checkAnotherNode_16 : decode cX11_checkAnotherNode 16 = .ok (.ldc_w 334, 3) := by decide +kernel
theorem dX11_checkAnotherNode_19 : decode cX11_checkAnotherNode 19 = .ok (.invokespecial 120, 3) := by decide +kernel
theorem dX11_checkAnotherNode_22 : decode cX11_checkAnotherNode 22 = .ok (.athrow, 1) := by decide +kernel
theorem dX11_checkAnotherNode_23 : decode cX11_checkAnotherNode 23 = .ok (.return_, 1) := by decide +kernel
theorem dX11_checkAttempt_0 : decode cX11_checkAttempt 0 = .ok (.iload_n 1, 1) := by decide +kernel
theorem dX11_checkAttempt_1 : decode cX11_checkAttempt 1 = .ok (.ifCond .lt 14, 3) := by decide +kernel
theorem dX11_checkAttempt_4 : decode cX11_checkAttempt 4 = .ok (.iload_n 1, 1) := by decide +kernel
theorem dX11_checkAttempt_5 : decode cX11_checkAttempt 5 = .ok (.aload_n 0, 1) := by decide +kernel
theorem dX11_checkAttempt_6 : decode cX11_checkAttempt 6 = .ok (.getfield 58, 3) := by decide +kernel
theorem dX11_checkAttempt_9 : decode cX11_checkAttempt 9 = .ok (.getfield 304, 3) := by decide +kernel
theorem dX11_checkAttempt_12 : decode cX11_checkAttempt 12 = .ok (.if_icmp .lt 14, 3) := by decide +kernel
theorem dX11_checkAttempt_15 : decode cX11_checkAttempt 15 = .ok (.new 228, 3) := by decide +kernel
theorem dX11_checkAttempt_18 : decode cX11_checkAttempt 18 = .ok (.dup, 1) := by decide +kernel
theorem dX11_checkAttempt_19 : decode cX11_checkAttempt 19 = .ok (.ldc_w 336, 3) := by decide +kernel
theorem dX11_checkAttempt_22 : decode cX11_checkAttempt 22 = .ok (.invokespecial 232, 3) := by decide +kernel
theorem dX11_checkAttempt_25 : decode cX11_checkAttempt 25 = .ok (.athrow, 1) := by decide +kernel
theorem dX11_checkAttempt_26 : decode cX11_checkAttempt 26 = .ok (.return_, 1) := by decide +kernel
theorem dX11_checkToldPartitions_0 : decode cX11_checkToldPartitions 0 = .ok (.iload_n 0, 1) := by decide +kernel
theorem dX11_checkToldPartitions_1 : decode cX11_checkToldPartitions 1 = .ok (.iconst 1, 1) := by decide +kernel
theorem dX11_checkToldPartitions_2 : decode cX11_checkToldPartitions 2 = .ok (.if_icmp .lt 8, 3) := by decide +kernel
theorem dX11_checkToldPartitions_5 : decode cX11_checkToldPartitions 5 = .ok (.iload_n 0, 1) := by decide +kernel
theorem dX11_checkToldPartitions_6 : decode cX11_checkToldPartitions 6 = .ok (.iconst 4, 1) := by decide +kernel
theorem dX11_checkToldPartitions_7 : decode cX11_checkToldPartitions 7 = .ok (.if_icmp .le 14, 3) := by decide +kernel
theorem dX11_checkToldPartitions_10 : decode cX11_checkToldPartitions 10 = .ok (.new 132, 3) := by decide +kernel
theorem dX11_checkToldPartitions_13 : decode cX11_checkToldPartitions 13 = .ok (.dup, 1) := by decide +kernel
theorem dX11_checkToldPartitions_14 : decode cX11_checkToldPartitions 14 = .ok (.ldc_w 338, 3) := by decide +kernel
theorem dX11_checkToldPartitions_17 : decode cX11_checkToldPartitions 17 = .ok (.invokespecial 136, 3) := by decide +kernel
theorem dX11_checkToldPartitions_20 : decode cX11_checkToldPartitions 20 = .ok (.athrow, 1) := by decide +kernel
theorem dX11_checkToldPartitions_21 : decode cX11_checkToldPartitions 21 = .ok (.return_, 1) := by decide +kernel
theorem dX11_checkSetting_0 : decode cX11_checkSetting 0 = .ok (.iload_n 0, 1) := by decide +kernel
theorem dX11_checkSetting_1 : decode cX11_checkSetting 1 = .ok (.ifCond .lt 10, 3) := by decide +kernel
theorem dX11_checkSetting_4 : decode cX11_checkSetting 4 = .ok (.iload_n 0, 1) := by decide +kernel
theorem dX11_checkSetting_5 : decode cX11_checkSetting 5 = .ok (.sipush 1000, 3) := by decide +kernel
theorem dX11_checkSetting_8 : decode cX11_checkSetting 8 = .ok (.if_icmp .le 14, 3) := by decide +kernel
theorem dX11_checkSetting_11 : decode cX11_checkSetting 11 = .ok (.new 132, 3) := by decide +kernel
theorem dX11_checkSetting_14 : decode cX11_checkSetting 14 = .ok (.dup, 1) := by decide +kernel
theorem dX11_checkSetting_15 : decode cX11_checkSetting 15 = .ok (.ldc_w 340, 3) := by decide +kernel
theorem dX11_checkSetting_18 : decode cX11_checkSetting 18 = .ok (.invokespecial 136, 3) := by decide +kernel
theorem dX11_checkSetting_21 : decode cX11_checkSetting 21 = .ok (.athrow, 1) := by decide +kernel
theorem dX11_checkSetting_22 : decode cX11_checkSetting 22 = .ok (.return_, 1) := by decide +kernel
theorem dX11_checkPartition_0 : decode cX11_checkPartition 0 = .ok (.iload_n 1, 1) := by decide +kernel
theorem dX11_checkPartition_1 : decode cX11_checkPartition 1 = .ok (.ifCond .lt 11, 3) := by decide +kernel
theorem dX11_checkPartition_4 : decode cX11_checkPartition 4 = .ok (.iload_n 1, 1) := by decide +kernel
theorem dX11_checkPartition_5 : decode cX11_checkPartition 5 = .ok (.aload_n 0, 1) := by decide +kernel
theorem dX11_checkPartition_6 : decode cX11_checkPartition 6 = .ok (.invokevirtual 191, 3) := by decide +kernel
theorem dX11_checkPartition_9 : decode cX11_checkPartition 9 = .ok (.if_icmp .lt 14, 3) := by decide +kernel
theorem dX11_checkPartition_12 : decode cX11_checkPartition 12 = .ok (.new 228, 3) := by decide +kernel
theorem dX11_checkPartition_15 : decode cX11_checkPartition 15 = .ok (.dup, 1) := by decide +kernel
theorem dX11_checkPartition_16 : decode cX11_checkPartition 16 = .ok (.ldc_w 342, 3) := by decide +kernel
theorem dX11_checkPartition_19 : decode cX11_checkPartition 19 = .ok (.invokespecial 232, 3) := by decide +kernel
theorem dX11_checkPartition_22 : decode cX11_checkPartition 22 = .ok (.athrow, 1) := by decide +kernel
theorem dX11_checkPartition_23 : decode cX11_checkPartition 23 = .ok (.return_, 1) := by decide +kernel
theorem dX11_checkPlace_0 : decode cX11_checkPlace 0 = .ok (.aload_n 0, 1) := by decide +kernel
theorem dX11_checkPlace_1 : decode cX11_checkPlace 1 = .ok (.iload_n 1, 1) := by decide +kernel
theorem dX11_checkPlace_2 : decode cX11_checkPlace 2 = .ok (.invokestatic 194, 3) := by decide +kernel
theorem dX11_checkPlace_5 : decode cX11_checkPlace 5 = .ok (.iload_n 2, 1) := by decide +kernel
theorem dX11_checkPlace_6 : decode cX11_checkPlace 6 = .ok (.ifCond .lt 12, 3) := by decide +kernel
theorem dX11_checkPlace_9 : decode cX11_checkPlace 9 = .ok (.iload_n 2, 1) := by decide +kernel
theorem dX11_checkPlace_10 : decode cX11_checkPlace 10 = .ok (.aload_n 0, 1) := by decide +kernel
theorem dX11_checkPlace_11 : decode cX11_checkPlace 11 = .ok (.iload_n 1, 1) := by decide +kernel
theorem dX11_checkPlace_12 : decode cX11_checkPlace 12 = .ok (.invokevirtual 198, 3) := by decide +kernel
theorem dX11_checkPlace_15 : decode cX11_checkPlace 15 = .ok (.if_icmp .lt 14, 3) := by decide +kernel
theorem dX11_checkPlace_18 : decode cX11_checkPlace 18 = .ok (.new 228, 3) := by decide +kernel
theorem dX11_checkPlace_21 : decode cX11_checkPlace 21 = .ok (.dup, 1) := by decide +kernel
theorem dX11_checkPlace_22 : decode cX11_checkPlace 22 = .ok (.ldc_w 344, 3) := by decide +kernel
theorem dX11_checkPlace_25 : decode cX11_checkPlace 25 = .ok (.invokespecial 232, 3) := by decide +kernel
theorem dX11_checkPlace_28 : decode cX11_checkPlace 28 = .ok (.athrow, 1) := by decide +kernel
theorem dX11_checkPlace_29 : decode cX11_checkPlace 29 = .ok (.return_, 1) := by decide +kernel
theorem dX11_changeOf_0 : decode cX11_changeOf 0 = .ok (.aload_n 0, 1) := by decide +kernel
theorem dX11_changeOf_1 : decode cX11_changeOf 1 = .ok (.getfield 16, 3) := by decide +kernel
theorem dX11_changeOf_4 : decode cX11_changeOf 4 = .ok (.iload_n 2, 1) := by decide +kernel
theorem dX11_changeOf_5 : decode cX11_changeOf 5 = .ok (.invokevirtual 99, 3) := by decide +kernel
theorem dX11_changeOf_8 : decode cX11_changeOf 8 = .ok (.astore_n 3, 1) := by decide +kernel
theorem dX11_changeOf_9 : decode cX11_changeOf 9 = .ok (.new 78, 3) := by decide +kernel
theorem dX11_changeOf_12 : decode cX11_changeOf 12 = .ok (.dup, 1) := by decide +kernel
theorem dX11_changeOf_13 : decode cX11_changeOf 13 = .ok (.aload_n 1, 1) := by decide +kernel
theorem dX11_changeOf_14 : decode cX11_changeOf 14 = .ok (.iload_n 2, 1) := by decide +kernel
theorem dX11_changeOf_15 : decode cX11_changeOf 15 = .ok (.iconst (-1), 1) := by decide +kernel
theorem dX11_changeOf_16 : decode cX11_changeOf 16 = .ok (.aload_n 3, 1) := by decide +kernel
theorem dX11_changeOf_17 : decode cX11_changeOf 17 = .ok (.getfield 159, 3) := by decide +kernel
theorem dX11_changeOf_20 : decode cX11_changeOf 20 = .ok (.aload_n 3, 1) := by decide +kernel
theorem dX11_changeOf_21 : decode cX11_changeOf 21 = .ok (.getfield 162, 3) := by decide +kernel
theorem dX11_changeOf_24 : decode cX11_changeOf 24 = .ok (.invokespecial 86, 3) := by decide +kernel
theorem dX11_changeOf_27 : decode cX11_changeOf 27 = .ok (.areturn, 1) := by decide +kernel
theorem dX11_loadStage_0 : decode cX11_loadStage 0 = .ok (.aload_n 0, 1) := by decide +kernel
theorem dX11_loadStage_1 : decode cX11_loadStage 1 = .ok (.getfield 25, 3) := by decide +kernel
theorem dX11_loadStage_4 : decode cX11_loadStage 4 = .ok (.iload_n 1, 1) := by decide +kernel
theorem dX11_loadStage_5 : decode cX11_loadStage 5 = .ok (.invokevirtual 346, 3) := by decide +kernel
theorem dX11_loadStage_8 : decode cX11_loadStage 8 = .ok (.invokevirtual 191, 3) := by decide +kernel
theorem dX11_loadStage_11 : decode cX11_loadStage 11 = .ok (.istore_n 2, 1) := by decide +kernel
theorem dX11_loadStage_12 : decode cX11_loadStage 12 = .ok (.aload_n 0, 1) := by decide +kernel
theorem dX11_loadStage_13 : decode cX11_loadStage 13 = .ok (.getfield 51, 3) := by decide +kernel
theorem dX11_loadStage_16 : decode cX11_loadStage 16 = .ok (.iload_n 1, 1) := by decide +kernel
theorem dX11_loadStage_17 : decode cX11_loadStage 17 = .ok (.iload_n 2, 1) := by decide +kernel
theorem dX11_loadStage_18 : decode cX11_loadStage 18 = .ok (.invokevirtual 349, 3) := by decide +kernel
theorem dX11_loadStage_21 : decode cX11_loadStage 21 = .ok (.iconst 0, 1) := by decide +kernel
theorem dX11_loadStage_22 : decode cX11_loadStage 22 = .ok (.istore_n 3, 1) := by decide +kernel
theorem dX11_loadStage_23 : decode cX11_loadStage 23 = .ok (.iload_n 3, 1) := by decide +kernel
theorem dX11_loadStage_24 : decode cX11_loadStage 24 = .ok (.iload_n 2, 1) := by decide +kernel
theorem dX11_loadStage_25 : decode cX11_loadStage 25 = .ok (.if_icmp .ge 65, 3) := by decide +kernel
theorem dX11_loadStage_28 : decode cX11_loadStage 28 = .ok (.aload_n 0, 1) := by decide +kernel
theorem dX11_loadStage_29 : decode cX11_loadStage 29 = .ok (.getfield 44, 3) := by decide +kernel
theorem dX11_loadStage_32 : decode cX11_loadStage 32 = .ok (.iload_n 1, 1) := by decide +kernel
theorem dX11_loadStage_33 : decode cX11_loadStage 33 = .ok (.iload_n 3, 1) := by decide +kernel
theorem dX11_loadStage_34 : decode cX11_loadStage 34 = .ok (.invokevirtual 351, 3) := by decide +kernel
theorem dX11_loadStage_37 : decode cX11_loadStage 37 = .ok (.istore 4, 2) := by decide +kernel
theorem dX11_loadStage_39 : decode cX11_loadStage 39 = .ok (.iconst 0, 1) := by decide +kernel
theorem dX11_loadStage_40 : decode cX11_loadStage 40 = .ok (.iload 4, 2) := by decide +kernel
theorem dX11_loadStage_42 : decode cX11_loadStage 42 = .ok (.aload_n 0, 1) := by decide +kernel
theorem dX11_loadStage_43 : decode cX11_loadStage 43 = .ok (.getfield 9, 3) := by decide +kernel
theorem dX11_loadStage_46 : decode cX11_loadStage 46 = .ok (.isub, 1) := by decide +kernel
theorem dX11_loadStage_47 : decode cX11_loadStage 47 = .ok (.invokestatic 177, 3) := by decide +kernel
theorem dX11_loadStage_50 : decode cX11_loadStage 50 = .ok (.istore 5, 2) := by decide +kernel
theorem dX11_loadStage_52 : decode cX11_loadStage 52 = .ok (.aload_n 0, 1) := by decide +kernel
theorem dX11_loadStage_53 : decode cX11_loadStage 53 = .ok (.getfield 51, 3) := by decide +kernel
theorem dX11_loadStage_56 : decode cX11_loadStage 56 = .ok (.getfield 354, 3) := by decide +kernel
theorem dX11_loadStage_59 : decode cX11_loadStage 59 = .ok (.iload_n 3, 1) := by decide +kernel
theorem dX11_loadStage_60 : decode cX11_loadStage 60 = .ok (.iconst 1, 1) := by decide +kernel
theorem dX11_loadStage_61 : decode cX11_loadStage 61 = .ok (.iload 4, 2) := by decide +kernel
theorem dX11_loadStage_63 : decode cX11_loadStage 63 = .ok (.iadd, 1) := by decide +kernel
theorem dX11_loadStage_64 : decode cX11_loadStage 64 = .ok (.iload 5, 2) := by decide +kernel
theorem dX11_loadStage_66 : decode cX11_loadStage 66 = .ok (.iadd, 1) := by decide +kernel
theorem dX11_loadStage_67 : decode cX11_loadStage 67 = .ok (.invokevirtual 243, 3) := by decide +kernel
theorem dX11_loadStage_70 : decode cX11_loadStage 70 = .ok (.aload_n 0, 1) := by decide +kernel
theorem dX11_loadStage_71 : decode cX11_loadStage 71 = .ok (.getfield 58, 3) := by decide +kernel
theorem dX11_loadStage_74 : decode cX11_loadStage 74 = .ok (.dup, 1) := by decide +kernel
theorem dX11_loadStage_75 : decode cX11_loadStage 75 = .ok (.getfield 301, 3) := by decide +kernel
theorem dX11_loadStage_78 : decode cX11_loadStage 78 = .ok (.iload 5, 2) := by decide +kernel
theorem dX11_loadStage_80 : decode cX11_loadStage 80 = .ok (.iadd, 1) := by decide +kernel
theorem dX11_loadStage_81 : decode cX11_loadStage 81 = .ok (.putfield 301, 3) := by decide +kernel
theorem dX11_loadStage_84 : decode cX11_loadStage 84 = .ok (.iinc 3 1, 3) := by decide +kernel
theorem dX11_loadStage_87 : decode cX11_loadStage 87 = .ok (.goto (-64), 3) := by decide +kernel
theorem dX11_loadStage_90 : decode cX11_loadStage 90 = .ok (.return_, 1) := by decide +kernel
theorem dX11_renewCache_0 : decode cX11_renewCache 0 = .ok (.iconst 0, 1) := by decide +kernel
theorem dX11_renewCache_1 : decode cX11_renewCache 1 = .ok (.istore_n 1, 1) := by decide +kernel
theorem dX11_renewCache_2 : decode cX11_renewCache 2 = .ok (.iload_n 1, 1) := by decide +kernel
theorem dX11_renewCache_3 : decode cX11_renewCache 3 = .ok (.bipush 14, 2) := by decide +kernel
theorem dX11_renewCache_5 : decode cX11_renewCache 5 = .ok (.if_icmp .ge 31, 3) := by decide +kernel
theorem dX11_renewCache_8 : decode cX11_renewCache 8 = .ok (.aload_n 0, 1) := by decide +kernel
theorem dX11_renewCache_9 : decode cX11_renewCache 9 = .ok (.getfield 44, 3) := by decide +kernel
theorem dX11_renewCache_12 : decode cX11_renewCache 12 = .ok (.getfield 357, 3) := by decide +kernel
theorem dX11_renewCache_15 : decode cX11_renewCache 15 = .ok (.iload_n 1, 1) := by decide +kernel
theorem dX11_renewCache_16 : decode cX11_renewCache 16 = .ok (.invokestatic 284, 3) := by decide +kernel
theorem dX11_renewCache_19 : decode cX11_renewCache 19 = .ok (.ifCond .eq 11, 3) := by decide +kernel
theorem dX11_renewCache_22 : decode cX11_renewCache 22 = .ok (.aload_n 0, 1) := by decide +kernel
theorem dX11_renewCache_23 : decode cX11_renewCache 23 = .ok (.getfield 35, 3) := by decide +kernel
theorem dX11_renewCache_26 : decode cX11_renewCache 26 = .ok (.iload_n 1, 1) := by decide +kernel
theorem dX11_renewCache_27 : decode cX11_renewCache 27 = .ok (.invokevirtual 360, 3) := by decide +kernel
theorem dX11_renewCache_30 : decode cX11_renewCache 30 = .ok (.iinc 1 1, 3) := by decide +kernel
theorem dX11_renewCache_33 : decode cX11_renewCache 33 = .ok (.goto (-31), 3) := by decide +kernel
theorem dX11_renewCache_36 : decode cX11_renewCache 36 = .ok (.iconst 0, 1) := by decide +kernel
theorem dX11_renewCache_37 : decode cX11_renewCache 37 = .ok (.istore_n 1, 1) := by decide +kernel
theorem dX11_renewCache_38 : decode cX11_renewCache 38 = .ok (.iload_n 1, 1) := by decide +kernel
theorem dX11_renewCache_39 : decode cX11_renewCache 39 = .ok (.bipush 14, 2) := by decide +kernel
theorem dX11_renewCache_41 : decode cX11_renewCache 41 = .ok (.if_icmp .ge 67, 3) := by decide +kernel
theorem dX11_renewCache_44 : decode cX11_renewCache 44 = .ok (.aload_n 0, 1) := by decide +kernel
theorem dX11_renewCache_45 : decode cX11_renewCache 45 = .ok (.getfield 44, 3) := by decide +kernel
theorem dX11_renewCache_48 : decode cX11_renewCache 48 = .ok (.getfield 363, 3) := by decide +kernel
theorem dX11_renewCache_51 : decode cX11_renewCache 51 = .ok (.iload_n 1, 1) := by decide +kernel
theorem dX11_renewCache_52 : decode cX11_renewCache 52 = .ok (.invokestatic 284, 3) := by decide +kernel
theorem dX11_renewCache_55 : decode cX11_renewCache 55 = .ok (.ifCond .eq 47, 3) := by decide +kernel
theorem dX11_renewCache_58 : decode cX11_renewCache 58 = .ok (.aload_n 0, 1) := by decide +kernel
theorem dX11_renewCache_59 : decode cX11_renewCache 59 = .ok (.getfield 16, 3) := by decide +kernel
theorem dX11_renewCache_62 : decode cX11_renewCache 62 = .ok (.iload_n 1, 1) := by decide +kernel
theorem dX11_renewCache_63 : decode cX11_renewCache 63 = .ok (.invokevirtual 99, 3) := by decide +kernel
theorem dX11_renewCache_66 : decode cX11_renewCache 66 = .ok (.getfield 261, 3) := by decide +kernel
theorem dX11_renewCache_69 : decode cX11_renewCache 69 = .ok (.ifCond .eq 33, 3) := by decide +kernel
theorem dX11_renewCache_72 : decode cX11_renewCache 72 = .ok (.aload_n 0, 1) := by decide +kernel
theorem dX11_renewCache_73 : decode cX11_renewCache 73 = .ok (.getfield 35, 3) := by decide +kernel
theorem dX11_renewCache_76 : decode cX11_renewCache 76 = .ok (.iload_n 1, 1) := by decide +kernel
theorem dX11_renewCache_77 : decode cX11_renewCache 77 = .ok (.invokevirtual 265, 3) := by decide +kernel
theorem dX11_renewCache_80 : decode cX11_renewCache 80 = .ok (.ifCond .ne 22, 3) := by decide +kernel
theorem dX11_renewCache_83 : decode cX11_renewCache 83 = .ok (.aload_n 0, 1) := by decide +kernel
theorem dX11_renewCache_84 : decode cX11_renewCache 84 = .ok (.getfield 35, 3) := by decide +kernel
theorem dX11_renewCache_87 : decode cX11_renewCache 87 = .ok (.iload_n 1, 1) := by decide +kernel
theorem dX11_renewCache_88 : decode cX11_renewCache 88 = .ok (.aload_n 0, 1) := by decide +kernel
theorem dX11_renewCache_89 : decode cX11_renewCache 89 = .ok (.getfield 25, 3) := by decide +kernel
theorem dX11_renewCache_92 : decode cX11_renewCache 92 = .ok (.iload_n 1, 1) := by decide +kernel
theorem dX11_renewCache_93 : decode cX11_renewCache 93 = .ok (.invokevirtual 346, 3) := by decide +kernel
theorem dX11_renewCache_96 : decode cX11_renewCache 96 = .ok (.invokevirtual 110, 3) := by decide +kernel
theorem dX11_renewCache_99 : decode cX11_renewCache 99 = .ok (.invokevirtual 366, 3) := by decide +kernel
theorem dX11_renewCache_102 : decode cX11_renewCache 102 = .ok (.iinc 1 1, 3) := by decide +kernel
theorem dX11_renewCache_105 : decode cX11_renewCache 105 = .ok (.goto (-67), 3) := by decide +kernel
theorem dX11_renewCache_108 : decode cX11_renewCache 108 = .ok (.return_, 1) := by decide +kernel
theorem dX11_has_0 : decode cX11_has 0 = .ok (.iload_n 1, 1) := by decide +kernel
theorem dX11_has_1 : decode cX11_has 1 = .ok (.ifCond .lt 21, 3) := by decide +kernel
theorem dX11_has_4 : decode cX11_has 4 = .ok (.iload_n 1, 1) := by decide +kernel
theorem dX11_has_5 : decode cX11_has 5 = .ok (.bipush 14, 2) := by decide +kernel
theorem dX11_has_7 : decode cX11_has 7 = .ok (.if_icmp .ge 15, 3) := by decide +kernel
theorem dX11_has_10 : decode cX11_has 10 = .ok (.iload_n 0, 1) := by decide +kernel
theorem dX11_has_11 : decode cX11_has 11 = .ok (.iload_n 1, 1) := by decide +kernel
theorem dX11_has_12 : decode cX11_has 12 = .ok (.ishr, 1) := by decide +kernel
theorem dX11_has_13 : decode cX11_has 13 = .ok (.iconst 1, 1) := by decide +kernel
theorem dX11_has_14 : decode cX11_has 14 = .ok (.iand, 1) := by decide +kernel
theorem dX11_has_15 : decode cX11_has 15 = .ok (.ifCond .eq 7, 3) := by decide +kernel
theorem dX11_has_18 : decode cX11_has 18 = .ok (.iconst 1, 1) := by decide +kernel
theorem dX11_has_19 : decode cX11_has 19 = .ok (.goto 4, 3) := by decide +kernel
theorem dX11_has_22 : decode cX11_has 22 = .ok (.iconst 0, 1) := by decide +kernel
theorem dX11_has_23 : decode cX11_has 23 = .ok (.ireturn, 1) := by decide +kernel
theorem dX11_with_0 : decode cX11_with 0 = .ok (.iload_n 1, 1) := by decide +kernel
theorem dX11_with_1 : decode cX11_with 1 = .ok (.ifCond .lt 17, 3) := by decide +kernel
theorem dX11_with_4 : decode cX11_with 4 = .ok (.iload_n 1, 1) := by decide +kernel
theorem dX11_with_5 : decode cX11_with 5 = .ok (.bipush 14, 2) := by decide +kernel
theorem dX11_with_7 : decode cX11_with 7 = .ok (.if_icmp .ge 11, 3) := by decide +kernel
theorem dX11_with_10 : decode cX11_with 10 = .ok (.iload_n 0, 1) := by decide +kernel
theorem dX11_with_11 : decode cX11_with 11 = .ok (.iconst 1, 1) := by decide +kernel
theorem dX11_with_12 : decode cX11_with 12 = .ok (.iload_n 1, 1) := by decide +kernel
theorem dX11_with_13 : decode cX11_with 13 = .ok (.ishl, 1) := by decide +kernel
theorem dX11_with_14 : decode cX11_with 14 = .ok (.ior, 1) := by decide +kernel
theorem dX11_with_15 : decode cX11_with 15 = .ok (.goto 4, 3) := by decide +kernel
theorem dX11_with_18 : decode cX11_with 18 = .ok (.iload_n 0, 1) := by decide +kernel
theorem dX11_with_19 : decode cX11_with 19 = .ok (.ireturn, 1) := by decide +kernel
theorem dX11_modulo_0 : decode cX11_modulo 0 = .ok (.iload_n 1, 1) := by decide +kernel
theorem dX11_modulo_1 : decode cX11_modulo 1 = .ok (.iconst 1, 1) := by decide +kernel
theorem dX11_modulo_2 : decode cX11_modulo 2 = .ok (.if_icmp .ge 7, 3) := by decide +kernel
theorem dX11_modulo_5 : decode cX11_modulo 5 = .ok (.iconst 0, 1) := by decide +kernel
theorem dX11_modulo_6 : decode cX11_modulo 6 = .ok (.goto 8, 3) := by decide +kernel
theorem dX11_modulo_9 : decode cX11_modulo 9 = .ok (.iload_n 0, 1) := by decide +kernel
theorem dX11_modulo_10 : decode cX11_modulo 10 = .ok (.iload_n 1, 1) := by decide +kernel
theorem dX11_modulo_11 : decode cX11_modulo 11 = .ok (.invokestatic 369, 3) := by decide +kernel
theorem dX11_modulo_14 : decode cX11_modulo 14 = .ok (.ireturn, 1) := by decide +kernel
