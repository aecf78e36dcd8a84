theorem dX7_init_0 : decode cX7_init 0 = .ok (.aload_n 0, 1) := by decide +kernel
theorem dX7_init_1 : decode cX7_init 1 = .ok (.invokespecial 1, 3) := by decide +kernel
theorem dX7_init_4 : decode cX7_init 4 = .ok (.aload_n 0, 1) := by decide +kernel
theorem dX7_init_5 : decode cX7_init 5 = .ok (.new 7, 3) := by decide +kernel
theorem dX7_init_8 : decode cX7_init 8 = .ok (.dup, 1) := by decide +kernel
theorem dX7_init_9 : decode cX7_init 9 = .ok (.invokespecial 9, 3) := by decide +kernel
theorem dX7_init_12 : decode cX7_init 12 = .ok (.putfield 10, 3) := by decide +kernel
theorem dX7_init_15 : decode cX7_init 15 = .ok (.aload_n 0, 1) := by decide +kernel
theorem dX7_init_16 : decode cX7_init 16 = .ok (.new 7, 3) := by decide +kernel
theorem dX7_init_19 : decode cX7_init 19 = .ok (.dup, 1) := by decide +kernel
theorem dX7_init_20 : decode cX7_init 20 = .ok (.invokespecial 9, 3) := by decide +kernel
theorem dX7_init_23 : decode cX7_init 23 = .ok (.putfield 16, 3) := by decide +kernel
theorem dX7_init_26 : decode cX7_init 26 = .ok (.aload_n 0, 1) := by decide +kernel
theorem dX7_init_27 : decode cX7_init 27 = .ok (.new 19, 3) := by decide +kernel
theorem dX7_init_30 : decode cX7_init 30 = .ok (.dup, 1) := by decide +kernel
theorem dX7_init_31 : decode cX7_init 31 = .ok (.invokespecial 21, 3) := by decide +kernel
theorem dX7_init_34 : decode cX7_init 34 = .ok (.putfield 22, 3) := by decide +kernel
theorem dX7_init_37 : decode cX7_init 37 = .ok (.aload_n 0, 1) := by decide +kernel
theorem dX7_init_38 : decode cX7_init 38 = .ok (.new 26, 3) := by decide +kernel
theorem dX7_init_41 : decode cX7_init 41 = .ok (.dup, 1) := by decide +kernel
theorem dX7_init_42 : decode cX7_init 42 = .ok (.invokespecial 28, 3) := by decide +kernel
theorem dX7_init_45 : decode cX7_init 45 = .ok (.putfield 29, 3) := by decide +kernel
theorem dX7_init_48 : decode cX7_init 48 = .ok (.return_, 1) := by decide +kernel
theorem dX7_insert_0 : decode cX7_insert 0 = .ok (.iload_n 1, 1) := by decide +kernel
theorem dX7_insert_1 : decode cX7_insert 1 = .ok (.invokestatic 33, 3) := by decide +kernel
theorem dX7_insert_4 : decode cX7_insert 4 = .ok (.aload_n 0, 1) := by decide +kernel
theorem dX7_insert_5 : decode cX7_insert 5 = .ok (.getfield 10, 3) := by decide +kernel
theorem dX7_insert_8 : decode cX7_insert 8 = .ok (.invokevirtual 37, 3) := by decide +kernel
theorem dX7_insert_11 : decode cX7_insert 11 = .ok (.bipush 30, 2) := by decide +kernel
theorem dX7_insert_13 : decode cX7_insert 13 = .ok (.if_icmp .lt 13, 3) := by decide +kernel
theorem dX7_insert_16 : decode cX7_insert 16 = .ok (.new 41, 3) := by decide +kernel
theorem dX7_insert_19 : decode cX7_insert 19 = .ok (.dup, 1) := by decide +kernel
theorem dX7_insert_20 : decode cX7_insert 20 = .ok (.ldc 43, 2) := by decide +kernel
theorem dX7_insert_22 : decode cX7_insert 22 = .ok (.invokespecial 45, 3) := by decide +kernel
theorem dX7_insert_25 : decode cX7_insert 25 = .ok (.athrow, 1) := by decide +kernel
theorem dX7_insert_26 : decode cX7_insert 26 = .ok (.aload_n 0, 1) := by decide +kernel
theorem dX7_insert_27 : decode cX7_insert 27 = .ok (.getfield 22, 3) := by decide +kernel
theorem dX7_insert_30 : decode cX7_insert 30 = .ok (.aload_n 0, 1) := by decide +kernel
theorem dX7_insert_31 : decode cX7_insert 31 = .ok (.getfield 10, 3) := by decide +kernel
theorem dX7_insert_34 : decode cX7_insert 34 = .ok (.invokevirtual 48, 3) := by decide +kernel
theorem dX7_insert_37 : decode cX7_insert 37 = .ok (.aload_n 0, 1) := by decide +kernel
theorem dX7_insert_38 : decode cX7_insert 38 = .ok (.getfield 10, 3) := by decide +kernel
theorem dX7_insert_41 : decode cX7_insert 41 = .ok (.iload_n 1, 1) := by decide +kernel
theorem dX7_insert_42 : decode cX7_insert 42 = .ok (.invokevirtual 52, 3) := by decide +kernel
theorem dX7_insert_45 : decode cX7_insert 45 = .ok (.ireturn, 1) := by decide +kernel
theorem dX7_takeLeast_0 : decode cX7_takeLeast 0 = .ok (.aload_n 0, 1) := by decide +kernel
theorem dX7_takeLeast_1 : decode cX7_takeLeast 1 = .ok (.invokevirtual 56, 3) := by decide +kernel
theorem dX7_takeLeast_4 : decode cX7_takeLeast 4 = .ok (.aload_n 0, 1) := by decide +kernel
theorem dX7_takeLeast_5 : decode cX7_takeLeast 5 = .ok (.getfield 22, 3) := by decide +kernel
theorem dX7_takeLeast_8 : decode cX7_takeLeast 8 = .ok (.aload_n 0, 1) := by decide +kernel
theorem dX7_takeLeast_9 : decode cX7_takeLeast 9 = .ok (.getfield 10, 3) := by decide +kernel
theorem dX7_takeLeast_12 : decode cX7_takeLeast 12 = .ok (.invokevirtual 48, 3) := by decide +kernel
theorem dX7_takeLeast_15 : decode cX7_takeLeast 15 = .ok (.aload_n 0, 1) := by decide +kernel
theorem dX7_takeLeast_16 : decode cX7_takeLeast 16 = .ok (.getfield 10, 3) := by decide +kernel
theorem dX7_takeLeast_19 : decode cX7_takeLeast 19 = .ok (.iconst 0, 1) := by decide +kernel
theorem dX7_takeLeast_20 : decode cX7_takeLeast 20 = .ok (.invokevirtual 59, 3) := by decide +kernel
theorem dX7_takeLeast_23 : decode cX7_takeLeast 23 = .ok (.istore_n 1, 1) := by decide +kernel
theorem dX7_takeLeast_24 : decode cX7_takeLeast 24 = .ok (.aload_n 0, 1) := by decide +kernel
theorem dX7_takeLeast_25 : decode cX7_takeLeast 25 = .ok (.getfield 10, 3) := by decide +kernel
theorem dX7_takeLeast_28 : decode cX7_takeLeast 28 = .ok (.iconst 1, 1) := by decide +kernel
theorem dX7_takeLeast_29 : decode cX7_takeLeast 29 = .ok (.iconst (-1), 1) := by decide +kernel
theorem dX7_takeLeast_30 : decode cX7_takeLeast 30 = .ok (.iconst (-1), 1) := by decide +kernel
theorem dX7_takeLeast_31 : decode cX7_takeLeast 31 = .ok (.invokevirtual 62, 3) := by decide +kernel
theorem dX7_takeLeast_34 : decode cX7_takeLeast 34 = .ok (.pop, 1) := by decide +kernel
theorem dX7_takeLeast_35 : decode cX7_takeLeast 35 = .ok (.iload_n 1, 1) := by decide +kernel
theorem dX7_takeLeast_36 : decode cX7_takeLeast 36 = .ok (.ireturn, 1) := by decide +kernel
theorem dX7_takeGreatest_0 : decode cX7_takeGreatest 0 = .ok (.aload_n 0, 1) := by decide +kernel
theorem dX7_takeGreatest_1 : decode cX7_takeGreatest 1 = .ok (.invokevirtual 56, 3) := by decide +kernel
theorem dX7_takeGreatest_4 : decode cX7_takeGreatest 4 = .ok (.aload_n 0, 1) := by decide +kernel
theorem dX7_takeGreatest_5 : decode cX7_takeGreatest 5 = .ok (.getfield 22, 3) := by decide +kernel
theorem dX7_takeGreatest_8 : decode cX7_takeGreatest 8 = .ok (.aload_n 0, 1) := by decide +kernel
theorem dX7_takeGreatest_9 : decode cX7_takeGreatest 9 = .ok (.getfield 10, 3) := by decide +kernel
theorem dX7_takeGreatest_12 : decode cX7_takeGreatest 12 = .ok (.invokevirtual 48, 3) := by decide +kernel
theorem dX7_takeGreatest_15 : decode cX7_takeGreatest 15 = .ok (.aload_n 0, 1) := by decide +kernel
theorem dX7_takeGreatest_16 : decode cX7_takeGreatest 16 = .ok (.getfield 10, 3) := by decide +kernel
theorem dX7_takeGreatest_19 : decode cX7_takeGreatest 19 = .ok (.iconst 0, 1) := by decide +kernel
theorem dX7_takeGreatest_20 : decode cX7_takeGreatest 20 = .ok (.invokevirtual 66, 3) := by decide +kernel
theorem dX7_takeGreatest_23 : decode cX7_takeGreatest 23 = .ok (.istore_n 1, 1) := by decide +kernel
theorem dX7_takeGreatest_24 : decode cX7_takeGreatest 24 = .ok (.aload_n 0, 1) := by decide +kernel
theorem dX7_takeGreatest_25 : decode cX7_takeGreatest 25 = .ok (.getfield 10, 3) := by decide +kernel
theorem dX7_takeGreatest_28 : decode cX7_takeGreatest 28 = .ok (.iconst 2, 1) := by decide +kernel
theorem dX7_takeGreatest_29 : decode cX7_takeGreatest 29 = .ok (.iconst (-1), 1) := by decide +kernel
theorem dX7_takeGreatest_30 : decode cX7_takeGreatest 30 = .ok (.iconst (-1), 1) := by decide +kernel
theorem dX7_takeGreatest_31 : decode cX7_takeGreatest 31 = .ok (.invokevirtual 62, 3) := by decide +kernel
theorem dX7_takeGreatest_34 : decode cX7_takeGreatest 34 = .ok (.pop, 1) := by decide +kernel
theorem dX7_takeGreatest_35 : decode cX7_takeGreatest 35 = .ok (.iload_n 1, 1) := by decide +kernel
theorem dX7_takeGreatest_36 : decode cX7_takeGreatest 36 = .ok (.ireturn, 1) := by decide +kernel
theorem dX7_remove_0 : decode cX7_remove 0 = .ok (.aload_n 0, 1) := by decide +kernel
theorem dX7_remove_1 : decode cX7_remove 1 = .ok (.iload_n 1, 1) := by decide +kernel
theorem dX7_remove_2 : decode cX7_remove 2 = .ok (.invokevirtual 69, 3) := by decide +kernel
theorem dX7_remove_5 : decode cX7_remove 5 = .ok (.aload_n 0, 1) := by decide +kernel
theorem dX7_remove_6 : decode cX7_remove 6 = .ok (.getfield 22, 3) := by decide +kernel
theorem dX7_remove_9 : decode cX7_remove 9 = .ok (.aload_n 0, 1) := by decide +kernel
theorem dX7_remove_10 : decode cX7_remove 10 = .ok (.getfield 10, 3) := by decide +kernel
theorem dX7_remove_13 : decode cX7_remove 13 = .ok (.invokevirtual 48, 3) := by decide +kernel
theorem dX7_remove_16 : decode cX7_remove 16 = .ok (.aload_n 0, 1) := by decide +kernel
theorem dX7_remove_17 : decode cX7_remove 17 = .ok (.getfield 10, 3) := by decide +kernel
theorem dX7_remove_20 : decode cX7_remove 20 = .ok (.iload_n 1, 1) := by decide +kernel
theorem dX7_remove_21 : decode cX7_remove 21 = .ok (.invokevirtual 72, 3) := by decide +kernel
theorem dX7_remove_24 : decode cX7_remove 24 = .ok (.istore_n 2, 1) := by decide +kernel
theorem dX7_remove_25 : decode cX7_remove 25 = .ok (.aload_n 0, 1) := by decide +kernel
theorem dX7_remove_26 : decode cX7_remove 26 = .ok (.getfield 10, 3) := by decide +kernel
theorem dX7_remove_29 : decode cX7_remove 29 = .ok (.iload_n 1, 1) := by decide +kernel
theorem dX7_remove_30 : decode cX7_remove 30 = .ok (.invokevirtual 75, 3) := by decide +kernel
theorem dX7_remove_33 : decode cX7_remove 33 = .ok (.iload_n 2, 1) := by decide +kernel
theorem dX7_remove_34 : decode cX7_remove 34 = .ok (.ireturn, 1) := by decide +kernel
theorem dX7_change_0 : decode cX7_change 0 = .ok (.aload_n 0, 1) := by decide +kernel
theorem dX7_change_1 : decode cX7_change 1 = .ok (.iload_n 1, 1) := by decide +kernel
theorem dX7_change_2 : decode cX7_change 2 = .ok (.invokevirtual 69, 3) := by decide +kernel
theorem dX7_change_5 : decode cX7_change 5 = .ok (.iload_n 2, 1) := by decide +kernel
theorem dX7_change_6 : decode cX7_change 6 = .ok (.invokestatic 33, 3) := by decide +kernel
theorem dX7_change_9 : decode cX7_change 9 = .ok (.aload_n 0, 1) := by decide +kernel
theorem dX7_change_10 : decode cX7_change 10 = .ok (.getfield 22, 3) := by decide +kernel
theorem dX7_change_13 : decode cX7_change 13 = .ok (.aload_n 0, 1) := by decide +kernel
theorem dX7_change_14 : decode cX7_change 14 = .ok (.getfield 10, 3) := by decide +kernel
theorem dX7_change_17 : decode cX7_change 17 = .ok (.invokevirtual 48, 3) := by decide +kernel
theorem dX7_change_20 : decode cX7_change 20 = .ok (.aload_n 0, 1) := by decide +kernel
theorem dX7_change_21 : decode cX7_change 21 = .ok (.getfield 10, 3) := by decide +kernel
theorem dX7_change_24 : decode cX7_change 24 = .ok (.iload_n 1, 1) := by decide +kernel
theorem dX7_change_25 : decode cX7_change 25 = .ok (.invokevirtual 72, 3) := by decide +kernel
theorem dX7_change_28 : decode cX7_change 28 = .ok (.istore_n 3, 1) := by decide +kernel
theorem dX7_change_29 : decode cX7_change 29 = .ok (.aload_n 0, 1) := by decide +kernel
theorem dX7_change_30 : decode cX7_change 30 = .ok (.getfield 10, 3) := by decide +kernel
theorem dX7_change_33 : decode cX7_change 33 = .ok (.iload_n 1, 1) := by decide +kernel
theorem dX7_change_34 : decode cX7_change 34 = .ok (.iload_n 2, 1) := by decide +kernel
theorem dX7_change_35 : decode cX7_change 35 = .ok (.invokevirtual 78, 3) := by decide +kernel
theorem dX7_change_38 : decode cX7_change 38 = .ok (.iload_n 3, 1) := by decide +kernel
theorem dX7_change_39 : decode cX7_change 39 = .ok (.ireturn, 1) := by decide +kernel
theorem dX7_build_0 : decode cX7_build 0 = .ok (.aload_n 0, 1) := by decide +kernel
theorem dX7_build_1 : decode cX7_build 1 = .ok (.getfield 22, 3) := by decide +kernel
theorem dX7_build_4 : decode cX7_build 4 = .ok (.aload_n 0, 1) := by decide +kernel
theorem dX7_build_5 : decode cX7_build 5 = .ok (.getfield 10, 3) := by decide +kernel
theorem dX7_build_8 : decode cX7_build 8 = .ok (.invokevirtual 48, 3) := by decide +kernel
theorem dX7_build_11 : decode cX7_build 11 = .ok (.aload_n 0, 1) := by decide +kernel
theorem dX7_build_12 : decode cX7_build 12 = .ok (.getfield 10, 3) := by decide +kernel
theorem dX7_build_15 : decode cX7_build 15 = .ok (.invokevirtual 82, 3) := by decide +kernel
theorem dX7_build_18 : decode cX7_build 18 = .ok (.istore_n 1, 1) := by decide +kernel
theorem dX7_build_19 : decode cX7_build 19 = .ok (.aload_n 0, 1) := by decide +kernel
theorem dX7_build_20 : decode cX7_build 20 = .ok (.getfield 10, 3) := by decide +kernel
theorem dX7_build_23 : decode cX7_build 23 = .ok (.invokevirtual 85, 3) := by decide +kernel
theorem dX7_build_26 : decode cX7_build 26 = .ok (.aload_n 0, 1) := by decide +kernel
theorem dX7_build_27 : decode cX7_build 27 = .ok (.getfield 10, 3) := by decide +kernel
theorem dX7_build_30 : decode cX7_build 30 = .ok (.invokevirtual 82, 3) := by decide +kernel
theorem dX7_build_33 : decode cX7_build 33 = .ok (.iload_n 1, 1) := by decide +kernel
theorem dX7_build_34 : decode cX7_build 34 = .ok (.isub, 1) := by decide +kernel
theorem dX7_build_35 : decode cX7_build 35 = .ok (.ireturn, 1) := by decide +kernel
theorem dX7_clear_0 : decode cX7_clear 0 = .ok (.aload_n 0, 1) := by decide +kernel
theorem dX7_clear_1 : decode cX7_clear 1 = .ok (.getfield 22, 3) := by decide +kernel
theorem dX7_clear_4 : decode cX7_clear 4 = .ok (.aload_n 0, 1) := by decide +kernel
theorem dX7_clear_5 : decode cX7_clear 5 = .ok (.getfield 10, 3) := by decide +kernel
theorem dX7_clear_8 : decode cX7_clear 8 = .ok (.invokevirtual 48, 3) := by decide +kernel
theorem dX7_clear_11 : decode cX7_clear 11 = .ok (.aload_n 0, 1) := by decide +kernel
theorem dX7_clear_12 : decode cX7_clear 12 = .ok (.getfield 10, 3) := by decide +kernel
theorem dX7_clear_15 : decode cX7_clear 15 = .ok (.invokevirtual 37, 3) := by decide +kernel
theorem dX7_clear_18 : decode cX7_clear 18 = .ok (.istore_n 1, 1) := by decide +kernel
theorem dX7_clear_19 : decode cX7_clear 19 = .ok (.aload_n 0, 1) := by decide +kernel
theorem dX7_clear_20 : decode cX7_clear 20 = .ok (.getfield 10, 3) := by decide +kernel
theorem dX7_clear_23 : decode cX7_clear 23 = .ok (.invokevirtual 88, 3) := by decide +kernel
theorem dX7_clear_26 : decode cX7_clear 26 = .ok (.iload_n 1, 1) := by decide +kernel
theorem dX7_clear_27 : decode cX7_clear 27 = .ok (.ireturn, 1) := by decide +kernel
theorem dX7_size_0 : decode cX7_size 0 = .ok (.aload_n 0, 1) := by decide +kernel
theorem dX7_size_1 : decode cX7_size 1 = .ok (.getfield 10, 3) := by decide +kernel
theorem dX7_size_4 : decode cX7_size 4 = .ok (.invokevirtual 37, 3) := by decide +kernel
theorem dX7_size_7 : decode cX7_size 7 = .ok (.ireturn, 1) := by decide +kernel
theorem dX7_handles_0 : decode cX7_handles 0 = .ok (.aload_n 0, 1) := by decide +kernel
theorem dX7_handles_1 : decode cX7_handles 1 = .ok (.getfield 10, 3) := by decide +kernel
theorem dX7_handles_4 : decode cX7_handles 4 = .ok (.invokevirtual 91, 3) := by decide +kernel
theorem dX7_handles_7 : decode cX7_handles 7 = .ok (.ireturn, 1) := by decide +kernel
theorem dX7_key_0 : decode cX7_key 0 = .ok (.aload_n 0, 1) := by decide +kernel
theorem dX7_key_1 : decode cX7_key 1 = .ok (.iload_n 1, 1) := by decide +kernel
theorem dX7_key_2 : decode cX7_key 2 = .ok (.invokevirtual 69, 3) := by decide +kernel
theorem dX7_key_5 : decode cX7_key 5 = .ok (.aload_n 0, 1) := by decide +kernel
theorem dX7_key_6 : decode cX7_key 6 = .ok (.getfield 10, 3) := by decide +kernel
theorem dX7_key_9 : decode cX7_key 9 = .ok (.iload_n 1, 1) := by decide +kernel
theorem dX7_key_10 : decode cX7_key 10 = .ok (.invokevirtual 72, 3) := by decide +kernel
theorem dX7_key_13 : decode cX7_key 13 = .ok (.ireturn, 1) := by decide +kernel
theorem dX7_fill_0 : decode cX7_fill 0 = .ok (.iload_n 1, 1) := by decide +kernel
theorem dX7_fill_1 : decode cX7_fill 1 = .ok (.iconst 1, 1) := by decide +kernel
theorem dX7_fill_2 : decode cX7_fill 2 = .ok (.if_icmp .lt 13, 3) := by decide +kernel
theorem dX7_fill_5 : decode cX7_fill 5 = .ok (.iload_n 1, 1) := by decide +kernel
theorem dX7_fill_6 : decode cX7_fill 6 = .ok (.bipush 30, 2) := by decide +kernel
theorem dX7_fill_8 : decode cX7_fill 8 = .ok (.if_icmp .gt 7, 3) := by decide +kernel
theorem dX7_fill_11 : decode cX7_fill 11 = .ok (.iload_n 2, 1) := by decide +kernel
theorem dX7_fill_12 : decode cX7_fill 12 = .ok (.ifCond .ge 13, 3) := by decide +kernel
theorem dX7_fill_15 : decode cX7_fill 15 = .ok (.new 94, 3) := by decide +kernel
theorem dX7_fill_18 : decode cX7_fill 18 = .ok (.dup, 1) := by decide +kernel
theorem dX7_fill_19 : decode cX7_fill 19 = .ok (.ldc 96, 2) := by decide +kernel
theorem dX7_fill_21 : decode cX7_fill 21 = .ok (.invokespecial 98, 3) := by decide +kernel
theorem dX7_fill_24 : decode cX7_fill 24 = .ok (.athrow, 1) := by decide +kernel
theorem dX7_fill_25 : decode cX7_fill 25 = .ok (.iload_n 1, 1) := by decide +kernel
theorem dX7_fill_26 : decode cX7_fill 26 = .ok (.bipush 30, 2) := by decide +kernel
theorem dX7_fill_28 : decode cX7_fill 28 = .ok (.aload_n 0, 1) := by decide +kernel
theorem dX7_fill_29 : decode cX7_fill 29 = .ok (.getfield 10, 3) := by decide +kernel
theorem dX7_fill_32 : decode cX7_fill 32 = .ok (.invokevirtual 37, 3) := by decide +kernel
theorem dX7_fill_35 : decode cX7_fill 35 = .ok (.isub, 1) := by decide +kernel
theorem dX7_fill_36 : decode cX7_fill 36 = .ok (.if_icmp .le 13, 3) := by decide +kernel
theorem dX7_fill_39 : decode cX7_fill 39 = .ok (.new 41, 3) := by decide +kernel
theorem dX7_fill_42 : decode cX7_fill 42 = .ok (.dup, 1) := by decide +kernel
theorem dX7_fill_43 : decode cX7_fill 43 = .ok (.ldc 99, 2) := by decide +kernel
theorem dX7_fill_45 : decode cX7_fill 45 = .ok (.invokespecial 45, 3) := by decide +kernel
theorem dX7_fill_48 : decode cX7_fill 48 = .ok (.athrow, 1) := by decide +kernel
theorem dX7_fill_49 : decode cX7_fill 49 = .ok (.aload_n 0, 1) := by decide +kernel
theorem dX7_fill_50 : decode cX7_fill 50 = .ok (.getfield 22, 3) := by decide +kernel
theorem dX7_fill_53 : decode cX7_fill 53 = .ok (.aload_n 0, 1) := by decide +kernel
theorem dX7_fill_54 : decode cX7_fill 54 = .ok (.getfield 10, 3) := by decide +kernel
theorem dX7_fill_57 : decode cX7_fill 57 = .ok (.invokevirtual 48, 3) := by decide +kernel
theorem dX7_fill_60 : decode cX7_fill 60 = .ok (.iload_n 2, 1) := by decide +kernel
theorem dX7_fill_61 : decode cX7_fill 61 = .ok (.i2l, 1) := by decide +kernel
theorem dX7_fill_62 : decode cX7_fill 62 = .ok (.lstore_n 3, 1) := by decide +kernel
theorem dX7_fill_63 : decode cX7_fill 63 = .ok (.iconst 0, 1) := by decide +kernel
theorem dX7_fill_64 : decode cX7_fill 64 = .ok (.istore 5, 2) := by decide +kernel
theorem dX7_fill_66 : decode cX7_fill 66 = .ok (.iload 5, 2) := by decide +kernel
theorem dX7_fill_68 : decode cX7_fill 68 = .ok (.iload_n 1, 1) := by decide +kernel
theorem dX7_fill_69 : decode cX7_fill 69 = .ok (.if_icmp .ge 44, 3) := by decide +kernel
theorem dX7_fill_72 : decode cX7_fill 72 = .ok (.ldc2_w 101, 3) := by decide +kernel
theorem dX7_fill_75 : decode cX7_fill 75 = .ok (.lload_n 3, 1) := by decide +kernel
theorem dX7_fill_76 : decode cX7_fill 76 = .ok (.lmul, 1) := by decide +kernel
theorem dX7_fill_77 : decode cX7_fill 77 = .ok (.ldc2_w 103, 3) := by decide +kernel
theorem dX7_fill_80 : decode cX7_fill 80 = .ok (.ladd, 1) := by decide +kernel
theorem dX7_fill_81 : decode cX7_fill 81 = .ok (.ldc2_w 105, 3) := by decide +kernel
theorem dX7_fill_84 : decode cX7_fill 84 = .ok (.lrem, 1) := by decide +kernel
theorem dX7_fill_85 : decode cX7_fill 85 = .ok (.lstore_n 3, 1) := by decide +kernel
theorem dX7_fill_86 : decode cX7_fill 86 = .ok (.aload_n 0, 1) := by decide +kernel
theorem dX7_fill_87 : decode cX7_fill 87 = .ok (.getfield 10, 3) := by decide +kernel
theorem dX7_fill_90 : decode cX7_fill 90 = .ok (.lload_n 3, 1) := by decide +kernel
theorem dX7_fill_91 : decode cX7_fill 91 = .ok (.ldc2_w 107, 3) := by decide +kernel
theorem dX7_fill_94 : decode cX7_fill 94 = .ok (.ldiv, 1) := by decide +kernel
theorem dX7_fill_95 : decode cX7_fill 95 = .ok (.ldc2_w 109, 3) := by decide +kernel
theorem dX7_fill_98 : decode cX7_fill 98 = .ok (.lrem, 1) := by decide +kernel
theorem dX7_fill_99 : decode cX7_fill 99 = .ok (.l2i, 1) := by decide +kernel
theorem dX7_fill_100 : decode cX7_fill 100 = .ok (.bipush 100, 2) := by decide +kernel
theorem dX7_fill_102 : decode cX7_fill 102 = .ok (.isub, 1) := by decide +kernel
theorem dX7_fill_103 : decode cX7_fill 103 = .ok (.invokevirtual 52, 3) := by decide +kernel
theorem dX7_fill_106 : decode cX7_fill 106 = .ok (.pop, 1) := by decide +kernel
theorem dX7_fill_107 : decode cX7_fill 107 = .ok (.iinc 5 1, 3) := by decide +kernel
theorem dX7_fill_110 : decode cX7_fill 110 = .ok (.goto (-44), 3) := by decide +kernel
theorem dX7_fill_113 : decode cX7_fill 113 = .ok (.aload_n 0, 1) := by decide +kernel
theorem dX7_fill_114 : decode cX7_fill 114 = .ok (.getfield 10, 3) := by decide +kernel
theorem dX7_fill_117 : decode cX7_fill 117 = .ok (.invokevirtual 37, 3) := by decide +kernel
theorem dX7_fill_120 : decode cX7_fill 120 = .ok (.ireturn, 1) := by decide +kernel
theorem dX7_least_0 : decode cX7_least 0 = .ok (.iload_n 1, 1) := by decide +kernel
theorem dX7_least_1 : decode cX7_least 1 = .ok (.invokestatic 111, 3) := by decide +kernel
theorem dX7_least_4 : decode cX7_least 4 = .ok (.aload_n 0, 1) := by decide +kernel
theorem dX7_least_5 : decode cX7_least 5 = .ok (.getfield 10, 3) := by decide +kernel
theorem dX7_least_8 : decode cX7_least 8 = .ok (.iload_n 1, 1) := by decide +kernel
theorem dX7_least_9 : decode cX7_least 9 = .ok (.invokevirtual 59, 3) := by decide +kernel
theorem dX7_least_12 : decode cX7_least 12 = .ok (.ireturn, 1) := by decide +kernel
theorem dX7_greatest_0 : decode cX7_greatest 0 = .ok (.iload_n 1, 1) := by decide +kernel
theorem dX7_greatest_1 : decode cX7_greatest 1 = .ok (.invokestatic 111, 3) := by decide +kernel
theorem dX7_greatest_4 : decode cX7_greatest 4 = .ok (.aload_n 0, 1) := by decide +kernel
theorem dX7_greatest_5 : decode cX7_greatest 5 = .ok (.getfield 10, 3) := by decide +kernel
theorem dX7_greatest_8 : decode cX7_greatest 8 = .ok (.iload_n 1, 1) := by decide +kernel
theorem dX7_greatest_9 : decode cX7_greatest 9 = .ok (.invokevirtual 66, 3) := by decide +kernel
theorem dX7_greatest_12 : decode cX7_greatest 12 = .ok (.ireturn, 1) := by decide +kernel
theorem dX7_ranked_0 : decode cX7_ranked 0 = .ok (.iconst 0, 1) := by decide +kernel
theorem dX7_ranked_1 : decode cX7_ranked 1 = .ok (.istore_n 2, 1) := by decide +kernel
theorem dX7_ranked_2 : decode cX7_ranked 2 = .ok (.iload_n 2, 1) := by decide +kernel
theorem dX7_ranked_3 : decode cX7_ranked 3 = .ok (.bipush 30, 2) := by decide +kernel
theorem dX7_ranked_5 : decode cX7_ranked 5 = .ok (.if_icmp .ge 34, 3) := by decide +kernel
theorem dX7_ranked_8 : decode cX7_ranked 8 = .ok (.aload_n 0, 1) := by decide +kernel
theorem dX7_ranked_9 : decode cX7_ranked 9 = .ok (.getfield 10, 3) := by decide +kernel
theorem dX7_ranked_12 : decode cX7_ranked 12 = .ok (.iload_n 2, 1) := by decide +kernel
theorem dX7_ranked_13 : decode cX7_ranked 13 = .ok (.invokevirtual 114, 3) := by decide +kernel
theorem dX7_ranked_16 : decode cX7_ranked 16 = .ok (.ifCond .eq 17, 3) := by decide +kernel
theorem dX7_ranked_19 : decode cX7_ranked 19 = .ok (.aload_n 0, 1) := by decide +kernel
theorem dX7_ranked_20 : decode cX7_ranked 20 = .ok (.getfield 10, 3) := by decide +kernel
theorem dX7_ranked_23 : decode cX7_ranked 23 = .ok (.iload_n 2, 1) := by decide +kernel
theorem dX7_ranked_24 : decode cX7_ranked 24 = .ok (.invokevirtual 118, 3) := by decide +kernel
theorem dX7_ranked_27 : decode cX7_ranked 27 = .ok (.iload_n 1, 1) := by decide +kernel
theorem dX7_ranked_28 : decode cX7_ranked 28 = .ok (.if_icmp .ne 5, 3) := by decide +kernel
theorem dX7_ranked_31 : decode cX7_ranked 31 = .ok (.iload_n 2, 1) := by decide +kernel
theorem dX7_ranked_32 : decode cX7_ranked 32 = .ok (.ireturn, 1) := by decide +kernel
theorem dX7_ranked_33 : decode cX7_ranked 33 = .ok (.iinc 2 1, 3) := by decide +kernel
theorem dX7_ranked_36 : decode cX7_ranked 36 = .ok (.goto (-34), 3) := by decide +kernel
theorem dX7_ranked_39 : decode cX7_ranked 39 = .ok (.iconst (-1), 1) := by decide +kernel
theorem dX7_ranked_40 : decode cX7_ranked 40 = .ok (.ireturn, 1) := by decide +kernel
theorem dX7_rank_0 : decode cX7_rank 0 = .ok (.aload_n 0, 1) := by decide +kernel
theorem dX7_rank_1 : decode cX7_rank 1 = .ok (.iload_n 1, 1) := by decide +kernel
theorem dX7_rank_2 : decode cX7_rank 2 = .ok (.invokevirtual 69, 3) := by decide +kernel
theorem dX7_rank_5 : decode cX7_rank 5 = .ok (.aload_n 0, 1) := by decide +kernel
theorem dX7_rank_6 : decode cX7_rank 6 = .ok (.getfield 10, 3) := by decide +kernel
theorem dX7_rank_9 : decode cX7_rank 9 = .ok (.iload_n 1, 1) := by decide +kernel
theorem dX7_rank_10 : decode cX7_rank 10 = .ok (.invokevirtual 118, 3) := by decide +kernel
theorem dX7_rank_13 : decode cX7_rank 13 = .ok (.ireturn, 1) := by decide +kernel
theorem dX7_between_0 : decode cX7_between 0 = .ok (.iconst 0, 1) := by decide +kernel
theorem dX7_between_1 : decode cX7_between 1 = .ok (.istore_n 3, 1) := by decide +kernel
theorem dX7_between_2 : decode cX7_between 2 = .ok (.iconst 0, 1) := by decide +kernel
theorem dX7_between_3 : decode cX7_between 3 = .ok (.istore 4, 2) := by decide +kernel
theorem dX7_between_5 : decode cX7_between 5 = .ok (.iload 4, 2) := by decide +kernel
theorem dX7_between_7 : decode cX7_between 7 = .ok (.bipush 30, 2) := by decide +kernel
theorem dX7_between_9 : decode cX7_between 9 = .ok (.if_icmp .ge 50, 3) := by decide +kernel
theorem dX7_between_12 : decode cX7_between 12 = .ok (.aload_n 0, 1) := by decide +kernel
theorem dX7_between_13 : decode cX7_between 13 = .ok (.getfield 10, 3) := by decide +kernel
theorem dX7_between_16 : decode cX7_between 16 = .ok (.iload 4, 2) := by decide +kernel
theorem dX7_between_18 : decode cX7_between 18 = .ok (.invokevirtual 114, 3) := by decide +kernel
theorem dX7_between_21 : decode cX7_between 21 = .ok (.ifCond .eq 32, 3) := by decide +kernel
theorem dX7_between_24 : decode cX7_between 24 = .ok (.aload_n 0, 1) := by decide +kernel
theorem dX7_between_25 : decode cX7_between 25 = .ok (.getfield 10, 3) := by decide +kernel
theorem dX7_between_28 : decode cX7_between 28 = .ok (.iload 4, 2) := by decide +kernel
theorem dX7_between_30 : decode cX7_between 30 = .ok (.invokevirtual 72, 3) := by decide +kernel
theorem dX7_between_33 : decode cX7_between 33 = .ok (.iload_n 1, 1) := by decide +kernel
theorem dX7_between_34 : decode cX7_between 34 = .ok (.if_icmp .lt 19, 3) := by decide +kernel
theorem dX7_between_37 : decode cX7_between 37 = .ok (.aload_n 0, 1) := by decide +kernel
theorem dX7_between_38 : decode cX7_between 38 = .ok (.getfield 10, 3) := by decide +kernel
theorem dX7_between_41 : decode cX7_between 41 = .ok (.iload 4, 2) := by decide +kernel
theorem dX7_between_43 : decode cX7_between 43 = .ok (.invokevirtual 72, 3) := by decide +kernel
theorem dX7_between_46 : decode cX7_between 46 = .ok (.iload_n 2, 1) := by decide +kernel
theorem dX7_between_47 : decode cX7_between 47 = .ok (.if_icmp .gt 6, 3) := by decide +kernel
theorem dX7_between_50 : decode cX7_between 50 = .ok (.iinc 3 1, 3) := by decide +kernel
theorem dX7_between_53 : decode cX7_between 53 = .ok (.iinc 4 1, 3) := by decide +kernel
theorem dX7_between_56 : decode cX7_between 56 = .ok (.goto (-51), 3) := by decide +kernel
theorem dX7_between_59 : decode cX7_between 59 = .ok (.iload_n 3, 1) := by decide +kernel
theorem dX7_between_60 : decode cX7_between 60 = .ok (.ireturn, 1) := by decide +kernel
theorem dX7_at_0 : decode cX7_at 0 = .ok (.iload_n 1, 1) := by decide +kernel
theorem dX7_at_1 : decode cX7_at 1 = .ok (.invokestatic 121, 3) := by decide +kernel
theorem dX7_at_4 : decode cX7_at 4 = .ok (.aload_n 0, 1) := by decide +kernel
theorem dX7_at_5 : decode cX7_at 5 = .ok (.getfield 10, 3) := by decide +kernel
theorem dX7_at_8 : decode cX7_at 8 = .ok (.iload_n 1, 1) := by decide +kernel
theorem dX7_at_9 : decode cX7_at 9 = .ok (.invokevirtual 124, 3) := by decide +kernel
theorem dX7_at_12 : decode cX7_at 12 = .ok (.iload_n 2, 1) := by decide +kernel
theorem dX7_at_13 : decode cX7_at 13 = .ok (.invokevirtual 128, 3) := by decide +kernel
theorem dX7_at_16 : decode cX7_at 16 = .ok (.ireturn, 1) := by decide +kernel
theorem dX7_where_0 : decode cX7_where 0 = .ok (.iload_n 1, 1) := by decide +kernel
theorem dX7_where_1 : decode cX7_where 1 = .ok (.invokestatic 121, 3) := by decide +kernel
theorem dX7_where_4 : decode cX7_where 4 = .ok (.aload_n 0, 1) := by decide +kernel
theorem dX7_where_5 : decode cX7_where 5 = .ok (.iload_n 2, 1) := by decide +kernel
theorem dX7_where_6 : decode cX7_where 6 = .ok (.invokevirtual 69, 3) := by decide +kernel
theorem dX7_where_9 : decode cX7_where 9 = .ok (.aload_n 0, 1) := by decide +kernel
theorem dX7_where_10 : decode cX7_where 10 = .ok (.getfield 10, 3) := by decide +kernel
theorem dX7_where_13 : decode cX7_where 13 = .ok (.iload_n 1, 1) := by decide +kernel
theorem dX7_where_14 : decode cX7_where 14 = .ok (.invokevirtual 124, 3) := by decide +kernel
theorem dX7_where_17 : decode cX7_where 17 = .ok (.iload_n 2, 1) := by decide +kernel
theorem dX7_where_18 : decode cX7_where 18 = .ok (.invokevirtual 133, 3) := by decide +kernel
theorem dX7_where_21 : decode cX7_where 21 = .ok (.ireturn, 1) := by decide +kernel
theorem dX7_violations_0 : decode cX7_violations 0 = .ok (.iload_n 1, 1) := by decide +kernel
theorem dX7_violations_1 : decode cX7_violations 1 = .ok (.invokestatic 121, 3) := by decide +kernel
theorem dX7_violations_4 : decode cX7_violations 4 = .ok (.aload_n 0, 1) := by decide +kernel
theorem dX7_violations_5 : decode cX7_violations 5 = .ok (.getfield 10, 3) := by decide +kernel
theorem dX7_violations_8 : decode cX7_violations 8 = .ok (.iload_n 1, 1) := by decide +kernel
theorem dX7_violations_9 : decode cX7_violations 9 = .ok (.invokevirtual 124, 3) := by decide +kernel
theorem dX7_violations_12 : decode cX7_violations 12 = .ok (.invokevirtual 136, 3) := by decide +kernel
theorem dX7_violations_15 : decode cX7_violations 15 = .ok (.ireturn, 1) := by decide +kernel
theorem dX7_disturb_0 : decode cX7_disturb 0 = .ok (.iload_n 1, 1) := by decide +kernel
theorem dX7_disturb_1 : decode cX7_disturb 1 = .ok (.invokestatic 121, 3) := by decide +kernel
theorem dX7_disturb_4 : decode cX7_disturb 4 = .ok (.aload_n 0, 1) := by decide +kernel
theorem dX7_disturb_5 : decode cX7_disturb 5 = .ok (.iload_n 2, 1) := by decide +kernel
theorem dX7_disturb_6 : decode cX7_disturb 6 = .ok (.invokevirtual 139, 3) := by decide +kernel
theorem dX7_disturb_9 : decode cX7_disturb 9 = .ok (.aload_n 0, 1) := by decide +kernel
theorem dX7_disturb_10 : decode cX7_disturb 10 = .ok (.iload_n 3, 1) := by decide +kernel
theorem dX7_disturb_11 : decode cX7_disturb 11 = .ok (.invokevirtual 139, 3) := by decide +kernel
theorem dX7_disturb_14 : decode cX7_disturb 14 = .ok (.aload_n 0, 1) := by decide +kernel
theorem dX7_disturb_15 : decode cX7_disturb 15 = .ok (.getfield 22, 3) := by decide +kernel
theorem dX7_disturb_18 : decode cX7_disturb 18 = .ok (.aload_n 0, 1) := by decide +kernel
theorem dX7_disturb_19 : decode cX7_disturb 19 = .ok (.getfield 10, 3) := by decide +kernel
theorem dX7_disturb_22 : decode cX7_disturb 22 = .ok (.invokevirtual 48, 3) := by decide +kernel
theorem dX7_disturb_25 : decode cX7_disturb 25 = .ok (.aload_n 0, 1) := by decide +kernel
theorem dX7_disturb_26 : decode cX7_disturb 26 = .ok (.getfield 10, 3) := by decide +kernel
theorem dX7_disturb_29 : decode cX7_disturb 29 = .ok (.iload_n 1, 1) := by decide +kernel
theorem dX7_disturb_30 : decode cX7_disturb 30 = .ok (.invokevirtual 124, 3) := by decide +kernel
theorem dX7_disturb_33 : decode cX7_disturb 33 = .ok (.iload_n 2, 1) := by decide +kernel
theorem dX7_disturb_34 : decode cX7_disturb 34 = .ok (.iload_n 3, 1) := by decide +kernel
theorem dX7_disturb_35 : decode cX7_disturb 35 = .ok (.invokevirtual 142, 3) := by decide +kernel
theorem dX7_disturb_38 : decode cX7_disturb 38 = .ok (.aload_n 0, 1) := by decide +kernel
theorem dX7_disturb_39 : decode cX7_disturb 39 = .ok (.getfield 10, 3) := by decide +kernel
theorem dX7_disturb_42 : decode cX7_disturb 42 = .ok (.iload_n 1, 1) := by decide +kernel
theorem dX7_disturb_43 : decode cX7_disturb 43 = .ok (.invokevirtual 124, 3) := by decide +kernel
theorem dX7_disturb_46 : decode cX7_disturb 46 = .ok (.invokevirtual 136, 3) := by decide +kernel
theorem dX7_disturb_49 : decode cX7_disturb 49 = .ok (.ireturn, 1) := by decide +kernel
theorem dX7_level_0 : decode cX7_level 0 = .ok (.iload_n 1, 1) := by decide +kernel
theorem dX7_level_1 : decode cX7_level 1 = .ok (.ifCond .lt 9, 3) := by decide +kernel
theorem dX7_level_4 : decode cX7_level 4 = .ok (.iload_n 1, 1) := by decide +kernel
theorem dX7_level_5 : decode cX7_level 5 = .ok (.ldc 145, 2) := by decide +kernel
theorem dX7_level_7 : decode cX7_level 7 = .ok (.if_icmp .le 13, 3) := by decide +kernel
theorem dX7_level_10 : decode cX7_level 10 = .ok (.new 94, 3) := by decide +kernel
theorem dX7_level_13 : decode cX7_level 13 = .ok (.dup, 1) := by decide +kernel
theorem dX7_level_14 : decode cX7_level 14 = .ok (.ldc 146, 2) := by decide +kernel
theorem dX7_level_16 : decode cX7_level 16 = .ok (.invokespecial 98, 3) := by decide +kernel
theorem dX7_level_19 : decode cX7_level 19 = .ok (.athrow, 1) := by decide +kernel
theorem dX7_level_20 : decode cX7_level 20 = .ok (.iload_n 1, 1) := by decide +kernel
theorem dX7_level_21 : decode cX7_level 21 = .ok (.invokestatic 148, 3) := by decide +kernel
theorem dX7_level_24 : decode cX7_level 24 = .ok (.ireturn, 1) := by decide +kernel
theorem dX7_ancestors_0 : decode cX7_ancestors 0 = .ok (.aload_n 0, 1) := by decide +kernel
theorem dX7_ancestors_1 : decode cX7_ancestors 1 = .ok (.iload_n 1, 1) := by decide +kernel
theorem dX7_ancestors_2 : decode cX7_ancestors 2 = .ok (.invokevirtual 69, 3) := by decide +kernel
theorem dX7_ancestors_5 : decode cX7_ancestors 5 = .ok (.aload_n 0, 1) := by decide +kernel
theorem dX7_ancestors_6 : decode cX7_ancestors 6 = .ok (.getfield 10, 3) := by decide +kernel
theorem dX7_ancestors_9 : decode cX7_ancestors 9 = .ok (.getfield 153, 3) := by decide +kernel
theorem dX7_ancestors_12 : decode cX7_ancestors 12 = .ok (.iload_n 1, 1) := by decide +kernel
theorem dX7_ancestors_13 : decode cX7_ancestors 13 = .ok (.invokevirtual 157, 3) := by decide +kernel
theorem dX7_ancestors_16 : decode cX7_ancestors 16 = .ok (.aload_n 0, 1) := by decide +kernel
theorem dX7_ancestors_17 : decode cX7_ancestors 17 = .ok (.getfield 10, 3) := by decide +kernel
theorem dX7_ancestors_20 : decode cX7_ancestors 20 = .ok (.getfield 162, 3) := by decide +kernel
theorem dX7_ancestors_23 : decode cX7_ancestors 23 = .ok (.iload_n 1, 1) := by decide +kernel
theorem dX7_ancestors_24 : decode cX7_ancestors 24 = .ok (.invokevirtual 157, 3) := by decide +kernel
theorem dX7_ancestors_27 : decode cX7_ancestors 27 = .ok (.iand, 1) := by decide +kernel
theorem dX7_ancestors_28 : decode cX7_ancestors 28 = .ok (.invokestatic 165, 3) := by decide +kernel
theorem dX7_ancestors_31 : decode cX7_ancestors 31 = .ok (.ireturn, 1) := by decide +kernel
theorem dX7_comparisons_0 : decode cX7_comparisons 0 = .ok (.iload_n 1, 1) := by decide +kernel
theorem dX7_comparisons_1 : decode cX7_comparisons 1 = .ok (.invokestatic 111, 3) := by decide +kernel
theorem dX7_comparisons_4 : decode cX7_comparisons 4 = .ok (.aload_n 0, 1) := by decide +kernel
theorem dX7_comparisons_5 : decode cX7_comparisons 5 = .ok (.getfield 10, 3) := by decide +kernel
theorem dX7_comparisons_8 : decode cX7_comparisons 8 = .ok (.iload_n 1, 1) := by decide +kernel
theorem dX7_comparisons_9 : decode cX7_comparisons 9 = .ok (.invokevirtual 170, 3) := by decide +kernel
theorem dX7_comparisons_12 : decode cX7_comparisons 12 = .ok (.ireturn, 1) := by decide +kernel
theorem dX7_forget_0 : decode cX7_forget 0 = .ok (.aload_n 0, 1) := by decide +kernel
theorem dX7_forget_1 : decode cX7_forget 1 = .ok (.getfield 22, 3) := by decide +kernel
theorem dX7_forget_4 : decode cX7_forget 4 = .ok (.aload_n 0, 1) := by decide +kernel
theorem dX7_forget_5 : decode cX7_forget 5 = .ok (.getfield 10, 3) := by decide +kernel
theorem dX7_forget_8 : decode cX7_forget 8 = .ok (.invokevirtual 48, 3) := by decide +kernel
theorem dX7_forget_11 : decode cX7_forget 11 = .ok (.aload_n 0, 1) := by decide +kernel
theorem dX7_forget_12 : decode cX7_forget 12 = .ok (.getfield 10, 3) := by decide +kernel
theorem dX7_forget_15 : decode cX7_forget 15 = .ok (.invokevirtual 82, 3) := by decide +kernel
theorem dX7_forget_18 : decode cX7_forget 18 = .ok (.istore_n 1, 1) := by decide +kernel
theorem dX7_forget_19 : decode cX7_forget 19 = .ok (.aload_n 0, 1) := by decide +kernel
theorem dX7_forget_20 : decode cX7_forget 20 = .ok (.getfield 10, 3) := by decide +kernel
theorem dX7_forget_23 : decode cX7_forget 23 = .ok (.invokevirtual 173, 3) := by decide +kernel
theorem dX7_forget_26 : decode cX7_forget 26 = .ok (.iload_n 1, 1) := by decide +kernel
theorem dX7_forget_27 : decode cX7_forget 27 = .ok (.ireturn, 1) := by decide +kernel
theorem dX7_wouldNeed_0 : decode cX7_wouldNeed 0 = .ok (.iload_n 1, 1) := by decide +kernel
theorem dX7_wouldNeed_1 : decode cX7_wouldNeed 1 = .ok (.invokestatic 111, 3) := by decide +kernel
theorem dX7_wouldNeed_4 : decode cX7_wouldNeed 4 = .ok (.iload_n 2, 1) := by decide +kernel
theorem dX7_wouldNeed_5 : decode cX7_wouldNeed 5 = .ok (.ifCond .lt 8, 3) := by decide +kernel
theorem dX7_wouldNeed_8 : decode cX7_wouldNeed 8 = .ok (.iload_n 2, 1) := by decide +kernel
theorem dX7_wouldNeed_9 : decode cX7_wouldNeed 9 = .ok (.iconst 4, 1) := by decide +kernel
theorem dX7_wouldNeed_10 : decode cX7_wouldNeed 10 = .ok (.if_icmp .le 13, 3) := by decide +kernel
theorem dX7_wouldNeed_13 : decode cX7_wouldNeed 13 = .ok (.new 94, 3) := by decide +kernel
theorem dX7_wouldNeed_16 : decode cX7_wouldNeed 16 = .ok (.dup, 1) := by decide +kernel
theorem dX7_wouldNeed_17 : decode cX7_wouldNeed 17 = .ok (.ldc 176, 2) := by decide +kernel
theorem dX7_wouldNeed_19 : decode cX7_wouldNeed 19 = .ok (.invokespecial 98, 3) := by decide +kernel
theorem dX7_wouldNeed_22 : decode cX7_wouldNeed 22 = .ok (.athrow, 1) := by decide +kernel
theorem dX7_wouldNeed_23 : decode cX7_wouldNeed 23 = .ok (.aload_n 0, 1) := by decide +kernel
theorem dX7_wouldNeed_24 : decode cX7_wouldNeed 24 = .ok (.getfield 16, 3) := by decide +kernel
theorem dX7_wouldNeed_27 : decode cX7_wouldNeed 27 = .ok (.aload_n 0, 1) := by decide +kernel
theorem dX7_wouldNeed_28 : decode cX7_wouldNeed 28 = .ok (.getfield 10, 3) := by decide +kernel
theorem dX7_wouldNeed_31 : decode cX7_wouldNeed 31 = .ok (.invokevirtual 178, 3) := by decide +kernel
theorem dX7_wouldNeed_34 : decode cX7_wouldNeed 34 = .ok (.aload_n 0, 1) := by decide +kernel
theorem dX7_wouldNeed_35 : decode cX7_wouldNeed 35 = .ok (.getfield 16, 3) := by decide +kernel
theorem dX7_wouldNeed_38 : decode cX7_wouldNeed 38 = .ok (.iload_n 2, 1) := by decide +kernel
theorem dX7_wouldNeed_39 : decode cX7_wouldNeed 39 = .ok (.iload_n 3, 1) := by decide +kernel
theorem dX7_wouldNeed_40 : decode cX7_wouldNeed 40 = .ok (.iload_n 3, 1) := by decide +kernel
theorem dX7_wouldNeed_41 : decode cX7_wouldNeed 41 = .ok (.invokevirtual 62, 3) := by decide +kernel
theorem dX7_wouldNeed_44 : decode cX7_wouldNeed 44 = .ok (.ifCond .ne 5, 3) := by decide +kernel
theorem dX7_wouldNeed_47 : decode cX7_wouldNeed 47 = .ok (.iconst (-1), 1) := by decide +kernel
theorem dX7_wouldNeed_48 : decode cX7_wouldNeed 48 = .ok (.ireturn, 1) := by decide +kernel
theorem dX7_wouldNeed_49 : decode cX7_wouldNeed 49 = .ok (.aload_n 0, 1) := by decide +kernel
theorem dX7_wouldNeed_50 : decode cX7_wouldNeed 50 = .ok (.getfield 16, 3) := by decide +kernel
theorem dX7_wouldNeed_53 : decode cX7_wouldNeed 53 = .ok (.iload_n 1, 1) := by decide +kernel
theorem dX7_wouldNeed_54 : decode cX7_wouldNeed 54 = .ok (.invokevirtual 170, 3) := by decide +kernel
theorem dX7_wouldNeed_57 : decode cX7_wouldNeed 57 = .ok (.aload_n 0, 1) := by decide +kernel
theorem dX7_wouldNeed_58 : decode cX7_wouldNeed 58 = .ok (.getfield 10, 3) := by decide +kernel
theorem dX7_wouldNeed_61 : decode cX7_wouldNeed 61 = .ok (.iload_n 1, 1) := by decide +kernel
theorem dX7_wouldNeed_62 : decode cX7_wouldNeed 62 = .ok (.invokevirtual 170, 3) := by decide +kernel
theorem dX7_wouldNeed_65 : decode cX7_wouldNeed 65 = .ok (.isub, 1) := by decide +kernel
theorem dX7_wouldNeed_66 : decode cX7_wouldNeed 66 = .ok (.ireturn, 1) := by decide +kernel
theorem dX7_sortingNeeds_0 : decode cX7_sortingNeeds 0 = .ok (.iload_n 1, 1) := by decide +kernel
theorem dX7_sortingNeeds_1 : decode cX7_sortingNeeds 1 = .ok (.invokestatic 111, 3) := by decide +kernel
theorem dX7_sortingNeeds_4 : decode cX7_sortingNeeds 4 = .ok (.aload_n 0, 1) := by decide +kernel
theorem dX7_sortingNeeds_5 : decode cX7_sortingNeeds 5 = .ok (.getfield 16, 3) := by decide +kernel
theorem dX7_sortingNeeds_8 : decode cX7_sortingNeeds 8 = .ok (.aload_n 0, 1) := by decide +kernel
theorem dX7_sortingNeeds_9 : decode cX7_sortingNeeds 9 = .ok (.getfield 10, 3) := by decide +kernel
theorem dX7_sortingNeeds_12 : decode cX7_sortingNeeds 12 = .ok (.invokevirtual 178, 3) := by decide +kernel
theorem dX7_sortingNeeds_15 : decode cX7_sortingNeeds 15 = .ok (.aload_n 0, 1) := by decide +kernel
theorem dX7_sortingNeeds_16 : decode cX7_sortingNeeds 16 = .ok (.getfield 10, 3) := by decide +kernel
theorem dX7_sortingNeeds_19 : decode cX7_sortingNeeds 19 = .ok (.invokevirtual 37, 3) := by decide +kernel
theorem dX7_sortingNeeds_22 : decode cX7_sortingNeeds 22 = .ok (.istore_n 2, 1) := by decide +kernel
theorem dX7_sortingNeeds_23 : decode cX7_sortingNeeds 23 = .ok (.iload_n 2, 1) := by decide +kernel
theorem dX7_sortingNeeds_24 : decode cX7_sortingNeeds 24 = .ok (.ifCond .le 25, 3) := by decide +kernel
theorem dX7_sortingNeeds_27 : decode cX7_sortingNeeds 27 = .ok (.aload_n 0, 1) := by decide +kernel
theorem dX7_sortingNeeds_28 : decode cX7_sortingNeeds 28 = .ok (.getfield 16, 3) := by decide +kernel
theorem dX7_sortingNeeds_31 : decode cX7_sortingNeeds 31 = .ok (.iload_n 1, 1) := by decide +kernel
theorem dX7_sortingNeeds_32 : decode cX7_sortingNeeds 32 = .ok (.aload_n 0, 1) := by decide +kernel
theorem dX7_sortingNeeds_33 : decode cX7_sortingNeeds 33 = .ok (.getfield 16, 3) := by decide +kernel
theorem dX7_sortingNeeds_36 : decode cX7_sortingNeeds 36 = .ok (.iload_n 1, 1) := by decide +kernel
theorem dX7_sortingNeeds_37 : decode cX7_sortingNeeds 37 = .ok (.invokevirtual 59, 3) := by decide +kernel
theorem dX7_sortingNeeds_40 : decode cX7_sortingNeeds 40 = .ok (.invokevirtual 181, 3) := by decide +kernel
theorem dX7_sortingNeeds_43 : decode cX7_sortingNeeds 43 = .ok (.iinc 2 (-1), 3) := by decide +kernel
theorem dX7_sortingNeeds_46 : decode cX7_sortingNeeds 46 = .ok (.goto (-23), 3) := by decide +kernel
theorem dX7_sortingNeeds_49 : decode cX7_sortingNeeds 49 = .ok (.aload_n 0, 1) := by decide +kernel
theorem dX7_sortingNeeds_50 : decode cX7_sortingNeeds 50 = .ok (.getfield 16, 3) := by decide +kernel
theorem dX7_sortingNeeds_53 : decode cX7_sortingNeeds 53 = .ok (.iload_n 1, 1) := by decide +kernel
theorem dX7_sortingNeeds_54 : decode cX7_sortingNeeds 54 = .ok (.invokevirtual 170, 3) := by decide +kernel
theorem dX7_sortingNeeds_57 : decode cX7_sortingNeeds 57 = .ok (.aload_n 0, 1) := by decide +kernel
theorem dX7_sortingNeeds_58 : decode cX7_sortingNeeds 58 = .ok (.getfield 10, 3) := by decide +kernel
theorem dX7_sortingNeeds_61 : decode cX7_sortingNeeds 61 = .ok (.iload_n 1, 1) := by decide +kernel
theorem dX7_sortingNeeds_62 : decode cX7_sortingNeeds 62 = .ok (.invokevirtual 170, 3) := by decide +kernel
theorem dX7_sortingNeeds_65 : decode cX7_sortingNeeds 65 = .ok (.isub, 1) := by decide +kernel
theorem dX7_sortingNeeds_66 : decode cX7_sortingNeeds 66 = .ok (.ireturn, 1) := by decide +kernel
theorem dX7_fewest_0 : decode cX7_fewest 0 = .ok (.iconst 0, 1) := by decide +kernel
theorem dX7_fewest_1 : decode cX7_fewest 1 = .ok (.istore_n 1, 1) := by decide +kernel
theorem dX7_fewest_2 : decode cX7_fewest 2 = .ok (.iconst 1, 1) := by decide +kernel
theorem dX7_fewest_3 : decode cX7_fewest 3 = .ok (.istore_n 2, 1) := by decide +kernel
theorem dX7_fewest_4 : decode cX7_fewest 4 = .ok (.iload_n 2, 1) := by decide +kernel
theorem dX7_fewest_5 : decode cX7_fewest 5 = .ok (.iconst 3, 1) := by decide +kernel
theorem dX7_fewest_6 : decode cX7_fewest 6 = .ok (.if_icmp .ge 30, 3) := by decide +kernel
theorem dX7_fewest_9 : decode cX7_fewest 9 = .ok (.aload_n 0, 1) := by decide +kernel
theorem dX7_fewest_10 : decode cX7_fewest 10 = .ok (.getfield 10, 3) := by decide +kernel
theorem dX7_fewest_13 : decode cX7_fewest 13 = .ok (.iload_n 2, 1) := by decide +kernel
theorem dX7_fewest_14 : decode cX7_fewest 14 = .ok (.invokevirtual 170, 3) := by decide +kernel
theorem dX7_fewest_17 : decode cX7_fewest 17 = .ok (.aload_n 0, 1) := by decide +kernel
theorem dX7_fewest_18 : decode cX7_fewest 18 = .ok (.getfield 10, 3) := by decide +kernel
theorem dX7_fewest_21 : decode cX7_fewest 21 = .ok (.iload_n 1, 1) := by decide +kernel
theorem dX7_fewest_22 : decode cX7_fewest 22 = .ok (.invokevirtual 170, 3) := by decide +kernel
theorem dX7_fewest_25 : decode cX7_fewest 25 = .ok (.if_icmp .ge 5, 3) := by decide +kernel
theorem dX7_fewest_28 : decode cX7_fewest 28 = .ok (.iload_n 2, 1) := by decide +kernel
theorem dX7_fewest_29 : decode cX7_fewest 29 = .ok (.istore_n 1, 1) := by decide +kernel
theorem dX7_fewest_30 : decode cX7_fewest 30 = .ok (.iinc 2 1, 3) := by decide +kernel
theorem dX7_fewest_33 : decode cX7_fewest 33 = .ok (.goto (-29), 3) := by decide +kernel
theorem dX7_fewest_36 : decode cX7_fewest 36 = .ok (.iload_n 1, 1) := by decide +kernel
theorem dX7_fewest_37 : decode cX7_fewest 37 = .ok (.ireturn, 1) := by decide +kernel
theorem dX7_type_0 : decode cX7_type 0 = .ok (.iload_n 1, 1) := by decide +kernel
theorem dX7_type_1 : decode cX7_type 1 = .ok (.bipush 32, 2) := by decide +kernel
theorem dX7_type_3 : decode cX7_type 3 = .ok (.if_icmp .lt 9, 3) := by decide +kernel
theorem dX7_type_6 : decode cX7_type 6 = .ok (.iload_n 1, 1) := by decide +kernel
theorem dX7_type_7 : decode cX7_type 7 = .ok (.bipush 126, 2) := by decide +kernel
theorem dX7_type_9 : decode cX7_type 9 = .ok (.if_icmp .le 13, 3) := by decide +kernel
theorem dX7_type_12 : decode cX7_type 12 = .ok (.new 94, 3) := by decide +kernel
theorem dX7_type_15 : decode cX7_type 15 = .ok (.dup, 1) := by decide +kernel
theorem dX7_type_16 : decode cX7_type 16 = .ok (.ldc 184, 2) := by decide +kernel
theorem dX7_type_18 : decode cX7_type 18 = .ok (.invokespecial 98, 3) := by decide +kernel
theorem dX7_type_21 : decode cX7_type 21 = .ok (.athrow, 1) := by decide +kernel
theorem dX7_type_22 : decode cX7_type 22 = .ok (.aload_n 0, 1) := by decide +kernel
theorem dX7_type_23 : decode cX7_type 23 = .ok (.getfield 29, 3) := by decide +kernel
theorem dX7_type_26 : decode cX7_type 26 = .ok (.getfield 186, 3) := by decide +kernel
theorem dX7_type_29 : decode cX7_type 29 = .ok (.bipush 120, 2) := by decide +kernel
theorem dX7_type_31 : decode cX7_type 31 = .ok (.if_icmp .lt 13, 3) := by decide +kernel
theorem dX7_type_34 : decode cX7_type 34 = .ok (.new 41, 3) := by decide +kernel
theorem dX7_type_37 : decode cX7_type 37 = .ok (.dup, 1) := by decide +kernel
theorem dX7_type_38 : decode cX7_type 38 = .ok (.ldc 190, 2) := by decide +kernel
theorem dX7_type_40 : decode cX7_type 40 = .ok (.invokespecial 45, 3) := by decide +kernel
theorem dX7_type_43 : decode cX7_type 43 = .ok (.athrow, 1) := by decide +kernel
theorem dX7_type_44 : decode cX7_type 44 = .ok (.aload_n 0, 1) := by decide +kernel
theorem dX7_type_45 : decode cX7_type 45 = .ok (.getfield 29, 3) := by decide +kernel
theorem dX7_type_48 : decode cX7_type 48 = .ok (.iload_n 1, 1) := by decide +kernel
theorem dX7_type_49 : decode cX7_type 49 = .ok (.i2c, 1) := by decide +kernel
theorem dX7_type_50 : decode cX7_type 50 = .ok (.invokevirtual 192, 3) := by decide +kernel
theorem dX7_type_53 : decode cX7_type 53 = .ok (.aload_n 0, 1) := by decide +kernel
theorem dX7_type_54 : decode cX7_type 54 = .ok (.getfield 29, 3) := by decide +kernel
theorem dX7_type_57 : decode cX7_type 57 = .ok (.getfield 186, 3) := by decide +kernel
theorem dX7_type_60 : decode cX7_type 60 = .ok (.ireturn, 1) := by decide +kernel
theorem dX7_clearText_0 : decode cX7_clearText 0 = .ok (.aload_n 0, 1) := by decide +kernel
theorem dX7_clearText_1 : decode cX7_clearText 1 = .ok (.getfield 29, 3) := by decide +kernel
theorem dX7_clearText_4 : decode cX7_clearText 4 = .ok (.getfield 186, 3) := by decide +kernel
theorem dX7_clearText_7 : decode cX7_clearText 7 = .ok (.istore_n 1, 1) := by decide +kernel
theorem dX7_clearText_8 : decode cX7_clearText 8 = .ok (.aload_n 0, 1) := by decide +kernel
theorem dX7_clearText_9 : decode cX7_clearText 9 = .ok (.getfield 29, 3) := by decide +kernel
theorem dX7_clearText_12 : decode cX7_clearText 12 = .ok (.iconst 0, 1) := by decide +kernel
theorem dX7_clearText_13 : decode cX7_clearText 13 = .ok (.putfield 186, 3) := by decide +kernel
theorem dX7_clearText_16 : decode cX7_clearText 16 = .ok (.iload_n 1, 1) := by decide +kernel
theorem dX7_clearText_17 : decode cX7_clearText 17 = .ok (.ireturn, 1) := by decide +kernel
theorem dX7_fault_0 : decode cX7_fault 0 = .ok (.aload_n 0, 1) := by decide +kernel
theorem dX7_fault_1 : decode cX7_fault 1 = .ok (.getfield 29, 3) := by decide +kernel
theorem dX7_fault_4 : decode cX7_fault 4 = .ok (.invokevirtual 196, 3) := by decide +kernel
theorem dX7_fault_7 : decode cX7_fault 7 = .ok (.ireturn, 1) := by decide +kernel
theorem dX7_run_0 : decode cX7_run 0 = .ok (.aload_n 0, 1) := by decide +kernel
theorem dX7_run_1 : decode cX7_run 1 = .ok (.getfield 29, 3) := by decide +kernel
theorem dX7_run_4 : decode cX7_run 4 = .ok (.invokevirtual 196, 3) := by decide +kernel
theorem dX7_run_7 : decode cX7_run 7 = .ok (.iconst (-1), 1) := by decide +kernel
theorem dX7_run_8 : decode cX7_run 8 = .ok (.if_icmp .eq 13, 3) := by decide +kernel
theorem dX7_run_11 : decode cX7_run 11 = .ok (.new 94, 3) := by decide +kernel
theorem dX7_run_14 : decode cX7_run 14 = .ok (.dup, 1) := by decide +kernel
theorem dX7_run_15 : decode cX7_run 15 = .ok (.ldc 199, 2) := by decide +kernel
theorem dX7_run_17 : decode cX7_run 17 = .ok (.invokespecial 98, 3) := by decide +kernel
theorem dX7_run_20 : decode cX7_run 20 = .ok (.athrow, 1) := by decide +kernel
theorem dX7_run_21 : decode cX7_run 21 = .ok (.aload_n 0, 1) := by decide +kernel
theorem dX7_run_22 : decode cX7_run 22 = .ok (.getfield 22, 3) := by decide +kernel
theorem dX7_run_25 : decode cX7_run 25 = .ok (.aload_n 0, 1) := by decide +kernel
theorem dX7_run_26 : decode cX7_run 26 = .ok (.getfield 10, 3) := by decide +kernel
theorem dX7_run_29 : decode cX7_run 29 = .ok (.invokevirtual 48, 3) := by decide +kernel
theorem dX7_run_32 : decode cX7_run 32 = .ok (.aload_n 0, 1) := by decide +kernel
theorem dX7_run_33 : decode cX7_run 33 = .ok (.getfield 29, 3) := by decide +kernel
theorem dX7_run_36 : decode cX7_run 36 = .ok (.invokevirtual 201, 3) := by decide +kernel
theorem dX7_run_39 : decode cX7_run 39 = .ok (.iconst 0, 1) := by decide +kernel
theorem dX7_run_40 : decode cX7_run 40 = .ok (.istore_n 1, 1) := by decide +kernel
theorem dX7_run_41 : decode cX7_run 41 = .ok (.iconst 0, 1) := by decide +kernel
theorem dX7_run_42 : decode cX7_run 42 = .ok (.istore_n 2, 1) := by decide +kernel
theorem dX7_run_43 : decode cX7_run 43 = .ok (.iload_n 2, 1) := by decide +kernel
theorem dX7_run_44 : decode cX7_run 44 = .ok (.bipush 120, 2) := by decide +kernel
theorem dX7_run_46 : decode cX7_run 46 = .ok (.if_icmp .ge 53, 3) := by decide +kernel
theorem dX7_run_49 : decode cX7_run 49 = .ok (.aload_n 0, 1) := by decide +kernel
theorem dX7_run_50 : decode cX7_run 50 = .ok (.getfield 29, 3) := by decide +kernel
theorem dX7_run_53 : decode cX7_run 53 = .ok (.invokevirtual 204, 3) := by decide +kernel
theorem dX7_run_56 : decode cX7_run 56 = .ok (.ifCond .eq 43, 3) := by decide +kernel
theorem dX7_run_59 : decode cX7_run 59 = .ok (.aload_n 0, 1) := by decide +kernel
theorem dX7_run_60 : decode cX7_run 60 = .ok (.getfield 10, 3) := by decide +kernel
theorem dX7_run_63 : decode cX7_run 63 = .ok (.aload_n 0, 1) := by decide +kernel
theorem dX7_run_64 : decode cX7_run 64 = .ok (.getfield 29, 3) := by decide +kernel
theorem dX7_run_67 : decode cX7_run 67 = .ok (.getfield 208, 3) := by decide +kernel
theorem dX7_run_70 : decode cX7_run 70 = .ok (.aload_n 0, 1) := by decide +kernel
theorem dX7_run_71 : decode cX7_run 71 = .ok (.getfield 29, 3) := by decide +kernel
theorem dX7_run_74 : decode cX7_run 74 = .ok (.getfield 211, 3) := by decide +kernel
theorem dX7_run_77 : decode cX7_run 77 = .ok (.aload_n 0, 1) := by decide +kernel
theorem dX7_run_78 : decode cX7_run 78 = .ok (.getfield 29, 3) := by decide +kernel
theorem dX7_run_81 : decode cX7_run 81 = .ok (.getfield 214, 3) := by decide +kernel
theorem dX7_run_84 : decode cX7_run 84 = .ok (.invokevirtual 62, 3) := by decide +kernel
theorem dX7_run_87 : decode cX7_run 87 = .ok (.ifCond .eq 6, 3) := by decide +kernel
theorem dX7_run_90 : decode cX7_run 90 = .ok (.iinc 1 1, 3) := by decide +kernel
theorem dX7_run_93 : decode cX7_run 93 = .ok (.iinc 2 1, 3) := by decide +kernel
theorem dX7_run_96 : decode cX7_run 96 = .ok (.goto (-53), 3) := by decide +kernel
theorem dX7_run_99 : decode cX7_run 99 = .ok (.iload_n 1, 1) := by decide +kernel
theorem dX7_run_100 : decode cX7_run 100 = .ok (.ireturn, 1) := by decide +kernel
theorem dX7_undo_0 : decode cX7_undo 0 = .ok (.aload_n 0, 1) := by decide +kernel
theorem dX7_undo_1 : decode cX7_undo 1 = .ok (.getfield 22, 3) := by decide +kernel
theorem dX7_undo_4 : decode cX7_undo 4 = .ok (.getfield 217, 3) := by decide +kernel
theorem dX7_undo_7 : decode cX7_undo 7 = .ok (.ifCond .ne 13, 3) := by decide +kernel
theorem dX7_undo_10 : decode cX7_undo 10 = .ok (.new 41, 3) := by decide +kernel
theorem dX7_undo_13 : decode cX7_undo 13 = .ok (.dup, 1) := by decide +kernel
theorem dX7_undo_14 : decode cX7_undo 14 = .ok (.ldc 220, 2) := by decide +kernel
theorem dX7_undo_16 : decode cX7_undo 16 = .ok (.invokespecial 45, 3) := by decide +kernel
theorem dX7_undo_19 : decode cX7_undo 19 = .ok (.athrow, 1) := by decide +kernel
theorem dX7_undo_20 : decode cX7_undo 20 = .ok (.aload_n 0, 1) := by decide +kernel
theorem dX7_undo_21 : decode cX7_undo 21 = .ok (.getfield 22, 3) := by decide +kernel
theorem dX7_undo_24 : decode cX7_undo 24 = .ok (.aload_n 0, 1) := by decide +kernel
theorem dX7_undo_25 : decode cX7_undo 25 = .ok (.getfield 10, 3) := by decide +kernel
theorem dX7_undo_28 : decode cX7_undo 28 = .ok (.invokevirtual 222, 3) := by decide +kernel
theorem dX7_undo_31 : decode cX7_undo 31 = .ok (.aload_n 0, 1) := by decide +kernel
theorem dX7_undo_32 : decode cX7_undo 32 = .ok (.getfield 22, 3) := by decide +kernel
theorem dX7_undo_35 : decode cX7_undo 35 = .ok (.getfield 217, 3) := by decide +kernel
theorem dX7_undo_38 : decode cX7_undo 38 = .ok (.ireturn, 1) := by decide +kernel
theorem dX7_checksum_0 : decode cX7_checksum 0 = .ok (.ldc2_w 225, 3) := by decide +kernel
theorem dX7_checksum_3 : decode cX7_checksum 3 = .ok (.aload_n 0, 1) := by decide +kernel
theorem dX7_checksum_4 : decode cX7_checksum 4 = .ok (.getfield 10, 3) := by decide +kernel
theorem dX7_checksum_7 : decode cX7_checksum 7 = .ok (.invokevirtual 37, 3) := by decide +kernel
theorem dX7_checksum_10 : decode cX7_checksum 10 = .ok (.i2l, 1) := by decide +kernel
theorem dX7_checksum_11 : decode cX7_checksum 11 = .ok (.ladd, 1) := by decide +kernel
theorem dX7_checksum_12 : decode cX7_checksum 12 = .ok (.lstore_n 1, 1) := by decide +kernel
theorem dX7_checksum_13 : decode cX7_checksum 13 = .ok (.ldc2_w 227, 3) := by decide +kernel
theorem dX7_checksum_16 : decode cX7_checksum 16 = .ok (.lload_n 1, 1) := by decide +kernel
theorem dX7_checksum_17 : decode cX7_checksum 17 = .ok (.lmul, 1) := by decide +kernel
theorem dX7_checksum_18 : decode cX7_checksum 18 = .ok (.aload_n 0, 1) := by decide +kernel
theorem dX7_checksum_19 : decode cX7_checksum 19 = .ok (.getfield 10, 3) := by decide +kernel
theorem dX7_checksum_22 : decode cX7_checksum 22 = .ok (.invokevirtual 91, 3) := by decide +kernel
theorem dX7_checksum_25 : decode cX7_checksum 25 = .ok (.i2l, 1) := by decide +kernel
theorem dX7_checksum_26 : decode cX7_checksum 26 = .ok (.ladd, 1) := by decide +kernel
theorem dX7_checksum_27 : decode cX7_checksum 27 = .ok (.lstore_n 1, 1) := by decide +kernel
theorem dX7_checksum_28 : decode cX7_checksum 28 = .ok (.iconst 0, 1) := by decide +kernel
theorem dX7_checksum_29 : decode cX7_checksum 29 = .ok (.istore_n 3, 1) := by decide +kernel
theorem dX7_checksum_30 : decode cX7_checksum 30 = .ok (.iload_n 3, 1) := by decide +kernel
theorem dX7_checksum_31 : decode cX7_checksum 31 = .ok (.bipush 30, 2) := by decide +kernel
theorem dX7_checksum_33 : decode cX7_checksum 33 = .ok (.if_icmp .ge 36, 3) := by decide +kernel
theorem dX7_checksum_36 : decode cX7_checksum 36 = .ok (.aload_n 0, 1) := by decide +kernel
theorem dX7_checksum_37 : decode cX7_checksum 37 = .ok (.getfield 10, 3) := by decide +kernel
theorem dX7_checksum_40 : decode cX7_checksum 40 = .ok (.iload_n 3, 1) := by decide +kernel
theorem dX7_checksum_41 : decode cX7_checksum 41 = .ok (.invokevirtual 114, 3) := by decide +kernel
theorem dX7_checksum_44 : decode cX7_checksum 44 = .ok (.ifCond .eq 19, 3) := by decide +kernel
theorem dX7_checksum_47 : decode cX7_checksum 47 = .ok (.ldc2_w 227, 3) := by decide +kernel
theorem dX7_checksum_50 : decode cX7_checksum 50 = .ok (.lload_n 1, 1) := by decide +kernel
theorem dX7_checksum_51 : decode cX7_checksum 51 = .ok (.lmul, 1) := by decide +kernel
theorem dX7_checksum_52 : decode cX7_checksum 52 = .ok (.aload_n 0, 1) := by decide +kernel
theorem dX7_checksum_53 : decode cX7_checksum 53 = .ok (.getfield 10, 3) := by decide +kernel
theorem dX7_checksum_56 : decode cX7_checksum 56 = .ok (.iload_n 3, 1) := by decide +kernel
theorem dX7_checksum_57 : decode cX7_checksum 57 = .ok (.invokevirtual 72, 3) := by decide +kernel
theorem dX7_checksum_60 : decode cX7_checksum 60 = .ok (.i2l, 1) := by decide +kernel
theorem dX7_checksum_61 : decode cX7_checksum 61 = .ok (.ladd, 1) := by decide +kernel
theorem dX7_checksum_62 : decode cX7_checksum 62 = .ok (.lstore_n 1, 1) := by decide +kernel
theorem dX7_checksum_63 : decode cX7_checksum 63 = .ok (.iinc 3 1, 3) := by decide +kernel
theorem dX7_checksum_66 : decode cX7_checksum 66 = .ok (.goto (-36), 3) := by decide +kernel
theorem dX7_checksum_69 : decode cX7_checksum 69 = .ok (.iconst 0, 1) := by decide +kernel
theorem dX7_checksum_70 : decode cX7_checksum 70 = .ok (.istore_n 3, 1) := by decide +kernel
theorem dX7_checksum_71 : decode cX7_checksum 71 = .ok (.iload_n 3, 1) := by decide +kernel
theorem dX7_checksum_72 : decode cX7_checksum 72 = .ok (.iconst 4, 1) := by decide +kernel
theorem dX7_checksum_73 : decode cX7_checksum 73 = .ok (.if_icmp .ge 70, 3) := by decide +kernel
theorem dX7_checksum_76 : decode cX7_checksum 76 = .ok (.iconst 0, 1) := by decide +kernel
theorem dX7_checksum_77 : decode cX7_checksum 77 = .ok (.istore 4, 2) := by decide +kernel
theorem dX7_checksum_79 : decode cX7_checksum 79 = .ok (.iload 4, 2) := by decide +kernel
theorem dX7_checksum_81 : decode cX7_checksum 81 = .ok (.aload_n 0, 1) := by decide +kernel
theorem dX7_checksum_82 : decode cX7_checksum 82 = .ok (.getfield 10, 3) := by decide +kernel
theorem dX7_checksum_85 : decode cX7_checksum 85 = .ok (.invokevirtual 37, 3) := by decide +kernel
theorem dX7_checksum_88 : decode cX7_checksum 88 = .ok (.if_icmp .ge 30, 3) := by decide +kernel
theorem dX7_checksum_91 : decode cX7_checksum 91 = .ok (.ldc2_w 227, 3) := by decide +kernel
theorem dX7_checksum_94 : decode cX7_checksum 94 = .ok (.lload_n 1, 1) := by decide +kernel
theorem dX7_checksum_95 : decode cX7_checksum 95 = .ok (.lmul, 1) := by decide +kernel
theorem dX7_checksum_96 : decode cX7_checksum 96 = .ok (.aload_n 0, 1) := by decide +kernel
theorem dX7_checksum_97 : decode cX7_checksum 97 = .ok (.getfield 10, 3) := by decide +kernel
theorem dX7_checksum_100 : decode cX7_checksum 100 = .ok (.iload_n 3, 1) := by decide +kernel
theorem dX7_checksum_101 : decode cX7_checksum 101 = .ok (.invokevirtual 124, 3) := by decide +kernel
theorem dX7_checksum_104 : decode cX7_checksum 104 = .ok (.iload 4, 2) := by decide +kernel
theorem dX7_checksum_106 : decode cX7_checksum 106 = .ok (.invokevirtual 128, 3) := by decide +kernel
theorem dX7_checksum_109 : decode cX7_checksum 109 = .ok (.i2l, 1) := by decide +kernel
theorem dX7_checksum_110 : decode cX7_checksum 110 = .ok (.ladd, 1) := by decide +kernel
theorem dX7_checksum_111 : decode cX7_checksum 111 = .ok (.lstore_n 1, 1) := by decide +kernel
theorem dX7_checksum_112 : decode cX7_checksum 112 = .ok (.iinc 4 1, 3) := by decide +kernel
theorem dX7_checksum_115 : decode cX7_checksum 115 = .ok (.goto (-36), 3) := by decide +kernel
theorem dX7_checksum_118 : decode cX7_checksum 118 = .ok (.ldc2_w 227, 3) := by decide +kernel
theorem dX7_checksum_121 : decode cX7_checksum 121 = .ok (.lload_n 1, 1) := by decide +kernel
theorem dX7_checksum_122 : decode cX7_checksum 122 = .ok (.lmul, 1) := by decide +kernel
theorem dX7_checksum_123 : decode cX7_checksum 123 = .ok (.aload_n 0, 1) := by decide +kernel
theorem dX7_checksum_124 : decode cX7_checksum 124 = .ok (.getfield 10, 3) := by decide +kernel
theorem dX7_checksum_127 : decode cX7_checksum 127 = .ok (.iload_n 3, 1) := by decide +kernel
theorem dX7_checksum_128 : decode cX7_checksum 128 = .ok (.invokevirtual 124, 3) := by decide +kernel
theorem dX7_checksum_131 : decode cX7_checksum 131 = .ok (.invokevirtual 136, 3) := by decide +kernel
theorem dX7_checksum_134 : decode cX7_checksum 134 = .ok (.i2l, 1) := by decide +kernel
theorem dX7_checksum_135 : decode cX7_checksum 135 = .ok (.ladd, 1) := by decide +kernel
theorem dX7_checksum_136 : decode cX7_checksum 136 = .ok (.lstore_n 1, 1) := by decide +kernel
theorem dX7_checksum_137 : decode cX7_checksum 137 = .ok (.iinc 3 1, 3) := by decide +kernel
theorem dX7_checksum_140 : decode cX7_checksum 140 = .ok (.goto (-69), 3) := by decide +kernel
theorem dX7_checksum_143 : decode cX7_checksum 143 = .ok (.iconst 0, 1) := by decide +kernel
theorem dX7_checksum_144 : decode cX7_checksum 144 = .ok (.istore_n 3, 1) := by decide +kernel
theorem dX7_checksum_145 : decode cX7_checksum 145 = .ok (.iload_n 3, 1) := by decide +kernel
theorem dX7_checksum_146 : decode cX7_checksum 146 = .ok (.iconst 3, 1) := by decide +kernel
theorem dX7_checksum_147 : decode cX7_checksum 147 = .ok (.if_icmp .ge 25, 3) := by decide +kernel
theorem dX7_checksum_150 : decode cX7_checksum 150 = .ok (.ldc2_w 227, 3) := by decide +kernel
theorem dX7_checksum_153 : decode cX7_checksum 153 = .ok (.lload_n 1, 1) := by decide +kernel
theorem dX7_checksum_154 : decode cX7_checksum 154 = .ok (.lmul, 1) := by decide +kernel
theorem dX7_checksum_155 : decode cX7_checksum 155 = .ok (.aload_n 0, 1) := by decide +kernel
theorem dX7_checksum_156 : decode cX7_checksum 156 = .ok (.getfield 10, 3) := by decide +kernel
theorem dX7_checksum_159 : decode cX7_checksum 159 = .ok (.iload_n 3, 1) := by decide +kernel
theorem dX7_checksum_160 : decode cX7_checksum 160 = .ok (.invokevirtual 170, 3) := by decide +kernel
theorem dX7_checksum_163 : decode cX7_checksum 163 = .ok (.i2l, 1) := by decide +kernel
theorem dX7_checksum_164 : decode cX7_checksum 164 = .ok (.ladd, 1) := by decide +kernel
theorem dX7_checksum_165 : decode cX7_checksum 165 = .ok (.lstore_n 1, 1) := by decide +kernel
theorem dX7_checksum_166 : decode cX7_checksum 166 = .ok (.iinc 3 1, 3) := by decide +kernel
theorem dX7_checksum_169 : decode cX7_checksum 169 = .ok (.goto (-24), 3) := by decide +kernel
theorem dX7_checksum_172 : decode cX7_checksum 172 = .ok (.ldc2_w 227, 3) := by decide +kernel
theorem dX7_checksum_175 : decode cX7_checksum 175 = .ok (.lload_n 1, 1) := by decide +kernel
theorem dX7_checksum_176 : decode cX7_checksum 176 = .ok (.lmul, 1) := by decide +kernel
theorem dX7_checksum_177 : decode cX7_checksum 177 = .ok (.aload_n 0, 1) := by decide +kernel
theorem dX7_checksum_178 : decode cX7_checksum 178 = .ok (.getfield 29, 3) := by decide +kernel
theorem dX7_checksum_181 : decode cX7_checksum 181 = .ok (.getfield 186, 3) := by decide +kernel
theorem dX7_checksum_184 : decode cX7_checksum 184 = .ok (.i2l, 1) := by decide +kernel
theorem dX7_checksum_185 : decode cX7_checksum 185 = .ok (.ladd, 1) := by decide +kernel
theorem dX7_checksum_186 : decode cX7_checksum 186 = .ok (.lstore_n 1, 1) := by decide +kernel
theorem dX7_checksum_187 : decode cX7_checksum 187 = .ok (.ldc2_w 227, 3) := by decide +kernel
theorem dX7_checksum_190 : decode cX7_checksum 190 = .ok (.lload_n 1, 1) := by decide +kernel
theorem dX7_checksum_191 : decode cX7_checksum 191 = .ok (.lmul, 1) := by decide +kernel
theorem dX7_checksum_192 : decode cX7_checksum 192 = .ok (.aload_n 0, 1) := by decide +kernel
theorem dX7_checksum_193 : decode cX7_checksum 193 = .ok (.getfield 22, 3) := by decide +kernel
theorem dX7_checksum_196 : decode cX7_checksum 196 = .ok (.getfield 217, 3) := by decide +kernel
theorem dX7_checksum_199 : decode cX7_checksum 199 = .ok (.i2l, 1) := by decide +kernel
theorem dX7_checksum_200 : decode cX7_checksum 200 = .ok (.ladd, 1) := by decide +kernel
theorem dX7_checksum_201 : decode cX7_checksum 201 = .ok (.lreturn, 1) := by decide +kernel
theorem dX7_requireKey_0 : decode cX7_requireKey 0 = .ok (.iload_n 0, 1) := by decide +kernel
theorem dX7_requireKey_1 : decode cX7_requireKey 1 = .ok (.invokestatic 229, 3) := by decide +kernel
theorem dX7_requireKey_4 : decode cX7_requireKey 4 = .ok (.ifCond .ne 13, 3) := by decide +kernel
theorem dX7_requireKey_7 : decode cX7_requireKey 7 = .ok (.new 94, 3) := by decide +kernel
theorem dX7_requireKey_10 : decode cX7_requireKey 10 = .ok (.dup, 1) := by decide +kernel
theorem dX7_requireKey_11 : decode cX7_requireKey 11 = .ok (.ldc 232, 2) := by decide +kernel
theorem dX7_requireKey_13 : decode cX7_requireKey 13 = .ok (.invokespecial 98, 3) := by decide +kernel
theorem dX7_requireKey_16 : decode cX7_requireKey 16 = .ok (.athrow, 1) := by decide +kernel
theorem dX7_requireKey_17 : decode cX7_requireKey 17 = .ok (.return_, 1) := by decide +kernel
theorem dX7_requireQueue_0 : decode cX7_requireQueue 0 = .ok (.iload_n 0, 1) := by decide +kernel
theorem dX7_requireQueue_1 : decode cX7_requireQueue 1 = .ok (.ifCond .lt 8, 3) := by decide +kernel
theorem dX7_requireQueue_4 : decode cX7_requireQueue 4 = .ok (.iload_n 0, 1) := by decide +kernel
theorem dX7_requireQueue_5 : decode cX7_requireQueue 5 = .ok (.iconst 3, 1) := by decide +kernel
theorem dX7_requireQueue_6 : decode cX7_requireQueue 6 = .ok (.if_icmp .lt 13, 3) := by decide +kernel
theorem dX7_requireQueue_9 : decode cX7_requireQueue 9 = .ok (.new 94, 3) := by decide +kernel
theorem dX7_requireQueue_12 : decode cX7_requireQueue 12 = .ok (.dup, 1) := by decide +kernel
theorem dX7_requireQueue_13 : decode cX7_requireQueue 13 = .ok (.ldc 234, 2) := by decide +kernel
theorem dX7_requireQueue_15 : decode cX7_requireQueue 15 = .ok (.invokespecial 98, 3) := by decide +kernel
theorem dX7_requireQueue_18 : decode cX7_requireQueue 18 = .ok (.athrow, 1) := by decide +kernel
theorem dX7_requireQueue_19 : decode cX7_requireQueue 19 = .ok (.return_, 1) := by decide +kernel
theorem dX7_requireLayout_0 : decode cX7_requireLayout 0 = .ok (.iload_n 0, 1) := by decide +kernel
theorem dX7_requireLayout_1 : decode cX7_requireLayout 1 = .ok (.ifCond .lt 8, 3) := by decide +kernel
theorem dX7_requireLayout_4 : decode cX7_requireLayout 4 = .ok (.iload_n 0, 1) := by decide +kernel
theorem dX7_requireLayout_5 : decode cX7_requireLayout 5 = .ok (.iconst 4, 1) := by decide +kernel
theorem dX7_requireLayout_6 : decode cX7_requireLayout 6 = .ok (.if_icmp .lt 13, 3) := by decide +kernel
theorem dX7_requireLayout_9 : decode cX7_requireLayout 9 = .ok (.new 94, 3) := by decide +kernel
theorem dX7_requireLayout_12 : decode cX7_requireLayout 12 = .ok (.dup, 1) := by decide +kernel
theorem dX7_requireLayout_13 : decode cX7_requireLayout 13 = .ok (.ldc 236, 2) := by decide +kernel
theorem dX7_requireLayout_15 : decode cX7_requireLayout 15 = .ok (.invokespecial 98, 3) := by decide +kernel
theorem dX7_requireLayout_18 : decode cX7_requireLayout 18 = .ok (.athrow, 1) := by decide +kernel
theorem dX7_requireLayout_19 : decode cX7_requireLayout 19 = .ok (.return_, 1) := by decide +kernel
theorem dX7_requireItem_0 : decode cX7_requireItem 0 = .ok (.aload_n 0, 1) := by decide +kernel
theorem dX7_requireItem_1 : decode cX7_requireItem 1 = .ok (.getfield 10, 3) := by decide +kernel
theorem dX7_requireItem_4 : decode cX7_requireItem 4 = .ok (.iload_n 1, 1) := by decide +kernel
theorem dX7_requireItem_5 : decode cX7_requireItem 5 = .ok (.invokevirtual 114, 3) := by decide +kernel
theorem dX7_requireItem_8 : decode cX7_requireItem 8 = .ok (.ifCond .ne 13, 3) := by decide +kernel
theorem dX7_requireItem_11 : decode cX7_requireItem 11 = .ok (.new 238, 3) := by decide +kernel
theorem dX7_requireItem_14 : decode cX7_requireItem 14 = .ok (.dup, 1) := by decide +kernel
theorem dX7_requireItem_15 : decode cX7_requireItem 15 = .ok (.ldc 240, 2) := by decide +kernel
theorem dX7_requireItem_17 : decode cX7_requireItem 17 = .ok (.invokespecial 242, 3) := by decide +kernel
theorem dX7_requireItem_20 : decode cX7_requireItem 20 = .ok (.athrow, 1) := by decide +kernel
theorem dX7_requireItem_21 : decode cX7_requireItem 21 = .ok (.return_, 1) := by decide +kernel
theorem dX7_requirePosition_0 : decode cX7_requirePosition 0 = .ok (.iload_n 1, 1) := by decide +kernel
theorem dX7_requirePosition_1 : decode cX7_requirePosition 1 = .ok (.ifCond .lt 14, 3) := by decide +kernel
theorem dX7_requirePosition_4 : decode cX7_requirePosition 4 = .ok (.iload_n 1, 1) := by decide +kernel
theorem dX7_requirePosition_5 : decode cX7_requirePosition 5 = .ok (.aload_n 0, 1) := by decide +kernel
theorem dX7_requirePosition_6 : decode cX7_requirePosition 6 = .ok (.getfield 10, 3) := by decide +kernel
theorem dX7_requirePosition_9 : decode cX7_requirePosition 9 = .ok (.invokevirtual 37, 3) := by decide +kernel
theorem dX7_requirePosition_12 : decode cX7_requirePosition 12 = .ok (.if_icmp .lt 13, 3) := by decide +kernel
theorem dX7_requirePosition_15 : decode cX7_requirePosition 15 = .ok (.new 238, 3) := by decide +kernel
theorem dX7_requirePosition_18 : decode cX7_requirePosition 18 = .ok (.dup, 1) := by decide +kernel
theorem dX7_requirePosition_19 : decode cX7_requirePosition 19 = .ok (.ldc 243, 2) := by decide +kernel
theorem dX7_requirePosition_21 : decode cX7_requirePosition 21 = .ok (.invokespecial 242, 3) := by decide +kernel
theorem dX7_requirePosition_24 : decode cX7_requirePosition 24 = .ok (.athrow, 1) := by decide +kernel
theorem dX7_requirePosition_25 : decode cX7_requirePosition 25 = .ok (.return_, 1) := by decide +kernel
theorem dX7_requireItems_0 : decode cX7_requireItems 0 = .ok (.aload_n 0, 1) := by decide +kernel
theorem dX7_requireItems_1 : decode cX7_requireItems 1 = .ok (.getfield 10, 3) := by decide +kernel
theorem dX7_requireItems_4 : decode cX7_requireItems 4 = .ok (.invokevirtual 37, 3) := by decide +kernel
theorem dX7_requireItems_7 : decode cX7_requireItems 7 = .ok (.ifCond .ne 13, 3) := by decide +kernel
theorem dX7_requireItems_10 : decode cX7_requireItems 10 = .ok (.new 41, 3) := by decide +kernel
theorem dX7_requireItems_13 : decode cX7_requireItems 13 = .ok (.dup, 1) := by decide +kernel
theorem dX7_requireItems_14 : decode cX7_requireItems 14 = .ok (.ldc 245, 2) := by decide +kernel
theorem dX7_requireItems_16 : decode cX7_requireItems 16 = .ok (.invokespecial 45, 3) := by decide +kernel
theorem dX7_requireItems_19 : decode cX7_requireItems 19 = .ok (.athrow, 1) := by decide +kernel
theorem dX7_requireItems_20 : decode cX7_requireItems 20 = .ok (.return_, 1) := by decide +kernel
theorem dX7_isKey_0 : decode cX7_isKey 0 = .ok (.iload_n 0, 1) := by decide +kernel
theorem dX7_isKey_1 : decode cX7_isKey 1 = .ok (.sipush (-999), 3) := by decide +kernel
theorem dX7_isKey_4 : decode cX7_isKey 4 = .ok (.if_icmp .lt 14, 3) := by decide +kernel
theorem dX7_isKey_7 : decode cX7_isKey 7 = .ok (.iload_n 0, 1) := by decide +kernel
theorem dX7_isKey_8 : decode cX7_isKey 8 = .ok (.sipush 999, 3) := by decide +kernel
theorem dX7_isKey_11 : decode cX7_isKey 11 = .ok (.if_icmp .gt 7, 3) := by decide +kernel
theorem dX7_isKey_14 : decode cX7_isKey 14 = .ok (.iconst 1, 1) := by decide +kernel
theorem dX7_isKey_15 : decode cX7_isKey 15 = .ok (.goto 4, 3) := by decide +kernel
theorem dX7_isKey_18 : decode cX7_isKey 18 = .ok (.iconst 0, 1) := by decide +kernel
theorem dX7_isKey_19 : decode cX7_isKey 19 = .ok (.ireturn, 1) := by decide +kernel
