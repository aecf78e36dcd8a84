theorem dX1_init_0 : decode cX1_init 0 = .ok (.aload_n 0, 1) := by decide +kernel
theorem dX1_init_1 : decode cX1_init 1 = .ok (.invokespecial 3, 3) := by decide +kernel
theorem dX1_init_4 : decode cX1_init 4 = .ok (.aload_n 0, 1) := by decide +kernel
theorem dX1_init_5 : decode cX1_init 5 = .ok (.iconst 5, 1) := by decide +kernel
theorem dX1_init_6 : decode cX1_init 6 = .ok (.anewarray 9, 3) := by decide +kernel
theorem dX1_init_9 : decode cX1_init 9 = .ok (.putfield 11, 3) := by decide +kernel
theorem dX1_init_12 : decode cX1_init 12 = .ok (.iconst 0, 1) := by decide +kernel
theorem dX1_init_13 : decode cX1_init 13 = .ok (.istore_n 1, 1) := by decide +kernel
theorem dX1_init_14 : decode cX1_init 14 = .ok (.iload_n 1, 1) := by decide +kernel
theorem dX1_init_15 : decode cX1_init 15 = .ok (.iconst 5, 1) := by decide +kernel
theorem dX1_init_16 : decode cX1_init 16 = .ok (.if_icmp .ge 22, 3) := by decide +kernel
theorem dX1_init_19 : decode cX1_init 19 = .ok (.aload_n 0, 1) := by decide +kernel
theorem dX1_init_20 : decode cX1_init 20 = .ok (.getfield 11, 3) := by decide +kernel
theorem dX1_init_23 : decode cX1_init 23 = .ok (.iload_n 1, 1) := by decide +kernel
theorem dX1_init_24 : decode cX1_init 24 = .ok (.new 9, 3) := by decide +kernel
theorem dX1_init_27 : decode cX1_init 27 = .ok (.dup, 1) := by decide +kernel
theorem dX1_init_28 : decode cX1_init 28 = .ok (.invokespecial 17, 3) := by decide +kernel
theorem dX1_init_31 : decode cX1_init 31 = .ok (.aastore, 1) := by decide +kernel
theorem dX1_init_32 : decode cX1_init 32 = .ok (.iinc 1 1, 3) := by decide +kernel
theorem dX1_init_35 : decode cX1_init 35 = .ok (.goto (-21), 3) := by decide +kernel
theorem dX1_init_38 : decode cX1_init 38 = .ok (.return_, 1) := by decide +kernel
theorem dX1_slotAt_0 : decode cX1_slotAt 0 = .ok (.iload_n 1, 1) := by decide +kernel
theorem dX1_slotAt_1 : decode cX1_slotAt 1 = .ok (.ifCond .lt 21, 3) := by decide +kernel
theorem dX1_slotAt_4 : decode cX1_slotAt 4 = .ok (.iload_n 1, 1) := by decide +kernel
theorem dX1_slotAt_5 : decode cX1_slotAt 5 = .ok (.aload_n 0, 1) := by decide +kernel
theorem dX1_slotAt_6 : decode cX1_slotAt 6 = .ok (.getfield 11, 3) := by decide +kernel
theorem dX1_slotAt_9 : decode cX1_slotAt 9 = .ok (.arraylength, 1) := by decide +kernel
theorem dX1_slotAt_10 : decode cX1_slotAt 10 = .ok (.if_icmp .ge 12, 3) := by decide +kernel
theorem dX1_slotAt_13 : decode cX1_slotAt 13 = .ok (.aload_n 0, 1) := by decide +kernel
theorem dX1_slotAt_14 : decode cX1_slotAt 14 = .ok (.getfield 11, 3) := by decide +kernel
theorem dX1_slotAt_17 : decode cX1_slotAt 17 = .ok (.iload_n 1, 1) := by decide +kernel
theorem dX1_slotAt_18 : decode cX1_slotAt 18 = .ok (.aaload, 1) := by decide +kernel
theorem dX1_slotAt_19 : decode cX1_slotAt 19 = .ok (.goto 4, 3) := by decide +kernel
theorem dX1_slotAt_22 : decode cX1_slotAt 22 = .ok (.aconst_null, 1) := by decide +kernel
theorem dX1_slotAt_23 : decode cX1_slotAt 23 = .ok (.areturn, 1) := by decide +kernel
theorem dX1_keep_0 : decode cX1_keep 0 = .ok (.aload_n 0, 1) := by decide +kernel
theorem dX1_keep_1 : decode cX1_keep 1 = .ok (.aload_n 0, 1) := by decide +kernel
theorem dX1_keep_2 : decode cX1_keep 2 = .ok (.getfield 18, 3) := by decide +kernel
theorem dX1_keep_5 : decode cX1_keep 5 = .ok (.invokevirtual 22, 3) := by decide +kernel
theorem dX1_keep_8 : decode cX1_keep 8 = .ok (.astore_n 2, 1) := by decide +kernel
theorem dX1_keep_9 : decode cX1_keep 9 = .ok (.aload_n 2, 1) := by decide +kernel
theorem dX1_keep_10 : decode cX1_keep 10 = .ok (.ifnull 34, 3) := by decide +kernel
theorem dX1_keep_13 : decode cX1_keep 13 = .ok (.aload_n 2, 1) := by decide +kernel
theorem dX1_keep_14 : decode cX1_keep 14 = .ok (.aload_n 1, 1) := by decide +kernel
theorem dX1_keep_15 : decode cX1_keep 15 = .ok (.invokevirtual 26, 3) := by decide +kernel
theorem dX1_keep_18 : decode cX1_keep 18 = .ok (.aload_n 0, 1) := by decide +kernel
theorem dX1_keep_19 : decode cX1_keep 19 = .ok (.aload_n 0, 1) := by decide +kernel
theorem dX1_keep_20 : decode cX1_keep 20 = .ok (.getfield 18, 3) := by decide +kernel
theorem dX1_keep_23 : decode cX1_keep 23 = .ok (.iconst 1, 1) := by decide +kernel
theorem dX1_keep_24 : decode cX1_keep 24 = .ok (.iadd, 1) := by decide +kernel
theorem dX1_keep_25 : decode cX1_keep 25 = .ok (.iconst 5, 1) := by decide +kernel
theorem dX1_keep_26 : decode cX1_keep 26 = .ok (.irem, 1) := by decide +kernel
theorem dX1_keep_27 : decode cX1_keep 27 = .ok (.putfield 18, 3) := by decide +kernel
theorem dX1_keep_30 : decode cX1_keep 30 = .ok (.aload_n 0, 1) := by decide +kernel
theorem dX1_keep_31 : decode cX1_keep 31 = .ok (.aload_n 0, 1) := by decide +kernel
theorem dX1_keep_32 : decode cX1_keep 32 = .ok (.getfield 30, 3) := by decide +kernel
theorem dX1_keep_35 : decode cX1_keep 35 = .ok (.iconst 1, 1) := by decide +kernel
theorem dX1_keep_36 : decode cX1_keep 36 = .ok (.iadd, 1) := by decide +kernel
theorem dX1_keep_37 : decode cX1_keep 37 = .ok (.iconst 5, 1) := by decide +kernel
theorem dX1_keep_38 : decode cX1_keep 38 = .ok (.invokestatic 33, 3) := by decide +kernel
theorem dX1_keep_41 : decode cX1_keep 41 = .ok (.putfield 30, 3) := by decide +kernel
theorem dX1_keep_44 : decode cX1_keep 44 = .ok (.return_, 1) := by decide +kernel
theorem dX1_restore_0 : decode cX1_restore 0 = .ok (.aload_n 0, 1) := by decide +kernel
theorem dX1_restore_1 : decode cX1_restore 1 = .ok (.getfield 18, 3) := by decide +kernel
theorem dX1_restore_4 : decode cX1_restore 4 = .ok (.iconst 5, 1) := by decide +kernel
theorem dX1_restore_5 : decode cX1_restore 5 = .ok (.iadd, 1) := by decide +kernel
theorem dX1_restore_6 : decode cX1_restore 6 = .ok (.iconst 1, 1) := by decide +kernel
theorem dX1_restore_7 : decode cX1_restore 7 = .ok (.isub, 1) := by decide +kernel
theorem dX1_restore_8 : decode cX1_restore 8 = .ok (.iconst 5, 1) := by decide +kernel
theorem dX1_restore_9 : decode cX1_restore 9 = .ok (.irem, 1) := by decide +kernel
theorem dX1_restore_10 : decode cX1_restore 10 = .ok (.istore_n 2, 1) := by decide +kernel
theorem dX1_restore_11 : decode cX1_restore 11 = .ok (.aload_n 0, 1) := by decide +kernel
theorem dX1_restore_12 : decode cX1_restore 12 = .ok (.iload_n 2, 1) := by decide +kernel
theorem dX1_restore_13 : decode cX1_restore 13 = .ok (.invokevirtual 22, 3) := by decide +kernel
theorem dX1_restore_16 : decode cX1_restore 16 = .ok (.astore_n 3, 1) := by decide +kernel
theorem dX1_restore_17 : decode cX1_restore 17 = .ok (.aload_n 0, 1) := by decide +kernel
theorem dX1_restore_18 : decode cX1_restore 18 = .ok (.getfield 30, 3) := by decide +kernel
theorem dX1_restore_21 : decode cX1_restore 21 = .ok (.ifCond .le 27, 3) := by decide +kernel
theorem dX1_restore_24 : decode cX1_restore 24 = .ok (.aload_n 3, 1) := by decide +kernel
theorem dX1_restore_25 : decode cX1_restore 25 = .ok (.ifnull 23, 3) := by decide +kernel
theorem dX1_restore_28 : decode cX1_restore 28 = .ok (.aload_n 1, 1) := by decide +kernel
theorem dX1_restore_29 : decode cX1_restore 29 = .ok (.aload_n 3, 1) := by decide +kernel
theorem dX1_restore_30 : decode cX1_restore 30 = .ok (.invokevirtual 26, 3) := by decide +kernel
theorem dX1_restore_33 : decode cX1_restore 33 = .ok (.aload_n 0, 1) := by decide +kernel
theorem dX1_restore_34 : decode cX1_restore 34 = .ok (.iload_n 2, 1) := by decide +kernel
theorem dX1_restore_35 : decode cX1_restore 35 = .ok (.putfield 18, 3) := by decide +kernel
theorem dX1_restore_38 : decode cX1_restore 38 = .ok (.aload_n 0, 1) := by decide +kernel
theorem dX1_restore_39 : decode cX1_restore 39 = .ok (.dup, 1) := by decide +kernel
theorem dX1_restore_40 : decode cX1_restore 40 = .ok (.getfield 30, 3) := by decide +kernel
theorem dX1_restore_43 : decode cX1_restore 43 = .ok (.iconst 1, 1) := by decide +kernel
theorem dX1_restore_44 : decode cX1_restore 44 = .ok (.isub, 1) := by decide +kernel
theorem dX1_restore_45 : decode cX1_restore 45 = .ok (.putfield 30, 3) := by decide +kernel
theorem dX1_restore_48 : decode cX1_restore 48 = .ok (.return_, 1) := by decide +kernel
