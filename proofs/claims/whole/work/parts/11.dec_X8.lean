theorem dX8_init_0 : decode cX8_init 0 = .ok (.aload_n 0, 1) := by decide +kernel
theorem dX8_init_1 : decode cX8_init 1 = .ok (.invokespecial 1, 3) := by decide +kernel
theorem dX8_init_4 : decode cX8_init 4 = .ok (.aload_n 0, 1) := by decide +kernel
theorem dX8_init_5 : decode cX8_init 5 = .ok (.sipush 184, 3) := by decide +kernel
theorem dX8_init_8 : decode cX8_init 8 = .ok (.newarray .int, 2) := by decide +kernel
theorem dX8_init_10 : decode cX8_init 10 = .ok (.putfield 7, 3) := by decide +kernel
theorem dX8_init_13 : decode cX8_init 13 = .ok (.aload_n 0, 1) := by decide +kernel
theorem dX8_init_14 : decode cX8_init 14 = .ok (.sipush 920, 3) := by decide +kernel
theorem dX8_init_17 : decode cX8_init 17 = .ok (.newarray .int, 2) := by decide +kernel
theorem dX8_init_19 : decode cX8_init 19 = .ok (.putfield 13, 3) := by decide +kernel
theorem dX8_init_22 : decode cX8_init 22 = .ok (.aload_n 0, 1) := by decide +kernel
theorem dX8_init_23 : decode cX8_init 23 = .ok (.sipush 184, 3) := by decide +kernel
theorem dX8_init_26 : decode cX8_init 26 = .ok (.newarray .int, 2) := by decide +kernel
theorem dX8_init_28 : decode cX8_init 28 = .ok (.putfield 16, 3) := by decide +kernel
theorem dX8_init_31 : decode cX8_init 31 = .ok (.aload_n 0, 1) := by decide +kernel
theorem dX8_init_32 : decode cX8_init 32 = .ok (.bipush 120, 2) := by decide +kernel
theorem dX8_init_34 : decode cX8_init 34 = .ok (.newarray .int, 2) := by decide +kernel
theorem dX8_init_36 : decode cX8_init 36 = .ok (.putfield 19, 3) := by decide +kernel
theorem dX8_init_39 : decode cX8_init 39 = .ok (.return_, 1) := by decide +kernel
theorem dX8_thrown_0 : decode cX8_thrown 0 = .ok (.aload_n 0, 1) := by decide +kernel
theorem dX8_thrown_1 : decode cX8_thrown 1 = .ok (.getfield 22, 3) := by decide +kernel
theorem dX8_thrown_4 : decode cX8_thrown 4 = .ok (.ireturn, 1) := by decide +kernel
theorem dX8_refused_0 : decode cX8_refused 0 = .ok (.aload_n 0, 1) := by decide +kernel
theorem dX8_refused_1 : decode cX8_refused 1 = .ok (.iload_n 1, 1) := by decide +kernel
theorem dX8_refused_2 : decode cX8_refused 2 = .ok (.putfield 22, 3) := by decide +kernel
theorem dX8_refused_5 : decode cX8_refused 5 = .ok (.iload_n 1, 1) := by decide +kernel
theorem dX8_refused_6 : decode cX8_refused 6 = .ok (.ifCond .le 7, 3) := by decide +kernel
theorem dX8_refused_9 : decode cX8_refused 9 = .ok (.iconst 1, 1) := by decide +kernel
theorem dX8_refused_10 : decode cX8_refused 10 = .ok (.goto 4, 3) := by decide +kernel
theorem dX8_refused_13 : decode cX8_refused 13 = .ok (.iconst 0, 1) := by decide +kernel
theorem dX8_refused_14 : decode cX8_refused 14 = .ok (.ireturn, 1) := by decide +kernel
theorem dX8_within_0 : decode cX8_within 0 = .ok (.iload_n 0, 1) := by decide +kernel
theorem dX8_within_1 : decode cX8_within 1 = .ok (.iload_n 1, 1) := by decide +kernel
theorem dX8_within_2 : decode cX8_within 2 = .ok (.if_icmp .lt 12, 3) := by decide +kernel
theorem dX8_within_5 : decode cX8_within 5 = .ok (.iload_n 0, 1) := by decide +kernel
theorem dX8_within_6 : decode cX8_within 6 = .ok (.iload_n 2, 1) := by decide +kernel
theorem dX8_within_7 : decode cX8_within 7 = .ok (.if_icmp .gt 7, 3) := by decide +kernel
theorem dX8_within_10 : decode cX8_within 10 = .ok (.iconst 1, 1) := by decide +kernel
theorem dX8_within_11 : decode cX8_within 11 = .ok (.goto 4, 3) := by decide +kernel
theorem dX8_within_14 : decode cX8_within 14 = .ok (.iconst 0, 1) := by decide +kernel
theorem dX8_within_15 : decode cX8_within 15 = .ok (.ireturn, 1) := by decide +kernel
theorem dX8_saves_0 : decode cX8_saves 0 = .ok (.aload_n 0, 1) := by decide +kernel
theorem dX8_saves_1 : decode cX8_saves 1 = .ok (.getfield 26, 3) := by decide +kernel
theorem dX8_saves_4 : decode cX8_saves 4 = .ok (.iconst 5, 1) := by decide +kernel
theorem dX8_saves_5 : decode cX8_saves 5 = .ok (.if_icmp .ne 44, 3) := by decide +kernel
theorem dX8_saves_8 : decode cX8_saves 8 = .ok (.iconst 0, 1) := by decide +kernel
theorem dX8_saves_9 : decode cX8_saves 9 = .ok (.istore_n 1, 1) := by decide +kernel
theorem dX8_saves_10 : decode cX8_saves 10 = .ok (.iload_n 1, 1) := by decide +kernel
theorem dX8_saves_11 : decode cX8_saves 11 = .ok (.sipush 736, 3) := by decide +kernel
theorem dX8_saves_14 : decode cX8_saves 14 = .ok (.if_icmp .ge 25, 3) := by decide +kernel
theorem dX8_saves_17 : decode cX8_saves 17 = .ok (.aload_n 0, 1) := by decide +kernel
theorem dX8_saves_18 : decode cX8_saves 18 = .ok (.getfield 13, 3) := by decide +kernel
theorem dX8_saves_21 : decode cX8_saves 21 = .ok (.iload_n 1, 1) := by decide +kernel
theorem dX8_saves_22 : decode cX8_saves 22 = .ok (.aload_n 0, 1) := by decide +kernel
theorem dX8_saves_23 : decode cX8_saves 23 = .ok (.getfield 13, 3) := by decide +kernel
theorem dX8_saves_26 : decode cX8_saves 26 = .ok (.iload_n 1, 1) := by decide +kernel
theorem dX8_saves_27 : decode cX8_saves 27 = .ok (.sipush 184, 3) := by decide +kernel
theorem dX8_saves_30 : decode cX8_saves 30 = .ok (.iadd, 1) := by decide +kernel
theorem dX8_saves_31 : decode cX8_saves 31 = .ok (.iaload, 1) := by decide +kernel
theorem dX8_saves_32 : decode cX8_saves 32 = .ok (.iastore, 1) := by decide +kernel
theorem dX8_saves_33 : decode cX8_saves 33 = .ok (.iinc 1 1, 3) := by decide +kernel
theorem dX8_saves_36 : decode cX8_saves 36 = .ok (.goto (-26), 3) := by decide +kernel
theorem dX8_saves_39 : decode cX8_saves 39 = .ok (.aload_n 0, 1) := by decide +kernel
theorem dX8_saves_40 : decode cX8_saves 40 = .ok (.dup, 1) := by decide +kernel
theorem dX8_saves_41 : decode cX8_saves 41 = .ok (.getfield 26, 3) := by decide +kernel
theorem dX8_saves_44 : decode cX8_saves 44 = .ok (.iconst 1, 1) := by decide +kernel
theorem dX8_saves_45 : decode cX8_saves 45 = .ok (.isub, 1) := by decide +kernel
theorem dX8_saves_46 : decode cX8_saves 46 = .ok (.putfield 26, 3) := by decide +kernel
theorem dX8_saves_49 : decode cX8_saves 49 = .ok (.iconst 0, 1) := by decide +kernel
theorem dX8_saves_50 : decode cX8_saves 50 = .ok (.istore_n 1, 1) := by decide +kernel
theorem dX8_saves_51 : decode cX8_saves 51 = .ok (.iload_n 1, 1) := by decide +kernel
theorem dX8_saves_52 : decode cX8_saves 52 = .ok (.sipush 184, 3) := by decide +kernel
theorem dX8_saves_55 : decode cX8_saves 55 = .ok (.if_icmp .ge 30, 3) := by decide +kernel
theorem dX8_saves_58 : decode cX8_saves 58 = .ok (.aload_n 0, 1) := by decide +kernel
theorem dX8_saves_59 : decode cX8_saves 59 = .ok (.getfield 13, 3) := by decide +kernel
theorem dX8_saves_62 : decode cX8_saves 62 = .ok (.sipush 184, 3) := by decide +kernel
theorem dX8_saves_65 : decode cX8_saves 65 = .ok (.aload_n 0, 1) := by decide +kernel
theorem dX8_saves_66 : decode cX8_saves 66 = .ok (.getfield 26, 3) := by decide +kernel
theorem dX8_saves_69 : decode cX8_saves 69 = .ok (.imul, 1) := by decide +kernel
theorem dX8_saves_70 : decode cX8_saves 70 = .ok (.iload_n 1, 1) := by decide +kernel
theorem dX8_saves_71 : decode cX8_saves 71 = .ok (.iadd, 1) := by decide +kernel
theorem dX8_saves_72 : decode cX8_saves 72 = .ok (.aload_n 0, 1) := by decide +kernel
theorem dX8_saves_73 : decode cX8_saves 73 = .ok (.getfield 7, 3) := by decide +kernel
theorem dX8_saves_76 : decode cX8_saves 76 = .ok (.iload_n 1, 1) := by decide +kernel
theorem dX8_saves_77 : decode cX8_saves 77 = .ok (.iaload, 1) := by decide +kernel
theorem dX8_saves_78 : decode cX8_saves 78 = .ok (.iastore, 1) := by decide +kernel
theorem dX8_saves_79 : decode cX8_saves 79 = .ok (.iinc 1 1, 3) := by decide +kernel
theorem dX8_saves_82 : decode cX8_saves 82 = .ok (.goto (-31), 3) := by decide +kernel
theorem dX8_saves_85 : decode cX8_saves 85 = .ok (.aload_n 0, 1) := by decide +kernel
theorem dX8_saves_86 : decode cX8_saves 86 = .ok (.dup, 1) := by decide +kernel
theorem dX8_saves_87 : decode cX8_saves 87 = .ok (.getfield 26, 3) := by decide +kernel
theorem dX8_saves_90 : decode cX8_saves 90 = .ok (.iconst 1, 1) := by decide +kernel
theorem dX8_saves_91 : decode cX8_saves 91 = .ok (.iadd, 1) := by decide +kernel
theorem dX8_saves_92 : decode cX8_saves 92 = .ok (.putfield 26, 3) := by decide +kernel
theorem dX8_saves_95 : decode cX8_saves 95 = .ok (.return_, 1) := by decide +kernel
theorem dX8_undo_0 : decode cX8_undo 0 = .ok (.aload_n 0, 1) := by decide +kernel
theorem dX8_undo_1 : decode cX8_undo 1 = .ok (.aload_n 0, 1) := by decide +kernel
theorem dX8_undo_2 : decode cX8_undo 2 = .ok (.getfield 26, 3) := by decide +kernel
theorem dX8_undo_5 : decode cX8_undo 5 = .ok (.ifCond .ne 7, 3) := by decide +kernel
theorem dX8_undo_8 : decode cX8_undo 8 = .ok (.iconst 1, 1) := by decide +kernel
theorem dX8_undo_9 : decode cX8_undo 9 = .ok (.goto 4, 3) := by decide +kernel
theorem dX8_undo_12 : decode cX8_undo 12 = .ok (.iconst 0, 1) := by decide +kernel
theorem dX8_undo_13 : decode cX8_undo 13 = .ok (.invokevirtual 29, 3) := by decide +kernel
theorem dX8_undo_16 : decode cX8_undo 16 = .ok (.ifCond .eq 5, 3) := by decide +kernel
theorem dX8_undo_19 : decode cX8_undo 19 = .ok (.iconst 0, 1) := by decide +kernel
theorem dX8_undo_20 : decode cX8_undo 20 = .ok (.ireturn, 1) := by decide +kernel
theorem dX8_undo_21 : decode cX8_undo 21 = .ok (.aload_n 0, 1) := by decide +kernel
theorem dX8_undo_22 : decode cX8_undo 22 = .ok (.dup, 1) := by decide +kernel
theorem dX8_undo_23 : decode cX8_undo 23 = .ok (.getfield 26, 3) := by decide +kernel
theorem dX8_undo_26 : decode cX8_undo 26 = .ok (.iconst 1, 1) := by decide +kernel
theorem dX8_undo_27 : decode cX8_undo 27 = .ok (.isub, 1) := by decide +kernel
theorem dX8_undo_28 : decode cX8_undo 28 = .ok (.putfield 26, 3) := by decide +kernel
theorem dX8_undo_31 : decode cX8_undo 31 = .ok (.iconst 0, 1) := by decide +kernel
theorem dX8_undo_32 : decode cX8_undo 32 = .ok (.istore_n 1, 1) := by decide +kernel
theorem dX8_undo_33 : decode cX8_undo 33 = .ok (.iload_n 1, 1) := by decide +kernel
theorem dX8_undo_34 : decode cX8_undo 34 = .ok (.sipush 184, 3) := by decide +kernel
theorem dX8_undo_37 : decode cX8_undo 37 = .ok (.if_icmp .ge 30, 3) := by decide +kernel
theorem dX8_undo_40 : decode cX8_undo 40 = .ok (.aload_n 0, 1) := by decide +kernel
theorem dX8_undo_41 : decode cX8_undo 41 = .ok (.getfield 7, 3) := by decide +kernel
theorem dX8_undo_44 : decode cX8_undo 44 = .ok (.iload_n 1, 1) := by decide +kernel
theorem dX8_undo_45 : decode cX8_undo 45 = .ok (.aload_n 0, 1) := by decide +kernel
theorem dX8_undo_46 : decode cX8_undo 46 = .ok (.getfield 13, 3) := by decide +kernel
theorem dX8_undo_49 : decode cX8_undo 49 = .ok (.sipush 184, 3) := by decide +kernel
theorem dX8_undo_52 : decode cX8_undo 52 = .ok (.aload_n 0, 1) := by decide +kernel
theorem dX8_undo_53 : decode cX8_undo 53 = .ok (.getfield 26, 3) := by decide +kernel
theorem dX8_undo_56 : decode cX8_undo 56 = .ok (.imul, 1) := by decide +kernel
theorem dX8_undo_57 : decode cX8_undo 57 = .ok (.iload_n 1, 1) := by decide +kernel
theorem dX8_undo_58 : decode cX8_undo 58 = .ok (.iadd, 1) := by decide +kernel
theorem dX8_undo_59 : decode cX8_undo 59 = .ok (.iaload, 1) := by decide +kernel
theorem dX8_undo_60 : decode cX8_undo 60 = .ok (.iastore, 1) := by decide +kernel
theorem dX8_undo_61 : decode cX8_undo 61 = .ok (.iinc 1 1, 3) := by decide +kernel
theorem dX8_undo_64 : decode cX8_undo 64 = .ok (.goto (-31), 3) := by decide +kernel
theorem dX8_undo_67 : decode cX8_undo 67 = .ok (.aload_n 0, 1) := by decide +kernel
theorem dX8_undo_68 : decode cX8_undo 68 = .ok (.getfield 26, 3) := by decide +kernel
theorem dX8_undo_71 : decode cX8_undo 71 = .ok (.ireturn, 1) := by decide +kernel
theorem dX8_many_0 : decode cX8_many 0 = .ok (.aload_n 0, 1) := by decide +kernel
theorem dX8_many_1 : decode cX8_many 1 = .ok (.getfield 7, 3) := by decide +kernel
theorem dX8_many_4 : decode cX8_many 4 = .ok (.sipush 180, 3) := by decide +kernel
theorem dX8_many_7 : decode cX8_many 7 = .ok (.iaload, 1) := by decide +kernel
theorem dX8_many_8 : decode cX8_many 8 = .ok (.ireturn, 1) := by decide +kernel
theorem dX8_item_0 : decode cX8_item 0 = .ok (.aload_n 0, 1) := by decide +kernel
theorem dX8_item_1 : decode cX8_item 1 = .ok (.getfield 7, 3) := by decide +kernel
theorem dX8_item_4 : decode cX8_item 4 = .ok (.bipush 60, 2) := by decide +kernel
theorem dX8_item_6 : decode cX8_item 6 = .ok (.bipush 30, 2) := by decide +kernel
theorem dX8_item_8 : decode cX8_item 8 = .ok (.iload_n 1, 1) := by decide +kernel
theorem dX8_item_9 : decode cX8_item 9 = .ok (.imul, 1) := by decide +kernel
theorem dX8_item_10 : decode cX8_item 10 = .ok (.iadd, 1) := by decide +kernel
theorem dX8_item_11 : decode cX8_item 11 = .ok (.iload_n 2, 1) := by decide +kernel
theorem dX8_item_12 : decode cX8_item 12 = .ok (.iadd, 1) := by decide +kernel
theorem dX8_item_13 : decode cX8_item 13 = .ok (.iaload, 1) := by decide +kernel
theorem dX8_item_14 : decode cX8_item 14 = .ok (.ireturn, 1) := by decide +kernel
theorem dX8_lays_0 : decode cX8_lays 0 = .ok (.aload_n 0, 1) := by decide +kernel
theorem dX8_lays_1 : decode cX8_lays 1 = .ok (.getfield 7, 3) := by decide +kernel
theorem dX8_lays_4 : decode cX8_lays 4 = .ok (.bipush 60, 2) := by decide +kernel
theorem dX8_lays_6 : decode cX8_lays 6 = .ok (.bipush 30, 2) := by decide +kernel
theorem dX8_lays_8 : decode cX8_lays 8 = .ok (.iload_n 1, 1) := by decide +kernel
theorem dX8_lays_9 : decode cX8_lays 9 = .ok (.imul, 1) := by decide +kernel
theorem dX8_lays_10 : decode cX8_lays 10 = .ok (.iadd, 1) := by decide +kernel
theorem dX8_lays_11 : decode cX8_lays 11 = .ok (.iload_n 2, 1) := by decide +kernel
theorem dX8_lays_12 : decode cX8_lays 12 = .ok (.iadd, 1) := by decide +kernel
theorem dX8_lays_13 : decode cX8_lays 13 = .ok (.iload_n 3, 1) := by decide +kernel
theorem dX8_lays_14 : decode cX8_lays 14 = .ok (.iastore, 1) := by decide +kernel
theorem dX8_lays_15 : decode cX8_lays 15 = .ok (.return_, 1) := by decide +kernel
theorem dX8_isItem_0 : decode cX8_isItem 0 = .ok (.iload_n 1, 1) := by decide +kernel
theorem dX8_isItem_1 : decode cX8_isItem 1 = .ok (.iconst 0, 1) := by decide +kernel
theorem dX8_isItem_2 : decode cX8_isItem 2 = .ok (.bipush 29, 2) := by decide +kernel
theorem dX8_isItem_4 : decode cX8_isItem 4 = .ok (.invokestatic 33, 3) := by decide +kernel
theorem dX8_isItem_7 : decode cX8_isItem 7 = .ok (.ifCond .eq 20, 3) := by decide +kernel
theorem dX8_isItem_10 : decode cX8_isItem 10 = .ok (.aload_n 0, 1) := by decide +kernel
theorem dX8_isItem_11 : decode cX8_isItem 11 = .ok (.getfield 7, 3) := by decide +kernel
theorem dX8_isItem_14 : decode cX8_isItem 14 = .ok (.bipush 30, 2) := by decide +kernel
theorem dX8_isItem_16 : decode cX8_isItem 16 = .ok (.iload_n 1, 1) := by decide +kernel
theorem dX8_isItem_17 : decode cX8_isItem 17 = .ok (.iadd, 1) := by decide +kernel
theorem dX8_isItem_18 : decode cX8_isItem 18 = .ok (.iaload, 1) := by decide +kernel
theorem dX8_isItem_19 : decode cX8_isItem 19 = .ok (.iconst 1, 1) := by decide +kernel
theorem dX8_isItem_20 : decode cX8_isItem 20 = .ok (.if_icmp .ne 7, 3) := by decide +kernel
theorem dX8_isItem_23 : decode cX8_isItem 23 = .ok (.iconst 1, 1) := by decide +kernel
theorem dX8_isItem_24 : decode cX8_isItem 24 = .ok (.goto 4, 3) := by decide +kernel
theorem dX8_isItem_27 : decode cX8_isItem 27 = .ok (.iconst 0, 1) := by decide +kernel
theorem dX8_isItem_28 : decode cX8_isItem 28 = .ok (.ireturn, 1) := by decide +kernel
theorem dX8_isLayout_0 : decode cX8_isLayout 0 = .ok (.iload_n 0, 1) := by decide +kernel
theorem dX8_isLayout_1 : decode cX8_isLayout 1 = .ok (.iconst 0, 1) := by decide +kernel
theorem dX8_isLayout_2 : decode cX8_isLayout 2 = .ok (.iconst 3, 1) := by decide +kernel
theorem dX8_isLayout_3 : decode cX8_isLayout 3 = .ok (.invokestatic 33, 3) := by decide +kernel
theorem dX8_isLayout_6 : decode cX8_isLayout 6 = .ok (.ireturn, 1) := by decide +kernel
theorem dX8_isLess_0 : decode cX8_isLess 0 = .ok (.aload_n 0, 1) := by decide +kernel
theorem dX8_isLess_1 : decode cX8_isLess 1 = .ok (.getfield 7, 3) := by decide +kernel
theorem dX8_isLess_4 : decode cX8_isLess 4 = .ok (.iload_n 1, 1) := by decide +kernel
theorem dX8_isLess_5 : decode cX8_isLess 5 = .ok (.iaload, 1) := by decide +kernel
theorem dX8_isLess_6 : decode cX8_isLess 6 = .ok (.aload_n 0, 1) := by decide +kernel
theorem dX8_isLess_7 : decode cX8_isLess 7 = .ok (.getfield 7, 3) := by decide +kernel
theorem dX8_isLess_10 : decode cX8_isLess 10 = .ok (.iload_n 2, 1) := by decide +kernel
theorem dX8_isLess_11 : decode cX8_isLess 11 = .ok (.iaload, 1) := by decide +kernel
theorem dX8_isLess_12 : decode cX8_isLess 12 = .ok (.if_icmp .eq 26, 3) := by decide +kernel
theorem dX8_isLess_15 : decode cX8_isLess 15 = .ok (.aload_n 0, 1) := by decide +kernel
theorem dX8_isLess_16 : decode cX8_isLess 16 = .ok (.getfield 7, 3) := by decide +kernel
theorem dX8_isLess_19 : decode cX8_isLess 19 = .ok (.iload_n 1, 1) := by decide +kernel
theorem dX8_isLess_20 : decode cX8_isLess 20 = .ok (.iaload, 1) := by decide +kernel
theorem dX8_isLess_21 : decode cX8_isLess 21 = .ok (.aload_n 0, 1) := by decide +kernel
theorem dX8_isLess_22 : decode cX8_isLess 22 = .ok (.getfield 7, 3) := by decide +kernel
theorem dX8_isLess_25 : decode cX8_isLess 25 = .ok (.iload_n 2, 1) := by decide +kernel
theorem dX8_isLess_26 : decode cX8_isLess 26 = .ok (.iaload, 1) := by decide +kernel
theorem dX8_isLess_27 : decode cX8_isLess 27 = .ok (.if_icmp .ge 7, 3) := by decide +kernel
theorem dX8_isLess_30 : decode cX8_isLess 30 = .ok (.iconst 1, 1) := by decide +kernel
theorem dX8_isLess_31 : decode cX8_isLess 31 = .ok (.goto 17, 3) := by decide +kernel
theorem dX8_isLess_34 : decode cX8_isLess 34 = .ok (.iconst 0, 1) := by decide +kernel
theorem dX8_isLess_35 : decode cX8_isLess 35 = .ok (.goto 13, 3) := by decide +kernel
theorem dX8_isLess_38 : decode cX8_isLess 38 = .ok (.iload_n 1, 1) := by decide +kernel
theorem dX8_isLess_39 : decode cX8_isLess 39 = .ok (.iload_n 2, 1) := by decide +kernel
theorem dX8_isLess_40 : decode cX8_isLess 40 = .ok (.if_icmp .ge 7, 3) := by decide +kernel
theorem dX8_isLess_43 : decode cX8_isLess 43 = .ok (.iconst 1, 1) := by decide +kernel
theorem dX8_isLess_44 : decode cX8_isLess 44 = .ok (.goto 4, 3) := by decide +kernel
theorem dX8_isLess_47 : decode cX8_isLess 47 = .ok (.iconst 0, 1) := by decide +kernel
theorem dX8_isLess_48 : decode cX8_isLess 48 = .ok (.ireturn, 1) := by decide +kernel
theorem dX8_less_0 : decode cX8_less 0 = .ok (.aload_n 0, 1) := by decide +kernel
theorem dX8_less_1 : decode cX8_less 1 = .ok (.getfield 7, 3) := by decide +kernel
theorem dX8_less_4 : decode cX8_less 4 = .ok (.sipush 181, 3) := by decide +kernel
theorem dX8_less_7 : decode cX8_less 7 = .ok (.iload_n 1, 1) := by decide +kernel
theorem dX8_less_8 : decode cX8_less 8 = .ok (.iconst 2, 1) := by decide +kernel
theorem dX8_less_9 : decode cX8_less 9 = .ok (.if_icmp .ge 7, 3) := by decide +kernel
theorem dX8_less_12 : decode cX8_less 12 = .ok (.iload_n 1, 1) := by decide +kernel
theorem dX8_less_13 : decode cX8_less 13 = .ok (.goto 4, 3) := by decide +kernel
theorem dX8_less_16 : decode cX8_less 16 = .ok (.iconst 2, 1) := by decide +kernel
theorem dX8_less_17 : decode cX8_less 17 = .ok (.iadd, 1) := by decide +kernel
theorem dX8_less_18 : decode cX8_less 18 = .ok (.dup2, 1) := by decide +kernel
theorem dX8_less_19 : decode cX8_less 19 = .ok (.iaload, 1) := by decide +kernel
theorem dX8_less_20 : decode cX8_less 20 = .ok (.iconst 1, 1) := by decide +kernel
theorem dX8_less_21 : decode cX8_less 21 = .ok (.iadd, 1) := by decide +kernel
theorem dX8_less_22 : decode cX8_less 22 = .ok (.iastore, 1) := by decide +kernel
theorem dX8_less_23 : decode cX8_less 23 = .ok (.aload_n 0, 1) := by decide +kernel
theorem dX8_less_24 : decode cX8_less 24 = .ok (.aload_n 0, 1) := by decide +kernel
theorem dX8_less_25 : decode cX8_less 25 = .ok (.iload_n 1, 1) := by decide +kernel
theorem dX8_less_26 : decode cX8_less 26 = .ok (.iload_n 2, 1) := by decide +kernel
theorem dX8_less_27 : decode cX8_less 27 = .ok (.invokevirtual 37, 3) := by decide +kernel
theorem dX8_less_30 : decode cX8_less 30 = .ok (.aload_n 0, 1) := by decide +kernel
theorem dX8_less_31 : decode cX8_less 31 = .ok (.iload_n 1, 1) := by decide +kernel
theorem dX8_less_32 : decode cX8_less 32 = .ok (.iload_n 3, 1) := by decide +kernel
theorem dX8_less_33 : decode cX8_less 33 = .ok (.invokevirtual 37, 3) := by decide +kernel
theorem dX8_less_36 : decode cX8_less 36 = .ok (.invokevirtual 41, 3) := by decide +kernel
theorem dX8_less_39 : decode cX8_less 39 = .ok (.ireturn, 1) := by decide +kernel
theorem dX8_exchange_0 : decode cX8_exchange 0 = .ok (.aload_n 0, 1) := by decide +kernel
theorem dX8_exchange_1 : decode cX8_exchange 1 = .ok (.iload_n 1, 1) := by decide +kernel
theorem dX8_exchange_2 : decode cX8_exchange 2 = .ok (.iload_n 2, 1) := by decide +kernel
theorem dX8_exchange_3 : decode cX8_exchange 3 = .ok (.invokevirtual 37, 3) := by decide +kernel
theorem dX8_exchange_6 : decode cX8_exchange 6 = .ok (.istore 4, 2) := by decide +kernel
theorem dX8_exchange_8 : decode cX8_exchange 8 = .ok (.aload_n 0, 1) := by decide +kernel
theorem dX8_exchange_9 : decode cX8_exchange 9 = .ok (.iload_n 1, 1) := by decide +kernel
theorem dX8_exchange_10 : decode cX8_exchange 10 = .ok (.iload_n 2, 1) := by decide +kernel
theorem dX8_exchange_11 : decode cX8_exchange 11 = .ok (.aload_n 0, 1) := by decide +kernel
theorem dX8_exchange_12 : decode cX8_exchange 12 = .ok (.iload_n 1, 1) := by decide +kernel
theorem dX8_exchange_13 : decode cX8_exchange 13 = .ok (.iload_n 3, 1) := by decide +kernel
theorem dX8_exchange_14 : decode cX8_exchange 14 = .ok (.invokevirtual 37, 3) := by decide +kernel
theorem dX8_exchange_17 : decode cX8_exchange 17 = .ok (.invokevirtual 45, 3) := by decide +kernel
theorem dX8_exchange_20 : decode cX8_exchange 20 = .ok (.aload_n 0, 1) := by decide +kernel
theorem dX8_exchange_21 : decode cX8_exchange 21 = .ok (.iload_n 1, 1) := by decide +kernel
theorem dX8_exchange_22 : decode cX8_exchange 22 = .ok (.iload_n 3, 1) := by decide +kernel
theorem dX8_exchange_23 : decode cX8_exchange 23 = .ok (.iload 4, 2) := by decide +kernel
theorem dX8_exchange_25 : decode cX8_exchange 25 = .ok (.invokevirtual 45, 3) := by decide +kernel
theorem dX8_exchange_28 : decode cX8_exchange 28 = .ok (.return_, 1) := by decide +kernel
theorem dX8_placeOf_0 : decode cX8_placeOf 0 = .ok (.iconst 0, 1) := by decide +kernel
theorem dX8_placeOf_1 : decode cX8_placeOf 1 = .ok (.istore_n 3, 1) := by decide +kernel
theorem dX8_placeOf_2 : decode cX8_placeOf 2 = .ok (.aload_n 0, 1) := by decide +kernel
theorem dX8_placeOf_3 : decode cX8_placeOf 3 = .ok (.iload_n 1, 1) := by decide +kernel
theorem dX8_placeOf_4 : decode cX8_placeOf 4 = .ok (.iload_n 3, 1) := by decide +kernel
theorem dX8_placeOf_5 : decode cX8_placeOf 5 = .ok (.invokevirtual 37, 3) := by decide +kernel
theorem dX8_placeOf_8 : decode cX8_placeOf 8 = .ok (.iload_n 2, 1) := by decide +kernel
theorem dX8_placeOf_9 : decode cX8_placeOf 9 = .ok (.if_icmp .eq 9, 3) := by decide +kernel
theorem dX8_placeOf_12 : decode cX8_placeOf 12 = .ok (.iinc 3 1, 3) := by decide +kernel
theorem dX8_placeOf_15 : decode cX8_placeOf 15 = .ok (.goto (-13), 3) := by decide +kernel
theorem dX8_placeOf_18 : decode cX8_placeOf 18 = .ok (.iload_n 3, 1) := by decide +kernel
theorem dX8_placeOf_19 : decode cX8_placeOf 19 = .ok (.ireturn, 1) := by decide +kernel
theorem dX8_closes_0 : decode cX8_closes 0 = .ok (.aload_n 0, 1) := by decide +kernel
theorem dX8_closes_1 : decode cX8_closes 1 = .ok (.iload_n 1, 1) := by decide +kernel
theorem dX8_closes_2 : decode cX8_closes 2 = .ok (.iload_n 2, 1) := by decide +kernel
theorem dX8_closes_3 : decode cX8_closes 3 = .ok (.aload_n 0, 1) := by decide +kernel
theorem dX8_closes_4 : decode cX8_closes 4 = .ok (.iload_n 1, 1) := by decide +kernel
theorem dX8_closes_5 : decode cX8_closes 5 = .ok (.iload_n 3, 1) := by decide +kernel
theorem dX8_closes_6 : decode cX8_closes 6 = .ok (.iconst 1, 1) := by decide +kernel
theorem dX8_closes_7 : decode cX8_closes 7 = .ok (.isub, 1) := by decide +kernel
theorem dX8_closes_8 : decode cX8_closes 8 = .ok (.invokevirtual 37, 3) := by decide +kernel
theorem dX8_closes_11 : decode cX8_closes 11 = .ok (.invokevirtual 45, 3) := by decide +kernel
theorem dX8_closes_14 : decode cX8_closes 14 = .ok (.aload_n 0, 1) := by decide +kernel
theorem dX8_closes_15 : decode cX8_closes 15 = .ok (.iload_n 1, 1) := by decide +kernel
theorem dX8_closes_16 : decode cX8_closes 16 = .ok (.iload_n 3, 1) := by decide +kernel
theorem dX8_closes_17 : decode cX8_closes 17 = .ok (.iconst 1, 1) := by decide +kernel
theorem dX8_closes_18 : decode cX8_closes 18 = .ok (.isub, 1) := by decide +kernel
theorem dX8_closes_19 : decode cX8_closes 19 = .ok (.iconst 0, 1) := by decide +kernel
theorem dX8_closes_20 : decode cX8_closes 20 = .ok (.invokevirtual 45, 3) := by decide +kernel
theorem dX8_closes_23 : decode cX8_closes 23 = .ok (.iload_n 3, 1) := by decide +kernel
theorem dX8_closes_24 : decode cX8_closes 24 = .ok (.iconst 1, 1) := by decide +kernel
theorem dX8_closes_25 : decode cX8_closes 25 = .ok (.isub, 1) := by decide +kernel
theorem dX8_closes_26 : decode cX8_closes 26 = .ok (.ireturn, 1) := by decide +kernel
theorem dX8_laysAll_0 : decode cX8_laysAll 0 = .ok (.iconst 0, 1) := by decide +kernel
theorem dX8_laysAll_1 : decode cX8_laysAll 1 = .ok (.istore_n 2, 1) := by decide +kernel
theorem dX8_laysAll_2 : decode cX8_laysAll 2 = .ok (.iconst 0, 1) := by decide +kernel
theorem dX8_laysAll_3 : decode cX8_laysAll 3 = .ok (.istore_n 3, 1) := by decide +kernel
theorem dX8_laysAll_4 : decode cX8_laysAll 4 = .ok (.iload_n 3, 1) := by decide +kernel
theorem dX8_laysAll_5 : decode cX8_laysAll 5 = .ok (.bipush 30, 2) := by decide +kernel
theorem dX8_laysAll_7 : decode cX8_laysAll 7 = .ok (.if_icmp .ge 27, 3) := by decide +kernel
theorem dX8_laysAll_10 : decode cX8_laysAll 10 = .ok (.aload_n 0, 1) := by decide +kernel
theorem dX8_laysAll_11 : decode cX8_laysAll 11 = .ok (.iload_n 3, 1) := by decide +kernel
theorem dX8_laysAll_12 : decode cX8_laysAll 12 = .ok (.invokevirtual 49, 3) := by decide +kernel
theorem dX8_laysAll_15 : decode cX8_laysAll 15 = .ok (.ifCond .eq 13, 3) := by decide +kernel
theorem dX8_laysAll_18 : decode cX8_laysAll 18 = .ok (.aload_n 0, 1) := by decide +kernel
theorem dX8_laysAll_19 : decode cX8_laysAll 19 = .ok (.iload_n 1, 1) := by decide +kernel
theorem dX8_laysAll_20 : decode cX8_laysAll 20 = .ok (.iload_n 2, 1) := by decide +kernel
theorem dX8_laysAll_21 : decode cX8_laysAll 21 = .ok (.iload_n 3, 1) := by decide +kernel
theorem dX8_laysAll_22 : decode cX8_laysAll 22 = .ok (.invokevirtual 45, 3) := by decide +kernel
theorem dX8_laysAll_25 : decode cX8_laysAll 25 = .ok (.iinc 2 1, 3) := by decide +kernel
theorem dX8_laysAll_28 : decode cX8_laysAll 28 = .ok (.iinc 3 1, 3) := by decide +kernel
theorem dX8_laysAll_31 : decode cX8_laysAll 31 = .ok (.goto (-27), 3) := by decide +kernel
theorem dX8_laysAll_34 : decode cX8_laysAll 34 = .ok (.return_, 1) := by decide +kernel
theorem dX8_topOf_0 : decode cX8_topOf 0 = .ok (.iconst 2, 1) := by decide +kernel
theorem dX8_topOf_1 : decode cX8_topOf 1 = .ok (.iload_n 1, 1) := by decide +kernel
theorem dX8_topOf_2 : decode cX8_topOf 2 = .ok (.imul, 1) := by decide +kernel
theorem dX8_topOf_3 : decode cX8_topOf 3 = .ok (.iconst 1, 1) := by decide +kernel
theorem dX8_topOf_4 : decode cX8_topOf 4 = .ok (.iadd, 1) := by decide +kernel
theorem dX8_topOf_5 : decode cX8_topOf 5 = .ok (.iload_n 2, 1) := by decide +kernel
theorem dX8_topOf_6 : decode cX8_topOf 6 = .ok (.if_icmp .ge 11, 3) := by decide +kernel
theorem dX8_topOf_9 : decode cX8_topOf 9 = .ok (.iconst 2, 1) := by decide +kernel
theorem dX8_topOf_10 : decode cX8_topOf 10 = .ok (.iload_n 1, 1) := by decide +kernel
theorem dX8_topOf_11 : decode cX8_topOf 11 = .ok (.imul, 1) := by decide +kernel
theorem dX8_topOf_12 : decode cX8_topOf 12 = .ok (.iconst 1, 1) := by decide +kernel
theorem dX8_topOf_13 : decode cX8_topOf 13 = .ok (.iadd, 1) := by decide +kernel
theorem dX8_topOf_14 : decode cX8_topOf 14 = .ok (.goto 6, 3) := by decide +kernel
theorem dX8_topOf_17 : decode cX8_topOf 17 = .ok (.iconst 2, 1) := by decide +kernel
theorem dX8_topOf_18 : decode cX8_topOf 18 = .ok (.iload_n 1, 1) := by decide +kernel
theorem dX8_topOf_19 : decode cX8_topOf 19 = .ok (.imul, 1) := by decide +kernel
theorem dX8_topOf_20 : decode cX8_topOf 20 = .ok (.ireturn, 1) := by decide +kernel
theorem dX8_orders_0 : decode cX8_orders 0 = .ok (.iconst 2, 1) := by decide +kernel
theorem dX8_orders_1 : decode cX8_orders 1 = .ok (.iload_n 1, 1) := by decide +kernel
theorem dX8_orders_2 : decode cX8_orders 2 = .ok (.imul, 1) := by decide +kernel
theorem dX8_orders_3 : decode cX8_orders 3 = .ok (.iconst 1, 1) := by decide +kernel
theorem dX8_orders_4 : decode cX8_orders 4 = .ok (.iadd, 1) := by decide +kernel
theorem dX8_orders_5 : decode cX8_orders 5 = .ok (.iload_n 2, 1) := by decide +kernel
theorem dX8_orders_6 : decode cX8_orders 6 = .ok (.if_icmp .ge 32, 3) := by decide +kernel
theorem dX8_orders_9 : decode cX8_orders 9 = .ok (.aload_n 0, 1) := by decide +kernel
theorem dX8_orders_10 : decode cX8_orders 10 = .ok (.iconst 0, 1) := by decide +kernel
theorem dX8_orders_11 : decode cX8_orders 11 = .ok (.iconst 2, 1) := by decide +kernel
theorem dX8_orders_12 : decode cX8_orders 12 = .ok (.iload_n 1, 1) := by decide +kernel
theorem dX8_orders_13 : decode cX8_orders 13 = .ok (.imul, 1) := by decide +kernel
theorem dX8_orders_14 : decode cX8_orders 14 = .ok (.iconst 1, 1) := by decide +kernel
theorem dX8_orders_15 : decode cX8_orders 15 = .ok (.iadd, 1) := by decide +kernel
theorem dX8_orders_16 : decode cX8_orders 16 = .ok (.iconst 2, 1) := by decide +kernel
theorem dX8_orders_17 : decode cX8_orders 17 = .ok (.iload_n 1, 1) := by decide +kernel
theorem dX8_orders_18 : decode cX8_orders 18 = .ok (.imul, 1) := by decide +kernel
theorem dX8_orders_19 : decode cX8_orders 19 = .ok (.invokevirtual 52, 3) := by decide +kernel
theorem dX8_orders_22 : decode cX8_orders 22 = .ok (.ifCond .eq 16, 3) := by decide +kernel
theorem dX8_orders_25 : decode cX8_orders 25 = .ok (.aload_n 0, 1) := by decide +kernel
theorem dX8_orders_26 : decode cX8_orders 26 = .ok (.iconst 0, 1) := by decide +kernel
theorem dX8_orders_27 : decode cX8_orders 27 = .ok (.iconst 2, 1) := by decide +kernel
theorem dX8_orders_28 : decode cX8_orders 28 = .ok (.iload_n 1, 1) := by decide +kernel
theorem dX8_orders_29 : decode cX8_orders 29 = .ok (.imul, 1) := by decide +kernel
theorem dX8_orders_30 : decode cX8_orders 30 = .ok (.iconst 2, 1) := by decide +kernel
theorem dX8_orders_31 : decode cX8_orders 31 = .ok (.iload_n 1, 1) := by decide +kernel
theorem dX8_orders_32 : decode cX8_orders 32 = .ok (.imul, 1) := by decide +kernel
theorem dX8_orders_33 : decode cX8_orders 33 = .ok (.iconst 1, 1) := by decide +kernel
theorem dX8_orders_34 : decode cX8_orders 34 = .ok (.iadd, 1) := by decide +kernel
theorem dX8_orders_35 : decode cX8_orders 35 = .ok (.invokevirtual 55, 3) := by decide +kernel
theorem dX8_orders_38 : decode cX8_orders 38 = .ok (.return_, 1) := by decide +kernel
theorem dX8_risesLow_0 : decode cX8_risesLow 0 = .ok (.iload_n 1, 1) := by decide +kernel
theorem dX8_risesLow_1 : decode cX8_risesLow 1 = .ok (.istore_n 2, 1) := by decide +kernel
theorem dX8_risesLow_2 : decode cX8_risesLow 2 = .ok (.iload_n 2, 1) := by decide +kernel
theorem dX8_risesLow_3 : decode cX8_risesLow 3 = .ok (.ifCond .le 45, 3) := by decide +kernel
theorem dX8_risesLow_6 : decode cX8_risesLow 6 = .ok (.aload_n 0, 1) := by decide +kernel
theorem dX8_risesLow_7 : decode cX8_risesLow 7 = .ok (.iconst 0, 1) := by decide +kernel
theorem dX8_risesLow_8 : decode cX8_risesLow 8 = .ok (.iconst 2, 1) := by decide +kernel
theorem dX8_risesLow_9 : decode cX8_risesLow 9 = .ok (.iload_n 2, 1) := by decide +kernel
theorem dX8_risesLow_10 : decode cX8_risesLow 10 = .ok (.imul, 1) := by decide +kernel
theorem dX8_risesLow_11 : decode cX8_risesLow 11 = .ok (.iload_n 2, 1) := by decide +kernel
theorem dX8_risesLow_12 : decode cX8_risesLow 12 = .ok (.iconst 1, 1) := by decide +kernel
theorem dX8_risesLow_13 : decode cX8_risesLow 13 = .ok (.isub, 1) := by decide +kernel
theorem dX8_risesLow_14 : decode cX8_risesLow 14 = .ok (.iconst 2, 1) := by decide +kernel
theorem dX8_risesLow_15 : decode cX8_risesLow 15 = .ok (.idiv, 1) := by decide +kernel
theorem dX8_risesLow_16 : decode cX8_risesLow 16 = .ok (.iconst 2, 1) := by decide +kernel
theorem dX8_risesLow_17 : decode cX8_risesLow 17 = .ok (.imul, 1) := by decide +kernel
theorem dX8_risesLow_18 : decode cX8_risesLow 18 = .ok (.invokevirtual 52, 3) := by decide +kernel
theorem dX8_risesLow_21 : decode cX8_risesLow 21 = .ok (.ifCond .eq 27, 3) := by decide +kernel
theorem dX8_risesLow_24 : decode cX8_risesLow 24 = .ok (.aload_n 0, 1) := by decide +kernel
theorem dX8_risesLow_25 : decode cX8_risesLow 25 = .ok (.iconst 0, 1) := by decide +kernel
theorem dX8_risesLow_26 : decode cX8_risesLow 26 = .ok (.iconst 2, 1) := by decide +kernel
theorem dX8_risesLow_27 : decode cX8_risesLow 27 = .ok (.iload_n 2, 1) := by decide +kernel
theorem dX8_risesLow_28 : decode cX8_risesLow 28 = .ok (.imul, 1) := by decide +kernel
theorem dX8_risesLow_29 : decode cX8_risesLow 29 = .ok (.iload_n 2, 1) := by decide +kernel
theorem dX8_risesLow_30 : decode cX8_risesLow 30 = .ok (.iconst 1, 1) := by decide +kernel
theorem dX8_risesLow_31 : decode cX8_risesLow 31 = .ok (.isub, 1) := by decide +kernel
theorem dX8_risesLow_32 : decode cX8_risesLow 32 = .ok (.iconst 2, 1) := by decide +kernel
theorem dX8_risesLow_33 : decode cX8_risesLow 33 = .ok (.idiv, 1) := by decide +kernel
theorem dX8_risesLow_34 : decode cX8_risesLow 34 = .ok (.iconst 2, 1) := by decide +kernel
theorem dX8_risesLow_35 : decode cX8_risesLow 35 = .ok (.imul, 1) := by decide +kernel
theorem dX8_risesLow_36 : decode cX8_risesLow 36 = .ok (.invokevirtual 55, 3) := by decide +kernel
theorem dX8_risesLow_39 : decode cX8_risesLow 39 = .ok (.iload_n 2, 1) := by decide +kernel
theorem dX8_risesLow_40 : decode cX8_risesLow 40 = .ok (.iconst 1, 1) := by decide +kernel
theorem dX8_risesLow_41 : decode cX8_risesLow 41 = .ok (.isub, 1) := by decide +kernel
theorem dX8_risesLow_42 : decode cX8_risesLow 42 = .ok (.iconst 2, 1) := by decide +kernel
theorem dX8_risesLow_43 : decode cX8_risesLow 43 = .ok (.idiv, 1) := by decide +kernel
theorem dX8_risesLow_44 : decode cX8_risesLow 44 = .ok (.istore_n 2, 1) := by decide +kernel
theorem dX8_risesLow_45 : decode cX8_risesLow 45 = .ok (.goto (-43), 3) := by decide +kernel
theorem dX8_risesLow_48 : decode cX8_risesLow 48 = .ok (.return_, 1) := by decide +kernel
theorem dX8_risesHigh_0 : decode cX8_risesHigh 0 = .ok (.iload_n 1, 1) := by decide +kernel
theorem dX8_risesHigh_1 : decode cX8_risesHigh 1 = .ok (.istore_n 3, 1) := by decide +kernel
theorem dX8_risesHigh_2 : decode cX8_risesHigh 2 = .ok (.iload_n 2, 1) := by decide +kernel
theorem dX8_risesHigh_3 : decode cX8_risesHigh 3 = .ok (.istore 4, 2) := by decide +kernel
theorem dX8_risesHigh_5 : decode cX8_risesHigh 5 = .ok (.iload_n 3, 1) := by decide +kernel
theorem dX8_risesHigh_6 : decode cX8_risesHigh 6 = .ok (.ifCond .le 55, 3) := by decide +kernel
theorem dX8_risesHigh_9 : decode cX8_risesHigh 9 = .ok (.aload_n 0, 1) := by decide +kernel
theorem dX8_risesHigh_10 : decode cX8_risesHigh 10 = .ok (.iconst 0, 1) := by decide +kernel
theorem dX8_risesHigh_11 : decode cX8_risesHigh 11 = .ok (.iload_n 3, 1) := by decide +kernel
theorem dX8_risesHigh_12 : decode cX8_risesHigh 12 = .ok (.iconst 1, 1) := by decide +kernel
theorem dX8_risesHigh_13 : decode cX8_risesHigh 13 = .ok (.isub, 1) := by decide +kernel
theorem dX8_risesHigh_14 : decode cX8_risesHigh 14 = .ok (.iconst 2, 1) := by decide +kernel
theorem dX8_risesHigh_15 : decode cX8_risesHigh 15 = .ok (.idiv, 1) := by decide +kernel
theorem dX8_risesHigh_16 : decode cX8_risesHigh 16 = .ok (.iconst 2, 1) := by decide +kernel
theorem dX8_risesHigh_17 : decode cX8_risesHigh 17 = .ok (.imul, 1) := by decide +kernel
theorem dX8_risesHigh_18 : decode cX8_risesHigh 18 = .ok (.iconst 1, 1) := by decide +kernel
theorem dX8_risesHigh_19 : decode cX8_risesHigh 19 = .ok (.iadd, 1) := by decide +kernel
theorem dX8_risesHigh_20 : decode cX8_risesHigh 20 = .ok (.iload 4, 2) := by decide +kernel
theorem dX8_risesHigh_22 : decode cX8_risesHigh 22 = .ok (.invokevirtual 52, 3) := by decide +kernel
theorem dX8_risesHigh_25 : decode cX8_risesHigh 25 = .ok (.ifCond .eq 36, 3) := by decide +kernel
theorem dX8_risesHigh_28 : decode cX8_risesHigh 28 = .ok (.iload_n 3, 1) := by decide +kernel
theorem dX8_risesHigh_29 : decode cX8_risesHigh 29 = .ok (.iconst 1, 1) := by decide +kernel
theorem dX8_risesHigh_30 : decode cX8_risesHigh 30 = .ok (.isub, 1) := by decide +kernel
theorem dX8_risesHigh_31 : decode cX8_risesHigh 31 = .ok (.iconst 2, 1) := by decide +kernel
theorem dX8_risesHigh_32 : decode cX8_risesHigh 32 = .ok (.idiv, 1) := by decide +kernel
theorem dX8_risesHigh_33 : decode cX8_risesHigh 33 = .ok (.iconst 2, 1) := by decide +kernel
theorem dX8_risesHigh_34 : decode cX8_risesHigh 34 = .ok (.imul, 1) := by decide +kernel
theorem dX8_risesHigh_35 : decode cX8_risesHigh 35 = .ok (.iconst 1, 1) := by decide +kernel
theorem dX8_risesHigh_36 : decode cX8_risesHigh 36 = .ok (.iadd, 1) := by decide +kernel
theorem dX8_risesHigh_37 : decode cX8_risesHigh 37 = .ok (.istore 5, 2) := by decide +kernel
theorem dX8_risesHigh_39 : decode cX8_risesHigh 39 = .ok (.aload_n 0, 1) := by decide +kernel
theorem dX8_risesHigh_40 : decode cX8_risesHigh 40 = .ok (.iconst 0, 1) := by decide +kernel
theorem dX8_risesHigh_41 : decode cX8_risesHigh 41 = .ok (.iload 5, 2) := by decide +kernel
theorem dX8_risesHigh_43 : decode cX8_risesHigh 43 = .ok (.iload 4, 2) := by decide +kernel
theorem dX8_risesHigh_45 : decode cX8_risesHigh 45 = .ok (.invokevirtual 55, 3) := by decide +kernel
theorem dX8_risesHigh_48 : decode cX8_risesHigh 48 = .ok (.iload_n 3, 1) := by decide +kernel
theorem dX8_risesHigh_49 : decode cX8_risesHigh 49 = .ok (.iconst 1, 1) := by decide +kernel
theorem dX8_risesHigh_50 : decode cX8_risesHigh 50 = .ok (.isub, 1) := by decide +kernel
theorem dX8_risesHigh_51 : decode cX8_risesHigh 51 = .ok (.iconst 2, 1) := by decide +kernel
theorem dX8_risesHigh_52 : decode cX8_risesHigh 52 = .ok (.idiv, 1) := by decide +kernel
theorem dX8_risesHigh_53 : decode cX8_risesHigh 53 = .ok (.istore_n 3, 1) := by decide +kernel
theorem dX8_risesHigh_54 : decode cX8_risesHigh 54 = .ok (.iload 5, 2) := by decide +kernel
theorem dX8_risesHigh_56 : decode cX8_risesHigh 56 = .ok (.istore 4, 2) := by decide +kernel
theorem dX8_risesHigh_58 : decode cX8_risesHigh 58 = .ok (.goto (-53), 3) := by decide +kernel
theorem dX8_risesHigh_61 : decode cX8_risesHigh 61 = .ok (.return_, 1) := by decide +kernel
theorem dX8_sinksLow_0 : decode cX8_sinksLow 0 = .ok (.iload_n 1, 1) := by decide +kernel
theorem dX8_sinksLow_1 : decode cX8_sinksLow 1 = .ok (.istore_n 3, 1) := by decide +kernel
theorem dX8_sinksLow_2 : decode cX8_sinksLow 2 = .ok (.iconst 1, 1) := by decide +kernel
theorem dX8_sinksLow_3 : decode cX8_sinksLow 3 = .ok (.istore 4, 2) := by decide +kernel
theorem dX8_sinksLow_5 : decode cX8_sinksLow 5 = .ok (.iload 4, 2) := by decide +kernel
theorem dX8_sinksLow_7 : decode cX8_sinksLow 7 = .ok (.ifCond .eq 111, 3) := by decide +kernel
theorem dX8_sinksLow_10 : decode cX8_sinksLow 10 = .ok (.aload_n 0, 1) := by decide +kernel
theorem dX8_sinksLow_11 : decode cX8_sinksLow 11 = .ok (.iload_n 3, 1) := by decide +kernel
theorem dX8_sinksLow_12 : decode cX8_sinksLow 12 = .ok (.iload_n 2, 1) := by decide +kernel
theorem dX8_sinksLow_13 : decode cX8_sinksLow 13 = .ok (.invokevirtual 58, 3) := by decide +kernel
theorem dX8_sinksLow_16 : decode cX8_sinksLow 16 = .ok (.iconst 2, 1) := by decide +kernel
theorem dX8_sinksLow_17 : decode cX8_sinksLow 17 = .ok (.iload_n 3, 1) := by decide +kernel
theorem dX8_sinksLow_18 : decode cX8_sinksLow 18 = .ok (.imul, 1) := by decide +kernel
theorem dX8_sinksLow_19 : decode cX8_sinksLow 19 = .ok (.iconst 1, 1) := by decide +kernel
theorem dX8_sinksLow_20 : decode cX8_sinksLow 20 = .ok (.iadd, 1) := by decide +kernel
theorem dX8_sinksLow_21 : decode cX8_sinksLow 21 = .ok (.istore 5, 2) := by decide +kernel
theorem dX8_sinksLow_23 : decode cX8_sinksLow 23 = .ok (.iconst 2, 1) := by decide +kernel
theorem dX8_sinksLow_24 : decode cX8_sinksLow 24 = .ok (.iload 5, 2) := by decide +kernel
theorem dX8_sinksLow_26 : decode cX8_sinksLow 26 = .ok (.imul, 1) := by decide +kernel
theorem dX8_sinksLow_27 : decode cX8_sinksLow 27 = .ok (.iload_n 2, 1) := by decide +kernel
theorem dX8_sinksLow_28 : decode cX8_sinksLow 28 = .ok (.if_icmp .ge 7, 3) := by decide +kernel
theorem dX8_sinksLow_31 : decode cX8_sinksLow 31 = .ok (.iconst 1, 1) := by decide +kernel
theorem dX8_sinksLow_32 : decode cX8_sinksLow 32 = .ok (.goto 4, 3) := by decide +kernel
theorem dX8_sinksLow_35 : decode cX8_sinksLow 35 = .ok (.iconst 0, 1) := by decide +kernel
theorem dX8_sinksLow_36 : decode cX8_sinksLow 36 = .ok (.istore 4, 2) := by decide +kernel
theorem dX8_sinksLow_38 : decode cX8_sinksLow 38 = .ok (.iload 4, 2) := by decide +kernel
theorem dX8_sinksLow_40 : decode cX8_sinksLow 40 = .ok (.ifCond .eq 55, 3) := by decide +kernel
theorem dX8_sinksLow_43 : decode cX8_sinksLow 43 = .ok (.iload 5, 2) := by decide +kernel
theorem dX8_sinksLow_45 : decode cX8_sinksLow 45 = .ok (.iconst 2, 1) := by decide +kernel
theorem dX8_sinksLow_46 : decode cX8_sinksLow 46 = .ok (.iload 5, 2) := by decide +kernel
theorem dX8_sinksLow_48 : decode cX8_sinksLow 48 = .ok (.iconst 1, 1) := by decide +kernel
theorem dX8_sinksLow_49 : decode cX8_sinksLow 49 = .ok (.iadd, 1) := by decide +kernel
theorem dX8_sinksLow_50 : decode cX8_sinksLow 50 = .ok (.imul, 1) := by decide +kernel
theorem dX8_sinksLow_51 : decode cX8_sinksLow 51 = .ok (.iload_n 2, 1) := by decide +kernel
theorem dX8_sinksLow_52 : decode cX8_sinksLow 52 = .ok (.if_icmp .ge 25, 3) := by decide +kernel
theorem dX8_sinksLow_55 : decode cX8_sinksLow 55 = .ok (.aload_n 0, 1) := by decide +kernel
theorem dX8_sinksLow_56 : decode cX8_sinksLow 56 = .ok (.iconst 0, 1) := by decide +kernel
theorem dX8_sinksLow_57 : decode cX8_sinksLow 57 = .ok (.iconst 2, 1) := by decide +kernel
theorem dX8_sinksLow_58 : decode cX8_sinksLow 58 = .ok (.iload 5, 2) := by decide +kernel
theorem dX8_sinksLow_60 : decode cX8_sinksLow 60 = .ok (.imul, 1) := by decide +kernel
theorem dX8_sinksLow_61 : decode cX8_sinksLow 61 = .ok (.iconst 2, 1) := by decide +kernel
theorem dX8_sinksLow_62 : decode cX8_sinksLow 62 = .ok (.iadd, 1) := by decide +kernel
theorem dX8_sinksLow_63 : decode cX8_sinksLow 63 = .ok (.iconst 2, 1) := by decide +kernel
theorem dX8_sinksLow_64 : decode cX8_sinksLow 64 = .ok (.iload 5, 2) := by decide +kernel
theorem dX8_sinksLow_66 : decode cX8_sinksLow 66 = .ok (.imul, 1) := by decide +kernel
theorem dX8_sinksLow_67 : decode cX8_sinksLow 67 = .ok (.invokevirtual 52, 3) := by decide +kernel
theorem dX8_sinksLow_70 : decode cX8_sinksLow 70 = .ok (.ifCond .eq 7, 3) := by decide +kernel
theorem dX8_sinksLow_73 : decode cX8_sinksLow 73 = .ok (.iconst 1, 1) := by decide +kernel
theorem dX8_sinksLow_74 : decode cX8_sinksLow 74 = .ok (.goto 4, 3) := by decide +kernel
theorem dX8_sinksLow_77 : decode cX8_sinksLow 77 = .ok (.iconst 0, 1) := by decide +kernel
theorem dX8_sinksLow_78 : decode cX8_sinksLow 78 = .ok (.iadd, 1) := by decide +kernel
theorem dX8_sinksLow_79 : decode cX8_sinksLow 79 = .ok (.istore 5, 2) := by decide +kernel
theorem dX8_sinksLow_81 : decode cX8_sinksLow 81 = .ok (.aload_n 0, 1) := by decide +kernel
theorem dX8_sinksLow_82 : decode cX8_sinksLow 82 = .ok (.iconst 0, 1) := by decide +kernel
theorem dX8_sinksLow_83 : decode cX8_sinksLow 83 = .ok (.iconst 2, 1) := by decide +kernel
theorem dX8_sinksLow_84 : decode cX8_sinksLow 84 = .ok (.iload 5, 2) := by decide +kernel
theorem dX8_sinksLow_86 : decode cX8_sinksLow 86 = .ok (.imul, 1) := by decide +kernel
theorem dX8_sinksLow_87 : decode cX8_sinksLow 87 = .ok (.iconst 2, 1) := by decide +kernel
theorem dX8_sinksLow_88 : decode cX8_sinksLow 88 = .ok (.iload_n 3, 1) := by decide +kernel
theorem dX8_sinksLow_89 : decode cX8_sinksLow 89 = .ok (.imul, 1) := by decide +kernel
theorem dX8_sinksLow_90 : decode cX8_sinksLow 90 = .ok (.invokevirtual 52, 3) := by decide +kernel
theorem dX8_sinksLow_93 : decode cX8_sinksLow 93 = .ok (.istore 4, 2) := by decide +kernel
theorem dX8_sinksLow_95 : decode cX8_sinksLow 95 = .ok (.iload 4, 2) := by decide +kernel
theorem dX8_sinksLow_97 : decode cX8_sinksLow 97 = .ok (.ifCond .eq 18, 3) := by decide +kernel
theorem dX8_sinksLow_100 : decode cX8_sinksLow 100 = .ok (.aload_n 0, 1) := by decide +kernel
theorem dX8_sinksLow_101 : decode cX8_sinksLow 101 = .ok (.iconst 0, 1) := by decide +kernel
theorem dX8_sinksLow_102 : decode cX8_sinksLow 102 = .ok (.iconst 2, 1) := by decide +kernel
theorem dX8_sinksLow_103 : decode cX8_sinksLow 103 = .ok (.iload 5, 2) := by decide +kernel
theorem dX8_sinksLow_105 : decode cX8_sinksLow 105 = .ok (.imul, 1) := by decide +kernel
theorem dX8_sinksLow_106 : decode cX8_sinksLow 106 = .ok (.iconst 2, 1) := by decide +kernel
theorem dX8_sinksLow_107 : decode cX8_sinksLow 107 = .ok (.iload_n 3, 1) := by decide +kernel
theorem dX8_sinksLow_108 : decode cX8_sinksLow 108 = .ok (.imul, 1) := by decide +kernel
theorem dX8_sinksLow_109 : decode cX8_sinksLow 109 = .ok (.invokevirtual 55, 3) := by decide +kernel
theorem dX8_sinksLow_112 : decode cX8_sinksLow 112 = .ok (.iload 5, 2) := by decide +kernel
theorem dX8_sinksLow_114 : decode cX8_sinksLow 114 = .ok (.istore_n 3, 1) := by decide +kernel
theorem dX8_sinksLow_115 : decode cX8_sinksLow 115 = .ok (.goto (-110), 3) := by decide +kernel
theorem dX8_sinksLow_118 : decode cX8_sinksLow 118 = .ok (.return_, 1) := by decide +kernel
theorem dX8_sinksHigh_0 : decode cX8_sinksHigh 0 = .ok (.iload_n 1, 1) := by decide +kernel
theorem dX8_sinksHigh_1 : decode cX8_sinksHigh 1 = .ok (.istore_n 3, 1) := by decide +kernel
theorem dX8_sinksHigh_2 : decode cX8_sinksHigh 2 = .ok (.iconst 1, 1) := by decide +kernel
theorem dX8_sinksHigh_3 : decode cX8_sinksHigh 3 = .ok (.istore 4, 2) := by decide +kernel
theorem dX8_sinksHigh_5 : decode cX8_sinksHigh 5 = .ok (.iload 4, 2) := by decide +kernel
theorem dX8_sinksHigh_7 : decode cX8_sinksHigh 7 = .ok (.ifCond .eq 129, 3) := by decide +kernel
theorem dX8_sinksHigh_10 : decode cX8_sinksHigh 10 = .ok (.aload_n 0, 1) := by decide +kernel
theorem dX8_sinksHigh_11 : decode cX8_sinksHigh 11 = .ok (.iload_n 3, 1) := by decide +kernel
theorem dX8_sinksHigh_12 : decode cX8_sinksHigh 12 = .ok (.iload_n 2, 1) := by decide +kernel
theorem dX8_sinksHigh_13 : decode cX8_sinksHigh 13 = .ok (.invokevirtual 58, 3) := by decide +kernel
theorem dX8_sinksHigh_16 : decode cX8_sinksHigh 16 = .ok (.iconst 2, 1) := by decide +kernel
theorem dX8_sinksHigh_17 : decode cX8_sinksHigh 17 = .ok (.iload_n 3, 1) := by decide +kernel
theorem dX8_sinksHigh_18 : decode cX8_sinksHigh 18 = .ok (.imul, 1) := by decide +kernel
theorem dX8_sinksHigh_19 : decode cX8_sinksHigh 19 = .ok (.iconst 1, 1) := by decide +kernel
theorem dX8_sinksHigh_20 : decode cX8_sinksHigh 20 = .ok (.iadd, 1) := by decide +kernel
theorem dX8_sinksHigh_21 : decode cX8_sinksHigh 21 = .ok (.istore 5, 2) := by decide +kernel
theorem dX8_sinksHigh_23 : decode cX8_sinksHigh 23 = .ok (.iconst 2, 1) := by decide +kernel
theorem dX8_sinksHigh_24 : decode cX8_sinksHigh 24 = .ok (.iload 5, 2) := by decide +kernel
theorem dX8_sinksHigh_26 : decode cX8_sinksHigh 26 = .ok (.imul, 1) := by decide +kernel
theorem dX8_sinksHigh_27 : decode cX8_sinksHigh 27 = .ok (.iload_n 2, 1) := by decide +kernel
theorem dX8_sinksHigh_28 : decode cX8_sinksHigh 28 = .ok (.if_icmp .ge 7, 3) := by decide +kernel
theorem dX8_sinksHigh_31 : decode cX8_sinksHigh 31 = .ok (.iconst 1, 1) := by decide +kernel
theorem dX8_sinksHigh_32 : decode cX8_sinksHigh 32 = .ok (.goto 4, 3) := by decide +kernel
theorem dX8_sinksHigh_35 : decode cX8_sinksHigh 35 = .ok (.iconst 0, 1) := by decide +kernel
theorem dX8_sinksHigh_36 : decode cX8_sinksHigh 36 = .ok (.istore 4, 2) := by decide +kernel
theorem dX8_sinksHigh_38 : decode cX8_sinksHigh 38 = .ok (.iload 4, 2) := by decide +kernel
theorem dX8_sinksHigh_40 : decode cX8_sinksHigh 40 = .ok (.ifCond .eq 67, 3) := by decide +kernel
theorem dX8_sinksHigh_43 : decode cX8_sinksHigh 43 = .ok (.iload 5, 2) := by decide +kernel
theorem dX8_sinksHigh_45 : decode cX8_sinksHigh 45 = .ok (.iconst 2, 1) := by decide +kernel
theorem dX8_sinksHigh_46 : decode cX8_sinksHigh 46 = .ok (.iload 5, 2) := by decide +kernel
theorem dX8_sinksHigh_48 : decode cX8_sinksHigh 48 = .ok (.iconst 1, 1) := by decide +kernel
theorem dX8_sinksHigh_49 : decode cX8_sinksHigh 49 = .ok (.iadd, 1) := by decide +kernel
theorem dX8_sinksHigh_50 : decode cX8_sinksHigh 50 = .ok (.imul, 1) := by decide +kernel
theorem dX8_sinksHigh_51 : decode cX8_sinksHigh 51 = .ok (.iload_n 2, 1) := by decide +kernel
theorem dX8_sinksHigh_52 : decode cX8_sinksHigh 52 = .ok (.if_icmp .ge 31, 3) := by decide +kernel
theorem dX8_sinksHigh_55 : decode cX8_sinksHigh 55 = .ok (.aload_n 0, 1) := by decide +kernel
theorem dX8_sinksHigh_56 : decode cX8_sinksHigh 56 = .ok (.iconst 0, 1) := by decide +kernel
theorem dX8_sinksHigh_57 : decode cX8_sinksHigh 57 = .ok (.aload_n 0, 1) := by decide +kernel
theorem dX8_sinksHigh_58 : decode cX8_sinksHigh 58 = .ok (.iload 5, 2) := by decide +kernel
theorem dX8_sinksHigh_60 : decode cX8_sinksHigh 60 = .ok (.iload_n 2, 1) := by decide +kernel
theorem dX8_sinksHigh_61 : decode cX8_sinksHigh 61 = .ok (.invokevirtual 62, 3) := by decide +kernel
theorem dX8_sinksHigh_64 : decode cX8_sinksHigh 64 = .ok (.aload_n 0, 1) := by decide +kernel
theorem dX8_sinksHigh_65 : decode cX8_sinksHigh 65 = .ok (.iload 5, 2) := by decide +kernel
theorem dX8_sinksHigh_67 : decode cX8_sinksHigh 67 = .ok (.iconst 1, 1) := by decide +kernel
theorem dX8_sinksHigh_68 : decode cX8_sinksHigh 68 = .ok (.iadd, 1) := by decide +kernel
theorem dX8_sinksHigh_69 : decode cX8_sinksHigh 69 = .ok (.iload_n 2, 1) := by decide +kernel
theorem dX8_sinksHigh_70 : decode cX8_sinksHigh 70 = .ok (.invokevirtual 62, 3) := by decide +kernel
theorem dX8_sinksHigh_73 : decode cX8_sinksHigh 73 = .ok (.invokevirtual 52, 3) := by decide +kernel
theorem dX8_sinksHigh_76 : decode cX8_sinksHigh 76 = .ok (.ifCond .eq 7, 3) := by decide +kernel
theorem dX8_sinksHigh_79 : decode cX8_sinksHigh 79 = .ok (.iconst 1, 1) := by decide +kernel
theorem dX8_sinksHigh_80 : decode cX8_sinksHigh 80 = .ok (.goto 4, 3) := by decide +kernel
theorem dX8_sinksHigh_83 : decode cX8_sinksHigh 83 = .ok (.iconst 0, 1) := by decide +kernel
theorem dX8_sinksHigh_84 : decode cX8_sinksHigh 84 = .ok (.iadd, 1) := by decide +kernel
theorem dX8_sinksHigh_85 : decode cX8_sinksHigh 85 = .ok (.istore 5, 2) := by decide +kernel
theorem dX8_sinksHigh_87 : decode cX8_sinksHigh 87 = .ok (.aload_n 0, 1) := by decide +kernel
theorem dX8_sinksHigh_88 : decode cX8_sinksHigh 88 = .ok (.iconst 0, 1) := by decide +kernel
theorem dX8_sinksHigh_89 : decode cX8_sinksHigh 89 = .ok (.aload_n 0, 1) := by decide +kernel
theorem dX8_sinksHigh_90 : decode cX8_sinksHigh 90 = .ok (.iload_n 3, 1) := by decide +kernel
theorem dX8_sinksHigh_91 : decode cX8_sinksHigh 91 = .ok (.iload_n 2, 1) := by decide +kernel
theorem dX8_sinksHigh_92 : decode cX8_sinksHigh 92 = .ok (.invokevirtual 62, 3) := by decide +kernel
theorem dX8_sinksHigh_95 : decode cX8_sinksHigh 95 = .ok (.aload_n 0, 1) := by decide +kernel
theorem dX8_sinksHigh_96 : decode cX8_sinksHigh 96 = .ok (.iload 5, 2) := by decide +kernel
theorem dX8_sinksHigh_98 : decode cX8_sinksHigh 98 = .ok (.iload_n 2, 1) := by decide +kernel
theorem dX8_sinksHigh_99 : decode cX8_sinksHigh 99 = .ok (.invokevirtual 62, 3) := by decide +kernel
theorem dX8_sinksHigh_102 : decode cX8_sinksHigh 102 = .ok (.invokevirtual 52, 3) := by decide +kernel
theorem dX8_sinksHigh_105 : decode cX8_sinksHigh 105 = .ok (.istore 4, 2) := by decide +kernel
theorem dX8_sinksHigh_107 : decode cX8_sinksHigh 107 = .ok (.iload 4, 2) := by decide +kernel
theorem dX8_sinksHigh_109 : decode cX8_sinksHigh 109 = .ok (.ifCond .eq 24, 3) := by decide +kernel
theorem dX8_sinksHigh_112 : decode cX8_sinksHigh 112 = .ok (.aload_n 0, 1) := by decide +kernel
theorem dX8_sinksHigh_113 : decode cX8_sinksHigh 113 = .ok (.iconst 0, 1) := by decide +kernel
theorem dX8_sinksHigh_114 : decode cX8_sinksHigh 114 = .ok (.aload_n 0, 1) := by decide +kernel
theorem dX8_sinksHigh_115 : decode cX8_sinksHigh 115 = .ok (.iload_n 3, 1) := by decide +kernel
theorem dX8_sinksHigh_116 : decode cX8_sinksHigh 116 = .ok (.iload_n 2, 1) := by decide +kernel
theorem dX8_sinksHigh_117 : decode cX8_sinksHigh 117 = .ok (.invokevirtual 62, 3) := by decide +kernel
theorem dX8_sinksHigh_120 : decode cX8_sinksHigh 120 = .ok (.aload_n 0, 1) := by decide +kernel
theorem dX8_sinksHigh_121 : decode cX8_sinksHigh 121 = .ok (.iload 5, 2) := by decide +kernel
theorem dX8_sinksHigh_123 : decode cX8_sinksHigh 123 = .ok (.iload_n 2, 1) := by decide +kernel
theorem dX8_sinksHigh_124 : decode cX8_sinksHigh 124 = .ok (.invokevirtual 62, 3) := by decide +kernel
theorem dX8_sinksHigh_127 : decode cX8_sinksHigh 127 = .ok (.invokevirtual 55, 3) := by decide +kernel
theorem dX8_sinksHigh_130 : decode cX8_sinksHigh 130 = .ok (.iload 5, 2) := by decide +kernel
theorem dX8_sinksHigh_132 : decode cX8_sinksHigh 132 = .ok (.istore_n 3, 1) := by decide +kernel
theorem dX8_sinksHigh_133 : decode cX8_sinksHigh 133 = .ok (.goto (-128), 3) := by decide +kernel
theorem dX8_sinksHigh_136 : decode cX8_sinksHigh 136 = .ok (.return_, 1) := by decide +kernel
theorem dX8_settles_0 : decode cX8_settles 0 = .ok (.aload_n 0, 1) := by decide +kernel
theorem dX8_settles_1 : decode cX8_settles 1 = .ok (.iload_n 1, 1) := by decide +kernel
theorem dX8_settles_2 : decode cX8_settles 2 = .ok (.iload_n 2, 1) := by decide +kernel
theorem dX8_settles_3 : decode cX8_settles 3 = .ok (.invokevirtual 58, 3) := by decide +kernel
theorem dX8_settles_6 : decode cX8_settles 6 = .ok (.aload_n 0, 1) := by decide +kernel
theorem dX8_settles_7 : decode cX8_settles 7 = .ok (.iload_n 1, 1) := by decide +kernel
theorem dX8_settles_8 : decode cX8_settles 8 = .ok (.invokevirtual 65, 3) := by decide +kernel
theorem dX8_settles_11 : decode cX8_settles 11 = .ok (.aload_n 0, 1) := by decide +kernel
theorem dX8_settles_12 : decode cX8_settles 12 = .ok (.iload_n 1, 1) := by decide +kernel
theorem dX8_settles_13 : decode cX8_settles 13 = .ok (.aload_n 0, 1) := by decide +kernel
theorem dX8_settles_14 : decode cX8_settles 14 = .ok (.iload_n 1, 1) := by decide +kernel
theorem dX8_settles_15 : decode cX8_settles 15 = .ok (.iload_n 2, 1) := by decide +kernel
theorem dX8_settles_16 : decode cX8_settles 16 = .ok (.invokevirtual 62, 3) := by decide +kernel
theorem dX8_settles_19 : decode cX8_settles 19 = .ok (.invokevirtual 69, 3) := by decide +kernel
theorem dX8_settles_22 : decode cX8_settles 22 = .ok (.aload_n 0, 1) := by decide +kernel
theorem dX8_settles_23 : decode cX8_settles 23 = .ok (.iload_n 1, 1) := by decide +kernel
theorem dX8_settles_24 : decode cX8_settles 24 = .ok (.iload_n 2, 1) := by decide +kernel
theorem dX8_settles_25 : decode cX8_settles 25 = .ok (.invokevirtual 72, 3) := by decide +kernel
theorem dX8_settles_28 : decode cX8_settles 28 = .ok (.aload_n 0, 1) := by decide +kernel
theorem dX8_settles_29 : decode cX8_settles 29 = .ok (.iload_n 1, 1) := by decide +kernel
theorem dX8_settles_30 : decode cX8_settles 30 = .ok (.iload_n 2, 1) := by decide +kernel
theorem dX8_settles_31 : decode cX8_settles 31 = .ok (.invokevirtual 75, 3) := by decide +kernel
theorem dX8_settles_34 : decode cX8_settles 34 = .ok (.return_, 1) := by decide +kernel
theorem dX8_comesFirst_0 : decode cX8_comesFirst 0 = .ok (.iload_n 1, 1) := by decide +kernel
theorem dX8_comesFirst_1 : decode cX8_comesFirst 1 = .ok (.iconst 1, 1) := by decide +kernel
theorem dX8_comesFirst_2 : decode cX8_comesFirst 2 = .ok (.isub, 1) := by decide +kernel
theorem dX8_comesFirst_3 : decode cX8_comesFirst 3 = .ok (.istore_n 2, 1) := by decide +kernel
theorem dX8_comesFirst_4 : decode cX8_comesFirst 4 = .ok (.iload_n 2, 1) := by decide +kernel
theorem dX8_comesFirst_5 : decode cX8_comesFirst 5 = .ok (.iconst 2, 1) := by decide +kernel
theorem dX8_comesFirst_6 : decode cX8_comesFirst 6 = .ok (.idiv, 1) := by decide +kernel
theorem dX8_comesFirst_7 : decode cX8_comesFirst 7 = .ok (.istore_n 3, 1) := by decide +kernel
theorem dX8_comesFirst_8 : decode cX8_comesFirst 8 = .ok (.iload_n 2, 1) := by decide +kernel
theorem dX8_comesFirst_9 : decode cX8_comesFirst 9 = .ok (.ifCond .ne 4, 3) := by decide +kernel
theorem dX8_comesFirst_12 : decode cX8_comesFirst 12 = .ok (.return_, 1) := by decide +kernel
theorem dX8_comesFirst_13 : decode cX8_comesFirst 13 = .ok (.iload_n 2, 1) := by decide +kernel
theorem dX8_comesFirst_14 : decode cX8_comesFirst 14 = .ok (.iconst 2, 1) := by decide +kernel
theorem dX8_comesFirst_15 : decode cX8_comesFirst 15 = .ok (.irem, 1) := by decide +kernel
theorem dX8_comesFirst_16 : decode cX8_comesFirst 16 = .ok (.iconst 1, 1) := by decide +kernel
theorem dX8_comesFirst_17 : decode cX8_comesFirst 17 = .ok (.if_icmp .ne 41, 3) := by decide +kernel
theorem dX8_comesFirst_20 : decode cX8_comesFirst 20 = .ok (.aload_n 0, 1) := by decide +kernel
theorem dX8_comesFirst_21 : decode cX8_comesFirst 21 = .ok (.iconst 0, 1) := by decide +kernel
theorem dX8_comesFirst_22 : decode cX8_comesFirst 22 = .ok (.iload_n 2, 1) := by decide +kernel
theorem dX8_comesFirst_23 : decode cX8_comesFirst 23 = .ok (.iconst 2, 1) := by decide +kernel
theorem dX8_comesFirst_24 : decode cX8_comesFirst 24 = .ok (.iload_n 3, 1) := by decide +kernel
theorem dX8_comesFirst_25 : decode cX8_comesFirst 25 = .ok (.imul, 1) := by decide +kernel
theorem dX8_comesFirst_26 : decode cX8_comesFirst 26 = .ok (.invokevirtual 52, 3) := by decide +kernel
theorem dX8_comesFirst_29 : decode cX8_comesFirst 29 = .ok (.ifCond .eq 20, 3) := by decide +kernel
theorem dX8_comesFirst_32 : decode cX8_comesFirst 32 = .ok (.aload_n 0, 1) := by decide +kernel
theorem dX8_comesFirst_33 : decode cX8_comesFirst 33 = .ok (.iconst 0, 1) := by decide +kernel
theorem dX8_comesFirst_34 : decode cX8_comesFirst 34 = .ok (.iload_n 2, 1) := by decide +kernel
theorem dX8_comesFirst_35 : decode cX8_comesFirst 35 = .ok (.iconst 2, 1) := by decide +kernel
theorem dX8_comesFirst_36 : decode cX8_comesFirst 36 = .ok (.iload_n 3, 1) := by decide +kernel
theorem dX8_comesFirst_37 : decode cX8_comesFirst 37 = .ok (.imul, 1) := by decide +kernel
theorem dX8_comesFirst_38 : decode cX8_comesFirst 38 = .ok (.invokevirtual 55, 3) := by decide +kernel
theorem dX8_comesFirst_41 : decode cX8_comesFirst 41 = .ok (.aload_n 0, 1) := by decide +kernel
theorem dX8_comesFirst_42 : decode cX8_comesFirst 42 = .ok (.iload_n 3, 1) := by decide +kernel
theorem dX8_comesFirst_43 : decode cX8_comesFirst 43 = .ok (.invokevirtual 65, 3) := by decide +kernel
theorem dX8_comesFirst_46 : decode cX8_comesFirst 46 = .ok (.goto 42, 3) := by decide +kernel
theorem dX8_comesFirst_49 : decode cX8_comesFirst 49 = .ok (.aload_n 0, 1) := by decide +kernel
theorem dX8_comesFirst_50 : decode cX8_comesFirst 50 = .ok (.iload_n 3, 1) := by decide +kernel
theorem dX8_comesFirst_51 : decode cX8_comesFirst 51 = .ok (.iload_n 2, 1) := by decide +kernel
theorem dX8_comesFirst_52 : decode cX8_comesFirst 52 = .ok (.invokevirtual 69, 3) := by decide +kernel
theorem dX8_comesFirst_55 : decode cX8_comesFirst 55 = .ok (.goto 33, 3) := by decide +kernel
theorem dX8_comesFirst_58 : decode cX8_comesFirst 58 = .ok (.aload_n 0, 1) := by decide +kernel
theorem dX8_comesFirst_59 : decode cX8_comesFirst 59 = .ok (.iconst 0, 1) := by decide +kernel
theorem dX8_comesFirst_60 : decode cX8_comesFirst 60 = .ok (.iload_n 2, 1) := by decide +kernel
theorem dX8_comesFirst_61 : decode cX8_comesFirst 61 = .ok (.iload_n 3, 1) := by decide +kernel
theorem dX8_comesFirst_62 : decode cX8_comesFirst 62 = .ok (.iconst 1, 1) := by decide +kernel
theorem dX8_comesFirst_63 : decode cX8_comesFirst 63 = .ok (.isub, 1) := by decide +kernel
theorem dX8_comesFirst_64 : decode cX8_comesFirst 64 = .ok (.iconst 2, 1) := by decide +kernel
theorem dX8_comesFirst_65 : decode cX8_comesFirst 65 = .ok (.idiv, 1) := by decide +kernel
theorem dX8_comesFirst_66 : decode cX8_comesFirst 66 = .ok (.iconst 2, 1) := by decide +kernel
theorem dX8_comesFirst_67 : decode cX8_comesFirst 67 = .ok (.imul, 1) := by decide +kernel
theorem dX8_comesFirst_68 : decode cX8_comesFirst 68 = .ok (.invokevirtual 52, 3) := by decide +kernel
theorem dX8_comesFirst_71 : decode cX8_comesFirst 71 = .ok (.ifCond .eq 11, 3) := by decide +kernel
theorem dX8_comesFirst_74 : decode cX8_comesFirst 74 = .ok (.aload_n 0, 1) := by decide +kernel
theorem dX8_comesFirst_75 : decode cX8_comesFirst 75 = .ok (.iload_n 3, 1) := by decide +kernel
theorem dX8_comesFirst_76 : decode cX8_comesFirst 76 = .ok (.invokevirtual 65, 3) := by decide +kernel
theorem dX8_comesFirst_79 : decode cX8_comesFirst 79 = .ok (.goto 9, 3) := by decide +kernel
theorem dX8_comesFirst_82 : decode cX8_comesFirst 82 = .ok (.aload_n 0, 1) := by decide +kernel
theorem dX8_comesFirst_83 : decode cX8_comesFirst 83 = .ok (.iload_n 3, 1) := by decide +kernel
theorem dX8_comesFirst_84 : decode cX8_comesFirst 84 = .ok (.iload_n 2, 1) := by decide +kernel
theorem dX8_comesFirst_85 : decode cX8_comesFirst 85 = .ok (.invokevirtual 69, 3) := by decide +kernel
theorem dX8_comesFirst_88 : decode cX8_comesFirst 88 = .ok (.return_, 1) := by decide +kernel
theorem dX8_levelOf_0 : decode cX8_levelOf 0 = .ok (.iconst 0, 1) := by decide +kernel
theorem dX8_levelOf_1 : decode cX8_levelOf 1 = .ok (.istore_n 1, 1) := by decide +kernel
theorem dX8_levelOf_2 : decode cX8_levelOf 2 = .ok (.iload_n 0, 1) := by decide +kernel
theorem dX8_levelOf_3 : decode cX8_levelOf 3 = .ok (.iconst 1, 1) := by decide +kernel
theorem dX8_levelOf_4 : decode cX8_levelOf 4 = .ok (.iadd, 1) := by decide +kernel
theorem dX8_levelOf_5 : decode cX8_levelOf 5 = .ok (.istore_n 2, 1) := by decide +kernel
theorem dX8_levelOf_6 : decode cX8_levelOf 6 = .ok (.iload_n 2, 1) := by decide +kernel
theorem dX8_levelOf_7 : decode cX8_levelOf 7 = .ok (.iconst 1, 1) := by decide +kernel
theorem dX8_levelOf_8 : decode cX8_levelOf 8 = .ok (.if_icmp .le 13, 3) := by decide +kernel
theorem dX8_levelOf_11 : decode cX8_levelOf 11 = .ok (.iinc 1 1, 3) := by decide +kernel
theorem dX8_levelOf_14 : decode cX8_levelOf 14 = .ok (.iload_n 2, 1) := by decide +kernel
theorem dX8_levelOf_15 : decode cX8_levelOf 15 = .ok (.iconst 2, 1) := by decide +kernel
theorem dX8_levelOf_16 : decode cX8_levelOf 16 = .ok (.idiv, 1) := by decide +kernel
theorem dX8_levelOf_17 : decode cX8_levelOf 17 = .ok (.istore_n 2, 1) := by decide +kernel
theorem dX8_levelOf_18 : decode cX8_levelOf 18 = .ok (.goto (-12), 3) := by decide +kernel
theorem dX8_levelOf_21 : decode cX8_levelOf 21 = .ok (.iload_n 1, 1) := by decide +kernel
theorem dX8_levelOf_22 : decode cX8_levelOf 22 = .ok (.ireturn, 1) := by decide +kernel
theorem dX8_leads_0 : decode cX8_leads 0 = .ok (.iload_n 1, 1) := by decide +kernel
theorem dX8_leads_1 : decode cX8_leads 1 = .ok (.ifCond .eq 13, 3) := by decide +kernel
theorem dX8_leads_4 : decode cX8_leads 4 = .ok (.aload_n 0, 1) := by decide +kernel
theorem dX8_leads_5 : decode cX8_leads 5 = .ok (.iconst 1, 1) := by decide +kernel
theorem dX8_leads_6 : decode cX8_leads 6 = .ok (.iload_n 2, 1) := by decide +kernel
theorem dX8_leads_7 : decode cX8_leads 7 = .ok (.iload_n 3, 1) := by decide +kernel
theorem dX8_leads_8 : decode cX8_leads 8 = .ok (.invokevirtual 52, 3) := by decide +kernel
theorem dX8_leads_11 : decode cX8_leads 11 = .ok (.goto 10, 3) := by decide +kernel
theorem dX8_leads_14 : decode cX8_leads 14 = .ok (.aload_n 0, 1) := by decide +kernel
theorem dX8_leads_15 : decode cX8_leads 15 = .ok (.iconst 1, 1) := by decide +kernel
theorem dX8_leads_16 : decode cX8_leads 16 = .ok (.iload_n 3, 1) := by decide +kernel
theorem dX8_leads_17 : decode cX8_leads 17 = .ok (.iload_n 2, 1) := by decide +kernel
theorem dX8_leads_18 : decode cX8_leads 18 = .ok (.invokevirtual 52, 3) := by decide +kernel
theorem dX8_leads_21 : decode cX8_leads 21 = .ok (.ireturn, 1) := by decide +kernel
theorem dX8_isLow_0 : decode cX8_isLow 0 = .ok (.iload_n 0, 1) := by decide +kernel
theorem dX8_isLow_1 : decode cX8_isLow 1 = .ok (.invokestatic 78, 3) := by decide +kernel
theorem dX8_isLow_4 : decode cX8_isLow 4 = .ok (.iconst 2, 1) := by decide +kernel
theorem dX8_isLow_5 : decode cX8_isLow 5 = .ok (.irem, 1) := by decide +kernel
theorem dX8_isLow_6 : decode cX8_isLow 6 = .ok (.ifCond .ne 7, 3) := by decide +kernel
theorem dX8_isLow_9 : decode cX8_isLow 9 = .ok (.iconst 1, 1) := by decide +kernel
theorem dX8_isLow_10 : decode cX8_isLow 10 = .ok (.goto 4, 3) := by decide +kernel
theorem dX8_isLow_13 : decode cX8_isLow 13 = .ok (.iconst 0, 1) := by decide +kernel
theorem dX8_isLow_14 : decode cX8_isLow 14 = .ok (.ireturn, 1) := by decide +kernel
theorem dX8_rises_0 : decode cX8_rises 0 = .ok (.iload_n 1, 1) := by decide +kernel
theorem dX8_rises_1 : decode cX8_rises 1 = .ok (.istore_n 2, 1) := by decide +kernel
theorem dX8_rises_2 : decode cX8_rises 2 = .ok (.iload_n 2, 1) := by decide +kernel
theorem dX8_rises_3 : decode cX8_rises 3 = .ok (.iconst 2, 1) := by decide +kernel
theorem dX8_rises_4 : decode cX8_rises 4 = .ok (.if_icmp .le 46, 3) := by decide +kernel
theorem dX8_rises_7 : decode cX8_rises 7 = .ok (.aload_n 0, 1) := by decide +kernel
theorem dX8_rises_8 : decode cX8_rises 8 = .ok (.iload_n 2, 1) := by decide +kernel
theorem dX8_rises_9 : decode cX8_rises 9 = .ok (.invokestatic 82, 3) := by decide +kernel
theorem dX8_rises_12 : decode cX8_rises 12 = .ok (.iload_n 2, 1) := by decide +kernel
theorem dX8_rises_13 : decode cX8_rises 13 = .ok (.iload_n 2, 1) := by decide +kernel
theorem dX8_rises_14 : decode cX8_rises 14 = .ok (.iconst 1, 1) := by decide +kernel
theorem dX8_rises_15 : decode cX8_rises 15 = .ok (.isub, 1) := by decide +kernel
theorem dX8_rises_16 : decode cX8_rises 16 = .ok (.iconst 2, 1) := by decide +kernel
theorem dX8_rises_17 : decode cX8_rises 17 = .ok (.idiv, 1) := by decide +kernel
theorem dX8_rises_18 : decode cX8_rises 18 = .ok (.iconst 1, 1) := by decide +kernel
theorem dX8_rises_19 : decode cX8_rises 19 = .ok (.isub, 1) := by decide +kernel
theorem dX8_rises_20 : decode cX8_rises 20 = .ok (.iconst 2, 1) := by decide +kernel
theorem dX8_rises_21 : decode cX8_rises 21 = .ok (.idiv, 1) := by decide +kernel
theorem dX8_rises_22 : decode cX8_rises 22 = .ok (.invokevirtual 85, 3) := by decide +kernel
theorem dX8_rises_25 : decode cX8_rises 25 = .ok (.ifCond .eq 25, 3) := by decide +kernel
theorem dX8_rises_28 : decode cX8_rises 28 = .ok (.iload_n 2, 1) := by decide +kernel
theorem dX8_rises_29 : decode cX8_rises 29 = .ok (.iconst 1, 1) := by decide +kernel
theorem dX8_rises_30 : decode cX8_rises 30 = .ok (.isub, 1) := by decide +kernel
theorem dX8_rises_31 : decode cX8_rises 31 = .ok (.iconst 2, 1) := by decide +kernel
theorem dX8_rises_32 : decode cX8_rises 32 = .ok (.idiv, 1) := by decide +kernel
theorem dX8_rises_33 : decode cX8_rises 33 = .ok (.iconst 1, 1) := by decide +kernel
theorem dX8_rises_34 : decode cX8_rises 34 = .ok (.isub, 1) := by decide +kernel
theorem dX8_rises_35 : decode cX8_rises 35 = .ok (.iconst 2, 1) := by decide +kernel
theorem dX8_rises_36 : decode cX8_rises 36 = .ok (.idiv, 1) := by decide +kernel
theorem dX8_rises_37 : decode cX8_rises 37 = .ok (.istore_n 3, 1) := by decide +kernel
theorem dX8_rises_38 : decode cX8_rises 38 = .ok (.aload_n 0, 1) := by decide +kernel
theorem dX8_rises_39 : decode cX8_rises 39 = .ok (.iconst 1, 1) := by decide +kernel
theorem dX8_rises_40 : decode cX8_rises 40 = .ok (.iload_n 2, 1) := by decide +kernel
theorem dX8_rises_41 : decode cX8_rises 41 = .ok (.iload_n 3, 1) := by decide +kernel
theorem dX8_rises_42 : decode cX8_rises 42 = .ok (.invokevirtual 55, 3) := by decide +kernel
theorem dX8_rises_45 : decode cX8_rises 45 = .ok (.iload_n 3, 1) := by decide +kernel
theorem dX8_rises_46 : decode cX8_rises 46 = .ok (.istore_n 2, 1) := by decide +kernel
theorem dX8_rises_47 : decode cX8_rises 47 = .ok (.goto (-45), 3) := by decide +kernel
theorem dX8_rises_50 : decode cX8_rises 50 = .ok (.return_, 1) := by decide +kernel
theorem dX8_sinks_0 : decode cX8_sinks 0 = .ok (.iload_n 1, 1) := by decide +kernel
theorem dX8_sinks_1 : decode cX8_sinks 1 = .ok (.istore_n 3, 1) := by decide +kernel
theorem dX8_sinks_2 : decode cX8_sinks 2 = .ok (.iconst 1, 1) := by decide +kernel
theorem dX8_sinks_3 : decode cX8_sinks 3 = .ok (.istore 4, 2) := by decide +kernel
theorem dX8_sinks_5 : decode cX8_sinks 5 = .ok (.iload 4, 2) := by decide +kernel
theorem dX8_sinks_7 : decode cX8_sinks 7 = .ok (.ifCond .eq 170, 3) := by decide +kernel
theorem dX8_sinks_10 : decode cX8_sinks 10 = .ok (.iconst 2, 1) := by decide +kernel
theorem dX8_sinks_11 : decode cX8_sinks 11 = .ok (.iload_n 3, 1) := by decide +kernel
theorem dX8_sinks_12 : decode cX8_sinks 12 = .ok (.imul, 1) := by decide +kernel
theorem dX8_sinks_13 : decode cX8_sinks 13 = .ok (.iconst 1, 1) := by decide +kernel
theorem dX8_sinks_14 : decode cX8_sinks 14 = .ok (.iadd, 1) := by decide +kernel
theorem dX8_sinks_15 : decode cX8_sinks 15 = .ok (.iload_n 2, 1) := by decide +kernel
theorem dX8_sinks_16 : decode cX8_sinks 16 = .ok (.if_icmp .ge 161, 3) := by decide +kernel
theorem dX8_sinks_19 : decode cX8_sinks 19 = .ok (.iload_n 3, 1) := by decide +kernel
theorem dX8_sinks_20 : decode cX8_sinks 20 = .ok (.invokestatic 82, 3) := by decide +kernel
theorem dX8_sinks_23 : decode cX8_sinks 23 = .ok (.istore 5, 2) := by decide +kernel
theorem dX8_sinks_25 : decode cX8_sinks 25 = .ok (.iconst 2, 1) := by decide +kernel
theorem dX8_sinks_26 : decode cX8_sinks 26 = .ok (.iload_n 3, 1) := by decide +kernel
theorem dX8_sinks_27 : decode cX8_sinks 27 = .ok (.imul, 1) := by decide +kernel
theorem dX8_sinks_28 : decode cX8_sinks 28 = .ok (.iconst 1, 1) := by decide +kernel
theorem dX8_sinks_29 : decode cX8_sinks 29 = .ok (.iadd, 1) := by decide +kernel
theorem dX8_sinks_30 : decode cX8_sinks 30 = .ok (.istore 6, 2) := by decide +kernel
theorem dX8_sinks_32 : decode cX8_sinks 32 = .ok (.iconst 1, 1) := by decide +kernel
theorem dX8_sinks_33 : decode cX8_sinks 33 = .ok (.istore 7, 2) := by decide +kernel
theorem dX8_sinks_35 : decode cX8_sinks 35 = .ok (.iload 7, 2) := by decide +kernel
theorem dX8_sinks_37 : decode cX8_sinks 37 = .ok (.bipush 6, 2) := by decide +kernel
theorem dX8_sinks_39 : decode cX8_sinks 39 = .ok (.if_icmp .ge 56, 3) := by decide +kernel
theorem dX8_sinks_42 : decode cX8_sinks 42 = .ok (.iload 7, 2) := by decide +kernel
theorem dX8_sinks_44 : decode cX8_sinks 44 = .ok (.iconst 1, 1) := by decide +kernel
theorem dX8_sinks_45 : decode cX8_sinks 45 = .ok (.if_icmp .ne 11, 3) := by decide +kernel
theorem dX8_sinks_48 : decode cX8_sinks 48 = .ok (.iconst 2, 1) := by decide +kernel
theorem dX8_sinks_49 : decode cX8_sinks 49 = .ok (.iload_n 3, 1) := by decide +kernel
theorem dX8_sinks_50 : decode cX8_sinks 50 = .ok (.imul, 1) := by decide +kernel
theorem dX8_sinks_51 : decode cX8_sinks 51 = .ok (.iconst 2, 1) := by decide +kernel
theorem dX8_sinks_52 : decode cX8_sinks 52 = .ok (.iadd, 1) := by decide +kernel
theorem dX8_sinks_53 : decode cX8_sinks 53 = .ok (.goto 11, 3) := by decide +kernel
theorem dX8_sinks_56 : decode cX8_sinks 56 = .ok (.iconst 4, 1) := by decide +kernel
theorem dX8_sinks_57 : decode cX8_sinks 57 = .ok (.iload_n 3, 1) := by decide +kernel
theorem dX8_sinks_58 : decode cX8_sinks 58 = .ok (.imul, 1) := by decide +kernel
theorem dX8_sinks_59 : decode cX8_sinks 59 = .ok (.iconst 1, 1) := by decide +kernel
theorem dX8_sinks_60 : decode cX8_sinks 60 = .ok (.iadd, 1) := by decide +kernel
theorem dX8_sinks_61 : decode cX8_sinks 61 = .ok (.iload 7, 2) := by decide +kernel
theorem dX8_sinks_63 : decode cX8_sinks 63 = .ok (.iadd, 1) := by decide +kernel
theorem dX8_sinks_64 : decode cX8_sinks 64 = .ok (.istore 8, 2) := by decide +kernel
theorem dX8_sinks_66 : decode cX8_sinks 66 = .ok (.iload 8, 2) := by decide +kernel
theorem dX8_sinks_68 : decode cX8_sinks 68 = .ok (.iload_n 2, 1) := by decide +kernel
theorem dX8_sinks_69 : decode cX8_sinks 69 = .ok (.if_icmp .ge 20, 3) := by decide +kernel
theorem dX8_sinks_72 : decode cX8_sinks 72 = .ok (.aload_n 0, 1) := by decide +kernel
theorem dX8_sinks_73 : decode cX8_sinks 73 = .ok (.iload 5, 2) := by decide +kernel
theorem dX8_sinks_75 : decode cX8_sinks 75 = .ok (.iload 8, 2) := by decide +kernel
theorem dX8_sinks_77 : decode cX8_sinks 77 = .ok (.iload 6, 2) := by decide +kernel
theorem dX8_sinks_79 : decode cX8_sinks 79 = .ok (.invokevirtual 85, 3) := by decide +kernel
theorem dX8_sinks_82 : decode cX8_sinks 82 = .ok (.ifCond .eq 7, 3) := by decide +kernel
theorem dX8_sinks_85 : decode cX8_sinks 85 = .ok (.iload 8, 2) := by decide +kernel
theorem dX8_sinks_87 : decode cX8_sinks 87 = .ok (.istore 6, 2) := by decide +kernel
theorem dX8_sinks_89 : decode cX8_sinks 89 = .ok (.iinc 7 1, 3) := by decide +kernel
theorem dX8_sinks_92 : decode cX8_sinks 92 = .ok (.goto (-57), 3) := by decide +kernel
theorem dX8_sinks_95 : decode cX8_sinks 95 = .ok (.aload_n 0, 1) := by decide +kernel
theorem dX8_sinks_96 : decode cX8_sinks 96 = .ok (.iload 5, 2) := by decide +kernel
theorem dX8_sinks_98 : decode cX8_sinks 98 = .ok (.iload 6, 2) := by decide +kernel
theorem dX8_sinks_100 : decode cX8_sinks 100 = .ok (.iload_n 3, 1) := by decide +kernel
theorem dX8_sinks_101 : decode cX8_sinks 101 = .ok (.invokevirtual 85, 3) := by decide +kernel
theorem dX8_sinks_104 : decode cX8_sinks 104 = .ok (.istore 4, 2) := by decide +kernel
theorem dX8_sinks_106 : decode cX8_sinks 106 = .ok (.iload 4, 2) := by decide +kernel
theorem dX8_sinks_108 : decode cX8_sinks 108 = .ok (.ifCond .eq 28, 3) := by decide +kernel
theorem dX8_sinks_111 : decode cX8_sinks 111 = .ok (.aload_n 0, 1) := by decide +kernel
theorem dX8_sinks_112 : decode cX8_sinks 112 = .ok (.iconst 1, 1) := by decide +kernel
theorem dX8_sinks_113 : decode cX8_sinks 113 = .ok (.iload 6, 2) := by decide +kernel
theorem dX8_sinks_115 : decode cX8_sinks 115 = .ok (.iload_n 3, 1) := by decide +kernel
theorem dX8_sinks_116 : decode cX8_sinks 116 = .ok (.invokevirtual 55, 3) := by decide +kernel
theorem dX8_sinks_119 : decode cX8_sinks 119 = .ok (.iload 6, 2) := by decide +kernel
theorem dX8_sinks_121 : decode cX8_sinks 121 = .ok (.iconst 2, 1) := by decide +kernel
theorem dX8_sinks_122 : decode cX8_sinks 122 = .ok (.iload_n 3, 1) := by decide +kernel
theorem dX8_sinks_123 : decode cX8_sinks 123 = .ok (.imul, 1) := by decide +kernel
theorem dX8_sinks_124 : decode cX8_sinks 124 = .ok (.iconst 2, 1) := by decide +kernel
theorem dX8_sinks_125 : decode cX8_sinks 125 = .ok (.iadd, 1) := by decide +kernel
theorem dX8_sinks_126 : decode cX8_sinks 126 = .ok (.if_icmp .le 7, 3) := by decide +kernel
theorem dX8_sinks_129 : decode cX8_sinks 129 = .ok (.iconst 1, 1) := by decide +kernel
theorem dX8_sinks_130 : decode cX8_sinks 130 = .ok (.goto 4, 3) := by decide +kernel
theorem dX8_sinks_133 : decode cX8_sinks 133 = .ok (.iconst 0, 1) := by decide +kernel
theorem dX8_sinks_134 : decode cX8_sinks 134 = .ok (.istore 4, 2) := by decide +kernel
theorem dX8_sinks_136 : decode cX8_sinks 136 = .ok (.iload 4, 2) := by decide +kernel
theorem dX8_sinks_138 : decode cX8_sinks 138 = .ok (.ifCond .eq 36, 3) := by decide +kernel
theorem dX8_sinks_141 : decode cX8_sinks 141 = .ok (.iload 6, 2) := by decide +kernel
theorem dX8_sinks_143 : decode cX8_sinks 143 = .ok (.iconst 1, 1) := by decide +kernel
theorem dX8_sinks_144 : decode cX8_sinks 144 = .ok (.isub, 1) := by decide +kernel
theorem dX8_sinks_145 : decode cX8_sinks 145 = .ok (.iconst 2, 1) := by decide +kernel
theorem dX8_sinks_146 : decode cX8_sinks 146 = .ok (.idiv, 1) := by decide +kernel
theorem dX8_sinks_147 : decode cX8_sinks 147 = .ok (.istore 7, 2) := by decide +kernel
theorem dX8_sinks_149 : decode cX8_sinks 149 = .ok (.aload_n 0, 1) := by decide +kernel
theorem dX8_sinks_150 : decode cX8_sinks 150 = .ok (.iload 5, 2) := by decide +kernel
theorem dX8_sinks_152 : decode cX8_sinks 152 = .ok (.iload 7, 2) := by decide +kernel
theorem dX8_sinks_154 : decode cX8_sinks 154 = .ok (.iload 6, 2) := by decide +kernel
theorem dX8_sinks_156 : decode cX8_sinks 156 = .ok (.invokevirtual 85, 3) := by decide +kernel
theorem dX8_sinks_159 : decode cX8_sinks 159 = .ok (.ifCond .eq 12, 3) := by decide +kernel
theorem dX8_sinks_162 : decode cX8_sinks 162 = .ok (.aload_n 0, 1) := by decide +kernel
theorem dX8_sinks_163 : decode cX8_sinks 163 = .ok (.iconst 1, 1) := by decide +kernel
theorem dX8_sinks_164 : decode cX8_sinks 164 = .ok (.iload 7, 2) := by decide +kernel
theorem dX8_sinks_166 : decode cX8_sinks 166 = .ok (.iload 6, 2) := by decide +kernel
theorem dX8_sinks_168 : decode cX8_sinks 168 = .ok (.invokevirtual 55, 3) := by decide +kernel
theorem dX8_sinks_171 : decode cX8_sinks 171 = .ok (.iload 6, 2) := by decide +kernel
theorem dX8_sinks_173 : decode cX8_sinks 173 = .ok (.istore_n 3, 1) := by decide +kernel
theorem dX8_sinks_174 : decode cX8_sinks 174 = .ok (.goto (-169), 3) := by decide +kernel
theorem dX8_sinks_177 : decode cX8_sinks 177 = .ok (.return_, 1) := by decide +kernel
theorem dX8_enters_0 : decode cX8_enters 0 = .ok (.iload_n 1, 1) := by decide +kernel
theorem dX8_enters_1 : decode cX8_enters 1 = .ok (.ifCond .ne 4, 3) := by decide +kernel
theorem dX8_enters_4 : decode cX8_enters 4 = .ok (.return_, 1) := by decide +kernel
theorem dX8_enters_5 : decode cX8_enters 5 = .ok (.iload_n 1, 1) := by decide +kernel
theorem dX8_enters_6 : decode cX8_enters 6 = .ok (.iconst 1, 1) := by decide +kernel
theorem dX8_enters_7 : decode cX8_enters 7 = .ok (.isub, 1) := by decide +kernel
theorem dX8_enters_8 : decode cX8_enters 8 = .ok (.iconst 2, 1) := by decide +kernel
theorem dX8_enters_9 : decode cX8_enters 9 = .ok (.idiv, 1) := by decide +kernel
theorem dX8_enters_10 : decode cX8_enters 10 = .ok (.istore_n 2, 1) := by decide +kernel
theorem dX8_enters_11 : decode cX8_enters 11 = .ok (.aload_n 0, 1) := by decide +kernel
theorem dX8_enters_12 : decode cX8_enters 12 = .ok (.iload_n 1, 1) := by decide +kernel
theorem dX8_enters_13 : decode cX8_enters 13 = .ok (.invokestatic 82, 3) := by decide +kernel
theorem dX8_enters_16 : decode cX8_enters 16 = .ok (.iload_n 2, 1) := by decide +kernel
theorem dX8_enters_17 : decode cX8_enters 17 = .ok (.iload_n 1, 1) := by decide +kernel
theorem dX8_enters_18 : decode cX8_enters 18 = .ok (.invokevirtual 85, 3) := by decide +kernel
theorem dX8_enters_21 : decode cX8_enters 21 = .ok (.ifCond .eq 18, 3) := by decide +kernel
theorem dX8_enters_24 : decode cX8_enters 24 = .ok (.aload_n 0, 1) := by decide +kernel
theorem dX8_enters_25 : decode cX8_enters 25 = .ok (.iconst 1, 1) := by decide +kernel
theorem dX8_enters_26 : decode cX8_enters 26 = .ok (.iload_n 1, 1) := by decide +kernel
theorem dX8_enters_27 : decode cX8_enters 27 = .ok (.iload_n 2, 1) := by decide +kernel
theorem dX8_enters_28 : decode cX8_enters 28 = .ok (.invokevirtual 55, 3) := by decide +kernel
theorem dX8_enters_31 : decode cX8_enters 31 = .ok (.aload_n 0, 1) := by decide +kernel
theorem dX8_enters_32 : decode cX8_enters 32 = .ok (.iload_n 2, 1) := by decide +kernel
theorem dX8_enters_33 : decode cX8_enters 33 = .ok (.invokevirtual 89, 3) := by decide +kernel
theorem dX8_enters_36 : decode cX8_enters 36 = .ok (.goto 8, 3) := by decide +kernel
theorem dX8_enters_39 : decode cX8_enters 39 = .ok (.aload_n 0, 1) := by decide +kernel
theorem dX8_enters_40 : decode cX8_enters 40 = .ok (.iload_n 1, 1) := by decide +kernel
theorem dX8_enters_41 : decode cX8_enters 41 = .ok (.invokevirtual 89, 3) := by decide +kernel
theorem dX8_enters_44 : decode cX8_enters 44 = .ok (.return_, 1) := by decide +kernel
theorem dX8_isAhead_0 : decode cX8_isAhead 0 = .ok (.iload_n 1, 1) := by decide +kernel
theorem dX8_isAhead_1 : decode cX8_isAhead 1 = .ok (.iconst 2, 1) := by decide +kernel
theorem dX8_isAhead_2 : decode cX8_isAhead 2 = .ok (.if_icmp .ne 13, 3) := by decide +kernel
theorem dX8_isAhead_5 : decode cX8_isAhead 5 = .ok (.aload_n 0, 1) := by decide +kernel
theorem dX8_isAhead_6 : decode cX8_isAhead 6 = .ok (.iconst 2, 1) := by decide +kernel
theorem dX8_isAhead_7 : decode cX8_isAhead 7 = .ok (.iload_n 2, 1) := by decide +kernel
theorem dX8_isAhead_8 : decode cX8_isAhead 8 = .ok (.iload_n 3, 1) := by decide +kernel
theorem dX8_isAhead_9 : decode cX8_isAhead 9 = .ok (.invokevirtual 52, 3) := by decide +kernel
theorem dX8_isAhead_12 : decode cX8_isAhead 12 = .ok (.goto 10, 3) := by decide +kernel
theorem dX8_isAhead_15 : decode cX8_isAhead 15 = .ok (.aload_n 0, 1) := by decide +kernel
theorem dX8_isAhead_16 : decode cX8_isAhead 16 = .ok (.iconst 3, 1) := by decide +kernel
theorem dX8_isAhead_17 : decode cX8_isAhead 17 = .ok (.iload_n 3, 1) := by decide +kernel
theorem dX8_isAhead_18 : decode cX8_isAhead 18 = .ok (.iload_n 2, 1) := by decide +kernel
theorem dX8_isAhead_19 : decode cX8_isAhead 19 = .ok (.invokevirtual 52, 3) := by decide +kernel
theorem dX8_isAhead_22 : decode cX8_isAhead 22 = .ok (.ireturn, 1) := by decide +kernel
theorem dX8_up_0 : decode cX8_up 0 = .ok (.iload_n 2, 1) := by decide +kernel
theorem dX8_up_1 : decode cX8_up 1 = .ok (.istore_n 3, 1) := by decide +kernel
theorem dX8_up_2 : decode cX8_up 2 = .ok (.iload_n 3, 1) := by decide +kernel
theorem dX8_up_3 : decode cX8_up 3 = .ok (.ifCond .le 37, 3) := by decide +kernel
theorem dX8_up_6 : decode cX8_up 6 = .ok (.aload_n 0, 1) := by decide +kernel
theorem dX8_up_7 : decode cX8_up 7 = .ok (.iload_n 1, 1) := by decide +kernel
theorem dX8_up_8 : decode cX8_up 8 = .ok (.iload_n 3, 1) := by decide +kernel
theorem dX8_up_9 : decode cX8_up 9 = .ok (.iload_n 3, 1) := by decide +kernel
theorem dX8_up_10 : decode cX8_up 10 = .ok (.iconst 1, 1) := by decide +kernel
theorem dX8_up_11 : decode cX8_up 11 = .ok (.isub, 1) := by decide +kernel
theorem dX8_up_12 : decode cX8_up 12 = .ok (.iconst 2, 1) := by decide +kernel
theorem dX8_up_13 : decode cX8_up 13 = .ok (.idiv, 1) := by decide +kernel
theorem dX8_up_14 : decode cX8_up 14 = .ok (.invokevirtual 92, 3) := by decide +kernel
theorem dX8_up_17 : decode cX8_up 17 = .ok (.ifCond .eq 23, 3) := by decide +kernel
theorem dX8_up_20 : decode cX8_up 20 = .ok (.aload_n 0, 1) := by decide +kernel
theorem dX8_up_21 : decode cX8_up 21 = .ok (.iload_n 1, 1) := by decide +kernel
theorem dX8_up_22 : decode cX8_up 22 = .ok (.iload_n 3, 1) := by decide +kernel
theorem dX8_up_23 : decode cX8_up 23 = .ok (.iload_n 3, 1) := by decide +kernel
theorem dX8_up_24 : decode cX8_up 24 = .ok (.iconst 1, 1) := by decide +kernel
theorem dX8_up_25 : decode cX8_up 25 = .ok (.isub, 1) := by decide +kernel
theorem dX8_up_26 : decode cX8_up 26 = .ok (.iconst 2, 1) := by decide +kernel
theorem dX8_up_27 : decode cX8_up 27 = .ok (.idiv, 1) := by decide +kernel
theorem dX8_up_28 : decode cX8_up 28 = .ok (.invokevirtual 55, 3) := by decide +kernel
theorem dX8_up_31 : decode cX8_up 31 = .ok (.iload_n 3, 1) := by decide +kernel
theorem dX8_up_32 : decode cX8_up 32 = .ok (.iconst 1, 1) := by decide +kernel
theorem dX8_up_33 : decode cX8_up 33 = .ok (.isub, 1) := by decide +kernel
theorem dX8_up_34 : decode cX8_up 34 = .ok (.iconst 2, 1) := by decide +kernel
theorem dX8_up_35 : decode cX8_up 35 = .ok (.idiv, 1) := by decide +kernel
theorem dX8_up_36 : decode cX8_up 36 = .ok (.istore_n 3, 1) := by decide +kernel
theorem dX8_up_37 : decode cX8_up 37 = .ok (.goto (-35), 3) := by decide +kernel
theorem dX8_up_40 : decode cX8_up 40 = .ok (.return_, 1) := by decide +kernel
theorem dX8_down_0 : decode cX8_down 0 = .ok (.iload_n 2, 1) := by decide +kernel
theorem dX8_down_1 : decode cX8_down 1 = .ok (.istore 4, 2) := by decide +kernel
theorem dX8_down_3 : decode cX8_down 3 = .ok (.iconst 1, 1) := by decide +kernel
theorem dX8_down_4 : decode cX8_down 4 = .ok (.istore 5, 2) := by decide +kernel
theorem dX8_down_6 : decode cX8_down 6 = .ok (.iload 5, 2) := by decide +kernel
theorem dX8_down_8 : decode cX8_down 8 = .ok (.ifCond .eq 85, 3) := by decide +kernel
theorem dX8_down_11 : decode cX8_down 11 = .ok (.iconst 2, 1) := by decide +kernel
theorem dX8_down_12 : decode cX8_down 12 = .ok (.iload 4, 2) := by decide +kernel
theorem dX8_down_14 : decode cX8_down 14 = .ok (.imul, 1) := by decide +kernel
theorem dX8_down_15 : decode cX8_down 15 = .ok (.iconst 1, 1) := by decide +kernel
theorem dX8_down_16 : decode cX8_down 16 = .ok (.iadd, 1) := by decide +kernel
theorem dX8_down_17 : decode cX8_down 17 = .ok (.iload_n 3, 1) := by decide +kernel
theorem dX8_down_18 : decode cX8_down 18 = .ok (.if_icmp .ge 75, 3) := by decide +kernel
theorem dX8_down_21 : decode cX8_down 21 = .ok (.iconst 2, 1) := by decide +kernel
theorem dX8_down_22 : decode cX8_down 22 = .ok (.iload 4, 2) := by decide +kernel
theorem dX8_down_24 : decode cX8_down 24 = .ok (.imul, 1) := by decide +kernel
theorem dX8_down_25 : decode cX8_down 25 = .ok (.iconst 1, 1) := by decide +kernel
theorem dX8_down_26 : decode cX8_down 26 = .ok (.iadd, 1) := by decide +kernel
theorem dX8_down_27 : decode cX8_down 27 = .ok (.istore 6, 2) := by decide +kernel
theorem dX8_down_29 : decode cX8_down 29 = .ok (.iload 6, 2) := by decide +kernel
theorem dX8_down_31 : decode cX8_down 31 = .ok (.iload 6, 2) := by decide +kernel
theorem dX8_down_33 : decode cX8_down 33 = .ok (.iconst 1, 1) := by decide +kernel
theorem dX8_down_34 : decode cX8_down 34 = .ok (.iadd, 1) := by decide +kernel
theorem dX8_down_35 : decode cX8_down 35 = .ok (.iload_n 3, 1) := by decide +kernel
theorem dX8_down_36 : decode cX8_down 36 = .ok (.if_icmp .ge 21, 3) := by decide +kernel
theorem dX8_down_39 : decode cX8_down 39 = .ok (.aload_n 0, 1) := by decide +kernel
theorem dX8_down_40 : decode cX8_down 40 = .ok (.iload_n 1, 1) := by decide +kernel
theorem dX8_down_41 : decode cX8_down 41 = .ok (.iload 6, 2) := by decide +kernel
theorem dX8_down_43 : decode cX8_down 43 = .ok (.iconst 1, 1) := by decide +kernel
theorem dX8_down_44 : decode cX8_down 44 = .ok (.iadd, 1) := by decide +kernel
theorem dX8_down_45 : decode cX8_down 45 = .ok (.iload 6, 2) := by decide +kernel
theorem dX8_down_47 : decode cX8_down 47 = .ok (.invokevirtual 92, 3) := by decide +kernel
theorem dX8_down_50 : decode cX8_down 50 = .ok (.ifCond .eq 7, 3) := by decide +kernel
theorem dX8_down_53 : decode cX8_down 53 = .ok (.iconst 1, 1) := by decide +kernel
theorem dX8_down_54 : decode cX8_down 54 = .ok (.goto 4, 3) := by decide +kernel
theorem dX8_down_57 : decode cX8_down 57 = .ok (.iconst 0, 1) := by decide +kernel
theorem dX8_down_58 : decode cX8_down 58 = .ok (.iadd, 1) := by decide +kernel
theorem dX8_down_59 : decode cX8_down 59 = .ok (.istore 6, 2) := by decide +kernel
theorem dX8_down_61 : decode cX8_down 61 = .ok (.aload_n 0, 1) := by decide +kernel
theorem dX8_down_62 : decode cX8_down 62 = .ok (.iload_n 1, 1) := by decide +kernel
theorem dX8_down_63 : decode cX8_down 63 = .ok (.iload 6, 2) := by decide +kernel
theorem dX8_down_65 : decode cX8_down 65 = .ok (.iload 4, 2) := by decide +kernel
theorem dX8_down_67 : decode cX8_down 67 = .ok (.invokevirtual 92, 3) := by decide +kernel
theorem dX8_down_70 : decode cX8_down 70 = .ok (.istore 5, 2) := by decide +kernel
theorem dX8_down_72 : decode cX8_down 72 = .ok (.iload 5, 2) := by decide +kernel
theorem dX8_down_74 : decode cX8_down 74 = .ok (.ifCond .eq 16, 3) := by decide +kernel
theorem dX8_down_77 : decode cX8_down 77 = .ok (.aload_n 0, 1) := by decide +kernel
theorem dX8_down_78 : decode cX8_down 78 = .ok (.iload_n 1, 1) := by decide +kernel
theorem dX8_down_79 : decode cX8_down 79 = .ok (.iload 6, 2) := by decide +kernel
theorem dX8_down_81 : decode cX8_down 81 = .ok (.iload 4, 2) := by decide +kernel
theorem dX8_down_83 : decode cX8_down 83 = .ok (.invokevirtual 55, 3) := by decide +kernel
theorem dX8_down_86 : decode cX8_down 86 = .ok (.iload 6, 2) := by decide +kernel
theorem dX8_down_88 : decode cX8_down 88 = .ok (.istore 4, 2) := by decide +kernel
theorem dX8_down_90 : decode cX8_down 90 = .ok (.goto (-84), 3) := by decide +kernel
theorem dX8_down_93 : decode cX8_down 93 = .ok (.return_, 1) := by decide +kernel
theorem dX8_enters__0 : decode cX8_enters_ 0 = .ok (.aload_n 0, 1) := by decide +kernel
theorem dX8_enters__1 : decode cX8_enters_ 1 = .ok (.invokevirtual 95, 3) := by decide +kernel
theorem dX8_enters__4 : decode cX8_enters_ 4 = .ok (.iconst 1, 1) := by decide +kernel
theorem dX8_enters__5 : decode cX8_enters_ 5 = .ok (.iadd, 1) := by decide +kernel
theorem dX8_enters__6 : decode cX8_enters_ 6 = .ok (.istore_n 3, 1) := by decide +kernel
theorem dX8_enters__7 : decode cX8_enters_ 7 = .ok (.iconst 0, 1) := by decide +kernel
theorem dX8_enters__8 : decode cX8_enters_ 8 = .ok (.istore 4, 2) := by decide +kernel
theorem dX8_enters__10 : decode cX8_enters_ 10 = .ok (.iload 4, 2) := by decide +kernel
theorem dX8_enters__12 : decode cX8_enters_ 12 = .ok (.iconst 4, 1) := by decide +kernel
theorem dX8_enters__13 : decode cX8_enters_ 13 = .ok (.if_icmp .ge 77, 3) := by decide +kernel
theorem dX8_enters__16 : decode cX8_enters_ 16 = .ok (.iload_n 2, 1) := by decide +kernel
theorem dX8_enters__17 : decode cX8_enters_ 17 = .ok (.iload 4, 2) := by decide +kernel
theorem dX8_enters__19 : decode cX8_enters_ 19 = .ok (.iconst 2, 1) := by decide +kernel
theorem dX8_enters__20 : decode cX8_enters_ 20 = .ok (.if_icmp .ge 8, 3) := by decide +kernel
theorem dX8_enters__23 : decode cX8_enters_ 23 = .ok (.iload 4, 2) := by decide +kernel
theorem dX8_enters__25 : decode cX8_enters_ 25 = .ok (.goto 4, 3) := by decide +kernel
theorem dX8_enters__28 : decode cX8_enters_ 28 = .ok (.iconst 2, 1) := by decide +kernel
theorem dX8_enters__29 : decode cX8_enters_ 29 = .ok (.ishr, 1) := by decide +kernel
theorem dX8_enters__30 : decode cX8_enters_ 30 = .ok (.iconst 2, 1) := by decide +kernel
theorem dX8_enters__31 : decode cX8_enters_ 31 = .ok (.irem, 1) := by decide +kernel
theorem dX8_enters__32 : decode cX8_enters_ 32 = .ok (.iconst 1, 1) := by decide +kernel
theorem dX8_enters__33 : decode cX8_enters_ 33 = .ok (.if_icmp .ne 51, 3) := by decide +kernel
theorem dX8_enters__36 : decode cX8_enters_ 36 = .ok (.aload_n 0, 1) := by decide +kernel
theorem dX8_enters__37 : decode cX8_enters_ 37 = .ok (.iload 4, 2) := by decide +kernel
theorem dX8_enters__39 : decode cX8_enters_ 39 = .ok (.iload_n 3, 1) := by decide +kernel
theorem dX8_enters__40 : decode cX8_enters_ 40 = .ok (.iconst 1, 1) := by decide +kernel
theorem dX8_enters__41 : decode cX8_enters_ 41 = .ok (.isub, 1) := by decide +kernel
theorem dX8_enters__42 : decode cX8_enters_ 42 = .ok (.iload_n 1, 1) := by decide +kernel
theorem dX8_enters__43 : decode cX8_enters_ 43 = .ok (.invokevirtual 45, 3) := by decide +kernel
theorem dX8_enters__46 : decode cX8_enters_ 46 = .ok (.iload 4, 2) := by decide +kernel
theorem dX8_enters__48 : decode cX8_enters_ 48 = .ok (.ifCond .ne 11, 3) := by decide +kernel
theorem dX8_enters__51 : decode cX8_enters_ 51 = .ok (.aload_n 0, 1) := by decide +kernel
theorem dX8_enters__52 : decode cX8_enters_ 52 = .ok (.iload_n 3, 1) := by decide +kernel
theorem dX8_enters__53 : decode cX8_enters_ 53 = .ok (.invokevirtual 99, 3) := by decide +kernel
theorem dX8_enters__56 : decode cX8_enters_ 56 = .ok (.goto 28, 3) := by decide +kernel
theorem dX8_enters__59 : decode cX8_enters_ 59 = .ok (.iload 4, 2) := by decide +kernel
theorem dX8_enters__61 : decode cX8_enters_ 61 = .ok (.iconst 1, 1) := by decide +kernel
theorem dX8_enters__62 : decode cX8_enters_ 62 = .ok (.if_icmp .ne 13, 3) := by decide +kernel
theorem dX8_enters__65 : decode cX8_enters_ 65 = .ok (.aload_n 0, 1) := by decide +kernel
theorem dX8_enters__66 : decode cX8_enters_ 66 = .ok (.iload_n 3, 1) := by decide +kernel
theorem dX8_enters__67 : decode cX8_enters_ 67 = .ok (.iconst 1, 1) := by decide +kernel
theorem dX8_enters__68 : decode cX8_enters_ 68 = .ok (.isub, 1) := by decide +kernel
theorem dX8_enters__69 : decode cX8_enters_ 69 = .ok (.invokevirtual 102, 3) := by decide +kernel
theorem dX8_enters__72 : decode cX8_enters_ 72 = .ok (.goto 12, 3) := by decide +kernel
theorem dX8_enters__75 : decode cX8_enters_ 75 = .ok (.aload_n 0, 1) := by decide +kernel
theorem dX8_enters__76 : decode cX8_enters_ 76 = .ok (.iload 4, 2) := by decide +kernel
theorem dX8_enters__78 : decode cX8_enters_ 78 = .ok (.iload_n 3, 1) := by decide +kernel
theorem dX8_enters__79 : decode cX8_enters_ 79 = .ok (.iconst 1, 1) := by decide +kernel
theorem dX8_enters__80 : decode cX8_enters_ 80 = .ok (.isub, 1) := by decide +kernel
theorem dX8_enters__81 : decode cX8_enters_ 81 = .ok (.invokevirtual 105, 3) := by decide +kernel
theorem dX8_enters__84 : decode cX8_enters_ 84 = .ok (.iinc 4 1, 3) := by decide +kernel
theorem dX8_enters__87 : decode cX8_enters_ 87 = .ok (.goto (-77), 3) := by decide +kernel
theorem dX8_enters__90 : decode cX8_enters_ 90 = .ok (.aload_n 0, 1) := by decide +kernel
theorem dX8_enters__91 : decode cX8_enters_ 91 = .ok (.getfield 7, 3) := by decide +kernel
theorem dX8_enters__94 : decode cX8_enters_ 94 = .ok (.bipush 30, 2) := by decide +kernel
theorem dX8_enters__96 : decode cX8_enters_ 96 = .ok (.iload_n 1, 1) := by decide +kernel
theorem dX8_enters__97 : decode cX8_enters_ 97 = .ok (.iadd, 1) := by decide +kernel
theorem dX8_enters__98 : decode cX8_enters_ 98 = .ok (.iconst 1, 1) := by decide +kernel
theorem dX8_enters__99 : decode cX8_enters_ 99 = .ok (.iastore, 1) := by decide +kernel
theorem dX8_enters__100 : decode cX8_enters_ 100 = .ok (.aload_n 0, 1) := by decide +kernel
theorem dX8_enters__101 : decode cX8_enters_ 101 = .ok (.getfield 7, 3) := by decide +kernel
theorem dX8_enters__104 : decode cX8_enters_ 104 = .ok (.sipush 180, 3) := by decide +kernel
theorem dX8_enters__107 : decode cX8_enters_ 107 = .ok (.iload_n 3, 1) := by decide +kernel
theorem dX8_enters__108 : decode cX8_enters_ 108 = .ok (.iastore, 1) := by decide +kernel
theorem dX8_enters__109 : decode cX8_enters_ 109 = .ok (.return_, 1) := by decide +kernel
theorem dX8_moves_0 : decode cX8_moves 0 = .ok (.iload_n 1, 1) := by decide +kernel
theorem dX8_moves_1 : decode cX8_moves 1 = .ok (.ifCond .ne 14, 3) := by decide +kernel
theorem dX8_moves_4 : decode cX8_moves 4 = .ok (.aload_n 0, 1) := by decide +kernel
theorem dX8_moves_5 : decode cX8_moves 5 = .ok (.iload_n 2, 1) := by decide +kernel
theorem dX8_moves_6 : decode cX8_moves 6 = .ok (.iconst 2, 1) := by decide +kernel
theorem dX8_moves_7 : decode cX8_moves 7 = .ok (.idiv, 1) := by decide +kernel
theorem dX8_moves_8 : decode cX8_moves 8 = .ok (.iload_n 3, 1) := by decide +kernel
theorem dX8_moves_9 : decode cX8_moves 9 = .ok (.invokevirtual 108, 3) := by decide +kernel
theorem dX8_moves_12 : decode cX8_moves 12 = .ok (.goto 35, 3) := by decide +kernel
theorem dX8_moves_15 : decode cX8_moves 15 = .ok (.iload_n 1, 1) := by decide +kernel
theorem dX8_moves_16 : decode cX8_moves 16 = .ok (.iconst 1, 1) := by decide +kernel
theorem dX8_moves_17 : decode cX8_moves 17 = .ok (.if_icmp .ne 17, 3) := by decide +kernel
theorem dX8_moves_20 : decode cX8_moves 20 = .ok (.aload_n 0, 1) := by decide +kernel
theorem dX8_moves_21 : decode cX8_moves 21 = .ok (.iload_n 2, 1) := by decide +kernel
theorem dX8_moves_22 : decode cX8_moves 22 = .ok (.invokevirtual 102, 3) := by decide +kernel
theorem dX8_moves_25 : decode cX8_moves 25 = .ok (.aload_n 0, 1) := by decide +kernel
theorem dX8_moves_26 : decode cX8_moves 26 = .ok (.iload_n 2, 1) := by decide +kernel
theorem dX8_moves_27 : decode cX8_moves 27 = .ok (.iload_n 3, 1) := by decide +kernel
theorem dX8_moves_28 : decode cX8_moves 28 = .ok (.invokevirtual 111, 3) := by decide +kernel
theorem dX8_moves_31 : decode cX8_moves 31 = .ok (.goto 16, 3) := by decide +kernel
theorem dX8_moves_34 : decode cX8_moves 34 = .ok (.aload_n 0, 1) := by decide +kernel
theorem dX8_moves_35 : decode cX8_moves 35 = .ok (.iload_n 1, 1) := by decide +kernel
theorem dX8_moves_36 : decode cX8_moves 36 = .ok (.iload_n 2, 1) := by decide +kernel
theorem dX8_moves_37 : decode cX8_moves 37 = .ok (.invokevirtual 105, 3) := by decide +kernel
theorem dX8_moves_40 : decode cX8_moves 40 = .ok (.aload_n 0, 1) := by decide +kernel
theorem dX8_moves_41 : decode cX8_moves 41 = .ok (.iload_n 1, 1) := by decide +kernel
theorem dX8_moves_42 : decode cX8_moves 42 = .ok (.iload_n 2, 1) := by decide +kernel
theorem dX8_moves_43 : decode cX8_moves 43 = .ok (.iload_n 3, 1) := by decide +kernel
theorem dX8_moves_44 : decode cX8_moves 44 = .ok (.invokevirtual 114, 3) := by decide +kernel
theorem dX8_moves_47 : decode cX8_moves 47 = .ok (.return_, 1) := by decide +kernel
theorem dX8_goes_0 : decode cX8_goes 0 = .ok (.iconst 0, 1) := by decide +kernel
theorem dX8_goes_1 : decode cX8_goes 1 = .ok (.istore_n 3, 1) := by decide +kernel
theorem dX8_goes_2 : decode cX8_goes 2 = .ok (.iload_n 3, 1) := by decide +kernel
theorem dX8_goes_3 : decode cX8_goes 3 = .ok (.iconst 4, 1) := by decide +kernel
theorem dX8_goes_4 : decode cX8_goes 4 = .ok (.if_icmp .ge 64, 3) := by decide +kernel
theorem dX8_goes_7 : decode cX8_goes 7 = .ok (.iload_n 2, 1) := by decide +kernel
theorem dX8_goes_8 : decode cX8_goes 8 = .ok (.iload_n 3, 1) := by decide +kernel
theorem dX8_goes_9 : decode cX8_goes 9 = .ok (.iconst 2, 1) := by decide +kernel
theorem dX8_goes_10 : decode cX8_goes 10 = .ok (.if_icmp .ge 7, 3) := by decide +kernel
theorem dX8_goes_13 : decode cX8_goes 13 = .ok (.iload_n 3, 1) := by decide +kernel
theorem dX8_goes_14 : decode cX8_goes 14 = .ok (.goto 4, 3) := by decide +kernel
theorem dX8_goes_17 : decode cX8_goes 17 = .ok (.iconst 2, 1) := by decide +kernel
theorem dX8_goes_18 : decode cX8_goes 18 = .ok (.ishr, 1) := by decide +kernel
theorem dX8_goes_19 : decode cX8_goes 19 = .ok (.iconst 2, 1) := by decide +kernel
theorem dX8_goes_20 : decode cX8_goes 20 = .ok (.irem, 1) := by decide +kernel
theorem dX8_goes_21 : decode cX8_goes 21 = .ok (.iconst 1, 1) := by decide +kernel
theorem dX8_goes_22 : decode cX8_goes 22 = .ok (.if_icmp .ne 40, 3) := by decide +kernel
theorem dX8_goes_25 : decode cX8_goes 25 = .ok (.aload_n 0, 1) := by decide +kernel
theorem dX8_goes_26 : decode cX8_goes 26 = .ok (.iload_n 3, 1) := by decide +kernel
theorem dX8_goes_27 : decode cX8_goes 27 = .ok (.iload_n 1, 1) := by decide +kernel
theorem dX8_goes_28 : decode cX8_goes 28 = .ok (.invokevirtual 117, 3) := by decide +kernel
theorem dX8_goes_31 : decode cX8_goes 31 = .ok (.istore 4, 2) := by decide +kernel
theorem dX8_goes_33 : decode cX8_goes 33 = .ok (.aload_n 0, 1) := by decide +kernel
theorem dX8_goes_34 : decode cX8_goes 34 = .ok (.iload_n 3, 1) := by decide +kernel
theorem dX8_goes_35 : decode cX8_goes 35 = .ok (.iload 4, 2) := by decide +kernel
theorem dX8_goes_37 : decode cX8_goes 37 = .ok (.aload_n 0, 1) := by decide +kernel
theorem dX8_goes_38 : decode cX8_goes 38 = .ok (.invokevirtual 95, 3) := by decide +kernel
theorem dX8_goes_41 : decode cX8_goes 41 = .ok (.invokevirtual 120, 3) := by decide +kernel
theorem dX8_goes_44 : decode cX8_goes 44 = .ok (.istore 5, 2) := by decide +kernel
theorem dX8_goes_46 : decode cX8_goes 46 = .ok (.iload 4, 2) := by decide +kernel
theorem dX8_goes_48 : decode cX8_goes 48 = .ok (.iload 5, 2) := by decide +kernel
theorem dX8_goes_50 : decode cX8_goes 50 = .ok (.if_icmp .ge 12, 3) := by decide +kernel
theorem dX8_goes_53 : decode cX8_goes 53 = .ok (.aload_n 0, 1) := by decide +kernel
theorem dX8_goes_54 : decode cX8_goes 54 = .ok (.iload_n 3, 1) := by decide +kernel
theorem dX8_goes_55 : decode cX8_goes 55 = .ok (.iload 4, 2) := by decide +kernel
theorem dX8_goes_57 : decode cX8_goes 57 = .ok (.iload 5, 2) := by decide +kernel
theorem dX8_goes_59 : decode cX8_goes 59 = .ok (.invokevirtual 124, 3) := by decide +kernel
theorem dX8_goes_62 : decode cX8_goes 62 = .ok (.iinc 3 1, 3) := by decide +kernel
theorem dX8_goes_65 : decode cX8_goes 65 = .ok (.goto (-63), 3) := by decide +kernel
theorem dX8_goes_68 : decode cX8_goes 68 = .ok (.aload_n 0, 1) := by decide +kernel
theorem dX8_goes_69 : decode cX8_goes 69 = .ok (.getfield 7, 3) := by decide +kernel
theorem dX8_goes_72 : decode cX8_goes 72 = .ok (.bipush 30, 2) := by decide +kernel
theorem dX8_goes_74 : decode cX8_goes 74 = .ok (.iload_n 1, 1) := by decide +kernel
theorem dX8_goes_75 : decode cX8_goes 75 = .ok (.iadd, 1) := by decide +kernel
theorem dX8_goes_76 : decode cX8_goes 76 = .ok (.iconst 0, 1) := by decide +kernel
theorem dX8_goes_77 : decode cX8_goes 77 = .ok (.iastore, 1) := by decide +kernel
theorem dX8_goes_78 : decode cX8_goes 78 = .ok (.aload_n 0, 1) := by decide +kernel
theorem dX8_goes_79 : decode cX8_goes 79 = .ok (.getfield 7, 3) := by decide +kernel
theorem dX8_goes_82 : decode cX8_goes 82 = .ok (.iload_n 1, 1) := by decide +kernel
theorem dX8_goes_83 : decode cX8_goes 83 = .ok (.iconst 0, 1) := by decide +kernel
theorem dX8_goes_84 : decode cX8_goes 84 = .ok (.iastore, 1) := by decide +kernel
theorem dX8_goes_85 : decode cX8_goes 85 = .ok (.aload_n 0, 1) := by decide +kernel
theorem dX8_goes_86 : decode cX8_goes 86 = .ok (.getfield 7, 3) := by decide +kernel
theorem dX8_goes_89 : decode cX8_goes 89 = .ok (.sipush 180, 3) := by decide +kernel
theorem dX8_goes_92 : decode cX8_goes 92 = .ok (.dup2, 1) := by decide +kernel
theorem dX8_goes_93 : decode cX8_goes 93 = .ok (.iaload, 1) := by decide +kernel
theorem dX8_goes_94 : decode cX8_goes 94 = .ok (.iconst 1, 1) := by decide +kernel
theorem dX8_goes_95 : decode cX8_goes 95 = .ok (.isub, 1) := by decide +kernel
theorem dX8_goes_96 : decode cX8_goes 96 = .ok (.iastore, 1) := by decide +kernel
theorem dX8_goes_97 : decode cX8_goes 97 = .ok (.return_, 1) := by decide +kernel
theorem dX8_builds_0 : decode cX8_builds 0 = .ok (.aload_n 0, 1) := by decide +kernel
theorem dX8_builds_1 : decode cX8_builds 1 = .ok (.invokevirtual 95, 3) := by decide +kernel
theorem dX8_builds_4 : decode cX8_builds 4 = .ok (.istore_n 2, 1) := by decide +kernel
theorem dX8_builds_5 : decode cX8_builds 5 = .ok (.iconst 0, 1) := by decide +kernel
theorem dX8_builds_6 : decode cX8_builds 6 = .ok (.istore_n 3, 1) := by decide +kernel
theorem dX8_builds_7 : decode cX8_builds 7 = .ok (.iload_n 3, 1) := by decide +kernel
theorem dX8_builds_8 : decode cX8_builds 8 = .ok (.iconst 4, 1) := by decide +kernel
theorem dX8_builds_9 : decode cX8_builds 9 = .ok (.if_icmp .ge 72, 3) := by decide +kernel
theorem dX8_builds_12 : decode cX8_builds 12 = .ok (.iload_n 1, 1) := by decide +kernel
theorem dX8_builds_13 : decode cX8_builds 13 = .ok (.iload_n 3, 1) := by decide +kernel
theorem dX8_builds_14 : decode cX8_builds 14 = .ok (.iconst 2, 1) := by decide +kernel
theorem dX8_builds_15 : decode cX8_builds 15 = .ok (.if_icmp .ge 7, 3) := by decide +kernel
theorem dX8_builds_18 : decode cX8_builds 18 = .ok (.iload_n 3, 1) := by decide +kernel
theorem dX8_builds_19 : decode cX8_builds 19 = .ok (.goto 4, 3) := by decide +kernel
theorem dX8_builds_22 : decode cX8_builds 22 = .ok (.iconst 2, 1) := by decide +kernel
theorem dX8_builds_23 : decode cX8_builds 23 = .ok (.ishr, 1) := by decide +kernel
theorem dX8_builds_24 : decode cX8_builds 24 = .ok (.iconst 2, 1) := by decide +kernel
theorem dX8_builds_25 : decode cX8_builds 25 = .ok (.irem, 1) := by decide +kernel
theorem dX8_builds_26 : decode cX8_builds 26 = .ok (.iconst 1, 1) := by decide +kernel
theorem dX8_builds_27 : decode cX8_builds 27 = .ok (.if_icmp .ne 48, 3) := by decide +kernel
theorem dX8_builds_30 : decode cX8_builds 30 = .ok (.aload_n 0, 1) := by decide +kernel
theorem dX8_builds_31 : decode cX8_builds 31 = .ok (.iload_n 3, 1) := by decide +kernel
theorem dX8_builds_32 : decode cX8_builds 32 = .ok (.invokevirtual 127, 3) := by decide +kernel
theorem dX8_builds_35 : decode cX8_builds 35 = .ok (.iload_n 3, 1) := by decide +kernel
theorem dX8_builds_36 : decode cX8_builds 36 = .ok (.ifCond .ne 11, 3) := by decide +kernel
theorem dX8_builds_39 : decode cX8_builds 39 = .ok (.iload_n 2, 1) := by decide +kernel
theorem dX8_builds_40 : decode cX8_builds 40 = .ok (.iconst 1, 1) := by decide +kernel
theorem dX8_builds_41 : decode cX8_builds 41 = .ok (.isub, 1) := by decide +kernel
theorem dX8_builds_42 : decode cX8_builds 42 = .ok (.iconst 2, 1) := by decide +kernel
theorem dX8_builds_43 : decode cX8_builds 43 = .ok (.idiv, 1) := by decide +kernel
theorem dX8_builds_44 : decode cX8_builds 44 = .ok (.goto 6, 3) := by decide +kernel
theorem dX8_builds_47 : decode cX8_builds 47 = .ok (.iload_n 2, 1) := by decide +kernel
theorem dX8_builds_48 : decode cX8_builds 48 = .ok (.iconst 1, 1) := by decide +kernel
theorem dX8_builds_49 : decode cX8_builds 49 = .ok (.isub, 1) := by decide +kernel
theorem dX8_builds_50 : decode cX8_builds 50 = .ok (.istore 4, 2) := by decide +kernel
theorem dX8_builds_52 : decode cX8_builds 52 = .ok (.iload 4, 2) := by decide +kernel
theorem dX8_builds_54 : decode cX8_builds 54 = .ok (.ifCond .lt 21, 3) := by decide +kernel
theorem dX8_builds_57 : decode cX8_builds 57 = .ok (.iload_n 2, 1) := by decide +kernel
theorem dX8_builds_58 : decode cX8_builds 58 = .ok (.ifCond .le 17, 3) := by decide +kernel
theorem dX8_builds_61 : decode cX8_builds 61 = .ok (.aload_n 0, 1) := by decide +kernel
theorem dX8_builds_62 : decode cX8_builds 62 = .ok (.iload_n 3, 1) := by decide +kernel
theorem dX8_builds_63 : decode cX8_builds 63 = .ok (.iload 4, 2) := by decide +kernel
theorem dX8_builds_65 : decode cX8_builds 65 = .ok (.iload_n 2, 1) := by decide +kernel
theorem dX8_builds_66 : decode cX8_builds 66 = .ok (.invokevirtual 130, 3) := by decide +kernel
theorem dX8_builds_69 : decode cX8_builds 69 = .ok (.iinc 4 (-1), 3) := by decide +kernel
theorem dX8_builds_72 : decode cX8_builds 72 = .ok (.goto (-20), 3) := by decide +kernel
theorem dX8_builds_75 : decode cX8_builds 75 = .ok (.iinc 3 1, 3) := by decide +kernel
theorem dX8_builds_78 : decode cX8_builds 78 = .ok (.goto (-71), 3) := by decide +kernel
theorem dX8_builds_81 : decode cX8_builds 81 = .ok (.return_, 1) := by decide +kernel
theorem dX8_buildsAt_0 : decode cX8_buildsAt 0 = .ok (.iload_n 1, 1) := by decide +kernel
theorem dX8_buildsAt_1 : decode cX8_buildsAt 1 = .ok (.ifCond .ne 18, 3) := by decide +kernel
theorem dX8_buildsAt_4 : decode cX8_buildsAt 4 = .ok (.aload_n 0, 1) := by decide +kernel
theorem dX8_buildsAt_5 : decode cX8_buildsAt 5 = .ok (.iload_n 2, 1) := by decide +kernel
theorem dX8_buildsAt_6 : decode cX8_buildsAt 6 = .ok (.iload_n 3, 1) := by decide +kernel
theorem dX8_buildsAt_7 : decode cX8_buildsAt 7 = .ok (.invokevirtual 72, 3) := by decide +kernel
theorem dX8_buildsAt_10 : decode cX8_buildsAt 10 = .ok (.aload_n 0, 1) := by decide +kernel
theorem dX8_buildsAt_11 : decode cX8_buildsAt 11 = .ok (.iload_n 2, 1) := by decide +kernel
theorem dX8_buildsAt_12 : decode cX8_buildsAt 12 = .ok (.iload_n 3, 1) := by decide +kernel
theorem dX8_buildsAt_13 : decode cX8_buildsAt 13 = .ok (.invokevirtual 75, 3) := by decide +kernel
theorem dX8_buildsAt_16 : decode cX8_buildsAt 16 = .ok (.goto 24, 3) := by decide +kernel
theorem dX8_buildsAt_19 : decode cX8_buildsAt 19 = .ok (.iload_n 1, 1) := by decide +kernel
theorem dX8_buildsAt_20 : decode cX8_buildsAt 20 = .ok (.iconst 1, 1) := by decide +kernel
theorem dX8_buildsAt_21 : decode cX8_buildsAt 21 = .ok (.if_icmp .ne 12, 3) := by decide +kernel
theorem dX8_buildsAt_24 : decode cX8_buildsAt 24 = .ok (.aload_n 0, 1) := by decide +kernel
theorem dX8_buildsAt_25 : decode cX8_buildsAt 25 = .ok (.iload_n 2, 1) := by decide +kernel
theorem dX8_buildsAt_26 : decode cX8_buildsAt 26 = .ok (.iload_n 3, 1) := by decide +kernel
theorem dX8_buildsAt_27 : decode cX8_buildsAt 27 = .ok (.invokevirtual 111, 3) := by decide +kernel
theorem dX8_buildsAt_30 : decode cX8_buildsAt 30 = .ok (.goto 10, 3) := by decide +kernel
theorem dX8_buildsAt_33 : decode cX8_buildsAt 33 = .ok (.aload_n 0, 1) := by decide +kernel
theorem dX8_buildsAt_34 : decode cX8_buildsAt 34 = .ok (.iload_n 1, 1) := by decide +kernel
theorem dX8_buildsAt_35 : decode cX8_buildsAt 35 = .ok (.iload_n 2, 1) := by decide +kernel
theorem dX8_buildsAt_36 : decode cX8_buildsAt 36 = .ok (.iload_n 3, 1) := by decide +kernel
theorem dX8_buildsAt_37 : decode cX8_buildsAt 37 = .ok (.invokevirtual 114, 3) := by decide +kernel
theorem dX8_buildsAt_40 : decode cX8_buildsAt 40 = .ok (.return_, 1) := by decide +kernel
theorem dX8_counts_0 : decode cX8_counts 0 = .ok (.aload_n 0, 1) := by decide +kernel
theorem dX8_counts_1 : decode cX8_counts 1 = .ok (.getfield 7, 3) := by decide +kernel
theorem dX8_counts_4 : decode cX8_counts 4 = .ok (.sipush 181, 3) := by decide +kernel
theorem dX8_counts_7 : decode cX8_counts 7 = .ok (.iaload, 1) := by decide +kernel
theorem dX8_counts_8 : decode cX8_counts 8 = .ok (.aload_n 0, 1) := by decide +kernel
theorem dX8_counts_9 : decode cX8_counts 9 = .ok (.getfield 7, 3) := by decide +kernel
theorem dX8_counts_12 : decode cX8_counts 12 = .ok (.sipush 182, 3) := by decide +kernel
theorem dX8_counts_15 : decode cX8_counts 15 = .ok (.iaload, 1) := by decide +kernel
theorem dX8_counts_16 : decode cX8_counts 16 = .ok (.iadd, 1) := by decide +kernel
theorem dX8_counts_17 : decode cX8_counts 17 = .ok (.aload_n 0, 1) := by decide +kernel
theorem dX8_counts_18 : decode cX8_counts 18 = .ok (.getfield 7, 3) := by decide +kernel
theorem dX8_counts_21 : decode cX8_counts 21 = .ok (.sipush 183, 3) := by decide +kernel
theorem dX8_counts_24 : decode cX8_counts 24 = .ok (.iaload, 1) := by decide +kernel
theorem dX8_counts_25 : decode cX8_counts 25 = .ok (.iadd, 1) := by decide +kernel
theorem dX8_counts_26 : decode cX8_counts 26 = .ok (.ireturn, 1) := by decide +kernel
theorem dX8_freeHandle_0 : decode cX8_freeHandle 0 = .ok (.iconst 0, 1) := by decide +kernel
theorem dX8_freeHandle_1 : decode cX8_freeHandle 1 = .ok (.istore_n 1, 1) := by decide +kernel
theorem dX8_freeHandle_2 : decode cX8_freeHandle 2 = .ok (.iload_n 1, 1) := by decide +kernel
theorem dX8_freeHandle_3 : decode cX8_freeHandle 3 = .ok (.bipush 30, 2) := by decide +kernel
theorem dX8_freeHandle_5 : decode cX8_freeHandle 5 = .ok (.if_icmp .ge 22, 3) := by decide +kernel
theorem dX8_freeHandle_8 : decode cX8_freeHandle 8 = .ok (.aload_n 0, 1) := by decide +kernel
theorem dX8_freeHandle_9 : decode cX8_freeHandle 9 = .ok (.getfield 7, 3) := by decide +kernel
theorem dX8_freeHandle_12 : decode cX8_freeHandle 12 = .ok (.bipush 30, 2) := by decide +kernel
theorem dX8_freeHandle_14 : decode cX8_freeHandle 14 = .ok (.iload_n 1, 1) := by decide +kernel
theorem dX8_freeHandle_15 : decode cX8_freeHandle 15 = .ok (.iadd, 1) := by decide +kernel
theorem dX8_freeHandle_16 : decode cX8_freeHandle 16 = .ok (.iaload, 1) := by decide +kernel
theorem dX8_freeHandle_17 : decode cX8_freeHandle 17 = .ok (.iconst 1, 1) := by decide +kernel
theorem dX8_freeHandle_18 : decode cX8_freeHandle 18 = .ok (.if_icmp .ne 9, 3) := by decide +kernel
theorem dX8_freeHandle_21 : decode cX8_freeHandle 21 = .ok (.iinc 1 1, 3) := by decide +kernel
theorem dX8_freeHandle_24 : decode cX8_freeHandle 24 = .ok (.goto (-22), 3) := by decide +kernel
theorem dX8_freeHandle_27 : decode cX8_freeHandle 27 = .ok (.iload_n 1, 1) := by decide +kernel
theorem dX8_freeHandle_28 : decode cX8_freeHandle 28 = .ok (.ireturn, 1) := by decide +kernel
theorem dX8_inserts_0 : decode cX8_inserts 0 = .ok (.aload_n 0, 1) := by decide +kernel
theorem dX8_inserts_1 : decode cX8_inserts 1 = .ok (.invokevirtual 133, 3) := by decide +kernel
theorem dX8_inserts_4 : decode cX8_inserts 4 = .ok (.istore_n 3, 1) := by decide +kernel
theorem dX8_inserts_5 : decode cX8_inserts 5 = .ok (.aload_n 0, 1) := by decide +kernel
theorem dX8_inserts_6 : decode cX8_inserts 6 = .ok (.getfield 7, 3) := by decide +kernel
theorem dX8_inserts_9 : decode cX8_inserts 9 = .ok (.iload_n 3, 1) := by decide +kernel
theorem dX8_inserts_10 : decode cX8_inserts 10 = .ok (.iload_n 1, 1) := by decide +kernel
theorem dX8_inserts_11 : decode cX8_inserts 11 = .ok (.iastore, 1) := by decide +kernel
theorem dX8_inserts_12 : decode cX8_inserts 12 = .ok (.aload_n 0, 1) := by decide +kernel
theorem dX8_inserts_13 : decode cX8_inserts 13 = .ok (.iload_n 3, 1) := by decide +kernel
theorem dX8_inserts_14 : decode cX8_inserts 14 = .ok (.iload_n 2, 1) := by decide +kernel
theorem dX8_inserts_15 : decode cX8_inserts 15 = .ok (.invokevirtual 136, 3) := by decide +kernel
theorem dX8_inserts_18 : decode cX8_inserts 18 = .ok (.iload_n 3, 1) := by decide +kernel
theorem dX8_inserts_19 : decode cX8_inserts 19 = .ok (.ireturn, 1) := by decide +kernel
theorem dX8_isKey_0 : decode cX8_isKey 0 = .ok (.iload_n 0, 1) := by decide +kernel
theorem dX8_isKey_1 : decode cX8_isKey 1 = .ok (.sipush (-999), 3) := by decide +kernel
theorem dX8_isKey_4 : decode cX8_isKey 4 = .ok (.sipush 999, 3) := by decide +kernel
theorem dX8_isKey_7 : decode cX8_isKey 7 = .ok (.invokestatic 33, 3) := by decide +kernel
theorem dX8_isKey_10 : decode cX8_isKey 10 = .ok (.ireturn, 1) := by decide +kernel
theorem dX8_insert_0 : decode cX8_insert 0 = .ok (.aload_n 0, 1) := by decide +kernel
theorem dX8_insert_1 : decode cX8_insert 1 = .ok (.iload_n 1, 1) := by decide +kernel
theorem dX8_insert_2 : decode cX8_insert 2 = .ok (.invokestatic 138, 3) := by decide +kernel
theorem dX8_insert_5 : decode cX8_insert 5 = .ok (.ifCond .ne 7, 3) := by decide +kernel
theorem dX8_insert_8 : decode cX8_insert 8 = .ok (.iconst 1, 1) := by decide +kernel
theorem dX8_insert_9 : decode cX8_insert 9 = .ok (.goto 17, 3) := by decide +kernel
theorem dX8_insert_12 : decode cX8_insert 12 = .ok (.aload_n 0, 1) := by decide +kernel
theorem dX8_insert_13 : decode cX8_insert 13 = .ok (.invokevirtual 95, 3) := by decide +kernel
theorem dX8_insert_16 : decode cX8_insert 16 = .ok (.bipush 30, 2) := by decide +kernel
theorem dX8_insert_18 : decode cX8_insert 18 = .ok (.if_icmp .ne 7, 3) := by decide +kernel
theorem dX8_insert_21 : decode cX8_insert 21 = .ok (.iconst 2, 1) := by decide +kernel
theorem dX8_insert_22 : decode cX8_insert 22 = .ok (.goto 4, 3) := by decide +kernel
theorem dX8_insert_25 : decode cX8_insert 25 = .ok (.iconst 0, 1) := by decide +kernel
theorem dX8_insert_26 : decode cX8_insert 26 = .ok (.invokevirtual 29, 3) := by decide +kernel
theorem dX8_insert_29 : decode cX8_insert 29 = .ok (.ifCond .eq 5, 3) := by decide +kernel
theorem dX8_insert_32 : decode cX8_insert 32 = .ok (.iconst 0, 1) := by decide +kernel
theorem dX8_insert_33 : decode cX8_insert 33 = .ok (.ireturn, 1) := by decide +kernel
theorem dX8_insert_34 : decode cX8_insert 34 = .ok (.aload_n 0, 1) := by decide +kernel
theorem dX8_insert_35 : decode cX8_insert 35 = .ok (.invokevirtual 141, 3) := by decide +kernel
theorem dX8_insert_38 : decode cX8_insert 38 = .ok (.aload_n 0, 1) := by decide +kernel
theorem dX8_insert_39 : decode cX8_insert 39 = .ok (.iload_n 1, 1) := by decide +kernel
theorem dX8_insert_40 : decode cX8_insert 40 = .ok (.bipush 7, 2) := by decide +kernel
theorem dX8_insert_42 : decode cX8_insert 42 = .ok (.invokevirtual 144, 3) := by decide +kernel
theorem dX8_insert_45 : decode cX8_insert 45 = .ok (.ireturn, 1) := by decide +kernel
theorem dX8_leastOf_0 : decode cX8_leastOf 0 = .ok (.aload_n 0, 1) := by decide +kernel
theorem dX8_leastOf_1 : decode cX8_leastOf 1 = .ok (.invokevirtual 95, 3) := by decide +kernel
theorem dX8_leastOf_4 : decode cX8_leastOf 4 = .ok (.ifCond .ne 7, 3) := by decide +kernel
theorem dX8_leastOf_7 : decode cX8_leastOf 7 = .ok (.iconst (-1), 1) := by decide +kernel
theorem dX8_leastOf_8 : decode cX8_leastOf 8 = .ok (.goto 9, 3) := by decide +kernel
theorem dX8_leastOf_11 : decode cX8_leastOf 11 = .ok (.aload_n 0, 1) := by decide +kernel
theorem dX8_leastOf_12 : decode cX8_leastOf 12 = .ok (.iload_n 1, 1) := by decide +kernel
theorem dX8_leastOf_13 : decode cX8_leastOf 13 = .ok (.iconst 0, 1) := by decide +kernel
theorem dX8_leastOf_14 : decode cX8_leastOf 14 = .ok (.invokevirtual 37, 3) := by decide +kernel
theorem dX8_leastOf_17 : decode cX8_leastOf 17 = .ok (.ireturn, 1) := by decide +kernel
theorem dX8_greatestOf_0 : decode cX8_greatestOf 0 = .ok (.aload_n 0, 1) := by decide +kernel
theorem dX8_greatestOf_1 : decode cX8_greatestOf 1 = .ok (.invokevirtual 95, 3) := by decide +kernel
theorem dX8_greatestOf_4 : decode cX8_greatestOf 4 = .ok (.istore_n 2, 1) := by decide +kernel
theorem dX8_greatestOf_5 : decode cX8_greatestOf 5 = .ok (.iload_n 2, 1) := by decide +kernel
theorem dX8_greatestOf_6 : decode cX8_greatestOf 6 = .ok (.ifCond .ne 5, 3) := by decide +kernel
theorem dX8_greatestOf_9 : decode cX8_greatestOf 9 = .ok (.iconst (-1), 1) := by decide +kernel
theorem dX8_greatestOf_10 : decode cX8_greatestOf 10 = .ok (.ireturn, 1) := by decide +kernel
theorem dX8_greatestOf_11 : decode cX8_greatestOf 11 = .ok (.iload_n 1, 1) := by decide +kernel
theorem dX8_greatestOf_12 : decode cX8_greatestOf 12 = .ok (.ifCond .ne 15, 3) := by decide +kernel
theorem dX8_greatestOf_15 : decode cX8_greatestOf 15 = .ok (.aload_n 0, 1) := by decide +kernel
theorem dX8_greatestOf_16 : decode cX8_greatestOf 16 = .ok (.iconst 0, 1) := by decide +kernel
theorem dX8_greatestOf_17 : decode cX8_greatestOf 17 = .ok (.aload_n 0, 1) := by decide +kernel
theorem dX8_greatestOf_18 : decode cX8_greatestOf 18 = .ok (.iconst 0, 1) := by decide +kernel
theorem dX8_greatestOf_19 : decode cX8_greatestOf 19 = .ok (.iload_n 2, 1) := by decide +kernel
theorem dX8_greatestOf_20 : decode cX8_greatestOf 20 = .ok (.invokevirtual 62, 3) := by decide +kernel
theorem dX8_greatestOf_23 : decode cX8_greatestOf 23 = .ok (.invokevirtual 37, 3) := by decide +kernel
theorem dX8_greatestOf_26 : decode cX8_greatestOf 26 = .ok (.ireturn, 1) := by decide +kernel
theorem dX8_greatestOf_27 : decode cX8_greatestOf 27 = .ok (.iload_n 1, 1) := by decide +kernel
theorem dX8_greatestOf_28 : decode cX8_greatestOf 28 = .ok (.iconst 2, 1) := by decide +kernel
theorem dX8_greatestOf_29 : decode cX8_greatestOf 29 = .ok (.if_icmp .ne 10, 3) := by decide +kernel
theorem dX8_greatestOf_32 : decode cX8_greatestOf 32 = .ok (.aload_n 0, 1) := by decide +kernel
theorem dX8_greatestOf_33 : decode cX8_greatestOf 33 = .ok (.iconst 3, 1) := by decide +kernel
theorem dX8_greatestOf_34 : decode cX8_greatestOf 34 = .ok (.iconst 0, 1) := by decide +kernel
theorem dX8_greatestOf_35 : decode cX8_greatestOf 35 = .ok (.invokevirtual 37, 3) := by decide +kernel
theorem dX8_greatestOf_38 : decode cX8_greatestOf 38 = .ok (.ireturn, 1) := by decide +kernel
theorem dX8_greatestOf_39 : decode cX8_greatestOf 39 = .ok (.iload_n 2, 1) := by decide +kernel
theorem dX8_greatestOf_40 : decode cX8_greatestOf 40 = .ok (.iconst 3, 1) := by decide +kernel
theorem dX8_greatestOf_41 : decode cX8_greatestOf 41 = .ok (.if_icmp .ge 14, 3) := by decide +kernel
theorem dX8_greatestOf_44 : decode cX8_greatestOf 44 = .ok (.aload_n 0, 1) := by decide +kernel
theorem dX8_greatestOf_45 : decode cX8_greatestOf 45 = .ok (.iconst 1, 1) := by decide +kernel
theorem dX8_greatestOf_46 : decode cX8_greatestOf 46 = .ok (.iload_n 2, 1) := by decide +kernel
theorem dX8_greatestOf_47 : decode cX8_greatestOf 47 = .ok (.iconst 1, 1) := by decide +kernel
theorem dX8_greatestOf_48 : decode cX8_greatestOf 48 = .ok (.isub, 1) := by decide +kernel
theorem dX8_greatestOf_49 : decode cX8_greatestOf 49 = .ok (.invokevirtual 37, 3) := by decide +kernel
theorem dX8_greatestOf_52 : decode cX8_greatestOf 52 = .ok (.goto 37, 3) := by decide +kernel
theorem dX8_greatestOf_55 : decode cX8_greatestOf 55 = .ok (.aload_n 0, 1) := by decide +kernel
theorem dX8_greatestOf_56 : decode cX8_greatestOf 56 = .ok (.aload_n 0, 1) := by decide +kernel
theorem dX8_greatestOf_57 : decode cX8_greatestOf 57 = .ok (.iconst 1, 1) := by decide +kernel
theorem dX8_greatestOf_58 : decode cX8_greatestOf 58 = .ok (.iconst 1, 1) := by decide +kernel
theorem dX8_greatestOf_59 : decode cX8_greatestOf 59 = .ok (.invokevirtual 37, 3) := by decide +kernel
theorem dX8_greatestOf_62 : decode cX8_greatestOf 62 = .ok (.aload_n 0, 1) := by decide +kernel
theorem dX8_greatestOf_63 : decode cX8_greatestOf 63 = .ok (.iconst 1, 1) := by decide +kernel
theorem dX8_greatestOf_64 : decode cX8_greatestOf 64 = .ok (.iconst 2, 1) := by decide +kernel
theorem dX8_greatestOf_65 : decode cX8_greatestOf 65 = .ok (.invokevirtual 37, 3) := by decide +kernel
theorem dX8_greatestOf_68 : decode cX8_greatestOf 68 = .ok (.invokevirtual 41, 3) := by decide +kernel
theorem dX8_greatestOf_71 : decode cX8_greatestOf 71 = .ok (.ifCond .eq 12, 3) := by decide +kernel
theorem dX8_greatestOf_74 : decode cX8_greatestOf 74 = .ok (.aload_n 0, 1) := by decide +kernel
theorem dX8_greatestOf_75 : decode cX8_greatestOf 75 = .ok (.iconst 1, 1) := by decide +kernel
theorem dX8_greatestOf_76 : decode cX8_greatestOf 76 = .ok (.iconst 2, 1) := by decide +kernel
theorem dX8_greatestOf_77 : decode cX8_greatestOf 77 = .ok (.invokevirtual 37, 3) := by decide +kernel
theorem dX8_greatestOf_80 : decode cX8_greatestOf 80 = .ok (.goto 9, 3) := by decide +kernel
theorem dX8_greatestOf_83 : decode cX8_greatestOf 83 = .ok (.aload_n 0, 1) := by decide +kernel
theorem dX8_greatestOf_84 : decode cX8_greatestOf 84 = .ok (.iconst 1, 1) := by decide +kernel
theorem dX8_greatestOf_85 : decode cX8_greatestOf 85 = .ok (.iconst 1, 1) := by decide +kernel
theorem dX8_greatestOf_86 : decode cX8_greatestOf 86 = .ok (.invokevirtual 37, 3) := by decide +kernel
theorem dX8_greatestOf_89 : decode cX8_greatestOf 89 = .ok (.ireturn, 1) := by decide +kernel
theorem dX8_takeLeast_0 : decode cX8_takeLeast 0 = .ok (.aload_n 0, 1) := by decide +kernel
theorem dX8_takeLeast_1 : decode cX8_takeLeast 1 = .ok (.aload_n 0, 1) := by decide +kernel
theorem dX8_takeLeast_2 : decode cX8_takeLeast 2 = .ok (.invokevirtual 95, 3) := by decide +kernel
theorem dX8_takeLeast_5 : decode cX8_takeLeast 5 = .ok (.ifCond .ne 7, 3) := by decide +kernel
theorem dX8_takeLeast_8 : decode cX8_takeLeast 8 = .ok (.iconst 1, 1) := by decide +kernel
theorem dX8_takeLeast_9 : decode cX8_takeLeast 9 = .ok (.goto 4, 3) := by decide +kernel
theorem dX8_takeLeast_12 : decode cX8_takeLeast 12 = .ok (.iconst 0, 1) := by decide +kernel
theorem dX8_takeLeast_13 : decode cX8_takeLeast 13 = .ok (.invokevirtual 29, 3) := by decide +kernel
theorem dX8_takeLeast_16 : decode cX8_takeLeast 16 = .ok (.ifCond .eq 5, 3) := by decide +kernel
theorem dX8_takeLeast_19 : decode cX8_takeLeast 19 = .ok (.iconst 0, 1) := by decide +kernel
theorem dX8_takeLeast_20 : decode cX8_takeLeast 20 = .ok (.ireturn, 1) := by decide +kernel
theorem dX8_takeLeast_21 : decode cX8_takeLeast 21 = .ok (.aload_n 0, 1) := by decide +kernel
theorem dX8_takeLeast_22 : decode cX8_takeLeast 22 = .ok (.invokevirtual 141, 3) := by decide +kernel
theorem dX8_takeLeast_25 : decode cX8_takeLeast 25 = .ok (.aload_n 0, 1) := by decide +kernel
theorem dX8_takeLeast_26 : decode cX8_takeLeast 26 = .ok (.iconst 0, 1) := by decide +kernel
theorem dX8_takeLeast_27 : decode cX8_takeLeast 27 = .ok (.invokevirtual 147, 3) := by decide +kernel
theorem dX8_takeLeast_30 : decode cX8_takeLeast 30 = .ok (.istore_n 1, 1) := by decide +kernel
theorem dX8_takeLeast_31 : decode cX8_takeLeast 31 = .ok (.aload_n 0, 1) := by decide +kernel
theorem dX8_takeLeast_32 : decode cX8_takeLeast 32 = .ok (.iload_n 1, 1) := by decide +kernel
theorem dX8_takeLeast_33 : decode cX8_takeLeast 33 = .ok (.bipush 7, 2) := by decide +kernel
theorem dX8_takeLeast_35 : decode cX8_takeLeast 35 = .ok (.invokevirtual 150, 3) := by decide +kernel
theorem dX8_takeLeast_38 : decode cX8_takeLeast 38 = .ok (.iload_n 1, 1) := by decide +kernel
theorem dX8_takeLeast_39 : decode cX8_takeLeast 39 = .ok (.ireturn, 1) := by decide +kernel
theorem dX8_takesGreatest_0 : decode cX8_takesGreatest 0 = .ok (.aload_n 0, 1) := by decide +kernel
theorem dX8_takesGreatest_1 : decode cX8_takesGreatest 1 = .ok (.iconst 0, 1) := by decide +kernel
theorem dX8_takesGreatest_2 : decode cX8_takesGreatest 2 = .ok (.invokevirtual 153, 3) := by decide +kernel
theorem dX8_takesGreatest_5 : decode cX8_takesGreatest 5 = .ok (.istore_n 2, 1) := by decide +kernel
theorem dX8_takesGreatest_6 : decode cX8_takesGreatest 6 = .ok (.aload_n 0, 1) := by decide +kernel
theorem dX8_takesGreatest_7 : decode cX8_takesGreatest 7 = .ok (.getfield 7, 3) := by decide +kernel
theorem dX8_takesGreatest_10 : decode cX8_takesGreatest 10 = .ok (.sipush 182, 3) := by decide +kernel
theorem dX8_takesGreatest_13 : decode cX8_takesGreatest 13 = .ok (.dup2, 1) := by decide +kernel
theorem dX8_takesGreatest_14 : decode cX8_takesGreatest 14 = .ok (.iaload, 1) := by decide +kernel
theorem dX8_takesGreatest_15 : decode cX8_takesGreatest 15 = .ok (.aload_n 0, 1) := by decide +kernel
theorem dX8_takesGreatest_16 : decode cX8_takesGreatest 16 = .ok (.invokevirtual 95, 3) := by decide +kernel
theorem dX8_takesGreatest_19 : decode cX8_takesGreatest 19 = .ok (.iconst 2, 1) := by decide +kernel
theorem dX8_takesGreatest_20 : decode cX8_takesGreatest 20 = .ok (.if_icmp .le 16, 3) := by decide +kernel
theorem dX8_takesGreatest_23 : decode cX8_takesGreatest 23 = .ok (.iload_n 1, 1) := by decide +kernel
theorem dX8_takesGreatest_24 : decode cX8_takesGreatest 24 = .ok (.iconst 2, 1) := by decide +kernel
theorem dX8_takesGreatest_25 : decode cX8_takesGreatest 25 = .ok (.idiv, 1) := by decide +kernel
theorem dX8_takesGreatest_26 : decode cX8_takesGreatest 26 = .ok (.iconst 2, 1) := by decide +kernel
theorem dX8_takesGreatest_27 : decode cX8_takesGreatest 27 = .ok (.irem, 1) := by decide +kernel
theorem dX8_takesGreatest_28 : decode cX8_takesGreatest 28 = .ok (.iconst 1, 1) := by decide +kernel
theorem dX8_takesGreatest_29 : decode cX8_takesGreatest 29 = .ok (.if_icmp .ne 7, 3) := by decide +kernel
theorem dX8_takesGreatest_32 : decode cX8_takesGreatest 32 = .ok (.iconst 1, 1) := by decide +kernel
theorem dX8_takesGreatest_33 : decode cX8_takesGreatest 33 = .ok (.goto 4, 3) := by decide +kernel
theorem dX8_takesGreatest_36 : decode cX8_takesGreatest 36 = .ok (.iconst 0, 1) := by decide +kernel
theorem dX8_takesGreatest_37 : decode cX8_takesGreatest 37 = .ok (.iadd, 1) := by decide +kernel
theorem dX8_takesGreatest_38 : decode cX8_takesGreatest 38 = .ok (.iastore, 1) := by decide +kernel
theorem dX8_takesGreatest_39 : decode cX8_takesGreatest 39 = .ok (.aload_n 0, 1) := by decide +kernel
theorem dX8_takesGreatest_40 : decode cX8_takesGreatest 40 = .ok (.iload_n 2, 1) := by decide +kernel
theorem dX8_takesGreatest_41 : decode cX8_takesGreatest 41 = .ok (.iload_n 1, 1) := by decide +kernel
theorem dX8_takesGreatest_42 : decode cX8_takesGreatest 42 = .ok (.invokevirtual 150, 3) := by decide +kernel
theorem dX8_takesGreatest_45 : decode cX8_takesGreatest 45 = .ok (.iload_n 2, 1) := by decide +kernel
theorem dX8_takesGreatest_46 : decode cX8_takesGreatest 46 = .ok (.ireturn, 1) := by decide +kernel
theorem dX8_takeGreatest_0 : decode cX8_takeGreatest 0 = .ok (.aload_n 0, 1) := by decide +kernel
theorem dX8_takeGreatest_1 : decode cX8_takeGreatest 1 = .ok (.aload_n 0, 1) := by decide +kernel
theorem dX8_takeGreatest_2 : decode cX8_takeGreatest 2 = .ok (.invokevirtual 95, 3) := by decide +kernel
theorem dX8_takeGreatest_5 : decode cX8_takeGreatest 5 = .ok (.ifCond .ne 7, 3) := by decide +kernel
theorem dX8_takeGreatest_8 : decode cX8_takeGreatest 8 = .ok (.iconst 1, 1) := by decide +kernel
theorem dX8_takeGreatest_9 : decode cX8_takeGreatest 9 = .ok (.goto 4, 3) := by decide +kernel
theorem dX8_takeGreatest_12 : decode cX8_takeGreatest 12 = .ok (.iconst 0, 1) := by decide +kernel
theorem dX8_takeGreatest_13 : decode cX8_takeGreatest 13 = .ok (.invokevirtual 29, 3) := by decide +kernel
theorem dX8_takeGreatest_16 : decode cX8_takeGreatest 16 = .ok (.ifCond .eq 5, 3) := by decide +kernel
theorem dX8_takeGreatest_19 : decode cX8_takeGreatest 19 = .ok (.iconst 0, 1) := by decide +kernel
theorem dX8_takeGreatest_20 : decode cX8_takeGreatest 20 = .ok (.ireturn, 1) := by decide +kernel
theorem dX8_takeGreatest_21 : decode cX8_takeGreatest 21 = .ok (.aload_n 0, 1) := by decide +kernel
theorem dX8_takeGreatest_22 : decode cX8_takeGreatest 22 = .ok (.invokevirtual 141, 3) := by decide +kernel
theorem dX8_takeGreatest_25 : decode cX8_takeGreatest 25 = .ok (.aload_n 0, 1) := by decide +kernel
theorem dX8_takeGreatest_26 : decode cX8_takeGreatest 26 = .ok (.bipush 7, 2) := by decide +kernel
theorem dX8_takeGreatest_28 : decode cX8_takeGreatest 28 = .ok (.invokevirtual 156, 3) := by decide +kernel
theorem dX8_takeGreatest_31 : decode cX8_takeGreatest 31 = .ok (.ireturn, 1) := by decide +kernel
theorem dX8_remove_0 : decode cX8_remove 0 = .ok (.aload_n 0, 1) := by decide +kernel
theorem dX8_remove_1 : decode cX8_remove 1 = .ok (.aload_n 0, 1) := by decide +kernel
theorem dX8_remove_2 : decode cX8_remove 2 = .ok (.iload_n 1, 1) := by decide +kernel
theorem dX8_remove_3 : decode cX8_remove 3 = .ok (.invokevirtual 49, 3) := by decide +kernel
theorem dX8_remove_6 : decode cX8_remove 6 = .ok (.ifCond .eq 7, 3) := by decide +kernel
theorem dX8_remove_9 : decode cX8_remove 9 = .ok (.iconst 0, 1) := by decide +kernel
theorem dX8_remove_10 : decode cX8_remove 10 = .ok (.goto 4, 3) := by decide +kernel
theorem dX8_remove_13 : decode cX8_remove 13 = .ok (.iconst 1, 1) := by decide +kernel
theorem dX8_remove_14 : decode cX8_remove 14 = .ok (.invokevirtual 29, 3) := by decide +kernel
theorem dX8_remove_17 : decode cX8_remove 17 = .ok (.ifCond .eq 5, 3) := by decide +kernel
theorem dX8_remove_20 : decode cX8_remove 20 = .ok (.iconst 0, 1) := by decide +kernel
theorem dX8_remove_21 : decode cX8_remove 21 = .ok (.ireturn, 1) := by decide +kernel
theorem dX8_remove_22 : decode cX8_remove 22 = .ok (.aload_n 0, 1) := by decide +kernel
theorem dX8_remove_23 : decode cX8_remove 23 = .ok (.getfield 7, 3) := by decide +kernel
theorem dX8_remove_26 : decode cX8_remove 26 = .ok (.iload_n 1, 1) := by decide +kernel
theorem dX8_remove_27 : decode cX8_remove 27 = .ok (.iaload, 1) := by decide +kernel
theorem dX8_remove_28 : decode cX8_remove 28 = .ok (.istore_n 2, 1) := by decide +kernel
theorem dX8_remove_29 : decode cX8_remove 29 = .ok (.aload_n 0, 1) := by decide +kernel
theorem dX8_remove_30 : decode cX8_remove 30 = .ok (.invokevirtual 141, 3) := by decide +kernel
theorem dX8_remove_33 : decode cX8_remove 33 = .ok (.aload_n 0, 1) := by decide +kernel
theorem dX8_remove_34 : decode cX8_remove 34 = .ok (.iload_n 1, 1) := by decide +kernel
theorem dX8_remove_35 : decode cX8_remove 35 = .ok (.bipush 7, 2) := by decide +kernel
theorem dX8_remove_37 : decode cX8_remove 37 = .ok (.invokevirtual 150, 3) := by decide +kernel
theorem dX8_remove_40 : decode cX8_remove 40 = .ok (.iload_n 2, 1) := by decide +kernel
theorem dX8_remove_41 : decode cX8_remove 41 = .ok (.ireturn, 1) := by decide +kernel
theorem dX8_changes_0 : decode cX8_changes 0 = .ok (.aload_n 0, 1) := by decide +kernel
theorem dX8_changes_1 : decode cX8_changes 1 = .ok (.getfield 7, 3) := by decide +kernel
theorem dX8_changes_4 : decode cX8_changes 4 = .ok (.iload_n 1, 1) := by decide +kernel
theorem dX8_changes_5 : decode cX8_changes 5 = .ok (.iload_n 2, 1) := by decide +kernel
theorem dX8_changes_6 : decode cX8_changes 6 = .ok (.iastore, 1) := by decide +kernel
theorem dX8_changes_7 : decode cX8_changes 7 = .ok (.iconst 0, 1) := by decide +kernel
theorem dX8_changes_8 : decode cX8_changes 8 = .ok (.istore_n 3, 1) := by decide +kernel
theorem dX8_changes_9 : decode cX8_changes 9 = .ok (.iload_n 3, 1) := by decide +kernel
theorem dX8_changes_10 : decode cX8_changes 10 = .ok (.iconst 4, 1) := by decide +kernel
theorem dX8_changes_11 : decode cX8_changes 11 = .ok (.if_icmp .ge 24, 3) := by decide +kernel
theorem dX8_changes_14 : decode cX8_changes 14 = .ok (.aload_n 0, 1) := by decide +kernel
theorem dX8_changes_15 : decode cX8_changes 15 = .ok (.iload_n 3, 1) := by decide +kernel
theorem dX8_changes_16 : decode cX8_changes 16 = .ok (.aload_n 0, 1) := by decide +kernel
theorem dX8_changes_17 : decode cX8_changes 17 = .ok (.iload_n 3, 1) := by decide +kernel
theorem dX8_changes_18 : decode cX8_changes 18 = .ok (.iload_n 1, 1) := by decide +kernel
theorem dX8_changes_19 : decode cX8_changes 19 = .ok (.invokevirtual 117, 3) := by decide +kernel
theorem dX8_changes_22 : decode cX8_changes 22 = .ok (.aload_n 0, 1) := by decide +kernel
theorem dX8_changes_23 : decode cX8_changes 23 = .ok (.invokevirtual 95, 3) := by decide +kernel
theorem dX8_changes_26 : decode cX8_changes 26 = .ok (.invokevirtual 124, 3) := by decide +kernel
theorem dX8_changes_29 : decode cX8_changes 29 = .ok (.iinc 3 1, 3) := by decide +kernel
theorem dX8_changes_32 : decode cX8_changes 32 = .ok (.goto (-23), 3) := by decide +kernel
theorem dX8_changes_35 : decode cX8_changes 35 = .ok (.return_, 1) := by decide +kernel
theorem dX8_change_0 : decode cX8_change 0 = .ok (.aload_n 0, 1) := by decide +kernel
theorem dX8_change_1 : decode cX8_change 1 = .ok (.aload_n 0, 1) := by decide +kernel
theorem dX8_change_2 : decode cX8_change 2 = .ok (.iload_n 1, 1) := by decide +kernel
theorem dX8_change_3 : decode cX8_change 3 = .ok (.invokevirtual 49, 3) := by decide +kernel
theorem dX8_change_6 : decode cX8_change 6 = .ok (.ifCond .ne 7, 3) := by decide +kernel
theorem dX8_change_9 : decode cX8_change 9 = .ok (.iconst 1, 1) := by decide +kernel
theorem dX8_change_10 : decode cX8_change 10 = .ok (.goto 15, 3) := by decide +kernel
theorem dX8_change_13 : decode cX8_change 13 = .ok (.iload_n 2, 1) := by decide +kernel
theorem dX8_change_14 : decode cX8_change 14 = .ok (.invokestatic 138, 3) := by decide +kernel
theorem dX8_change_17 : decode cX8_change 17 = .ok (.ifCond .ne 7, 3) := by decide +kernel
theorem dX8_change_20 : decode cX8_change 20 = .ok (.iconst 2, 1) := by decide +kernel
theorem dX8_change_21 : decode cX8_change 21 = .ok (.goto 4, 3) := by decide +kernel
theorem dX8_change_24 : decode cX8_change 24 = .ok (.iconst 0, 1) := by decide +kernel
theorem dX8_change_25 : decode cX8_change 25 = .ok (.invokevirtual 29, 3) := by decide +kernel
theorem dX8_change_28 : decode cX8_change 28 = .ok (.ifCond .eq 5, 3) := by decide +kernel
theorem dX8_change_31 : decode cX8_change 31 = .ok (.iconst 0, 1) := by decide +kernel
theorem dX8_change_32 : decode cX8_change 32 = .ok (.ireturn, 1) := by decide +kernel
theorem dX8_change_33 : decode cX8_change 33 = .ok (.aload_n 0, 1) := by decide +kernel
theorem dX8_change_34 : decode cX8_change 34 = .ok (.getfield 7, 3) := by decide +kernel
theorem dX8_change_37 : decode cX8_change 37 = .ok (.iload_n 1, 1) := by decide +kernel
theorem dX8_change_38 : decode cX8_change 38 = .ok (.iaload, 1) := by decide +kernel
theorem dX8_change_39 : decode cX8_change 39 = .ok (.istore_n 3, 1) := by decide +kernel
theorem dX8_change_40 : decode cX8_change 40 = .ok (.aload_n 0, 1) := by decide +kernel
theorem dX8_change_41 : decode cX8_change 41 = .ok (.invokevirtual 141, 3) := by decide +kernel
theorem dX8_change_44 : decode cX8_change 44 = .ok (.aload_n 0, 1) := by decide +kernel
theorem dX8_change_45 : decode cX8_change 45 = .ok (.iload_n 1, 1) := by decide +kernel
theorem dX8_change_46 : decode cX8_change 46 = .ok (.iload_n 2, 1) := by decide +kernel
theorem dX8_change_47 : decode cX8_change 47 = .ok (.invokevirtual 159, 3) := by decide +kernel
theorem dX8_change_50 : decode cX8_change 50 = .ok (.iload_n 3, 1) := by decide +kernel
theorem dX8_change_51 : decode cX8_change 51 = .ok (.ireturn, 1) := by decide +kernel
theorem dX8_build_0 : decode cX8_build 0 = .ok (.aload_n 0, 1) := by decide +kernel
theorem dX8_build_1 : decode cX8_build 1 = .ok (.iconst 0, 1) := by decide +kernel
theorem dX8_build_2 : decode cX8_build 2 = .ok (.putfield 22, 3) := by decide +kernel
theorem dX8_build_5 : decode cX8_build 5 = .ok (.aload_n 0, 1) := by decide +kernel
theorem dX8_build_6 : decode cX8_build 6 = .ok (.invokevirtual 162, 3) := by decide +kernel
theorem dX8_build_9 : decode cX8_build 9 = .ok (.istore_n 1, 1) := by decide +kernel
theorem dX8_build_10 : decode cX8_build 10 = .ok (.aload_n 0, 1) := by decide +kernel
theorem dX8_build_11 : decode cX8_build 11 = .ok (.invokevirtual 141, 3) := by decide +kernel
theorem dX8_build_14 : decode cX8_build 14 = .ok (.aload_n 0, 1) := by decide +kernel
theorem dX8_build_15 : decode cX8_build 15 = .ok (.bipush 7, 2) := by decide +kernel
theorem dX8_build_17 : decode cX8_build 17 = .ok (.invokevirtual 165, 3) := by decide +kernel
theorem dX8_build_20 : decode cX8_build 20 = .ok (.aload_n 0, 1) := by decide +kernel
theorem dX8_build_21 : decode cX8_build 21 = .ok (.invokevirtual 162, 3) := by decide +kernel
theorem dX8_build_24 : decode cX8_build 24 = .ok (.iload_n 1, 1) := by decide +kernel
theorem dX8_build_25 : decode cX8_build 25 = .ok (.isub, 1) := by decide +kernel
theorem dX8_build_26 : decode cX8_build 26 = .ok (.ireturn, 1) := by decide +kernel
theorem dX8_clear_0 : decode cX8_clear 0 = .ok (.aload_n 0, 1) := by decide +kernel
theorem dX8_clear_1 : decode cX8_clear 1 = .ok (.iconst 0, 1) := by decide +kernel
theorem dX8_clear_2 : decode cX8_clear 2 = .ok (.putfield 22, 3) := by decide +kernel
theorem dX8_clear_5 : decode cX8_clear 5 = .ok (.aload_n 0, 1) := by decide +kernel
theorem dX8_clear_6 : decode cX8_clear 6 = .ok (.invokevirtual 95, 3) := by decide +kernel
theorem dX8_clear_9 : decode cX8_clear 9 = .ok (.istore_n 1, 1) := by decide +kernel
theorem dX8_clear_10 : decode cX8_clear 10 = .ok (.aload_n 0, 1) := by decide +kernel
theorem dX8_clear_11 : decode cX8_clear 11 = .ok (.invokevirtual 141, 3) := by decide +kernel
theorem dX8_clear_14 : decode cX8_clear 14 = .ok (.iconst 0, 1) := by decide +kernel
theorem dX8_clear_15 : decode cX8_clear 15 = .ok (.istore_n 2, 1) := by decide +kernel
theorem dX8_clear_16 : decode cX8_clear 16 = .ok (.iload_n 2, 1) := by decide +kernel
theorem dX8_clear_17 : decode cX8_clear 17 = .ok (.sipush 180, 3) := by decide +kernel
theorem dX8_clear_20 : decode cX8_clear 20 = .ok (.if_icmp .gt 16, 3) := by decide +kernel
theorem dX8_clear_23 : decode cX8_clear 23 = .ok (.aload_n 0, 1) := by decide +kernel
theorem dX8_clear_24 : decode cX8_clear 24 = .ok (.getfield 7, 3) := by decide +kernel
theorem dX8_clear_27 : decode cX8_clear 27 = .ok (.iload_n 2, 1) := by decide +kernel
theorem dX8_clear_28 : decode cX8_clear 28 = .ok (.iconst 0, 1) := by decide +kernel
theorem dX8_clear_29 : decode cX8_clear 29 = .ok (.iastore, 1) := by decide +kernel
theorem dX8_clear_30 : decode cX8_clear 30 = .ok (.iinc 2 1, 3) := by decide +kernel
theorem dX8_clear_33 : decode cX8_clear 33 = .ok (.goto (-17), 3) := by decide +kernel
theorem dX8_clear_36 : decode cX8_clear 36 = .ok (.iload_n 1, 1) := by decide +kernel
theorem dX8_clear_37 : decode cX8_clear 37 = .ok (.ireturn, 1) := by decide +kernel
theorem dX8_size_0 : decode cX8_size 0 = .ok (.aload_n 0, 1) := by decide +kernel
theorem dX8_size_1 : decode cX8_size 1 = .ok (.iconst 0, 1) := by decide +kernel
theorem dX8_size_2 : decode cX8_size 2 = .ok (.putfield 22, 3) := by decide +kernel
theorem dX8_size_5 : decode cX8_size 5 = .ok (.aload_n 0, 1) := by decide +kernel
theorem dX8_size_6 : decode cX8_size 6 = .ok (.invokevirtual 95, 3) := by decide +kernel
theorem dX8_size_9 : decode cX8_size 9 = .ok (.ireturn, 1) := by decide +kernel
theorem dX8_handleSet_0 : decode cX8_handleSet 0 = .ok (.iconst 0, 1) := by decide +kernel
theorem dX8_handleSet_1 : decode cX8_handleSet 1 = .ok (.istore_n 1, 1) := by decide +kernel
theorem dX8_handleSet_2 : decode cX8_handleSet 2 = .ok (.iconst 0, 1) := by decide +kernel
theorem dX8_handleSet_3 : decode cX8_handleSet 3 = .ok (.istore_n 2, 1) := by decide +kernel
theorem dX8_handleSet_4 : decode cX8_handleSet 4 = .ok (.iload_n 2, 1) := by decide +kernel
theorem dX8_handleSet_5 : decode cX8_handleSet 5 = .ok (.bipush 30, 2) := by decide +kernel
theorem dX8_handleSet_7 : decode cX8_handleSet 7 = .ok (.if_icmp .ge 23, 3) := by decide +kernel
theorem dX8_handleSet_10 : decode cX8_handleSet 10 = .ok (.iload_n 1, 1) := by decide +kernel
theorem dX8_handleSet_11 : decode cX8_handleSet 11 = .ok (.aload_n 0, 1) := by decide +kernel
theorem dX8_handleSet_12 : decode cX8_handleSet 12 = .ok (.getfield 7, 3) := by decide +kernel
theorem dX8_handleSet_15 : decode cX8_handleSet 15 = .ok (.bipush 30, 2) := by decide +kernel
theorem dX8_handleSet_17 : decode cX8_handleSet 17 = .ok (.iload_n 2, 1) := by decide +kernel
theorem dX8_handleSet_18 : decode cX8_handleSet 18 = .ok (.iadd, 1) := by decide +kernel
theorem dX8_handleSet_19 : decode cX8_handleSet 19 = .ok (.iaload, 1) := by decide +kernel
theorem dX8_handleSet_20 : decode cX8_handleSet 20 = .ok (.iload_n 2, 1) := by decide +kernel
theorem dX8_handleSet_21 : decode cX8_handleSet 21 = .ok (.ishl, 1) := by decide +kernel
theorem dX8_handleSet_22 : decode cX8_handleSet 22 = .ok (.ior, 1) := by decide +kernel
theorem dX8_handleSet_23 : decode cX8_handleSet 23 = .ok (.istore_n 1, 1) := by decide +kernel
theorem dX8_handleSet_24 : decode cX8_handleSet 24 = .ok (.iinc 2 1, 3) := by decide +kernel
theorem dX8_handleSet_27 : decode cX8_handleSet 27 = .ok (.goto (-23), 3) := by decide +kernel
theorem dX8_handleSet_30 : decode cX8_handleSet 30 = .ok (.iload_n 1, 1) := by decide +kernel
theorem dX8_handleSet_31 : decode cX8_handleSet 31 = .ok (.ireturn, 1) := by decide +kernel
theorem dX8_handles_0 : decode cX8_handles 0 = .ok (.aload_n 0, 1) := by decide +kernel
theorem dX8_handles_1 : decode cX8_handles 1 = .ok (.iconst 0, 1) := by decide +kernel
theorem dX8_handles_2 : decode cX8_handles 2 = .ok (.putfield 22, 3) := by decide +kernel
theorem dX8_handles_5 : decode cX8_handles 5 = .ok (.aload_n 0, 1) := by decide +kernel
theorem dX8_handles_6 : decode cX8_handles 6 = .ok (.invokevirtual 168, 3) := by decide +kernel
theorem dX8_handles_9 : decode cX8_handles 9 = .ok (.ireturn, 1) := by decide +kernel
theorem dX8_key_0 : decode cX8_key 0 = .ok (.aload_n 0, 1) := by decide +kernel
theorem dX8_key_1 : decode cX8_key 1 = .ok (.aload_n 0, 1) := by decide +kernel
theorem dX8_key_2 : decode cX8_key 2 = .ok (.iload_n 1, 1) := by decide +kernel
theorem dX8_key_3 : decode cX8_key 3 = .ok (.invokevirtual 49, 3) := by decide +kernel
theorem dX8_key_6 : decode cX8_key 6 = .ok (.ifCond .eq 7, 3) := by decide +kernel
theorem dX8_key_9 : decode cX8_key 9 = .ok (.iconst 0, 1) := by decide +kernel
theorem dX8_key_10 : decode cX8_key 10 = .ok (.goto 4, 3) := by decide +kernel
theorem dX8_key_13 : decode cX8_key 13 = .ok (.iconst 1, 1) := by decide +kernel
theorem dX8_key_14 : decode cX8_key 14 = .ok (.invokevirtual 29, 3) := by decide +kernel
theorem dX8_key_17 : decode cX8_key 17 = .ok (.ifCond .eq 7, 3) := by decide +kernel
theorem dX8_key_20 : decode cX8_key 20 = .ok (.iconst 0, 1) := by decide +kernel
theorem dX8_key_21 : decode cX8_key 21 = .ok (.goto 9, 3) := by decide +kernel
theorem dX8_key_24 : decode cX8_key 24 = .ok (.aload_n 0, 1) := by decide +kernel
theorem dX8_key_25 : decode cX8_key 25 = .ok (.getfield 7, 3) := by decide +kernel
theorem dX8_key_28 : decode cX8_key 28 = .ok (.iload_n 1, 1) := by decide +kernel
theorem dX8_key_29 : decode cX8_key 29 = .ok (.iaload, 1) := by decide +kernel
theorem dX8_key_30 : decode cX8_key 30 = .ok (.ireturn, 1) := by decide +kernel
theorem dX8_fill_0 : decode cX8_fill 0 = .ok (.aload_n 0, 1) := by decide +kernel
theorem dX8_fill_1 : decode cX8_fill 1 = .ok (.iload_n 1, 1) := by decide +kernel
theorem dX8_fill_2 : decode cX8_fill 2 = .ok (.iconst 1, 1) := by decide +kernel
theorem dX8_fill_3 : decode cX8_fill 3 = .ok (.bipush 30, 2) := by decide +kernel
theorem dX8_fill_5 : decode cX8_fill 5 = .ok (.invokestatic 33, 3) := by decide +kernel
theorem dX8_fill_8 : decode cX8_fill 8 = .ok (.ifCond .eq 7, 3) := by decide +kernel
theorem dX8_fill_11 : decode cX8_fill 11 = .ok (.iload_n 2, 1) := by decide +kernel
theorem dX8_fill_12 : decode cX8_fill 12 = .ok (.ifCond .ge 7, 3) := by decide +kernel
theorem dX8_fill_15 : decode cX8_fill 15 = .ok (.iconst 1, 1) := by decide +kernel
theorem dX8_fill_16 : decode cX8_fill 16 = .ok (.goto 19, 3) := by decide +kernel
theorem dX8_fill_19 : decode cX8_fill 19 = .ok (.aload_n 0, 1) := by decide +kernel
theorem dX8_fill_20 : decode cX8_fill 20 = .ok (.invokevirtual 95, 3) := by decide +kernel
theorem dX8_fill_23 : decode cX8_fill 23 = .ok (.iload_n 1, 1) := by decide +kernel
theorem dX8_fill_24 : decode cX8_fill 24 = .ok (.iadd, 1) := by decide +kernel
theorem dX8_fill_25 : decode cX8_fill 25 = .ok (.bipush 30, 2) := by decide +kernel
theorem dX8_fill_27 : decode cX8_fill 27 = .ok (.if_icmp .le 7, 3) := by decide +kernel
theorem dX8_fill_30 : decode cX8_fill 30 = .ok (.iconst 2, 1) := by decide +kernel
theorem dX8_fill_31 : decode cX8_fill 31 = .ok (.goto 4, 3) := by decide +kernel
theorem dX8_fill_34 : decode cX8_fill 34 = .ok (.iconst 0, 1) := by decide +kernel
theorem dX8_fill_35 : decode cX8_fill 35 = .ok (.invokevirtual 29, 3) := by decide +kernel
theorem dX8_fill_38 : decode cX8_fill 38 = .ok (.ifCond .eq 5, 3) := by decide +kernel
theorem dX8_fill_41 : decode cX8_fill 41 = .ok (.iconst 0, 1) := by decide +kernel
theorem dX8_fill_42 : decode cX8_fill 42 = .ok (.ireturn, 1) := by decide +kernel
theorem dX8_fill_43 : decode cX8_fill 43 = .ok (.aload_n 0, 1) := by decide +kernel
theorem dX8_fill_44 : decode cX8_fill 44 = .ok (.invokevirtual 141, 3) := by decide +kernel
theorem dX8_fill_47 : decode cX8_fill 47 = .ok (.iload_n 2, 1) := by decide +kernel
theorem dX8_fill_48 : decode cX8_fill 48 = .ok (.i2l, 1) := by decide +kernel
theorem dX8_fill_49 : decode cX8_fill 49 = .ok (.lstore_n 3, 1) := by decide +kernel
theorem dX8_fill_50 : decode cX8_fill 50 = .ok (.iconst 0, 1) := by decide +kernel
theorem dX8_fill_51 : decode cX8_fill 51 = .ok (.istore 5, 2) := by decide +kernel
theorem dX8_fill_53 : decode cX8_fill 53 = .ok (.iload 5, 2) := by decide +kernel
theorem dX8_fill_55 : decode cX8_fill 55 = .ok (.iload_n 1, 1) := by decide +kernel
theorem dX8_fill_56 : decode cX8_fill 56 = .ok (.if_icmp .ge 44, 3) := by decide +kernel
theorem dX8_fill_59 : decode cX8_fill 59 = .ok (.ldc2_w 171, 3) := by decide +kernel
theorem dX8_fill_62 : decode cX8_fill 62 = .ok (.lload_n 3, 1) := by decide +kernel
theorem dX8_fill_63 : decode cX8_fill 63 = .ok (.lmul, 1) := by decide +kernel
theorem dX8_fill_64 : decode cX8_fill 64 = .ok (.ldc2_w 173, 3) := by decide +kernel
theorem dX8_fill_67 : decode cX8_fill 67 = .ok (.ladd, 1) := by decide +kernel
theorem dX8_fill_68 : decode cX8_fill 68 = .ok (.ldc2_w 175, 3) := by decide +kernel
theorem dX8_fill_71 : decode cX8_fill 71 = .ok (.lrem, 1) := by decide +kernel
theorem dX8_fill_72 : decode cX8_fill 72 = .ok (.lstore_n 3, 1) := by decide +kernel
theorem dX8_fill_73 : decode cX8_fill 73 = .ok (.aload_n 0, 1) := by decide +kernel
theorem dX8_fill_74 : decode cX8_fill 74 = .ok (.lload_n 3, 1) := by decide +kernel
theorem dX8_fill_75 : decode cX8_fill 75 = .ok (.ldc2_w 177, 3) := by decide +kernel
theorem dX8_fill_78 : decode cX8_fill 78 = .ok (.ldiv, 1) := by decide +kernel
theorem dX8_fill_79 : decode cX8_fill 79 = .ok (.ldc2_w 179, 3) := by decide +kernel
theorem dX8_fill_82 : decode cX8_fill 82 = .ok (.lrem, 1) := by decide +kernel
theorem dX8_fill_83 : decode cX8_fill 83 = .ok (.l2i, 1) := by decide +kernel
theorem dX8_fill_84 : decode cX8_fill 84 = .ok (.bipush 100, 2) := by decide +kernel
theorem dX8_fill_86 : decode cX8_fill 86 = .ok (.isub, 1) := by decide +kernel
theorem dX8_fill_87 : decode cX8_fill 87 = .ok (.bipush 7, 2) := by decide +kernel
theorem dX8_fill_89 : decode cX8_fill 89 = .ok (.invokevirtual 144, 3) := by decide +kernel
theorem dX8_fill_92 : decode cX8_fill 92 = .ok (.istore 6, 2) := by decide +kernel
theorem dX8_fill_94 : decode cX8_fill 94 = .ok (.iinc 5 1, 3) := by decide +kernel
theorem dX8_fill_97 : decode cX8_fill 97 = .ok (.goto (-44), 3) := by decide +kernel
theorem dX8_fill_100 : decode cX8_fill 100 = .ok (.aload_n 0, 1) := by decide +kernel
theorem dX8_fill_101 : decode cX8_fill 101 = .ok (.invokevirtual 95, 3) := by decide +kernel
theorem dX8_fill_104 : decode cX8_fill 104 = .ok (.ireturn, 1) := by decide +kernel
theorem dX8_least_0 : decode cX8_least 0 = .ok (.aload_n 0, 1) := by decide +kernel
theorem dX8_least_1 : decode cX8_least 1 = .ok (.iload_n 1, 1) := by decide +kernel
theorem dX8_least_2 : decode cX8_least 2 = .ok (.iconst 0, 1) := by decide +kernel
theorem dX8_least_3 : decode cX8_least 3 = .ok (.iconst 2, 1) := by decide +kernel
theorem dX8_least_4 : decode cX8_least 4 = .ok (.invokestatic 33, 3) := by decide +kernel
theorem dX8_least_7 : decode cX8_least 7 = .ok (.ifCond .eq 7, 3) := by decide +kernel
theorem dX8_least_10 : decode cX8_least 10 = .ok (.iconst 0, 1) := by decide +kernel
theorem dX8_least_11 : decode cX8_least 11 = .ok (.goto 4, 3) := by decide +kernel
theorem dX8_least_14 : decode cX8_least 14 = .ok (.iconst 1, 1) := by decide +kernel
theorem dX8_least_15 : decode cX8_least 15 = .ok (.invokevirtual 29, 3) := by decide +kernel
theorem dX8_least_18 : decode cX8_least 18 = .ok (.ifCond .eq 7, 3) := by decide +kernel
theorem dX8_least_21 : decode cX8_least 21 = .ok (.iconst 0, 1) := by decide +kernel
theorem dX8_least_22 : decode cX8_least 22 = .ok (.goto 8, 3) := by decide +kernel
theorem dX8_least_25 : decode cX8_least 25 = .ok (.aload_n 0, 1) := by decide +kernel
theorem dX8_least_26 : decode cX8_least 26 = .ok (.iload_n 1, 1) := by decide +kernel
theorem dX8_least_27 : decode cX8_least 27 = .ok (.invokevirtual 147, 3) := by decide +kernel
theorem dX8_least_30 : decode cX8_least 30 = .ok (.ireturn, 1) := by decide +kernel
theorem dX8_greatest_0 : decode cX8_greatest 0 = .ok (.aload_n 0, 1) := by decide +kernel
theorem dX8_greatest_1 : decode cX8_greatest 1 = .ok (.iload_n 1, 1) := by decide +kernel
theorem dX8_greatest_2 : decode cX8_greatest 2 = .ok (.iconst 0, 1) := by decide +kernel
theorem dX8_greatest_3 : decode cX8_greatest 3 = .ok (.iconst 2, 1) := by decide +kernel
theorem dX8_greatest_4 : decode cX8_greatest 4 = .ok (.invokestatic 33, 3) := by decide +kernel
theorem dX8_greatest_7 : decode cX8_greatest 7 = .ok (.ifCond .eq 7, 3) := by decide +kernel
theorem dX8_greatest_10 : decode cX8_greatest 10 = .ok (.iconst 0, 1) := by decide +kernel
theorem dX8_greatest_11 : decode cX8_greatest 11 = .ok (.goto 4, 3) := by decide +kernel
theorem dX8_greatest_14 : decode cX8_greatest 14 = .ok (.iconst 1, 1) := by decide +kernel
theorem dX8_greatest_15 : decode cX8_greatest 15 = .ok (.invokevirtual 29, 3) := by decide +kernel
theorem dX8_greatest_18 : decode cX8_greatest 18 = .ok (.ifCond .eq 7, 3) := by decide +kernel
theorem dX8_greatest_21 : decode cX8_greatest 21 = .ok (.iconst 0, 1) := by decide +kernel
theorem dX8_greatest_22 : decode cX8_greatest 22 = .ok (.goto 8, 3) := by decide +kernel
theorem dX8_greatest_25 : decode cX8_greatest 25 = .ok (.aload_n 0, 1) := by decide +kernel
theorem dX8_greatest_26 : decode cX8_greatest 26 = .ok (.iload_n 1, 1) := by decide +kernel
theorem dX8_greatest_27 : decode cX8_greatest 27 = .ok (.invokevirtual 153, 3) := by decide +kernel
theorem dX8_greatest_30 : decode cX8_greatest 30 = .ok (.ireturn, 1) := by decide +kernel
theorem dX8_rankOf_0 : decode cX8_rankOf 0 = .ok (.iconst 0, 1) := by decide +kernel
theorem dX8_rankOf_1 : decode cX8_rankOf 1 = .ok (.istore_n 2, 1) := by decide +kernel
theorem dX8_rankOf_2 : decode cX8_rankOf 2 = .ok (.iconst 0, 1) := by decide +kernel
theorem dX8_rankOf_3 : decode cX8_rankOf 3 = .ok (.istore_n 3, 1) := by decide +kernel
theorem dX8_rankOf_4 : decode cX8_rankOf 4 = .ok (.iload_n 3, 1) := by decide +kernel
theorem dX8_rankOf_5 : decode cX8_rankOf 5 = .ok (.bipush 30, 2) := by decide +kernel
theorem dX8_rankOf_7 : decode cX8_rankOf 7 = .ok (.if_icmp .ge 34, 3) := by decide +kernel
theorem dX8_rankOf_10 : decode cX8_rankOf 10 = .ok (.iload_n 2, 1) := by decide +kernel
theorem dX8_rankOf_11 : decode cX8_rankOf 11 = .ok (.aload_n 0, 1) := by decide +kernel
theorem dX8_rankOf_12 : decode cX8_rankOf 12 = .ok (.iload_n 3, 1) := by decide +kernel
theorem dX8_rankOf_13 : decode cX8_rankOf 13 = .ok (.invokevirtual 49, 3) := by decide +kernel
theorem dX8_rankOf_16 : decode cX8_rankOf 16 = .ok (.ifCond .eq 16, 3) := by decide +kernel
theorem dX8_rankOf_19 : decode cX8_rankOf 19 = .ok (.aload_n 0, 1) := by decide +kernel
theorem dX8_rankOf_20 : decode cX8_rankOf 20 = .ok (.iload_n 3, 1) := by decide +kernel
theorem dX8_rankOf_21 : decode cX8_rankOf 21 = .ok (.iload_n 1, 1) := by decide +kernel
theorem dX8_rankOf_22 : decode cX8_rankOf 22 = .ok (.invokevirtual 41, 3) := by decide +kernel
theorem dX8_rankOf_25 : decode cX8_rankOf 25 = .ok (.ifCond .eq 7, 3) := by decide +kernel
theorem dX8_rankOf_28 : decode cX8_rankOf 28 = .ok (.iconst 1, 1) := by decide +kernel
theorem dX8_rankOf_29 : decode cX8_rankOf 29 = .ok (.goto 4, 3) := by decide +kernel
theorem dX8_rankOf_32 : decode cX8_rankOf 32 = .ok (.iconst 0, 1) := by decide +kernel
theorem dX8_rankOf_33 : decode cX8_rankOf 33 = .ok (.iadd, 1) := by decide +kernel
theorem dX8_rankOf_34 : decode cX8_rankOf 34 = .ok (.istore_n 2, 1) := by decide +kernel
theorem dX8_rankOf_35 : decode cX8_rankOf 35 = .ok (.iinc 3 1, 3) := by decide +kernel
theorem dX8_rankOf_38 : decode cX8_rankOf 38 = .ok (.goto (-34), 3) := by decide +kernel
theorem dX8_rankOf_41 : decode cX8_rankOf 41 = .ok (.iload_n 2, 1) := by decide +kernel
theorem dX8_rankOf_42 : decode cX8_rankOf 42 = .ok (.ireturn, 1) := by decide +kernel
theorem dX8_ranked_0 : decode cX8_ranked 0 = .ok (.aload_n 0, 1) := by decide +kernel
theorem dX8_ranked_1 : decode cX8_ranked 1 = .ok (.iconst 0, 1) := by decide +kernel
theorem dX8_ranked_2 : decode cX8_ranked 2 = .ok (.putfield 22, 3) := by decide +kernel
theorem dX8_ranked_5 : decode cX8_ranked 5 = .ok (.iconst 0, 1) := by decide +kernel
theorem dX8_ranked_6 : decode cX8_ranked 6 = .ok (.istore_n 2, 1) := by decide +kernel
theorem dX8_ranked_7 : decode cX8_ranked 7 = .ok (.iload_n 2, 1) := by decide +kernel
theorem dX8_ranked_8 : decode cX8_ranked 8 = .ok (.bipush 30, 2) := by decide +kernel
theorem dX8_ranked_10 : decode cX8_ranked 10 = .ok (.if_icmp .ge 28, 3) := by decide +kernel
theorem dX8_ranked_13 : decode cX8_ranked 13 = .ok (.aload_n 0, 1) := by decide +kernel
theorem dX8_ranked_14 : decode cX8_ranked 14 = .ok (.iload_n 2, 1) := by decide +kernel
theorem dX8_ranked_15 : decode cX8_ranked 15 = .ok (.invokevirtual 49, 3) := by decide +kernel
theorem dX8_ranked_18 : decode cX8_ranked 18 = .ok (.ifCond .eq 14, 3) := by decide +kernel
theorem dX8_ranked_21 : decode cX8_ranked 21 = .ok (.aload_n 0, 1) := by decide +kernel
theorem dX8_ranked_22 : decode cX8_ranked 22 = .ok (.iload_n 2, 1) := by decide +kernel
theorem dX8_ranked_23 : decode cX8_ranked 23 = .ok (.invokevirtual 181, 3) := by decide +kernel
theorem dX8_ranked_26 : decode cX8_ranked 26 = .ok (.iload_n 1, 1) := by decide +kernel
theorem dX8_ranked_27 : decode cX8_ranked 27 = .ok (.if_icmp .ne 5, 3) := by decide +kernel
theorem dX8_ranked_30 : decode cX8_ranked 30 = .ok (.iload_n 2, 1) := by decide +kernel
theorem dX8_ranked_31 : decode cX8_ranked 31 = .ok (.ireturn, 1) := by decide +kernel
theorem dX8_ranked_32 : decode cX8_ranked 32 = .ok (.iinc 2 1, 3) := by decide +kernel
theorem dX8_ranked_35 : decode cX8_ranked 35 = .ok (.goto (-28), 3) := by decide +kernel
theorem dX8_ranked_38 : decode cX8_ranked 38 = .ok (.iconst (-1), 1) := by decide +kernel
theorem dX8_ranked_39 : decode cX8_ranked 39 = .ok (.ireturn, 1) := by decide +kernel
theorem dX8_rank_0 : decode cX8_rank 0 = .ok (.aload_n 0, 1) := by decide +kernel
theorem dX8_rank_1 : decode cX8_rank 1 = .ok (.aload_n 0, 1) := by decide +kernel
theorem dX8_rank_2 : decode cX8_rank 2 = .ok (.iload_n 1, 1) := by decide +kernel
theorem dX8_rank_3 : decode cX8_rank 3 = .ok (.invokevirtual 49, 3) := by decide +kernel
theorem dX8_rank_6 : decode cX8_rank 6 = .ok (.ifCond .eq 7, 3) := by decide +kernel
theorem dX8_rank_9 : decode cX8_rank 9 = .ok (.iconst 0, 1) := by decide +kernel
theorem dX8_rank_10 : decode cX8_rank 10 = .ok (.goto 4, 3) := by decide +kernel
theorem dX8_rank_13 : decode cX8_rank 13 = .ok (.iconst 1, 1) := by decide +kernel
theorem dX8_rank_14 : decode cX8_rank 14 = .ok (.invokevirtual 29, 3) := by decide +kernel
theorem dX8_rank_17 : decode cX8_rank 17 = .ok (.ifCond .eq 7, 3) := by decide +kernel
theorem dX8_rank_20 : decode cX8_rank 20 = .ok (.iconst 0, 1) := by decide +kernel
theorem dX8_rank_21 : decode cX8_rank 21 = .ok (.goto 8, 3) := by decide +kernel
theorem dX8_rank_24 : decode cX8_rank 24 = .ok (.aload_n 0, 1) := by decide +kernel
theorem dX8_rank_25 : decode cX8_rank 25 = .ok (.iload_n 1, 1) := by decide +kernel
theorem dX8_rank_26 : decode cX8_rank 26 = .ok (.invokevirtual 181, 3) := by decide +kernel
theorem dX8_rank_29 : decode cX8_rank 29 = .ok (.ireturn, 1) := by decide +kernel
theorem dX8_between_0 : decode cX8_between 0 = .ok (.aload_n 0, 1) := by decide +kernel
theorem dX8_between_1 : decode cX8_between 1 = .ok (.iconst 0, 1) := by decide +kernel
theorem dX8_between_2 : decode cX8_between 2 = .ok (.putfield 22, 3) := by decide +kernel
theorem dX8_between_5 : decode cX8_between 5 = .ok (.iconst 0, 1) := by decide +kernel
theorem dX8_between_6 : decode cX8_between 6 = .ok (.istore_n 3, 1) := by decide +kernel
theorem dX8_between_7 : decode cX8_between 7 = .ok (.iconst 0, 1) := by decide +kernel
theorem dX8_between_8 : decode cX8_between 8 = .ok (.istore 4, 2) := by decide +kernel
theorem dX8_between_10 : decode cX8_between 10 = .ok (.iload 4, 2) := by decide +kernel
theorem dX8_between_12 : decode cX8_between 12 = .ok (.bipush 30, 2) := by decide +kernel
theorem dX8_between_14 : decode cX8_between 14 = .ok (.if_icmp .ge 41, 3) := by decide +kernel
theorem dX8_between_17 : decode cX8_between 17 = .ok (.iload_n 3, 1) := by decide +kernel
theorem dX8_between_18 : decode cX8_between 18 = .ok (.aload_n 0, 1) := by decide +kernel
theorem dX8_between_19 : decode cX8_between 19 = .ok (.iload 4, 2) := by decide +kernel
theorem dX8_between_21 : decode cX8_between 21 = .ok (.invokevirtual 49, 3) := by decide +kernel
theorem dX8_between_24 : decode cX8_between 24 = .ok (.ifCond .eq 22, 3) := by decide +kernel
theorem dX8_between_27 : decode cX8_between 27 = .ok (.aload_n 0, 1) := by decide +kernel
theorem dX8_between_28 : decode cX8_between 28 = .ok (.getfield 7, 3) := by decide +kernel
theorem dX8_between_31 : decode cX8_between 31 = .ok (.iload 4, 2) := by decide +kernel
theorem dX8_between_33 : decode cX8_between 33 = .ok (.iaload, 1) := by decide +kernel
theorem dX8_between_34 : decode cX8_between 34 = .ok (.iload_n 1, 1) := by decide +kernel
theorem dX8_between_35 : decode cX8_between 35 = .ok (.iload_n 2, 1) := by decide +kernel
theorem dX8_between_36 : decode cX8_between 36 = .ok (.invokestatic 33, 3) := by decide +kernel
theorem dX8_between_39 : decode cX8_between 39 = .ok (.ifCond .eq 7, 3) := by decide +kernel
theorem dX8_between_42 : decode cX8_between 42 = .ok (.iconst 1, 1) := by decide +kernel
theorem dX8_between_43 : decode cX8_between 43 = .ok (.goto 4, 3) := by decide +kernel
theorem dX8_between_46 : decode cX8_between 46 = .ok (.iconst 0, 1) := by decide +kernel
theorem dX8_between_47 : decode cX8_between 47 = .ok (.iadd, 1) := by decide +kernel
theorem dX8_between_48 : decode cX8_between 48 = .ok (.istore_n 3, 1) := by decide +kernel
theorem dX8_between_49 : decode cX8_between 49 = .ok (.iinc 4 1, 3) := by decide +kernel
theorem dX8_between_52 : decode cX8_between 52 = .ok (.goto (-42), 3) := by decide +kernel
theorem dX8_between_55 : decode cX8_between 55 = .ok (.iload_n 3, 1) := by decide +kernel
theorem dX8_between_56 : decode cX8_between 56 = .ok (.ireturn, 1) := by decide +kernel
theorem dX8_at_0 : decode cX8_at 0 = .ok (.aload_n 0, 1) := by decide +kernel
theorem dX8_at_1 : decode cX8_at 1 = .ok (.iload_n 1, 1) := by decide +kernel
theorem dX8_at_2 : decode cX8_at 2 = .ok (.invokestatic 184, 3) := by decide +kernel
theorem dX8_at_5 : decode cX8_at 5 = .ok (.ifCond .eq 7, 3) := by decide +kernel
theorem dX8_at_8 : decode cX8_at 8 = .ok (.iconst 0, 1) := by decide +kernel
theorem dX8_at_9 : decode cX8_at 9 = .ok (.goto 4, 3) := by decide +kernel
theorem dX8_at_12 : decode cX8_at 12 = .ok (.iconst 1, 1) := by decide +kernel
theorem dX8_at_13 : decode cX8_at 13 = .ok (.invokevirtual 29, 3) := by decide +kernel
theorem dX8_at_16 : decode cX8_at 16 = .ok (.ifCond .eq 5, 3) := by decide +kernel
theorem dX8_at_19 : decode cX8_at 19 = .ok (.iconst 0, 1) := by decide +kernel
theorem dX8_at_20 : decode cX8_at 20 = .ok (.ireturn, 1) := by decide +kernel
theorem dX8_at_21 : decode cX8_at 21 = .ok (.iload_n 2, 1) := by decide +kernel
theorem dX8_at_22 : decode cX8_at 22 = .ok (.iconst 0, 1) := by decide +kernel
theorem dX8_at_23 : decode cX8_at 23 = .ok (.aload_n 0, 1) := by decide +kernel
theorem dX8_at_24 : decode cX8_at 24 = .ok (.invokevirtual 95, 3) := by decide +kernel
theorem dX8_at_27 : decode cX8_at 27 = .ok (.iconst 1, 1) := by decide +kernel
theorem dX8_at_28 : decode cX8_at 28 = .ok (.isub, 1) := by decide +kernel
theorem dX8_at_29 : decode cX8_at 29 = .ok (.invokestatic 33, 3) := by decide +kernel
theorem dX8_at_32 : decode cX8_at 32 = .ok (.ifCond .eq 12, 3) := by decide +kernel
theorem dX8_at_35 : decode cX8_at 35 = .ok (.aload_n 0, 1) := by decide +kernel
theorem dX8_at_36 : decode cX8_at 36 = .ok (.iload_n 1, 1) := by decide +kernel
theorem dX8_at_37 : decode cX8_at 37 = .ok (.iload_n 2, 1) := by decide +kernel
theorem dX8_at_38 : decode cX8_at 38 = .ok (.invokevirtual 37, 3) := by decide +kernel
theorem dX8_at_41 : decode cX8_at 41 = .ok (.goto 4, 3) := by decide +kernel
theorem dX8_at_44 : decode cX8_at 44 = .ok (.iconst (-1), 1) := by decide +kernel
theorem dX8_at_45 : decode cX8_at 45 = .ok (.ireturn, 1) := by decide +kernel
theorem dX8_where_0 : decode cX8_where 0 = .ok (.aload_n 0, 1) := by decide +kernel
theorem dX8_where_1 : decode cX8_where 1 = .ok (.iload_n 1, 1) := by decide +kernel
theorem dX8_where_2 : decode cX8_where 2 = .ok (.invokestatic 184, 3) := by decide +kernel
theorem dX8_where_5 : decode cX8_where 5 = .ok (.ifCond .ne 7, 3) := by decide +kernel
theorem dX8_where_8 : decode cX8_where 8 = .ok (.iconst 1, 1) := by decide +kernel
theorem dX8_where_9 : decode cX8_where 9 = .ok (.goto 16, 3) := by decide +kernel
theorem dX8_where_12 : decode cX8_where 12 = .ok (.aload_n 0, 1) := by decide +kernel
theorem dX8_where_13 : decode cX8_where 13 = .ok (.iload_n 2, 1) := by decide +kernel
theorem dX8_where_14 : decode cX8_where 14 = .ok (.invokevirtual 49, 3) := by decide +kernel
theorem dX8_where_17 : decode cX8_where 17 = .ok (.ifCond .ne 7, 3) := by decide +kernel
theorem dX8_where_20 : decode cX8_where 20 = .ok (.iconst 2, 1) := by decide +kernel
theorem dX8_where_21 : decode cX8_where 21 = .ok (.goto 4, 3) := by decide +kernel
theorem dX8_where_24 : decode cX8_where 24 = .ok (.iconst 0, 1) := by decide +kernel
theorem dX8_where_25 : decode cX8_where 25 = .ok (.invokevirtual 29, 3) := by decide +kernel
theorem dX8_where_28 : decode cX8_where 28 = .ok (.ifCond .eq 7, 3) := by decide +kernel
theorem dX8_where_31 : decode cX8_where 31 = .ok (.iconst 0, 1) := by decide +kernel
theorem dX8_where_32 : decode cX8_where 32 = .ok (.goto 9, 3) := by decide +kernel
theorem dX8_where_35 : decode cX8_where 35 = .ok (.aload_n 0, 1) := by decide +kernel
theorem dX8_where_36 : decode cX8_where 36 = .ok (.iload_n 1, 1) := by decide +kernel
theorem dX8_where_37 : decode cX8_where 37 = .ok (.iload_n 2, 1) := by decide +kernel
theorem dX8_where_38 : decode cX8_where 38 = .ok (.invokevirtual 117, 3) := by decide +kernel
theorem dX8_where_41 : decode cX8_where 41 = .ok (.ireturn, 1) := by decide +kernel
theorem dX8_wrong_0 : decode cX8_wrong 0 = .ok (.aload_n 0, 1) := by decide +kernel
theorem dX8_wrong_1 : decode cX8_wrong 1 = .ok (.aload_n 0, 1) := by decide +kernel
theorem dX8_wrong_2 : decode cX8_wrong 2 = .ok (.iload_n 1, 1) := by decide +kernel
theorem dX8_wrong_3 : decode cX8_wrong 3 = .ok (.iload_n 2, 1) := by decide +kernel
theorem dX8_wrong_4 : decode cX8_wrong 4 = .ok (.invokevirtual 37, 3) := by decide +kernel
theorem dX8_wrong_7 : decode cX8_wrong 7 = .ok (.aload_n 0, 1) := by decide +kernel
theorem dX8_wrong_8 : decode cX8_wrong 8 = .ok (.iload_n 1, 1) := by decide +kernel
theorem dX8_wrong_9 : decode cX8_wrong 9 = .ok (.iload_n 3, 1) := by decide +kernel
theorem dX8_wrong_10 : decode cX8_wrong 10 = .ok (.invokevirtual 37, 3) := by decide +kernel
theorem dX8_wrong_13 : decode cX8_wrong 13 = .ok (.invokevirtual 41, 3) := by decide +kernel
theorem dX8_wrong_16 : decode cX8_wrong 16 = .ok (.ifCond .eq 7, 3) := by decide +kernel
theorem dX8_wrong_19 : decode cX8_wrong 19 = .ok (.iconst 1, 1) := by decide +kernel
theorem dX8_wrong_20 : decode cX8_wrong 20 = .ok (.goto 4, 3) := by decide +kernel
theorem dX8_wrong_23 : decode cX8_wrong 23 = .ok (.iconst 0, 1) := by decide +kernel
theorem dX8_wrong_24 : decode cX8_wrong 24 = .ok (.ireturn, 1) := by decide +kernel
theorem dX8_wrongNodes_0 : decode cX8_wrongNodes 0 = .ok (.aload_n 0, 1) := by decide +kernel
theorem dX8_wrongNodes_1 : decode cX8_wrongNodes 1 = .ok (.invokevirtual 95, 3) := by decide +kernel
theorem dX8_wrongNodes_4 : decode cX8_wrongNodes 4 = .ok (.istore_n 1, 1) := by decide +kernel
theorem dX8_wrongNodes_5 : decode cX8_wrongNodes 5 = .ok (.iconst 0, 1) := by decide +kernel
theorem dX8_wrongNodes_6 : decode cX8_wrongNodes 6 = .ok (.istore_n 2, 1) := by decide +kernel
theorem dX8_wrongNodes_7 : decode cX8_wrongNodes 7 = .ok (.iconst 0, 1) := by decide +kernel
theorem dX8_wrongNodes_8 : decode cX8_wrongNodes 8 = .ok (.istore_n 3, 1) := by decide +kernel
theorem dX8_wrongNodes_9 : decode cX8_wrongNodes 9 = .ok (.iconst 2, 1) := by decide +kernel
theorem dX8_wrongNodes_10 : decode cX8_wrongNodes 10 = .ok (.iload_n 3, 1) := by decide +kernel
theorem dX8_wrongNodes_11 : decode cX8_wrongNodes 11 = .ok (.imul, 1) := by decide +kernel
theorem dX8_wrongNodes_12 : decode cX8_wrongNodes 12 = .ok (.iload_n 1, 1) := by decide +kernel
theorem dX8_wrongNodes_13 : decode cX8_wrongNodes 13 = .ok (.if_icmp .ge 86, 3) := by decide +kernel
theorem dX8_wrongNodes_16 : decode cX8_wrongNodes 16 = .ok (.iload_n 3, 1) := by decide +kernel
theorem dX8_wrongNodes_17 : decode cX8_wrongNodes 17 = .ok (.iconst 1, 1) := by decide +kernel
theorem dX8_wrongNodes_18 : decode cX8_wrongNodes 18 = .ok (.isub, 1) := by decide +kernel
theorem dX8_wrongNodes_19 : decode cX8_wrongNodes 19 = .ok (.iconst 2, 1) := by decide +kernel
theorem dX8_wrongNodes_20 : decode cX8_wrongNodes 20 = .ok (.idiv, 1) := by decide +kernel
theorem dX8_wrongNodes_21 : decode cX8_wrongNodes 21 = .ok (.istore 4, 2) := by decide +kernel
theorem dX8_wrongNodes_23 : decode cX8_wrongNodes 23 = .ok (.iload_n 2, 1) := by decide +kernel
theorem dX8_wrongNodes_24 : decode cX8_wrongNodes 24 = .ok (.iconst 2, 1) := by decide +kernel
theorem dX8_wrongNodes_25 : decode cX8_wrongNodes 25 = .ok (.iload_n 3, 1) := by decide +kernel
theorem dX8_wrongNodes_26 : decode cX8_wrongNodes 26 = .ok (.imul, 1) := by decide +kernel
theorem dX8_wrongNodes_27 : decode cX8_wrongNodes 27 = .ok (.iconst 1, 1) := by decide +kernel
theorem dX8_wrongNodes_28 : decode cX8_wrongNodes 28 = .ok (.iadd, 1) := by decide +kernel
theorem dX8_wrongNodes_29 : decode cX8_wrongNodes 29 = .ok (.iload_n 1, 1) := by decide +kernel
theorem dX8_wrongNodes_30 : decode cX8_wrongNodes 30 = .ok (.if_icmp .ge 19, 3) := by decide +kernel
theorem dX8_wrongNodes_33 : decode cX8_wrongNodes 33 = .ok (.aload_n 0, 1) := by decide +kernel
theorem dX8_wrongNodes_34 : decode cX8_wrongNodes 34 = .ok (.iconst 0, 1) := by decide +kernel
theorem dX8_wrongNodes_35 : decode cX8_wrongNodes 35 = .ok (.iconst 2, 1) := by decide +kernel
theorem dX8_wrongNodes_36 : decode cX8_wrongNodes 36 = .ok (.iload_n 3, 1) := by decide +kernel
theorem dX8_wrongNodes_37 : decode cX8_wrongNodes 37 = .ok (.imul, 1) := by decide +kernel
theorem dX8_wrongNodes_38 : decode cX8_wrongNodes 38 = .ok (.iconst 1, 1) := by decide +kernel
theorem dX8_wrongNodes_39 : decode cX8_wrongNodes 39 = .ok (.iadd, 1) := by decide +kernel
theorem dX8_wrongNodes_40 : decode cX8_wrongNodes 40 = .ok (.iconst 2, 1) := by decide +kernel
theorem dX8_wrongNodes_41 : decode cX8_wrongNodes 41 = .ok (.iload_n 3, 1) := by decide +kernel
theorem dX8_wrongNodes_42 : decode cX8_wrongNodes 42 = .ok (.imul, 1) := by decide +kernel
theorem dX8_wrongNodes_43 : decode cX8_wrongNodes 43 = .ok (.invokevirtual 187, 3) := by decide +kernel
theorem dX8_wrongNodes_46 : decode cX8_wrongNodes 46 = .ok (.goto 4, 3) := by decide +kernel
theorem dX8_wrongNodes_49 : decode cX8_wrongNodes 49 = .ok (.iconst 0, 1) := by decide +kernel
theorem dX8_wrongNodes_50 : decode cX8_wrongNodes 50 = .ok (.iadd, 1) := by decide +kernel
theorem dX8_wrongNodes_51 : decode cX8_wrongNodes 51 = .ok (.istore_n 2, 1) := by decide +kernel
theorem dX8_wrongNodes_52 : decode cX8_wrongNodes 52 = .ok (.iload_n 2, 1) := by decide +kernel
theorem dX8_wrongNodes_53 : decode cX8_wrongNodes 53 = .ok (.iload_n 3, 1) := by decide +kernel
theorem dX8_wrongNodes_54 : decode cX8_wrongNodes 54 = .ok (.ifCond .le 36, 3) := by decide +kernel
theorem dX8_wrongNodes_57 : decode cX8_wrongNodes 57 = .ok (.aload_n 0, 1) := by decide +kernel
theorem dX8_wrongNodes_58 : decode cX8_wrongNodes 58 = .ok (.iconst 0, 1) := by decide +kernel
theorem dX8_wrongNodes_59 : decode cX8_wrongNodes 59 = .ok (.iconst 2, 1) := by decide +kernel
theorem dX8_wrongNodes_60 : decode cX8_wrongNodes 60 = .ok (.iload_n 3, 1) := by decide +kernel
theorem dX8_wrongNodes_61 : decode cX8_wrongNodes 61 = .ok (.imul, 1) := by decide +kernel
theorem dX8_wrongNodes_62 : decode cX8_wrongNodes 62 = .ok (.iconst 2, 1) := by decide +kernel
theorem dX8_wrongNodes_63 : decode cX8_wrongNodes 63 = .ok (.iload 4, 2) := by decide +kernel
theorem dX8_wrongNodes_65 : decode cX8_wrongNodes 65 = .ok (.imul, 1) := by decide +kernel
theorem dX8_wrongNodes_66 : decode cX8_wrongNodes 66 = .ok (.invokevirtual 187, 3) := by decide +kernel
theorem dX8_wrongNodes_69 : decode cX8_wrongNodes 69 = .ok (.aload_n 0, 1) := by decide +kernel
theorem dX8_wrongNodes_70 : decode cX8_wrongNodes 70 = .ok (.iconst 0, 1) := by decide +kernel
theorem dX8_wrongNodes_71 : decode cX8_wrongNodes 71 = .ok (.iconst 2, 1) := by decide +kernel
theorem dX8_wrongNodes_72 : decode cX8_wrongNodes 72 = .ok (.iload 4, 2) := by decide +kernel
theorem dX8_wrongNodes_74 : decode cX8_wrongNodes 74 = .ok (.imul, 1) := by decide +kernel
theorem dX8_wrongNodes_75 : decode cX8_wrongNodes 75 = .ok (.iconst 1, 1) := by decide +kernel
theorem dX8_wrongNodes_76 : decode cX8_wrongNodes 76 = .ok (.iadd, 1) := by decide +kernel
theorem dX8_wrongNodes_77 : decode cX8_wrongNodes 77 = .ok (.aload_n 0, 1) := by decide +kernel
theorem dX8_wrongNodes_78 : decode cX8_wrongNodes 78 = .ok (.iload_n 3, 1) := by decide +kernel
theorem dX8_wrongNodes_79 : decode cX8_wrongNodes 79 = .ok (.iload_n 1, 1) := by decide +kernel
theorem dX8_wrongNodes_80 : decode cX8_wrongNodes 80 = .ok (.invokevirtual 62, 3) := by decide +kernel
theorem dX8_wrongNodes_83 : decode cX8_wrongNodes 83 = .ok (.invokevirtual 187, 3) := by decide +kernel
theorem dX8_wrongNodes_86 : decode cX8_wrongNodes 86 = .ok (.iadd, 1) := by decide +kernel
theorem dX8_wrongNodes_87 : decode cX8_wrongNodes 87 = .ok (.goto 4, 3) := by decide +kernel
theorem dX8_wrongNodes_90 : decode cX8_wrongNodes 90 = .ok (.iconst 0, 1) := by decide +kernel
theorem dX8_wrongNodes_91 : decode cX8_wrongNodes 91 = .ok (.iadd, 1) := by decide +kernel
theorem dX8_wrongNodes_92 : decode cX8_wrongNodes 92 = .ok (.istore_n 2, 1) := by decide +kernel
theorem dX8_wrongNodes_93 : decode cX8_wrongNodes 93 = .ok (.iinc 3 1, 3) := by decide +kernel
theorem dX8_wrongNodes_96 : decode cX8_wrongNodes 96 = .ok (.goto (-87), 3) := by decide +kernel
theorem dX8_wrongNodes_99 : decode cX8_wrongNodes 99 = .ok (.iload_n 2, 1) := by decide +kernel
theorem dX8_wrongNodes_100 : decode cX8_wrongNodes 100 = .ok (.ireturn, 1) := by decide +kernel
theorem dX8_wrongLevels_0 : decode cX8_wrongLevels 0 = .ok (.iconst 0, 1) := by decide +kernel
theorem dX8_wrongLevels_1 : decode cX8_wrongLevels 1 = .ok (.istore_n 1, 1) := by decide +kernel
theorem dX8_wrongLevels_2 : decode cX8_wrongLevels 2 = .ok (.iconst 1, 1) := by decide +kernel
theorem dX8_wrongLevels_3 : decode cX8_wrongLevels 3 = .ok (.istore_n 2, 1) := by decide +kernel
theorem dX8_wrongLevels_4 : decode cX8_wrongLevels 4 = .ok (.iload_n 2, 1) := by decide +kernel
theorem dX8_wrongLevels_5 : decode cX8_wrongLevels 5 = .ok (.aload_n 0, 1) := by decide +kernel
theorem dX8_wrongLevels_6 : decode cX8_wrongLevels 6 = .ok (.invokevirtual 95, 3) := by decide +kernel
theorem dX8_wrongLevels_9 : decode cX8_wrongLevels 9 = .ok (.if_icmp .ge 63, 3) := by decide +kernel
theorem dX8_wrongLevels_12 : decode cX8_wrongLevels 12 = .ok (.iload_n 2, 1) := by decide +kernel
theorem dX8_wrongLevels_13 : decode cX8_wrongLevels 13 = .ok (.iconst 1, 1) := by decide +kernel
theorem dX8_wrongLevels_14 : decode cX8_wrongLevels 14 = .ok (.isub, 1) := by decide +kernel
theorem dX8_wrongLevels_15 : decode cX8_wrongLevels 15 = .ok (.iconst 2, 1) := by decide +kernel
theorem dX8_wrongLevels_16 : decode cX8_wrongLevels 16 = .ok (.idiv, 1) := by decide +kernel
theorem dX8_wrongLevels_17 : decode cX8_wrongLevels 17 = .ok (.istore_n 3, 1) := by decide +kernel
theorem dX8_wrongLevels_18 : decode cX8_wrongLevels 18 = .ok (.iload_n 3, 1) := by decide +kernel
theorem dX8_wrongLevels_19 : decode cX8_wrongLevels 19 = .ok (.ifCond .lt 47, 3) := by decide +kernel
theorem dX8_wrongLevels_22 : decode cX8_wrongLevels 22 = .ok (.iload_n 1, 1) := by decide +kernel
theorem dX8_wrongLevels_23 : decode cX8_wrongLevels 23 = .ok (.iload_n 3, 1) := by decide +kernel
theorem dX8_wrongLevels_24 : decode cX8_wrongLevels 24 = .ok (.invokestatic 82, 3) := by decide +kernel
theorem dX8_wrongLevels_27 : decode cX8_wrongLevels 27 = .ok (.ifCond .eq 13, 3) := by decide +kernel
theorem dX8_wrongLevels_30 : decode cX8_wrongLevels 30 = .ok (.aload_n 0, 1) := by decide +kernel
theorem dX8_wrongLevels_31 : decode cX8_wrongLevels 31 = .ok (.iconst 1, 1) := by decide +kernel
theorem dX8_wrongLevels_32 : decode cX8_wrongLevels 32 = .ok (.iload_n 2, 1) := by decide +kernel
theorem dX8_wrongLevels_33 : decode cX8_wrongLevels 33 = .ok (.iload_n 3, 1) := by decide +kernel
theorem dX8_wrongLevels_34 : decode cX8_wrongLevels 34 = .ok (.invokevirtual 187, 3) := by decide +kernel
theorem dX8_wrongLevels_37 : decode cX8_wrongLevels 37 = .ok (.goto 10, 3) := by decide +kernel
theorem dX8_wrongLevels_40 : decode cX8_wrongLevels 40 = .ok (.aload_n 0, 1) := by decide +kernel
theorem dX8_wrongLevels_41 : decode cX8_wrongLevels 41 = .ok (.iconst 1, 1) := by decide +kernel
theorem dX8_wrongLevels_42 : decode cX8_wrongLevels 42 = .ok (.iload_n 3, 1) := by decide +kernel
theorem dX8_wrongLevels_43 : decode cX8_wrongLevels 43 = .ok (.iload_n 2, 1) := by decide +kernel
theorem dX8_wrongLevels_44 : decode cX8_wrongLevels 44 = .ok (.invokevirtual 187, 3) := by decide +kernel
theorem dX8_wrongLevels_47 : decode cX8_wrongLevels 47 = .ok (.iadd, 1) := by decide +kernel
theorem dX8_wrongLevels_48 : decode cX8_wrongLevels 48 = .ok (.istore_n 1, 1) := by decide +kernel
theorem dX8_wrongLevels_49 : decode cX8_wrongLevels 49 = .ok (.iload_n 3, 1) := by decide +kernel
theorem dX8_wrongLevels_50 : decode cX8_wrongLevels 50 = .ok (.ifCond .ne 7, 3) := by decide +kernel
theorem dX8_wrongLevels_53 : decode cX8_wrongLevels 53 = .ok (.iconst (-1), 1) := by decide +kernel
theorem dX8_wrongLevels_54 : decode cX8_wrongLevels 54 = .ok (.goto 8, 3) := by decide +kernel
theorem dX8_wrongLevels_57 : decode cX8_wrongLevels 57 = .ok (.iload_n 3, 1) := by decide +kernel
theorem dX8_wrongLevels_58 : decode cX8_wrongLevels 58 = .ok (.iconst 1, 1) := by decide +kernel
theorem dX8_wrongLevels_59 : decode cX8_wrongLevels 59 = .ok (.isub, 1) := by decide +kernel
theorem dX8_wrongLevels_60 : decode cX8_wrongLevels 60 = .ok (.iconst 2, 1) := by decide +kernel
theorem dX8_wrongLevels_61 : decode cX8_wrongLevels 61 = .ok (.idiv, 1) := by decide +kernel
theorem dX8_wrongLevels_62 : decode cX8_wrongLevels 62 = .ok (.istore_n 3, 1) := by decide +kernel
theorem dX8_wrongLevels_63 : decode cX8_wrongLevels 63 = .ok (.goto (-45), 3) := by decide +kernel
theorem dX8_wrongLevels_66 : decode cX8_wrongLevels 66 = .ok (.iinc 2 1, 3) := by decide +kernel
theorem dX8_wrongLevels_69 : decode cX8_wrongLevels 69 = .ok (.goto (-65), 3) := by decide +kernel
theorem dX8_wrongLevels_72 : decode cX8_wrongLevels 72 = .ok (.iload_n 1, 1) := by decide +kernel
theorem dX8_wrongLevels_73 : decode cX8_wrongLevels 73 = .ok (.ireturn, 1) := by decide +kernel
theorem dX8_wrongIn_0 : decode cX8_wrongIn 0 = .ok (.iload_n 1, 1) := by decide +kernel
theorem dX8_wrongIn_1 : decode cX8_wrongIn 1 = .ok (.iconst 2, 1) := by decide +kernel
theorem dX8_wrongIn_2 : decode cX8_wrongIn 2 = .ok (.if_icmp .ge 19, 3) := by decide +kernel
theorem dX8_wrongIn_5 : decode cX8_wrongIn 5 = .ok (.iload_n 1, 1) := by decide +kernel
theorem dX8_wrongIn_6 : decode cX8_wrongIn 6 = .ok (.ifCond .ne 10, 3) := by decide +kernel
theorem dX8_wrongIn_9 : decode cX8_wrongIn 9 = .ok (.aload_n 0, 1) := by decide +kernel
theorem dX8_wrongIn_10 : decode cX8_wrongIn 10 = .ok (.invokevirtual 190, 3) := by decide +kernel
theorem dX8_wrongIn_13 : decode cX8_wrongIn 13 = .ok (.goto 7, 3) := by decide +kernel
theorem dX8_wrongIn_16 : decode cX8_wrongIn 16 = .ok (.aload_n 0, 1) := by decide +kernel
theorem dX8_wrongIn_17 : decode cX8_wrongIn 17 = .ok (.invokevirtual 193, 3) := by decide +kernel
theorem dX8_wrongIn_20 : decode cX8_wrongIn 20 = .ok (.ireturn, 1) := by decide +kernel
theorem dX8_wrongIn_21 : decode cX8_wrongIn 21 = .ok (.iconst 0, 1) := by decide +kernel
theorem dX8_wrongIn_22 : decode cX8_wrongIn 22 = .ok (.istore_n 2, 1) := by decide +kernel
theorem dX8_wrongIn_23 : decode cX8_wrongIn 23 = .ok (.iconst 1, 1) := by decide +kernel
theorem dX8_wrongIn_24 : decode cX8_wrongIn 24 = .ok (.istore_n 3, 1) := by decide +kernel
theorem dX8_wrongIn_25 : decode cX8_wrongIn 25 = .ok (.iload_n 3, 1) := by decide +kernel
theorem dX8_wrongIn_26 : decode cX8_wrongIn 26 = .ok (.aload_n 0, 1) := by decide +kernel
theorem dX8_wrongIn_27 : decode cX8_wrongIn 27 = .ok (.invokevirtual 95, 3) := by decide +kernel
theorem dX8_wrongIn_30 : decode cX8_wrongIn 30 = .ok (.if_icmp .ge 42, 3) := by decide +kernel
theorem dX8_wrongIn_33 : decode cX8_wrongIn 33 = .ok (.iload_n 2, 1) := by decide +kernel
theorem dX8_wrongIn_34 : decode cX8_wrongIn 34 = .ok (.iload_n 1, 1) := by decide +kernel
theorem dX8_wrongIn_35 : decode cX8_wrongIn 35 = .ok (.iconst 2, 1) := by decide +kernel
theorem dX8_wrongIn_36 : decode cX8_wrongIn 36 = .ok (.if_icmp .ne 17, 3) := by decide +kernel
theorem dX8_wrongIn_39 : decode cX8_wrongIn 39 = .ok (.aload_n 0, 1) := by decide +kernel
theorem dX8_wrongIn_40 : decode cX8_wrongIn 40 = .ok (.iconst 2, 1) := by decide +kernel
theorem dX8_wrongIn_41 : decode cX8_wrongIn 41 = .ok (.iload_n 3, 1) := by decide +kernel
theorem dX8_wrongIn_42 : decode cX8_wrongIn 42 = .ok (.iload_n 3, 1) := by decide +kernel
theorem dX8_wrongIn_43 : decode cX8_wrongIn 43 = .ok (.iconst 1, 1) := by decide +kernel
theorem dX8_wrongIn_44 : decode cX8_wrongIn 44 = .ok (.isub, 1) := by decide +kernel
theorem dX8_wrongIn_45 : decode cX8_wrongIn 45 = .ok (.iconst 2, 1) := by decide +kernel
theorem dX8_wrongIn_46 : decode cX8_wrongIn 46 = .ok (.idiv, 1) := by decide +kernel
theorem dX8_wrongIn_47 : decode cX8_wrongIn 47 = .ok (.invokevirtual 187, 3) := by decide +kernel
theorem dX8_wrongIn_50 : decode cX8_wrongIn 50 = .ok (.goto 14, 3) := by decide +kernel
theorem dX8_wrongIn_53 : decode cX8_wrongIn 53 = .ok (.aload_n 0, 1) := by decide +kernel
theorem dX8_wrongIn_54 : decode cX8_wrongIn 54 = .ok (.iconst 3, 1) := by decide +kernel
theorem dX8_wrongIn_55 : decode cX8_wrongIn 55 = .ok (.iload_n 3, 1) := by decide +kernel
theorem dX8_wrongIn_56 : decode cX8_wrongIn 56 = .ok (.iconst 1, 1) := by decide +kernel
theorem dX8_wrongIn_57 : decode cX8_wrongIn 57 = .ok (.isub, 1) := by decide +kernel
theorem dX8_wrongIn_58 : decode cX8_wrongIn 58 = .ok (.iconst 2, 1) := by decide +kernel
theorem dX8_wrongIn_59 : decode cX8_wrongIn 59 = .ok (.idiv, 1) := by decide +kernel
theorem dX8_wrongIn_60 : decode cX8_wrongIn 60 = .ok (.iload_n 3, 1) := by decide +kernel
theorem dX8_wrongIn_61 : decode cX8_wrongIn 61 = .ok (.invokevirtual 187, 3) := by decide +kernel
theorem dX8_wrongIn_64 : decode cX8_wrongIn 64 = .ok (.iadd, 1) := by decide +kernel
theorem dX8_wrongIn_65 : decode cX8_wrongIn 65 = .ok (.istore_n 2, 1) := by decide +kernel
theorem dX8_wrongIn_66 : decode cX8_wrongIn 66 = .ok (.iinc 3 1, 3) := by decide +kernel
theorem dX8_wrongIn_69 : decode cX8_wrongIn 69 = .ok (.goto (-44), 3) := by decide +kernel
theorem dX8_wrongIn_72 : decode cX8_wrongIn 72 = .ok (.iload_n 2, 1) := by decide +kernel
theorem dX8_wrongIn_73 : decode cX8_wrongIn 73 = .ok (.ireturn, 1) := by decide +kernel
theorem dX8_violations_0 : decode cX8_violations 0 = .ok (.aload_n 0, 1) := by decide +kernel
theorem dX8_violations_1 : decode cX8_violations 1 = .ok (.iload_n 1, 1) := by decide +kernel
theorem dX8_violations_2 : decode cX8_violations 2 = .ok (.invokestatic 184, 3) := by decide +kernel
theorem dX8_violations_5 : decode cX8_violations 5 = .ok (.ifCond .eq 7, 3) := by decide +kernel
theorem dX8_violations_8 : decode cX8_violations 8 = .ok (.iconst 0, 1) := by decide +kernel
theorem dX8_violations_9 : decode cX8_violations 9 = .ok (.goto 4, 3) := by decide +kernel
theorem dX8_violations_12 : decode cX8_violations 12 = .ok (.iconst 1, 1) := by decide +kernel
theorem dX8_violations_13 : decode cX8_violations 13 = .ok (.invokevirtual 29, 3) := by decide +kernel
theorem dX8_violations_16 : decode cX8_violations 16 = .ok (.ifCond .eq 7, 3) := by decide +kernel
theorem dX8_violations_19 : decode cX8_violations 19 = .ok (.iconst 0, 1) := by decide +kernel
theorem dX8_violations_20 : decode cX8_violations 20 = .ok (.goto 8, 3) := by decide +kernel
theorem dX8_violations_23 : decode cX8_violations 23 = .ok (.aload_n 0, 1) := by decide +kernel
theorem dX8_violations_24 : decode cX8_violations 24 = .ok (.iload_n 1, 1) := by decide +kernel
theorem dX8_violations_25 : decode cX8_violations 25 = .ok (.invokevirtual 196, 3) := by decide +kernel
theorem dX8_violations_28 : decode cX8_violations 28 = .ok (.ireturn, 1) := by decide +kernel
theorem dX8_disturb_0 : decode cX8_disturb 0 = .ok (.iload_n 2, 1) := by decide +kernel
theorem dX8_disturb_1 : decode cX8_disturb 1 = .ok (.iconst 0, 1) := by decide +kernel
theorem dX8_disturb_2 : decode cX8_disturb 2 = .ok (.aload_n 0, 1) := by decide +kernel
theorem dX8_disturb_3 : decode cX8_disturb 3 = .ok (.invokevirtual 95, 3) := by decide +kernel
theorem dX8_disturb_6 : decode cX8_disturb 6 = .ok (.iconst 1, 1) := by decide +kernel
theorem dX8_disturb_7 : decode cX8_disturb 7 = .ok (.isub, 1) := by decide +kernel
theorem dX8_disturb_8 : decode cX8_disturb 8 = .ok (.invokestatic 33, 3) := by decide +kernel
theorem dX8_disturb_11 : decode cX8_disturb 11 = .ok (.ifCond .eq 21, 3) := by decide +kernel
theorem dX8_disturb_14 : decode cX8_disturb 14 = .ok (.iload_n 3, 1) := by decide +kernel
theorem dX8_disturb_15 : decode cX8_disturb 15 = .ok (.iconst 0, 1) := by decide +kernel
theorem dX8_disturb_16 : decode cX8_disturb 16 = .ok (.aload_n 0, 1) := by decide +kernel
theorem dX8_disturb_17 : decode cX8_disturb 17 = .ok (.invokevirtual 95, 3) := by decide +kernel
theorem dX8_disturb_20 : decode cX8_disturb 20 = .ok (.iconst 1, 1) := by decide +kernel
theorem dX8_disturb_21 : decode cX8_disturb 21 = .ok (.isub, 1) := by decide +kernel
theorem dX8_disturb_22 : decode cX8_disturb 22 = .ok (.invokestatic 33, 3) := by decide +kernel
theorem dX8_disturb_25 : decode cX8_disturb 25 = .ok (.ifCond .eq 7, 3) := by decide +kernel
theorem dX8_disturb_28 : decode cX8_disturb 28 = .ok (.iconst 1, 1) := by decide +kernel
theorem dX8_disturb_29 : decode cX8_disturb 29 = .ok (.goto 4, 3) := by decide +kernel
theorem dX8_disturb_32 : decode cX8_disturb 32 = .ok (.iconst 0, 1) := by decide +kernel
theorem dX8_disturb_33 : decode cX8_disturb 33 = .ok (.istore 4, 2) := by decide +kernel
theorem dX8_disturb_35 : decode cX8_disturb 35 = .ok (.aload_n 0, 1) := by decide +kernel
theorem dX8_disturb_36 : decode cX8_disturb 36 = .ok (.iload_n 1, 1) := by decide +kernel
theorem dX8_disturb_37 : decode cX8_disturb 37 = .ok (.invokestatic 184, 3) := by decide +kernel
theorem dX8_disturb_40 : decode cX8_disturb 40 = .ok (.ifCond .ne 7, 3) := by decide +kernel
theorem dX8_disturb_43 : decode cX8_disturb 43 = .ok (.iconst 1, 1) := by decide +kernel
theorem dX8_disturb_44 : decode cX8_disturb 44 = .ok (.goto 13, 3) := by decide +kernel
theorem dX8_disturb_47 : decode cX8_disturb 47 = .ok (.iload 4, 2) := by decide +kernel
theorem dX8_disturb_49 : decode cX8_disturb 49 = .ok (.ifCond .ne 7, 3) := by decide +kernel
theorem dX8_disturb_52 : decode cX8_disturb 52 = .ok (.iconst 2, 1) := by decide +kernel
theorem dX8_disturb_53 : decode cX8_disturb 53 = .ok (.goto 4, 3) := by decide +kernel
theorem dX8_disturb_56 : decode cX8_disturb 56 = .ok (.iconst 0, 1) := by decide +kernel
theorem dX8_disturb_57 : decode cX8_disturb 57 = .ok (.invokevirtual 29, 3) := by decide +kernel
theorem dX8_disturb_60 : decode cX8_disturb 60 = .ok (.ifCond .eq 5, 3) := by decide +kernel
theorem dX8_disturb_63 : decode cX8_disturb 63 = .ok (.iconst 0, 1) := by decide +kernel
theorem dX8_disturb_64 : decode cX8_disturb 64 = .ok (.ireturn, 1) := by decide +kernel
theorem dX8_disturb_65 : decode cX8_disturb 65 = .ok (.aload_n 0, 1) := by decide +kernel
theorem dX8_disturb_66 : decode cX8_disturb 66 = .ok (.invokevirtual 141, 3) := by decide +kernel
theorem dX8_disturb_69 : decode cX8_disturb 69 = .ok (.aload_n 0, 1) := by decide +kernel
theorem dX8_disturb_70 : decode cX8_disturb 70 = .ok (.iload_n 1, 1) := by decide +kernel
theorem dX8_disturb_71 : decode cX8_disturb 71 = .ok (.iload_n 2, 1) := by decide +kernel
theorem dX8_disturb_72 : decode cX8_disturb 72 = .ok (.iload_n 3, 1) := by decide +kernel
theorem dX8_disturb_73 : decode cX8_disturb 73 = .ok (.invokevirtual 55, 3) := by decide +kernel
theorem dX8_disturb_76 : decode cX8_disturb 76 = .ok (.aload_n 0, 1) := by decide +kernel
theorem dX8_disturb_77 : decode cX8_disturb 77 = .ok (.iload_n 1, 1) := by decide +kernel
theorem dX8_disturb_78 : decode cX8_disturb 78 = .ok (.invokevirtual 196, 3) := by decide +kernel
theorem dX8_disturb_81 : decode cX8_disturb 81 = .ok (.ireturn, 1) := by decide +kernel
theorem dX8_level_0 : decode cX8_level 0 = .ok (.aload_n 0, 1) := by decide +kernel
theorem dX8_level_1 : decode cX8_level 1 = .ok (.iload_n 1, 1) := by decide +kernel
theorem dX8_level_2 : decode cX8_level 2 = .ok (.iconst 0, 1) := by decide +kernel
theorem dX8_level_3 : decode cX8_level 3 = .ok (.ldc 199, 2) := by decide +kernel
theorem dX8_level_5 : decode cX8_level 5 = .ok (.invokestatic 33, 3) := by decide +kernel
theorem dX8_level_8 : decode cX8_level 8 = .ok (.ifCond .eq 7, 3) := by decide +kernel
theorem dX8_level_11 : decode cX8_level 11 = .ok (.iconst 0, 1) := by decide +kernel
theorem dX8_level_12 : decode cX8_level 12 = .ok (.goto 4, 3) := by decide +kernel
theorem dX8_level_15 : decode cX8_level 15 = .ok (.iconst 1, 1) := by decide +kernel
theorem dX8_level_16 : decode cX8_level 16 = .ok (.invokevirtual 29, 3) := by decide +kernel
theorem dX8_level_19 : decode cX8_level 19 = .ok (.ifCond .eq 7, 3) := by decide +kernel
theorem dX8_level_22 : decode cX8_level 22 = .ok (.iconst 0, 1) := by decide +kernel
theorem dX8_level_23 : decode cX8_level 23 = .ok (.goto 7, 3) := by decide +kernel
theorem dX8_level_26 : decode cX8_level 26 = .ok (.iload_n 1, 1) := by decide +kernel
theorem dX8_level_27 : decode cX8_level 27 = .ok (.invokestatic 78, 3) := by decide +kernel
theorem dX8_level_30 : decode cX8_level 30 = .ok (.ireturn, 1) := by decide +kernel
theorem dX8_above_0 : decode cX8_above 0 = .ok (.iconst 0, 1) := by decide +kernel
theorem dX8_above_1 : decode cX8_above 1 = .ok (.istore_n 3, 1) := by decide +kernel
theorem dX8_above_2 : decode cX8_above 2 = .ok (.aload_n 0, 1) := by decide +kernel
theorem dX8_above_3 : decode cX8_above 3 = .ok (.iload_n 1, 1) := by decide +kernel
theorem dX8_above_4 : decode cX8_above 4 = .ok (.iload_n 2, 1) := by decide +kernel
theorem dX8_above_5 : decode cX8_above 5 = .ok (.invokevirtual 117, 3) := by decide +kernel
theorem dX8_above_8 : decode cX8_above 8 = .ok (.istore 4, 2) := by decide +kernel
theorem dX8_above_10 : decode cX8_above 10 = .ok (.iload 4, 2) := by decide +kernel
theorem dX8_above_12 : decode cX8_above 12 = .ok (.ifCond .le 26, 3) := by decide +kernel
theorem dX8_above_15 : decode cX8_above 15 = .ok (.iload 4, 2) := by decide +kernel
theorem dX8_above_17 : decode cX8_above 17 = .ok (.iconst 1, 1) := by decide +kernel
theorem dX8_above_18 : decode cX8_above 18 = .ok (.isub, 1) := by decide +kernel
theorem dX8_above_19 : decode cX8_above 19 = .ok (.iconst 2, 1) := by decide +kernel
theorem dX8_above_20 : decode cX8_above 20 = .ok (.idiv, 1) := by decide +kernel
theorem dX8_above_21 : decode cX8_above 21 = .ok (.istore 4, 2) := by decide +kernel
theorem dX8_above_23 : decode cX8_above 23 = .ok (.iload_n 3, 1) := by decide +kernel
theorem dX8_above_24 : decode cX8_above 24 = .ok (.iconst 1, 1) := by decide +kernel
theorem dX8_above_25 : decode cX8_above 25 = .ok (.aload_n 0, 1) := by decide +kernel
theorem dX8_above_26 : decode cX8_above 26 = .ok (.iload_n 1, 1) := by decide +kernel
theorem dX8_above_27 : decode cX8_above 27 = .ok (.iload 4, 2) := by decide +kernel
theorem dX8_above_29 : decode cX8_above 29 = .ok (.invokevirtual 37, 3) := by decide +kernel
theorem dX8_above_32 : decode cX8_above 32 = .ok (.ishl, 1) := by decide +kernel
theorem dX8_above_33 : decode cX8_above 33 = .ok (.ior, 1) := by decide +kernel
theorem dX8_above_34 : decode cX8_above 34 = .ok (.istore_n 3, 1) := by decide +kernel
theorem dX8_above_35 : decode cX8_above 35 = .ok (.goto (-25), 3) := by decide +kernel
theorem dX8_above_38 : decode cX8_above 38 = .ok (.iload_n 3, 1) := by decide +kernel
theorem dX8_above_39 : decode cX8_above 39 = .ok (.ireturn, 1) := by decide +kernel
theorem dX8_ancestors_0 : decode cX8_ancestors 0 = .ok (.aload_n 0, 1) := by decide +kernel
theorem dX8_ancestors_1 : decode cX8_ancestors 1 = .ok (.aload_n 0, 1) := by decide +kernel
theorem dX8_ancestors_2 : decode cX8_ancestors 2 = .ok (.iload_n 1, 1) := by decide +kernel
theorem dX8_ancestors_3 : decode cX8_ancestors 3 = .ok (.invokevirtual 49, 3) := by decide +kernel
theorem dX8_ancestors_6 : decode cX8_ancestors 6 = .ok (.ifCond .eq 7, 3) := by decide +kernel
theorem dX8_ancestors_9 : decode cX8_ancestors 9 = .ok (.iconst 0, 1) := by decide +kernel
theorem dX8_ancestors_10 : decode cX8_ancestors 10 = .ok (.goto 4, 3) := by decide +kernel
theorem dX8_ancestors_13 : decode cX8_ancestors 13 = .ok (.iconst 1, 1) := by decide +kernel
theorem dX8_ancestors_14 : decode cX8_ancestors 14 = .ok (.invokevirtual 29, 3) := by decide +kernel
theorem dX8_ancestors_17 : decode cX8_ancestors 17 = .ok (.ifCond .eq 5, 3) := by decide +kernel
theorem dX8_ancestors_20 : decode cX8_ancestors 20 = .ok (.iconst 0, 1) := by decide +kernel
theorem dX8_ancestors_21 : decode cX8_ancestors 21 = .ok (.ireturn, 1) := by decide +kernel
theorem dX8_ancestors_22 : decode cX8_ancestors 22 = .ok (.aload_n 0, 1) := by decide +kernel
theorem dX8_ancestors_23 : decode cX8_ancestors 23 = .ok (.iconst 2, 1) := by decide +kernel
theorem dX8_ancestors_24 : decode cX8_ancestors 24 = .ok (.iload_n 1, 1) := by decide +kernel
theorem dX8_ancestors_25 : decode cX8_ancestors 25 = .ok (.invokevirtual 200, 3) := by decide +kernel
theorem dX8_ancestors_28 : decode cX8_ancestors 28 = .ok (.aload_n 0, 1) := by decide +kernel
theorem dX8_ancestors_29 : decode cX8_ancestors 29 = .ok (.iconst 3, 1) := by decide +kernel
theorem dX8_ancestors_30 : decode cX8_ancestors 30 = .ok (.iload_n 1, 1) := by decide +kernel
theorem dX8_ancestors_31 : decode cX8_ancestors 31 = .ok (.invokevirtual 200, 3) := by decide +kernel
theorem dX8_ancestors_34 : decode cX8_ancestors 34 = .ok (.iand, 1) := by decide +kernel
theorem dX8_ancestors_35 : decode cX8_ancestors 35 = .ok (.istore_n 2, 1) := by decide +kernel
theorem dX8_ancestors_36 : decode cX8_ancestors 36 = .ok (.iconst 0, 1) := by decide +kernel
theorem dX8_ancestors_37 : decode cX8_ancestors 37 = .ok (.istore_n 3, 1) := by decide +kernel
theorem dX8_ancestors_38 : decode cX8_ancestors 38 = .ok (.iconst 0, 1) := by decide +kernel
theorem dX8_ancestors_39 : decode cX8_ancestors 39 = .ok (.istore 4, 2) := by decide +kernel
theorem dX8_ancestors_41 : decode cX8_ancestors 41 = .ok (.iload 4, 2) := by decide +kernel
theorem dX8_ancestors_43 : decode cX8_ancestors 43 = .ok (.bipush 30, 2) := by decide +kernel
theorem dX8_ancestors_45 : decode cX8_ancestors 45 = .ok (.if_icmp .ge 18, 3) := by decide +kernel
theorem dX8_ancestors_48 : decode cX8_ancestors 48 = .ok (.iload_n 3, 1) := by decide +kernel
theorem dX8_ancestors_49 : decode cX8_ancestors 49 = .ok (.iload_n 2, 1) := by decide +kernel
theorem dX8_ancestors_50 : decode cX8_ancestors 50 = .ok (.iload 4, 2) := by decide +kernel
theorem dX8_ancestors_52 : decode cX8_ancestors 52 = .ok (.ishr, 1) := by decide +kernel
theorem dX8_ancestors_53 : decode cX8_ancestors 53 = .ok (.iconst 1, 1) := by decide +kernel
theorem dX8_ancestors_54 : decode cX8_ancestors 54 = .ok (.iand, 1) := by decide +kernel
theorem dX8_ancestors_55 : decode cX8_ancestors 55 = .ok (.iadd, 1) := by decide +kernel
theorem dX8_ancestors_56 : decode cX8_ancestors 56 = .ok (.istore_n 3, 1) := by decide +kernel
theorem dX8_ancestors_57 : decode cX8_ancestors 57 = .ok (.iinc 4 1, 3) := by decide +kernel
theorem dX8_ancestors_60 : decode cX8_ancestors 60 = .ok (.goto (-19), 3) := by decide +kernel
theorem dX8_ancestors_63 : decode cX8_ancestors 63 = .ok (.iload_n 3, 1) := by decide +kernel
theorem dX8_ancestors_64 : decode cX8_ancestors 64 = .ok (.ireturn, 1) := by decide +kernel
theorem dX8_comparisons_0 : decode cX8_comparisons 0 = .ok (.aload_n 0, 1) := by decide +kernel
theorem dX8_comparisons_1 : decode cX8_comparisons 1 = .ok (.iload_n 1, 1) := by decide +kernel
theorem dX8_comparisons_2 : decode cX8_comparisons 2 = .ok (.iconst 0, 1) := by decide +kernel
theorem dX8_comparisons_3 : decode cX8_comparisons 3 = .ok (.iconst 2, 1) := by decide +kernel
theorem dX8_comparisons_4 : decode cX8_comparisons 4 = .ok (.invokestatic 33, 3) := by decide +kernel
theorem dX8_comparisons_7 : decode cX8_comparisons 7 = .ok (.ifCond .eq 7, 3) := by decide +kernel
theorem dX8_comparisons_10 : decode cX8_comparisons 10 = .ok (.iconst 0, 1) := by decide +kernel
theorem dX8_comparisons_11 : decode cX8_comparisons 11 = .ok (.goto 4, 3) := by decide +kernel
theorem dX8_comparisons_14 : decode cX8_comparisons 14 = .ok (.iconst 1, 1) := by decide +kernel
theorem dX8_comparisons_15 : decode cX8_comparisons 15 = .ok (.invokevirtual 29, 3) := by decide +kernel
theorem dX8_comparisons_18 : decode cX8_comparisons 18 = .ok (.ifCond .eq 7, 3) := by decide +kernel
theorem dX8_comparisons_21 : decode cX8_comparisons 21 = .ok (.iconst 0, 1) := by decide +kernel
theorem dX8_comparisons_22 : decode cX8_comparisons 22 = .ok (.goto 13, 3) := by decide +kernel
theorem dX8_comparisons_25 : decode cX8_comparisons 25 = .ok (.aload_n 0, 1) := by decide +kernel
theorem dX8_comparisons_26 : decode cX8_comparisons 26 = .ok (.getfield 7, 3) := by decide +kernel
theorem dX8_comparisons_29 : decode cX8_comparisons 29 = .ok (.sipush 181, 3) := by decide +kernel
theorem dX8_comparisons_32 : decode cX8_comparisons 32 = .ok (.iload_n 1, 1) := by decide +kernel
theorem dX8_comparisons_33 : decode cX8_comparisons 33 = .ok (.iadd, 1) := by decide +kernel
theorem dX8_comparisons_34 : decode cX8_comparisons 34 = .ok (.iaload, 1) := by decide +kernel
theorem dX8_comparisons_35 : decode cX8_comparisons 35 = .ok (.ireturn, 1) := by decide +kernel
theorem dX8_forget_0 : decode cX8_forget 0 = .ok (.aload_n 0, 1) := by decide +kernel
theorem dX8_forget_1 : decode cX8_forget 1 = .ok (.iconst 0, 1) := by decide +kernel
theorem dX8_forget_2 : decode cX8_forget 2 = .ok (.putfield 22, 3) := by decide +kernel
theorem dX8_forget_5 : decode cX8_forget 5 = .ok (.aload_n 0, 1) := by decide +kernel
theorem dX8_forget_6 : decode cX8_forget 6 = .ok (.invokevirtual 162, 3) := by decide +kernel
theorem dX8_forget_9 : decode cX8_forget 9 = .ok (.istore_n 1, 1) := by decide +kernel
theorem dX8_forget_10 : decode cX8_forget 10 = .ok (.aload_n 0, 1) := by decide +kernel
theorem dX8_forget_11 : decode cX8_forget 11 = .ok (.invokevirtual 141, 3) := by decide +kernel
theorem dX8_forget_14 : decode cX8_forget 14 = .ok (.iconst 0, 1) := by decide +kernel
theorem dX8_forget_15 : decode cX8_forget 15 = .ok (.istore_n 2, 1) := by decide +kernel
theorem dX8_forget_16 : decode cX8_forget 16 = .ok (.iload_n 2, 1) := by decide +kernel
theorem dX8_forget_17 : decode cX8_forget 17 = .ok (.iconst 3, 1) := by decide +kernel
theorem dX8_forget_18 : decode cX8_forget 18 = .ok (.if_icmp .ge 20, 3) := by decide +kernel
theorem dX8_forget_21 : decode cX8_forget 21 = .ok (.aload_n 0, 1) := by decide +kernel
theorem dX8_forget_22 : decode cX8_forget 22 = .ok (.getfield 7, 3) := by decide +kernel
theorem dX8_forget_25 : decode cX8_forget 25 = .ok (.sipush 181, 3) := by decide +kernel
theorem dX8_forget_28 : decode cX8_forget 28 = .ok (.iload_n 2, 1) := by decide +kernel
theorem dX8_forget_29 : decode cX8_forget 29 = .ok (.iadd, 1) := by decide +kernel
theorem dX8_forget_30 : decode cX8_forget 30 = .ok (.iconst 0, 1) := by decide +kernel
theorem dX8_forget_31 : decode cX8_forget 31 = .ok (.iastore, 1) := by decide +kernel
theorem dX8_forget_32 : decode cX8_forget 32 = .ok (.iinc 2 1, 3) := by decide +kernel
theorem dX8_forget_35 : decode cX8_forget 35 = .ok (.goto (-19), 3) := by decide +kernel
theorem dX8_forget_38 : decode cX8_forget 38 = .ok (.iload_n 1, 1) := by decide +kernel
theorem dX8_forget_39 : decode cX8_forget 39 = .ok (.ireturn, 1) := by decide +kernel
theorem dX8_keeps_0 : decode cX8_keeps 0 = .ok (.iconst 0, 1) := by decide +kernel
theorem dX8_keeps_1 : decode cX8_keeps 1 = .ok (.istore_n 1, 1) := by decide +kernel
theorem dX8_keeps_2 : decode cX8_keeps 2 = .ok (.iload_n 1, 1) := by decide +kernel
theorem dX8_keeps_3 : decode cX8_keeps 3 = .ok (.sipush 184, 3) := by decide +kernel
theorem dX8_keeps_6 : decode cX8_keeps 6 = .ok (.if_icmp .ge 21, 3) := by decide +kernel
theorem dX8_keeps_9 : decode cX8_keeps 9 = .ok (.aload_n 0, 1) := by decide +kernel
theorem dX8_keeps_10 : decode cX8_keeps 10 = .ok (.getfield 16, 3) := by decide +kernel
theorem dX8_keeps_13 : decode cX8_keeps 13 = .ok (.iload_n 1, 1) := by decide +kernel
theorem dX8_keeps_14 : decode cX8_keeps 14 = .ok (.aload_n 0, 1) := by decide +kernel
theorem dX8_keeps_15 : decode cX8_keeps 15 = .ok (.getfield 7, 3) := by decide +kernel
theorem dX8_keeps_18 : decode cX8_keeps 18 = .ok (.iload_n 1, 1) := by decide +kernel
theorem dX8_keeps_19 : decode cX8_keeps 19 = .ok (.iaload, 1) := by decide +kernel
theorem dX8_keeps_20 : decode cX8_keeps 20 = .ok (.iastore, 1) := by decide +kernel
theorem dX8_keeps_21 : decode cX8_keeps 21 = .ok (.iinc 1 1, 3) := by decide +kernel
theorem dX8_keeps_24 : decode cX8_keeps 24 = .ok (.goto (-22), 3) := by decide +kernel
theorem dX8_keeps_27 : decode cX8_keeps 27 = .ok (.return_, 1) := by decide +kernel
theorem dX8_returns_0 : decode cX8_returns 0 = .ok (.iconst 0, 1) := by decide +kernel
theorem dX8_returns_1 : decode cX8_returns 1 = .ok (.istore_n 1, 1) := by decide +kernel
theorem dX8_returns_2 : decode cX8_returns 2 = .ok (.iload_n 1, 1) := by decide +kernel
theorem dX8_returns_3 : decode cX8_returns 3 = .ok (.sipush 184, 3) := by decide +kernel
theorem dX8_returns_6 : decode cX8_returns 6 = .ok (.if_icmp .ge 21, 3) := by decide +kernel
theorem dX8_returns_9 : decode cX8_returns 9 = .ok (.aload_n 0, 1) := by decide +kernel
theorem dX8_returns_10 : decode cX8_returns 10 = .ok (.getfield 7, 3) := by decide +kernel
theorem dX8_returns_13 : decode cX8_returns 13 = .ok (.iload_n 1, 1) := by decide +kernel
theorem dX8_returns_14 : decode cX8_returns 14 = .ok (.aload_n 0, 1) := by decide +kernel
theorem dX8_returns_15 : decode cX8_returns 15 = .ok (.getfield 16, 3) := by decide +kernel
theorem dX8_returns_18 : decode cX8_returns 18 = .ok (.iload_n 1, 1) := by decide +kernel
theorem dX8_returns_19 : decode cX8_returns 19 = .ok (.iaload, 1) := by decide +kernel
theorem dX8_returns_20 : decode cX8_returns 20 = .ok (.iastore, 1) := by decide +kernel
theorem dX8_returns_21 : decode cX8_returns 21 = .ok (.iinc 1 1, 3) := by decide +kernel
theorem dX8_returns_24 : decode cX8_returns 24 = .ok (.goto (-22), 3) := by decide +kernel
theorem dX8_returns_27 : decode cX8_returns 27 = .ok (.return_, 1) := by decide +kernel
theorem dX8_canDo_0 : decode cX8_canDo 0 = .ok (.iload_n 1, 1) := by decide +kernel
theorem dX8_canDo_1 : decode cX8_canDo 1 = .ok (.ifCond .ne 25, 3) := by decide +kernel
theorem dX8_canDo_4 : decode cX8_canDo 4 = .ok (.iload_n 2, 1) := by decide +kernel
theorem dX8_canDo_5 : decode cX8_canDo 5 = .ok (.invokestatic 138, 3) := by decide +kernel
theorem dX8_canDo_8 : decode cX8_canDo 8 = .ok (.ifCond .eq 16, 3) := by decide +kernel
theorem dX8_canDo_11 : decode cX8_canDo 11 = .ok (.aload_n 0, 1) := by decide +kernel
theorem dX8_canDo_12 : decode cX8_canDo 12 = .ok (.invokevirtual 95, 3) := by decide +kernel
theorem dX8_canDo_15 : decode cX8_canDo 15 = .ok (.bipush 30, 2) := by decide +kernel
theorem dX8_canDo_17 : decode cX8_canDo 17 = .ok (.if_icmp .ge 7, 3) := by decide +kernel
theorem dX8_canDo_20 : decode cX8_canDo 20 = .ok (.iconst 1, 1) := by decide +kernel
theorem dX8_canDo_21 : decode cX8_canDo 21 = .ok (.goto 4, 3) := by decide +kernel
theorem dX8_canDo_24 : decode cX8_canDo 24 = .ok (.iconst 0, 1) := by decide +kernel
theorem dX8_canDo_25 : decode cX8_canDo 25 = .ok (.ireturn, 1) := by decide +kernel
theorem dX8_canDo_26 : decode cX8_canDo 26 = .ok (.iload_n 1, 1) := by decide +kernel
theorem dX8_canDo_27 : decode cX8_canDo 27 = .ok (.iconst 3, 1) := by decide +kernel
theorem dX8_canDo_28 : decode cX8_canDo 28 = .ok (.if_icmp .ne 11, 3) := by decide +kernel
theorem dX8_canDo_31 : decode cX8_canDo 31 = .ok (.aload_n 0, 1) := by decide +kernel
theorem dX8_canDo_32 : decode cX8_canDo 32 = .ok (.iload_n 2, 1) := by decide +kernel
theorem dX8_canDo_33 : decode cX8_canDo 33 = .ok (.invokevirtual 49, 3) := by decide +kernel
theorem dX8_canDo_36 : decode cX8_canDo 36 = .ok (.goto 20, 3) := by decide +kernel
theorem dX8_canDo_39 : decode cX8_canDo 39 = .ok (.iload_n 1, 1) := by decide +kernel
theorem dX8_canDo_40 : decode cX8_canDo 40 = .ok (.iconst 4, 1) := by decide +kernel
theorem dX8_canDo_41 : decode cX8_canDo 41 = .ok (.if_icmp .eq 10, 3) := by decide +kernel
theorem dX8_canDo_44 : decode cX8_canDo 44 = .ok (.aload_n 0, 1) := by decide +kernel
theorem dX8_canDo_45 : decode cX8_canDo 45 = .ok (.invokevirtual 95, 3) := by decide +kernel
theorem dX8_canDo_48 : decode cX8_canDo 48 = .ok (.ifCond .le 7, 3) := by decide +kernel
theorem dX8_canDo_51 : decode cX8_canDo 51 = .ok (.iconst 1, 1) := by decide +kernel
theorem dX8_canDo_52 : decode cX8_canDo 52 = .ok (.goto 4, 3) := by decide +kernel
theorem dX8_canDo_55 : decode cX8_canDo 55 = .ok (.iconst 0, 1) := by decide +kernel
theorem dX8_canDo_56 : decode cX8_canDo 56 = .ok (.ireturn, 1) := by decide +kernel
theorem dX8_does_0 : decode cX8_does 0 = .ok (.iload_n 1, 1) := by decide +kernel
theorem dX8_does_1 : decode cX8_does 1 = .ok (.ifCond .ne 14, 3) := by decide +kernel
theorem dX8_does_4 : decode cX8_does 4 = .ok (.aload_n 0, 1) := by decide +kernel
theorem dX8_does_5 : decode cX8_does 5 = .ok (.iload_n 2, 1) := by decide +kernel
theorem dX8_does_6 : decode cX8_does 6 = .ok (.iload_n 3, 1) := by decide +kernel
theorem dX8_does_7 : decode cX8_does 7 = .ok (.invokevirtual 144, 3) := by decide +kernel
theorem dX8_does_10 : decode cX8_does 10 = .ok (.istore 4, 2) := by decide +kernel
theorem dX8_does_12 : decode cX8_does 12 = .ok (.goto 55, 3) := by decide +kernel
theorem dX8_does_15 : decode cX8_does 15 = .ok (.iload_n 1, 1) := by decide +kernel
theorem dX8_does_16 : decode cX8_does 16 = .ok (.iconst 1, 1) := by decide +kernel
theorem dX8_does_17 : decode cX8_does 17 = .ok (.if_icmp .ne 16, 3) := by decide +kernel
theorem dX8_does_20 : decode cX8_does 20 = .ok (.aload_n 0, 1) := by decide +kernel
theorem dX8_does_21 : decode cX8_does 21 = .ok (.aload_n 0, 1) := by decide +kernel
theorem dX8_does_22 : decode cX8_does 22 = .ok (.iconst 0, 1) := by decide +kernel
theorem dX8_does_23 : decode cX8_does 23 = .ok (.invokevirtual 147, 3) := by decide +kernel
theorem dX8_does_26 : decode cX8_does 26 = .ok (.iload_n 3, 1) := by decide +kernel
theorem dX8_does_27 : decode cX8_does 27 = .ok (.invokevirtual 150, 3) := by decide +kernel
theorem dX8_does_30 : decode cX8_does 30 = .ok (.goto 37, 3) := by decide +kernel
theorem dX8_does_33 : decode cX8_does 33 = .ok (.iload_n 1, 1) := by decide +kernel
theorem dX8_does_34 : decode cX8_does 34 = .ok (.iconst 2, 1) := by decide +kernel
theorem dX8_does_35 : decode cX8_does 35 = .ok (.if_icmp .ne 13, 3) := by decide +kernel
theorem dX8_does_38 : decode cX8_does 38 = .ok (.aload_n 0, 1) := by decide +kernel
theorem dX8_does_39 : decode cX8_does 39 = .ok (.iload_n 3, 1) := by decide +kernel
theorem dX8_does_40 : decode cX8_does 40 = .ok (.invokevirtual 156, 3) := by decide +kernel
theorem dX8_does_43 : decode cX8_does 43 = .ok (.istore 4, 2) := by decide +kernel
theorem dX8_does_45 : decode cX8_does 45 = .ok (.goto 22, 3) := by decide +kernel
theorem dX8_does_48 : decode cX8_does 48 = .ok (.iload_n 1, 1) := by decide +kernel
theorem dX8_does_49 : decode cX8_does 49 = .ok (.iconst 3, 1) := by decide +kernel
theorem dX8_does_50 : decode cX8_does 50 = .ok (.if_icmp .ne 12, 3) := by decide +kernel
theorem dX8_does_53 : decode cX8_does 53 = .ok (.aload_n 0, 1) := by decide +kernel
theorem dX8_does_54 : decode cX8_does 54 = .ok (.iload_n 2, 1) := by decide +kernel
theorem dX8_does_55 : decode cX8_does 55 = .ok (.iload_n 3, 1) := by decide +kernel
theorem dX8_does_56 : decode cX8_does 56 = .ok (.invokevirtual 150, 3) := by decide +kernel
theorem dX8_does_59 : decode cX8_does 59 = .ok (.goto 8, 3) := by decide +kernel
theorem dX8_does_62 : decode cX8_does 62 = .ok (.aload_n 0, 1) := by decide +kernel
theorem dX8_does_63 : decode cX8_does 63 = .ok (.iload_n 3, 1) := by decide +kernel
theorem dX8_does_64 : decode cX8_does 64 = .ok (.invokevirtual 165, 3) := by decide +kernel
theorem dX8_does_67 : decode cX8_does 67 = .ok (.return_, 1) := by decide +kernel
theorem dX8_wouldNeed_0 : decode cX8_wouldNeed 0 = .ok (.aload_n 0, 1) := by decide +kernel
theorem dX8_wouldNeed_1 : decode cX8_wouldNeed 1 = .ok (.iload_n 1, 1) := by decide +kernel
theorem dX8_wouldNeed_2 : decode cX8_wouldNeed 2 = .ok (.iconst 0, 1) := by decide +kernel
theorem dX8_wouldNeed_3 : decode cX8_wouldNeed 3 = .ok (.iconst 2, 1) := by decide +kernel
theorem dX8_wouldNeed_4 : decode cX8_wouldNeed 4 = .ok (.invokestatic 33, 3) := by decide +kernel
theorem dX8_wouldNeed_7 : decode cX8_wouldNeed 7 = .ok (.ifCond .eq 16, 3) := by decide +kernel
theorem dX8_wouldNeed_10 : decode cX8_wouldNeed 10 = .ok (.iload_n 2, 1) := by decide +kernel
theorem dX8_wouldNeed_11 : decode cX8_wouldNeed 11 = .ok (.iconst 0, 1) := by decide +kernel
theorem dX8_wouldNeed_12 : decode cX8_wouldNeed 12 = .ok (.iconst 4, 1) := by decide +kernel
theorem dX8_wouldNeed_13 : decode cX8_wouldNeed 13 = .ok (.invokestatic 33, 3) := by decide +kernel
theorem dX8_wouldNeed_16 : decode cX8_wouldNeed 16 = .ok (.ifCond .eq 7, 3) := by decide +kernel
theorem dX8_wouldNeed_19 : decode cX8_wouldNeed 19 = .ok (.iconst 0, 1) := by decide +kernel
theorem dX8_wouldNeed_20 : decode cX8_wouldNeed 20 = .ok (.goto 4, 3) := by decide +kernel
theorem dX8_wouldNeed_23 : decode cX8_wouldNeed 23 = .ok (.iconst 1, 1) := by decide +kernel
theorem dX8_wouldNeed_24 : decode cX8_wouldNeed 24 = .ok (.invokevirtual 29, 3) := by decide +kernel
theorem dX8_wouldNeed_27 : decode cX8_wouldNeed 27 = .ok (.ifCond .eq 5, 3) := by decide +kernel
theorem dX8_wouldNeed_30 : decode cX8_wouldNeed 30 = .ok (.iconst 0, 1) := by decide +kernel
theorem dX8_wouldNeed_31 : decode cX8_wouldNeed 31 = .ok (.ireturn, 1) := by decide +kernel
theorem dX8_wouldNeed_32 : decode cX8_wouldNeed 32 = .ok (.aload_n 0, 1) := by decide +kernel
theorem dX8_wouldNeed_33 : decode cX8_wouldNeed 33 = .ok (.iload_n 2, 1) := by decide +kernel
theorem dX8_wouldNeed_34 : decode cX8_wouldNeed 34 = .ok (.iload_n 3, 1) := by decide +kernel
theorem dX8_wouldNeed_35 : decode cX8_wouldNeed 35 = .ok (.invokevirtual 203, 3) := by decide +kernel
theorem dX8_wouldNeed_38 : decode cX8_wouldNeed 38 = .ok (.ifCond .ne 5, 3) := by decide +kernel
theorem dX8_wouldNeed_41 : decode cX8_wouldNeed 41 = .ok (.iconst (-1), 1) := by decide +kernel
theorem dX8_wouldNeed_42 : decode cX8_wouldNeed 42 = .ok (.ireturn, 1) := by decide +kernel
theorem dX8_wouldNeed_43 : decode cX8_wouldNeed 43 = .ok (.aload_n 0, 1) := by decide +kernel
theorem dX8_wouldNeed_44 : decode cX8_wouldNeed 44 = .ok (.invokevirtual 206, 3) := by decide +kernel
theorem dX8_wouldNeed_47 : decode cX8_wouldNeed 47 = .ok (.aload_n 0, 1) := by decide +kernel
theorem dX8_wouldNeed_48 : decode cX8_wouldNeed 48 = .ok (.iload_n 2, 1) := by decide +kernel
theorem dX8_wouldNeed_49 : decode cX8_wouldNeed 49 = .ok (.iload_n 3, 1) := by decide +kernel
theorem dX8_wouldNeed_50 : decode cX8_wouldNeed 50 = .ok (.iconst 1, 1) := by decide +kernel
theorem dX8_wouldNeed_51 : decode cX8_wouldNeed 51 = .ok (.iload_n 1, 1) := by decide +kernel
theorem dX8_wouldNeed_52 : decode cX8_wouldNeed 52 = .ok (.ishl, 1) := by decide +kernel
theorem dX8_wouldNeed_53 : decode cX8_wouldNeed 53 = .ok (.invokevirtual 209, 3) := by decide +kernel
theorem dX8_wouldNeed_56 : decode cX8_wouldNeed 56 = .ok (.aload_n 0, 1) := by decide +kernel
theorem dX8_wouldNeed_57 : decode cX8_wouldNeed 57 = .ok (.getfield 7, 3) := by decide +kernel
theorem dX8_wouldNeed_60 : decode cX8_wouldNeed 60 = .ok (.sipush 181, 3) := by decide +kernel
theorem dX8_wouldNeed_63 : decode cX8_wouldNeed 63 = .ok (.iload_n 1, 1) := by decide +kernel
theorem dX8_wouldNeed_64 : decode cX8_wouldNeed 64 = .ok (.iadd, 1) := by decide +kernel
theorem dX8_wouldNeed_65 : decode cX8_wouldNeed 65 = .ok (.iaload, 1) := by decide +kernel
theorem dX8_wouldNeed_66 : decode cX8_wouldNeed 66 = .ok (.aload_n 0, 1) := by decide +kernel
theorem dX8_wouldNeed_67 : decode cX8_wouldNeed 67 = .ok (.getfield 16, 3) := by decide +kernel
theorem dX8_wouldNeed_70 : decode cX8_wouldNeed 70 = .ok (.sipush 181, 3) := by decide +kernel
theorem dX8_wouldNeed_73 : decode cX8_wouldNeed 73 = .ok (.iload_n 1, 1) := by decide +kernel
theorem dX8_wouldNeed_74 : decode cX8_wouldNeed 74 = .ok (.iadd, 1) := by decide +kernel
theorem dX8_wouldNeed_75 : decode cX8_wouldNeed 75 = .ok (.iaload, 1) := by decide +kernel
theorem dX8_wouldNeed_76 : decode cX8_wouldNeed 76 = .ok (.isub, 1) := by decide +kernel
theorem dX8_wouldNeed_77 : decode cX8_wouldNeed 77 = .ok (.istore 4, 2) := by decide +kernel
theorem dX8_wouldNeed_79 : decode cX8_wouldNeed 79 = .ok (.aload_n 0, 1) := by decide +kernel
theorem dX8_wouldNeed_80 : decode cX8_wouldNeed 80 = .ok (.invokevirtual 212, 3) := by decide +kernel
theorem dX8_wouldNeed_83 : decode cX8_wouldNeed 83 = .ok (.iload 4, 2) := by decide +kernel
theorem dX8_wouldNeed_85 : decode cX8_wouldNeed 85 = .ok (.ireturn, 1) := by decide +kernel
theorem dX8_sortingNeeds_0 : decode cX8_sortingNeeds 0 = .ok (.aload_n 0, 1) := by decide +kernel
theorem dX8_sortingNeeds_1 : decode cX8_sortingNeeds 1 = .ok (.iload_n 1, 1) := by decide +kernel
theorem dX8_sortingNeeds_2 : decode cX8_sortingNeeds 2 = .ok (.iconst 0, 1) := by decide +kernel
theorem dX8_sortingNeeds_3 : decode cX8_sortingNeeds 3 = .ok (.iconst 2, 1) := by decide +kernel
theorem dX8_sortingNeeds_4 : decode cX8_sortingNeeds 4 = .ok (.invokestatic 33, 3) := by decide +kernel
theorem dX8_sortingNeeds_7 : decode cX8_sortingNeeds 7 = .ok (.ifCond .eq 7, 3) := by decide +kernel
theorem dX8_sortingNeeds_10 : decode cX8_sortingNeeds 10 = .ok (.iconst 0, 1) := by decide +kernel
theorem dX8_sortingNeeds_11 : decode cX8_sortingNeeds 11 = .ok (.goto 4, 3) := by decide +kernel
theorem dX8_sortingNeeds_14 : decode cX8_sortingNeeds 14 = .ok (.iconst 1, 1) := by decide +kernel
theorem dX8_sortingNeeds_15 : decode cX8_sortingNeeds 15 = .ok (.invokevirtual 29, 3) := by decide +kernel
theorem dX8_sortingNeeds_18 : decode cX8_sortingNeeds 18 = .ok (.ifCond .eq 5, 3) := by decide +kernel
theorem dX8_sortingNeeds_21 : decode cX8_sortingNeeds 21 = .ok (.iconst 0, 1) := by decide +kernel
theorem dX8_sortingNeeds_22 : decode cX8_sortingNeeds 22 = .ok (.ireturn, 1) := by decide +kernel
theorem dX8_sortingNeeds_23 : decode cX8_sortingNeeds 23 = .ok (.aload_n 0, 1) := by decide +kernel
theorem dX8_sortingNeeds_24 : decode cX8_sortingNeeds 24 = .ok (.invokevirtual 206, 3) := by decide +kernel
theorem dX8_sortingNeeds_27 : decode cX8_sortingNeeds 27 = .ok (.aload_n 0, 1) := by decide +kernel
theorem dX8_sortingNeeds_28 : decode cX8_sortingNeeds 28 = .ok (.invokevirtual 95, 3) := by decide +kernel
theorem dX8_sortingNeeds_31 : decode cX8_sortingNeeds 31 = .ok (.ifCond .le 18, 3) := by decide +kernel
theorem dX8_sortingNeeds_34 : decode cX8_sortingNeeds 34 = .ok (.aload_n 0, 1) := by decide +kernel
theorem dX8_sortingNeeds_35 : decode cX8_sortingNeeds 35 = .ok (.aload_n 0, 1) := by decide +kernel
theorem dX8_sortingNeeds_36 : decode cX8_sortingNeeds 36 = .ok (.iload_n 1, 1) := by decide +kernel
theorem dX8_sortingNeeds_37 : decode cX8_sortingNeeds 37 = .ok (.invokevirtual 147, 3) := by decide +kernel
theorem dX8_sortingNeeds_40 : decode cX8_sortingNeeds 40 = .ok (.iconst 1, 1) := by decide +kernel
theorem dX8_sortingNeeds_41 : decode cX8_sortingNeeds 41 = .ok (.iload_n 1, 1) := by decide +kernel
theorem dX8_sortingNeeds_42 : decode cX8_sortingNeeds 42 = .ok (.ishl, 1) := by decide +kernel
theorem dX8_sortingNeeds_43 : decode cX8_sortingNeeds 43 = .ok (.invokevirtual 150, 3) := by decide +kernel
theorem dX8_sortingNeeds_46 : decode cX8_sortingNeeds 46 = .ok (.goto (-19), 3) := by decide +kernel
theorem dX8_sortingNeeds_49 : decode cX8_sortingNeeds 49 = .ok (.aload_n 0, 1) := by decide +kernel
theorem dX8_sortingNeeds_50 : decode cX8_sortingNeeds 50 = .ok (.getfield 7, 3) := by decide +kernel
theorem dX8_sortingNeeds_53 : decode cX8_sortingNeeds 53 = .ok (.sipush 181, 3) := by decide +kernel
theorem dX8_sortingNeeds_56 : decode cX8_sortingNeeds 56 = .ok (.iload_n 1, 1) := by decide +kernel
theorem dX8_sortingNeeds_57 : decode cX8_sortingNeeds 57 = .ok (.iadd, 1) := by decide +kernel
theorem dX8_sortingNeeds_58 : decode cX8_sortingNeeds 58 = .ok (.iaload, 1) := by decide +kernel
theorem dX8_sortingNeeds_59 : decode cX8_sortingNeeds 59 = .ok (.aload_n 0, 1) := by decide +kernel
theorem dX8_sortingNeeds_60 : decode cX8_sortingNeeds 60 = .ok (.getfield 16, 3) := by decide +kernel
theorem dX8_sortingNeeds_63 : decode cX8_sortingNeeds 63 = .ok (.sipush 181, 3) := by decide +kernel
theorem dX8_sortingNeeds_66 : decode cX8_sortingNeeds 66 = .ok (.iload_n 1, 1) := by decide +kernel
theorem dX8_sortingNeeds_67 : decode cX8_sortingNeeds 67 = .ok (.iadd, 1) := by decide +kernel
theorem dX8_sortingNeeds_68 : decode cX8_sortingNeeds 68 = .ok (.iaload, 1) := by decide +kernel
theorem dX8_sortingNeeds_69 : decode cX8_sortingNeeds 69 = .ok (.isub, 1) := by decide +kernel
theorem dX8_sortingNeeds_70 : decode cX8_sortingNeeds 70 = .ok (.istore_n 2, 1) := by decide +kernel
theorem dX8_sortingNeeds_71 : decode cX8_sortingNeeds 71 = .ok (.aload_n 0, 1) := by decide +kernel
theorem dX8_sortingNeeds_72 : decode cX8_sortingNeeds 72 = .ok (.invokevirtual 212, 3) := by decide +kernel
theorem dX8_sortingNeeds_75 : decode cX8_sortingNeeds 75 = .ok (.iload_n 2, 1) := by decide +kernel
theorem dX8_sortingNeeds_76 : decode cX8_sortingNeeds 76 = .ok (.ireturn, 1) := by decide +kernel
theorem dX8_fewest_0 : decode cX8_fewest 0 = .ok (.aload_n 0, 1) := by decide +kernel
theorem dX8_fewest_1 : decode cX8_fewest 1 = .ok (.iconst 0, 1) := by decide +kernel
theorem dX8_fewest_2 : decode cX8_fewest 2 = .ok (.putfield 22, 3) := by decide +kernel
theorem dX8_fewest_5 : decode cX8_fewest 5 = .ok (.iconst 0, 1) := by decide +kernel
theorem dX8_fewest_6 : decode cX8_fewest 6 = .ok (.istore_n 1, 1) := by decide +kernel
theorem dX8_fewest_7 : decode cX8_fewest 7 = .ok (.iconst 1, 1) := by decide +kernel
theorem dX8_fewest_8 : decode cX8_fewest 8 = .ok (.istore_n 2, 1) := by decide +kernel
theorem dX8_fewest_9 : decode cX8_fewest 9 = .ok (.iload_n 2, 1) := by decide +kernel
theorem dX8_fewest_10 : decode cX8_fewest 10 = .ok (.iconst 3, 1) := by decide +kernel
theorem dX8_fewest_11 : decode cX8_fewest 11 = .ok (.if_icmp .ge 38, 3) := by decide +kernel
theorem dX8_fewest_14 : decode cX8_fewest 14 = .ok (.aload_n 0, 1) := by decide +kernel
theorem dX8_fewest_15 : decode cX8_fewest 15 = .ok (.getfield 7, 3) := by decide +kernel
theorem dX8_fewest_18 : decode cX8_fewest 18 = .ok (.sipush 181, 3) := by decide +kernel
theorem dX8_fewest_21 : decode cX8_fewest 21 = .ok (.iload_n 2, 1) := by decide +kernel
theorem dX8_fewest_22 : decode cX8_fewest 22 = .ok (.iadd, 1) := by decide +kernel
theorem dX8_fewest_23 : decode cX8_fewest 23 = .ok (.iaload, 1) := by decide +kernel
theorem dX8_fewest_24 : decode cX8_fewest 24 = .ok (.aload_n 0, 1) := by decide +kernel
theorem dX8_fewest_25 : decode cX8_fewest 25 = .ok (.getfield 7, 3) := by decide +kernel
theorem dX8_fewest_28 : decode cX8_fewest 28 = .ok (.sipush 181, 3) := by decide +kernel
theorem dX8_fewest_31 : decode cX8_fewest 31 = .ok (.iload_n 1, 1) := by decide +kernel
theorem dX8_fewest_32 : decode cX8_fewest 32 = .ok (.iadd, 1) := by decide +kernel
theorem dX8_fewest_33 : decode cX8_fewest 33 = .ok (.iaload, 1) := by decide +kernel
theorem dX8_fewest_34 : decode cX8_fewest 34 = .ok (.if_icmp .ge 7, 3) := by decide +kernel
theorem dX8_fewest_37 : decode cX8_fewest 37 = .ok (.iload_n 2, 1) := by decide +kernel
theorem dX8_fewest_38 : decode cX8_fewest 38 = .ok (.goto 4, 3) := by decide +kernel
theorem dX8_fewest_41 : decode cX8_fewest 41 = .ok (.iload_n 1, 1) := by decide +kernel
theorem dX8_fewest_42 : decode cX8_fewest 42 = .ok (.istore_n 1, 1) := by decide +kernel
theorem dX8_fewest_43 : decode cX8_fewest 43 = .ok (.iinc 2 1, 3) := by decide +kernel
theorem dX8_fewest_46 : decode cX8_fewest 46 = .ok (.goto (-37), 3) := by decide +kernel
theorem dX8_fewest_49 : decode cX8_fewest 49 = .ok (.iload_n 1, 1) := by decide +kernel
theorem dX8_fewest_50 : decode cX8_fewest 50 = .ok (.ireturn, 1) := by decide +kernel
theorem dX8_type_0 : decode cX8_type 0 = .ok (.aload_n 0, 1) := by decide +kernel
theorem dX8_type_1 : decode cX8_type 1 = .ok (.iload_n 1, 1) := by decide +kernel
theorem dX8_type_2 : decode cX8_type 2 = .ok (.bipush 32, 2) := by decide +kernel
theorem dX8_type_4 : decode cX8_type 4 = .ok (.bipush 126, 2) := by decide +kernel
theorem dX8_type_6 : decode cX8_type 6 = .ok (.invokestatic 33, 3) := by decide +kernel
theorem dX8_type_9 : decode cX8_type 9 = .ok (.ifCond .ne 7, 3) := by decide +kernel
theorem dX8_type_12 : decode cX8_type 12 = .ok (.iconst 1, 1) := by decide +kernel
theorem dX8_type_13 : decode cX8_type 13 = .ok (.goto 17, 3) := by decide +kernel
theorem dX8_type_16 : decode cX8_type 16 = .ok (.aload_n 0, 1) := by decide +kernel
theorem dX8_type_17 : decode cX8_type 17 = .ok (.getfield 215, 3) := by decide +kernel
theorem dX8_type_20 : decode cX8_type 20 = .ok (.bipush 120, 2) := by decide +kernel
theorem dX8_type_22 : decode cX8_type 22 = .ok (.if_icmp .ne 7, 3) := by decide +kernel
theorem dX8_type_25 : decode cX8_type 25 = .ok (.iconst 2, 1) := by decide +kernel
theorem dX8_type_26 : decode cX8_type 26 = .ok (.goto 4, 3) := by decide +kernel
theorem dX8_type_29 : decode cX8_type 29 = .ok (.iconst 0, 1) := by decide +kernel
theorem dX8_type_30 : decode cX8_type 30 = .ok (.invokevirtual 29, 3) := by decide +kernel
theorem dX8_type_33 : decode cX8_type 33 = .ok (.ifCond .eq 5, 3) := by decide +kernel
theorem dX8_type_36 : decode cX8_type 36 = .ok (.iconst 0, 1) := by decide +kernel
theorem dX8_type_37 : decode cX8_type 37 = .ok (.ireturn, 1) := by decide +kernel
theorem dX8_type_38 : decode cX8_type 38 = .ok (.aload_n 0, 1) := by decide +kernel
theorem dX8_type_39 : decode cX8_type 39 = .ok (.getfield 19, 3) := by decide +kernel
theorem dX8_type_42 : decode cX8_type 42 = .ok (.aload_n 0, 1) := by decide +kernel
theorem dX8_type_43 : decode cX8_type 43 = .ok (.getfield 215, 3) := by decide +kernel
theorem dX8_type_46 : decode cX8_type 46 = .ok (.iload_n 1, 1) := by decide +kernel
theorem dX8_type_47 : decode cX8_type 47 = .ok (.iastore, 1) := by decide +kernel
theorem dX8_type_48 : decode cX8_type 48 = .ok (.aload_n 0, 1) := by decide +kernel
theorem dX8_type_49 : decode cX8_type 49 = .ok (.dup, 1) := by decide +kernel
theorem dX8_type_50 : decode cX8_type 50 = .ok (.getfield 215, 3) := by decide +kernel
theorem dX8_type_53 : decode cX8_type 53 = .ok (.iconst 1, 1) := by decide +kernel
theorem dX8_type_54 : decode cX8_type 54 = .ok (.iadd, 1) := by decide +kernel
theorem dX8_type_55 : decode cX8_type 55 = .ok (.putfield 215, 3) := by decide +kernel
theorem dX8_type_58 : decode cX8_type 58 = .ok (.aload_n 0, 1) := by decide +kernel
theorem dX8_type_59 : decode cX8_type 59 = .ok (.getfield 215, 3) := by decide +kernel
theorem dX8_type_62 : decode cX8_type 62 = .ok (.ireturn, 1) := by decide +kernel
theorem dX8_clearText_0 : decode cX8_clearText 0 = .ok (.aload_n 0, 1) := by decide +kernel
theorem dX8_clearText_1 : decode cX8_clearText 1 = .ok (.iconst 0, 1) := by decide +kernel
theorem dX8_clearText_2 : decode cX8_clearText 2 = .ok (.putfield 22, 3) := by decide +kernel
theorem dX8_clearText_5 : decode cX8_clearText 5 = .ok (.aload_n 0, 1) := by decide +kernel
theorem dX8_clearText_6 : decode cX8_clearText 6 = .ok (.getfield 215, 3) := by decide +kernel
theorem dX8_clearText_9 : decode cX8_clearText 9 = .ok (.istore_n 1, 1) := by decide +kernel
theorem dX8_clearText_10 : decode cX8_clearText 10 = .ok (.aload_n 0, 1) := by decide +kernel
theorem dX8_clearText_11 : decode cX8_clearText 11 = .ok (.iconst 0, 1) := by decide +kernel
theorem dX8_clearText_12 : decode cX8_clearText 12 = .ok (.putfield 215, 3) := by decide +kernel
theorem dX8_clearText_15 : decode cX8_clearText 15 = .ok (.iload_n 1, 1) := by decide +kernel
theorem dX8_clearText_16 : decode cX8_clearText 16 = .ok (.ireturn, 1) := by decide +kernel
theorem dX8_next_0 : decode cX8_next 0 = .ok (.aload_n 0, 1) := by decide +kernel
theorem dX8_next_1 : decode cX8_next 1 = .ok (.getfield 218, 3) := by decide +kernel
theorem dX8_next_4 : decode cX8_next 4 = .ok (.aload_n 0, 1) := by decide +kernel
theorem dX8_next_5 : decode cX8_next 5 = .ok (.getfield 215, 3) := by decide +kernel
theorem dX8_next_8 : decode cX8_next 8 = .ok (.if_icmp .ge 15, 3) := by decide +kernel
theorem dX8_next_11 : decode cX8_next 11 = .ok (.aload_n 0, 1) := by decide +kernel
theorem dX8_next_12 : decode cX8_next 12 = .ok (.getfield 19, 3) := by decide +kernel
theorem dX8_next_15 : decode cX8_next 15 = .ok (.aload_n 0, 1) := by decide +kernel
theorem dX8_next_16 : decode cX8_next 16 = .ok (.getfield 218, 3) := by decide +kernel
theorem dX8_next_19 : decode cX8_next 19 = .ok (.iaload, 1) := by decide +kernel
theorem dX8_next_20 : decode cX8_next 20 = .ok (.goto 4, 3) := by decide +kernel
theorem dX8_next_23 : decode cX8_next 23 = .ok (.iconst 0, 1) := by decide +kernel
theorem dX8_next_24 : decode cX8_next 24 = .ok (.ireturn, 1) := by decide +kernel
theorem dX8_fails_0 : decode cX8_fails 0 = .ok (.aload_n 0, 1) := by decide +kernel
theorem dX8_fails_1 : decode cX8_fails 1 = .ok (.aload_n 0, 1) := by decide +kernel
theorem dX8_fails_2 : decode cX8_fails 2 = .ok (.getfield 221, 3) := by decide +kernel
theorem dX8_fails_5 : decode cX8_fails 5 = .ok (.iconst (-1), 1) := by decide +kernel
theorem dX8_fails_6 : decode cX8_fails 6 = .ok (.if_icmp .ne 10, 3) := by decide +kernel
theorem dX8_fails_9 : decode cX8_fails 9 = .ok (.aload_n 0, 1) := by decide +kernel
theorem dX8_fails_10 : decode cX8_fails 10 = .ok (.getfield 218, 3) := by decide +kernel
theorem dX8_fails_13 : decode cX8_fails 13 = .ok (.goto 7, 3) := by decide +kernel
theorem dX8_fails_16 : decode cX8_fails 16 = .ok (.aload_n 0, 1) := by decide +kernel
theorem dX8_fails_17 : decode cX8_fails 17 = .ok (.getfield 221, 3) := by decide +kernel
theorem dX8_fails_20 : decode cX8_fails 20 = .ok (.putfield 221, 3) := by decide +kernel
theorem dX8_fails_23 : decode cX8_fails 23 = .ok (.return_, 1) := by decide +kernel
theorem dX8_takes_0 : decode cX8_takes 0 = .ok (.aload_n 0, 1) := by decide +kernel
theorem dX8_takes_1 : decode cX8_takes 1 = .ok (.getfield 221, 3) := by decide +kernel
theorem dX8_takes_4 : decode cX8_takes 4 = .ok (.iconst (-1), 1) := by decide +kernel
theorem dX8_takes_5 : decode cX8_takes 5 = .ok (.if_icmp .ne 24, 3) := by decide +kernel
theorem dX8_takes_8 : decode cX8_takes 8 = .ok (.aload_n 0, 1) := by decide +kernel
theorem dX8_takes_9 : decode cX8_takes 9 = .ok (.invokevirtual 223, 3) := by decide +kernel
theorem dX8_takes_12 : decode cX8_takes 12 = .ok (.iload_n 1, 1) := by decide +kernel
theorem dX8_takes_13 : decode cX8_takes 13 = .ok (.if_icmp .ne 16, 3) := by decide +kernel
theorem dX8_takes_16 : decode cX8_takes 16 = .ok (.aload_n 0, 1) := by decide +kernel
theorem dX8_takes_17 : decode cX8_takes 17 = .ok (.dup, 1) := by decide +kernel
theorem dX8_takes_18 : decode cX8_takes 18 = .ok (.getfield 218, 3) := by decide +kernel
theorem dX8_takes_21 : decode cX8_takes 21 = .ok (.iconst 1, 1) := by decide +kernel
theorem dX8_takes_22 : decode cX8_takes 22 = .ok (.iadd, 1) := by decide +kernel
theorem dX8_takes_23 : decode cX8_takes 23 = .ok (.putfield 218, 3) := by decide +kernel
theorem dX8_takes_26 : decode cX8_takes 26 = .ok (.goto 7, 3) := by decide +kernel
theorem dX8_takes_29 : decode cX8_takes 29 = .ok (.aload_n 0, 1) := by decide +kernel
theorem dX8_takes_30 : decode cX8_takes 30 = .ok (.invokevirtual 226, 3) := by decide +kernel
theorem dX8_takes_33 : decode cX8_takes 33 = .ok (.return_, 1) := by decide +kernel
theorem dX8_number_0 : decode cX8_number 0 = .ok (.iload_n 2, 1) := by decide +kernel
theorem dX8_number_1 : decode cX8_number 1 = .ok (.ifCond .eq 24, 3) := by decide +kernel
theorem dX8_number_4 : decode cX8_number 4 = .ok (.aload_n 0, 1) := by decide +kernel
theorem dX8_number_5 : decode cX8_number 5 = .ok (.getfield 221, 3) := by decide +kernel
theorem dX8_number_8 : decode cX8_number 8 = .ok (.iconst (-1), 1) := by decide +kernel
theorem dX8_number_9 : decode cX8_number 9 = .ok (.if_icmp .ne 16, 3) := by decide +kernel
theorem dX8_number_12 : decode cX8_number 12 = .ok (.aload_n 0, 1) := by decide +kernel
theorem dX8_number_13 : decode cX8_number 13 = .ok (.invokevirtual 223, 3) := by decide +kernel
theorem dX8_number_16 : decode cX8_number 16 = .ok (.bipush 45, 2) := by decide +kernel
theorem dX8_number_18 : decode cX8_number 18 = .ok (.if_icmp .ne 7, 3) := by decide +kernel
theorem dX8_number_21 : decode cX8_number 21 = .ok (.iconst 1, 1) := by decide +kernel
theorem dX8_number_22 : decode cX8_number 22 = .ok (.goto 4, 3) := by decide +kernel
theorem dX8_number_25 : decode cX8_number 25 = .ok (.iconst 0, 1) := by decide +kernel
theorem dX8_number_26 : decode cX8_number 26 = .ok (.istore_n 3, 1) := by decide +kernel
theorem dX8_number_27 : decode cX8_number 27 = .ok (.aload_n 0, 1) := by decide +kernel
theorem dX8_number_28 : decode cX8_number 28 = .ok (.dup, 1) := by decide +kernel
theorem dX8_number_29 : decode cX8_number 29 = .ok (.getfield 218, 3) := by decide +kernel
theorem dX8_number_32 : decode cX8_number 32 = .ok (.iload_n 3, 1) := by decide +kernel
theorem dX8_number_33 : decode cX8_number 33 = .ok (.ifCond .eq 7, 3) := by decide +kernel
theorem dX8_number_36 : decode cX8_number 36 = .ok (.iconst 1, 1) := by decide +kernel
theorem dX8_number_37 : decode cX8_number 37 = .ok (.goto 4, 3) := by decide +kernel
theorem dX8_number_40 : decode cX8_number 40 = .ok (.iconst 0, 1) := by decide +kernel
theorem dX8_number_41 : decode cX8_number 41 = .ok (.iadd, 1) := by decide +kernel
theorem dX8_number_42 : decode cX8_number 42 = .ok (.putfield 218, 3) := by decide +kernel
theorem dX8_number_45 : decode cX8_number 45 = .ok (.iconst 0, 1) := by decide +kernel
theorem dX8_number_46 : decode cX8_number 46 = .ok (.istore 4, 2) := by decide +kernel
theorem dX8_number_48 : decode cX8_number 48 = .ok (.iconst 0, 1) := by decide +kernel
theorem dX8_number_49 : decode cX8_number 49 = .ok (.istore 5, 2) := by decide +kernel
theorem dX8_number_51 : decode cX8_number 51 = .ok (.aload_n 0, 1) := by decide +kernel
theorem dX8_number_52 : decode cX8_number 52 = .ok (.getfield 221, 3) := by decide +kernel
theorem dX8_number_55 : decode cX8_number 55 = .ok (.iconst (-1), 1) := by decide +kernel
theorem dX8_number_56 : decode cX8_number 56 = .ok (.if_icmp .ne 54, 3) := by decide +kernel
theorem dX8_number_59 : decode cX8_number 59 = .ok (.aload_n 0, 1) := by decide +kernel
theorem dX8_number_60 : decode cX8_number 60 = .ok (.invokevirtual 223, 3) := by decide +kernel
theorem dX8_number_63 : decode cX8_number 63 = .ok (.bipush 48, 2) := by decide +kernel
theorem dX8_number_65 : decode cX8_number 65 = .ok (.bipush 57, 2) := by decide +kernel
theorem dX8_number_67 : decode cX8_number 67 = .ok (.invokestatic 33, 3) := by decide +kernel
theorem dX8_number_70 : decode cX8_number 70 = .ok (.ifCond .eq 40, 3) := by decide +kernel
theorem dX8_number_73 : decode cX8_number 73 = .ok (.iload 5, 2) := by decide +kernel
theorem dX8_number_75 : decode cX8_number 75 = .ok (.iload_n 1, 1) := by decide +kernel
theorem dX8_number_76 : decode cX8_number 76 = .ok (.if_icmp .ge 34, 3) := by decide +kernel
theorem dX8_number_79 : decode cX8_number 79 = .ok (.bipush 10, 2) := by decide +kernel
theorem dX8_number_81 : decode cX8_number 81 = .ok (.iload 4, 2) := by decide +kernel
theorem dX8_number_83 : decode cX8_number 83 = .ok (.imul, 1) := by decide +kernel
theorem dX8_number_84 : decode cX8_number 84 = .ok (.aload_n 0, 1) := by decide +kernel
theorem dX8_number_85 : decode cX8_number 85 = .ok (.invokevirtual 223, 3) := by decide +kernel
theorem dX8_number_88 : decode cX8_number 88 = .ok (.iadd, 1) := by decide +kernel
theorem dX8_number_89 : decode cX8_number 89 = .ok (.bipush 48, 2) := by decide +kernel
theorem dX8_number_91 : decode cX8_number 91 = .ok (.isub, 1) := by decide +kernel
theorem dX8_number_92 : decode cX8_number 92 = .ok (.istore 4, 2) := by decide +kernel
theorem dX8_number_94 : decode cX8_number 94 = .ok (.aload_n 0, 1) := by decide +kernel
theorem dX8_number_95 : decode cX8_number 95 = .ok (.dup, 1) := by decide +kernel
theorem dX8_number_96 : decode cX8_number 96 = .ok (.getfield 218, 3) := by decide +kernel
theorem dX8_number_99 : decode cX8_number 99 = .ok (.iconst 1, 1) := by decide +kernel
theorem dX8_number_100 : decode cX8_number 100 = .ok (.iadd, 1) := by decide +kernel
theorem dX8_number_101 : decode cX8_number 101 = .ok (.putfield 218, 3) := by decide +kernel
theorem dX8_number_104 : decode cX8_number 104 = .ok (.iinc 5 1, 3) := by decide +kernel
theorem dX8_number_107 : decode cX8_number 107 = .ok (.goto (-56), 3) := by decide +kernel
theorem dX8_number_110 : decode cX8_number 110 = .ok (.iload 5, 2) := by decide +kernel
theorem dX8_number_112 : decode cX8_number 112 = .ok (.ifCond .eq 17, 3) := by decide +kernel
theorem dX8_number_115 : decode cX8_number 115 = .ok (.aload_n 0, 1) := by decide +kernel
theorem dX8_number_116 : decode cX8_number 116 = .ok (.invokevirtual 223, 3) := by decide +kernel
theorem dX8_number_119 : decode cX8_number 119 = .ok (.bipush 48, 2) := by decide +kernel
theorem dX8_number_121 : decode cX8_number 121 = .ok (.bipush 57, 2) := by decide +kernel
theorem dX8_number_123 : decode cX8_number 123 = .ok (.invokestatic 33, 3) := by decide +kernel
theorem dX8_number_126 : decode cX8_number 126 = .ok (.ifCond .eq 7, 3) := by decide +kernel
theorem dX8_number_129 : decode cX8_number 129 = .ok (.aload_n 0, 1) := by decide +kernel
theorem dX8_number_130 : decode cX8_number 130 = .ok (.invokevirtual 226, 3) := by decide +kernel
theorem dX8_number_133 : decode cX8_number 133 = .ok (.iload_n 3, 1) := by decide +kernel
theorem dX8_number_134 : decode cX8_number 134 = .ok (.ifCond .eq 9, 3) := by decide +kernel
theorem dX8_number_137 : decode cX8_number 137 = .ok (.iload 4, 2) := by decide +kernel
theorem dX8_number_139 : decode cX8_number 139 = .ok (.ineg, 1) := by decide +kernel
theorem dX8_number_140 : decode cX8_number 140 = .ok (.goto 5, 3) := by decide +kernel
theorem dX8_number_143 : decode cX8_number 143 = .ok (.iload 4, 2) := by decide +kernel
theorem dX8_number_145 : decode cX8_number 145 = .ok (.ireturn, 1) := by decide +kernel
theorem dX8_reads_0 : decode cX8_reads 0 = .ok (.aload_n 0, 1) := by decide +kernel
theorem dX8_reads_1 : decode cX8_reads 1 = .ok (.iconst 0, 1) := by decide +kernel
theorem dX8_reads_2 : decode cX8_reads 2 = .ok (.putfield 218, 3) := by decide +kernel
theorem dX8_reads_5 : decode cX8_reads 5 = .ok (.aload_n 0, 1) := by decide +kernel
theorem dX8_reads_6 : decode cX8_reads 6 = .ok (.iconst (-1), 1) := by decide +kernel
theorem dX8_reads_7 : decode cX8_reads 7 = .ok (.putfield 221, 3) := by decide +kernel
theorem dX8_reads_10 : decode cX8_reads 10 = .ok (.aload_n 0, 1) := by decide +kernel
theorem dX8_reads_11 : decode cX8_reads 11 = .ok (.iconst 0, 1) := by decide +kernel
theorem dX8_reads_12 : decode cX8_reads 12 = .ok (.putfield 229, 3) := by decide +kernel
theorem dX8_reads_15 : decode cX8_reads 15 = .ok (.aload_n 0, 1) := by decide +kernel
theorem dX8_reads_16 : decode cX8_reads 16 = .ok (.getfield 218, 3) := by decide +kernel
theorem dX8_reads_19 : decode cX8_reads 19 = .ok (.aload_n 0, 1) := by decide +kernel
theorem dX8_reads_20 : decode cX8_reads 20 = .ok (.getfield 215, 3) := by decide +kernel
theorem dX8_reads_23 : decode cX8_reads 23 = .ok (.if_icmp .ge 181, 3) := by decide +kernel
theorem dX8_reads_26 : decode cX8_reads 26 = .ok (.aload_n 0, 1) := by decide +kernel
theorem dX8_reads_27 : decode cX8_reads 27 = .ok (.getfield 221, 3) := by decide +kernel
theorem dX8_reads_30 : decode cX8_reads 30 = .ok (.iconst (-1), 1) := by decide +kernel
theorem dX8_reads_31 : decode cX8_reads 31 = .ok (.if_icmp .ne 173, 3) := by decide +kernel
theorem dX8_reads_34 : decode cX8_reads 34 = .ok (.aload_n 0, 1) := by decide +kernel
theorem dX8_reads_35 : decode cX8_reads 35 = .ok (.invokevirtual 223, 3) := by decide +kernel
theorem dX8_reads_38 : decode cX8_reads 38 = .ok (.istore_n 2, 1) := by decide +kernel
theorem dX8_reads_39 : decode cX8_reads 39 = .ok (.iload_n 2, 1) := by decide +kernel
theorem dX8_reads_40 : decode cX8_reads 40 = .ok (.bipush 105, 2) := by decide +kernel
theorem dX8_reads_42 : decode cX8_reads 42 = .ok (.if_icmp .eq 33, 3) := by decide +kernel
theorem dX8_reads_45 : decode cX8_reads 45 = .ok (.iload_n 2, 1) := by decide +kernel
theorem dX8_reads_46 : decode cX8_reads 46 = .ok (.bipush 108, 2) := by decide +kernel
theorem dX8_reads_48 : decode cX8_reads 48 = .ok (.if_icmp .eq 27, 3) := by decide +kernel
theorem dX8_reads_51 : decode cX8_reads 51 = .ok (.iload_n 2, 1) := by decide +kernel
theorem dX8_reads_52 : decode cX8_reads 52 = .ok (.bipush 103, 2) := by decide +kernel
theorem dX8_reads_54 : decode cX8_reads 54 = .ok (.if_icmp .eq 21, 3) := by decide +kernel
theorem dX8_reads_57 : decode cX8_reads 57 = .ok (.iload_n 2, 1) := by decide +kernel
theorem dX8_reads_58 : decode cX8_reads 58 = .ok (.bipush 114, 2) := by decide +kernel
theorem dX8_reads_60 : decode cX8_reads 60 = .ok (.if_icmp .eq 15, 3) := by decide +kernel
theorem dX8_reads_63 : decode cX8_reads 63 = .ok (.iload_n 2, 1) := by decide +kernel
theorem dX8_reads_64 : decode cX8_reads 64 = .ok (.bipush 99, 2) := by decide +kernel
theorem dX8_reads_66 : decode cX8_reads 66 = .ok (.if_icmp .eq 9, 3) := by decide +kernel
theorem dX8_reads_69 : decode cX8_reads 69 = .ok (.iload_n 2, 1) := by decide +kernel
theorem dX8_reads_70 : decode cX8_reads 70 = .ok (.bipush 98, 2) := by decide +kernel
theorem dX8_reads_72 : decode cX8_reads 72 = .ok (.if_icmp .ne 7, 3) := by decide +kernel
theorem dX8_reads_75 : decode cX8_reads 75 = .ok (.iconst 1, 1) := by decide +kernel
theorem dX8_reads_76 : decode cX8_reads 76 = .ok (.goto 4, 3) := by decide +kernel
theorem dX8_reads_79 : decode cX8_reads 79 = .ok (.iconst 0, 1) := by decide +kernel
theorem dX8_reads_80 : decode cX8_reads 80 = .ok (.istore_n 3, 1) := by decide +kernel
theorem dX8_reads_81 : decode cX8_reads 81 = .ok (.iconst 0, 1) := by decide +kernel
theorem dX8_reads_82 : decode cX8_reads 82 = .ok (.istore 4, 2) := by decide +kernel
theorem dX8_reads_84 : decode cX8_reads 84 = .ok (.iconst 0, 1) := by decide +kernel
theorem dX8_reads_85 : decode cX8_reads 85 = .ok (.istore 5, 2) := by decide +kernel
theorem dX8_reads_87 : decode cX8_reads 87 = .ok (.iload_n 3, 1) := by decide +kernel
theorem dX8_reads_88 : decode cX8_reads 88 = .ok (.ifCond .eq 16, 3) := by decide +kernel
theorem dX8_reads_91 : decode cX8_reads 91 = .ok (.aload_n 0, 1) := by decide +kernel
theorem dX8_reads_92 : decode cX8_reads 92 = .ok (.dup, 1) := by decide +kernel
theorem dX8_reads_93 : decode cX8_reads 93 = .ok (.getfield 218, 3) := by decide +kernel
theorem dX8_reads_96 : decode cX8_reads 96 = .ok (.iconst 1, 1) := by decide +kernel
theorem dX8_reads_97 : decode cX8_reads 97 = .ok (.iadd, 1) := by decide +kernel
theorem dX8_reads_98 : decode cX8_reads 98 = .ok (.putfield 218, 3) := by decide +kernel
theorem dX8_reads_101 : decode cX8_reads 101 = .ok (.goto 7, 3) := by decide +kernel
theorem dX8_reads_104 : decode cX8_reads 104 = .ok (.aload_n 0, 1) := by decide +kernel
theorem dX8_reads_105 : decode cX8_reads 105 = .ok (.invokevirtual 226, 3) := by decide +kernel
theorem dX8_reads_108 : decode cX8_reads 108 = .ok (.iload_n 2, 1) := by decide +kernel
theorem dX8_reads_109 : decode cX8_reads 109 = .ok (.bipush 105, 2) := by decide +kernel
theorem dX8_reads_111 : decode cX8_reads 111 = .ok (.if_icmp .ne 14, 3) := by decide +kernel
theorem dX8_reads_114 : decode cX8_reads 114 = .ok (.aload_n 0, 1) := by decide +kernel
theorem dX8_reads_115 : decode cX8_reads 115 = .ok (.iconst 3, 1) := by decide +kernel
theorem dX8_reads_116 : decode cX8_reads 116 = .ok (.iconst 1, 1) := by decide +kernel
theorem dX8_reads_117 : decode cX8_reads 117 = .ok (.invokevirtual 232, 3) := by decide +kernel
theorem dX8_reads_120 : decode cX8_reads 120 = .ok (.istore 4, 2) := by decide +kernel
theorem dX8_reads_122 : decode cX8_reads 122 = .ok (.goto 23, 3) := by decide +kernel
theorem dX8_reads_125 : decode cX8_reads 125 = .ok (.iload_n 2, 1) := by decide +kernel
theorem dX8_reads_126 : decode cX8_reads 126 = .ok (.bipush 114, 2) := by decide +kernel
theorem dX8_reads_128 : decode cX8_reads 128 = .ok (.if_icmp .eq 9, 3) := by decide +kernel
theorem dX8_reads_131 : decode cX8_reads 131 = .ok (.iload_n 2, 1) := by decide +kernel
theorem dX8_reads_132 : decode cX8_reads 132 = .ok (.bipush 99, 2) := by decide +kernel
theorem dX8_reads_134 : decode cX8_reads 134 = .ok (.if_icmp .ne 11, 3) := by decide +kernel
theorem dX8_reads_137 : decode cX8_reads 137 = .ok (.aload_n 0, 1) := by decide +kernel
theorem dX8_reads_138 : decode cX8_reads 138 = .ok (.iconst 2, 1) := by decide +kernel
theorem dX8_reads_139 : decode cX8_reads 139 = .ok (.iconst 0, 1) := by decide +kernel
theorem dX8_reads_140 : decode cX8_reads 140 = .ok (.invokevirtual 232, 3) := by decide +kernel
theorem dX8_reads_143 : decode cX8_reads 143 = .ok (.istore 4, 2) := by decide +kernel
theorem dX8_reads_145 : decode cX8_reads 145 = .ok (.iload_n 2, 1) := by decide +kernel
theorem dX8_reads_146 : decode cX8_reads 146 = .ok (.bipush 99, 2) := by decide +kernel
theorem dX8_reads_148 : decode cX8_reads 148 = .ok (.if_icmp .ne 17, 3) := by decide +kernel
theorem dX8_reads_151 : decode cX8_reads 151 = .ok (.aload_n 0, 1) := by decide +kernel
theorem dX8_reads_152 : decode cX8_reads 152 = .ok (.bipush 44, 2) := by decide +kernel
theorem dX8_reads_154 : decode cX8_reads 154 = .ok (.invokevirtual 236, 3) := by decide +kernel
theorem dX8_reads_157 : decode cX8_reads 157 = .ok (.aload_n 0, 1) := by decide +kernel
theorem dX8_reads_158 : decode cX8_reads 158 = .ok (.iconst 3, 1) := by decide +kernel
theorem dX8_reads_159 : decode cX8_reads 159 = .ok (.iconst 1, 1) := by decide +kernel
theorem dX8_reads_160 : decode cX8_reads 160 = .ok (.invokevirtual 232, 3) := by decide +kernel
theorem dX8_reads_163 : decode cX8_reads 163 = .ok (.istore 5, 2) := by decide +kernel
theorem dX8_reads_165 : decode cX8_reads 165 = .ok (.aload_n 0, 1) := by decide +kernel
theorem dX8_reads_166 : decode cX8_reads 166 = .ok (.bipush 59, 2) := by decide +kernel
theorem dX8_reads_168 : decode cX8_reads 168 = .ok (.invokevirtual 236, 3) := by decide +kernel
theorem dX8_reads_171 : decode cX8_reads 171 = .ok (.iload_n 1, 1) := by decide +kernel
theorem dX8_reads_172 : decode cX8_reads 172 = .ok (.ifCond .eq 29, 3) := by decide +kernel
theorem dX8_reads_175 : decode cX8_reads 175 = .ok (.aload_n 0, 1) := by decide +kernel
theorem dX8_reads_176 : decode cX8_reads 176 = .ok (.dup, 1) := by decide +kernel
theorem dX8_reads_177 : decode cX8_reads 177 = .ok (.getfield 229, 3) := by decide +kernel
theorem dX8_reads_180 : decode cX8_reads 180 = .ok (.aload_n 0, 1) := by decide +kernel
theorem dX8_reads_181 : decode cX8_reads 181 = .ok (.iload_n 2, 1) := by decide +kernel
theorem dX8_reads_182 : decode cX8_reads 182 = .ok (.iload 4, 2) := by decide +kernel
theorem dX8_reads_184 : decode cX8_reads 184 = .ok (.iload 5, 2) := by decide +kernel
theorem dX8_reads_186 : decode cX8_reads 186 = .ok (.invokevirtual 239, 3) := by decide +kernel
theorem dX8_reads_189 : decode cX8_reads 189 = .ok (.ifCond .eq 7, 3) := by decide +kernel
theorem dX8_reads_192 : decode cX8_reads 192 = .ok (.iconst 1, 1) := by decide +kernel
theorem dX8_reads_193 : decode cX8_reads 193 = .ok (.goto 4, 3) := by decide +kernel
theorem dX8_reads_196 : decode cX8_reads 196 = .ok (.iconst 0, 1) := by decide +kernel
theorem dX8_reads_197 : decode cX8_reads 197 = .ok (.iadd, 1) := by decide +kernel
theorem dX8_reads_198 : decode cX8_reads 198 = .ok (.putfield 229, 3) := by decide +kernel
theorem dX8_reads_201 : decode cX8_reads 201 = .ok (.goto (-186), 3) := by decide +kernel
theorem dX8_reads_204 : decode cX8_reads 204 = .ok (.aload_n 0, 1) := by decide +kernel
theorem dX8_reads_205 : decode cX8_reads 205 = .ok (.getfield 221, 3) := by decide +kernel
theorem dX8_reads_208 : decode cX8_reads 208 = .ok (.ireturn, 1) := by decide +kernel
theorem dX8_isDone_0 : decode cX8_isDone 0 = .ok (.iload_n 1, 1) := by decide +kernel
theorem dX8_isDone_1 : decode cX8_isDone 1 = .ok (.bipush 105, 2) := by decide +kernel
theorem dX8_isDone_3 : decode cX8_isDone 3 = .ok (.if_icmp .ne 7, 3) := by decide +kernel
theorem dX8_isDone_6 : decode cX8_isDone 6 = .ok (.iconst 0, 1) := by decide +kernel
theorem dX8_isDone_7 : decode cX8_isDone 7 = .ok (.goto 34, 3) := by decide +kernel
theorem dX8_isDone_10 : decode cX8_isDone 10 = .ok (.iload_n 1, 1) := by decide +kernel
theorem dX8_isDone_11 : decode cX8_isDone 11 = .ok (.bipush 108, 2) := by decide +kernel
theorem dX8_isDone_13 : decode cX8_isDone 13 = .ok (.if_icmp .ne 7, 3) := by decide +kernel
theorem dX8_isDone_16 : decode cX8_isDone 16 = .ok (.iconst 1, 1) := by decide +kernel
theorem dX8_isDone_17 : decode cX8_isDone 17 = .ok (.goto 24, 3) := by decide +kernel
theorem dX8_isDone_20 : decode cX8_isDone 20 = .ok (.iload_n 1, 1) := by decide +kernel
theorem dX8_isDone_21 : decode cX8_isDone 21 = .ok (.bipush 103, 2) := by decide +kernel
theorem dX8_isDone_23 : decode cX8_isDone 23 = .ok (.if_icmp .ne 7, 3) := by decide +kernel
theorem dX8_isDone_26 : decode cX8_isDone 26 = .ok (.iconst 2, 1) := by decide +kernel
theorem dX8_isDone_27 : decode cX8_isDone 27 = .ok (.goto 14, 3) := by decide +kernel
theorem dX8_isDone_30 : decode cX8_isDone 30 = .ok (.iload_n 1, 1) := by decide +kernel
theorem dX8_isDone_31 : decode cX8_isDone 31 = .ok (.bipush 98, 2) := by decide +kernel
theorem dX8_isDone_33 : decode cX8_isDone 33 = .ok (.if_icmp .ne 7, 3) := by decide +kernel
theorem dX8_isDone_36 : decode cX8_isDone 36 = .ok (.iconst 4, 1) := by decide +kernel
theorem dX8_isDone_37 : decode cX8_isDone 37 = .ok (.goto 4, 3) := by decide +kernel
theorem dX8_isDone_40 : decode cX8_isDone 40 = .ok (.iconst 3, 1) := by decide +kernel
theorem dX8_isDone_41 : decode cX8_isDone 41 = .ok (.istore 4, 2) := by decide +kernel
theorem dX8_isDone_43 : decode cX8_isDone 43 = .ok (.aload_n 0, 1) := by decide +kernel
theorem dX8_isDone_44 : decode cX8_isDone 44 = .ok (.iload 4, 2) := by decide +kernel
theorem dX8_isDone_46 : decode cX8_isDone 46 = .ok (.iload_n 2, 1) := by decide +kernel
theorem dX8_isDone_47 : decode cX8_isDone 47 = .ok (.invokevirtual 203, 3) := by decide +kernel
theorem dX8_isDone_50 : decode cX8_isDone 50 = .ok (.ifCond .ne 5, 3) := by decide +kernel
theorem dX8_isDone_53 : decode cX8_isDone 53 = .ok (.iconst 0, 1) := by decide +kernel
theorem dX8_isDone_54 : decode cX8_isDone 54 = .ok (.ireturn, 1) := by decide +kernel
theorem dX8_isDone_55 : decode cX8_isDone 55 = .ok (.iload_n 1, 1) := by decide +kernel
theorem dX8_isDone_56 : decode cX8_isDone 56 = .ok (.bipush 99, 2) := by decide +kernel
theorem dX8_isDone_58 : decode cX8_isDone 58 = .ok (.if_icmp .ne 12, 3) := by decide +kernel
theorem dX8_isDone_61 : decode cX8_isDone 61 = .ok (.aload_n 0, 1) := by decide +kernel
theorem dX8_isDone_62 : decode cX8_isDone 62 = .ok (.iload_n 2, 1) := by decide +kernel
theorem dX8_isDone_63 : decode cX8_isDone 63 = .ok (.iload_n 3, 1) := by decide +kernel
theorem dX8_isDone_64 : decode cX8_isDone 64 = .ok (.invokevirtual 159, 3) := by decide +kernel
theorem dX8_isDone_67 : decode cX8_isDone 67 = .ok (.goto 12, 3) := by decide +kernel
theorem dX8_isDone_70 : decode cX8_isDone 70 = .ok (.aload_n 0, 1) := by decide +kernel
theorem dX8_isDone_71 : decode cX8_isDone 71 = .ok (.iload 4, 2) := by decide +kernel
theorem dX8_isDone_73 : decode cX8_isDone 73 = .ok (.iload_n 2, 1) := by decide +kernel
theorem dX8_isDone_74 : decode cX8_isDone 74 = .ok (.bipush 7, 2) := by decide +kernel
theorem dX8_isDone_76 : decode cX8_isDone 76 = .ok (.invokevirtual 209, 3) := by decide +kernel
theorem dX8_isDone_79 : decode cX8_isDone 79 = .ok (.iconst 1, 1) := by decide +kernel
theorem dX8_isDone_80 : decode cX8_isDone 80 = .ok (.ireturn, 1) := by decide +kernel
theorem dX8_fault_0 : decode cX8_fault 0 = .ok (.aload_n 0, 1) := by decide +kernel
theorem dX8_fault_1 : decode cX8_fault 1 = .ok (.iconst 0, 1) := by decide +kernel
theorem dX8_fault_2 : decode cX8_fault 2 = .ok (.putfield 22, 3) := by decide +kernel
theorem dX8_fault_5 : decode cX8_fault 5 = .ok (.aload_n 0, 1) := by decide +kernel
theorem dX8_fault_6 : decode cX8_fault 6 = .ok (.iconst 0, 1) := by decide +kernel
theorem dX8_fault_7 : decode cX8_fault 7 = .ok (.invokevirtual 242, 3) := by decide +kernel
theorem dX8_fault_10 : decode cX8_fault 10 = .ok (.ireturn, 1) := by decide +kernel
theorem dX8_run_0 : decode cX8_run 0 = .ok (.aload_n 0, 1) := by decide +kernel
theorem dX8_run_1 : decode cX8_run 1 = .ok (.aload_n 0, 1) := by decide +kernel
theorem dX8_run_2 : decode cX8_run 2 = .ok (.iconst 0, 1) := by decide +kernel
theorem dX8_run_3 : decode cX8_run 3 = .ok (.invokevirtual 242, 3) := by decide +kernel
theorem dX8_run_6 : decode cX8_run 6 = .ok (.iconst (-1), 1) := by decide +kernel
theorem dX8_run_7 : decode cX8_run 7 = .ok (.if_icmp .ne 7, 3) := by decide +kernel
theorem dX8_run_10 : decode cX8_run 10 = .ok (.iconst 0, 1) := by decide +kernel
theorem dX8_run_11 : decode cX8_run 11 = .ok (.goto 4, 3) := by decide +kernel
theorem dX8_run_14 : decode cX8_run 14 = .ok (.iconst 1, 1) := by decide +kernel
theorem dX8_run_15 : decode cX8_run 15 = .ok (.invokevirtual 29, 3) := by decide +kernel
theorem dX8_run_18 : decode cX8_run 18 = .ok (.ifCond .eq 5, 3) := by decide +kernel
theorem dX8_run_21 : decode cX8_run 21 = .ok (.iconst 0, 1) := by decide +kernel
theorem dX8_run_22 : decode cX8_run 22 = .ok (.ireturn, 1) := by decide +kernel
theorem dX8_run_23 : decode cX8_run 23 = .ok (.aload_n 0, 1) := by decide +kernel
theorem dX8_run_24 : decode cX8_run 24 = .ok (.invokevirtual 141, 3) := by decide +kernel
theorem dX8_run_27 : decode cX8_run 27 = .ok (.aload_n 0, 1) := by decide +kernel
theorem dX8_run_28 : decode cX8_run 28 = .ok (.iconst 1, 1) := by decide +kernel
theorem dX8_run_29 : decode cX8_run 29 = .ok (.invokevirtual 242, 3) := by decide +kernel
theorem dX8_run_32 : decode cX8_run 32 = .ok (.istore_n 1, 1) := by decide +kernel
theorem dX8_run_33 : decode cX8_run 33 = .ok (.aload_n 0, 1) := by decide +kernel
theorem dX8_run_34 : decode cX8_run 34 = .ok (.getfield 229, 3) := by decide +kernel
theorem dX8_run_37 : decode cX8_run 37 = .ok (.ireturn, 1) := by decide +kernel
theorem dX8_mix_0 : decode cX8_mix 0 = .ok (.aload_n 0, 1) := by decide +kernel
theorem dX8_mix_1 : decode cX8_mix 1 = .ok (.ldc2_w 246, 3) := by decide +kernel
theorem dX8_mix_4 : decode cX8_mix 4 = .ok (.aload_n 0, 1) := by decide +kernel
theorem dX8_mix_5 : decode cX8_mix 5 = .ok (.getfield 248, 3) := by decide +kernel
theorem dX8_mix_8 : decode cX8_mix 8 = .ok (.lmul, 1) := by decide +kernel
theorem dX8_mix_9 : decode cX8_mix 9 = .ok (.lload_n 1, 1) := by decide +kernel
theorem dX8_mix_10 : decode cX8_mix 10 = .ok (.ladd, 1) := by decide +kernel
theorem dX8_mix_11 : decode cX8_mix 11 = .ok (.putfield 248, 3) := by decide +kernel
theorem dX8_mix_14 : decode cX8_mix 14 = .ok (.return_, 1) := by decide +kernel
theorem dX8_checksum_0 : decode cX8_checksum 0 = .ok (.aload_n 0, 1) := by decide +kernel
theorem dX8_checksum_1 : decode cX8_checksum 1 = .ok (.iconst 0, 1) := by decide +kernel
theorem dX8_checksum_2 : decode cX8_checksum 2 = .ok (.putfield 22, 3) := by decide +kernel
theorem dX8_checksum_5 : decode cX8_checksum 5 = .ok (.aload_n 0, 1) := by decide +kernel
theorem dX8_checksum_6 : decode cX8_checksum 6 = .ok (.ldc2_w 252, 3) := by decide +kernel
theorem dX8_checksum_9 : decode cX8_checksum 9 = .ok (.putfield 248, 3) := by decide +kernel
theorem dX8_checksum_12 : decode cX8_checksum 12 = .ok (.aload_n 0, 1) := by decide +kernel
theorem dX8_checksum_13 : decode cX8_checksum 13 = .ok (.aload_n 0, 1) := by decide +kernel
theorem dX8_checksum_14 : decode cX8_checksum 14 = .ok (.invokevirtual 95, 3) := by decide +kernel
theorem dX8_checksum_17 : decode cX8_checksum 17 = .ok (.i2l, 1) := by decide +kernel
theorem dX8_checksum_18 : decode cX8_checksum 18 = .ok (.invokevirtual 254, 3) := by decide +kernel
theorem dX8_checksum_21 : decode cX8_checksum 21 = .ok (.aload_n 0, 1) := by decide +kernel
theorem dX8_checksum_22 : decode cX8_checksum 22 = .ok (.aload_n 0, 1) := by decide +kernel
theorem dX8_checksum_23 : decode cX8_checksum 23 = .ok (.invokevirtual 168, 3) := by decide +kernel
theorem dX8_checksum_26 : decode cX8_checksum 26 = .ok (.i2l, 1) := by decide +kernel
theorem dX8_checksum_27 : decode cX8_checksum 27 = .ok (.invokevirtual 254, 3) := by decide +kernel
theorem dX8_checksum_30 : decode cX8_checksum 30 = .ok (.iconst 0, 1) := by decide +kernel
theorem dX8_checksum_31 : decode cX8_checksum 31 = .ok (.istore_n 1, 1) := by decide +kernel
theorem dX8_checksum_32 : decode cX8_checksum 32 = .ok (.iload_n 1, 1) := by decide +kernel
theorem dX8_checksum_33 : decode cX8_checksum 33 = .ok (.bipush 30, 2) := by decide +kernel
theorem dX8_checksum_35 : decode cX8_checksum 35 = .ok (.if_icmp .ge 28, 3) := by decide +kernel
theorem dX8_checksum_38 : decode cX8_checksum 38 = .ok (.aload_n 0, 1) := by decide +kernel
theorem dX8_checksum_39 : decode cX8_checksum 39 = .ok (.iload_n 1, 1) := by decide +kernel
theorem dX8_checksum_40 : decode cX8_checksum 40 = .ok (.invokevirtual 49, 3) := by decide +kernel
theorem dX8_checksum_43 : decode cX8_checksum 43 = .ok (.ifCond .eq 14, 3) := by decide +kernel
theorem dX8_checksum_46 : decode cX8_checksum 46 = .ok (.aload_n 0, 1) := by decide +kernel
theorem dX8_checksum_47 : decode cX8_checksum 47 = .ok (.aload_n 0, 1) := by decide +kernel
theorem dX8_checksum_48 : decode cX8_checksum 48 = .ok (.getfield 7, 3) := by decide +kernel
theorem dX8_checksum_51 : decode cX8_checksum 51 = .ok (.iload_n 1, 1) := by decide +kernel
theorem dX8_checksum_52 : decode cX8_checksum 52 = .ok (.iaload, 1) := by decide +kernel
theorem dX8_checksum_53 : decode cX8_checksum 53 = .ok (.i2l, 1) := by decide +kernel
theorem dX8_checksum_54 : decode cX8_checksum 54 = .ok (.invokevirtual 254, 3) := by decide +kernel
theorem dX8_checksum_57 : decode cX8_checksum 57 = .ok (.iinc 1 1, 3) := by decide +kernel
theorem dX8_checksum_60 : decode cX8_checksum 60 = .ok (.goto (-28), 3) := by decide +kernel
theorem dX8_checksum_63 : decode cX8_checksum 63 = .ok (.iconst 0, 1) := by decide +kernel
theorem dX8_checksum_64 : decode cX8_checksum 64 = .ok (.istore_n 1, 1) := by decide +kernel
theorem dX8_checksum_65 : decode cX8_checksum 65 = .ok (.iload_n 1, 1) := by decide +kernel
theorem dX8_checksum_66 : decode cX8_checksum 66 = .ok (.iconst 4, 1) := by decide +kernel
theorem dX8_checksum_67 : decode cX8_checksum 67 = .ok (.if_icmp .ge 46, 3) := by decide +kernel
theorem dX8_checksum_70 : decode cX8_checksum 70 = .ok (.iconst 0, 1) := by decide +kernel
theorem dX8_checksum_71 : decode cX8_checksum 71 = .ok (.istore_n 2, 1) := by decide +kernel
theorem dX8_checksum_72 : decode cX8_checksum 72 = .ok (.iload_n 2, 1) := by decide +kernel
theorem dX8_checksum_73 : decode cX8_checksum 73 = .ok (.aload_n 0, 1) := by decide +kernel
theorem dX8_checksum_74 : decode cX8_checksum 74 = .ok (.invokevirtual 95, 3) := by decide +kernel
theorem dX8_checksum_77 : decode cX8_checksum 77 = .ok (.if_icmp .ge 20, 3) := by decide +kernel
theorem dX8_checksum_80 : decode cX8_checksum 80 = .ok (.aload_n 0, 1) := by decide +kernel
theorem dX8_checksum_81 : decode cX8_checksum 81 = .ok (.aload_n 0, 1) := by decide +kernel
theorem dX8_checksum_82 : decode cX8_checksum 82 = .ok (.iload_n 1, 1) := by decide +kernel
theorem dX8_checksum_83 : decode cX8_checksum 83 = .ok (.iload_n 2, 1) := by decide +kernel
theorem dX8_checksum_84 : decode cX8_checksum 84 = .ok (.invokevirtual 37, 3) := by decide +kernel
theorem dX8_checksum_87 : decode cX8_checksum 87 = .ok (.i2l, 1) := by decide +kernel
theorem dX8_checksum_88 : decode cX8_checksum 88 = .ok (.invokevirtual 254, 3) := by decide +kernel
theorem dX8_checksum_91 : decode cX8_checksum 91 = .ok (.iinc 2 1, 3) := by decide +kernel
theorem dX8_checksum_94 : decode cX8_checksum 94 = .ok (.goto (-22), 3) := by decide +kernel
theorem dX8_checksum_97 : decode cX8_checksum 97 = .ok (.aload_n 0, 1) := by decide +kernel
theorem dX8_checksum_98 : decode cX8_checksum 98 = .ok (.aload_n 0, 1) := by decide +kernel
theorem dX8_checksum_99 : decode cX8_checksum 99 = .ok (.iload_n 1, 1) := by decide +kernel
theorem dX8_checksum_100 : decode cX8_checksum 100 = .ok (.invokevirtual 196, 3) := by decide +kernel
theorem dX8_checksum_103 : decode cX8_checksum 103 = .ok (.i2l, 1) := by decide +kernel
theorem dX8_checksum_104 : decode cX8_checksum 104 = .ok (.invokevirtual 254, 3) := by decide +kernel
theorem dX8_checksum_107 : decode cX8_checksum 107 = .ok (.iinc 1 1, 3) := by decide +kernel
theorem dX8_checksum_110 : decode cX8_checksum 110 = .ok (.goto (-45), 3) := by decide +kernel
theorem dX8_checksum_113 : decode cX8_checksum 113 = .ok (.iconst 0, 1) := by decide +kernel
theorem dX8_checksum_114 : decode cX8_checksum 114 = .ok (.istore_n 1, 1) := by decide +kernel
theorem dX8_checksum_115 : decode cX8_checksum 115 = .ok (.iload_n 1, 1) := by decide +kernel
theorem dX8_checksum_116 : decode cX8_checksum 116 = .ok (.iconst 3, 1) := by decide +kernel
theorem dX8_checksum_117 : decode cX8_checksum 117 = .ok (.if_icmp .ge 24, 3) := by decide +kernel
theorem dX8_checksum_120 : decode cX8_checksum 120 = .ok (.aload_n 0, 1) := by decide +kernel
theorem dX8_checksum_121 : decode cX8_checksum 121 = .ok (.aload_n 0, 1) := by decide +kernel
theorem dX8_checksum_122 : decode cX8_checksum 122 = .ok (.getfield 7, 3) := by decide +kernel
theorem dX8_checksum_125 : decode cX8_checksum 125 = .ok (.sipush 181, 3) := by decide +kernel
theorem dX8_checksum_128 : decode cX8_checksum 128 = .ok (.iload_n 1, 1) := by decide +kernel
theorem dX8_checksum_129 : decode cX8_checksum 129 = .ok (.iadd, 1) := by decide +kernel
theorem dX8_checksum_130 : decode cX8_checksum 130 = .ok (.iaload, 1) := by decide +kernel
theorem dX8_checksum_131 : decode cX8_checksum 131 = .ok (.i2l, 1) := by decide +kernel
theorem dX8_checksum_132 : decode cX8_checksum 132 = .ok (.invokevirtual 254, 3) := by decide +kernel
theorem dX8_checksum_135 : decode cX8_checksum 135 = .ok (.iinc 1 1, 3) := by decide +kernel
theorem dX8_checksum_138 : decode cX8_checksum 138 = .ok (.goto (-23), 3) := by decide +kernel
theorem dX8_checksum_141 : decode cX8_checksum 141 = .ok (.aload_n 0, 1) := by decide +kernel
theorem dX8_checksum_142 : decode cX8_checksum 142 = .ok (.aload_n 0, 1) := by decide +kernel
theorem dX8_checksum_143 : decode cX8_checksum 143 = .ok (.getfield 215, 3) := by decide +kernel
theorem dX8_checksum_146 : decode cX8_checksum 146 = .ok (.i2l, 1) := by decide +kernel
theorem dX8_checksum_147 : decode cX8_checksum 147 = .ok (.invokevirtual 254, 3) := by decide +kernel
theorem dX8_checksum_150 : decode cX8_checksum 150 = .ok (.aload_n 0, 1) := by decide +kernel
theorem dX8_checksum_151 : decode cX8_checksum 151 = .ok (.aload_n 0, 1) := by decide +kernel
theorem dX8_checksum_152 : decode cX8_checksum 152 = .ok (.getfield 26, 3) := by decide +kernel
theorem dX8_checksum_155 : decode cX8_checksum 155 = .ok (.i2l, 1) := by decide +kernel
theorem dX8_checksum_156 : decode cX8_checksum 156 = .ok (.invokevirtual 254, 3) := by decide +kernel
theorem dX8_checksum_159 : decode cX8_checksum 159 = .ok (.aload_n 0, 1) := by decide +kernel
theorem dX8_checksum_160 : decode cX8_checksum 160 = .ok (.getfield 248, 3) := by decide +kernel
theorem dX8_checksum_163 : decode cX8_checksum 163 = .ok (.lreturn, 1) := by decide +kernel
