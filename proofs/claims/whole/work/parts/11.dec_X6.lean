theorem dX6_init_0 : decode cX6_init 0 = .ok (.aload_n 0, 1) := by decide +kernel
theorem dX6_init_1 : decode cX6_init 1 = .ok (.invokespecial 3, 3) := by decide +kernel
theorem dX6_init_4 : decode cX6_init 4 = .ok (.aload_n 0, 1) := by decide +kernel
theorem dX6_init_5 : decode cX6_init 5 = .ok (.bipush 120, 2) := by decide +kernel
theorem dX6_init_7 : decode cX6_init 7 = .ok (.newarray .char, 2) := by decide +kernel
theorem dX6_init_9 : decode cX6_init 9 = .ok (.putfield 9, 3) := by decide +kernel
theorem dX6_init_12 : decode cX6_init 12 = .ok (.return_, 1) := by decide +kernel
theorem dX6_append_0 : decode cX6_append 0 = .ok (.aload_n 0, 1) := by decide +kernel
theorem dX6_append_1 : decode cX6_append 1 = .ok (.getfield 15, 3) := by decide +kernel
theorem dX6_append_4 : decode cX6_append 4 = .ok (.aload_n 0, 1) := by decide +kernel
theorem dX6_append_5 : decode cX6_append 5 = .ok (.getfield 9, 3) := by decide +kernel
theorem dX6_append_8 : decode cX6_append 8 = .ok (.arraylength, 1) := by decide +kernel
theorem dX6_append_9 : decode cX6_append 9 = .ok (.if_icmp .ge 23, 3) := by decide +kernel
theorem dX6_append_12 : decode cX6_append 12 = .ok (.aload_n 0, 1) := by decide +kernel
theorem dX6_append_13 : decode cX6_append 13 = .ok (.getfield 9, 3) := by decide +kernel
theorem dX6_append_16 : decode cX6_append 16 = .ok (.aload_n 0, 1) := by decide +kernel
theorem dX6_append_17 : decode cX6_append 17 = .ok (.getfield 15, 3) := by decide +kernel
theorem dX6_append_20 : decode cX6_append 20 = .ok (.iload_n 1, 1) := by decide +kernel
theorem dX6_append_21 : decode cX6_append 21 = .ok (.castore, 1) := by decide +kernel
theorem dX6_append_22 : decode cX6_append 22 = .ok (.aload_n 0, 1) := by decide +kernel
theorem dX6_append_23 : decode cX6_append 23 = .ok (.dup, 1) := by decide +kernel
theorem dX6_append_24 : decode cX6_append 24 = .ok (.getfield 15, 3) := by decide +kernel
theorem dX6_append_27 : decode cX6_append 27 = .ok (.iconst 1, 1) := by decide +kernel
theorem dX6_append_28 : decode cX6_append 28 = .ok (.iadd, 1) := by decide +kernel
theorem dX6_append_29 : decode cX6_append 29 = .ok (.putfield 15, 3) := by decide +kernel
theorem dX6_append_32 : decode cX6_append 32 = .ok (.return_, 1) := by decide +kernel
theorem dX6_rewind_0 : decode cX6_rewind 0 = .ok (.aload_n 0, 1) := by decide +kernel
theorem dX6_rewind_1 : decode cX6_rewind 1 = .ok (.iconst 0, 1) := by decide +kernel
theorem dX6_rewind_2 : decode cX6_rewind 2 = .ok (.putfield 19, 3) := by decide +kernel
theorem dX6_rewind_5 : decode cX6_rewind 5 = .ok (.return_, 1) := by decide +kernel
theorem dX6_firstFault_0 : decode cX6_firstFault 0 = .ok (.aload_n 0, 1) := by decide +kernel
theorem dX6_firstFault_1 : decode cX6_firstFault 1 = .ok (.invokevirtual 22, 3) := by decide +kernel
theorem dX6_firstFault_4 : decode cX6_firstFault 4 = .ok (.iconst 0, 1) := by decide +kernel
theorem dX6_firstFault_5 : decode cX6_firstFault 5 = .ok (.istore_n 1, 1) := by decide +kernel
theorem dX6_firstFault_6 : decode cX6_firstFault 6 = .ok (.iload_n 1, 1) := by decide +kernel
theorem dX6_firstFault_7 : decode cX6_firstFault 7 = .ok (.bipush 120, 2) := by decide +kernel
theorem dX6_firstFault_9 : decode cX6_firstFault 9 = .ok (.if_icmp .ge 32, 3) := by decide +kernel
theorem dX6_firstFault_12 : decode cX6_firstFault 12 = .ok (.aload_n 0, 1) := by decide +kernel
theorem dX6_firstFault_13 : decode cX6_firstFault 13 = .ok (.getfield 19, 3) := by decide +kernel
theorem dX6_firstFault_16 : decode cX6_firstFault 16 = .ok (.aload_n 0, 1) := by decide +kernel
theorem dX6_firstFault_17 : decode cX6_firstFault 17 = .ok (.getfield 15, 3) := by decide +kernel
theorem dX6_firstFault_20 : decode cX6_firstFault 20 = .ok (.if_icmp .ge 21, 3) := by decide +kernel
theorem dX6_firstFault_23 : decode cX6_firstFault 23 = .ok (.aload_n 0, 1) := by decide +kernel
theorem dX6_firstFault_24 : decode cX6_firstFault 24 = .ok (.invokevirtual 25, 3) := by decide +kernel
theorem dX6_firstFault_27 : decode cX6_firstFault 27 = .ok (.ifCond .ne 8, 3) := by decide +kernel
theorem dX6_firstFault_30 : decode cX6_firstFault 30 = .ok (.aload_n 0, 1) := by decide +kernel
theorem dX6_firstFault_31 : decode cX6_firstFault 31 = .ok (.getfield 19, 3) := by decide +kernel
theorem dX6_firstFault_34 : decode cX6_firstFault 34 = .ok (.ireturn, 1) := by decide +kernel
theorem dX6_firstFault_35 : decode cX6_firstFault 35 = .ok (.iinc 1 1, 3) := by decide +kernel
theorem dX6_firstFault_38 : decode cX6_firstFault 38 = .ok (.goto (-32), 3) := by decide +kernel
theorem dX6_firstFault_41 : decode cX6_firstFault 41 = .ok (.iconst (-1), 1) := by decide +kernel
theorem dX6_firstFault_42 : decode cX6_firstFault 42 = .ok (.ireturn, 1) := by decide +kernel
theorem dX6_readCommand_0 : decode cX6_readCommand 0 = .ok (.aload_n 0, 1) := by decide +kernel
theorem dX6_readCommand_1 : decode cX6_readCommand 1 = .ok (.aload_n 0, 1) := by decide +kernel
theorem dX6_readCommand_2 : decode cX6_readCommand 2 = .ok (.invokevirtual 29, 3) := by decide +kernel
theorem dX6_readCommand_5 : decode cX6_readCommand 5 = .ok (.invokestatic 33, 3) := by decide +kernel
theorem dX6_readCommand_8 : decode cX6_readCommand 8 = .ok (.putfield 37, 3) := by decide +kernel
theorem dX6_readCommand_11 : decode cX6_readCommand 11 = .ok (.aload_n 0, 1) := by decide +kernel
theorem dX6_readCommand_12 : decode cX6_readCommand 12 = .ok (.getfield 37, 3) := by decide +kernel
theorem dX6_readCommand_15 : decode cX6_readCommand 15 = .ok (.iconst (-1), 1) := by decide +kernel
theorem dX6_readCommand_16 : decode cX6_readCommand 16 = .ok (.if_icmp .ne 5, 3) := by decide +kernel
theorem dX6_readCommand_19 : decode cX6_readCommand 19 = .ok (.iconst 0, 1) := by decide +kernel
theorem dX6_readCommand_20 : decode cX6_readCommand 20 = .ok (.ireturn, 1) := by decide +kernel
theorem dX6_readCommand_21 : decode cX6_readCommand 21 = .ok (.aload_n 0, 1) := by decide +kernel
theorem dX6_readCommand_22 : decode cX6_readCommand 22 = .ok (.dup, 1) := by decide +kernel
theorem dX6_readCommand_23 : decode cX6_readCommand 23 = .ok (.getfield 19, 3) := by decide +kernel
theorem dX6_readCommand_26 : decode cX6_readCommand 26 = .ok (.iconst 1, 1) := by decide +kernel
theorem dX6_readCommand_27 : decode cX6_readCommand 27 = .ok (.iadd, 1) := by decide +kernel
theorem dX6_readCommand_28 : decode cX6_readCommand 28 = .ok (.putfield 19, 3) := by decide +kernel
theorem dX6_readCommand_31 : decode cX6_readCommand 31 = .ok (.aload_n 0, 1) := by decide +kernel
theorem dX6_readCommand_32 : decode cX6_readCommand 32 = .ok (.invokevirtual 40, 3) := by decide +kernel
theorem dX6_readCommand_35 : decode cX6_readCommand 35 = .ok (.ifCond .eq 16, 3) := by decide +kernel
theorem dX6_readCommand_38 : decode cX6_readCommand 38 = .ok (.aload_n 0, 1) := by decide +kernel
theorem dX6_readCommand_39 : decode cX6_readCommand 39 = .ok (.bipush 59, 2) := by decide +kernel
theorem dX6_readCommand_41 : decode cX6_readCommand 41 = .ok (.invokevirtual 43, 3) := by decide +kernel
theorem dX6_readCommand_44 : decode cX6_readCommand 44 = .ok (.ifCond .eq 7, 3) := by decide +kernel
theorem dX6_readCommand_47 : decode cX6_readCommand 47 = .ok (.iconst 1, 1) := by decide +kernel
theorem dX6_readCommand_48 : decode cX6_readCommand 48 = .ok (.goto 4, 3) := by decide +kernel
theorem dX6_readCommand_51 : decode cX6_readCommand 51 = .ok (.iconst 0, 1) := by decide +kernel
theorem dX6_readCommand_52 : decode cX6_readCommand 52 = .ok (.ireturn, 1) := by decide +kernel
theorem dX6_commandOf_0 : decode cX6_commandOf 0 = .ok (.iload_n 0, 1) := by decide +kernel
theorem dX6_commandOf_1 : decode cX6_commandOf 1 = .ok (.tableswitch 95 98 114 #[93, 91, 95, 95, 95, 87, 95, 83, 95, 95, 85, 95, 95, 95, 95, 95, 89], 83) := by decide +kernel
theorem dX6_commandOf_84 : decode cX6_commandOf 84 = .ok (.iconst 0, 1) := by decide +kernel
theorem dX6_commandOf_85 : decode cX6_commandOf 85 = .ok (.ireturn, 1) := by decide +kernel
theorem dX6_commandOf_86 : decode cX6_commandOf 86 = .ok (.iconst 1, 1) := by decide +kernel
theorem dX6_commandOf_87 : decode cX6_commandOf 87 = .ok (.ireturn, 1) := by decide +kernel
theorem dX6_commandOf_88 : decode cX6_commandOf 88 = .ok (.iconst 2, 1) := by decide +kernel
theorem dX6_commandOf_89 : decode cX6_commandOf 89 = .ok (.ireturn, 1) := by decide +kernel
theorem dX6_commandOf_90 : decode cX6_commandOf 90 = .ok (.iconst 3, 1) := by decide +kernel
theorem dX6_commandOf_91 : decode cX6_commandOf 91 = .ok (.ireturn, 1) := by decide +kernel
theorem dX6_commandOf_92 : decode cX6_commandOf 92 = .ok (.iconst 5, 1) := by decide +kernel
theorem dX6_commandOf_93 : decode cX6_commandOf 93 = .ok (.ireturn, 1) := by decide +kernel
theorem dX6_commandOf_94 : decode cX6_commandOf 94 = .ok (.iconst 4, 1) := by decide +kernel
theorem dX6_commandOf_95 : decode cX6_commandOf 95 = .ok (.ireturn, 1) := by decide +kernel
theorem dX6_commandOf_96 : decode cX6_commandOf 96 = .ok (.iconst (-1), 1) := by decide +kernel
theorem dX6_commandOf_97 : decode cX6_commandOf 97 = .ok (.ireturn, 1) := by decide +kernel
theorem dX6_readArguments_0 : decode cX6_readArguments 0 = .ok (.aload_n 0, 1) := by decide +kernel
theorem dX6_readArguments_1 : decode cX6_readArguments 1 = .ok (.getfield 37, 3) := by decide +kernel
theorem dX6_readArguments_4 : decode cX6_readArguments 4 = .ok (.lookupswitch 75 #[(0, 36), (3, 41), (5, 46)], 36) := by decide +kernel
theorem dX6_readArguments_40 : decode cX6_readArguments 40 = .ok (.aload_n 0, 1) := by decide +kernel
theorem dX6_readArguments_41 : decode cX6_readArguments 41 = .ok (.invokevirtual 47, 3) := by decide +kernel
theorem dX6_readArguments_44 : decode cX6_readArguments 44 = .ok (.ireturn, 1) := by decide +kernel
theorem dX6_readArguments_45 : decode cX6_readArguments 45 = .ok (.aload_n 0, 1) := by decide +kernel
theorem dX6_readArguments_46 : decode cX6_readArguments 46 = .ok (.invokevirtual 50, 3) := by decide +kernel
theorem dX6_readArguments_49 : decode cX6_readArguments 49 = .ok (.ireturn, 1) := by decide +kernel
theorem dX6_readArguments_50 : decode cX6_readArguments 50 = .ok (.aload_n 0, 1) := by decide +kernel
theorem dX6_readArguments_51 : decode cX6_readArguments 51 = .ok (.invokevirtual 50, 3) := by decide +kernel
theorem dX6_readArguments_54 : decode cX6_readArguments 54 = .ok (.ifCond .eq 23, 3) := by decide +kernel
theorem dX6_readArguments_57 : decode cX6_readArguments 57 = .ok (.aload_n 0, 1) := by decide +kernel
theorem dX6_readArguments_58 : decode cX6_readArguments 58 = .ok (.bipush 44, 2) := by decide +kernel
theorem dX6_readArguments_60 : decode cX6_readArguments 60 = .ok (.invokevirtual 43, 3) := by decide +kernel
theorem dX6_readArguments_63 : decode cX6_readArguments 63 = .ok (.ifCond .eq 14, 3) := by decide +kernel
theorem dX6_readArguments_66 : decode cX6_readArguments 66 = .ok (.aload_n 0, 1) := by decide +kernel
theorem dX6_readArguments_67 : decode cX6_readArguments 67 = .ok (.invokevirtual 47, 3) := by decide +kernel
theorem dX6_readArguments_70 : decode cX6_readArguments 70 = .ok (.ifCond .eq 7, 3) := by decide +kernel
theorem dX6_readArguments_73 : decode cX6_readArguments 73 = .ok (.iconst 1, 1) := by decide +kernel
theorem dX6_readArguments_74 : decode cX6_readArguments 74 = .ok (.goto 4, 3) := by decide +kernel
theorem dX6_readArguments_77 : decode cX6_readArguments 77 = .ok (.iconst 0, 1) := by decide +kernel
theorem dX6_readArguments_78 : decode cX6_readArguments 78 = .ok (.ireturn, 1) := by decide +kernel
theorem dX6_readArguments_79 : decode cX6_readArguments 79 = .ok (.iconst 1, 1) := by decide +kernel
theorem dX6_readArguments_80 : decode cX6_readArguments 80 = .ok (.ireturn, 1) := by decide +kernel
theorem dX6_readKey_0 : decode cX6_readKey 0 = .ok (.aload_n 0, 1) := by decide +kernel
theorem dX6_readKey_1 : decode cX6_readKey 1 = .ok (.bipush 45, 2) := by decide +kernel
theorem dX6_readKey_3 : decode cX6_readKey 3 = .ok (.invokevirtual 43, 3) := by decide +kernel
theorem dX6_readKey_6 : decode cX6_readKey 6 = .ok (.istore_n 1, 1) := by decide +kernel
theorem dX6_readKey_7 : decode cX6_readKey 7 = .ok (.aload_n 0, 1) := by decide +kernel
theorem dX6_readKey_8 : decode cX6_readKey 8 = .ok (.iconst 3, 1) := by decide +kernel
theorem dX6_readKey_9 : decode cX6_readKey 9 = .ok (.invokevirtual 53, 3) := by decide +kernel
theorem dX6_readKey_12 : decode cX6_readKey 12 = .ok (.istore_n 2, 1) := by decide +kernel
theorem dX6_readKey_13 : decode cX6_readKey 13 = .ok (.aload_n 0, 1) := by decide +kernel
theorem dX6_readKey_14 : decode cX6_readKey 14 = .ok (.iload_n 1, 1) := by decide +kernel
theorem dX6_readKey_15 : decode cX6_readKey 15 = .ok (.ifCond .eq 11, 3) := by decide +kernel
theorem dX6_readKey_18 : decode cX6_readKey 18 = .ok (.aload_n 0, 1) := by decide +kernel
theorem dX6_readKey_19 : decode cX6_readKey 19 = .ok (.getfield 57, 3) := by decide +kernel
theorem dX6_readKey_22 : decode cX6_readKey 22 = .ok (.ineg, 1) := by decide +kernel
theorem dX6_readKey_23 : decode cX6_readKey 23 = .ok (.goto 7, 3) := by decide +kernel
theorem dX6_readKey_26 : decode cX6_readKey 26 = .ok (.aload_n 0, 1) := by decide +kernel
theorem dX6_readKey_27 : decode cX6_readKey 27 = .ok (.getfield 57, 3) := by decide +kernel
theorem dX6_readKey_30 : decode cX6_readKey 30 = .ok (.putfield 60, 3) := by decide +kernel
theorem dX6_readKey_33 : decode cX6_readKey 33 = .ok (.iload_n 2, 1) := by decide +kernel
theorem dX6_readKey_34 : decode cX6_readKey 34 = .ok (.ireturn, 1) := by decide +kernel
theorem dX6_readHandle_0 : decode cX6_readHandle 0 = .ok (.aload_n 0, 1) := by decide +kernel
theorem dX6_readHandle_1 : decode cX6_readHandle 1 = .ok (.iconst 2, 1) := by decide +kernel
theorem dX6_readHandle_2 : decode cX6_readHandle 2 = .ok (.invokevirtual 53, 3) := by decide +kernel
theorem dX6_readHandle_5 : decode cX6_readHandle 5 = .ok (.istore_n 1, 1) := by decide +kernel
theorem dX6_readHandle_6 : decode cX6_readHandle 6 = .ok (.aload_n 0, 1) := by decide +kernel
theorem dX6_readHandle_7 : decode cX6_readHandle 7 = .ok (.aload_n 0, 1) := by decide +kernel
theorem dX6_readHandle_8 : decode cX6_readHandle 8 = .ok (.getfield 57, 3) := by decide +kernel
theorem dX6_readHandle_11 : decode cX6_readHandle 11 = .ok (.putfield 63, 3) := by decide +kernel
theorem dX6_readHandle_14 : decode cX6_readHandle 14 = .ok (.iload_n 1, 1) := by decide +kernel
theorem dX6_readHandle_15 : decode cX6_readHandle 15 = .ok (.ireturn, 1) := by decide +kernel
theorem dX6_readNumber_0 : decode cX6_readNumber 0 = .ok (.aload_n 0, 1) := by decide +kernel
theorem dX6_readNumber_1 : decode cX6_readNumber 1 = .ok (.iconst 0, 1) := by decide +kernel
theorem dX6_readNumber_2 : decode cX6_readNumber 2 = .ok (.putfield 57, 3) := by decide +kernel
theorem dX6_readNumber_5 : decode cX6_readNumber 5 = .ok (.iconst 0, 1) := by decide +kernel
theorem dX6_readNumber_6 : decode cX6_readNumber 6 = .ok (.istore_n 2, 1) := by decide +kernel
theorem dX6_readNumber_7 : decode cX6_readNumber 7 = .ok (.iload_n 2, 1) := by decide +kernel
theorem dX6_readNumber_8 : decode cX6_readNumber 8 = .ok (.iload_n 1, 1) := by decide +kernel
theorem dX6_readNumber_9 : decode cX6_readNumber 9 = .ok (.if_icmp .ge 56, 3) := by decide +kernel
theorem dX6_readNumber_12 : decode cX6_readNumber 12 = .ok (.aload_n 0, 1) := by decide +kernel
theorem dX6_readNumber_13 : decode cX6_readNumber 13 = .ok (.invokevirtual 29, 3) := by decide +kernel
theorem dX6_readNumber_16 : decode cX6_readNumber 16 = .ok (.bipush 48, 2) := by decide +kernel
theorem dX6_readNumber_18 : decode cX6_readNumber 18 = .ok (.if_icmp .lt 47, 3) := by decide +kernel
theorem dX6_readNumber_21 : decode cX6_readNumber 21 = .ok (.aload_n 0, 1) := by decide +kernel
theorem dX6_readNumber_22 : decode cX6_readNumber 22 = .ok (.invokevirtual 29, 3) := by decide +kernel
theorem dX6_readNumber_25 : decode cX6_readNumber 25 = .ok (.bipush 57, 2) := by decide +kernel
theorem dX6_readNumber_27 : decode cX6_readNumber 27 = .ok (.if_icmp .gt 38, 3) := by decide +kernel
theorem dX6_readNumber_30 : decode cX6_readNumber 30 = .ok (.aload_n 0, 1) := by decide +kernel
theorem dX6_readNumber_31 : decode cX6_readNumber 31 = .ok (.bipush 10, 2) := by decide +kernel
theorem dX6_readNumber_33 : decode cX6_readNumber 33 = .ok (.aload_n 0, 1) := by decide +kernel
theorem dX6_readNumber_34 : decode cX6_readNumber 34 = .ok (.getfield 57, 3) := by decide +kernel
theorem dX6_readNumber_37 : decode cX6_readNumber 37 = .ok (.imul, 1) := by decide +kernel
theorem dX6_readNumber_38 : decode cX6_readNumber 38 = .ok (.aload_n 0, 1) := by decide +kernel
theorem dX6_readNumber_39 : decode cX6_readNumber 39 = .ok (.invokevirtual 29, 3) := by decide +kernel
theorem dX6_readNumber_42 : decode cX6_readNumber 42 = .ok (.bipush 48, 2) := by decide +kernel
theorem dX6_readNumber_44 : decode cX6_readNumber 44 = .ok (.isub, 1) := by decide +kernel
theorem dX6_readNumber_45 : decode cX6_readNumber 45 = .ok (.iadd, 1) := by decide +kernel
theorem dX6_readNumber_46 : decode cX6_readNumber 46 = .ok (.putfield 57, 3) := by decide +kernel
theorem dX6_readNumber_49 : decode cX6_readNumber 49 = .ok (.aload_n 0, 1) := by decide +kernel
theorem dX6_readNumber_50 : decode cX6_readNumber 50 = .ok (.dup, 1) := by decide +kernel
theorem dX6_readNumber_51 : decode cX6_readNumber 51 = .ok (.getfield 19, 3) := by decide +kernel
theorem dX6_readNumber_54 : decode cX6_readNumber 54 = .ok (.iconst 1, 1) := by decide +kernel
theorem dX6_readNumber_55 : decode cX6_readNumber 55 = .ok (.iadd, 1) := by decide +kernel
theorem dX6_readNumber_56 : decode cX6_readNumber 56 = .ok (.putfield 19, 3) := by decide +kernel
theorem dX6_readNumber_59 : decode cX6_readNumber 59 = .ok (.iinc 2 1, 3) := by decide +kernel
theorem dX6_readNumber_62 : decode cX6_readNumber 62 = .ok (.goto (-55), 3) := by decide +kernel
theorem dX6_readNumber_65 : decode cX6_readNumber 65 = .ok (.iload_n 2, 1) := by decide +kernel
theorem dX6_readNumber_66 : decode cX6_readNumber 66 = .ok (.ifCond .le 7, 3) := by decide +kernel
theorem dX6_readNumber_69 : decode cX6_readNumber 69 = .ok (.iconst 1, 1) := by decide +kernel
theorem dX6_readNumber_70 : decode cX6_readNumber 70 = .ok (.goto 4, 3) := by decide +kernel
theorem dX6_readNumber_73 : decode cX6_readNumber 73 = .ok (.iconst 0, 1) := by decide +kernel
theorem dX6_readNumber_74 : decode cX6_readNumber 74 = .ok (.ireturn, 1) := by decide +kernel
theorem dX6_readSign_0 : decode cX6_readSign 0 = .ok (.aload_n 0, 1) := by decide +kernel
theorem dX6_readSign_1 : decode cX6_readSign 1 = .ok (.invokevirtual 29, 3) := by decide +kernel
theorem dX6_readSign_4 : decode cX6_readSign 4 = .ok (.iload_n 1, 1) := by decide +kernel
theorem dX6_readSign_5 : decode cX6_readSign 5 = .ok (.if_icmp .eq 5, 3) := by decide +kernel
theorem dX6_readSign_8 : decode cX6_readSign 8 = .ok (.iconst 0, 1) := by decide +kernel
theorem dX6_readSign_9 : decode cX6_readSign 9 = .ok (.ireturn, 1) := by decide +kernel
theorem dX6_readSign_10 : decode cX6_readSign 10 = .ok (.aload_n 0, 1) := by decide +kernel
theorem dX6_readSign_11 : decode cX6_readSign 11 = .ok (.dup, 1) := by decide +kernel
theorem dX6_readSign_12 : decode cX6_readSign 12 = .ok (.getfield 19, 3) := by decide +kernel
theorem dX6_readSign_15 : decode cX6_readSign 15 = .ok (.iconst 1, 1) := by decide +kernel
theorem dX6_readSign_16 : decode cX6_readSign 16 = .ok (.iadd, 1) := by decide +kernel
theorem dX6_readSign_17 : decode cX6_readSign 17 = .ok (.putfield 19, 3) := by decide +kernel
theorem dX6_readSign_20 : decode cX6_readSign 20 = .ok (.iconst 1, 1) := by decide +kernel
theorem dX6_readSign_21 : decode cX6_readSign 21 = .ok (.ireturn, 1) := by decide +kernel
theorem dX6_current_0 : decode cX6_current 0 = .ok (.aload_n 0, 1) := by decide +kernel
theorem dX6_current_1 : decode cX6_current 1 = .ok (.getfield 19, 3) := by decide +kernel
theorem dX6_current_4 : decode cX6_current 4 = .ok (.ifCond .lt 26, 3) := by decide +kernel
theorem dX6_current_7 : decode cX6_current 7 = .ok (.aload_n 0, 1) := by decide +kernel
theorem dX6_current_8 : decode cX6_current 8 = .ok (.getfield 19, 3) := by decide +kernel
theorem dX6_current_11 : decode cX6_current 11 = .ok (.aload_n 0, 1) := by decide +kernel
theorem dX6_current_12 : decode cX6_current 12 = .ok (.getfield 15, 3) := by decide +kernel
theorem dX6_current_15 : decode cX6_current 15 = .ok (.if_icmp .ge 15, 3) := by decide +kernel
theorem dX6_current_18 : decode cX6_current 18 = .ok (.aload_n 0, 1) := by decide +kernel
theorem dX6_current_19 : decode cX6_current 19 = .ok (.getfield 9, 3) := by decide +kernel
theorem dX6_current_22 : decode cX6_current 22 = .ok (.aload_n 0, 1) := by decide +kernel
theorem dX6_current_23 : decode cX6_current 23 = .ok (.getfield 19, 3) := by decide +kernel
theorem dX6_current_26 : decode cX6_current 26 = .ok (.caload, 1) := by decide +kernel
theorem dX6_current_27 : decode cX6_current 27 = .ok (.goto 4, 3) := by decide +kernel
theorem dX6_current_30 : decode cX6_current 30 = .ok (.iconst 0, 1) := by decide +kernel
theorem dX6_current_31 : decode cX6_current 31 = .ok (.ireturn, 1) := by decide +kernel
