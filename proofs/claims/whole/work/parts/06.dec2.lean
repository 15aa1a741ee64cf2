theorem d_L_address_2 : decode b_L_address 2 = .ok (.aload_n 0, 1) := by decide +kernel
theorem d_L_address_3 : decode b_L_address 3 = .ok (.iload_n 1, 1) := by decide +kernel
theorem d_L_address_4 : decode b_L_address 4 = .ok (.iload_n 2, 1) := by decide +kernel
theorem d_L_address_5 : decode b_L_address 5 = .ok (.invokevirtual 17, 3) := by decide +kernel
theorem d_L_address_8 : decode b_L_address 8 = .ok (.i2l, 1) := by decide +kernel
theorem d_L_address_9 : decode b_L_address 9 = .ok (.lastore, 1) := by decide +kernel
theorem d_L_address_10 : decode b_L_address 10 = .ok (.goto 11, 3) := by decide +kernel
theorem d_L_address_13 : decode b_L_address 13 = .ok (.astore 4, 2) := by decide +kernel
theorem d_L_address_15 : decode b_L_address 15 = .ok (.iconst 1, 1) := by decide +kernel
theorem d_L_address_16 : decode b_L_address 16 = .ok (.ireturn, 1) := by decide +kernel
theorem d_L_address_17 : decode b_L_address 17 = .ok (.astore 4, 2) := by decide +kernel
theorem d_L_address_19 : decode b_L_address 19 = .ok (.iconst 2, 1) := by decide +kernel
theorem d_L_address_20 : decode b_L_address 20 = .ok (.ireturn, 1) := by decide +kernel
theorem d_L_address_21 : decode b_L_address 21 = .ok (.iconst 0, 1) := by decide +kernel
theorem d_L_address_22 : decode b_L_address 22 = .ok (.ireturn, 1) := by decide +kernel
theorem d_C_address_0 : decode b_C_address 0 = .ok (.aload_n 0, 1) := by decide +kernel
theorem d_C_address_1 : decode b_C_address 1 = .ok (.iload_n 1, 1) := by decide +kernel
theorem d_C_address_2 : decode b_C_address 2 = .ok (.invokevirtual 77, 3) := by decide +kernel
theorem d_C_address_5 : decode b_C_address 5 = .ok (.aload_n 0, 1) := by decide +kernel
theorem d_C_address_6 : decode b_C_address 6 = .ok (.iload_n 1, 1) := by decide +kernel
theorem d_C_address_7 : decode b_C_address 7 = .ok (.invokevirtual 81, 3) := by decide +kernel
theorem d_C_address_10 : decode b_C_address 10 = .ok (.ifCond .eq 26, 3) := by decide +kernel
theorem d_C_address_13 : decode b_C_address 13 = .ok (.aload_n 0, 1) := by decide +kernel
theorem d_C_address_14 : decode b_C_address 14 = .ok (.getfield 10, 3) := by decide +kernel
theorem d_C_address_17 : decode b_C_address 17 = .ok (.iload_n 1, 1) := by decide +kernel
theorem d_C_address_18 : decode b_C_address 18 = .ok (.invokevirtual 85, 3) := by decide +kernel
theorem d_C_address_21 : decode b_C_address 21 = .ok (.iconst 2, 1) := by decide +kernel
theorem d_C_address_22 : decode b_C_address 22 = .ok (.if_icmp .eq 14, 3) := by decide +kernel
theorem d_C_address_25 : decode b_C_address 25 = .ok (.aload_n 0, 1) := by decide +kernel
theorem d_C_address_26 : decode b_C_address 26 = .ok (.getfield 10, 3) := by decide +kernel
theorem d_C_address_29 : decode b_C_address 29 = .ok (.iload_n 1, 1) := by decide +kernel
theorem d_C_address_30 : decode b_C_address 30 = .ok (.invokevirtual 89, 3) := by decide +kernel
theorem d_C_address_33 : decode b_C_address 33 = .ok (.ifCond .eq 13, 3) := by decide +kernel
theorem d_C_address_36 : decode b_C_address 36 = .ok (.new 57, 3) := by decide +kernel
theorem d_C_address_39 : decode b_C_address 39 = .ok (.dup, 1) := by decide +kernel
theorem d_C_address_40 : decode b_C_address 40 = .ok (.ldc 92, 2) := by decide +kernel
theorem d_C_address_42 : decode b_C_address 42 = .ok (.invokespecial 61, 3) := by decide +kernel
theorem d_C_address_45 : decode b_C_address 45 = .ok (.athrow, 1) := by decide +kernel
theorem d_C_address_46 : decode b_C_address 46 = .ok (.iload_n 2, 1) := by decide +kernel
theorem d_C_address_47 : decode b_C_address 47 = .ok (.aload_n 0, 1) := by decide +kernel
theorem d_C_address_48 : decode b_C_address 48 = .ok (.getfield 10, 3) := by decide +kernel
theorem d_C_address_51 : decode b_C_address 51 = .ok (.iload_n 1, 1) := by decide +kernel
theorem d_C_address_52 : decode b_C_address 52 = .ok (.invokevirtual 94, 3) := by decide +kernel
theorem d_C_address_55 : decode b_C_address 55 = .ok (.invokestatic 97, 3) := by decide +kernel
theorem d_C_address_58 : decode b_C_address 58 = .ok (.ifCond .ne 13, 3) := by decide +kernel
theorem d_C_address_61 : decode b_C_address 61 = .ok (.new 57, 3) := by decide +kernel
theorem d_C_address_64 : decode b_C_address 64 = .ok (.dup, 1) := by decide +kernel
theorem d_C_address_65 : decode b_C_address 65 = .ok (.ldc 100, 2) := by decide +kernel
theorem d_C_address_67 : decode b_C_address 67 = .ok (.invokespecial 61, 3) := by decide +kernel
theorem d_C_address_70 : decode b_C_address 70 = .ok (.athrow, 1) := by decide +kernel
theorem d_C_address_71 : decode b_C_address 71 = .ok (.aload_n 0, 1) := by decide +kernel
theorem d_C_address_72 : decode b_C_address 72 = .ok (.getfield 10, 3) := by decide +kernel
theorem d_C_address_75 : decode b_C_address 75 = .ok (.iload_n 1, 1) := by decide +kernel
theorem d_C_address_76 : decode b_C_address 76 = .ok (.iload_n 2, 1) := by decide +kernel
theorem d_C_address_77 : decode b_C_address 77 = .ok (.invokevirtual 102, 3) := by decide +kernel
theorem d_C_address_80 : decode b_C_address 80 = .ok (.aload_n 0, 1) := by decide +kernel
theorem d_C_address_81 : decode b_C_address 81 = .ok (.getfield 10, 3) := by decide +kernel
theorem d_C_address_84 : decode b_C_address 84 = .ok (.iload_n 1, 1) := by decide +kernel
theorem d_C_address_85 : decode b_C_address 85 = .ok (.invokevirtual 85, 3) := by decide +kernel
theorem d_C_address_88 : decode b_C_address 88 = .ok (.iconst 1, 1) := by decide +kernel
theorem d_C_address_89 : decode b_C_address 89 = .ok (.if_icmp .eq 5, 3) := by decide +kernel
theorem d_C_address_92 : decode b_C_address 92 = .ok (.iconst 0, 1) := by decide +kernel
theorem d_C_address_93 : decode b_C_address 93 = .ok (.ireturn, 1) := by decide +kernel
theorem d_C_address_94 : decode b_C_address 94 = .ok (.aload_n 0, 1) := by decide +kernel
theorem d_C_address_95 : decode b_C_address 95 = .ok (.iload_n 1, 1) := by decide +kernel
theorem d_C_address_96 : decode b_C_address 96 = .ok (.invokevirtual 106, 3) := by decide +kernel
theorem d_C_address_99 : decode b_C_address 99 = .ok (.istore_n 3, 1) := by decide +kernel
theorem d_C_address_100 : decode b_C_address 100 = .ok (.iload_n 3, 1) := by decide +kernel
theorem d_C_address_101 : decode b_C_address 101 = .ok (.iconst (-1), 1) := by decide +kernel
theorem d_C_address_102 : decode b_C_address 102 = .ok (.if_icmp .ne 5, 3) := by decide +kernel
theorem d_C_address_105 : decode b_C_address 105 = .ok (.iconst 0, 1) := by decide +kernel
theorem d_C_address_106 : decode b_C_address 106 = .ok (.ireturn, 1) := by decide +kernel
theorem d_C_address_107 : decode b_C_address 107 = .ok (.aload_n 0, 1) := by decide +kernel
theorem d_C_address_108 : decode b_C_address 108 = .ok (.aload_n 0, 1) := by decide +kernel
theorem d_C_address_109 : decode b_C_address 109 = .ok (.getfield 10, 3) := by decide +kernel
theorem d_C_address_112 : decode b_C_address 112 = .ok (.iload_n 3, 1) := by decide +kernel
theorem d_C_address_113 : decode b_C_address 113 = .ok (.invokevirtual 109, 3) := by decide +kernel
theorem d_C_address_116 : decode b_C_address 116 = .ok (.invokevirtual 112, 3) := by decide +kernel
theorem d_C_address_119 : decode b_C_address 119 = .ok (.aload_n 0, 1) := by decide +kernel
theorem d_C_address_120 : decode b_C_address 120 = .ok (.iload_n 3, 1) := by decide +kernel
theorem d_C_address_121 : decode b_C_address 121 = .ok (.invokevirtual 115, 3) := by decide +kernel
theorem d_C_address_124 : decode b_C_address 124 = .ok (.ireturn, 1) := by decide +kernel
theorem d_C_requireOp_0 : decode b_C_requireOp 0 = .ok (.iload_n 1, 1) := by decide +kernel
theorem d_C_requireOp_1 : decode b_C_requireOp 1 = .ok (.ifCond .lt 11, 3) := by decide +kernel
theorem d_C_requireOp_4 : decode b_C_requireOp 4 = .ok (.iload_n 1, 1) := by decide +kernel
theorem d_C_requireOp_5 : decode b_C_requireOp 5 = .ok (.aload_n 0, 1) := by decide +kernel
theorem d_C_requireOp_6 : decode b_C_requireOp 6 = .ok (.getfield 30, 3) := by decide +kernel
theorem d_C_requireOp_9 : decode b_C_requireOp 9 = .ok (.if_icmp .lt 13, 3) := by decide +kernel
theorem d_C_requireOp_12 : decode b_C_requireOp 12 = .ok (.new 220, 3) := by decide +kernel
theorem d_C_requireOp_15 : decode b_C_requireOp 15 = .ok (.dup, 1) := by decide +kernel
theorem d_C_requireOp_16 : decode b_C_requireOp 16 = .ok (.ldc 222, 2) := by decide +kernel
theorem d_C_requireOp_18 : decode b_C_requireOp 18 = .ok (.invokespecial 224, 3) := by decide +kernel
theorem d_C_requireOp_21 : decode b_C_requireOp 21 = .ok (.athrow, 1) := by decide +kernel
theorem d_C_requireOp_22 : decode b_C_requireOp 22 = .ok (.return_, 1) := by decide +kernel
theorem d_C_waits_0 : decode b_C_waits 0 = .ok (.iload_n 1, 1) := by decide +kernel
theorem d_C_waits_1 : decode b_C_waits 1 = .ok (.aload_n 0, 1) := by decide +kernel
theorem d_C_waits_2 : decode b_C_waits 2 = .ok (.getfield 34, 3) := by decide +kernel
theorem d_C_waits_5 : decode b_C_waits 5 = .ok (.if_icmp .lt 15, 3) := by decide +kernel
theorem d_C_waits_8 : decode b_C_waits 8 = .ok (.iload_n 1, 1) := by decide +kernel
theorem d_C_waits_9 : decode b_C_waits 9 = .ok (.aload_n 0, 1) := by decide +kernel
theorem d_C_waits_10 : decode b_C_waits 10 = .ok (.getfield 30, 3) := by decide +kernel
theorem d_C_waits_13 : decode b_C_waits 13 = .ok (.if_icmp .ge 7, 3) := by decide +kernel
theorem d_C_waits_16 : decode b_C_waits 16 = .ok (.iconst 1, 1) := by decide +kernel
theorem d_C_waits_17 : decode b_C_waits 17 = .ok (.goto 4, 3) := by decide +kernel
theorem d_C_waits_20 : decode b_C_waits 20 = .ok (.iconst 0, 1) := by decide +kernel
theorem d_C_waits_21 : decode b_C_waits 21 = .ok (.ireturn, 1) := by decide +kernel
theorem d_C_canBeAddress_0 : decode b_C_canBeAddress 0 = .ok (.iload_n 0, 1) := by decide +kernel
theorem d_C_canBeAddress_1 : decode b_C_canBeAddress 1 = .ok (.ifCond .lt 12, 3) := by decide +kernel
theorem d_C_canBeAddress_4 : decode b_C_canBeAddress 4 = .ok (.iload_n 0, 1) := by decide +kernel
theorem d_C_canBeAddress_5 : decode b_C_canBeAddress 5 = .ok (.sipush 4096, 3) := by decide +kernel
theorem d_C_canBeAddress_8 : decode b_C_canBeAddress 8 = .ok (.iload_n 1, 1) := by decide +kernel
theorem d_C_canBeAddress_9 : decode b_C_canBeAddress 9 = .ok (.isub, 1) := by decide +kernel
theorem d_C_canBeAddress_10 : decode b_C_canBeAddress 10 = .ok (.if_icmp .le 5, 3) := by decide +kernel
theorem d_C_canBeAddress_13 : decode b_C_canBeAddress 13 = .ok (.iconst 0, 1) := by decide +kernel
theorem d_C_canBeAddress_14 : decode b_C_canBeAddress 14 = .ok (.ireturn, 1) := by decide +kernel
theorem d_C_canBeAddress_15 : decode b_C_canBeAddress 15 = .ok (.iload_n 0, 1) := by decide +kernel
theorem d_C_canBeAddress_16 : decode b_C_canBeAddress 16 = .ok (.invokestatic 217, 3) := by decide +kernel
theorem d_C_canBeAddress_19 : decode b_C_canBeAddress 19 = .ok (.ifCond .ne 12, 3) := by decide +kernel
theorem d_C_canBeAddress_22 : decode b_C_canBeAddress 22 = .ok (.iload_n 0, 1) := by decide +kernel
theorem d_C_canBeAddress_23 : decode b_C_canBeAddress 23 = .ok (.iload_n 1, 1) := by decide +kernel
theorem d_C_canBeAddress_24 : decode b_C_canBeAddress 24 = .ok (.iadd, 1) := by decide +kernel
theorem d_C_canBeAddress_25 : decode b_C_canBeAddress 25 = .ok (.sipush 3072, 3) := by decide +kernel
theorem d_C_canBeAddress_28 : decode b_C_canBeAddress 28 = .ok (.if_icmp .gt 7, 3) := by decide +kernel
theorem d_C_canBeAddress_31 : decode b_C_canBeAddress 31 = .ok (.iconst 1, 1) := by decide +kernel
theorem d_C_canBeAddress_32 : decode b_C_canBeAddress 32 = .ok (.goto 4, 3) := by decide +kernel
theorem d_C_canBeAddress_35 : decode b_C_canBeAddress 35 = .ok (.iconst 0, 1) := by decide +kernel
theorem d_C_canBeAddress_36 : decode b_C_canBeAddress 36 = .ok (.ireturn, 1) := by decide +kernel
theorem d_O_setAddress_0 : decode b_O_setAddress 0 = .ok (.aload_n 0, 1) := by decide +kernel
theorem d_O_setAddress_1 : decode b_O_setAddress 1 = .ok (.getfield 21, 3) := by decide +kernel
theorem d_O_setAddress_4 : decode b_O_setAddress 4 = .ok (.iload_n 1, 1) := by decide +kernel
theorem d_O_setAddress_5 : decode b_O_setAddress 5 = .ok (.bipush 127, 2) := by decide +kernel
theorem d_O_setAddress_7 : decode b_O_setAddress 7 = .ok (.iand, 1) := by decide +kernel
theorem d_O_setAddress_8 : decode b_O_setAddress 8 = .ok (.iload_n 2, 1) := by decide +kernel
theorem d_O_setAddress_9 : decode b_O_setAddress 9 = .ok (.iastore, 1) := by decide +kernel
theorem d_O_setAddress_10 : decode b_O_setAddress 10 = .ok (.aload_n 0, 1) := by decide +kernel
theorem d_O_setAddress_11 : decode b_O_setAddress 11 = .ok (.getfield 24, 3) := by decide +kernel
theorem d_O_setAddress_14 : decode b_O_setAddress 14 = .ok (.iload_n 1, 1) := by decide +kernel
theorem d_O_setAddress_15 : decode b_O_setAddress 15 = .ok (.bipush 127, 2) := by decide +kernel
theorem d_O_setAddress_17 : decode b_O_setAddress 17 = .ok (.iand, 1) := by decide +kernel
theorem d_O_setAddress_18 : decode b_O_setAddress 18 = .ok (.iconst 1, 1) := by decide +kernel
theorem d_O_setAddress_19 : decode b_O_setAddress 19 = .ok (.bastore, 1) := by decide +kernel
theorem d_O_setAddress_20 : decode b_O_setAddress 20 = .ok (.return_, 1) := by decide +kernel
theorem d_C_oldestLoadPast_0 : decode b_C_oldestLoadPast 0 = .ok (.iload_n 1, 1) := by decide +kernel
theorem d_C_oldestLoadPast_1 : decode b_C_oldestLoadPast 1 = .ok (.iconst 1, 1) := by decide +kernel
theorem d_C_oldestLoadPast_2 : decode b_C_oldestLoadPast 2 = .ok (.iadd, 1) := by decide +kernel
theorem d_C_oldestLoadPast_3 : decode b_C_oldestLoadPast 3 = .ok (.istore_n 2, 1) := by decide +kernel
theorem d_C_oldestLoadPast_4 : decode b_C_oldestLoadPast 4 = .ok (.iload_n 2, 1) := by decide +kernel
theorem d_C_oldestLoadPast_5 : decode b_C_oldestLoadPast 5 = .ok (.aload_n 0, 1) := by decide +kernel
theorem d_C_oldestLoadPast_6 : decode b_C_oldestLoadPast 6 = .ok (.getfield 30, 3) := by decide +kernel
theorem d_C_oldestLoadPast_9 : decode b_C_oldestLoadPast 9 = .ok (.if_icmp .ge 31, 3) := by decide +kernel
theorem d_C_oldestLoadPast_12 : decode b_C_oldestLoadPast 12 = .ok (.aload_n 0, 1) := by decide +kernel
theorem d_C_oldestLoadPast_13 : decode b_C_oldestLoadPast 13 = .ok (.getfield 10, 3) := by decide +kernel
theorem d_C_oldestLoadPast_16 : decode b_C_oldestLoadPast 16 = .ok (.iload_n 2, 1) := by decide +kernel
theorem d_C_oldestLoadPast_17 : decode b_C_oldestLoadPast 17 = .ok (.invokevirtual 129, 3) := by decide +kernel
theorem d_C_oldestLoadPast_20 : decode b_C_oldestLoadPast 20 = .ok (.ifCond .eq 14, 3) := by decide +kernel
theorem d_C_oldestLoadPast_23 : decode b_C_oldestLoadPast 23 = .ok (.aload_n 0, 1) := by decide +kernel
theorem d_C_oldestLoadPast_24 : decode b_C_oldestLoadPast 24 = .ok (.iload_n 2, 1) := by decide +kernel
theorem d_C_oldestLoadPast_25 : decode b_C_oldestLoadPast 25 = .ok (.iload_n 1, 1) := by decide +kernel
theorem d_C_oldestLoadPast_26 : decode b_C_oldestLoadPast 26 = .ok (.invokevirtual 252, 3) := by decide +kernel
theorem d_C_oldestLoadPast_29 : decode b_C_oldestLoadPast 29 = .ok (.ifCond .eq 5, 3) := by decide +kernel
theorem d_C_oldestLoadPast_32 : decode b_C_oldestLoadPast 32 = .ok (.iload_n 2, 1) := by decide +kernel
theorem d_C_oldestLoadPast_33 : decode b_C_oldestLoadPast 33 = .ok (.ireturn, 1) := by decide +kernel
theorem d_C_oldestLoadPast_34 : decode b_C_oldestLoadPast 34 = .ok (.iinc 2 1, 3) := by decide +kernel
theorem d_C_oldestLoadPast_37 : decode b_C_oldestLoadPast 37 = .ok (.goto (-33), 3) := by decide +kernel
theorem d_C_oldestLoadPast_40 : decode b_C_oldestLoadPast 40 = .ok (.iconst (-1), 1) := by decide +kernel
theorem d_C_oldestLoadPast_41 : decode b_C_oldestLoadPast 41 = .ok (.ireturn, 1) := by decide +kernel
theorem d_C_missedByteOf_0 : decode b_C_missedByteOf 0 = .ok (.aload_n 0, 1) := by decide +kernel
theorem d_C_missedByteOf_1 : decode b_C_missedByteOf 1 = .ok (.getfield 10, 3) := by decide +kernel
theorem d_C_missedByteOf_4 : decode b_C_missedByteOf 4 = .ok (.iload_n 1, 1) := by decide +kernel
theorem d_C_missedByteOf_5 : decode b_C_missedByteOf 5 = .ok (.invokevirtual 225, 3) := by decide +kernel
theorem d_C_missedByteOf_8 : decode b_C_missedByteOf 8 = .ok (.istore_n 3, 1) := by decide +kernel
theorem d_C_missedByteOf_9 : decode b_C_missedByteOf 9 = .ok (.iconst 0, 1) := by decide +kernel
theorem d_C_missedByteOf_10 : decode b_C_missedByteOf 10 = .ok (.istore 4, 2) := by decide +kernel
theorem d_C_missedByteOf_12 : decode b_C_missedByteOf 12 = .ok (.iload 4, 2) := by decide +kernel
theorem d_C_missedByteOf_14 : decode b_C_missedByteOf 14 = .ok (.aload_n 0, 1) := by decide +kernel
theorem d_C_missedByteOf_15 : decode b_C_missedByteOf 15 = .ok (.getfield 10, 3) := by decide +kernel
theorem d_C_missedByteOf_18 : decode b_C_missedByteOf 18 = .ok (.iload_n 1, 1) := by decide +kernel
theorem d_C_missedByteOf_19 : decode b_C_missedByteOf 19 = .ok (.invokevirtual 94, 3) := by decide +kernel
theorem d_C_missedByteOf_22 : decode b_C_missedByteOf 22 = .ok (.if_icmp .ge 40, 3) := by decide +kernel
theorem d_C_missedByteOf_25 : decode b_C_missedByteOf 25 = .ok (.aload_n 0, 1) := by decide +kernel
theorem d_C_missedByteOf_26 : decode b_C_missedByteOf 26 = .ok (.getfield 10, 3) := by decide +kernel
theorem d_C_missedByteOf_29 : decode b_C_missedByteOf 29 = .ok (.iload_n 2, 1) := by decide +kernel
theorem d_C_missedByteOf_30 : decode b_C_missedByteOf 30 = .ok (.iload_n 3, 1) := by decide +kernel
theorem d_C_missedByteOf_31 : decode b_C_missedByteOf 31 = .ok (.iload 4, 2) := by decide +kernel
theorem d_C_missedByteOf_33 : decode b_C_missedByteOf 33 = .ok (.iadd, 1) := by decide +kernel
theorem d_C_missedByteOf_34 : decode b_C_missedByteOf 34 = .ok (.invokevirtual 231, 3) := by decide +kernel
theorem d_C_missedByteOf_37 : decode b_C_missedByteOf 37 = .ok (.ifCond .eq 19, 3) := by decide +kernel
theorem d_C_missedByteOf_40 : decode b_C_missedByteOf 40 = .ok (.aload_n 0, 1) := by decide +kernel
theorem d_C_missedByteOf_41 : decode b_C_missedByteOf 41 = .ok (.getfield 10, 3) := by decide +kernel
theorem d_C_missedByteOf_44 : decode b_C_missedByteOf 44 = .ok (.iload_n 1, 1) := by decide +kernel
theorem d_C_missedByteOf_45 : decode b_C_missedByteOf 45 = .ok (.iload 4, 2) := by decide +kernel
theorem d_C_missedByteOf_47 : decode b_C_missedByteOf 47 = .ok (.invokevirtual 166, 3) := by decide +kernel
theorem d_C_missedByteOf_50 : decode b_C_missedByteOf 50 = .ok (.iload_n 2, 1) := by decide +kernel
theorem d_C_missedByteOf_51 : decode b_C_missedByteOf 51 = .ok (.if_icmp .ge 5, 3) := by decide +kernel
theorem d_C_missedByteOf_54 : decode b_C_missedByteOf 54 = .ok (.iconst 1, 1) := by decide +kernel
theorem d_C_missedByteOf_55 : decode b_C_missedByteOf 55 = .ok (.ireturn, 1) := by decide +kernel
theorem d_C_missedByteOf_56 : decode b_C_missedByteOf 56 = .ok (.iinc 4 1, 3) := by decide +kernel
theorem d_C_missedByteOf_59 : decode b_C_missedByteOf 59 = .ok (.goto (-47), 3) := by decide +kernel
theorem d_C_missedByteOf_62 : decode b_C_missedByteOf 62 = .ok (.iconst 0, 1) := by decide +kernel
theorem d_C_missedByteOf_63 : decode b_C_missedByteOf 63 = .ok (.ireturn, 1) := by decide +kernel
theorem d_O_covers_0 : decode b_O_covers 0 = .ok (.aload_n 0, 1) := by decide +kernel
theorem d_O_covers_1 : decode b_O_covers 1 = .ok (.iload_n 1, 1) := by decide +kernel
theorem d_O_covers_2 : decode b_O_covers 2 = .ok (.invokevirtual 54, 3) := by decide +kernel
theorem d_O_covers_5 : decode b_O_covers 5 = .ok (.istore_n 3, 1) := by decide +kernel
theorem d_O_covers_6 : decode b_O_covers 6 = .ok (.aload_n 0, 1) := by decide +kernel
theorem d_O_covers_7 : decode b_O_covers 7 = .ok (.iload_n 1, 1) := by decide +kernel
theorem d_O_covers_8 : decode b_O_covers 8 = .ok (.invokevirtual 43, 3) := by decide +kernel
theorem d_O_covers_11 : decode b_O_covers 11 = .ok (.ifCond .eq 23, 3) := by decide +kernel
theorem d_O_covers_14 : decode b_O_covers 14 = .ok (.iload_n 2, 1) := by decide +kernel
theorem d_O_covers_15 : decode b_O_covers 15 = .ok (.iload_n 3, 1) := by decide +kernel
theorem d_O_covers_16 : decode b_O_covers 16 = .ok (.if_icmp .lt 18, 3) := by decide +kernel
theorem d_O_covers_19 : decode b_O_covers 19 = .ok (.iload_n 2, 1) := by decide +kernel
theorem d_O_covers_20 : decode b_O_covers 20 = .ok (.iload_n 3, 1) := by decide +kernel
theorem d_O_covers_21 : decode b_O_covers 21 = .ok (.aload_n 0, 1) := by decide +kernel
theorem d_O_covers_22 : decode b_O_covers 22 = .ok (.iload_n 1, 1) := by decide +kernel
theorem d_O_covers_23 : decode b_O_covers 23 = .ok (.invokevirtual 58, 3) := by decide +kernel
theorem d_O_covers_26 : decode b_O_covers 26 = .ok (.iadd, 1) := by decide +kernel
theorem d_O_covers_27 : decode b_O_covers 27 = .ok (.if_icmp .ge 7, 3) := by decide +kernel
theorem d_O_covers_30 : decode b_O_covers 30 = .ok (.iconst 1, 1) := by decide +kernel
theorem d_O_covers_31 : decode b_O_covers 31 = .ok (.goto 4, 3) := by decide +kernel
theorem d_O_covers_34 : decode b_O_covers 34 = .ok (.iconst 0, 1) := by decide +kernel
theorem d_O_covers_35 : decode b_O_covers 35 = .ok (.ireturn, 1) := by decide +kernel
theorem d_O_sourceOf_0 : decode b_O_sourceOf 0 = .ok (.aload_n 0, 1) := by decide +kernel
theorem d_O_sourceOf_1 : decode b_O_sourceOf 1 = .ok (.getfield 40, 3) := by decide +kernel
theorem d_O_sourceOf_4 : decode b_O_sourceOf 4 = .ok (.iload_n 1, 1) := by decide +kernel
theorem d_O_sourceOf_5 : decode b_O_sourceOf 5 = .ok (.iload_n 2, 1) := by decide +kernel
theorem d_O_sourceOf_6 : decode b_O_sourceOf 6 = .ok (.invokestatic 50, 3) := by decide +kernel
theorem d_O_sourceOf_9 : decode b_O_sourceOf 9 = .ok (.iaload, 1) := by decide +kernel
theorem d_O_sourceOf_10 : decode b_O_sourceOf 10 = .ok (.ireturn, 1) := by decide +kernel
theorem d_O_sourceSlot_0 : decode b_O_sourceSlot 0 = .ok (.iload_n 0, 1) := by decide +kernel
theorem d_O_sourceSlot_1 : decode b_O_sourceSlot 1 = .ok (.bipush 127, 2) := by decide +kernel
theorem d_O_sourceSlot_3 : decode b_O_sourceSlot 3 = .ok (.iand, 1) := by decide +kernel
theorem d_O_sourceSlot_4 : decode b_O_sourceSlot 4 = .ok (.iconst 4, 1) := by decide +kernel
theorem d_O_sourceSlot_5 : decode b_O_sourceSlot 5 = .ok (.imul, 1) := by decide +kernel
theorem d_O_sourceSlot_6 : decode b_O_sourceSlot 6 = .ok (.iload_n 1, 1) := by decide +kernel
theorem d_O_sourceSlot_7 : decode b_O_sourceSlot 7 = .ok (.iconst 3, 1) := by decide +kernel
theorem d_O_sourceSlot_8 : decode b_O_sourceSlot 8 = .ok (.iand, 1) := by decide +kernel
theorem d_O_sourceSlot_9 : decode b_O_sourceSlot 9 = .ok (.iadd, 1) := by decide +kernel
theorem d_O_sourceSlot_10 : decode b_O_sourceSlot 10 = .ok (.ireturn, 1) := by decide +kernel
theorem d_O_programOf_0 : decode b_O_programOf 0 = .ok (.aload_n 0, 1) := by decide +kernel
theorem d_O_programOf_1 : decode b_O_programOf 1 = .ok (.getfield 18, 3) := by decide +kernel
theorem d_O_programOf_4 : decode b_O_programOf 4 = .ok (.iload_n 1, 1) := by decide +kernel
theorem d_O_programOf_5 : decode b_O_programOf 5 = .ok (.bipush 127, 2) := by decide +kernel
theorem d_O_programOf_7 : decode b_O_programOf 7 = .ok (.iand, 1) := by decide +kernel
theorem d_O_programOf_8 : decode b_O_programOf 8 = .ok (.iaload, 1) := by decide +kernel
theorem d_O_programOf_9 : decode b_O_programOf 9 = .ok (.ireturn, 1) := by decide +kernel
theorem d_C_mark_0 : decode b_C_mark 0 = .ok (.aload_n 0, 1) := by decide +kernel
theorem d_C_mark_1 : decode b_C_mark 1 = .ok (.aload_n 0, 1) := by decide +kernel
theorem d_C_mark_2 : decode b_C_mark 2 = .ok (.getfield 37, 3) := by decide +kernel
theorem d_C_mark_5 : decode b_C_mark 5 = .ok (.lconst 1, 1) := by decide +kernel
theorem d_C_mark_6 : decode b_C_mark 6 = .ok (.iload_n 1, 1) := by decide +kernel
theorem d_C_mark_7 : decode b_C_mark 7 = .ok (.bipush 63, 2) := by decide +kernel
theorem d_C_mark_9 : decode b_C_mark 9 = .ok (.iand, 1) := by decide +kernel
theorem d_C_mark_10 : decode b_C_mark 10 = .ok (.lshl, 1) := by decide +kernel
theorem d_C_mark_11 : decode b_C_mark 11 = .ok (.lor, 1) := by decide +kernel
theorem d_C_mark_12 : decode b_C_mark 12 = .ok (.putfield 37, 3) := by decide +kernel
theorem d_C_mark_15 : decode b_C_mark 15 = .ok (.return_, 1) := by decide +kernel
theorem d_C_undoWrong_0 : decode b_C_undoWrong 0 = .ok (.iconst 0, 1) := by decide +kernel
theorem d_C_undoWrong_1 : decode b_C_undoWrong 1 = .ok (.istore_n 2, 1) := by decide +kernel
theorem d_C_undoWrong_2 : decode b_C_undoWrong 2 = .ok (.iload_n 1, 1) := by decide +kernel
theorem d_C_undoWrong_3 : decode b_C_undoWrong 3 = .ok (.istore_n 3, 1) := by decide +kernel
theorem d_C_undoWrong_4 : decode b_C_undoWrong 4 = .ok (.iload_n 3, 1) := by decide +kernel
theorem d_C_undoWrong_5 : decode b_C_undoWrong 5 = .ok (.aload_n 0, 1) := by decide +kernel
theorem d_C_undoWrong_6 : decode b_C_undoWrong 6 = .ok (.getfield 30, 3) := by decide +kernel
theorem d_C_undoWrong_9 : decode b_C_undoWrong 9 = .ok (.if_icmp .ge 32, 3) := by decide +kernel
theorem d_C_undoWrong_12 : decode b_C_undoWrong 12 = .ok (.aload_n 0, 1) := by decide +kernel
theorem d_C_undoWrong_13 : decode b_C_undoWrong 13 = .ok (.getfield 10, 3) := by decide +kernel
theorem d_C_undoWrong_16 : decode b_C_undoWrong 16 = .ok (.iload_n 3, 1) := by decide +kernel
theorem d_C_undoWrong_17 : decode b_C_undoWrong 17 = .ok (.invokevirtual 129, 3) := by decide +kernel
theorem d_C_undoWrong_20 : decode b_C_undoWrong 20 = .ok (.ifCond .eq 15, 3) := by decide +kernel
theorem d_C_undoWrong_23 : decode b_C_undoWrong 23 = .ok (.aload_n 0, 1) := by decide +kernel
theorem d_C_undoWrong_24 : decode b_C_undoWrong 24 = .ok (.getfield 10, 3) := by decide +kernel
theorem d_C_undoWrong_27 : decode b_C_undoWrong 27 = .ok (.iload_n 3, 1) := by decide +kernel
theorem d_C_undoWrong_28 : decode b_C_undoWrong 28 = .ok (.iconst 0, 1) := by decide +kernel
theorem d_C_undoWrong_29 : decode b_C_undoWrong 29 = .ok (.invokevirtual 241, 3) := by decide +kernel
theorem d_C_undoWrong_32 : decode b_C_undoWrong 32 = .ok (.iinc 2 1, 3) := by decide +kernel
theorem d_C_undoWrong_35 : decode b_C_undoWrong 35 = .ok (.iinc 3 1, 3) := by decide +kernel
theorem d_C_undoWrong_38 : decode b_C_undoWrong 38 = .ok (.goto (-34), 3) := by decide +kernel
theorem d_C_undoWrong_41 : decode b_C_undoWrong 41 = .ok (.aload_n 0, 1) := by decide +kernel
theorem d_C_undoWrong_42 : decode b_C_undoWrong 42 = .ok (.dup, 1) := by decide +kernel
theorem d_C_undoWrong_43 : decode b_C_undoWrong 43 = .ok (.getfield 41, 3) := by decide +kernel
theorem d_C_undoWrong_46 : decode b_C_undoWrong 46 = .ok (.iload_n 2, 1) := by decide +kernel
theorem d_C_undoWrong_47 : decode b_C_undoWrong 47 = .ok (.iadd, 1) := by decide +kernel
theorem d_C_undoWrong_48 : decode b_C_undoWrong 48 = .ok (.putfield 41, 3) := by decide +kernel
theorem d_C_undoWrong_51 : decode b_C_undoWrong 51 = .ok (.aload_n 0, 1) := by decide +kernel
theorem d_C_undoWrong_52 : decode b_C_undoWrong 52 = .ok (.dup, 1) := by decide +kernel
theorem d_C_undoWrong_53 : decode b_C_undoWrong 53 = .ok (.getfield 44, 3) := by decide +kernel
theorem d_C_undoWrong_56 : decode b_C_undoWrong 56 = .ok (.iconst 1, 1) := by decide +kernel
theorem d_C_undoWrong_57 : decode b_C_undoWrong 57 = .ok (.iadd, 1) := by decide +kernel
theorem d_C_undoWrong_58 : decode b_C_undoWrong 58 = .ok (.putfield 44, 3) := by decide +kernel
theorem d_C_undoWrong_61 : decode b_C_undoWrong 61 = .ok (.iload_n 2, 1) := by decide +kernel
theorem d_C_undoWrong_62 : decode b_C_undoWrong 62 = .ok (.ireturn, 1) := by decide +kernel
theorem d_O_setDone_0 : decode b_O_setDone 0 = .ok (.aload_n 0, 1) := by decide +kernel
theorem d_O_setDone_1 : decode b_O_setDone 1 = .ok (.getfield 34, 3) := by decide +kernel
theorem d_O_setDone_4 : decode b_O_setDone 4 = .ok (.iload_n 1, 1) := by decide +kernel
theorem d_O_setDone_5 : decode b_O_setDone 5 = .ok (.bipush 127, 2) := by decide +kernel
theorem d_O_setDone_7 : decode b_O_setDone 7 = .ok (.iand, 1) := by decide +kernel
theorem d_O_setDone_8 : decode b_O_setDone 8 = .ok (.iload_n 2, 1) := by decide +kernel
theorem d_O_setDone_9 : decode b_O_setDone 9 = .ok (.bastore, 1) := by decide +kernel
theorem d_O_setDone_10 : decode b_O_setDone 10 = .ok (.return_, 1) := by decide +kernel
theorem d_L_number_0 : decode b_L_number 0 = .ok (.aload_n 3, 1) := by decide +kernel
theorem d_L_number_1 : decode b_L_number 1 = .ok (.iconst 0, 1) := by decide +kernel
theorem d_L_number_2 : decode b_L_number 2 = .ok (.aload_n 0, 1) := by decide +kernel
theorem d_L_number_3 : decode b_L_number 3 = .ok (.iload_n 1, 1) := by decide +kernel
theorem d_L_number_4 : decode b_L_number 4 = .ok (.iload_n 2, 1) := by decide +kernel
theorem d_L_number_5 : decode b_L_number 5 = .ok (.invokevirtual 23, 3) := by decide +kernel
theorem d_L_number_8 : decode b_L_number 8 = .ok (.i2l, 1) := by decide +kernel
theorem d_L_number_9 : decode b_L_number 9 = .ok (.lastore, 1) := by decide +kernel
theorem d_L_number_10 : decode b_L_number 10 = .ok (.goto 11, 3) := by decide +kernel
theorem d_L_number_13 : decode b_L_number 13 = .ok (.astore 4, 2) := by decide +kernel
theorem d_L_number_15 : decode b_L_number 15 = .ok (.iconst 1, 1) := by decide +kernel
theorem d_L_number_16 : decode b_L_number 16 = .ok (.ireturn, 1) := by decide +kernel
theorem d_L_number_17 : decode b_L_number 17 = .ok (.astore 4, 2) := by decide +kernel
theorem d_L_number_19 : decode b_L_number 19 = .ok (.iconst 2, 1) := by decide +kernel
theorem d_L_number_20 : decode b_L_number 20 = .ok (.ireturn, 1) := by decide +kernel
theorem d_L_number_21 : decode b_L_number 21 = .ok (.iconst 0, 1) := by decide +kernel
theorem d_L_number_22 : decode b_L_number 22 = .ok (.ireturn, 1) := by decide +kernel
theorem d_C_number_0 : decode b_C_number 0 = .ok (.aload_n 0, 1) := by decide +kernel
theorem d_C_number_1 : decode b_C_number 1 = .ok (.iload_n 1, 1) := by decide +kernel
theorem d_C_number_2 : decode b_C_number 2 = .ok (.invokevirtual 77, 3) := by decide +kernel
theorem d_C_number_5 : decode b_C_number 5 = .ok (.aload_n 0, 1) := by decide +kernel
theorem d_C_number_6 : decode b_C_number 6 = .ok (.iload_n 1, 1) := by decide +kernel
theorem d_C_number_7 : decode b_C_number 7 = .ok (.invokevirtual 81, 3) := by decide +kernel
theorem d_C_number_10 : decode b_C_number 10 = .ok (.ifCond .eq 28, 3) := by decide +kernel
theorem d_C_number_13 : decode b_C_number 13 = .ok (.aload_n 0, 1) := by decide +kernel
theorem d_C_number_14 : decode b_C_number 14 = .ok (.getfield 10, 3) := by decide +kernel
theorem d_C_number_17 : decode b_C_number 17 = .ok (.iload_n 1, 1) := by decide +kernel
theorem d_C_number_18 : decode b_C_number 18 = .ok (.invokevirtual 85, 3) := by decide +kernel
theorem d_C_number_21 : decode b_C_number 21 = .ok (.invokestatic 118, 3) := by decide +kernel
theorem d_C_number_24 : decode b_C_number 24 = .ok (.ifCond .eq 14, 3) := by decide +kernel
theorem d_C_number_27 : decode b_C_number 27 = .ok (.aload_n 0, 1) := by decide +kernel
theorem d_C_number_28 : decode b_C_number 28 = .ok (.getfield 10, 3) := by decide +kernel
theorem d_C_number_31 : decode b_C_number 31 = .ok (.iload_n 1, 1) := by decide +kernel
theorem d_C_number_32 : decode b_C_number 32 = .ok (.invokevirtual 121, 3) := by decide +kernel
theorem d_C_number_35 : decode b_C_number 35 = .ok (.ifCond .eq 13, 3) := by decide +kernel
theorem d_C_number_38 : decode b_C_number 38 = .ok (.new 57, 3) := by decide +kernel
theorem d_C_number_41 : decode b_C_number 41 = .ok (.dup, 1) := by decide +kernel
theorem d_C_number_42 : decode b_C_number 42 = .ok (.ldc 124, 2) := by decide +kernel
theorem d_C_number_44 : decode b_C_number 44 = .ok (.invokespecial 61, 3) := by decide +kernel
theorem d_C_number_47 : decode b_C_number 47 = .ok (.athrow, 1) := by decide +kernel
theorem d_C_number_48 : decode b_C_number 48 = .ok (.aload_n 0, 1) := by decide +kernel
theorem d_C_number_49 : decode b_C_number 49 = .ok (.getfield 10, 3) := by decide +kernel
theorem d_C_number_52 : decode b_C_number 52 = .ok (.iload_n 1, 1) := by decide +kernel
theorem d_C_number_53 : decode b_C_number 53 = .ok (.iload_n 2, 1) := by decide +kernel
theorem d_C_number_54 : decode b_C_number 54 = .ok (.invokevirtual 126, 3) := by decide +kernel
theorem d_C_number_57 : decode b_C_number 57 = .ok (.aload_n 0, 1) := by decide +kernel
theorem d_C_number_58 : decode b_C_number 58 = .ok (.getfield 10, 3) := by decide +kernel
theorem d_C_number_61 : decode b_C_number 61 = .ok (.iload_n 1, 1) := by decide +kernel
theorem d_C_number_62 : decode b_C_number 62 = .ok (.invokevirtual 94, 3) := by decide +kernel
theorem d_C_number_65 : decode b_C_number 65 = .ok (.ireturn, 1) := by decide +kernel
theorem d_O_setNumber_0 : decode b_O_setNumber 0 = .ok (.aload_n 0, 1) := by decide +kernel
theorem d_O_setNumber_1 : decode b_O_setNumber 1 = .ok (.getfield 28, 3) := by decide +kernel
theorem d_O_setNumber_4 : decode b_O_setNumber 4 = .ok (.iload_n 1, 1) := by decide +kernel
theorem d_O_setNumber_5 : decode b_O_setNumber 5 = .ok (.bipush 127, 2) := by decide +kernel
theorem d_O_setNumber_7 : decode b_O_setNumber 7 = .ok (.iand, 1) := by decide +kernel
theorem d_O_setNumber_8 : decode b_O_setNumber 8 = .ok (.iload_n 2, 1) := by decide +kernel
theorem d_O_setNumber_9 : decode b_O_setNumber 9 = .ok (.iastore, 1) := by decide +kernel
theorem d_O_setNumber_10 : decode b_O_setNumber 10 = .ok (.aload_n 0, 1) := by decide +kernel
theorem d_O_setNumber_11 : decode b_O_setNumber 11 = .ok (.getfield 31, 3) := by decide +kernel
theorem d_O_setNumber_14 : decode b_O_setNumber 14 = .ok (.iload_n 1, 1) := by decide +kernel
theorem d_O_setNumber_15 : decode b_O_setNumber 15 = .ok (.bipush 127, 2) := by decide +kernel
theorem d_O_setNumber_17 : decode b_O_setNumber 17 = .ok (.iand, 1) := by decide +kernel
theorem d_O_setNumber_18 : decode b_O_setNumber 18 = .ok (.iconst 1, 1) := by decide +kernel
theorem d_O_setNumber_19 : decode b_O_setNumber 19 = .ok (.bastore, 1) := by decide +kernel
theorem d_O_setNumber_20 : decode b_O_setNumber 20 = .ok (.return_, 1) := by decide +kernel
theorem d_L_tried_0 : decode b_L_tried 0 = .ok (.aload_n 2, 1) := by decide +kernel
theorem d_L_tried_1 : decode b_L_tried 1 = .ok (.iconst 0, 1) := by decide +kernel
theorem d_L_tried_2 : decode b_L_tried 2 = .ok (.aload_n 0, 1) := by decide +kernel
theorem d_L_tried_3 : decode b_L_tried 3 = .ok (.iload_n 1, 1) := by decide +kernel
theorem d_L_tried_4 : decode b_L_tried 4 = .ok (.invokevirtual 26, 3) := by decide +kernel
theorem d_L_tried_7 : decode b_L_tried 7 = .ok (.i2l, 1) := by decide +kernel
theorem d_L_tried_8 : decode b_L_tried 8 = .ok (.lastore, 1) := by decide +kernel
theorem d_L_tried_9 : decode b_L_tried 9 = .ok (.goto 9, 3) := by decide +kernel
theorem d_L_tried_12 : decode b_L_tried 12 = .ok (.astore_n 3, 1) := by decide +kernel
theorem d_L_tried_13 : decode b_L_tried 13 = .ok (.iconst 1, 1) := by decide +kernel
theorem d_L_tried_14 : decode b_L_tried 14 = .ok (.ireturn, 1) := by decide +kernel
theorem d_L_tried_15 : decode b_L_tried 15 = .ok (.astore_n 3, 1) := by decide +kernel
theorem d_L_tried_16 : decode b_L_tried 16 = .ok (.iconst 2, 1) := by decide +kernel
theorem d_L_tried_17 : decode b_L_tried 17 = .ok (.ireturn, 1) := by decide +kernel
theorem d_L_tried_18 : decode b_L_tried 18 = .ok (.iconst 0, 1) := by decide +kernel
theorem d_L_tried_19 : decode b_L_tried 19 = .ok (.ireturn, 1) := by decide +kernel
theorem d_C_tried_0 : decode b_C_tried 0 = .ok (.aload_n 0, 1) := by decide +kernel
theorem d_C_tried_1 : decode b_C_tried 1 = .ok (.iload_n 1, 1) := by decide +kernel
theorem d_C_tried_2 : decode b_C_tried 2 = .ok (.invokevirtual 77, 3) := by decide +kernel
theorem d_C_tried_5 : decode b_C_tried 5 = .ok (.aload_n 0, 1) := by decide +kernel
theorem d_C_tried_6 : decode b_C_tried 6 = .ok (.iload_n 1, 1) := by decide +kernel
theorem d_C_tried_7 : decode b_C_tried 7 = .ok (.invokevirtual 81, 3) := by decide +kernel
theorem d_C_tried_10 : decode b_C_tried 10 = .ok (.ifCond .eq 36, 3) := by decide +kernel
theorem d_C_tried_13 : decode b_C_tried 13 = .ok (.aload_n 0, 1) := by decide +kernel
theorem d_C_tried_14 : decode b_C_tried 14 = .ok (.getfield 10, 3) := by decide +kernel
theorem d_C_tried_17 : decode b_C_tried 17 = .ok (.iload_n 1, 1) := by decide +kernel
theorem d_C_tried_18 : decode b_C_tried 18 = .ok (.invokevirtual 85, 3) := by decide +kernel
theorem d_C_tried_21 : decode b_C_tried 21 = .ok (.ifCond .ne 25, 3) := by decide +kernel
theorem d_C_tried_24 : decode b_C_tried 24 = .ok (.aload_n 0, 1) := by decide +kernel
theorem d_C_tried_25 : decode b_C_tried 25 = .ok (.getfield 10, 3) := by decide +kernel
theorem d_C_tried_28 : decode b_C_tried 28 = .ok (.iload_n 1, 1) := by decide +kernel
theorem d_C_tried_29 : decode b_C_tried 29 = .ok (.invokevirtual 89, 3) := by decide +kernel
theorem d_C_tried_32 : decode b_C_tried 32 = .ok (.ifCond .eq 14, 3) := by decide +kernel
theorem d_C_tried_35 : decode b_C_tried 35 = .ok (.aload_n 0, 1) := by decide +kernel
theorem d_C_tried_36 : decode b_C_tried 36 = .ok (.getfield 10, 3) := by decide +kernel
