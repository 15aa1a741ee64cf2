theorem d_C_tried_39 : decode b_C_tried 39 = .ok (.iload_n 1, 1) := by decide +kernel
theorem d_C_tried_40 : decode b_C_tried 40 = .ok (.invokevirtual 129, 3) := by decide +kernel
theorem d_C_tried_43 : decode b_C_tried 43 = .ok (.ifCond .eq 13, 3) := by decide +kernel
theorem d_C_tried_46 : decode b_C_tried 46 = .ok (.new 57, 3) := by decide +kernel
theorem d_C_tried_49 : decode b_C_tried 49 = .ok (.dup, 1) := by decide +kernel
theorem d_C_tried_50 : decode b_C_tried 50 = .ok (.ldc 132, 2) := by decide +kernel
theorem d_C_tried_52 : decode b_C_tried 52 = .ok (.invokespecial 61, 3) := by decide +kernel
theorem d_C_tried_55 : decode b_C_tried 55 = .ok (.athrow, 1) := by decide +kernel
theorem d_C_tried_56 : decode b_C_tried 56 = .ok (.aload_n 0, 1) := by decide +kernel
theorem d_C_tried_57 : decode b_C_tried 57 = .ok (.iload_n 1, 1) := by decide +kernel
theorem d_C_tried_58 : decode b_C_tried 58 = .ok (.invokevirtual 134, 3) := by decide +kernel
theorem d_C_tried_61 : decode b_C_tried 61 = .ok (.ifCond .eq 5, 3) := by decide +kernel
theorem d_C_tried_64 : decode b_C_tried 64 = .ok (.iconst 2, 1) := by decide +kernel
theorem d_C_tried_65 : decode b_C_tried 65 = .ok (.ireturn, 1) := by decide +kernel
theorem d_C_tried_66 : decode b_C_tried 66 = .ok (.aload_n 0, 1) := by decide +kernel
theorem d_C_tried_67 : decode b_C_tried 67 = .ok (.aload_n 0, 1) := by decide +kernel
theorem d_C_tried_68 : decode b_C_tried 68 = .ok (.getfield 10, 3) := by decide +kernel
theorem d_C_tried_71 : decode b_C_tried 71 = .ok (.iload_n 1, 1) := by decide +kernel
theorem d_C_tried_72 : decode b_C_tried 72 = .ok (.invokevirtual 109, 3) := by decide +kernel
theorem d_C_tried_75 : decode b_C_tried 75 = .ok (.invokevirtual 137, 3) := by decide +kernel
theorem d_C_tried_78 : decode b_C_tried 78 = .ok (.ifCond .eq 13, 3) := by decide +kernel
theorem d_C_tried_81 : decode b_C_tried 81 = .ok (.aload_n 0, 1) := by decide +kernel
theorem d_C_tried_82 : decode b_C_tried 82 = .ok (.iload_n 1, 1) := by decide +kernel
theorem d_C_tried_83 : decode b_C_tried 83 = .ok (.invokevirtual 140, 3) := by decide +kernel
theorem d_C_tried_86 : decode b_C_tried 86 = .ok (.ifCond .eq 5, 3) := by decide +kernel
theorem d_C_tried_89 : decode b_C_tried 89 = .ok (.iconst 3, 1) := by decide +kernel
theorem d_C_tried_90 : decode b_C_tried 90 = .ok (.ireturn, 1) := by decide +kernel
theorem d_C_tried_91 : decode b_C_tried 91 = .ok (.aload_n 0, 1) := by decide +kernel
theorem d_C_tried_92 : decode b_C_tried 92 = .ok (.iload_n 1, 1) := by decide +kernel
theorem d_C_tried_93 : decode b_C_tried 93 = .ok (.invokevirtual 143, 3) := by decide +kernel
theorem d_C_tried_96 : decode b_C_tried 96 = .ok (.ifCond .eq 5, 3) := by decide +kernel
theorem d_C_tried_99 : decode b_C_tried 99 = .ok (.iconst 4, 1) := by decide +kernel
theorem d_C_tried_100 : decode b_C_tried 100 = .ok (.ireturn, 1) := by decide +kernel
theorem d_C_tried_101 : decode b_C_tried 101 = .ok (.aload_n 0, 1) := by decide +kernel
theorem d_C_tried_102 : decode b_C_tried 102 = .ok (.iload_n 1, 1) := by decide +kernel
theorem d_C_tried_103 : decode b_C_tried 103 = .ok (.invokevirtual 146, 3) := by decide +kernel
theorem d_C_tried_106 : decode b_C_tried 106 = .ok (.iconst 1, 1) := by decide +kernel
theorem d_C_tried_107 : decode b_C_tried 107 = .ok (.ireturn, 1) := by decide +kernel
theorem d_C_isHeldBack_0 : decode b_C_isHeldBack 0 = .ok (.aload_n 0, 1) := by decide +kernel
theorem d_C_isHeldBack_1 : decode b_C_isHeldBack 1 = .ok (.getfield 10, 3) := by decide +kernel
theorem d_C_isHeldBack_4 : decode b_C_isHeldBack 4 = .ok (.iload_n 1, 1) := by decide +kernel
theorem d_C_isHeldBack_5 : decode b_C_isHeldBack 5 = .ok (.invokevirtual 225, 3) := by decide +kernel
theorem d_C_isHeldBack_8 : decode b_C_isHeldBack 8 = .ok (.invokestatic 217, 3) := by decide +kernel
theorem d_C_isHeldBack_11 : decode b_C_isHeldBack 11 = .ok (.ifCond .eq 23, 3) := by decide +kernel
theorem d_C_isHeldBack_14 : decode b_C_isHeldBack 14 = .ok (.iload_n 1, 1) := by decide +kernel
theorem d_C_isHeldBack_15 : decode b_C_isHeldBack 15 = .ok (.aload_n 0, 1) := by decide +kernel
theorem d_C_isHeldBack_16 : decode b_C_isHeldBack 16 = .ok (.getfield 34, 3) := by decide +kernel
theorem d_C_isHeldBack_19 : decode b_C_isHeldBack 19 = .ok (.if_icmp .ne 13, 3) := by decide +kernel
theorem d_C_isHeldBack_22 : decode b_C_isHeldBack 22 = .ok (.aload_n 0, 1) := by decide +kernel
theorem d_C_isHeldBack_23 : decode b_C_isHeldBack 23 = .ok (.getfield 19, 3) := by decide +kernel
theorem d_C_isHeldBack_26 : decode b_C_isHeldBack 26 = .ok (.invokevirtual 176, 3) := by decide +kernel
theorem d_C_isHeldBack_29 : decode b_C_isHeldBack 29 = .ok (.ifCond .ne 5, 3) := by decide +kernel
theorem d_C_isHeldBack_32 : decode b_C_isHeldBack 32 = .ok (.iconst 1, 1) := by decide +kernel
theorem d_C_isHeldBack_33 : decode b_C_isHeldBack 33 = .ok (.ireturn, 1) := by decide +kernel
theorem d_C_isHeldBack_34 : decode b_C_isHeldBack 34 = .ok (.aload_n 0, 1) := by decide +kernel
theorem d_C_isHeldBack_35 : decode b_C_isHeldBack 35 = .ok (.getfield 34, 3) := by decide +kernel
theorem d_C_isHeldBack_38 : decode b_C_isHeldBack 38 = .ok (.istore_n 2, 1) := by decide +kernel
theorem d_C_isHeldBack_39 : decode b_C_isHeldBack 39 = .ok (.iload_n 2, 1) := by decide +kernel
theorem d_C_isHeldBack_40 : decode b_C_isHeldBack 40 = .ok (.iload_n 1, 1) := by decide +kernel
theorem d_C_isHeldBack_41 : decode b_C_isHeldBack 41 = .ok (.if_icmp .ge 30, 3) := by decide +kernel
theorem d_C_isHeldBack_44 : decode b_C_isHeldBack 44 = .ok (.aload_n 0, 1) := by decide +kernel
theorem d_C_isHeldBack_45 : decode b_C_isHeldBack 45 = .ok (.getfield 10, 3) := by decide +kernel
theorem d_C_isHeldBack_48 : decode b_C_isHeldBack 48 = .ok (.iload_n 2, 1) := by decide +kernel
theorem d_C_isHeldBack_49 : decode b_C_isHeldBack 49 = .ok (.invokevirtual 85, 3) := by decide +kernel
theorem d_C_isHeldBack_52 : decode b_C_isHeldBack 52 = .ok (.istore_n 3, 1) := by decide +kernel
theorem d_C_isHeldBack_53 : decode b_C_isHeldBack 53 = .ok (.iload_n 3, 1) := by decide +kernel
theorem d_C_isHeldBack_54 : decode b_C_isHeldBack 54 = .ok (.iconst 2, 1) := by decide +kernel
theorem d_C_isHeldBack_55 : decode b_C_isHeldBack 55 = .ok (.if_icmp .eq 8, 3) := by decide +kernel
theorem d_C_isHeldBack_58 : decode b_C_isHeldBack 58 = .ok (.iload_n 3, 1) := by decide +kernel
theorem d_C_isHeldBack_59 : decode b_C_isHeldBack 59 = .ok (.iconst 3, 1) := by decide +kernel
theorem d_C_isHeldBack_60 : decode b_C_isHeldBack 60 = .ok (.if_icmp .ne 5, 3) := by decide +kernel
theorem d_C_isHeldBack_63 : decode b_C_isHeldBack 63 = .ok (.iconst 1, 1) := by decide +kernel
theorem d_C_isHeldBack_64 : decode b_C_isHeldBack 64 = .ok (.ireturn, 1) := by decide +kernel
theorem d_C_isHeldBack_65 : decode b_C_isHeldBack 65 = .ok (.iinc 2 1, 3) := by decide +kernel
theorem d_C_isHeldBack_68 : decode b_C_isHeldBack 68 = .ok (.goto (-29), 3) := by decide +kernel
theorem d_C_isHeldBack_71 : decode b_C_isHeldBack 71 = .ok (.iconst 0, 1) := by decide +kernel
theorem d_C_isHeldBack_72 : decode b_C_isHeldBack 72 = .ok (.ireturn, 1) := by decide +kernel
theorem d_C_storeWithoutAddressBefore_0 : decode b_C_storeWithoutAddressBefore 0 = .ok (.aload_n 0, 1) := by decide +kernel
theorem d_C_storeWithoutAddressBefore_1 : decode b_C_storeWithoutAddressBefore 1 = .ok (.getfield 34, 3) := by decide +kernel
theorem d_C_storeWithoutAddressBefore_4 : decode b_C_storeWithoutAddressBefore 4 = .ok (.istore_n 2, 1) := by decide +kernel
theorem d_C_storeWithoutAddressBefore_5 : decode b_C_storeWithoutAddressBefore 5 = .ok (.iload_n 2, 1) := by decide +kernel
theorem d_C_storeWithoutAddressBefore_6 : decode b_C_storeWithoutAddressBefore 6 = .ok (.iload_n 1, 1) := by decide +kernel
theorem d_C_storeWithoutAddressBefore_7 : decode b_C_storeWithoutAddressBefore 7 = .ok (.if_icmp .ge 34, 3) := by decide +kernel
theorem d_C_storeWithoutAddressBefore_10 : decode b_C_storeWithoutAddressBefore 10 = .ok (.aload_n 0, 1) := by decide +kernel
theorem d_C_storeWithoutAddressBefore_11 : decode b_C_storeWithoutAddressBefore 11 = .ok (.getfield 10, 3) := by decide +kernel
theorem d_C_storeWithoutAddressBefore_14 : decode b_C_storeWithoutAddressBefore 14 = .ok (.iload_n 2, 1) := by decide +kernel
theorem d_C_storeWithoutAddressBefore_15 : decode b_C_storeWithoutAddressBefore 15 = .ok (.invokevirtual 85, 3) := by decide +kernel
theorem d_C_storeWithoutAddressBefore_18 : decode b_C_storeWithoutAddressBefore 18 = .ok (.iconst 1, 1) := by decide +kernel
theorem d_C_storeWithoutAddressBefore_19 : decode b_C_storeWithoutAddressBefore 19 = .ok (.if_icmp .ne 16, 3) := by decide +kernel
theorem d_C_storeWithoutAddressBefore_22 : decode b_C_storeWithoutAddressBefore 22 = .ok (.aload_n 0, 1) := by decide +kernel
theorem d_C_storeWithoutAddressBefore_23 : decode b_C_storeWithoutAddressBefore 23 = .ok (.getfield 10, 3) := by decide +kernel
theorem d_C_storeWithoutAddressBefore_26 : decode b_C_storeWithoutAddressBefore 26 = .ok (.iload_n 2, 1) := by decide +kernel
theorem d_C_storeWithoutAddressBefore_27 : decode b_C_storeWithoutAddressBefore 27 = .ok (.invokevirtual 89, 3) := by decide +kernel
theorem d_C_storeWithoutAddressBefore_30 : decode b_C_storeWithoutAddressBefore 30 = .ok (.ifCond .ne 5, 3) := by decide +kernel
theorem d_C_storeWithoutAddressBefore_33 : decode b_C_storeWithoutAddressBefore 33 = .ok (.iconst 1, 1) := by decide +kernel
theorem d_C_storeWithoutAddressBefore_34 : decode b_C_storeWithoutAddressBefore 34 = .ok (.ireturn, 1) := by decide +kernel
theorem d_C_storeWithoutAddressBefore_35 : decode b_C_storeWithoutAddressBefore 35 = .ok (.iinc 2 1, 3) := by decide +kernel
theorem d_C_storeWithoutAddressBefore_38 : decode b_C_storeWithoutAddressBefore 38 = .ok (.goto (-33), 3) := by decide +kernel
theorem d_C_storeWithoutAddressBefore_41 : decode b_C_storeWithoutAddressBefore 41 = .ok (.iconst 0, 1) := by decide +kernel
theorem d_C_storeWithoutAddressBefore_42 : decode b_C_storeWithoutAddressBefore 42 = .ok (.ireturn, 1) := by decide +kernel
theorem d_C_storeWithoutNumberFor_0 : decode b_C_storeWithoutNumberFor 0 = .ok (.aload_n 0, 1) := by decide +kernel
theorem d_C_storeWithoutNumberFor_1 : decode b_C_storeWithoutNumberFor 1 = .ok (.getfield 10, 3) := by decide +kernel
theorem d_C_storeWithoutNumberFor_4 : decode b_C_storeWithoutNumberFor 4 = .ok (.iload_n 1, 1) := by decide +kernel
theorem d_C_storeWithoutNumberFor_5 : decode b_C_storeWithoutNumberFor 5 = .ok (.invokevirtual 225, 3) := by decide +kernel
theorem d_C_storeWithoutNumberFor_8 : decode b_C_storeWithoutNumberFor 8 = .ok (.istore_n 2, 1) := by decide +kernel
theorem d_C_storeWithoutNumberFor_9 : decode b_C_storeWithoutNumberFor 9 = .ok (.iconst 0, 1) := by decide +kernel
theorem d_C_storeWithoutNumberFor_10 : decode b_C_storeWithoutNumberFor 10 = .ok (.istore_n 3, 1) := by decide +kernel
theorem d_C_storeWithoutNumberFor_11 : decode b_C_storeWithoutNumberFor 11 = .ok (.iload_n 3, 1) := by decide +kernel
theorem d_C_storeWithoutNumberFor_12 : decode b_C_storeWithoutNumberFor 12 = .ok (.aload_n 0, 1) := by decide +kernel
theorem d_C_storeWithoutNumberFor_13 : decode b_C_storeWithoutNumberFor 13 = .ok (.getfield 10, 3) := by decide +kernel
theorem d_C_storeWithoutNumberFor_16 : decode b_C_storeWithoutNumberFor 16 = .ok (.iload_n 1, 1) := by decide +kernel
theorem d_C_storeWithoutNumberFor_17 : decode b_C_storeWithoutNumberFor 17 = .ok (.invokevirtual 94, 3) := by decide +kernel
theorem d_C_storeWithoutNumberFor_20 : decode b_C_storeWithoutNumberFor 20 = .ok (.if_icmp .ge 39, 3) := by decide +kernel
theorem d_C_storeWithoutNumberFor_23 : decode b_C_storeWithoutNumberFor 23 = .ok (.aload_n 0, 1) := by decide +kernel
theorem d_C_storeWithoutNumberFor_24 : decode b_C_storeWithoutNumberFor 24 = .ok (.iload_n 1, 1) := by decide +kernel
theorem d_C_storeWithoutNumberFor_25 : decode b_C_storeWithoutNumberFor 25 = .ok (.iload_n 2, 1) := by decide +kernel
theorem d_C_storeWithoutNumberFor_26 : decode b_C_storeWithoutNumberFor 26 = .ok (.iload_n 3, 1) := by decide +kernel
theorem d_C_storeWithoutNumberFor_27 : decode b_C_storeWithoutNumberFor 27 = .ok (.iadd, 1) := by decide +kernel
theorem d_C_storeWithoutNumberFor_28 : decode b_C_storeWithoutNumberFor 28 = .ok (.invokevirtual 228, 3) := by decide +kernel
theorem d_C_storeWithoutNumberFor_31 : decode b_C_storeWithoutNumberFor 31 = .ok (.istore 4, 2) := by decide +kernel
theorem d_C_storeWithoutNumberFor_33 : decode b_C_storeWithoutNumberFor 33 = .ok (.iload 4, 2) := by decide +kernel
theorem d_C_storeWithoutNumberFor_35 : decode b_C_storeWithoutNumberFor 35 = .ok (.iconst (-1), 1) := by decide +kernel
theorem d_C_storeWithoutNumberFor_36 : decode b_C_storeWithoutNumberFor 36 = .ok (.if_icmp .eq 17, 3) := by decide +kernel
theorem d_C_storeWithoutNumberFor_39 : decode b_C_storeWithoutNumberFor 39 = .ok (.aload_n 0, 1) := by decide +kernel
theorem d_C_storeWithoutNumberFor_40 : decode b_C_storeWithoutNumberFor 40 = .ok (.getfield 10, 3) := by decide +kernel
theorem d_C_storeWithoutNumberFor_43 : decode b_C_storeWithoutNumberFor 43 = .ok (.iload 4, 2) := by decide +kernel
theorem d_C_storeWithoutNumberFor_45 : decode b_C_storeWithoutNumberFor 45 = .ok (.invokevirtual 121, 3) := by decide +kernel
theorem d_C_storeWithoutNumberFor_48 : decode b_C_storeWithoutNumberFor 48 = .ok (.ifCond .ne 5, 3) := by decide +kernel
theorem d_C_storeWithoutNumberFor_51 : decode b_C_storeWithoutNumberFor 51 = .ok (.iconst 1, 1) := by decide +kernel
theorem d_C_storeWithoutNumberFor_52 : decode b_C_storeWithoutNumberFor 52 = .ok (.ireturn, 1) := by decide +kernel
theorem d_C_storeWithoutNumberFor_53 : decode b_C_storeWithoutNumberFor 53 = .ok (.iinc 3 1, 3) := by decide +kernel
theorem d_C_storeWithoutNumberFor_56 : decode b_C_storeWithoutNumberFor 56 = .ok (.goto (-45), 3) := by decide +kernel
theorem d_C_storeWithoutNumberFor_59 : decode b_C_storeWithoutNumberFor 59 = .ok (.iconst 0, 1) := by decide +kernel
theorem d_C_storeWithoutNumberFor_60 : decode b_C_storeWithoutNumberFor 60 = .ok (.ireturn, 1) := by decide +kernel
theorem d_C_newestStoreBefore_0 : decode b_C_newestStoreBefore 0 = .ok (.iload_n 1, 1) := by decide +kernel
theorem d_C_newestStoreBefore_1 : decode b_C_newestStoreBefore 1 = .ok (.iconst 1, 1) := by decide +kernel
theorem d_C_newestStoreBefore_2 : decode b_C_newestStoreBefore 2 = .ok (.isub, 1) := by decide +kernel
theorem d_C_newestStoreBefore_3 : decode b_C_newestStoreBefore 3 = .ok (.istore_n 3, 1) := by decide +kernel
theorem d_C_newestStoreBefore_4 : decode b_C_newestStoreBefore 4 = .ok (.iload_n 3, 1) := by decide +kernel
theorem d_C_newestStoreBefore_5 : decode b_C_newestStoreBefore 5 = .ok (.aload_n 0, 1) := by decide +kernel
theorem d_C_newestStoreBefore_6 : decode b_C_newestStoreBefore 6 = .ok (.getfield 34, 3) := by decide +kernel
theorem d_C_newestStoreBefore_9 : decode b_C_newestStoreBefore 9 = .ok (.if_icmp .lt 35, 3) := by decide +kernel
theorem d_C_newestStoreBefore_12 : decode b_C_newestStoreBefore 12 = .ok (.aload_n 0, 1) := by decide +kernel
theorem d_C_newestStoreBefore_13 : decode b_C_newestStoreBefore 13 = .ok (.getfield 10, 3) := by decide +kernel
theorem d_C_newestStoreBefore_16 : decode b_C_newestStoreBefore 16 = .ok (.iload_n 3, 1) := by decide +kernel
theorem d_C_newestStoreBefore_17 : decode b_C_newestStoreBefore 17 = .ok (.invokevirtual 85, 3) := by decide +kernel
theorem d_C_newestStoreBefore_20 : decode b_C_newestStoreBefore 20 = .ok (.iconst 1, 1) := by decide +kernel
theorem d_C_newestStoreBefore_21 : decode b_C_newestStoreBefore 21 = .ok (.if_icmp .ne 17, 3) := by decide +kernel
theorem d_C_newestStoreBefore_24 : decode b_C_newestStoreBefore 24 = .ok (.aload_n 0, 1) := by decide +kernel
theorem d_C_newestStoreBefore_25 : decode b_C_newestStoreBefore 25 = .ok (.getfield 10, 3) := by decide +kernel
theorem d_C_newestStoreBefore_28 : decode b_C_newestStoreBefore 28 = .ok (.iload_n 3, 1) := by decide +kernel
theorem d_C_newestStoreBefore_29 : decode b_C_newestStoreBefore 29 = .ok (.iload_n 2, 1) := by decide +kernel
theorem d_C_newestStoreBefore_30 : decode b_C_newestStoreBefore 30 = .ok (.invokevirtual 231, 3) := by decide +kernel
theorem d_C_newestStoreBefore_33 : decode b_C_newestStoreBefore 33 = .ok (.ifCond .eq 5, 3) := by decide +kernel
theorem d_C_newestStoreBefore_36 : decode b_C_newestStoreBefore 36 = .ok (.iload_n 3, 1) := by decide +kernel
theorem d_C_newestStoreBefore_37 : decode b_C_newestStoreBefore 37 = .ok (.ireturn, 1) := by decide +kernel
theorem d_C_newestStoreBefore_38 : decode b_C_newestStoreBefore 38 = .ok (.iinc 3 (-1), 3) := by decide +kernel
theorem d_C_newestStoreBefore_41 : decode b_C_newestStoreBefore 41 = .ok (.goto (-37), 3) := by decide +kernel
theorem d_C_newestStoreBefore_44 : decode b_C_newestStoreBefore 44 = .ok (.iconst (-1), 1) := by decide +kernel
theorem d_C_newestStoreBefore_45 : decode b_C_newestStoreBefore 45 = .ok (.ireturn, 1) := by decide +kernel
theorem d_C_doLoad_0 : decode b_C_doLoad 0 = .ok (.aload_n 0, 1) := by decide +kernel
theorem d_C_doLoad_1 : decode b_C_doLoad 1 = .ok (.getfield 10, 3) := by decide +kernel
theorem d_C_doLoad_4 : decode b_C_doLoad 4 = .ok (.iload_n 1, 1) := by decide +kernel
theorem d_C_doLoad_5 : decode b_C_doLoad 5 = .ok (.invokevirtual 225, 3) := by decide +kernel
theorem d_C_doLoad_8 : decode b_C_doLoad 8 = .ok (.istore_n 2, 1) := by decide +kernel
theorem d_C_doLoad_9 : decode b_C_doLoad 9 = .ok (.iconst 0, 1) := by decide +kernel
theorem d_C_doLoad_10 : decode b_C_doLoad 10 = .ok (.istore_n 3, 1) := by decide +kernel
theorem d_C_doLoad_11 : decode b_C_doLoad 11 = .ok (.iconst 0, 1) := by decide +kernel
theorem d_C_doLoad_12 : decode b_C_doLoad 12 = .ok (.istore 4, 2) := by decide +kernel
theorem d_C_doLoad_14 : decode b_C_doLoad 14 = .ok (.iload 4, 2) := by decide +kernel
theorem d_C_doLoad_16 : decode b_C_doLoad 16 = .ok (.aload_n 0, 1) := by decide +kernel
theorem d_C_doLoad_17 : decode b_C_doLoad 17 = .ok (.getfield 10, 3) := by decide +kernel
theorem d_C_doLoad_20 : decode b_C_doLoad 20 = .ok (.iload_n 1, 1) := by decide +kernel
theorem d_C_doLoad_21 : decode b_C_doLoad 21 = .ok (.invokevirtual 94, 3) := by decide +kernel
theorem d_C_doLoad_24 : decode b_C_doLoad 24 = .ok (.if_icmp .ge 26, 3) := by decide +kernel
theorem d_C_doLoad_27 : decode b_C_doLoad 27 = .ok (.iload_n 3, 1) := by decide +kernel
theorem d_C_doLoad_28 : decode b_C_doLoad 28 = .ok (.bipush 8, 2) := by decide +kernel
theorem d_C_doLoad_30 : decode b_C_doLoad 30 = .ok (.ishl, 1) := by decide +kernel
theorem d_C_doLoad_31 : decode b_C_doLoad 31 = .ok (.aload_n 0, 1) := by decide +kernel
theorem d_C_doLoad_32 : decode b_C_doLoad 32 = .ok (.iload_n 1, 1) := by decide +kernel
theorem d_C_doLoad_33 : decode b_C_doLoad 33 = .ok (.iload 4, 2) := by decide +kernel
theorem d_C_doLoad_35 : decode b_C_doLoad 35 = .ok (.iload_n 2, 1) := by decide +kernel
theorem d_C_doLoad_36 : decode b_C_doLoad 36 = .ok (.iload 4, 2) := by decide +kernel
theorem d_C_doLoad_38 : decode b_C_doLoad 38 = .ok (.iadd, 1) := by decide +kernel
theorem d_C_doLoad_39 : decode b_C_doLoad 39 = .ok (.invokevirtual 234, 3) := by decide +kernel
theorem d_C_doLoad_42 : decode b_C_doLoad 42 = .ok (.ior, 1) := by decide +kernel
theorem d_C_doLoad_43 : decode b_C_doLoad 43 = .ok (.istore_n 3, 1) := by decide +kernel
theorem d_C_doLoad_44 : decode b_C_doLoad 44 = .ok (.iinc 4 1, 3) := by decide +kernel
theorem d_C_doLoad_47 : decode b_C_doLoad 47 = .ok (.goto (-33), 3) := by decide +kernel
theorem d_C_doLoad_50 : decode b_C_doLoad 50 = .ok (.aload_n 0, 1) := by decide +kernel
theorem d_C_doLoad_51 : decode b_C_doLoad 51 = .ok (.getfield 10, 3) := by decide +kernel
theorem d_C_doLoad_54 : decode b_C_doLoad 54 = .ok (.iload_n 1, 1) := by decide +kernel
theorem d_C_doLoad_55 : decode b_C_doLoad 55 = .ok (.iload_n 3, 1) := by decide +kernel
theorem d_C_doLoad_56 : decode b_C_doLoad 56 = .ok (.invokevirtual 238, 3) := by decide +kernel
theorem d_C_doLoad_59 : decode b_C_doLoad 59 = .ok (.aload_n 0, 1) := by decide +kernel
theorem d_C_doLoad_60 : decode b_C_doLoad 60 = .ok (.getfield 10, 3) := by decide +kernel
theorem d_C_doLoad_63 : decode b_C_doLoad 63 = .ok (.iload_n 1, 1) := by decide +kernel
theorem d_C_doLoad_64 : decode b_C_doLoad 64 = .ok (.iconst 1, 1) := by decide +kernel
theorem d_C_doLoad_65 : decode b_C_doLoad 65 = .ok (.invokevirtual 241, 3) := by decide +kernel
theorem d_C_doLoad_68 : decode b_C_doLoad 68 = .ok (.return_, 1) := by decide +kernel
theorem d_C_takeByte_0 : decode b_C_takeByte 0 = .ok (.aload_n 0, 1) := by decide +kernel
theorem d_C_takeByte_1 : decode b_C_takeByte 1 = .ok (.iload_n 1, 1) := by decide +kernel
theorem d_C_takeByte_2 : decode b_C_takeByte 2 = .ok (.iload_n 3, 1) := by decide +kernel
theorem d_C_takeByte_3 : decode b_C_takeByte 3 = .ok (.invokevirtual 228, 3) := by decide +kernel
theorem d_C_takeByte_6 : decode b_C_takeByte 6 = .ok (.istore 4, 2) := by decide +kernel
theorem d_C_takeByte_8 : decode b_C_takeByte 8 = .ok (.iload 4, 2) := by decide +kernel
theorem d_C_takeByte_10 : decode b_C_takeByte 10 = .ok (.iconst (-1), 1) := by decide +kernel
theorem d_C_takeByte_11 : decode b_C_takeByte 11 = .ok (.if_icmp .eq 35, 3) := by decide +kernel
theorem d_C_takeByte_14 : decode b_C_takeByte 14 = .ok (.aload_n 0, 1) := by decide +kernel
theorem d_C_takeByte_15 : decode b_C_takeByte 15 = .ok (.getfield 10, 3) := by decide +kernel
theorem d_C_takeByte_18 : decode b_C_takeByte 18 = .ok (.iload_n 1, 1) := by decide +kernel
theorem d_C_takeByte_19 : decode b_C_takeByte 19 = .ok (.iload_n 2, 1) := by decide +kernel
theorem d_C_takeByte_20 : decode b_C_takeByte 20 = .ok (.iload 4, 2) := by decide +kernel
theorem d_C_takeByte_22 : decode b_C_takeByte 22 = .ok (.invokevirtual 245, 3) := by decide +kernel
theorem d_C_takeByte_25 : decode b_C_takeByte 25 = .ok (.aload_n 0, 1) := by decide +kernel
theorem d_C_takeByte_26 : decode b_C_takeByte 26 = .ok (.dup, 1) := by decide +kernel
theorem d_C_takeByte_27 : decode b_C_takeByte 27 = .ok (.getfield 47, 3) := by decide +kernel
theorem d_C_takeByte_30 : decode b_C_takeByte 30 = .ok (.iconst 1, 1) := by decide +kernel
theorem d_C_takeByte_31 : decode b_C_takeByte 31 = .ok (.iadd, 1) := by decide +kernel
theorem d_C_takeByte_32 : decode b_C_takeByte 32 = .ok (.putfield 47, 3) := by decide +kernel
theorem d_C_takeByte_35 : decode b_C_takeByte 35 = .ok (.aload_n 0, 1) := by decide +kernel
theorem d_C_takeByte_36 : decode b_C_takeByte 36 = .ok (.getfield 10, 3) := by decide +kernel
theorem d_C_takeByte_39 : decode b_C_takeByte 39 = .ok (.iload 4, 2) := by decide +kernel
theorem d_C_takeByte_41 : decode b_C_takeByte 41 = .ok (.iload_n 3, 1) := by decide +kernel
theorem d_C_takeByte_42 : decode b_C_takeByte 42 = .ok (.invokevirtual 249, 3) := by decide +kernel
theorem d_C_takeByte_45 : decode b_C_takeByte 45 = .ok (.ireturn, 1) := by decide +kernel
theorem d_C_takeByte_46 : decode b_C_takeByte 46 = .ok (.aload_n 0, 1) := by decide +kernel
theorem d_C_takeByte_47 : decode b_C_takeByte 47 = .ok (.dup, 1) := by decide +kernel
theorem d_C_takeByte_48 : decode b_C_takeByte 48 = .ok (.getfield 50, 3) := by decide +kernel
theorem d_C_takeByte_51 : decode b_C_takeByte 51 = .ok (.iconst 1, 1) := by decide +kernel
theorem d_C_takeByte_52 : decode b_C_takeByte 52 = .ok (.iadd, 1) := by decide +kernel
theorem d_C_takeByte_53 : decode b_C_takeByte 53 = .ok (.putfield 50, 3) := by decide +kernel
theorem d_C_takeByte_56 : decode b_C_takeByte 56 = .ok (.aload_n 0, 1) := by decide +kernel
theorem d_C_takeByte_57 : decode b_C_takeByte 57 = .ok (.getfield 19, 3) := by decide +kernel
theorem d_C_takeByte_60 : decode b_C_takeByte 60 = .ok (.iload_n 3, 1) := by decide +kernel
theorem d_C_takeByte_61 : decode b_C_takeByte 61 = .ok (.invokevirtual 251, 3) := by decide +kernel
theorem d_C_takeByte_64 : decode b_C_takeByte 64 = .ok (.istore 5, 2) := by decide +kernel
theorem d_C_takeByte_66 : decode b_C_takeByte 66 = .ok (.iload 5, 2) := by decide +kernel
theorem d_C_takeByte_68 : decode b_C_takeByte 68 = .ok (.iconst (-1), 1) := by decide +kernel
theorem d_C_takeByte_69 : decode b_C_takeByte 69 = .ok (.if_icmp .eq 17, 3) := by decide +kernel
theorem d_C_takeByte_72 : decode b_C_takeByte 72 = .ok (.aload_n 0, 1) := by decide +kernel
theorem d_C_takeByte_73 : decode b_C_takeByte 73 = .ok (.getfield 10, 3) := by decide +kernel
theorem d_C_takeByte_76 : decode b_C_takeByte 76 = .ok (.iload_n 1, 1) := by decide +kernel
theorem d_C_takeByte_77 : decode b_C_takeByte 77 = .ok (.iload_n 2, 1) := by decide +kernel
theorem d_C_takeByte_78 : decode b_C_takeByte 78 = .ok (.bipush (-2), 2) := by decide +kernel
theorem d_C_takeByte_80 : decode b_C_takeByte 80 = .ok (.invokevirtual 245, 3) := by decide +kernel
theorem d_C_takeByte_83 : decode b_C_takeByte 83 = .ok (.iload 5, 2) := by decide +kernel
theorem d_C_takeByte_85 : decode b_C_takeByte 85 = .ok (.ireturn, 1) := by decide +kernel
theorem d_C_takeByte_86 : decode b_C_takeByte 86 = .ok (.aload_n 0, 1) := by decide +kernel
theorem d_C_takeByte_87 : decode b_C_takeByte 87 = .ok (.getfield 10, 3) := by decide +kernel
theorem d_C_takeByte_90 : decode b_C_takeByte 90 = .ok (.iload_n 1, 1) := by decide +kernel
theorem d_C_takeByte_91 : decode b_C_takeByte 91 = .ok (.iload_n 2, 1) := by decide +kernel
theorem d_C_takeByte_92 : decode b_C_takeByte 92 = .ok (.iconst (-1), 1) := by decide +kernel
theorem d_C_takeByte_93 : decode b_C_takeByte 93 = .ok (.invokevirtual 245, 3) := by decide +kernel
theorem d_C_takeByte_96 : decode b_C_takeByte 96 = .ok (.aload_n 0, 1) := by decide +kernel
theorem d_C_takeByte_97 : decode b_C_takeByte 97 = .ok (.getfield 26, 3) := by decide +kernel
theorem d_C_takeByte_100 : decode b_C_takeByte 100 = .ok (.iload_n 3, 1) := by decide +kernel
theorem d_C_takeByte_101 : decode b_C_takeByte 101 = .ok (.invokevirtual 200, 3) := by decide +kernel
theorem d_C_takeByte_104 : decode b_C_takeByte 104 = .ok (.ireturn, 1) := by decide +kernel
theorem d_O_setSource_0 : decode b_O_setSource 0 = .ok (.aload_n 0, 1) := by decide +kernel
theorem d_O_setSource_1 : decode b_O_setSource 1 = .ok (.getfield 40, 3) := by decide +kernel
theorem d_O_setSource_4 : decode b_O_setSource 4 = .ok (.iload_n 1, 1) := by decide +kernel
theorem d_O_setSource_5 : decode b_O_setSource 5 = .ok (.iload_n 2, 1) := by decide +kernel
theorem d_O_setSource_6 : decode b_O_setSource 6 = .ok (.invokestatic 50, 3) := by decide +kernel
theorem d_O_setSource_9 : decode b_O_setSource 9 = .ok (.iload_n 3, 1) := by decide +kernel
theorem d_O_setSource_10 : decode b_O_setSource 10 = .ok (.iastore, 1) := by decide +kernel
theorem d_O_setSource_11 : decode b_O_setSource 11 = .ok (.return_, 1) := by decide +kernel
theorem d_O_byteAt_0 : decode b_O_byteAt 0 = .ok (.aload_n 0, 1) := by decide +kernel
theorem d_O_byteAt_1 : decode b_O_byteAt 1 = .ok (.iload_n 1, 1) := by decide +kernel
theorem d_O_byteAt_2 : decode b_O_byteAt 2 = .ok (.invokevirtual 61, 3) := by decide +kernel
theorem d_O_byteAt_5 : decode b_O_byteAt 5 = .ok (.aload_n 0, 1) := by decide +kernel
theorem d_O_byteAt_6 : decode b_O_byteAt 6 = .ok (.iload_n 1, 1) := by decide +kernel
theorem d_O_byteAt_7 : decode b_O_byteAt 7 = .ok (.invokevirtual 58, 3) := by decide +kernel
theorem d_O_byteAt_10 : decode b_O_byteAt 10 = .ok (.iload_n 2, 1) := by decide +kernel
theorem d_O_byteAt_11 : decode b_O_byteAt 11 = .ok (.aload_n 0, 1) := by decide +kernel
theorem d_O_byteAt_12 : decode b_O_byteAt 12 = .ok (.iload_n 1, 1) := by decide +kernel
theorem d_O_byteAt_13 : decode b_O_byteAt 13 = .ok (.invokevirtual 54, 3) := by decide +kernel
theorem d_O_byteAt_16 : decode b_O_byteAt 16 = .ok (.isub, 1) := by decide +kernel
theorem d_O_byteAt_17 : decode b_O_byteAt 17 = .ok (.invokestatic 64, 3) := by decide +kernel
theorem d_O_byteAt_20 : decode b_O_byteAt 20 = .ok (.ireturn, 1) := by decide +kernel
theorem d_B_byteAt_0 : decode b_B_byteAt 0 = .ok (.iconst (-1), 1) := by decide +kernel
theorem d_B_byteAt_1 : decode b_B_byteAt 1 = .ok (.istore_n 2, 1) := by decide +kernel
theorem d_B_byteAt_2 : decode b_B_byteAt 2 = .ok (.iconst 0, 1) := by decide +kernel
theorem d_B_byteAt_3 : decode b_B_byteAt 3 = .ok (.istore_n 3, 1) := by decide +kernel
theorem d_B_byteAt_4 : decode b_B_byteAt 4 = .ok (.iload_n 3, 1) := by decide +kernel
theorem d_B_byteAt_5 : decode b_B_byteAt 5 = .ok (.iconst 4, 1) := by decide +kernel
theorem d_B_byteAt_6 : decode b_B_byteAt 6 = .ok (.if_icmp .ge 68, 3) := by decide +kernel
theorem d_B_byteAt_9 : decode b_B_byteAt 9 = .ok (.iload_n 3, 1) := by decide +kernel
theorem d_B_byteAt_10 : decode b_B_byteAt 10 = .ok (.aload_n 0, 1) := by decide +kernel
theorem d_B_byteAt_11 : decode b_B_byteAt 11 = .ok (.getfield 24, 3) := by decide +kernel
theorem d_B_byteAt_14 : decode b_B_byteAt 14 = .ok (.if_icmp .ge 54, 3) := by decide +kernel
theorem d_B_byteAt_17 : decode b_B_byteAt 17 = .ok (.iload_n 1, 1) := by decide +kernel
theorem d_B_byteAt_18 : decode b_B_byteAt 18 = .ok (.aload_n 0, 1) := by decide +kernel
theorem d_B_byteAt_19 : decode b_B_byteAt 19 = .ok (.getfield 15, 3) := by decide +kernel
theorem d_B_byteAt_22 : decode b_B_byteAt 22 = .ok (.iload_n 3, 1) := by decide +kernel
theorem d_B_byteAt_23 : decode b_B_byteAt 23 = .ok (.iaload, 1) := by decide +kernel
theorem d_B_byteAt_24 : decode b_B_byteAt 24 = .ok (.if_icmp .lt 44, 3) := by decide +kernel
theorem d_B_byteAt_27 : decode b_B_byteAt 27 = .ok (.iload_n 1, 1) := by decide +kernel
theorem d_B_byteAt_28 : decode b_B_byteAt 28 = .ok (.aload_n 0, 1) := by decide +kernel
theorem d_B_byteAt_29 : decode b_B_byteAt 29 = .ok (.getfield 15, 3) := by decide +kernel
theorem d_B_byteAt_32 : decode b_B_byteAt 32 = .ok (.iload_n 3, 1) := by decide +kernel
theorem d_B_byteAt_33 : decode b_B_byteAt 33 = .ok (.iaload, 1) := by decide +kernel
theorem d_B_byteAt_34 : decode b_B_byteAt 34 = .ok (.aload_n 0, 1) := by decide +kernel
theorem d_B_byteAt_35 : decode b_B_byteAt 35 = .ok (.getfield 18, 3) := by decide +kernel
theorem d_B_byteAt_38 : decode b_B_byteAt 38 = .ok (.iload_n 3, 1) := by decide +kernel
theorem d_B_byteAt_39 : decode b_B_byteAt 39 = .ok (.iaload, 1) := by decide +kernel
theorem d_B_byteAt_40 : decode b_B_byteAt 40 = .ok (.iadd, 1) := by decide +kernel
theorem d_B_byteAt_41 : decode b_B_byteAt 41 = .ok (.if_icmp .ge 27, 3) := by decide +kernel
theorem d_B_byteAt_44 : decode b_B_byteAt 44 = .ok (.aload_n 0, 1) := by decide +kernel
theorem d_B_byteAt_45 : decode b_B_byteAt 45 = .ok (.getfield 21, 3) := by decide +kernel
theorem d_B_byteAt_48 : decode b_B_byteAt 48 = .ok (.iload_n 3, 1) := by decide +kernel
theorem d_B_byteAt_49 : decode b_B_byteAt 49 = .ok (.iaload, 1) := by decide +kernel
theorem d_B_byteAt_50 : decode b_B_byteAt 50 = .ok (.aload_n 0, 1) := by decide +kernel
theorem d_B_byteAt_51 : decode b_B_byteAt 51 = .ok (.getfield 18, 3) := by decide +kernel
theorem d_B_byteAt_54 : decode b_B_byteAt 54 = .ok (.iload_n 3, 1) := by decide +kernel
theorem d_B_byteAt_55 : decode b_B_byteAt 55 = .ok (.iaload, 1) := by decide +kernel
theorem d_B_byteAt_56 : decode b_B_byteAt 56 = .ok (.iload_n 1, 1) := by decide +kernel
theorem d_B_byteAt_57 : decode b_B_byteAt 57 = .ok (.aload_n 0, 1) := by decide +kernel
theorem d_B_byteAt_58 : decode b_B_byteAt 58 = .ok (.getfield 15, 3) := by decide +kernel
theorem d_B_byteAt_61 : decode b_B_byteAt 61 = .ok (.iload_n 3, 1) := by decide +kernel
theorem d_B_byteAt_62 : decode b_B_byteAt 62 = .ok (.iaload, 1) := by decide +kernel
theorem d_B_byteAt_63 : decode b_B_byteAt 63 = .ok (.isub, 1) := by decide +kernel
theorem d_B_byteAt_64 : decode b_B_byteAt 64 = .ok (.invokestatic 34, 3) := by decide +kernel
theorem d_B_byteAt_67 : decode b_B_byteAt 67 = .ok (.istore_n 2, 1) := by decide +kernel
theorem d_B_byteAt_68 : decode b_B_byteAt 68 = .ok (.iinc 3 1, 3) := by decide +kernel
theorem d_B_byteAt_71 : decode b_B_byteAt 71 = .ok (.goto (-67), 3) := by decide +kernel
theorem d_B_byteAt_74 : decode b_B_byteAt 74 = .ok (.iload_n 2, 1) := by decide +kernel
theorem d_B_byteAt_75 : decode b_B_byteAt 75 = .ok (.ireturn, 1) := by decide +kernel
theorem d_L_loaded_0 : decode b_L_loaded 0 = .ok (.aload_n 2, 1) := by decide +kernel
theorem d_L_loaded_1 : decode b_L_loaded 1 = .ok (.iconst 0, 1) := by decide +kernel
theorem d_L_loaded_2 : decode b_L_loaded 2 = .ok (.aload_n 0, 1) := by decide +kernel
theorem d_L_loaded_3 : decode b_L_loaded 3 = .ok (.iload_n 1, 1) := by decide +kernel
theorem d_L_loaded_4 : decode b_L_loaded 4 = .ok (.invokevirtual 30, 3) := by decide +kernel
theorem d_L_loaded_7 : decode b_L_loaded 7 = .ok (.i2l, 1) := by decide +kernel
theorem d_L_loaded_8 : decode b_L_loaded 8 = .ok (.lastore, 1) := by decide +kernel
theorem d_L_loaded_9 : decode b_L_loaded 9 = .ok (.goto 12, 3) := by decide +kernel
theorem d_L_loaded_12 : decode b_L_loaded 12 = .ok (.astore_n 3, 1) := by decide +kernel
theorem d_L_loaded_13 : decode b_L_loaded 13 = .ok (.iconst 1, 1) := by decide +kernel
theorem d_L_loaded_14 : decode b_L_loaded 14 = .ok (.ireturn, 1) := by decide +kernel
theorem d_L_loaded_15 : decode b_L_loaded 15 = .ok (.astore_n 3, 1) := by decide +kernel
theorem d_L_loaded_16 : decode b_L_loaded 16 = .ok (.iconst 2, 1) := by decide +kernel
theorem d_L_loaded_17 : decode b_L_loaded 17 = .ok (.ireturn, 1) := by decide +kernel
theorem d_L_loaded_18 : decode b_L_loaded 18 = .ok (.astore_n 3, 1) := by decide +kernel
theorem d_L_loaded_19 : decode b_L_loaded 19 = .ok (.iconst 3, 1) := by decide +kernel
theorem d_L_loaded_20 : decode b_L_loaded 20 = .ok (.ireturn, 1) := by decide +kernel
theorem d_L_loaded_21 : decode b_L_loaded 21 = .ok (.iconst 0, 1) := by decide +kernel
theorem d_L_loaded_22 : decode b_L_loaded 22 = .ok (.ireturn, 1) := by decide +kernel
theorem d_C_loaded_0 : decode b_C_loaded 0 = .ok (.aload_n 0, 1) := by decide +kernel
theorem d_C_loaded_1 : decode b_C_loaded 1 = .ok (.iload_n 1, 1) := by decide +kernel
theorem d_C_loaded_2 : decode b_C_loaded 2 = .ok (.invokevirtual 77, 3) := by decide +kernel
theorem d_C_loaded_5 : decode b_C_loaded 5 = .ok (.aload_n 0, 1) := by decide +kernel
theorem d_C_loaded_6 : decode b_C_loaded 6 = .ok (.getfield 30, 3) := by decide +kernel
theorem d_C_loaded_9 : decode b_C_loaded 9 = .ok (.iconst 1, 1) := by decide +kernel
theorem d_C_loaded_10 : decode b_C_loaded 10 = .ok (.isub, 1) := by decide +kernel
theorem d_C_loaded_11 : decode b_C_loaded 11 = .ok (.iload_n 1, 1) := by decide +kernel
theorem d_C_loaded_12 : decode b_C_loaded 12 = .ok (.isub, 1) := by decide +kernel
theorem d_C_loaded_13 : decode b_C_loaded 13 = .ok (.bipush 64, 2) := by decide +kernel
theorem d_C_loaded_15 : decode b_C_loaded 15 = .ok (.if_icmp .lt 13, 3) := by decide +kernel
theorem d_C_loaded_18 : decode b_C_loaded 18 = .ok (.new 149, 3) := by decide +kernel
theorem d_C_loaded_21 : decode b_C_loaded 21 = .ok (.dup, 1) := by decide +kernel
theorem d_C_loaded_22 : decode b_C_loaded 22 = .ok (.ldc 151, 2) := by decide +kernel
theorem d_C_loaded_24 : decode b_C_loaded 24 = .ok (.invokespecial 153, 3) := by decide +kernel
theorem d_C_loaded_27 : decode b_C_loaded 27 = .ok (.athrow, 1) := by decide +kernel
theorem d_C_loaded_28 : decode b_C_loaded 28 = .ok (.aload_n 0, 1) := by decide +kernel
theorem d_C_loaded_29 : decode b_C_loaded 29 = .ok (.iload_n 1, 1) := by decide +kernel
theorem d_C_loaded_30 : decode b_C_loaded 30 = .ok (.invokevirtual 154, 3) := by decide +kernel
theorem d_C_loaded_33 : decode b_C_loaded 33 = .ok (.ifCond .ne 13, 3) := by decide +kernel
theorem d_C_loaded_36 : decode b_C_loaded 36 = .ok (.new 57, 3) := by decide +kernel
theorem d_C_loaded_39 : decode b_C_loaded 39 = .ok (.dup, 1) := by decide +kernel
theorem d_C_loaded_40 : decode b_C_loaded 40 = .ok (.ldc 157, 2) := by decide +kernel
theorem d_C_loaded_42 : decode b_C_loaded 42 = .ok (.invokespecial 61, 3) := by decide +kernel
theorem d_C_loaded_45 : decode b_C_loaded 45 = .ok (.athrow, 1) := by decide +kernel
theorem d_C_loaded_46 : decode b_C_loaded 46 = .ok (.aload_n 0, 1) := by decide +kernel
theorem d_C_loaded_47 : decode b_C_loaded 47 = .ok (.getfield 10, 3) := by decide +kernel
theorem d_C_loaded_50 : decode b_C_loaded 50 = .ok (.iload_n 1, 1) := by decide +kernel
theorem d_C_loaded_51 : decode b_C_loaded 51 = .ok (.invokevirtual 159, 3) := by decide +kernel
theorem d_C_loaded_54 : decode b_C_loaded 54 = .ok (.ireturn, 1) := by decide +kernel
theorem d_C_hasLoaded_0 : decode b_C_hasLoaded 0 = .ok (.aload_n 0, 1) := by decide +kernel
theorem d_C_hasLoaded_1 : decode b_C_hasLoaded 1 = .ok (.getfield 10, 3) := by decide +kernel
theorem d_C_hasLoaded_4 : decode b_C_hasLoaded 4 = .ok (.iload_n 1, 1) := by decide +kernel
theorem d_C_hasLoaded_5 : decode b_C_hasLoaded 5 = .ok (.invokevirtual 85, 3) := by decide +kernel
theorem d_C_hasLoaded_8 : decode b_C_hasLoaded 8 = .ok (.iconst 3, 1) := by decide +kernel
theorem d_C_hasLoaded_9 : decode b_C_hasLoaded 9 = .ok (.if_icmp .ne 19, 3) := by decide +kernel
theorem d_C_hasLoaded_12 : decode b_C_hasLoaded 12 = .ok (.aload_n 0, 1) := by decide +kernel
theorem d_C_hasLoaded_13 : decode b_C_hasLoaded 13 = .ok (.iload_n 1, 1) := by decide +kernel
theorem d_C_hasLoaded_14 : decode b_C_hasLoaded 14 = .ok (.invokevirtual 81, 3) := by decide +kernel
theorem d_C_hasLoaded_17 : decode b_C_hasLoaded 17 = .ok (.ifCond .ne 7, 3) := by decide +kernel
theorem d_C_hasLoaded_20 : decode b_C_hasLoaded 20 = .ok (.iconst 1, 1) := by decide +kernel
theorem d_C_hasLoaded_21 : decode b_C_hasLoaded 21 = .ok (.goto 15, 3) := by decide +kernel
theorem d_C_hasLoaded_24 : decode b_C_hasLoaded 24 = .ok (.iconst 0, 1) := by decide +kernel
theorem d_C_hasLoaded_25 : decode b_C_hasLoaded 25 = .ok (.goto 11, 3) := by decide +kernel
theorem d_C_hasLoaded_28 : decode b_C_hasLoaded 28 = .ok (.aload_n 0, 1) := by decide +kernel
theorem d_C_hasLoaded_29 : decode b_C_hasLoaded 29 = .ok (.getfield 10, 3) := by decide +kernel
theorem d_C_hasLoaded_32 : decode b_C_hasLoaded 32 = .ok (.iload_n 1, 1) := by decide +kernel
theorem d_C_hasLoaded_33 : decode b_C_hasLoaded 33 = .ok (.invokevirtual 129, 3) := by decide +kernel
theorem d_C_hasLoaded_36 : decode b_C_hasLoaded 36 = .ok (.ireturn, 1) := by decide +kernel
theorem d_O_loadedBy_0 : decode b_O_loadedBy 0 = .ok (.aload_n 0, 1) := by decide +kernel
theorem d_O_loadedBy_1 : decode b_O_loadedBy 1 = .ok (.getfield 37, 3) := by decide +kernel
theorem d_O_loadedBy_4 : decode b_O_loadedBy 4 = .ok (.iload_n 1, 1) := by decide +kernel
theorem d_O_loadedBy_5 : decode b_O_loadedBy 5 = .ok (.bipush 127, 2) := by decide +kernel
