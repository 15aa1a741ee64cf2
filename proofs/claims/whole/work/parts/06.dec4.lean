theorem d_O_loadedBy_7 : decode b_O_loadedBy 7 = .ok (.iand, 1) := by decide +kernel
theorem d_O_loadedBy_8 : decode b_O_loadedBy 8 = .ok (.iaload, 1) := by decide +kernel
theorem d_O_loadedBy_9 : decode b_O_loadedBy 9 = .ok (.ireturn, 1) := by decide +kernel
theorem d_L_source_0 : decode b_L_source 0 = .ok (.aload_n 3, 1) := by decide +kernel
theorem d_L_source_1 : decode b_L_source 1 = .ok (.iconst 0, 1) := by decide +kernel
theorem d_L_source_2 : decode b_L_source 2 = .ok (.aload_n 0, 1) := by decide +kernel
theorem d_L_source_3 : decode b_L_source 3 = .ok (.iload_n 1, 1) := by decide +kernel
theorem d_L_source_4 : decode b_L_source 4 = .ok (.iload_n 2, 1) := by decide +kernel
theorem d_L_source_5 : decode b_L_source 5 = .ok (.invokevirtual 35, 3) := by decide +kernel
theorem d_L_source_8 : decode b_L_source 8 = .ok (.i2l, 1) := by decide +kernel
theorem d_L_source_9 : decode b_L_source 9 = .ok (.lastore, 1) := by decide +kernel
theorem d_L_source_10 : decode b_L_source 10 = .ok (.goto 15, 3) := by decide +kernel
theorem d_L_source_13 : decode b_L_source 13 = .ok (.astore 4, 2) := by decide +kernel
theorem d_L_source_15 : decode b_L_source 15 = .ok (.iconst 1, 1) := by decide +kernel
theorem d_L_source_16 : decode b_L_source 16 = .ok (.ireturn, 1) := by decide +kernel
theorem d_L_source_17 : decode b_L_source 17 = .ok (.astore 4, 2) := by decide +kernel
theorem d_L_source_19 : decode b_L_source 19 = .ok (.iconst 2, 1) := by decide +kernel
theorem d_L_source_20 : decode b_L_source 20 = .ok (.ireturn, 1) := by decide +kernel
theorem d_L_source_21 : decode b_L_source 21 = .ok (.astore 4, 2) := by decide +kernel
theorem d_L_source_23 : decode b_L_source 23 = .ok (.iconst 3, 1) := by decide +kernel
theorem d_L_source_24 : decode b_L_source 24 = .ok (.ireturn, 1) := by decide +kernel
theorem d_L_source_25 : decode b_L_source 25 = .ok (.iconst 0, 1) := by decide +kernel
theorem d_L_source_26 : decode b_L_source 26 = .ok (.ireturn, 1) := by decide +kernel
theorem d_C_source_0 : decode b_C_source 0 = .ok (.aload_n 0, 1) := by decide +kernel
theorem d_C_source_1 : decode b_C_source 1 = .ok (.iload_n 1, 1) := by decide +kernel
theorem d_C_source_2 : decode b_C_source 2 = .ok (.invokevirtual 77, 3) := by decide +kernel
theorem d_C_source_5 : decode b_C_source 5 = .ok (.aload_n 0, 1) := by decide +kernel
theorem d_C_source_6 : decode b_C_source 6 = .ok (.iload_n 1, 1) := by decide +kernel
theorem d_C_source_7 : decode b_C_source 7 = .ok (.invokevirtual 81, 3) := by decide +kernel
theorem d_C_source_10 : decode b_C_source 10 = .ok (.ifCond .eq 14, 3) := by decide +kernel
theorem d_C_source_13 : decode b_C_source 13 = .ok (.aload_n 0, 1) := by decide +kernel
theorem d_C_source_14 : decode b_C_source 14 = .ok (.getfield 10, 3) := by decide +kernel
theorem d_C_source_17 : decode b_C_source 17 = .ok (.iload_n 1, 1) := by decide +kernel
theorem d_C_source_18 : decode b_C_source 18 = .ok (.invokevirtual 129, 3) := by decide +kernel
theorem d_C_source_21 : decode b_C_source 21 = .ok (.ifCond .ne 13, 3) := by decide +kernel
theorem d_C_source_24 : decode b_C_source 24 = .ok (.new 57, 3) := by decide +kernel
theorem d_C_source_27 : decode b_C_source 27 = .ok (.dup, 1) := by decide +kernel
theorem d_C_source_28 : decode b_C_source 28 = .ok (.ldc 162, 2) := by decide +kernel
theorem d_C_source_30 : decode b_C_source 30 = .ok (.invokespecial 61, 3) := by decide +kernel
theorem d_C_source_33 : decode b_C_source 33 = .ok (.athrow, 1) := by decide +kernel
theorem d_C_source_34 : decode b_C_source 34 = .ok (.iload_n 2, 1) := by decide +kernel
theorem d_C_source_35 : decode b_C_source 35 = .ok (.ifCond .lt 15, 3) := by decide +kernel
theorem d_C_source_38 : decode b_C_source 38 = .ok (.iload_n 2, 1) := by decide +kernel
theorem d_C_source_39 : decode b_C_source 39 = .ok (.aload_n 0, 1) := by decide +kernel
theorem d_C_source_40 : decode b_C_source 40 = .ok (.getfield 10, 3) := by decide +kernel
theorem d_C_source_43 : decode b_C_source 43 = .ok (.iload_n 1, 1) := by decide +kernel
theorem d_C_source_44 : decode b_C_source 44 = .ok (.invokevirtual 94, 3) := by decide +kernel
theorem d_C_source_47 : decode b_C_source 47 = .ok (.if_icmp .lt 13, 3) := by decide +kernel
theorem d_C_source_50 : decode b_C_source 50 = .ok (.new 149, 3) := by decide +kernel
theorem d_C_source_53 : decode b_C_source 53 = .ok (.dup, 1) := by decide +kernel
theorem d_C_source_54 : decode b_C_source 54 = .ok (.ldc 164, 2) := by decide +kernel
theorem d_C_source_56 : decode b_C_source 56 = .ok (.invokespecial 153, 3) := by decide +kernel
theorem d_C_source_59 : decode b_C_source 59 = .ok (.athrow, 1) := by decide +kernel
theorem d_C_source_60 : decode b_C_source 60 = .ok (.aload_n 0, 1) := by decide +kernel
theorem d_C_source_61 : decode b_C_source 61 = .ok (.getfield 10, 3) := by decide +kernel
theorem d_C_source_64 : decode b_C_source 64 = .ok (.iload_n 1, 1) := by decide +kernel
theorem d_C_source_65 : decode b_C_source 65 = .ok (.iload_n 2, 1) := by decide +kernel
theorem d_C_source_66 : decode b_C_source 66 = .ok (.invokevirtual 166, 3) := by decide +kernel
theorem d_C_source_69 : decode b_C_source 69 = .ok (.istore_n 3, 1) := by decide +kernel
theorem d_C_source_70 : decode b_C_source 70 = .ok (.iload_n 3, 1) := by decide +kernel
theorem d_C_source_71 : decode b_C_source 71 = .ok (.ifCond .lt 7, 3) := by decide +kernel
theorem d_C_source_74 : decode b_C_source 74 = .ok (.iload_n 3, 1) := by decide +kernel
theorem d_C_source_75 : decode b_C_source 75 = .ok (.goto 4, 3) := by decide +kernel
theorem d_C_source_78 : decode b_C_source 78 = .ok (.iconst (-1), 1) := by decide +kernel
theorem d_C_source_79 : decode b_C_source 79 = .ok (.ireturn, 1) := by decide +kernel
theorem d_L_other_0 : decode b_L_other 0 = .ok (.aload_n 3, 1) := by decide +kernel
theorem d_L_other_1 : decode b_L_other 1 = .ok (.iconst 0, 1) := by decide +kernel
theorem d_L_other_2 : decode b_L_other 2 = .ok (.aload_n 0, 1) := by decide +kernel
theorem d_L_other_3 : decode b_L_other 3 = .ok (.iload_n 1, 1) := by decide +kernel
theorem d_L_other_4 : decode b_L_other 4 = .ok (.iload_n 2, 1) := by decide +kernel
theorem d_L_other_5 : decode b_L_other 5 = .ok (.invokevirtual 38, 3) := by decide +kernel
theorem d_L_other_8 : decode b_L_other 8 = .ok (.i2l, 1) := by decide +kernel
theorem d_L_other_9 : decode b_L_other 9 = .ok (.lastore, 1) := by decide +kernel
theorem d_L_other_10 : decode b_L_other 10 = .ok (.goto 7, 3) := by decide +kernel
theorem d_L_other_13 : decode b_L_other 13 = .ok (.astore 4, 2) := by decide +kernel
theorem d_L_other_15 : decode b_L_other 15 = .ok (.iconst 1, 1) := by decide +kernel
theorem d_L_other_16 : decode b_L_other 16 = .ok (.ireturn, 1) := by decide +kernel
theorem d_L_other_17 : decode b_L_other 17 = .ok (.iconst 0, 1) := by decide +kernel
theorem d_L_other_18 : decode b_L_other 18 = .ok (.ireturn, 1) := by decide +kernel
theorem d_C_other_0 : decode b_C_other 0 = .ok (.iload_n 1, 1) := by decide +kernel
theorem d_C_other_1 : decode b_C_other 1 = .ok (.invokestatic 187, 3) := by decide +kernel
theorem d_C_other_4 : decode b_C_other 4 = .ok (.ifCond .eq 14, 3) := by decide +kernel
theorem d_C_other_7 : decode b_C_other 7 = .ok (.iload_n 2, 1) := by decide +kernel
theorem d_C_other_8 : decode b_C_other 8 = .ok (.ifCond .lt 10, 3) := by decide +kernel
theorem d_C_other_11 : decode b_C_other 11 = .ok (.iload_n 2, 1) := by decide +kernel
theorem d_C_other_12 : decode b_C_other 12 = .ok (.sipush 255, 3) := by decide +kernel
theorem d_C_other_15 : decode b_C_other 15 = .ok (.if_icmp .le 13, 3) := by decide +kernel
theorem d_C_other_18 : decode b_C_other 18 = .ok (.new 57, 3) := by decide +kernel
theorem d_C_other_21 : decode b_C_other 21 = .ok (.dup, 1) := by decide +kernel
theorem d_C_other_22 : decode b_C_other 22 = .ok (.ldc 190, 2) := by decide +kernel
theorem d_C_other_24 : decode b_C_other 24 = .ok (.invokespecial 61, 3) := by decide +kernel
theorem d_C_other_27 : decode b_C_other 27 = .ok (.athrow, 1) := by decide +kernel
theorem d_C_other_28 : decode b_C_other 28 = .ok (.aload_n 0, 1) := by decide +kernel
theorem d_C_other_29 : decode b_C_other 29 = .ok (.getfield 26, 3) := by decide +kernel
theorem d_C_other_32 : decode b_C_other 32 = .ok (.iload_n 1, 1) := by decide +kernel
theorem d_C_other_33 : decode b_C_other 33 = .ok (.iload_n 2, 1) := by decide +kernel
theorem d_C_other_34 : decode b_C_other 34 = .ok (.invokevirtual 192, 3) := by decide +kernel
theorem d_C_other_37 : decode b_C_other 37 = .ok (.aload_n 0, 1) := by decide +kernel
theorem d_C_other_38 : decode b_C_other 38 = .ok (.iload_n 1, 1) := by decide +kernel
theorem d_C_other_39 : decode b_C_other 39 = .ok (.invokevirtual 195, 3) := by decide +kernel
theorem d_C_other_42 : decode b_C_other 42 = .ok (.istore_n 3, 1) := by decide +kernel
theorem d_C_other_43 : decode b_C_other 43 = .ok (.iload_n 3, 1) := by decide +kernel
theorem d_C_other_44 : decode b_C_other 44 = .ok (.iconst (-1), 1) := by decide +kernel
theorem d_C_other_45 : decode b_C_other 45 = .ok (.if_icmp .ne 7, 3) := by decide +kernel
theorem d_C_other_48 : decode b_C_other 48 = .ok (.iconst 0, 1) := by decide +kernel
theorem d_C_other_49 : decode b_C_other 49 = .ok (.goto 8, 3) := by decide +kernel
theorem d_C_other_52 : decode b_C_other 52 = .ok (.aload_n 0, 1) := by decide +kernel
theorem d_C_other_53 : decode b_C_other 53 = .ok (.iload_n 3, 1) := by decide +kernel
theorem d_C_other_54 : decode b_C_other 54 = .ok (.invokevirtual 115, 3) := by decide +kernel
theorem d_C_other_57 : decode b_C_other 57 = .ok (.ireturn, 1) := by decide +kernel
theorem d_C_isMemoryByte_0 : decode b_C_isMemoryByte 0 = .ok (.iload_n 0, 1) := by decide +kernel
theorem d_C_isMemoryByte_1 : decode b_C_isMemoryByte 1 = .ok (.ifCond .lt 14, 3) := by decide +kernel
theorem d_C_isMemoryByte_4 : decode b_C_isMemoryByte 4 = .ok (.iload_n 0, 1) := by decide +kernel
theorem d_C_isMemoryByte_5 : decode b_C_isMemoryByte 5 = .ok (.sipush 4096, 3) := by decide +kernel
theorem d_C_isMemoryByte_8 : decode b_C_isMemoryByte 8 = .ok (.if_icmp .ge 7, 3) := by decide +kernel
theorem d_C_isMemoryByte_11 : decode b_C_isMemoryByte 11 = .ok (.iconst 1, 1) := by decide +kernel
theorem d_C_isMemoryByte_12 : decode b_C_isMemoryByte 12 = .ok (.goto 4, 3) := by decide +kernel
theorem d_C_isMemoryByte_15 : decode b_C_isMemoryByte 15 = .ok (.iconst 0, 1) := by decide +kernel
theorem d_C_isMemoryByte_16 : decode b_C_isMemoryByte 16 = .ok (.ireturn, 1) := by decide +kernel
theorem d_C_oldestLoadFromMemory_0 : decode b_C_oldestLoadFromMemory 0 = .ok (.aload_n 0, 1) := by decide +kernel
theorem d_C_oldestLoadFromMemory_1 : decode b_C_oldestLoadFromMemory 1 = .ok (.getfield 34, 3) := by decide +kernel
theorem d_C_oldestLoadFromMemory_4 : decode b_C_oldestLoadFromMemory 4 = .ok (.istore_n 2, 1) := by decide +kernel
theorem d_C_oldestLoadFromMemory_5 : decode b_C_oldestLoadFromMemory 5 = .ok (.iload_n 2, 1) := by decide +kernel
theorem d_C_oldestLoadFromMemory_6 : decode b_C_oldestLoadFromMemory 6 = .ok (.aload_n 0, 1) := by decide +kernel
theorem d_C_oldestLoadFromMemory_7 : decode b_C_oldestLoadFromMemory 7 = .ok (.getfield 30, 3) := by decide +kernel
theorem d_C_oldestLoadFromMemory_10 : decode b_C_oldestLoadFromMemory 10 = .ok (.if_icmp .ge 56, 3) := by decide +kernel
theorem d_C_oldestLoadFromMemory_13 : decode b_C_oldestLoadFromMemory 13 = .ok (.aload_n 0, 1) := by decide +kernel
theorem d_C_oldestLoadFromMemory_14 : decode b_C_oldestLoadFromMemory 14 = .ok (.getfield 10, 3) := by decide +kernel
theorem d_C_oldestLoadFromMemory_17 : decode b_C_oldestLoadFromMemory 17 = .ok (.iload_n 2, 1) := by decide +kernel
theorem d_C_oldestLoadFromMemory_18 : decode b_C_oldestLoadFromMemory 18 = .ok (.invokevirtual 129, 3) := by decide +kernel
theorem d_C_oldestLoadFromMemory_21 : decode b_C_oldestLoadFromMemory 21 = .ok (.ifCond .eq 39, 3) := by decide +kernel
theorem d_C_oldestLoadFromMemory_24 : decode b_C_oldestLoadFromMemory 24 = .ok (.aload_n 0, 1) := by decide +kernel
theorem d_C_oldestLoadFromMemory_25 : decode b_C_oldestLoadFromMemory 25 = .ok (.getfield 10, 3) := by decide +kernel
theorem d_C_oldestLoadFromMemory_28 : decode b_C_oldestLoadFromMemory 28 = .ok (.iload_n 2, 1) := by decide +kernel
theorem d_C_oldestLoadFromMemory_29 : decode b_C_oldestLoadFromMemory 29 = .ok (.iload_n 1, 1) := by decide +kernel
theorem d_C_oldestLoadFromMemory_30 : decode b_C_oldestLoadFromMemory 30 = .ok (.invokevirtual 231, 3) := by decide +kernel
theorem d_C_oldestLoadFromMemory_33 : decode b_C_oldestLoadFromMemory 33 = .ok (.ifCond .eq 27, 3) := by decide +kernel
theorem d_C_oldestLoadFromMemory_36 : decode b_C_oldestLoadFromMemory 36 = .ok (.aload_n 0, 1) := by decide +kernel
theorem d_C_oldestLoadFromMemory_37 : decode b_C_oldestLoadFromMemory 37 = .ok (.getfield 10, 3) := by decide +kernel
theorem d_C_oldestLoadFromMemory_40 : decode b_C_oldestLoadFromMemory 40 = .ok (.iload_n 2, 1) := by decide +kernel
theorem d_C_oldestLoadFromMemory_41 : decode b_C_oldestLoadFromMemory 41 = .ok (.iload_n 1, 1) := by decide +kernel
theorem d_C_oldestLoadFromMemory_42 : decode b_C_oldestLoadFromMemory 42 = .ok (.aload_n 0, 1) := by decide +kernel
theorem d_C_oldestLoadFromMemory_43 : decode b_C_oldestLoadFromMemory 43 = .ok (.getfield 10, 3) := by decide +kernel
theorem d_C_oldestLoadFromMemory_46 : decode b_C_oldestLoadFromMemory 46 = .ok (.iload_n 2, 1) := by decide +kernel
theorem d_C_oldestLoadFromMemory_47 : decode b_C_oldestLoadFromMemory 47 = .ok (.invokevirtual 225, 3) := by decide +kernel
theorem d_C_oldestLoadFromMemory_50 : decode b_C_oldestLoadFromMemory 50 = .ok (.isub, 1) := by decide +kernel
theorem d_C_oldestLoadFromMemory_51 : decode b_C_oldestLoadFromMemory 51 = .ok (.invokevirtual 166, 3) := by decide +kernel
theorem d_C_oldestLoadFromMemory_54 : decode b_C_oldestLoadFromMemory 54 = .ok (.iconst (-1), 1) := by decide +kernel
theorem d_C_oldestLoadFromMemory_55 : decode b_C_oldestLoadFromMemory 55 = .ok (.if_icmp .ne 5, 3) := by decide +kernel
theorem d_C_oldestLoadFromMemory_58 : decode b_C_oldestLoadFromMemory 58 = .ok (.iload_n 2, 1) := by decide +kernel
theorem d_C_oldestLoadFromMemory_59 : decode b_C_oldestLoadFromMemory 59 = .ok (.ireturn, 1) := by decide +kernel
theorem d_C_oldestLoadFromMemory_60 : decode b_C_oldestLoadFromMemory 60 = .ok (.iinc 2 1, 3) := by decide +kernel
theorem d_C_oldestLoadFromMemory_63 : decode b_C_oldestLoadFromMemory 63 = .ok (.goto (-58), 3) := by decide +kernel
theorem d_C_oldestLoadFromMemory_66 : decode b_C_oldestLoadFromMemory 66 = .ok (.iconst (-1), 1) := by decide +kernel
theorem d_C_oldestLoadFromMemory_67 : decode b_C_oldestLoadFromMemory 67 = .ok (.ireturn, 1) := by decide +kernel
theorem d_L_memory_0 : decode b_L_memory 0 = .ok (.aload_n 2, 1) := by decide +kernel
theorem d_L_memory_1 : decode b_L_memory 1 = .ok (.iconst 0, 1) := by decide +kernel
theorem d_L_memory_2 : decode b_L_memory 2 = .ok (.aload_n 0, 1) := by decide +kernel
theorem d_L_memory_3 : decode b_L_memory 3 = .ok (.iload_n 1, 1) := by decide +kernel
theorem d_L_memory_4 : decode b_L_memory 4 = .ok (.invokevirtual 41, 3) := by decide +kernel
theorem d_L_memory_7 : decode b_L_memory 7 = .ok (.i2l, 1) := by decide +kernel
theorem d_L_memory_8 : decode b_L_memory 8 = .ok (.lastore, 1) := by decide +kernel
theorem d_L_memory_9 : decode b_L_memory 9 = .ok (.goto 6, 3) := by decide +kernel
theorem d_L_memory_12 : decode b_L_memory 12 = .ok (.astore_n 3, 1) := by decide +kernel
theorem d_L_memory_13 : decode b_L_memory 13 = .ok (.iconst 1, 1) := by decide +kernel
theorem d_L_memory_14 : decode b_L_memory 14 = .ok (.ireturn, 1) := by decide +kernel
theorem d_L_memory_15 : decode b_L_memory 15 = .ok (.iconst 0, 1) := by decide +kernel
theorem d_L_memory_16 : decode b_L_memory 16 = .ok (.ireturn, 1) := by decide +kernel
theorem d_C_memory_0 : decode b_C_memory 0 = .ok (.iload_n 1, 1) := by decide +kernel
theorem d_C_memory_1 : decode b_C_memory 1 = .ok (.invokestatic 187, 3) := by decide +kernel
theorem d_C_memory_4 : decode b_C_memory 4 = .ok (.ifCond .ne 13, 3) := by decide +kernel
theorem d_C_memory_7 : decode b_C_memory 7 = .ok (.new 57, 3) := by decide +kernel
theorem d_C_memory_10 : decode b_C_memory 10 = .ok (.dup, 1) := by decide +kernel
theorem d_C_memory_11 : decode b_C_memory 11 = .ok (.ldc 198, 2) := by decide +kernel
theorem d_C_memory_13 : decode b_C_memory 13 = .ok (.invokespecial 61, 3) := by decide +kernel
theorem d_C_memory_16 : decode b_C_memory 16 = .ok (.athrow, 1) := by decide +kernel
theorem d_C_memory_17 : decode b_C_memory 17 = .ok (.aload_n 0, 1) := by decide +kernel
theorem d_C_memory_18 : decode b_C_memory 18 = .ok (.getfield 26, 3) := by decide +kernel
theorem d_C_memory_21 : decode b_C_memory 21 = .ok (.iload_n 1, 1) := by decide +kernel
theorem d_C_memory_22 : decode b_C_memory 22 = .ok (.invokevirtual 200, 3) := by decide +kernel
theorem d_C_memory_25 : decode b_C_memory 25 = .ok (.ireturn, 1) := by decide +kernel
theorem d_L_forget_0 : decode b_L_forget 0 = .ok (.aload_n 2, 1) := by decide +kernel
theorem d_L_forget_1 : decode b_L_forget 1 = .ok (.iconst 0, 1) := by decide +kernel
theorem d_L_forget_2 : decode b_L_forget 2 = .ok (.aload_n 0, 1) := by decide +kernel
theorem d_L_forget_3 : decode b_L_forget 3 = .ok (.iload_n 1, 1) := by decide +kernel
theorem d_L_forget_4 : decode b_L_forget 4 = .ok (.invokevirtual 44, 3) := by decide +kernel
theorem d_L_forget_7 : decode b_L_forget 7 = .ok (.i2l, 1) := by decide +kernel
theorem d_L_forget_8 : decode b_L_forget 8 = .ok (.lastore, 1) := by decide +kernel
theorem d_L_forget_9 : decode b_L_forget 9 = .ok (.goto 9, 3) := by decide +kernel
theorem d_L_forget_12 : decode b_L_forget 12 = .ok (.astore_n 3, 1) := by decide +kernel
theorem d_L_forget_13 : decode b_L_forget 13 = .ok (.iconst 1, 1) := by decide +kernel
theorem d_L_forget_14 : decode b_L_forget 14 = .ok (.ireturn, 1) := by decide +kernel
theorem d_L_forget_15 : decode b_L_forget 15 = .ok (.astore_n 3, 1) := by decide +kernel
theorem d_L_forget_16 : decode b_L_forget 16 = .ok (.iconst 2, 1) := by decide +kernel
theorem d_L_forget_17 : decode b_L_forget 17 = .ok (.ireturn, 1) := by decide +kernel
theorem d_L_forget_18 : decode b_L_forget 18 = .ok (.iconst 0, 1) := by decide +kernel
theorem d_L_forget_19 : decode b_L_forget 19 = .ok (.ireturn, 1) := by decide +kernel
theorem d_C_forget_0 : decode b_C_forget 0 = .ok (.aload_n 0, 1) := by decide +kernel
theorem d_C_forget_1 : decode b_C_forget 1 = .ok (.iload_n 1, 1) := by decide +kernel
theorem d_C_forget_2 : decode b_C_forget 2 = .ok (.invokevirtual 77, 3) := by decide +kernel
theorem d_C_forget_5 : decode b_C_forget 5 = .ok (.aload_n 0, 1) := by decide +kernel
theorem d_C_forget_6 : decode b_C_forget 6 = .ok (.iload_n 1, 1) := by decide +kernel
theorem d_C_forget_7 : decode b_C_forget 7 = .ok (.invokevirtual 81, 3) := by decide +kernel
theorem d_C_forget_10 : decode b_C_forget 10 = .ok (.ifCond .ne 13, 3) := by decide +kernel
theorem d_C_forget_13 : decode b_C_forget 13 = .ok (.new 57, 3) := by decide +kernel
theorem d_C_forget_16 : decode b_C_forget 16 = .ok (.dup, 1) := by decide +kernel
theorem d_C_forget_17 : decode b_C_forget 17 = .ok (.ldc 203, 2) := by decide +kernel
theorem d_C_forget_19 : decode b_C_forget 19 = .ok (.invokespecial 61, 3) := by decide +kernel
theorem d_C_forget_22 : decode b_C_forget 22 = .ok (.athrow, 1) := by decide +kernel
theorem d_C_forget_23 : decode b_C_forget 23 = .ok (.aload_n 0, 1) := by decide +kernel
theorem d_C_forget_24 : decode b_C_forget 24 = .ok (.getfield 30, 3) := by decide +kernel
theorem d_C_forget_27 : decode b_C_forget 27 = .ok (.iload_n 1, 1) := by decide +kernel
theorem d_C_forget_28 : decode b_C_forget 28 = .ok (.isub, 1) := by decide +kernel
theorem d_C_forget_29 : decode b_C_forget 29 = .ok (.istore_n 2, 1) := by decide +kernel
theorem d_C_forget_30 : decode b_C_forget 30 = .ok (.aload_n 0, 1) := by decide +kernel
theorem d_C_forget_31 : decode b_C_forget 31 = .ok (.iload_n 1, 1) := by decide +kernel
theorem d_C_forget_32 : decode b_C_forget 32 = .ok (.putfield 30, 3) := by decide +kernel
theorem d_C_forget_35 : decode b_C_forget 35 = .ok (.iload_n 2, 1) := by decide +kernel
theorem d_C_forget_36 : decode b_C_forget 36 = .ok (.ireturn, 1) := by decide +kernel
theorem d_M_init_0 : decode b_M_init 0 = .ok (.aload_n 0, 1) := by decide +kernel
theorem d_M_init_1 : decode b_M_init 1 = .ok (.invokespecial 1, 3) := by decide +kernel
theorem d_M_init_4 : decode b_M_init 4 = .ok (.aload_n 0, 1) := by decide +kernel
theorem d_M_init_5 : decode b_M_init 5 = .ok (.sipush 4096, 3) := by decide +kernel
theorem d_M_init_8 : decode b_M_init 8 = .ok (.newarray .int, 2) := by decide +kernel
theorem d_M_init_10 : decode b_M_init 10 = .ok (.putfield 7, 3) := by decide +kernel
theorem d_M_init_13 : decode b_M_init 13 = .ok (.aload_n 0, 1) := by decide +kernel
theorem d_M_init_14 : decode b_M_init 14 = .ok (.bipush 64, 2) := by decide +kernel
theorem d_M_init_16 : decode b_M_init 16 = .ok (.newarray .boolean, 2) := by decide +kernel
theorem d_M_init_18 : decode b_M_init 18 = .ok (.putfield 13, 3) := by decide +kernel
theorem d_M_init_21 : decode b_M_init 21 = .ok (.aload_n 0, 1) := by decide +kernel
theorem d_M_init_22 : decode b_M_init 22 = .ok (.sipush 128, 3) := by decide +kernel
theorem d_M_init_25 : decode b_M_init 25 = .ok (.newarray .int, 2) := by decide +kernel
theorem d_M_init_27 : decode b_M_init 27 = .ok (.putfield 17, 3) := by decide +kernel
theorem d_M_init_30 : decode b_M_init 30 = .ok (.aload_n 0, 1) := by decide +kernel
theorem d_M_init_31 : decode b_M_init 31 = .ok (.sipush 128, 3) := by decide +kernel
theorem d_M_init_34 : decode b_M_init 34 = .ok (.newarray .int, 2) := by decide +kernel
theorem d_M_init_36 : decode b_M_init 36 = .ok (.putfield 20, 3) := by decide +kernel
theorem d_M_init_39 : decode b_M_init 39 = .ok (.aload_n 0, 1) := by decide +kernel
theorem d_M_init_40 : decode b_M_init 40 = .ok (.sipush 128, 3) := by decide +kernel
theorem d_M_init_43 : decode b_M_init 43 = .ok (.newarray .int, 2) := by decide +kernel
theorem d_M_init_45 : decode b_M_init 45 = .ok (.putfield 23, 3) := by decide +kernel
theorem d_M_init_48 : decode b_M_init 48 = .ok (.aload_n 0, 1) := by decide +kernel
theorem d_M_init_49 : decode b_M_init 49 = .ok (.sipush 128, 3) := by decide +kernel
theorem d_M_init_52 : decode b_M_init 52 = .ok (.newarray .int, 2) := by decide +kernel
theorem d_M_init_54 : decode b_M_init 54 = .ok (.putfield 26, 3) := by decide +kernel
theorem d_M_init_57 : decode b_M_init 57 = .ok (.aload_n 0, 1) := by decide +kernel
theorem d_M_init_58 : decode b_M_init 58 = .ok (.sipush 128, 3) := by decide +kernel
theorem d_M_init_61 : decode b_M_init 61 = .ok (.newarray .int, 2) := by decide +kernel
theorem d_M_init_63 : decode b_M_init 63 = .ok (.putfield 29, 3) := by decide +kernel
theorem d_M_init_66 : decode b_M_init 66 = .ok (.aload_n 0, 1) := by decide +kernel
theorem d_M_init_67 : decode b_M_init 67 = .ok (.sipush 128, 3) := by decide +kernel
theorem d_M_init_70 : decode b_M_init 70 = .ok (.newarray .int, 2) := by decide +kernel
theorem d_M_init_72 : decode b_M_init 72 = .ok (.putfield 32, 3) := by decide +kernel
theorem d_M_init_75 : decode b_M_init 75 = .ok (.aload_n 0, 1) := by decide +kernel
theorem d_M_init_76 : decode b_M_init 76 = .ok (.sipush 128, 3) := by decide +kernel
theorem d_M_init_79 : decode b_M_init 79 = .ok (.newarray .boolean, 2) := by decide +kernel
theorem d_M_init_81 : decode b_M_init 81 = .ok (.putfield 35, 3) := by decide +kernel
theorem d_M_init_84 : decode b_M_init 84 = .ok (.aload_n 0, 1) := by decide +kernel
theorem d_M_init_85 : decode b_M_init 85 = .ok (.sipush 128, 3) := by decide +kernel
theorem d_M_init_88 : decode b_M_init 88 = .ok (.newarray .boolean, 2) := by decide +kernel
theorem d_M_init_90 : decode b_M_init 90 = .ok (.putfield 38, 3) := by decide +kernel
theorem d_M_init_93 : decode b_M_init 93 = .ok (.aload_n 0, 1) := by decide +kernel
theorem d_M_init_94 : decode b_M_init 94 = .ok (.sipush 512, 3) := by decide +kernel
theorem d_M_init_97 : decode b_M_init 97 = .ok (.newarray .int, 2) := by decide +kernel
theorem d_M_init_99 : decode b_M_init 99 = .ok (.putfield 41, 3) := by decide +kernel
theorem d_M_init_102 : decode b_M_init 102 = .ok (.aload_n 0, 1) := by decide +kernel
theorem d_M_init_103 : decode b_M_init 103 = .ok (.iconst 4, 1) := by decide +kernel
theorem d_M_init_104 : decode b_M_init 104 = .ok (.newarray .int, 2) := by decide +kernel
theorem d_M_init_106 : decode b_M_init 106 = .ok (.putfield 44, 3) := by decide +kernel
theorem d_M_init_109 : decode b_M_init 109 = .ok (.aload_n 0, 1) := by decide +kernel
theorem d_M_init_110 : decode b_M_init 110 = .ok (.iconst 4, 1) := by decide +kernel
theorem d_M_init_111 : decode b_M_init 111 = .ok (.newarray .int, 2) := by decide +kernel
theorem d_M_init_113 : decode b_M_init 113 = .ok (.putfield 47, 3) := by decide +kernel
theorem d_M_init_116 : decode b_M_init 116 = .ok (.aload_n 0, 1) := by decide +kernel
theorem d_M_init_117 : decode b_M_init 117 = .ok (.iconst 4, 1) := by decide +kernel
theorem d_M_init_118 : decode b_M_init 118 = .ok (.newarray .int, 2) := by decide +kernel
theorem d_M_init_120 : decode b_M_init 120 = .ok (.putfield 50, 3) := by decide +kernel
theorem d_M_init_123 : decode b_M_init 123 = .ok (.aload_n 0, 1) := by decide +kernel
theorem d_M_init_124 : decode b_M_init 124 = .ok (.iconst 4, 1) := by decide +kernel
theorem d_M_init_125 : decode b_M_init 125 = .ok (.newarray .int, 2) := by decide +kernel
theorem d_M_init_127 : decode b_M_init 127 = .ok (.putfield 53, 3) := by decide +kernel
theorem d_M_init_130 : decode b_M_init 130 = .ok (.return_, 1) := by decide +kernel
theorem d_M_thrown_0 : decode b_M_thrown 0 = .ok (.aload_n 0, 1) := by decide +kernel
theorem d_M_thrown_1 : decode b_M_thrown 1 = .ok (.getfield 56, 3) := by decide +kernel
theorem d_M_thrown_4 : decode b_M_thrown 4 = .ok (.ireturn, 1) := by decide +kernel
theorem d_M_op_0 : decode b_M_op 0 = .ok (.aload_n 0, 1) := by decide +kernel
theorem d_M_op_1 : decode b_M_op 1 = .ok (.iload_n 1, 1) := by decide +kernel
theorem d_M_op_2 : decode b_M_op 2 = .ok (.ifCond .lt 16, 3) := by decide +kernel
theorem d_M_op_5 : decode b_M_op 5 = .ok (.iload_n 1, 1) := by decide +kernel
theorem d_M_op_6 : decode b_M_op 6 = .ok (.iconst 3, 1) := by decide +kernel
theorem d_M_op_7 : decode b_M_op 7 = .ok (.if_icmp .gt 11, 3) := by decide +kernel
theorem d_M_op_10 : decode b_M_op 10 = .ok (.iload_n 1, 1) := by decide +kernel
theorem d_M_op_11 : decode b_M_op 11 = .ok (.iload_n 2, 1) := by decide +kernel
theorem d_M_op_12 : decode b_M_op 12 = .ok (.invokestatic 66, 3) := by decide +kernel
theorem d_M_op_15 : decode b_M_op 15 = .ok (.ifCond .ne 7, 3) := by decide +kernel
theorem d_M_op_18 : decode b_M_op 18 = .ok (.iconst 1, 1) := by decide +kernel
theorem d_M_op_19 : decode b_M_op 19 = .ok (.goto 22, 3) := by decide +kernel
theorem d_M_op_22 : decode b_M_op 22 = .ok (.aload_n 0, 1) := by decide +kernel
theorem d_M_op_23 : decode b_M_op 23 = .ok (.getfield 60, 3) := by decide +kernel
theorem d_M_op_26 : decode b_M_op 26 = .ok (.aload_n 0, 1) := by decide +kernel
theorem d_M_op_27 : decode b_M_op 27 = .ok (.getfield 63, 3) := by decide +kernel
theorem d_M_op_30 : decode b_M_op 30 = .ok (.isub, 1) := by decide +kernel
theorem d_M_op_31 : decode b_M_op 31 = .ok (.bipush 32, 2) := by decide +kernel
theorem d_M_op_33 : decode b_M_op 33 = .ok (.if_icmp .ne 7, 3) := by decide +kernel
theorem d_M_op_36 : decode b_M_op 36 = .ok (.iconst 2, 1) := by decide +kernel
theorem d_M_op_37 : decode b_M_op 37 = .ok (.goto 4, 3) := by decide +kernel
theorem d_M_op_40 : decode b_M_op 40 = .ok (.iconst 0, 1) := by decide +kernel
theorem d_M_op_41 : decode b_M_op 41 = .ok (.putfield 56, 3) := by decide +kernel
theorem d_M_op_44 : decode b_M_op 44 = .ok (.aload_n 0, 1) := by decide +kernel
theorem d_M_op_45 : decode b_M_op 45 = .ok (.getfield 56, 3) := by decide +kernel
theorem d_M_op_48 : decode b_M_op 48 = .ok (.ifCond .le 5, 3) := by decide +kernel
theorem d_M_op_51 : decode b_M_op 51 = .ok (.iconst 0, 1) := by decide +kernel
theorem d_M_op_52 : decode b_M_op 52 = .ok (.ireturn, 1) := by decide +kernel
theorem d_M_op_53 : decode b_M_op 53 = .ok (.aload_n 0, 1) := by decide +kernel
theorem d_M_op_54 : decode b_M_op 54 = .ok (.getfield 60, 3) := by decide +kernel
theorem d_M_op_57 : decode b_M_op 57 = .ok (.bipush 127, 2) := by decide +kernel
theorem d_M_op_59 : decode b_M_op 59 = .ok (.iand, 1) := by decide +kernel
theorem d_M_op_60 : decode b_M_op 60 = .ok (.istore 4, 2) := by decide +kernel
theorem d_M_op_62 : decode b_M_op 62 = .ok (.aload_n 0, 1) := by decide +kernel
theorem d_M_op_63 : decode b_M_op 63 = .ok (.getfield 17, 3) := by decide +kernel
theorem d_M_op_66 : decode b_M_op 66 = .ok (.iload 4, 2) := by decide +kernel
theorem d_M_op_68 : decode b_M_op 68 = .ok (.iload_n 1, 1) := by decide +kernel
theorem d_M_op_69 : decode b_M_op 69 = .ok (.iastore, 1) := by decide +kernel
theorem d_M_op_70 : decode b_M_op 70 = .ok (.aload_n 0, 1) := by decide +kernel
theorem d_M_op_71 : decode b_M_op 71 = .ok (.getfield 20, 3) := by decide +kernel
theorem d_M_op_74 : decode b_M_op 74 = .ok (.iload 4, 2) := by decide +kernel
theorem d_M_op_76 : decode b_M_op 76 = .ok (.iload_n 2, 1) := by decide +kernel
theorem d_M_op_77 : decode b_M_op 77 = .ok (.iastore, 1) := by decide +kernel
theorem d_M_op_78 : decode b_M_op 78 = .ok (.aload_n 0, 1) := by decide +kernel
theorem d_M_op_79 : decode b_M_op 79 = .ok (.getfield 23, 3) := by decide +kernel
theorem d_M_op_82 : decode b_M_op 82 = .ok (.iload 4, 2) := by decide +kernel
theorem d_M_op_84 : decode b_M_op 84 = .ok (.iload_n 3, 1) := by decide +kernel
theorem d_M_op_85 : decode b_M_op 85 = .ok (.bipush 63, 2) := by decide +kernel
theorem d_M_op_87 : decode b_M_op 87 = .ok (.iand, 1) := by decide +kernel
theorem d_M_op_88 : decode b_M_op 88 = .ok (.iastore, 1) := by decide +kernel
theorem d_M_op_89 : decode b_M_op 89 = .ok (.aload_n 0, 1) := by decide +kernel
theorem d_M_op_90 : decode b_M_op 90 = .ok (.getfield 26, 3) := by decide +kernel
theorem d_M_op_93 : decode b_M_op 93 = .ok (.iload 4, 2) := by decide +kernel
theorem d_M_op_95 : decode b_M_op 95 = .ok (.iconst (-1), 1) := by decide +kernel
theorem d_M_op_96 : decode b_M_op 96 = .ok (.iastore, 1) := by decide +kernel
theorem d_M_op_97 : decode b_M_op 97 = .ok (.aload_n 0, 1) := by decide +kernel
theorem d_M_op_98 : decode b_M_op 98 = .ok (.getfield 35, 3) := by decide +kernel
theorem d_M_op_101 : decode b_M_op 101 = .ok (.iload 4, 2) := by decide +kernel
theorem d_M_op_103 : decode b_M_op 103 = .ok (.iconst 0, 1) := by decide +kernel
theorem d_M_op_104 : decode b_M_op 104 = .ok (.bastore, 1) := by decide +kernel
theorem d_M_op_105 : decode b_M_op 105 = .ok (.aload_n 0, 1) := by decide +kernel
theorem d_M_op_106 : decode b_M_op 106 = .ok (.getfield 38, 3) := by decide +kernel
theorem d_M_op_109 : decode b_M_op 109 = .ok (.iload 4, 2) := by decide +kernel
theorem d_M_op_111 : decode b_M_op 111 = .ok (.iconst 0, 1) := by decide +kernel
theorem d_M_op_112 : decode b_M_op 112 = .ok (.bastore, 1) := by decide +kernel
theorem d_M_op_113 : decode b_M_op 113 = .ok (.aload_n 0, 1) := by decide +kernel
theorem d_M_op_114 : decode b_M_op 114 = .ok (.dup, 1) := by decide +kernel
theorem d_M_op_115 : decode b_M_op 115 = .ok (.getfield 60, 3) := by decide +kernel
theorem d_M_op_118 : decode b_M_op 118 = .ok (.iconst 1, 1) := by decide +kernel
theorem d_M_op_119 : decode b_M_op 119 = .ok (.iadd, 1) := by decide +kernel
theorem d_M_op_120 : decode b_M_op 120 = .ok (.putfield 60, 3) := by decide +kernel
theorem d_M_op_123 : decode b_M_op 123 = .ok (.aload_n 0, 1) := by decide +kernel
theorem d_M_op_124 : decode b_M_op 124 = .ok (.getfield 60, 3) := by decide +kernel
theorem d_M_op_127 : decode b_M_op 127 = .ok (.iconst 1, 1) := by decide +kernel
theorem d_M_op_128 : decode b_M_op 128 = .ok (.isub, 1) := by decide +kernel
theorem d_M_op_129 : decode b_M_op 129 = .ok (.ireturn, 1) := by decide +kernel
theorem d_M_isSize_0 : decode b_M_isSize 0 = .ok (.iload_n 0, 1) := by decide +kernel
theorem d_M_isSize_1 : decode b_M_isSize 1 = .ok (.iconst 2, 1) := by decide +kernel
theorem d_M_isSize_2 : decode b_M_isSize 2 = .ok (.if_icmp .ne 15, 3) := by decide +kernel
theorem d_M_isSize_5 : decode b_M_isSize 5 = .ok (.iload_n 1, 1) := by decide +kernel
theorem d_M_isSize_6 : decode b_M_isSize 6 = .ok (.ifCond .ne 7, 3) := by decide +kernel
theorem d_M_isSize_9 : decode b_M_isSize 9 = .ok (.iconst 1, 1) := by decide +kernel
theorem d_M_isSize_10 : decode b_M_isSize 10 = .ok (.goto 27, 3) := by decide +kernel
theorem d_M_isSize_13 : decode b_M_isSize 13 = .ok (.iconst 0, 1) := by decide +kernel
theorem d_M_isSize_14 : decode b_M_isSize 14 = .ok (.goto 23, 3) := by decide +kernel
theorem d_M_isSize_17 : decode b_M_isSize 17 = .ok (.iload_n 1, 1) := by decide +kernel
theorem d_M_isSize_18 : decode b_M_isSize 18 = .ok (.iconst 1, 1) := by decide +kernel
theorem d_M_isSize_19 : decode b_M_isSize 19 = .ok (.if_icmp .eq 13, 3) := by decide +kernel
theorem d_M_isSize_22 : decode b_M_isSize 22 = .ok (.iload_n 1, 1) := by decide +kernel
theorem d_M_isSize_23 : decode b_M_isSize 23 = .ok (.iconst 2, 1) := by decide +kernel
theorem d_M_isSize_24 : decode b_M_isSize 24 = .ok (.if_icmp .eq 8, 3) := by decide +kernel
theorem d_M_isSize_27 : decode b_M_isSize 27 = .ok (.iload_n 1, 1) := by decide +kernel
theorem d_M_isSize_28 : decode b_M_isSize 28 = .ok (.iconst 4, 1) := by decide +kernel
theorem d_M_isSize_29 : decode b_M_isSize 29 = .ok (.if_icmp .ne 7, 3) := by decide +kernel
theorem d_M_isSize_32 : decode b_M_isSize 32 = .ok (.iconst 1, 1) := by decide +kernel
theorem d_M_isSize_33 : decode b_M_isSize 33 = .ok (.goto 4, 3) := by decide +kernel
theorem d_M_isSize_36 : decode b_M_isSize 36 = .ok (.iconst 0, 1) := by decide +kernel
theorem d_M_isSize_37 : decode b_M_isSize 37 = .ok (.ireturn, 1) := by decide +kernel
theorem d_M_address_0 : decode b_M_address 0 = .ok (.aload_n 0, 1) := by decide +kernel
theorem d_M_address_1 : decode b_M_address 1 = .ok (.aload_n 0, 1) := by decide +kernel
theorem d_M_address_2 : decode b_M_address 2 = .ok (.iload_n 1, 1) := by decide +kernel
theorem d_M_address_3 : decode b_M_address 3 = .ok (.invokevirtual 88, 3) := by decide +kernel
theorem d_M_address_6 : decode b_M_address 6 = .ok (.ifCond .ne 7, 3) := by decide +kernel
theorem d_M_address_9 : decode b_M_address 9 = .ok (.iconst 1, 1) := by decide +kernel
theorem d_M_address_10 : decode b_M_address 10 = .ok (.goto 17, 3) := by decide +kernel
theorem d_M_address_13 : decode b_M_address 13 = .ok (.aload_n 0, 1) := by decide +kernel
theorem d_M_address_14 : decode b_M_address 14 = .ok (.iload_n 1, 1) := by decide +kernel
theorem d_M_address_15 : decode b_M_address 15 = .ok (.iload_n 2, 1) := by decide +kernel
theorem d_M_address_16 : decode b_M_address 16 = .ok (.invokevirtual 91, 3) := by decide +kernel
theorem d_M_address_19 : decode b_M_address 19 = .ok (.ifCond .ne 7, 3) := by decide +kernel
theorem d_M_address_22 : decode b_M_address 22 = .ok (.iconst 2, 1) := by decide +kernel
theorem d_M_address_23 : decode b_M_address 23 = .ok (.goto 4, 3) := by decide +kernel
theorem d_M_address_26 : decode b_M_address 26 = .ok (.iconst 0, 1) := by decide +kernel
theorem d_M_address_27 : decode b_M_address 27 = .ok (.putfield 56, 3) := by decide +kernel
theorem d_M_address_30 : decode b_M_address 30 = .ok (.aload_n 0, 1) := by decide +kernel
