theorem d_Y_numberAt_31 : decode b_Y_numberAt 31 = .ok (.iload_n 3, 1) := by decide +kernel
theorem d_Y_numberAt_32 : decode b_Y_numberAt 32 = .ok (.ireturn, 1) := by decide +kernel
theorem d_Y_byteAt_0 : decode b_Y_byteAt 0 = .ok (.aload_n 0, 1) := by decide +kernel
theorem d_Y_byteAt_1 : decode b_Y_byteAt 1 = .ok (.getfield 9, 3) := by decide +kernel
theorem d_Y_byteAt_4 : decode b_Y_byteAt 4 = .ok (.iload_n 1, 1) := by decide +kernel
theorem d_Y_byteAt_5 : decode b_Y_byteAt 5 = .ok (.sipush 4095, 3) := by decide +kernel
theorem d_Y_byteAt_8 : decode b_Y_byteAt 8 = .ok (.iand, 1) := by decide +kernel
theorem d_Y_byteAt_9 : decode b_Y_byteAt 9 = .ok (.baload, 1) := by decide +kernel
theorem d_Y_byteAt_10 : decode b_Y_byteAt 10 = .ok (.sipush 255, 3) := by decide +kernel
theorem d_Y_byteAt_13 : decode b_Y_byteAt 13 = .ok (.iand, 1) := by decide +kernel
theorem d_Y_byteAt_14 : decode b_Y_byteAt 14 = .ok (.ireturn, 1) := by decide +kernel
theorem d_O_setLoaded_0 : decode b_O_setLoaded 0 = .ok (.aload_n 0, 1) := by decide +kernel
theorem d_O_setLoaded_1 : decode b_O_setLoaded 1 = .ok (.getfield 37, 3) := by decide +kernel
theorem d_O_setLoaded_4 : decode b_O_setLoaded 4 = .ok (.iload_n 1, 1) := by decide +kernel
theorem d_O_setLoaded_5 : decode b_O_setLoaded 5 = .ok (.bipush 127, 2) := by decide +kernel
theorem d_O_setLoaded_7 : decode b_O_setLoaded 7 = .ok (.iand, 1) := by decide +kernel
theorem d_O_setLoaded_8 : decode b_O_setLoaded 8 = .ok (.iload_n 2, 1) := by decide +kernel
theorem d_O_setLoaded_9 : decode b_O_setLoaded 9 = .ok (.iastore, 1) := by decide +kernel
theorem d_O_setLoaded_10 : decode b_O_setLoaded 10 = .ok (.return_, 1) := by decide +kernel
theorem d_Y_write_0 : decode b_Y_write 0 = .ok (.iconst 0, 1) := by decide +kernel
theorem d_Y_write_1 : decode b_Y_write 1 = .ok (.istore 4, 2) := by decide +kernel
theorem d_Y_write_3 : decode b_Y_write 3 = .ok (.iload 4, 2) := by decide +kernel
theorem d_Y_write_5 : decode b_Y_write 5 = .ok (.iload_n 2, 1) := by decide +kernel
theorem d_Y_write_6 : decode b_Y_write 6 = .ok (.if_icmp .ge 24, 3) := by decide +kernel
theorem d_Y_write_9 : decode b_Y_write 9 = .ok (.aload_n 0, 1) := by decide +kernel
theorem d_Y_write_10 : decode b_Y_write 10 = .ok (.iload_n 1, 1) := by decide +kernel
theorem d_Y_write_11 : decode b_Y_write 11 = .ok (.iload 4, 2) := by decide +kernel
theorem d_Y_write_13 : decode b_Y_write 13 = .ok (.iadd, 1) := by decide +kernel
theorem d_Y_write_14 : decode b_Y_write 14 = .ok (.iload_n 3, 1) := by decide +kernel
theorem d_Y_write_15 : decode b_Y_write 15 = .ok (.iload_n 2, 1) := by decide +kernel
theorem d_Y_write_16 : decode b_Y_write 16 = .ok (.iload 4, 2) := by decide +kernel
theorem d_Y_write_18 : decode b_Y_write 18 = .ok (.invokestatic 19, 3) := by decide +kernel
theorem d_Y_write_21 : decode b_Y_write 21 = .ok (.invokevirtual 23, 3) := by decide +kernel
theorem d_Y_write_24 : decode b_Y_write 24 = .ok (.iinc 4 1, 3) := by decide +kernel
theorem d_Y_write_27 : decode b_Y_write 27 = .ok (.goto (-24), 3) := by decide +kernel
theorem d_Y_write_30 : decode b_Y_write 30 = .ok (.return_, 1) := by decide +kernel
theorem d_C_byteOfNumber_0 : decode b_C_byteOfNumber 0 = .ok (.iload_n 0, 1) := by decide +kernel
theorem d_C_byteOfNumber_1 : decode b_C_byteOfNumber 1 = .ok (.bipush 8, 2) := by decide +kernel
theorem d_C_byteOfNumber_3 : decode b_C_byteOfNumber 3 = .ok (.iload_n 1, 1) := by decide +kernel
theorem d_C_byteOfNumber_4 : decode b_C_byteOfNumber 4 = .ok (.iconst 1, 1) := by decide +kernel
theorem d_C_byteOfNumber_5 : decode b_C_byteOfNumber 5 = .ok (.isub, 1) := by decide +kernel
theorem d_C_byteOfNumber_6 : decode b_C_byteOfNumber 6 = .ok (.iload_n 2, 1) := by decide +kernel
theorem d_C_byteOfNumber_7 : decode b_C_byteOfNumber 7 = .ok (.isub, 1) := by decide +kernel
theorem d_C_byteOfNumber_8 : decode b_C_byteOfNumber 8 = .ok (.imul, 1) := by decide +kernel
theorem d_C_byteOfNumber_9 : decode b_C_byteOfNumber 9 = .ok (.iushr, 1) := by decide +kernel
theorem d_C_byteOfNumber_10 : decode b_C_byteOfNumber 10 = .ok (.sipush 255, 3) := by decide +kernel
theorem d_C_byteOfNumber_13 : decode b_C_byteOfNumber 13 = .ok (.iand, 1) := by decide +kernel
theorem d_C_byteOfNumber_14 : decode b_C_byteOfNumber 14 = .ok (.ireturn, 1) := by decide +kernel
theorem d_Y_setByte_0 : decode b_Y_setByte 0 = .ok (.aload_n 0, 1) := by decide +kernel
theorem d_Y_setByte_1 : decode b_Y_setByte 1 = .ok (.getfield 9, 3) := by decide +kernel
theorem d_Y_setByte_4 : decode b_Y_setByte 4 = .ok (.iload_n 1, 1) := by decide +kernel
theorem d_Y_setByte_5 : decode b_Y_setByte 5 = .ok (.sipush 4095, 3) := by decide +kernel
theorem d_Y_setByte_8 : decode b_Y_setByte 8 = .ok (.iand, 1) := by decide +kernel
theorem d_Y_setByte_9 : decode b_Y_setByte 9 = .ok (.iload_n 2, 1) := by decide +kernel
theorem d_Y_setByte_10 : decode b_Y_setByte 10 = .ok (.i2b, 1) := by decide +kernel
theorem d_Y_setByte_11 : decode b_Y_setByte 11 = .ok (.bastore, 1) := by decide +kernel
theorem d_Y_setByte_12 : decode b_Y_setByte 12 = .ok (.return_, 1) := by decide +kernel
theorem d_C_drain_0 : decode b_C_drain 0 = .ok (.aload_n 0, 1) := by decide +kernel
theorem d_C_drain_1 : decode b_C_drain 1 = .ok (.getfield 19, 3) := by decide +kernel
theorem d_C_drain_4 : decode b_C_drain 4 = .ok (.invokevirtual 176, 3) := by decide +kernel
theorem d_C_drain_7 : decode b_C_drain 7 = .ok (.ifCond .eq 5, 3) := by decide +kernel
theorem d_C_drain_10 : decode b_C_drain 10 = .ok (.iconst (-1), 1) := by decide +kernel
theorem d_C_drain_11 : decode b_C_drain 11 = .ok (.ireturn, 1) := by decide +kernel
theorem d_C_drain_12 : decode b_C_drain 12 = .ok (.aload_n 0, 1) := by decide +kernel
theorem d_C_drain_13 : decode b_C_drain 13 = .ok (.getfield 19, 3) := by decide +kernel
theorem d_C_drain_16 : decode b_C_drain 16 = .ok (.invokevirtual 180, 3) := by decide +kernel
theorem d_C_drain_19 : decode b_C_drain 19 = .ok (.istore_n 1, 1) := by decide +kernel
theorem d_C_drain_20 : decode b_C_drain 20 = .ok (.aload_n 0, 1) := by decide +kernel
theorem d_C_drain_21 : decode b_C_drain 21 = .ok (.getfield 19, 3) := by decide +kernel
theorem d_C_drain_24 : decode b_C_drain 24 = .ok (.aload_n 0, 1) := by decide +kernel
theorem d_C_drain_25 : decode b_C_drain 25 = .ok (.getfield 26, 3) := by decide +kernel
theorem d_C_drain_28 : decode b_C_drain 28 = .ok (.invokevirtual 183, 3) := by decide +kernel
theorem d_C_drain_31 : decode b_C_drain 31 = .ok (.iload_n 1, 1) := by decide +kernel
theorem d_C_drain_32 : decode b_C_drain 32 = .ok (.ireturn, 1) := by decide +kernel
theorem d_B_oldestStore_0 : decode b_B_oldestStore 0 = .ok (.aload_n 0, 1) := by decide +kernel
theorem d_B_oldestStore_1 : decode b_B_oldestStore 1 = .ok (.getfield 24, 3) := by decide +kernel
theorem d_B_oldestStore_4 : decode b_B_oldestStore 4 = .ok (.ifCond .ne 7, 3) := by decide +kernel
theorem d_B_oldestStore_7 : decode b_B_oldestStore 7 = .ok (.iconst (-1), 1) := by decide +kernel
theorem d_B_oldestStore_8 : decode b_B_oldestStore 8 = .ok (.goto 9, 3) := by decide +kernel
theorem d_B_oldestStore_11 : decode b_B_oldestStore 11 = .ok (.aload_n 0, 1) := by decide +kernel
theorem d_B_oldestStore_12 : decode b_B_oldestStore 12 = .ok (.getfield 9, 3) := by decide +kernel
theorem d_B_oldestStore_15 : decode b_B_oldestStore 15 = .ok (.iconst 0, 1) := by decide +kernel
theorem d_B_oldestStore_16 : decode b_B_oldestStore 16 = .ok (.iaload, 1) := by decide +kernel
theorem d_B_oldestStore_17 : decode b_B_oldestStore 17 = .ok (.ireturn, 1) := by decide +kernel
theorem d_B_moveOldestTo_0 : decode b_B_moveOldestTo 0 = .ok (.aload_n 0, 1) := by decide +kernel
theorem d_B_moveOldestTo_1 : decode b_B_moveOldestTo 1 = .ok (.getfield 24, 3) := by decide +kernel
theorem d_B_moveOldestTo_4 : decode b_B_moveOldestTo 4 = .ok (.ifCond .gt 4, 3) := by decide +kernel
theorem d_B_moveOldestTo_7 : decode b_B_moveOldestTo 7 = .ok (.return_, 1) := by decide +kernel
theorem d_B_moveOldestTo_8 : decode b_B_moveOldestTo 8 = .ok (.aload_n 1, 1) := by decide +kernel
theorem d_B_moveOldestTo_9 : decode b_B_moveOldestTo 9 = .ok (.aload_n 0, 1) := by decide +kernel
theorem d_B_moveOldestTo_10 : decode b_B_moveOldestTo 10 = .ok (.getfield 15, 3) := by decide +kernel
theorem d_B_moveOldestTo_13 : decode b_B_moveOldestTo 13 = .ok (.iconst 0, 1) := by decide +kernel
theorem d_B_moveOldestTo_14 : decode b_B_moveOldestTo 14 = .ok (.iaload, 1) := by decide +kernel
theorem d_B_moveOldestTo_15 : decode b_B_moveOldestTo 15 = .ok (.aload_n 0, 1) := by decide +kernel
theorem d_B_moveOldestTo_16 : decode b_B_moveOldestTo 16 = .ok (.getfield 18, 3) := by decide +kernel
theorem d_B_moveOldestTo_19 : decode b_B_moveOldestTo 19 = .ok (.iconst 0, 1) := by decide +kernel
theorem d_B_moveOldestTo_20 : decode b_B_moveOldestTo 20 = .ok (.iaload, 1) := by decide +kernel
theorem d_B_moveOldestTo_21 : decode b_B_moveOldestTo 21 = .ok (.aload_n 0, 1) := by decide +kernel
theorem d_B_moveOldestTo_22 : decode b_B_moveOldestTo 22 = .ok (.getfield 21, 3) := by decide +kernel
theorem d_B_moveOldestTo_25 : decode b_B_moveOldestTo 25 = .ok (.iconst 0, 1) := by decide +kernel
theorem d_B_moveOldestTo_26 : decode b_B_moveOldestTo 26 = .ok (.iaload, 1) := by decide +kernel
theorem d_B_moveOldestTo_27 : decode b_B_moveOldestTo 27 = .ok (.invokevirtual 28, 3) := by decide +kernel
theorem d_B_moveOldestTo_30 : decode b_B_moveOldestTo 30 = .ok (.iconst 1, 1) := by decide +kernel
theorem d_B_moveOldestTo_31 : decode b_B_moveOldestTo 31 = .ok (.istore_n 2, 1) := by decide +kernel
theorem d_B_moveOldestTo_32 : decode b_B_moveOldestTo 32 = .ok (.iload_n 2, 1) := by decide +kernel
theorem d_B_moveOldestTo_33 : decode b_B_moveOldestTo 33 = .ok (.iconst 4, 1) := by decide +kernel
theorem d_B_moveOldestTo_34 : decode b_B_moveOldestTo 34 = .ok (.if_icmp .ge 65, 3) := by decide +kernel
theorem d_B_moveOldestTo_37 : decode b_B_moveOldestTo 37 = .ok (.aload_n 0, 1) := by decide +kernel
theorem d_B_moveOldestTo_38 : decode b_B_moveOldestTo 38 = .ok (.getfield 9, 3) := by decide +kernel
theorem d_B_moveOldestTo_41 : decode b_B_moveOldestTo 41 = .ok (.iload_n 2, 1) := by decide +kernel
theorem d_B_moveOldestTo_42 : decode b_B_moveOldestTo 42 = .ok (.iconst 1, 1) := by decide +kernel
theorem d_B_moveOldestTo_43 : decode b_B_moveOldestTo 43 = .ok (.isub, 1) := by decide +kernel
theorem d_B_moveOldestTo_44 : decode b_B_moveOldestTo 44 = .ok (.aload_n 0, 1) := by decide +kernel
theorem d_B_moveOldestTo_45 : decode b_B_moveOldestTo 45 = .ok (.getfield 9, 3) := by decide +kernel
theorem d_B_moveOldestTo_48 : decode b_B_moveOldestTo 48 = .ok (.iload_n 2, 1) := by decide +kernel
theorem d_B_moveOldestTo_49 : decode b_B_moveOldestTo 49 = .ok (.iaload, 1) := by decide +kernel
theorem d_B_moveOldestTo_50 : decode b_B_moveOldestTo 50 = .ok (.iastore, 1) := by decide +kernel
theorem d_B_moveOldestTo_51 : decode b_B_moveOldestTo 51 = .ok (.aload_n 0, 1) := by decide +kernel
theorem d_B_moveOldestTo_52 : decode b_B_moveOldestTo 52 = .ok (.getfield 15, 3) := by decide +kernel
theorem d_B_moveOldestTo_55 : decode b_B_moveOldestTo 55 = .ok (.iload_n 2, 1) := by decide +kernel
theorem d_B_moveOldestTo_56 : decode b_B_moveOldestTo 56 = .ok (.iconst 1, 1) := by decide +kernel
theorem d_B_moveOldestTo_57 : decode b_B_moveOldestTo 57 = .ok (.isub, 1) := by decide +kernel
theorem d_B_moveOldestTo_58 : decode b_B_moveOldestTo 58 = .ok (.aload_n 0, 1) := by decide +kernel
theorem d_B_moveOldestTo_59 : decode b_B_moveOldestTo 59 = .ok (.getfield 15, 3) := by decide +kernel
theorem d_B_moveOldestTo_62 : decode b_B_moveOldestTo 62 = .ok (.iload_n 2, 1) := by decide +kernel
theorem d_B_moveOldestTo_63 : decode b_B_moveOldestTo 63 = .ok (.iaload, 1) := by decide +kernel
theorem d_B_moveOldestTo_64 : decode b_B_moveOldestTo 64 = .ok (.iastore, 1) := by decide +kernel
theorem d_B_moveOldestTo_65 : decode b_B_moveOldestTo 65 = .ok (.aload_n 0, 1) := by decide +kernel
theorem d_B_moveOldestTo_66 : decode b_B_moveOldestTo 66 = .ok (.getfield 18, 3) := by decide +kernel
theorem d_B_moveOldestTo_69 : decode b_B_moveOldestTo 69 = .ok (.iload_n 2, 1) := by decide +kernel
theorem d_B_moveOldestTo_70 : decode b_B_moveOldestTo 70 = .ok (.iconst 1, 1) := by decide +kernel
theorem d_B_moveOldestTo_71 : decode b_B_moveOldestTo 71 = .ok (.isub, 1) := by decide +kernel
theorem d_B_moveOldestTo_72 : decode b_B_moveOldestTo 72 = .ok (.aload_n 0, 1) := by decide +kernel
theorem d_B_moveOldestTo_73 : decode b_B_moveOldestTo 73 = .ok (.getfield 18, 3) := by decide +kernel
theorem d_B_moveOldestTo_76 : decode b_B_moveOldestTo 76 = .ok (.iload_n 2, 1) := by decide +kernel
theorem d_B_moveOldestTo_77 : decode b_B_moveOldestTo 77 = .ok (.iaload, 1) := by decide +kernel
theorem d_B_moveOldestTo_78 : decode b_B_moveOldestTo 78 = .ok (.iastore, 1) := by decide +kernel
theorem d_B_moveOldestTo_79 : decode b_B_moveOldestTo 79 = .ok (.aload_n 0, 1) := by decide +kernel
theorem d_B_moveOldestTo_80 : decode b_B_moveOldestTo 80 = .ok (.getfield 21, 3) := by decide +kernel
theorem d_B_moveOldestTo_83 : decode b_B_moveOldestTo 83 = .ok (.iload_n 2, 1) := by decide +kernel
theorem d_B_moveOldestTo_84 : decode b_B_moveOldestTo 84 = .ok (.iconst 1, 1) := by decide +kernel
theorem d_B_moveOldestTo_85 : decode b_B_moveOldestTo 85 = .ok (.isub, 1) := by decide +kernel
theorem d_B_moveOldestTo_86 : decode b_B_moveOldestTo 86 = .ok (.aload_n 0, 1) := by decide +kernel
theorem d_B_moveOldestTo_87 : decode b_B_moveOldestTo 87 = .ok (.getfield 21, 3) := by decide +kernel
theorem d_B_moveOldestTo_90 : decode b_B_moveOldestTo 90 = .ok (.iload_n 2, 1) := by decide +kernel
theorem d_B_moveOldestTo_91 : decode b_B_moveOldestTo 91 = .ok (.iaload, 1) := by decide +kernel
theorem d_B_moveOldestTo_92 : decode b_B_moveOldestTo 92 = .ok (.iastore, 1) := by decide +kernel
theorem d_B_moveOldestTo_93 : decode b_B_moveOldestTo 93 = .ok (.iinc 2 1, 3) := by decide +kernel
theorem d_B_moveOldestTo_96 : decode b_B_moveOldestTo 96 = .ok (.goto (-64), 3) := by decide +kernel
theorem d_B_moveOldestTo_99 : decode b_B_moveOldestTo 99 = .ok (.aload_n 0, 1) := by decide +kernel
theorem d_B_moveOldestTo_100 : decode b_B_moveOldestTo 100 = .ok (.dup, 1) := by decide +kernel
theorem d_B_moveOldestTo_101 : decode b_B_moveOldestTo 101 = .ok (.getfield 24, 3) := by decide +kernel
theorem d_B_moveOldestTo_104 : decode b_B_moveOldestTo 104 = .ok (.iconst 1, 1) := by decide +kernel
theorem d_B_moveOldestTo_105 : decode b_B_moveOldestTo 105 = .ok (.isub, 1) := by decide +kernel
theorem d_B_moveOldestTo_106 : decode b_B_moveOldestTo 106 = .ok (.putfield 24, 3) := by decide +kernel
theorem d_B_moveOldestTo_109 : decode b_B_moveOldestTo 109 = .ok (.return_, 1) := by decide +kernel
theorem d_C_marked_0 : decode b_C_marked 0 = .ok (.aload_n 0, 1) := by decide +kernel
theorem d_C_marked_1 : decode b_C_marked 1 = .ok (.getfield 37, 3) := by decide +kernel
theorem d_C_marked_4 : decode b_C_marked 4 = .ok (.iload_n 1, 1) := by decide +kernel
theorem d_C_marked_5 : decode b_C_marked 5 = .ok (.bipush 63, 2) := by decide +kernel
theorem d_C_marked_7 : decode b_C_marked 7 = .ok (.iand, 1) := by decide +kernel
theorem d_C_marked_8 : decode b_C_marked 8 = .ok (.lushr, 1) := by decide +kernel
theorem d_C_marked_9 : decode b_C_marked 9 = .ok (.lconst 1, 1) := by decide +kernel
theorem d_C_marked_10 : decode b_C_marked 10 = .ok (.land, 1) := by decide +kernel
theorem d_C_marked_11 : decode b_C_marked 11 = .ok (.lconst 0, 1) := by decide +kernel
theorem d_C_marked_12 : decode b_C_marked 12 = .ok (.lcmp, 1) := by decide +kernel
theorem d_C_marked_13 : decode b_C_marked 13 = .ok (.ifCond .eq 7, 3) := by decide +kernel
theorem d_C_marked_16 : decode b_C_marked 16 = .ok (.iconst 1, 1) := by decide +kernel
theorem d_C_marked_17 : decode b_C_marked 17 = .ok (.goto 4, 3) := by decide +kernel
theorem d_C_marked_20 : decode b_C_marked 20 = .ok (.iconst 0, 1) := by decide +kernel
theorem d_C_marked_21 : decode b_C_marked 21 = .ok (.ireturn, 1) := by decide +kernel
theorem d_C_count_0 : decode b_C_count 0 = .ok (.iload_n 1, 1) := by decide +kernel
theorem d_C_count_1 : decode b_C_count 1 = .ok (.tableswitch 122 0 9 #[55, 60, 65, 73, 78, 83, 88, 93, 98, 106], 55) := by decide +kernel
theorem d_C_count_56 : decode b_C_count 56 = .ok (.aload_n 0, 1) := by decide +kernel
theorem d_C_count_57 : decode b_C_count 57 = .ok (.getfield 30, 3) := by decide +kernel
theorem d_C_count_60 : decode b_C_count 60 = .ok (.ireturn, 1) := by decide +kernel
theorem d_C_count_61 : decode b_C_count 61 = .ok (.aload_n 0, 1) := by decide +kernel
theorem d_C_count_62 : decode b_C_count 62 = .ok (.invokevirtual 64, 3) := by decide +kernel
theorem d_C_count_65 : decode b_C_count 65 = .ok (.ireturn, 1) := by decide +kernel
theorem d_C_count_66 : decode b_C_count 66 = .ok (.aload_n 0, 1) := by decide +kernel
theorem d_C_count_67 : decode b_C_count 67 = .ok (.getfield 19, 3) := by decide +kernel
theorem d_C_count_70 : decode b_C_count 70 = .ok (.invokevirtual 205, 3) := by decide +kernel
theorem d_C_count_73 : decode b_C_count 73 = .ok (.ireturn, 1) := by decide +kernel
theorem d_C_count_74 : decode b_C_count 74 = .ok (.aload_n 0, 1) := by decide +kernel
theorem d_C_count_75 : decode b_C_count 75 = .ok (.invokevirtual 208, 3) := by decide +kernel
theorem d_C_count_78 : decode b_C_count 78 = .ok (.ireturn, 1) := by decide +kernel
theorem d_C_count_79 : decode b_C_count 79 = .ok (.aload_n 0, 1) := by decide +kernel
theorem d_C_count_80 : decode b_C_count 80 = .ok (.getfield 41, 3) := by decide +kernel
theorem d_C_count_83 : decode b_C_count 83 = .ok (.ireturn, 1) := by decide +kernel
theorem d_C_count_84 : decode b_C_count 84 = .ok (.aload_n 0, 1) := by decide +kernel
theorem d_C_count_85 : decode b_C_count 85 = .ok (.getfield 44, 3) := by decide +kernel
theorem d_C_count_88 : decode b_C_count 88 = .ok (.ireturn, 1) := by decide +kernel
theorem d_C_count_89 : decode b_C_count 89 = .ok (.aload_n 0, 1) := by decide +kernel
theorem d_C_count_90 : decode b_C_count 90 = .ok (.getfield 47, 3) := by decide +kernel
theorem d_C_count_93 : decode b_C_count 93 = .ok (.ireturn, 1) := by decide +kernel
theorem d_C_count_94 : decode b_C_count 94 = .ok (.aload_n 0, 1) := by decide +kernel
theorem d_C_count_95 : decode b_C_count 95 = .ok (.getfield 50, 3) := by decide +kernel
theorem d_C_count_98 : decode b_C_count 98 = .ok (.ireturn, 1) := by decide +kernel
theorem d_C_count_99 : decode b_C_count 99 = .ok (.aload_n 0, 1) := by decide +kernel
theorem d_C_count_100 : decode b_C_count 100 = .ok (.getfield 37, 3) := by decide +kernel
theorem d_C_count_103 : decode b_C_count 103 = .ok (.invokestatic 211, 3) := by decide +kernel
theorem d_C_count_106 : decode b_C_count 106 = .ok (.ireturn, 1) := by decide +kernel
theorem d_C_count_107 : decode b_C_count 107 = .ok (.aload_n 0, 1) := by decide +kernel
theorem d_C_count_108 : decode b_C_count 108 = .ok (.invokevirtual 64, 3) := by decide +kernel
theorem d_C_count_111 : decode b_C_count 111 = .ok (.ifCond .le 10, 3) := by decide +kernel
theorem d_C_count_114 : decode b_C_count 114 = .ok (.aload_n 0, 1) := by decide +kernel
theorem d_C_count_115 : decode b_C_count 115 = .ok (.getfield 34, 3) := by decide +kernel
theorem d_C_count_118 : decode b_C_count 118 = .ok (.goto 4, 3) := by decide +kernel
theorem d_C_count_121 : decode b_C_count 121 = .ok (.iconst (-1), 1) := by decide +kernel
theorem d_C_count_122 : decode b_C_count 122 = .ok (.ireturn, 1) := by decide +kernel
theorem d_C_count_123 : decode b_C_count 123 = .ok (.iconst (-1), 1) := by decide +kernel
theorem d_C_count_124 : decode b_C_count 124 = .ok (.ireturn, 1) := by decide +kernel
theorem d_B_size_0 : decode b_B_size 0 = .ok (.aload_n 0, 1) := by decide +kernel
theorem d_B_size_1 : decode b_B_size 1 = .ok (.getfield 24, 3) := by decide +kernel
theorem d_B_size_4 : decode b_B_size 4 = .ok (.ireturn, 1) := by decide +kernel
theorem d_C_loadsDoneThatWait_0 : decode b_C_loadsDoneThatWait 0 = .ok (.iconst 0, 1) := by decide +kernel
theorem d_C_loadsDoneThatWait_1 : decode b_C_loadsDoneThatWait 1 = .ok (.istore_n 1, 1) := by decide +kernel
theorem d_C_loadsDoneThatWait_2 : decode b_C_loadsDoneThatWait 2 = .ok (.aload_n 0, 1) := by decide +kernel
theorem d_C_loadsDoneThatWait_3 : decode b_C_loadsDoneThatWait 3 = .ok (.getfield 34, 3) := by decide +kernel
theorem d_C_loadsDoneThatWait_6 : decode b_C_loadsDoneThatWait 6 = .ok (.istore_n 2, 1) := by decide +kernel
theorem d_C_loadsDoneThatWait_7 : decode b_C_loadsDoneThatWait 7 = .ok (.iload_n 2, 1) := by decide +kernel
theorem d_C_loadsDoneThatWait_8 : decode b_C_loadsDoneThatWait 8 = .ok (.aload_n 0, 1) := by decide +kernel
theorem d_C_loadsDoneThatWait_9 : decode b_C_loadsDoneThatWait 9 = .ok (.getfield 30, 3) := by decide +kernel
theorem d_C_loadsDoneThatWait_12 : decode b_C_loadsDoneThatWait 12 = .ok (.if_icmp .ge 23, 3) := by decide +kernel
theorem d_C_loadsDoneThatWait_15 : decode b_C_loadsDoneThatWait 15 = .ok (.aload_n 0, 1) := by decide +kernel
theorem d_C_loadsDoneThatWait_16 : decode b_C_loadsDoneThatWait 16 = .ok (.getfield 10, 3) := by decide +kernel
theorem d_C_loadsDoneThatWait_19 : decode b_C_loadsDoneThatWait 19 = .ok (.iload_n 2, 1) := by decide +kernel
theorem d_C_loadsDoneThatWait_20 : decode b_C_loadsDoneThatWait 20 = .ok (.invokevirtual 129, 3) := by decide +kernel
theorem d_C_loadsDoneThatWait_23 : decode b_C_loadsDoneThatWait 23 = .ok (.ifCond .eq 6, 3) := by decide +kernel
theorem d_C_loadsDoneThatWait_26 : decode b_C_loadsDoneThatWait 26 = .ok (.iinc 1 1, 3) := by decide +kernel
theorem d_C_loadsDoneThatWait_29 : decode b_C_loadsDoneThatWait 29 = .ok (.iinc 2 1, 3) := by decide +kernel
theorem d_C_loadsDoneThatWait_32 : decode b_C_loadsDoneThatWait 32 = .ok (.goto (-25), 3) := by decide +kernel
theorem d_C_loadsDoneThatWait_35 : decode b_C_loadsDoneThatWait 35 = .ok (.iload_n 1, 1) := by decide +kernel
theorem d_C_loadsDoneThatWait_36 : decode b_C_loadsDoneThatWait 36 = .ok (.ireturn, 1) := by decide +kernel
theorem d_G_bitCount_0 : decode b_G_bitCount 0 = .ok (.lload_n 0, 1) := by decide +kernel
theorem d_G_bitCount_1 : decode b_G_bitCount 1 = .ok (.lload_n 0, 1) := by decide +kernel
theorem d_G_bitCount_2 : decode b_G_bitCount 2 = .ok (.iconst 1, 1) := by decide +kernel
theorem d_G_bitCount_3 : decode b_G_bitCount 3 = .ok (.lushr, 1) := by decide +kernel
theorem d_G_bitCount_4 : decode b_G_bitCount 4 = .ok (.ldc2_w 314, 3) := by decide +kernel
theorem d_G_bitCount_7 : decode b_G_bitCount 7 = .ok (.land, 1) := by decide +kernel
theorem d_G_bitCount_8 : decode b_G_bitCount 8 = .ok (.lsub, 1) := by decide +kernel
theorem d_G_bitCount_9 : decode b_G_bitCount 9 = .ok (.lstore_n 0, 1) := by decide +kernel
theorem d_G_bitCount_10 : decode b_G_bitCount 10 = .ok (.lload_n 0, 1) := by decide +kernel
theorem d_G_bitCount_11 : decode b_G_bitCount 11 = .ok (.ldc2_w 316, 3) := by decide +kernel
theorem d_G_bitCount_14 : decode b_G_bitCount 14 = .ok (.land, 1) := by decide +kernel
theorem d_G_bitCount_15 : decode b_G_bitCount 15 = .ok (.lload_n 0, 1) := by decide +kernel
theorem d_G_bitCount_16 : decode b_G_bitCount 16 = .ok (.iconst 2, 1) := by decide +kernel
theorem d_G_bitCount_17 : decode b_G_bitCount 17 = .ok (.lushr, 1) := by decide +kernel
theorem d_G_bitCount_18 : decode b_G_bitCount 18 = .ok (.ldc2_w 316, 3) := by decide +kernel
theorem d_G_bitCount_21 : decode b_G_bitCount 21 = .ok (.land, 1) := by decide +kernel
theorem d_G_bitCount_22 : decode b_G_bitCount 22 = .ok (.ladd, 1) := by decide +kernel
theorem d_G_bitCount_23 : decode b_G_bitCount 23 = .ok (.lstore_n 0, 1) := by decide +kernel
theorem d_G_bitCount_24 : decode b_G_bitCount 24 = .ok (.lload_n 0, 1) := by decide +kernel
theorem d_G_bitCount_25 : decode b_G_bitCount 25 = .ok (.lload_n 0, 1) := by decide +kernel
theorem d_G_bitCount_26 : decode b_G_bitCount 26 = .ok (.iconst 4, 1) := by decide +kernel
theorem d_G_bitCount_27 : decode b_G_bitCount 27 = .ok (.lushr, 1) := by decide +kernel
theorem d_G_bitCount_28 : decode b_G_bitCount 28 = .ok (.ladd, 1) := by decide +kernel
theorem d_G_bitCount_29 : decode b_G_bitCount 29 = .ok (.ldc2_w 318, 3) := by decide +kernel
theorem d_G_bitCount_32 : decode b_G_bitCount 32 = .ok (.land, 1) := by decide +kernel
theorem d_G_bitCount_33 : decode b_G_bitCount 33 = .ok (.lstore_n 0, 1) := by decide +kernel
theorem d_G_bitCount_34 : decode b_G_bitCount 34 = .ok (.lload_n 0, 1) := by decide +kernel
theorem d_G_bitCount_35 : decode b_G_bitCount 35 = .ok (.lload_n 0, 1) := by decide +kernel
theorem d_G_bitCount_36 : decode b_G_bitCount 36 = .ok (.bipush 8, 2) := by decide +kernel
theorem d_G_bitCount_38 : decode b_G_bitCount 38 = .ok (.lushr, 1) := by decide +kernel
theorem d_G_bitCount_39 : decode b_G_bitCount 39 = .ok (.ladd, 1) := by decide +kernel
theorem d_G_bitCount_40 : decode b_G_bitCount 40 = .ok (.lstore_n 0, 1) := by decide +kernel
theorem d_G_bitCount_41 : decode b_G_bitCount 41 = .ok (.lload_n 0, 1) := by decide +kernel
theorem d_G_bitCount_42 : decode b_G_bitCount 42 = .ok (.lload_n 0, 1) := by decide +kernel
theorem d_G_bitCount_43 : decode b_G_bitCount 43 = .ok (.bipush 16, 2) := by decide +kernel
theorem d_G_bitCount_45 : decode b_G_bitCount 45 = .ok (.lushr, 1) := by decide +kernel
theorem d_G_bitCount_46 : decode b_G_bitCount 46 = .ok (.ladd, 1) := by decide +kernel
theorem d_G_bitCount_47 : decode b_G_bitCount 47 = .ok (.lstore_n 0, 1) := by decide +kernel
theorem d_G_bitCount_48 : decode b_G_bitCount 48 = .ok (.lload_n 0, 1) := by decide +kernel
theorem d_G_bitCount_49 : decode b_G_bitCount 49 = .ok (.lload_n 0, 1) := by decide +kernel
theorem d_G_bitCount_50 : decode b_G_bitCount 50 = .ok (.bipush 32, 2) := by decide +kernel
theorem d_G_bitCount_52 : decode b_G_bitCount 52 = .ok (.lushr, 1) := by decide +kernel
theorem d_G_bitCount_53 : decode b_G_bitCount 53 = .ok (.ladd, 1) := by decide +kernel
theorem d_G_bitCount_54 : decode b_G_bitCount 54 = .ok (.lstore_n 0, 1) := by decide +kernel
theorem d_G_bitCount_55 : decode b_G_bitCount 55 = .ok (.lload_n 0, 1) := by decide +kernel
theorem d_G_bitCount_56 : decode b_G_bitCount 56 = .ok (.l2i, 1) := by decide +kernel
theorem d_G_bitCount_57 : decode b_G_bitCount 57 = .ok (.bipush 127, 2) := by decide +kernel
theorem d_G_bitCount_59 : decode b_G_bitCount 59 = .ok (.iand, 1) := by decide +kernel
theorem d_G_bitCount_60 : decode b_G_bitCount 60 = .ok (.ireturn, 1) := by decide +kernel
theorem d_L_op_0 : decode b_L_op 0 = .ok (.aload 4, 2) := by decide +kernel
theorem d_L_op_2 : decode b_L_op 2 = .ok (.iconst 0, 1) := by decide +kernel
theorem d_L_op_3 : decode b_L_op 3 = .ok (.aload_n 0, 1) := by decide +kernel
theorem d_L_op_4 : decode b_L_op 4 = .ok (.iload_n 1, 1) := by decide +kernel
theorem d_L_op_5 : decode b_L_op 5 = .ok (.iload_n 2, 1) := by decide +kernel
theorem d_L_op_6 : decode b_L_op 6 = .ok (.iload_n 3, 1) := by decide +kernel
theorem d_L_op_7 : decode b_L_op 7 = .ok (.invokevirtual 7, 3) := by decide +kernel
theorem d_L_op_10 : decode b_L_op 10 = .ok (.i2l, 1) := by decide +kernel
theorem d_L_op_11 : decode b_L_op 11 = .ok (.lastore, 1) := by decide +kernel
theorem d_L_op_12 : decode b_L_op 12 = .ok (.goto 11, 3) := by decide +kernel
theorem d_L_op_15 : decode b_L_op 15 = .ok (.astore 5, 2) := by decide +kernel
theorem d_L_op_17 : decode b_L_op 17 = .ok (.iconst 1, 1) := by decide +kernel
theorem d_L_op_18 : decode b_L_op 18 = .ok (.ireturn, 1) := by decide +kernel
theorem d_L_op_19 : decode b_L_op 19 = .ok (.astore 5, 2) := by decide +kernel
theorem d_L_op_21 : decode b_L_op 21 = .ok (.iconst 2, 1) := by decide +kernel
theorem d_L_op_22 : decode b_L_op 22 = .ok (.ireturn, 1) := by decide +kernel
theorem d_L_op_23 : decode b_L_op 23 = .ok (.iconst 0, 1) := by decide +kernel
theorem d_L_op_24 : decode b_L_op 24 = .ok (.ireturn, 1) := by decide +kernel
theorem d_C_op_0 : decode b_C_op 0 = .ok (.iload_n 1, 1) := by decide +kernel
theorem d_C_op_1 : decode b_C_op 1 = .ok (.iload_n 2, 1) := by decide +kernel
theorem d_C_op_2 : decode b_C_op 2 = .ok (.invokestatic 53, 3) := by decide +kernel
theorem d_C_op_5 : decode b_C_op 5 = .ok (.ifCond .ne 13, 3) := by decide +kernel
theorem d_C_op_8 : decode b_C_op 8 = .ok (.new 57, 3) := by decide +kernel
theorem d_C_op_11 : decode b_C_op 11 = .ok (.dup, 1) := by decide +kernel
theorem d_C_op_12 : decode b_C_op 12 = .ok (.ldc 59, 2) := by decide +kernel
theorem d_C_op_14 : decode b_C_op 14 = .ok (.invokespecial 61, 3) := by decide +kernel
theorem d_C_op_17 : decode b_C_op 17 = .ok (.athrow, 1) := by decide +kernel
theorem d_C_op_18 : decode b_C_op 18 = .ok (.aload_n 0, 1) := by decide +kernel
theorem d_C_op_19 : decode b_C_op 19 = .ok (.invokevirtual 64, 3) := by decide +kernel
theorem d_C_op_22 : decode b_C_op 22 = .ok (.bipush 32, 2) := by decide +kernel
theorem d_C_op_24 : decode b_C_op 24 = .ok (.if_icmp .lt 13, 3) := by decide +kernel
theorem d_C_op_27 : decode b_C_op 27 = .ok (.new 68, 3) := by decide +kernel
theorem d_C_op_30 : decode b_C_op 30 = .ok (.dup, 1) := by decide +kernel
theorem d_C_op_31 : decode b_C_op 31 = .ok (.ldc 70, 2) := by decide +kernel
theorem d_C_op_33 : decode b_C_op 33 = .ok (.invokespecial 72, 3) := by decide +kernel
theorem d_C_op_36 : decode b_C_op 36 = .ok (.athrow, 1) := by decide +kernel
theorem d_C_op_37 : decode b_C_op 37 = .ok (.aload_n 0, 1) := by decide +kernel
theorem d_C_op_38 : decode b_C_op 38 = .ok (.getfield 30, 3) := by decide +kernel
theorem d_C_op_41 : decode b_C_op 41 = .ok (.istore 4, 2) := by decide +kernel
theorem d_C_op_43 : decode b_C_op 43 = .ok (.aload_n 0, 1) := by decide +kernel
theorem d_C_op_44 : decode b_C_op 44 = .ok (.getfield 10, 3) := by decide +kernel
theorem d_C_op_47 : decode b_C_op 47 = .ok (.iload 4, 2) := by decide +kernel
theorem d_C_op_49 : decode b_C_op 49 = .ok (.iload_n 1, 1) := by decide +kernel
theorem d_C_op_50 : decode b_C_op 50 = .ok (.iload_n 2, 1) := by decide +kernel
theorem d_C_op_51 : decode b_C_op 51 = .ok (.iload_n 3, 1) := by decide +kernel
theorem d_C_op_52 : decode b_C_op 52 = .ok (.invokevirtual 73, 3) := by decide +kernel
theorem d_C_op_55 : decode b_C_op 55 = .ok (.aload_n 0, 1) := by decide +kernel
theorem d_C_op_56 : decode b_C_op 56 = .ok (.iload 4, 2) := by decide +kernel
theorem d_C_op_58 : decode b_C_op 58 = .ok (.iconst 1, 1) := by decide +kernel
theorem d_C_op_59 : decode b_C_op 59 = .ok (.iadd, 1) := by decide +kernel
theorem d_C_op_60 : decode b_C_op 60 = .ok (.putfield 30, 3) := by decide +kernel
theorem d_C_op_63 : decode b_C_op 63 = .ok (.iload 4, 2) := by decide +kernel
theorem d_C_op_65 : decode b_C_op 65 = .ok (.ireturn, 1) := by decide +kernel
theorem d_C_isKindWithBytes_0 : decode b_C_isKindWithBytes 0 = .ok (.iload_n 0, 1) := by decide +kernel
theorem d_C_isKindWithBytes_1 : decode b_C_isKindWithBytes 1 = .ok (.iconst 2, 1) := by decide +kernel
theorem d_C_isKindWithBytes_2 : decode b_C_isKindWithBytes 2 = .ok (.if_icmp .ne 13, 3) := by decide +kernel
theorem d_C_isKindWithBytes_5 : decode b_C_isKindWithBytes 5 = .ok (.iload_n 1, 1) := by decide +kernel
theorem d_C_isKindWithBytes_6 : decode b_C_isKindWithBytes 6 = .ok (.ifCond .ne 7, 3) := by decide +kernel
theorem d_C_isKindWithBytes_9 : decode b_C_isKindWithBytes 9 = .ok (.iconst 1, 1) := by decide +kernel
theorem d_C_isKindWithBytes_10 : decode b_C_isKindWithBytes 10 = .ok (.goto 4, 3) := by decide +kernel
theorem d_C_isKindWithBytes_13 : decode b_C_isKindWithBytes 13 = .ok (.iconst 0, 1) := by decide +kernel
theorem d_C_isKindWithBytes_14 : decode b_C_isKindWithBytes 14 = .ok (.ireturn, 1) := by decide +kernel
theorem d_C_isKindWithBytes_15 : decode b_C_isKindWithBytes 15 = .ok (.iload_n 0, 1) := by decide +kernel
theorem d_C_isKindWithBytes_16 : decode b_C_isKindWithBytes 16 = .ok (.ifCond .lt 27, 3) := by decide +kernel
theorem d_C_isKindWithBytes_19 : decode b_C_isKindWithBytes 19 = .ok (.iload_n 0, 1) := by decide +kernel
theorem d_C_isKindWithBytes_20 : decode b_C_isKindWithBytes 20 = .ok (.iconst 3, 1) := by decide +kernel
theorem d_C_isKindWithBytes_21 : decode b_C_isKindWithBytes 21 = .ok (.if_icmp .gt 22, 3) := by decide +kernel
theorem d_C_isKindWithBytes_24 : decode b_C_isKindWithBytes 24 = .ok (.iload_n 1, 1) := by decide +kernel
theorem d_C_isKindWithBytes_25 : decode b_C_isKindWithBytes 25 = .ok (.iconst 1, 1) := by decide +kernel
theorem d_C_isKindWithBytes_26 : decode b_C_isKindWithBytes 26 = .ok (.if_icmp .eq 13, 3) := by decide +kernel
theorem d_C_isKindWithBytes_29 : decode b_C_isKindWithBytes 29 = .ok (.iload_n 1, 1) := by decide +kernel
theorem d_C_isKindWithBytes_30 : decode b_C_isKindWithBytes 30 = .ok (.iconst 2, 1) := by decide +kernel
theorem d_C_isKindWithBytes_31 : decode b_C_isKindWithBytes 31 = .ok (.if_icmp .eq 8, 3) := by decide +kernel
theorem d_C_isKindWithBytes_34 : decode b_C_isKindWithBytes 34 = .ok (.iload_n 1, 1) := by decide +kernel
theorem d_C_isKindWithBytes_35 : decode b_C_isKindWithBytes 35 = .ok (.iconst 4, 1) := by decide +kernel
theorem d_C_isKindWithBytes_36 : decode b_C_isKindWithBytes 36 = .ok (.if_icmp .ne 7, 3) := by decide +kernel
theorem d_C_isKindWithBytes_39 : decode b_C_isKindWithBytes 39 = .ok (.iconst 1, 1) := by decide +kernel
theorem d_C_isKindWithBytes_40 : decode b_C_isKindWithBytes 40 = .ok (.goto 4, 3) := by decide +kernel
theorem d_C_isKindWithBytes_43 : decode b_C_isKindWithBytes 43 = .ok (.iconst 0, 1) := by decide +kernel
theorem d_C_isKindWithBytes_44 : decode b_C_isKindWithBytes 44 = .ok (.ireturn, 1) := by decide +kernel
theorem d_O_begin_0 : decode b_O_begin 0 = .ok (.iload_n 1, 1) := by decide +kernel
theorem d_O_begin_1 : decode b_O_begin 1 = .ok (.bipush 127, 2) := by decide +kernel
theorem d_O_begin_3 : decode b_O_begin 3 = .ok (.iand, 1) := by decide +kernel
theorem d_O_begin_4 : decode b_O_begin 4 = .ok (.istore 5, 2) := by decide +kernel
theorem d_O_begin_6 : decode b_O_begin 6 = .ok (.aload_n 0, 1) := by decide +kernel
theorem d_O_begin_7 : decode b_O_begin 7 = .ok (.getfield 11, 3) := by decide +kernel
theorem d_O_begin_10 : decode b_O_begin 10 = .ok (.iload 5, 2) := by decide +kernel
theorem d_O_begin_12 : decode b_O_begin 12 = .ok (.iload_n 2, 1) := by decide +kernel
theorem d_O_begin_13 : decode b_O_begin 13 = .ok (.iastore, 1) := by decide +kernel
theorem d_O_begin_14 : decode b_O_begin 14 = .ok (.aload_n 0, 1) := by decide +kernel
theorem d_O_begin_15 : decode b_O_begin 15 = .ok (.getfield 15, 3) := by decide +kernel
theorem d_O_begin_18 : decode b_O_begin 18 = .ok (.iload 5, 2) := by decide +kernel
theorem d_O_begin_20 : decode b_O_begin 20 = .ok (.iload_n 3, 1) := by decide +kernel
theorem d_O_begin_21 : decode b_O_begin 21 = .ok (.iastore, 1) := by decide +kernel
theorem d_O_begin_22 : decode b_O_begin 22 = .ok (.aload_n 0, 1) := by decide +kernel
theorem d_O_begin_23 : decode b_O_begin 23 = .ok (.getfield 18, 3) := by decide +kernel
theorem d_O_begin_26 : decode b_O_begin 26 = .ok (.iload 5, 2) := by decide +kernel
theorem d_O_begin_28 : decode b_O_begin 28 = .ok (.iload 4, 2) := by decide +kernel
theorem d_O_begin_30 : decode b_O_begin 30 = .ok (.iastore, 1) := by decide +kernel
theorem d_O_begin_31 : decode b_O_begin 31 = .ok (.aload_n 0, 1) := by decide +kernel
theorem d_O_begin_32 : decode b_O_begin 32 = .ok (.getfield 24, 3) := by decide +kernel
theorem d_O_begin_35 : decode b_O_begin 35 = .ok (.iload 5, 2) := by decide +kernel
theorem d_O_begin_37 : decode b_O_begin 37 = .ok (.iconst 0, 1) := by decide +kernel
theorem d_O_begin_38 : decode b_O_begin 38 = .ok (.bastore, 1) := by decide +kernel
theorem d_O_begin_39 : decode b_O_begin 39 = .ok (.aload_n 0, 1) := by decide +kernel
theorem d_O_begin_40 : decode b_O_begin 40 = .ok (.getfield 31, 3) := by decide +kernel
theorem d_O_begin_43 : decode b_O_begin 43 = .ok (.iload 5, 2) := by decide +kernel
theorem d_O_begin_45 : decode b_O_begin 45 = .ok (.iconst 0, 1) := by decide +kernel
theorem d_O_begin_46 : decode b_O_begin 46 = .ok (.bastore, 1) := by decide +kernel
theorem d_O_begin_47 : decode b_O_begin 47 = .ok (.aload_n 0, 1) := by decide +kernel
theorem d_O_begin_48 : decode b_O_begin 48 = .ok (.getfield 34, 3) := by decide +kernel
theorem d_O_begin_51 : decode b_O_begin 51 = .ok (.iload 5, 2) := by decide +kernel
theorem d_O_begin_53 : decode b_O_begin 53 = .ok (.iconst 0, 1) := by decide +kernel
theorem d_O_begin_54 : decode b_O_begin 54 = .ok (.bastore, 1) := by decide +kernel
theorem d_O_begin_55 : decode b_O_begin 55 = .ok (.return_, 1) := by decide +kernel
theorem d_L_address_0 : decode b_L_address 0 = .ok (.aload_n 3, 1) := by decide +kernel
theorem d_L_address_1 : decode b_L_address 1 = .ok (.iconst 0, 1) := by decide +kernel
