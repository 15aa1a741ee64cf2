theorem d_C_init_0 : decode b_C_init 0 = .ok (.aload_n 0, 1) := by decide +kernel
theorem d_C_init_1 : decode b_C_init 1 = .ok (.invokespecial 1, 3) := by decide +kernel
theorem d_C_init_4 : decode b_C_init 4 = .ok (.aload_n 0, 1) := by decide +kernel
theorem d_C_init_5 : decode b_C_init 5 = .ok (.new 7, 3) := by decide +kernel
theorem d_C_init_8 : decode b_C_init 8 = .ok (.dup, 1) := by decide +kernel
theorem d_C_init_9 : decode b_C_init 9 = .ok (.invokespecial 9, 3) := by decide +kernel
theorem d_C_init_12 : decode b_C_init 12 = .ok (.putfield 10, 3) := by decide +kernel
theorem d_C_init_15 : decode b_C_init 15 = .ok (.aload_n 0, 1) := by decide +kernel
theorem d_C_init_16 : decode b_C_init 16 = .ok (.new 16, 3) := by decide +kernel
theorem d_C_init_19 : decode b_C_init 19 = .ok (.dup, 1) := by decide +kernel
theorem d_C_init_20 : decode b_C_init 20 = .ok (.invokespecial 18, 3) := by decide +kernel
theorem d_C_init_23 : decode b_C_init 23 = .ok (.putfield 19, 3) := by decide +kernel
theorem d_C_init_26 : decode b_C_init 26 = .ok (.aload_n 0, 1) := by decide +kernel
theorem d_C_init_27 : decode b_C_init 27 = .ok (.new 23, 3) := by decide +kernel
theorem d_C_init_30 : decode b_C_init 30 = .ok (.dup, 1) := by decide +kernel
theorem d_C_init_31 : decode b_C_init 31 = .ok (.invokespecial 25, 3) := by decide +kernel
theorem d_C_init_34 : decode b_C_init 34 = .ok (.putfield 26, 3) := by decide +kernel
theorem d_C_init_37 : decode b_C_init 37 = .ok (.aload_n 0, 1) := by decide +kernel
theorem d_C_init_38 : decode b_C_init 38 = .ok (.iconst 0, 1) := by decide +kernel
theorem d_C_init_39 : decode b_C_init 39 = .ok (.putfield 30, 3) := by decide +kernel
theorem d_C_init_42 : decode b_C_init 42 = .ok (.aload_n 0, 1) := by decide +kernel
theorem d_C_init_43 : decode b_C_init 43 = .ok (.iconst 0, 1) := by decide +kernel
theorem d_C_init_44 : decode b_C_init 44 = .ok (.putfield 34, 3) := by decide +kernel
theorem d_C_init_47 : decode b_C_init 47 = .ok (.aload_n 0, 1) := by decide +kernel
theorem d_C_init_48 : decode b_C_init 48 = .ok (.lconst 0, 1) := by decide +kernel
theorem d_C_init_49 : decode b_C_init 49 = .ok (.putfield 37, 3) := by decide +kernel
theorem d_C_init_52 : decode b_C_init 52 = .ok (.aload_n 0, 1) := by decide +kernel
theorem d_C_init_53 : decode b_C_init 53 = .ok (.iconst 0, 1) := by decide +kernel
theorem d_C_init_54 : decode b_C_init 54 = .ok (.putfield 41, 3) := by decide +kernel
theorem d_C_init_57 : decode b_C_init 57 = .ok (.aload_n 0, 1) := by decide +kernel
theorem d_C_init_58 : decode b_C_init 58 = .ok (.iconst 0, 1) := by decide +kernel
theorem d_C_init_59 : decode b_C_init 59 = .ok (.putfield 44, 3) := by decide +kernel
theorem d_C_init_62 : decode b_C_init 62 = .ok (.aload_n 0, 1) := by decide +kernel
theorem d_C_init_63 : decode b_C_init 63 = .ok (.iconst 0, 1) := by decide +kernel
theorem d_C_init_64 : decode b_C_init 64 = .ok (.putfield 47, 3) := by decide +kernel
theorem d_C_init_67 : decode b_C_init 67 = .ok (.aload_n 0, 1) := by decide +kernel
theorem d_C_init_68 : decode b_C_init 68 = .ok (.iconst 0, 1) := by decide +kernel
theorem d_C_init_69 : decode b_C_init 69 = .ok (.putfield 50, 3) := by decide +kernel
theorem d_C_init_72 : decode b_C_init 72 = .ok (.return_, 1) := by decide +kernel
theorem d_O_init_0 : decode b_O_init 0 = .ok (.aload_n 0, 1) := by decide +kernel
theorem d_O_init_1 : decode b_O_init 1 = .ok (.invokespecial 5, 3) := by decide +kernel
theorem d_O_init_4 : decode b_O_init 4 = .ok (.aload_n 0, 1) := by decide +kernel
theorem d_O_init_5 : decode b_O_init 5 = .ok (.sipush 128, 3) := by decide +kernel
theorem d_O_init_8 : decode b_O_init 8 = .ok (.newarray .int, 2) := by decide +kernel
theorem d_O_init_10 : decode b_O_init 10 = .ok (.putfield 11, 3) := by decide +kernel
theorem d_O_init_13 : decode b_O_init 13 = .ok (.aload_n 0, 1) := by decide +kernel
theorem d_O_init_14 : decode b_O_init 14 = .ok (.sipush 128, 3) := by decide +kernel
theorem d_O_init_17 : decode b_O_init 17 = .ok (.newarray .int, 2) := by decide +kernel
theorem d_O_init_19 : decode b_O_init 19 = .ok (.putfield 15, 3) := by decide +kernel
theorem d_O_init_22 : decode b_O_init 22 = .ok (.aload_n 0, 1) := by decide +kernel
theorem d_O_init_23 : decode b_O_init 23 = .ok (.sipush 128, 3) := by decide +kernel
theorem d_O_init_26 : decode b_O_init 26 = .ok (.newarray .int, 2) := by decide +kernel
theorem d_O_init_28 : decode b_O_init 28 = .ok (.putfield 18, 3) := by decide +kernel
theorem d_O_init_31 : decode b_O_init 31 = .ok (.aload_n 0, 1) := by decide +kernel
theorem d_O_init_32 : decode b_O_init 32 = .ok (.sipush 128, 3) := by decide +kernel
theorem d_O_init_35 : decode b_O_init 35 = .ok (.newarray .int, 2) := by decide +kernel
theorem d_O_init_37 : decode b_O_init 37 = .ok (.putfield 21, 3) := by decide +kernel
theorem d_O_init_40 : decode b_O_init 40 = .ok (.aload_n 0, 1) := by decide +kernel
theorem d_O_init_41 : decode b_O_init 41 = .ok (.sipush 128, 3) := by decide +kernel
theorem d_O_init_44 : decode b_O_init 44 = .ok (.newarray .boolean, 2) := by decide +kernel
theorem d_O_init_46 : decode b_O_init 46 = .ok (.putfield 24, 3) := by decide +kernel
theorem d_O_init_49 : decode b_O_init 49 = .ok (.aload_n 0, 1) := by decide +kernel
theorem d_O_init_50 : decode b_O_init 50 = .ok (.sipush 128, 3) := by decide +kernel
theorem d_O_init_53 : decode b_O_init 53 = .ok (.newarray .int, 2) := by decide +kernel
theorem d_O_init_55 : decode b_O_init 55 = .ok (.putfield 28, 3) := by decide +kernel
theorem d_O_init_58 : decode b_O_init 58 = .ok (.aload_n 0, 1) := by decide +kernel
theorem d_O_init_59 : decode b_O_init 59 = .ok (.sipush 128, 3) := by decide +kernel
theorem d_O_init_62 : decode b_O_init 62 = .ok (.newarray .boolean, 2) := by decide +kernel
theorem d_O_init_64 : decode b_O_init 64 = .ok (.putfield 31, 3) := by decide +kernel
theorem d_O_init_67 : decode b_O_init 67 = .ok (.aload_n 0, 1) := by decide +kernel
theorem d_O_init_68 : decode b_O_init 68 = .ok (.sipush 128, 3) := by decide +kernel
theorem d_O_init_71 : decode b_O_init 71 = .ok (.newarray .boolean, 2) := by decide +kernel
theorem d_O_init_73 : decode b_O_init 73 = .ok (.putfield 34, 3) := by decide +kernel
theorem d_O_init_76 : decode b_O_init 76 = .ok (.aload_n 0, 1) := by decide +kernel
theorem d_O_init_77 : decode b_O_init 77 = .ok (.sipush 128, 3) := by decide +kernel
theorem d_O_init_80 : decode b_O_init 80 = .ok (.newarray .int, 2) := by decide +kernel
theorem d_O_init_82 : decode b_O_init 82 = .ok (.putfield 37, 3) := by decide +kernel
theorem d_O_init_85 : decode b_O_init 85 = .ok (.aload_n 0, 1) := by decide +kernel
theorem d_O_init_86 : decode b_O_init 86 = .ok (.sipush 512, 3) := by decide +kernel
theorem d_O_init_89 : decode b_O_init 89 = .ok (.newarray .int, 2) := by decide +kernel
theorem d_O_init_91 : decode b_O_init 91 = .ok (.putfield 40, 3) := by decide +kernel
theorem d_O_init_94 : decode b_O_init 94 = .ok (.return_, 1) := by decide +kernel
theorem d_B_init_0 : decode b_B_init 0 = .ok (.aload_n 0, 1) := by decide +kernel
theorem d_B_init_1 : decode b_B_init 1 = .ok (.invokespecial 3, 3) := by decide +kernel
theorem d_B_init_4 : decode b_B_init 4 = .ok (.aload_n 0, 1) := by decide +kernel
theorem d_B_init_5 : decode b_B_init 5 = .ok (.iconst 4, 1) := by decide +kernel
theorem d_B_init_6 : decode b_B_init 6 = .ok (.newarray .int, 2) := by decide +kernel
theorem d_B_init_8 : decode b_B_init 8 = .ok (.putfield 9, 3) := by decide +kernel
theorem d_B_init_11 : decode b_B_init 11 = .ok (.aload_n 0, 1) := by decide +kernel
theorem d_B_init_12 : decode b_B_init 12 = .ok (.iconst 4, 1) := by decide +kernel
theorem d_B_init_13 : decode b_B_init 13 = .ok (.newarray .int, 2) := by decide +kernel
theorem d_B_init_15 : decode b_B_init 15 = .ok (.putfield 15, 3) := by decide +kernel
theorem d_B_init_18 : decode b_B_init 18 = .ok (.aload_n 0, 1) := by decide +kernel
theorem d_B_init_19 : decode b_B_init 19 = .ok (.iconst 4, 1) := by decide +kernel
theorem d_B_init_20 : decode b_B_init 20 = .ok (.newarray .int, 2) := by decide +kernel
theorem d_B_init_22 : decode b_B_init 22 = .ok (.putfield 18, 3) := by decide +kernel
theorem d_B_init_25 : decode b_B_init 25 = .ok (.aload_n 0, 1) := by decide +kernel
theorem d_B_init_26 : decode b_B_init 26 = .ok (.iconst 4, 1) := by decide +kernel
theorem d_B_init_27 : decode b_B_init 27 = .ok (.newarray .int, 2) := by decide +kernel
theorem d_B_init_29 : decode b_B_init 29 = .ok (.putfield 21, 3) := by decide +kernel
theorem d_B_init_32 : decode b_B_init 32 = .ok (.aload_n 0, 1) := by decide +kernel
theorem d_B_init_33 : decode b_B_init 33 = .ok (.iconst 0, 1) := by decide +kernel
theorem d_B_init_34 : decode b_B_init 34 = .ok (.putfield 24, 3) := by decide +kernel
theorem d_B_init_37 : decode b_B_init 37 = .ok (.return_, 1) := by decide +kernel
theorem d_Y_init_0 : decode b_Y_init 0 = .ok (.aload_n 0, 1) := by decide +kernel
theorem d_Y_init_1 : decode b_Y_init 1 = .ok (.invokespecial 3, 3) := by decide +kernel
theorem d_Y_init_4 : decode b_Y_init 4 = .ok (.aload_n 0, 1) := by decide +kernel
theorem d_Y_init_5 : decode b_Y_init 5 = .ok (.sipush 4096, 3) := by decide +kernel
theorem d_Y_init_8 : decode b_Y_init 8 = .ok (.newarray .byte, 2) := by decide +kernel
theorem d_Y_init_10 : decode b_Y_init 10 = .ok (.putfield 9, 3) := by decide +kernel
theorem d_Y_init_13 : decode b_Y_init 13 = .ok (.return_, 1) := by decide +kernel
theorem d_C_leave_0 : decode b_C_leave 0 = .ok (.aload_n 0, 1) := by decide +kernel
theorem d_C_leave_1 : decode b_C_leave 1 = .ok (.invokevirtual 64, 3) := by decide +kernel
theorem d_C_leave_4 : decode b_C_leave 4 = .ok (.ifCond .le 14, 3) := by decide +kernel
theorem d_C_leave_7 : decode b_C_leave 7 = .ok (.aload_n 0, 1) := by decide +kernel
theorem d_C_leave_8 : decode b_C_leave 8 = .ok (.aload_n 0, 1) := by decide +kernel
theorem d_C_leave_9 : decode b_C_leave 9 = .ok (.getfield 34, 3) := by decide +kernel
theorem d_C_leave_12 : decode b_C_leave 12 = .ok (.invokevirtual 170, 3) := by decide +kernel
theorem d_C_leave_15 : decode b_C_leave 15 = .ok (.ifCond .ne 5, 3) := by decide +kernel
theorem d_C_leave_18 : decode b_C_leave 18 = .ok (.iconst (-1), 1) := by decide +kernel
theorem d_C_leave_19 : decode b_C_leave 19 = .ok (.ireturn, 1) := by decide +kernel
theorem d_C_leave_20 : decode b_C_leave 20 = .ok (.aload_n 0, 1) := by decide +kernel
theorem d_C_leave_21 : decode b_C_leave 21 = .ok (.getfield 34, 3) := by decide +kernel
theorem d_C_leave_24 : decode b_C_leave 24 = .ok (.istore_n 1, 1) := by decide +kernel
theorem d_C_leave_25 : decode b_C_leave 25 = .ok (.aload_n 0, 1) := by decide +kernel
theorem d_C_leave_26 : decode b_C_leave 26 = .ok (.iload_n 1, 1) := by decide +kernel
theorem d_C_leave_27 : decode b_C_leave 27 = .ok (.invokevirtual 173, 3) := by decide +kernel
theorem d_C_leave_30 : decode b_C_leave 30 = .ok (.aload_n 0, 1) := by decide +kernel
theorem d_C_leave_31 : decode b_C_leave 31 = .ok (.iload_n 1, 1) := by decide +kernel
theorem d_C_leave_32 : decode b_C_leave 32 = .ok (.iconst 1, 1) := by decide +kernel
theorem d_C_leave_33 : decode b_C_leave 33 = .ok (.iadd, 1) := by decide +kernel
theorem d_C_leave_34 : decode b_C_leave 34 = .ok (.putfield 34, 3) := by decide +kernel
theorem d_C_leave_37 : decode b_C_leave 37 = .ok (.iload_n 1, 1) := by decide +kernel
theorem d_C_leave_38 : decode b_C_leave 38 = .ok (.ireturn, 1) := by decide +kernel
theorem d_C_waitingOps_0 : decode b_C_waitingOps 0 = .ok (.aload_n 0, 1) := by decide +kernel
theorem d_C_waitingOps_1 : decode b_C_waitingOps 1 = .ok (.getfield 30, 3) := by decide +kernel
theorem d_C_waitingOps_4 : decode b_C_waitingOps 4 = .ok (.aload_n 0, 1) := by decide +kernel
theorem d_C_waitingOps_5 : decode b_C_waitingOps 5 = .ok (.getfield 34, 3) := by decide +kernel
theorem d_C_waitingOps_8 : decode b_C_waitingOps 8 = .ok (.isub, 1) := by decide +kernel
theorem d_C_waitingOps_9 : decode b_C_waitingOps 9 = .ok (.ireturn, 1) := by decide +kernel
theorem d_C_mayLeave_0 : decode b_C_mayLeave 0 = .ok (.aload_n 0, 1) := by decide +kernel
theorem d_C_mayLeave_1 : decode b_C_mayLeave 1 = .ok (.getfield 10, 3) := by decide +kernel
theorem d_C_mayLeave_4 : decode b_C_mayLeave 4 = .ok (.iload_n 1, 1) := by decide +kernel
theorem d_C_mayLeave_5 : decode b_C_mayLeave 5 = .ok (.invokevirtual 85, 3) := by decide +kernel
theorem d_C_mayLeave_8 : decode b_C_mayLeave 8 = .ok (.tableswitch 99 0 2 #[28, 37, 91], 28) := by decide +kernel
theorem d_C_mayLeave_36 : decode b_C_mayLeave 36 = .ok (.aload_n 0, 1) := by decide +kernel
theorem d_C_mayLeave_37 : decode b_C_mayLeave 37 = .ok (.getfield 10, 3) := by decide +kernel
theorem d_C_mayLeave_40 : decode b_C_mayLeave 40 = .ok (.iload_n 1, 1) := by decide +kernel
theorem d_C_mayLeave_41 : decode b_C_mayLeave 41 = .ok (.invokevirtual 129, 3) := by decide +kernel
theorem d_C_mayLeave_44 : decode b_C_mayLeave 44 = .ok (.ireturn, 1) := by decide +kernel
theorem d_C_mayLeave_45 : decode b_C_mayLeave 45 = .ok (.aload_n 0, 1) := by decide +kernel
theorem d_C_mayLeave_46 : decode b_C_mayLeave 46 = .ok (.getfield 10, 3) := by decide +kernel
theorem d_C_mayLeave_49 : decode b_C_mayLeave 49 = .ok (.iload_n 1, 1) := by decide +kernel
theorem d_C_mayLeave_50 : decode b_C_mayLeave 50 = .ok (.invokevirtual 255, 3) := by decide +kernel
theorem d_C_mayLeave_53 : decode b_C_mayLeave 53 = .ok (.ifCond .eq 44, 3) := by decide +kernel
theorem d_C_mayLeave_56 : decode b_C_mayLeave 56 = .ok (.aload_n 0, 1) := by decide +kernel
theorem d_C_mayLeave_57 : decode b_C_mayLeave 57 = .ok (.getfield 10, 3) := by decide +kernel
theorem d_C_mayLeave_60 : decode b_C_mayLeave 60 = .ok (.iload_n 1, 1) := by decide +kernel
theorem d_C_mayLeave_61 : decode b_C_mayLeave 61 = .ok (.invokevirtual 225, 3) := by decide +kernel
theorem d_C_mayLeave_64 : decode b_C_mayLeave 64 = .ok (.invokestatic 217, 3) := by decide +kernel
theorem d_C_mayLeave_67 : decode b_C_mayLeave 67 = .ok (.ifCond .eq 16, 3) := by decide +kernel
theorem d_C_mayLeave_70 : decode b_C_mayLeave 70 = .ok (.aload_n 0, 1) := by decide +kernel
theorem d_C_mayLeave_71 : decode b_C_mayLeave 71 = .ok (.getfield 19, 3) := by decide +kernel
theorem d_C_mayLeave_74 : decode b_C_mayLeave 74 = .ok (.invokevirtual 176, 3) := by decide +kernel
theorem d_C_mayLeave_77 : decode b_C_mayLeave 77 = .ok (.ifCond .eq 20, 3) := by decide +kernel
theorem d_C_mayLeave_80 : decode b_C_mayLeave 80 = .ok (.goto 13, 3) := by decide +kernel
theorem d_C_mayLeave_83 : decode b_C_mayLeave 83 = .ok (.aload_n 0, 1) := by decide +kernel
theorem d_C_mayLeave_84 : decode b_C_mayLeave 84 = .ok (.getfield 19, 3) := by decide +kernel
theorem d_C_mayLeave_87 : decode b_C_mayLeave 87 = .ok (.invokevirtual 258, 3) := by decide +kernel
theorem d_C_mayLeave_90 : decode b_C_mayLeave 90 = .ok (.ifCond .eq 7, 3) := by decide +kernel
theorem d_C_mayLeave_93 : decode b_C_mayLeave 93 = .ok (.iconst 1, 1) := by decide +kernel
theorem d_C_mayLeave_94 : decode b_C_mayLeave 94 = .ok (.goto 4, 3) := by decide +kernel
theorem d_C_mayLeave_97 : decode b_C_mayLeave 97 = .ok (.iconst 0, 1) := by decide +kernel
theorem d_C_mayLeave_98 : decode b_C_mayLeave 98 = .ok (.ireturn, 1) := by decide +kernel
theorem d_C_mayLeave_99 : decode b_C_mayLeave 99 = .ok (.aload_n 0, 1) := by decide +kernel
theorem d_C_mayLeave_100 : decode b_C_mayLeave 100 = .ok (.getfield 19, 3) := by decide +kernel
theorem d_C_mayLeave_103 : decode b_C_mayLeave 103 = .ok (.invokevirtual 176, 3) := by decide +kernel
theorem d_C_mayLeave_106 : decode b_C_mayLeave 106 = .ok (.ireturn, 1) := by decide +kernel
theorem d_C_mayLeave_107 : decode b_C_mayLeave 107 = .ok (.aload_n 0, 1) := by decide +kernel
theorem d_C_mayLeave_108 : decode b_C_mayLeave 108 = .ok (.getfield 10, 3) := by decide +kernel
theorem d_C_mayLeave_111 : decode b_C_mayLeave 111 = .ok (.iload_n 1, 1) := by decide +kernel
theorem d_C_mayLeave_112 : decode b_C_mayLeave 112 = .ok (.invokevirtual 255, 3) := by decide +kernel
theorem d_C_mayLeave_115 : decode b_C_mayLeave 115 = .ok (.ifCond .eq 17, 3) := by decide +kernel
theorem d_C_mayLeave_118 : decode b_C_mayLeave 118 = .ok (.aload_n 0, 1) := by decide +kernel
theorem d_C_mayLeave_119 : decode b_C_mayLeave 119 = .ok (.getfield 19, 3) := by decide +kernel
theorem d_C_mayLeave_122 : decode b_C_mayLeave 122 = .ok (.invokevirtual 176, 3) := by decide +kernel
theorem d_C_mayLeave_125 : decode b_C_mayLeave 125 = .ok (.ifCond .eq 7, 3) := by decide +kernel
theorem d_C_mayLeave_128 : decode b_C_mayLeave 128 = .ok (.iconst 1, 1) := by decide +kernel
theorem d_C_mayLeave_129 : decode b_C_mayLeave 129 = .ok (.goto 4, 3) := by decide +kernel
theorem d_C_mayLeave_132 : decode b_C_mayLeave 132 = .ok (.iconst 0, 1) := by decide +kernel
theorem d_C_mayLeave_133 : decode b_C_mayLeave 133 = .ok (.ireturn, 1) := by decide +kernel
theorem d_O_kindOf_0 : decode b_O_kindOf 0 = .ok (.aload_n 0, 1) := by decide +kernel
theorem d_O_kindOf_1 : decode b_O_kindOf 1 = .ok (.getfield 11, 3) := by decide +kernel
theorem d_O_kindOf_4 : decode b_O_kindOf 4 = .ok (.iload_n 1, 1) := by decide +kernel
theorem d_O_kindOf_5 : decode b_O_kindOf 5 = .ok (.bipush 127, 2) := by decide +kernel
theorem d_O_kindOf_7 : decode b_O_kindOf 7 = .ok (.iand, 1) := by decide +kernel
theorem d_O_kindOf_8 : decode b_O_kindOf 8 = .ok (.iaload, 1) := by decide +kernel
theorem d_O_kindOf_9 : decode b_O_kindOf 9 = .ok (.ireturn, 1) := by decide +kernel
theorem d_O_isDone_0 : decode b_O_isDone 0 = .ok (.aload_n 0, 1) := by decide +kernel
theorem d_O_isDone_1 : decode b_O_isDone 1 = .ok (.getfield 34, 3) := by decide +kernel
theorem d_O_isDone_4 : decode b_O_isDone 4 = .ok (.iload_n 1, 1) := by decide +kernel
theorem d_O_isDone_5 : decode b_O_isDone 5 = .ok (.bipush 127, 2) := by decide +kernel
theorem d_O_isDone_7 : decode b_O_isDone 7 = .ok (.iand, 1) := by decide +kernel
theorem d_O_isDone_8 : decode b_O_isDone 8 = .ok (.baload, 1) := by decide +kernel
theorem d_O_isDone_9 : decode b_O_isDone 9 = .ok (.ireturn, 1) := by decide +kernel
theorem d_O_isTold_0 : decode b_O_isTold 0 = .ok (.aload_n 0, 1) := by decide +kernel
theorem d_O_isTold_1 : decode b_O_isTold 1 = .ok (.iload_n 1, 1) := by decide +kernel
theorem d_O_isTold_2 : decode b_O_isTold 2 = .ok (.invokevirtual 43, 3) := by decide +kernel
theorem d_O_isTold_5 : decode b_O_isTold 5 = .ok (.ifCond .eq 15, 3) := by decide +kernel
theorem d_O_isTold_8 : decode b_O_isTold 8 = .ok (.aload_n 0, 1) := by decide +kernel
theorem d_O_isTold_9 : decode b_O_isTold 9 = .ok (.iload_n 1, 1) := by decide +kernel
theorem d_O_isTold_10 : decode b_O_isTold 10 = .ok (.invokevirtual 47, 3) := by decide +kernel
theorem d_O_isTold_13 : decode b_O_isTold 13 = .ok (.ifCond .eq 7, 3) := by decide +kernel
theorem d_O_isTold_16 : decode b_O_isTold 16 = .ok (.iconst 1, 1) := by decide +kernel
theorem d_O_isTold_17 : decode b_O_isTold 17 = .ok (.goto 4, 3) := by decide +kernel
theorem d_O_isTold_20 : decode b_O_isTold 20 = .ok (.iconst 0, 1) := by decide +kernel
theorem d_O_isTold_21 : decode b_O_isTold 21 = .ok (.ireturn, 1) := by decide +kernel
theorem d_O_hasAddress_0 : decode b_O_hasAddress 0 = .ok (.aload_n 0, 1) := by decide +kernel
theorem d_O_hasAddress_1 : decode b_O_hasAddress 1 = .ok (.getfield 24, 3) := by decide +kernel
theorem d_O_hasAddress_4 : decode b_O_hasAddress 4 = .ok (.iload_n 1, 1) := by decide +kernel
theorem d_O_hasAddress_5 : decode b_O_hasAddress 5 = .ok (.bipush 127, 2) := by decide +kernel
theorem d_O_hasAddress_7 : decode b_O_hasAddress 7 = .ok (.iand, 1) := by decide +kernel
theorem d_O_hasAddress_8 : decode b_O_hasAddress 8 = .ok (.baload, 1) := by decide +kernel
theorem d_O_hasAddress_9 : decode b_O_hasAddress 9 = .ok (.ireturn, 1) := by decide +kernel
theorem d_O_hasNumber_0 : decode b_O_hasNumber 0 = .ok (.aload_n 0, 1) := by decide +kernel
theorem d_O_hasNumber_1 : decode b_O_hasNumber 1 = .ok (.getfield 31, 3) := by decide +kernel
theorem d_O_hasNumber_4 : decode b_O_hasNumber 4 = .ok (.iload_n 1, 1) := by decide +kernel
theorem d_O_hasNumber_5 : decode b_O_hasNumber 5 = .ok (.bipush 127, 2) := by decide +kernel
theorem d_O_hasNumber_7 : decode b_O_hasNumber 7 = .ok (.iand, 1) := by decide +kernel
theorem d_O_hasNumber_8 : decode b_O_hasNumber 8 = .ok (.baload, 1) := by decide +kernel
theorem d_O_hasNumber_9 : decode b_O_hasNumber 9 = .ok (.ireturn, 1) := by decide +kernel
theorem d_O_addressOf_0 : decode b_O_addressOf 0 = .ok (.aload_n 0, 1) := by decide +kernel
theorem d_O_addressOf_1 : decode b_O_addressOf 1 = .ok (.getfield 21, 3) := by decide +kernel
theorem d_O_addressOf_4 : decode b_O_addressOf 4 = .ok (.iload_n 1, 1) := by decide +kernel
theorem d_O_addressOf_5 : decode b_O_addressOf 5 = .ok (.bipush 127, 2) := by decide +kernel
theorem d_O_addressOf_7 : decode b_O_addressOf 7 = .ok (.iand, 1) := by decide +kernel
theorem d_O_addressOf_8 : decode b_O_addressOf 8 = .ok (.iaload, 1) := by decide +kernel
theorem d_O_addressOf_9 : decode b_O_addressOf 9 = .ok (.ireturn, 1) := by decide +kernel
theorem d_C_isDevice_0 : decode b_C_isDevice 0 = .ok (.iload_n 0, 1) := by decide +kernel
theorem d_C_isDevice_1 : decode b_C_isDevice 1 = .ok (.sipush 3072, 3) := by decide +kernel
theorem d_C_isDevice_4 : decode b_C_isDevice 4 = .ok (.if_icmp .lt 7, 3) := by decide +kernel
theorem d_C_isDevice_7 : decode b_C_isDevice 7 = .ok (.iconst 1, 1) := by decide +kernel
theorem d_C_isDevice_8 : decode b_C_isDevice 8 = .ok (.goto 4, 3) := by decide +kernel
theorem d_C_isDevice_11 : decode b_C_isDevice 11 = .ok (.iconst 0, 1) := by decide +kernel
theorem d_C_isDevice_12 : decode b_C_isDevice 12 = .ok (.ireturn, 1) := by decide +kernel
theorem d_B_isEmpty_0 : decode b_B_isEmpty 0 = .ok (.aload_n 0, 1) := by decide +kernel
theorem d_B_isEmpty_1 : decode b_B_isEmpty 1 = .ok (.getfield 24, 3) := by decide +kernel
theorem d_B_isEmpty_4 : decode b_B_isEmpty 4 = .ok (.ifCond .ne 7, 3) := by decide +kernel
theorem d_B_isEmpty_7 : decode b_B_isEmpty 7 = .ok (.iconst 1, 1) := by decide +kernel
theorem d_B_isEmpty_8 : decode b_B_isEmpty 8 = .ok (.goto 4, 3) := by decide +kernel
theorem d_B_isEmpty_11 : decode b_B_isEmpty 11 = .ok (.iconst 0, 1) := by decide +kernel
theorem d_B_isEmpty_12 : decode b_B_isEmpty 12 = .ok (.ireturn, 1) := by decide +kernel
theorem d_B_hasRoom_0 : decode b_B_hasRoom 0 = .ok (.aload_n 0, 1) := by decide +kernel
theorem d_B_hasRoom_1 : decode b_B_hasRoom 1 = .ok (.getfield 24, 3) := by decide +kernel
theorem d_B_hasRoom_4 : decode b_B_hasRoom 4 = .ok (.iconst 4, 1) := by decide +kernel
theorem d_B_hasRoom_5 : decode b_B_hasRoom 5 = .ok (.if_icmp .ge 7, 3) := by decide +kernel
theorem d_B_hasRoom_8 : decode b_B_hasRoom 8 = .ok (.iconst 1, 1) := by decide +kernel
theorem d_B_hasRoom_9 : decode b_B_hasRoom 9 = .ok (.goto 4, 3) := by decide +kernel
theorem d_B_hasRoom_12 : decode b_B_hasRoom 12 = .ok (.iconst 0, 1) := by decide +kernel
theorem d_B_hasRoom_13 : decode b_B_hasRoom 13 = .ok (.ireturn, 1) := by decide +kernel
theorem d_C_carryOut_0 : decode b_C_carryOut 0 = .ok (.aload_n 0, 1) := by decide +kernel
theorem d_C_carryOut_1 : decode b_C_carryOut 1 = .ok (.getfield 10, 3) := by decide +kernel
theorem d_C_carryOut_4 : decode b_C_carryOut 4 = .ok (.iload_n 1, 1) := by decide +kernel
theorem d_C_carryOut_5 : decode b_C_carryOut 5 = .ok (.invokevirtual 85, 3) := by decide +kernel
theorem d_C_carryOut_8 : decode b_C_carryOut 8 = .ok (.istore_n 2, 1) := by decide +kernel
theorem d_C_carryOut_9 : decode b_C_carryOut 9 = .ok (.iload_n 2, 1) := by decide +kernel
theorem d_C_carryOut_10 : decode b_C_carryOut 10 = .ok (.invokestatic 118, 3) := by decide +kernel
theorem d_C_carryOut_13 : decode b_C_carryOut 13 = .ok (.ifCond .ne 4, 3) := by decide +kernel
theorem d_C_carryOut_16 : decode b_C_carryOut 16 = .ok (.return_, 1) := by decide +kernel
theorem d_C_carryOut_17 : decode b_C_carryOut 17 = .ok (.aload_n 0, 1) := by decide +kernel
theorem d_C_carryOut_18 : decode b_C_carryOut 18 = .ok (.getfield 10, 3) := by decide +kernel
theorem d_C_carryOut_21 : decode b_C_carryOut 21 = .ok (.iload_n 1, 1) := by decide +kernel
theorem d_C_carryOut_22 : decode b_C_carryOut 22 = .ok (.invokevirtual 225, 3) := by decide +kernel
theorem d_C_carryOut_25 : decode b_C_carryOut 25 = .ok (.istore_n 3, 1) := by decide +kernel
theorem d_C_carryOut_26 : decode b_C_carryOut 26 = .ok (.aload_n 0, 1) := by decide +kernel
theorem d_C_carryOut_27 : decode b_C_carryOut 27 = .ok (.getfield 10, 3) := by decide +kernel
theorem d_C_carryOut_30 : decode b_C_carryOut 30 = .ok (.iload_n 1, 1) := by decide +kernel
theorem d_C_carryOut_31 : decode b_C_carryOut 31 = .ok (.invokevirtual 94, 3) := by decide +kernel
theorem d_C_carryOut_34 : decode b_C_carryOut 34 = .ok (.istore 4, 2) := by decide +kernel
theorem d_C_carryOut_36 : decode b_C_carryOut 36 = .ok (.iload_n 2, 1) := by decide +kernel
theorem d_C_carryOut_37 : decode b_C_carryOut 37 = .ok (.iconst 1, 1) := by decide +kernel
theorem d_C_carryOut_38 : decode b_C_carryOut 38 = .ok (.if_icmp .ne 30, 3) := by decide +kernel
theorem d_C_carryOut_41 : decode b_C_carryOut 41 = .ok (.iload_n 3, 1) := by decide +kernel
theorem d_C_carryOut_42 : decode b_C_carryOut 42 = .ok (.invokestatic 217, 3) := by decide +kernel
theorem d_C_carryOut_45 : decode b_C_carryOut 45 = .ok (.ifCond .ne 23, 3) := by decide +kernel
theorem d_C_carryOut_48 : decode b_C_carryOut 48 = .ok (.aload_n 0, 1) := by decide +kernel
theorem d_C_carryOut_49 : decode b_C_carryOut 49 = .ok (.getfield 19, 3) := by decide +kernel
theorem d_C_carryOut_52 : decode b_C_carryOut 52 = .ok (.iload_n 1, 1) := by decide +kernel
theorem d_C_carryOut_53 : decode b_C_carryOut 53 = .ok (.iload_n 3, 1) := by decide +kernel
theorem d_C_carryOut_54 : decode b_C_carryOut 54 = .ok (.iload 4, 2) := by decide +kernel
theorem d_C_carryOut_56 : decode b_C_carryOut 56 = .ok (.aload_n 0, 1) := by decide +kernel
theorem d_C_carryOut_57 : decode b_C_carryOut 57 = .ok (.getfield 10, 3) := by decide +kernel
theorem d_C_carryOut_60 : decode b_C_carryOut 60 = .ok (.iload_n 1, 1) := by decide +kernel
theorem d_C_carryOut_61 : decode b_C_carryOut 61 = .ok (.invokevirtual 261, 3) := by decide +kernel
theorem d_C_carryOut_64 : decode b_C_carryOut 64 = .ok (.invokevirtual 264, 3) := by decide +kernel
theorem d_C_carryOut_67 : decode b_C_carryOut 67 = .ok (.return_, 1) := by decide +kernel
theorem d_C_carryOut_68 : decode b_C_carryOut 68 = .ok (.iload_n 2, 1) := by decide +kernel
theorem d_C_carryOut_69 : decode b_C_carryOut 69 = .ok (.iconst 3, 1) := by decide +kernel
theorem d_C_carryOut_70 : decode b_C_carryOut 70 = .ok (.if_icmp .ne 21, 3) := by decide +kernel
theorem d_C_carryOut_73 : decode b_C_carryOut 73 = .ok (.aload_n 0, 1) := by decide +kernel
theorem d_C_carryOut_74 : decode b_C_carryOut 74 = .ok (.getfield 10, 3) := by decide +kernel
theorem d_C_carryOut_77 : decode b_C_carryOut 77 = .ok (.iload_n 1, 1) := by decide +kernel
theorem d_C_carryOut_78 : decode b_C_carryOut 78 = .ok (.aload_n 0, 1) := by decide +kernel
theorem d_C_carryOut_79 : decode b_C_carryOut 79 = .ok (.getfield 26, 3) := by decide +kernel
theorem d_C_carryOut_82 : decode b_C_carryOut 82 = .ok (.iload_n 3, 1) := by decide +kernel
theorem d_C_carryOut_83 : decode b_C_carryOut 83 = .ok (.iload 4, 2) := by decide +kernel
theorem d_C_carryOut_85 : decode b_C_carryOut 85 = .ok (.invokevirtual 267, 3) := by decide +kernel
theorem d_C_carryOut_88 : decode b_C_carryOut 88 = .ok (.invokevirtual 238, 3) := by decide +kernel
theorem d_C_carryOut_91 : decode b_C_carryOut 91 = .ok (.aload_n 0, 1) := by decide +kernel
theorem d_C_carryOut_92 : decode b_C_carryOut 92 = .ok (.getfield 26, 3) := by decide +kernel
theorem d_C_carryOut_95 : decode b_C_carryOut 95 = .ok (.iload_n 3, 1) := by decide +kernel
theorem d_C_carryOut_96 : decode b_C_carryOut 96 = .ok (.iload 4, 2) := by decide +kernel
theorem d_C_carryOut_98 : decode b_C_carryOut 98 = .ok (.aload_n 0, 1) := by decide +kernel
theorem d_C_carryOut_99 : decode b_C_carryOut 99 = .ok (.getfield 10, 3) := by decide +kernel
theorem d_C_carryOut_102 : decode b_C_carryOut 102 = .ok (.iload_n 1, 1) := by decide +kernel
theorem d_C_carryOut_103 : decode b_C_carryOut 103 = .ok (.invokevirtual 261, 3) := by decide +kernel
theorem d_C_carryOut_106 : decode b_C_carryOut 106 = .ok (.invokevirtual 270, 3) := by decide +kernel
theorem d_C_carryOut_109 : decode b_C_carryOut 109 = .ok (.return_, 1) := by decide +kernel
theorem d_C_takesNumber_0 : decode b_C_takesNumber 0 = .ok (.iload_n 0, 1) := by decide +kernel
theorem d_C_takesNumber_1 : decode b_C_takesNumber 1 = .ok (.iconst 1, 1) := by decide +kernel
theorem d_C_takesNumber_2 : decode b_C_takesNumber 2 = .ok (.if_icmp .eq 8, 3) := by decide +kernel
theorem d_C_takesNumber_5 : decode b_C_takesNumber 5 = .ok (.iload_n 0, 1) := by decide +kernel
theorem d_C_takesNumber_6 : decode b_C_takesNumber 6 = .ok (.iconst 3, 1) := by decide +kernel
theorem d_C_takesNumber_7 : decode b_C_takesNumber 7 = .ok (.if_icmp .ne 7, 3) := by decide +kernel
theorem d_C_takesNumber_10 : decode b_C_takesNumber 10 = .ok (.iconst 1, 1) := by decide +kernel
theorem d_C_takesNumber_11 : decode b_C_takesNumber 11 = .ok (.goto 4, 3) := by decide +kernel
theorem d_C_takesNumber_14 : decode b_C_takesNumber 14 = .ok (.iconst 0, 1) := by decide +kernel
theorem d_C_takesNumber_15 : decode b_C_takesNumber 15 = .ok (.ireturn, 1) := by decide +kernel
theorem d_O_bytesOf_0 : decode b_O_bytesOf 0 = .ok (.aload_n 0, 1) := by decide +kernel
theorem d_O_bytesOf_1 : decode b_O_bytesOf 1 = .ok (.getfield 15, 3) := by decide +kernel
theorem d_O_bytesOf_4 : decode b_O_bytesOf 4 = .ok (.iload_n 1, 1) := by decide +kernel
theorem d_O_bytesOf_5 : decode b_O_bytesOf 5 = .ok (.bipush 127, 2) := by decide +kernel
theorem d_O_bytesOf_7 : decode b_O_bytesOf 7 = .ok (.iand, 1) := by decide +kernel
theorem d_O_bytesOf_8 : decode b_O_bytesOf 8 = .ok (.iaload, 1) := by decide +kernel
theorem d_O_bytesOf_9 : decode b_O_bytesOf 9 = .ok (.ireturn, 1) := by decide +kernel
theorem d_O_numberOf_0 : decode b_O_numberOf 0 = .ok (.aload_n 0, 1) := by decide +kernel
theorem d_O_numberOf_1 : decode b_O_numberOf 1 = .ok (.getfield 28, 3) := by decide +kernel
theorem d_O_numberOf_4 : decode b_O_numberOf 4 = .ok (.iload_n 1, 1) := by decide +kernel
theorem d_O_numberOf_5 : decode b_O_numberOf 5 = .ok (.bipush 127, 2) := by decide +kernel
theorem d_O_numberOf_7 : decode b_O_numberOf 7 = .ok (.iand, 1) := by decide +kernel
theorem d_O_numberOf_8 : decode b_O_numberOf 8 = .ok (.iaload, 1) := by decide +kernel
theorem d_O_numberOf_9 : decode b_O_numberOf 9 = .ok (.ireturn, 1) := by decide +kernel
theorem d_B_append_0 : decode b_B_append 0 = .ok (.aload_n 0, 1) := by decide +kernel
theorem d_B_append_1 : decode b_B_append 1 = .ok (.getfield 24, 3) := by decide +kernel
theorem d_B_append_4 : decode b_B_append 4 = .ok (.ifCond .lt 11, 3) := by decide +kernel
theorem d_B_append_7 : decode b_B_append 7 = .ok (.aload_n 0, 1) := by decide +kernel
theorem d_B_append_8 : decode b_B_append 8 = .ok (.getfield 24, 3) := by decide +kernel
theorem d_B_append_11 : decode b_B_append 11 = .ok (.iconst 4, 1) := by decide +kernel
theorem d_B_append_12 : decode b_B_append 12 = .ok (.if_icmp .lt 4, 3) := by decide +kernel
theorem d_B_append_15 : decode b_B_append 15 = .ok (.return_, 1) := by decide +kernel
theorem d_B_append_16 : decode b_B_append 16 = .ok (.aload_n 0, 1) := by decide +kernel
theorem d_B_append_17 : decode b_B_append 17 = .ok (.getfield 9, 3) := by decide +kernel
theorem d_B_append_20 : decode b_B_append 20 = .ok (.aload_n 0, 1) := by decide +kernel
theorem d_B_append_21 : decode b_B_append 21 = .ok (.getfield 24, 3) := by decide +kernel
theorem d_B_append_24 : decode b_B_append 24 = .ok (.iload_n 1, 1) := by decide +kernel
theorem d_B_append_25 : decode b_B_append 25 = .ok (.iastore, 1) := by decide +kernel
theorem d_B_append_26 : decode b_B_append 26 = .ok (.aload_n 0, 1) := by decide +kernel
theorem d_B_append_27 : decode b_B_append 27 = .ok (.getfield 15, 3) := by decide +kernel
theorem d_B_append_30 : decode b_B_append 30 = .ok (.aload_n 0, 1) := by decide +kernel
theorem d_B_append_31 : decode b_B_append 31 = .ok (.getfield 24, 3) := by decide +kernel
theorem d_B_append_34 : decode b_B_append 34 = .ok (.iload_n 2, 1) := by decide +kernel
theorem d_B_append_35 : decode b_B_append 35 = .ok (.iastore, 1) := by decide +kernel
theorem d_B_append_36 : decode b_B_append 36 = .ok (.aload_n 0, 1) := by decide +kernel
theorem d_B_append_37 : decode b_B_append 37 = .ok (.getfield 18, 3) := by decide +kernel
theorem d_B_append_40 : decode b_B_append 40 = .ok (.aload_n 0, 1) := by decide +kernel
theorem d_B_append_41 : decode b_B_append 41 = .ok (.getfield 24, 3) := by decide +kernel
theorem d_B_append_44 : decode b_B_append 44 = .ok (.iload_n 3, 1) := by decide +kernel
theorem d_B_append_45 : decode b_B_append 45 = .ok (.iastore, 1) := by decide +kernel
theorem d_B_append_46 : decode b_B_append 46 = .ok (.aload_n 0, 1) := by decide +kernel
theorem d_B_append_47 : decode b_B_append 47 = .ok (.getfield 21, 3) := by decide +kernel
theorem d_B_append_50 : decode b_B_append 50 = .ok (.aload_n 0, 1) := by decide +kernel
theorem d_B_append_51 : decode b_B_append 51 = .ok (.getfield 24, 3) := by decide +kernel
theorem d_B_append_54 : decode b_B_append 54 = .ok (.iload 4, 2) := by decide +kernel
theorem d_B_append_56 : decode b_B_append 56 = .ok (.iastore, 1) := by decide +kernel
theorem d_B_append_57 : decode b_B_append 57 = .ok (.aload_n 0, 1) := by decide +kernel
theorem d_B_append_58 : decode b_B_append 58 = .ok (.dup, 1) := by decide +kernel
theorem d_B_append_59 : decode b_B_append 59 = .ok (.getfield 24, 3) := by decide +kernel
theorem d_B_append_62 : decode b_B_append 62 = .ok (.iconst 1, 1) := by decide +kernel
theorem d_B_append_63 : decode b_B_append 63 = .ok (.iadd, 1) := by decide +kernel
theorem d_B_append_64 : decode b_B_append 64 = .ok (.putfield 24, 3) := by decide +kernel
theorem d_B_append_67 : decode b_B_append 67 = .ok (.return_, 1) := by decide +kernel
theorem d_Y_numberAt_0 : decode b_Y_numberAt 0 = .ok (.iconst 0, 1) := by decide +kernel
theorem d_Y_numberAt_1 : decode b_Y_numberAt 1 = .ok (.istore_n 3, 1) := by decide +kernel
theorem d_Y_numberAt_2 : decode b_Y_numberAt 2 = .ok (.iconst 0, 1) := by decide +kernel
theorem d_Y_numberAt_3 : decode b_Y_numberAt 3 = .ok (.istore 4, 2) := by decide +kernel
theorem d_Y_numberAt_5 : decode b_Y_numberAt 5 = .ok (.iload 4, 2) := by decide +kernel
theorem d_Y_numberAt_7 : decode b_Y_numberAt 7 = .ok (.iload_n 2, 1) := by decide +kernel
theorem d_Y_numberAt_8 : decode b_Y_numberAt 8 = .ok (.if_icmp .ge 23, 3) := by decide +kernel
theorem d_Y_numberAt_11 : decode b_Y_numberAt 11 = .ok (.iload_n 3, 1) := by decide +kernel
theorem d_Y_numberAt_12 : decode b_Y_numberAt 12 = .ok (.bipush 8, 2) := by decide +kernel
theorem d_Y_numberAt_14 : decode b_Y_numberAt 14 = .ok (.ishl, 1) := by decide +kernel
theorem d_Y_numberAt_15 : decode b_Y_numberAt 15 = .ok (.aload_n 0, 1) := by decide +kernel
theorem d_Y_numberAt_16 : decode b_Y_numberAt 16 = .ok (.iload_n 1, 1) := by decide +kernel
theorem d_Y_numberAt_17 : decode b_Y_numberAt 17 = .ok (.iload 4, 2) := by decide +kernel
theorem d_Y_numberAt_19 : decode b_Y_numberAt 19 = .ok (.iadd, 1) := by decide +kernel
theorem d_Y_numberAt_20 : decode b_Y_numberAt 20 = .ok (.invokevirtual 15, 3) := by decide +kernel
theorem d_Y_numberAt_23 : decode b_Y_numberAt 23 = .ok (.ior, 1) := by decide +kernel
theorem d_Y_numberAt_24 : decode b_Y_numberAt 24 = .ok (.istore_n 3, 1) := by decide +kernel
theorem d_Y_numberAt_25 : decode b_Y_numberAt 25 = .ok (.iinc 4 1, 3) := by decide +kernel
theorem d_Y_numberAt_28 : decode b_Y_numberAt 28 = .ok (.goto (-23), 3) := by decide +kernel
