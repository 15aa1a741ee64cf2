theorem d_M_address_31 : decode b_M_address 31 = .ok (.getfield 56, 3) := by decide +kernel
theorem d_M_address_34 : decode b_M_address 34 = .ok (.ifCond .le 5, 3) := by decide +kernel
theorem d_M_address_37 : decode b_M_address 37 = .ok (.iconst 0, 1) := by decide +kernel
theorem d_M_address_38 : decode b_M_address 38 = .ok (.ireturn, 1) := by decide +kernel
theorem d_M_address_39 : decode b_M_address 39 = .ok (.aload_n 0, 1) := by decide +kernel
theorem d_M_address_40 : decode b_M_address 40 = .ok (.getfield 26, 3) := by decide +kernel
theorem d_M_address_43 : decode b_M_address 43 = .ok (.iload_n 1, 1) := by decide +kernel
theorem d_M_address_44 : decode b_M_address 44 = .ok (.bipush 127, 2) := by decide +kernel
theorem d_M_address_46 : decode b_M_address 46 = .ok (.iand, 1) := by decide +kernel
theorem d_M_address_47 : decode b_M_address 47 = .ok (.iload_n 2, 1) := by decide +kernel
theorem d_M_address_48 : decode b_M_address 48 = .ok (.iastore, 1) := by decide +kernel
theorem d_M_address_49 : decode b_M_address 49 = .ok (.aload_n 0, 1) := by decide +kernel
theorem d_M_address_50 : decode b_M_address 50 = .ok (.getfield 17, 3) := by decide +kernel
theorem d_M_address_53 : decode b_M_address 53 = .ok (.iload_n 1, 1) := by decide +kernel
theorem d_M_address_54 : decode b_M_address 54 = .ok (.bipush 127, 2) := by decide +kernel
theorem d_M_address_56 : decode b_M_address 56 = .ok (.iand, 1) := by decide +kernel
theorem d_M_address_57 : decode b_M_address 57 = .ok (.iaload, 1) := by decide +kernel
theorem d_M_address_58 : decode b_M_address 58 = .ok (.iconst 1, 1) := by decide +kernel
theorem d_M_address_59 : decode b_M_address 59 = .ok (.if_icmp .eq 5, 3) := by decide +kernel
theorem d_M_address_62 : decode b_M_address 62 = .ok (.iconst 0, 1) := by decide +kernel
theorem d_M_address_63 : decode b_M_address 63 = .ok (.ireturn, 1) := by decide +kernel
theorem d_M_address_64 : decode b_M_address 64 = .ok (.iload_n 1, 1) := by decide +kernel
theorem d_M_address_65 : decode b_M_address 65 = .ok (.iconst 1, 1) := by decide +kernel
theorem d_M_address_66 : decode b_M_address 66 = .ok (.iadd, 1) := by decide +kernel
theorem d_M_address_67 : decode b_M_address 67 = .ok (.istore_n 3, 1) := by decide +kernel
theorem d_M_address_68 : decode b_M_address 68 = .ok (.iload_n 3, 1) := by decide +kernel
theorem d_M_address_69 : decode b_M_address 69 = .ok (.aload_n 0, 1) := by decide +kernel
theorem d_M_address_70 : decode b_M_address 70 = .ok (.getfield 60, 3) := by decide +kernel
theorem d_M_address_73 : decode b_M_address 73 = .ok (.if_icmp .ge 50, 3) := by decide +kernel
theorem d_M_address_76 : decode b_M_address 76 = .ok (.aload_n 0, 1) := by decide +kernel
theorem d_M_address_77 : decode b_M_address 77 = .ok (.iload_n 3, 1) := by decide +kernel
theorem d_M_address_78 : decode b_M_address 78 = .ok (.invokevirtual 94, 3) := by decide +kernel
theorem d_M_address_81 : decode b_M_address 81 = .ok (.ifCond .eq 36, 3) := by decide +kernel
theorem d_M_address_84 : decode b_M_address 84 = .ok (.aload_n 0, 1) := by decide +kernel
theorem d_M_address_85 : decode b_M_address 85 = .ok (.iload_n 3, 1) := by decide +kernel
theorem d_M_address_86 : decode b_M_address 86 = .ok (.iload_n 1, 1) := by decide +kernel
theorem d_M_address_87 : decode b_M_address 87 = .ok (.invokevirtual 97, 3) := by decide +kernel
theorem d_M_address_90 : decode b_M_address 90 = .ok (.ifCond .ne 6, 3) := by decide +kernel
theorem d_M_address_93 : decode b_M_address 93 = .ok (.goto 24, 3) := by decide +kernel
theorem d_M_address_96 : decode b_M_address 96 = .ok (.aload_n 0, 1) := by decide +kernel
theorem d_M_address_97 : decode b_M_address 97 = .ok (.getfield 13, 3) := by decide +kernel
theorem d_M_address_100 : decode b_M_address 100 = .ok (.aload_n 0, 1) := by decide +kernel
theorem d_M_address_101 : decode b_M_address 101 = .ok (.getfield 23, 3) := by decide +kernel
theorem d_M_address_104 : decode b_M_address 104 = .ok (.iload_n 3, 1) := by decide +kernel
theorem d_M_address_105 : decode b_M_address 105 = .ok (.bipush 127, 2) := by decide +kernel
theorem d_M_address_107 : decode b_M_address 107 = .ok (.iand, 1) := by decide +kernel
theorem d_M_address_108 : decode b_M_address 108 = .ok (.iaload, 1) := by decide +kernel
theorem d_M_address_109 : decode b_M_address 109 = .ok (.iconst 1, 1) := by decide +kernel
theorem d_M_address_110 : decode b_M_address 110 = .ok (.bastore, 1) := by decide +kernel
theorem d_M_address_111 : decode b_M_address 111 = .ok (.aload_n 0, 1) := by decide +kernel
theorem d_M_address_112 : decode b_M_address 112 = .ok (.iload_n 3, 1) := by decide +kernel
theorem d_M_address_113 : decode b_M_address 113 = .ok (.invokevirtual 100, 3) := by decide +kernel
theorem d_M_address_116 : decode b_M_address 116 = .ok (.ireturn, 1) := by decide +kernel
theorem d_M_address_117 : decode b_M_address 117 = .ok (.iinc 3 1, 3) := by decide +kernel
theorem d_M_address_120 : decode b_M_address 120 = .ok (.goto (-52), 3) := by decide +kernel
theorem d_M_address_123 : decode b_M_address 123 = .ok (.iconst 0, 1) := by decide +kernel
theorem d_M_address_124 : decode b_M_address 124 = .ok (.ireturn, 1) := by decide +kernel
theorem d_M_isOp_0 : decode b_M_isOp 0 = .ok (.iload_n 1, 1) := by decide +kernel
theorem d_M_isOp_1 : decode b_M_isOp 1 = .ok (.ifCond .lt 15, 3) := by decide +kernel
theorem d_M_isOp_4 : decode b_M_isOp 4 = .ok (.iload_n 1, 1) := by decide +kernel
theorem d_M_isOp_5 : decode b_M_isOp 5 = .ok (.aload_n 0, 1) := by decide +kernel
theorem d_M_isOp_6 : decode b_M_isOp 6 = .ok (.getfield 60, 3) := by decide +kernel
theorem d_M_isOp_9 : decode b_M_isOp 9 = .ok (.if_icmp .ge 7, 3) := by decide +kernel
theorem d_M_isOp_12 : decode b_M_isOp 12 = .ok (.iconst 1, 1) := by decide +kernel
theorem d_M_isOp_13 : decode b_M_isOp 13 = .ok (.goto 4, 3) := by decide +kernel
theorem d_M_isOp_16 : decode b_M_isOp 16 = .ok (.iconst 0, 1) := by decide +kernel
theorem d_M_isOp_17 : decode b_M_isOp 17 = .ok (.ireturn, 1) := by decide +kernel
theorem d_M_canBe_0 : decode b_M_canBe 0 = .ok (.iload_n 1, 1) := by decide +kernel
theorem d_M_canBe_1 : decode b_M_canBe 1 = .ok (.bipush 127, 2) := by decide +kernel
theorem d_M_canBe_3 : decode b_M_canBe 3 = .ok (.iand, 1) := by decide +kernel
theorem d_M_canBe_4 : decode b_M_canBe 4 = .ok (.istore_n 3, 1) := by decide +kernel
theorem d_M_canBe_5 : decode b_M_canBe 5 = .ok (.aload_n 0, 1) := by decide +kernel
theorem d_M_canBe_6 : decode b_M_canBe 6 = .ok (.iload_n 1, 1) := by decide +kernel
theorem d_M_canBe_7 : decode b_M_canBe 7 = .ok (.invokevirtual 84, 3) := by decide +kernel
theorem d_M_canBe_10 : decode b_M_canBe 10 = .ok (.ifCond .eq 41, 3) := by decide +kernel
theorem d_M_canBe_13 : decode b_M_canBe 13 = .ok (.aload_n 0, 1) := by decide +kernel
theorem d_M_canBe_14 : decode b_M_canBe 14 = .ok (.getfield 17, 3) := by decide +kernel
theorem d_M_canBe_17 : decode b_M_canBe 17 = .ok (.iload_n 3, 1) := by decide +kernel
theorem d_M_canBe_18 : decode b_M_canBe 18 = .ok (.iaload, 1) := by decide +kernel
theorem d_M_canBe_19 : decode b_M_canBe 19 = .ok (.iconst 2, 1) := by decide +kernel
theorem d_M_canBe_20 : decode b_M_canBe 20 = .ok (.if_icmp .eq 31, 3) := by decide +kernel
theorem d_M_canBe_23 : decode b_M_canBe 23 = .ok (.aload_n 0, 1) := by decide +kernel
theorem d_M_canBe_24 : decode b_M_canBe 24 = .ok (.getfield 26, 3) := by decide +kernel
theorem d_M_canBe_27 : decode b_M_canBe 27 = .ok (.iload_n 3, 1) := by decide +kernel
theorem d_M_canBe_28 : decode b_M_canBe 28 = .ok (.iaload, 1) := by decide +kernel
theorem d_M_canBe_29 : decode b_M_canBe 29 = .ok (.iconst (-1), 1) := by decide +kernel
theorem d_M_canBe_30 : decode b_M_canBe 30 = .ok (.if_icmp .ne 21, 3) := by decide +kernel
theorem d_M_canBe_33 : decode b_M_canBe 33 = .ok (.iload_n 2, 1) := by decide +kernel
theorem d_M_canBe_34 : decode b_M_canBe 34 = .ok (.ifCond .lt 17, 3) := by decide +kernel
theorem d_M_canBe_37 : decode b_M_canBe 37 = .ok (.iload_n 2, 1) := by decide +kernel
theorem d_M_canBe_38 : decode b_M_canBe 38 = .ok (.sipush 4096, 3) := by decide +kernel
theorem d_M_canBe_41 : decode b_M_canBe 41 = .ok (.aload_n 0, 1) := by decide +kernel
theorem d_M_canBe_42 : decode b_M_canBe 42 = .ok (.getfield 20, 3) := by decide +kernel
theorem d_M_canBe_45 : decode b_M_canBe 45 = .ok (.iload_n 3, 1) := by decide +kernel
theorem d_M_canBe_46 : decode b_M_canBe 46 = .ok (.iaload, 1) := by decide +kernel
theorem d_M_canBe_47 : decode b_M_canBe 47 = .ok (.isub, 1) := by decide +kernel
theorem d_M_canBe_48 : decode b_M_canBe 48 = .ok (.if_icmp .le 5, 3) := by decide +kernel
theorem d_M_canBe_51 : decode b_M_canBe 51 = .ok (.iconst 0, 1) := by decide +kernel
theorem d_M_canBe_52 : decode b_M_canBe 52 = .ok (.ireturn, 1) := by decide +kernel
theorem d_M_canBe_53 : decode b_M_canBe 53 = .ok (.iload_n 2, 1) := by decide +kernel
theorem d_M_canBe_54 : decode b_M_canBe 54 = .ok (.sipush 3072, 3) := by decide +kernel
theorem d_M_canBe_57 : decode b_M_canBe 57 = .ok (.if_icmp .ge 17, 3) := by decide +kernel
theorem d_M_canBe_60 : decode b_M_canBe 60 = .ok (.iload_n 2, 1) := by decide +kernel
theorem d_M_canBe_61 : decode b_M_canBe 61 = .ok (.aload_n 0, 1) := by decide +kernel
theorem d_M_canBe_62 : decode b_M_canBe 62 = .ok (.getfield 20, 3) := by decide +kernel
theorem d_M_canBe_65 : decode b_M_canBe 65 = .ok (.iload_n 3, 1) := by decide +kernel
theorem d_M_canBe_66 : decode b_M_canBe 66 = .ok (.iaload, 1) := by decide +kernel
theorem d_M_canBe_67 : decode b_M_canBe 67 = .ok (.iadd, 1) := by decide +kernel
theorem d_M_canBe_68 : decode b_M_canBe 68 = .ok (.sipush 3072, 3) := by decide +kernel
theorem d_M_canBe_71 : decode b_M_canBe 71 = .ok (.if_icmp .gt 7, 3) := by decide +kernel
theorem d_M_canBe_74 : decode b_M_canBe 74 = .ok (.iconst 1, 1) := by decide +kernel
theorem d_M_canBe_75 : decode b_M_canBe 75 = .ok (.goto 4, 3) := by decide +kernel
theorem d_M_canBe_78 : decode b_M_canBe 78 = .ok (.iconst 0, 1) := by decide +kernel
theorem d_M_canBe_79 : decode b_M_canBe 79 = .ok (.ireturn, 1) := by decide +kernel
theorem d_M_waits_0 : decode b_M_waits 0 = .ok (.iload_n 1, 1) := by decide +kernel
theorem d_M_waits_1 : decode b_M_waits 1 = .ok (.aload_n 0, 1) := by decide +kernel
theorem d_M_waits_2 : decode b_M_waits 2 = .ok (.getfield 63, 3) := by decide +kernel
theorem d_M_waits_5 : decode b_M_waits 5 = .ok (.if_icmp .lt 15, 3) := by decide +kernel
theorem d_M_waits_8 : decode b_M_waits 8 = .ok (.iload_n 1, 1) := by decide +kernel
theorem d_M_waits_9 : decode b_M_waits 9 = .ok (.aload_n 0, 1) := by decide +kernel
theorem d_M_waits_10 : decode b_M_waits 10 = .ok (.getfield 60, 3) := by decide +kernel
theorem d_M_waits_13 : decode b_M_waits 13 = .ok (.if_icmp .ge 7, 3) := by decide +kernel
theorem d_M_waits_16 : decode b_M_waits 16 = .ok (.iconst 1, 1) := by decide +kernel
theorem d_M_waits_17 : decode b_M_waits 17 = .ok (.goto 4, 3) := by decide +kernel
theorem d_M_waits_20 : decode b_M_waits 20 = .ok (.iconst 0, 1) := by decide +kernel
theorem d_M_waits_21 : decode b_M_waits 21 = .ok (.ireturn, 1) := by decide +kernel
theorem d_M_isDone_0 : decode b_M_isDone 0 = .ok (.aload_n 0, 1) := by decide +kernel
theorem d_M_isDone_1 : decode b_M_isDone 1 = .ok (.getfield 17, 3) := by decide +kernel
theorem d_M_isDone_4 : decode b_M_isDone 4 = .ok (.iload_n 1, 1) := by decide +kernel
theorem d_M_isDone_5 : decode b_M_isDone 5 = .ok (.bipush 127, 2) := by decide +kernel
theorem d_M_isDone_7 : decode b_M_isDone 7 = .ok (.iand, 1) := by decide +kernel
theorem d_M_isDone_8 : decode b_M_isDone 8 = .ok (.iaload, 1) := by decide +kernel
theorem d_M_isDone_9 : decode b_M_isDone 9 = .ok (.ifCond .ne 19, 3) := by decide +kernel
theorem d_M_isDone_12 : decode b_M_isDone 12 = .ok (.aload_n 0, 1) := by decide +kernel
theorem d_M_isDone_13 : decode b_M_isDone 13 = .ok (.getfield 38, 3) := by decide +kernel
theorem d_M_isDone_16 : decode b_M_isDone 16 = .ok (.iload_n 1, 1) := by decide +kernel
theorem d_M_isDone_17 : decode b_M_isDone 17 = .ok (.bipush 127, 2) := by decide +kernel
theorem d_M_isDone_19 : decode b_M_isDone 19 = .ok (.iand, 1) := by decide +kernel
theorem d_M_isDone_20 : decode b_M_isDone 20 = .ok (.baload, 1) := by decide +kernel
theorem d_M_isDone_21 : decode b_M_isDone 21 = .ok (.ifCond .eq 7, 3) := by decide +kernel
theorem d_M_isDone_24 : decode b_M_isDone 24 = .ok (.iconst 1, 1) := by decide +kernel
theorem d_M_isDone_25 : decode b_M_isDone 25 = .ok (.goto 4, 3) := by decide +kernel
theorem d_M_isDone_28 : decode b_M_isDone 28 = .ok (.iconst 0, 1) := by decide +kernel
theorem d_M_isDone_29 : decode b_M_isDone 29 = .ok (.ireturn, 1) := by decide +kernel
theorem d_M_tookOlder_0 : decode b_M_tookOlder 0 = .ok (.iload_n 1, 1) := by decide +kernel
theorem d_M_tookOlder_1 : decode b_M_tookOlder 1 = .ok (.bipush 127, 2) := by decide +kernel
theorem d_M_tookOlder_3 : decode b_M_tookOlder 3 = .ok (.iand, 1) := by decide +kernel
theorem d_M_tookOlder_4 : decode b_M_tookOlder 4 = .ok (.istore_n 3, 1) := by decide +kernel
theorem d_M_tookOlder_5 : decode b_M_tookOlder 5 = .ok (.iconst 0, 1) := by decide +kernel
theorem d_M_tookOlder_6 : decode b_M_tookOlder 6 = .ok (.istore 4, 2) := by decide +kernel
theorem d_M_tookOlder_8 : decode b_M_tookOlder 8 = .ok (.iconst 0, 1) := by decide +kernel
theorem d_M_tookOlder_9 : decode b_M_tookOlder 9 = .ok (.istore 5, 2) := by decide +kernel
theorem d_M_tookOlder_11 : decode b_M_tookOlder 11 = .ok (.iload 5, 2) := by decide +kernel
theorem d_M_tookOlder_13 : decode b_M_tookOlder 13 = .ok (.aload_n 0, 1) := by decide +kernel
theorem d_M_tookOlder_14 : decode b_M_tookOlder 14 = .ok (.getfield 20, 3) := by decide +kernel
theorem d_M_tookOlder_17 : decode b_M_tookOlder 17 = .ok (.iload_n 3, 1) := by decide +kernel
theorem d_M_tookOlder_18 : decode b_M_tookOlder 18 = .ok (.iaload, 1) := by decide +kernel
theorem d_M_tookOlder_19 : decode b_M_tookOlder 19 = .ok (.if_icmp .ge 56, 3) := by decide +kernel
theorem d_M_tookOlder_22 : decode b_M_tookOlder 22 = .ok (.iload 4, 2) := by decide +kernel
theorem d_M_tookOlder_24 : decode b_M_tookOlder 24 = .ok (.ifCond .ne 38, 3) := by decide +kernel
theorem d_M_tookOlder_27 : decode b_M_tookOlder 27 = .ok (.aload_n 0, 1) := by decide +kernel
theorem d_M_tookOlder_28 : decode b_M_tookOlder 28 = .ok (.iload_n 2, 1) := by decide +kernel
theorem d_M_tookOlder_29 : decode b_M_tookOlder 29 = .ok (.bipush 127, 2) := by decide +kernel
theorem d_M_tookOlder_31 : decode b_M_tookOlder 31 = .ok (.iand, 1) := by decide +kernel
theorem d_M_tookOlder_32 : decode b_M_tookOlder 32 = .ok (.aload_n 0, 1) := by decide +kernel
theorem d_M_tookOlder_33 : decode b_M_tookOlder 33 = .ok (.getfield 26, 3) := by decide +kernel
theorem d_M_tookOlder_36 : decode b_M_tookOlder 36 = .ok (.iload_n 3, 1) := by decide +kernel
theorem d_M_tookOlder_37 : decode b_M_tookOlder 37 = .ok (.iaload, 1) := by decide +kernel
theorem d_M_tookOlder_38 : decode b_M_tookOlder 38 = .ok (.iload 5, 2) := by decide +kernel
theorem d_M_tookOlder_40 : decode b_M_tookOlder 40 = .ok (.iadd, 1) := by decide +kernel
theorem d_M_tookOlder_41 : decode b_M_tookOlder 41 = .ok (.invokevirtual 78, 3) := by decide +kernel
theorem d_M_tookOlder_44 : decode b_M_tookOlder 44 = .ok (.ifCond .eq 22, 3) := by decide +kernel
theorem d_M_tookOlder_47 : decode b_M_tookOlder 47 = .ok (.aload_n 0, 1) := by decide +kernel
theorem d_M_tookOlder_48 : decode b_M_tookOlder 48 = .ok (.getfield 41, 3) := by decide +kernel
theorem d_M_tookOlder_51 : decode b_M_tookOlder 51 = .ok (.iconst 4, 1) := by decide +kernel
theorem d_M_tookOlder_52 : decode b_M_tookOlder 52 = .ok (.iload_n 3, 1) := by decide +kernel
theorem d_M_tookOlder_53 : decode b_M_tookOlder 53 = .ok (.imul, 1) := by decide +kernel
theorem d_M_tookOlder_54 : decode b_M_tookOlder 54 = .ok (.iload 5, 2) := by decide +kernel
theorem d_M_tookOlder_56 : decode b_M_tookOlder 56 = .ok (.iadd, 1) := by decide +kernel
theorem d_M_tookOlder_57 : decode b_M_tookOlder 57 = .ok (.iaload, 1) := by decide +kernel
theorem d_M_tookOlder_58 : decode b_M_tookOlder 58 = .ok (.iload_n 2, 1) := by decide +kernel
theorem d_M_tookOlder_59 : decode b_M_tookOlder 59 = .ok (.if_icmp .ge 7, 3) := by decide +kernel
theorem d_M_tookOlder_62 : decode b_M_tookOlder 62 = .ok (.iconst 1, 1) := by decide +kernel
theorem d_M_tookOlder_63 : decode b_M_tookOlder 63 = .ok (.goto 4, 3) := by decide +kernel
theorem d_M_tookOlder_66 : decode b_M_tookOlder 66 = .ok (.iconst 0, 1) := by decide +kernel
theorem d_M_tookOlder_67 : decode b_M_tookOlder 67 = .ok (.istore 4, 2) := by decide +kernel
theorem d_M_tookOlder_69 : decode b_M_tookOlder 69 = .ok (.iinc 5 1, 3) := by decide +kernel
theorem d_M_tookOlder_72 : decode b_M_tookOlder 72 = .ok (.goto (-61), 3) := by decide +kernel
theorem d_M_tookOlder_75 : decode b_M_tookOlder 75 = .ok (.iload 4, 2) := by decide +kernel
theorem d_M_tookOlder_77 : decode b_M_tookOlder 77 = .ok (.ireturn, 1) := by decide +kernel
theorem d_M_has_0 : decode b_M_has 0 = .ok (.aload_n 0, 1) := by decide +kernel
theorem d_M_has_1 : decode b_M_has 1 = .ok (.getfield 26, 3) := by decide +kernel
theorem d_M_has_4 : decode b_M_has 4 = .ok (.iload_n 1, 1) := by decide +kernel
theorem d_M_has_5 : decode b_M_has 5 = .ok (.iaload, 1) := by decide +kernel
theorem d_M_has_6 : decode b_M_has 6 = .ok (.ifCond .lt 26, 3) := by decide +kernel
theorem d_M_has_9 : decode b_M_has 9 = .ok (.aload_n 0, 1) := by decide +kernel
theorem d_M_has_10 : decode b_M_has 10 = .ok (.getfield 26, 3) := by decide +kernel
theorem d_M_has_13 : decode b_M_has 13 = .ok (.iload_n 1, 1) := by decide +kernel
theorem d_M_has_14 : decode b_M_has 14 = .ok (.iaload, 1) := by decide +kernel
theorem d_M_has_15 : decode b_M_has 15 = .ok (.aload_n 0, 1) := by decide +kernel
theorem d_M_has_16 : decode b_M_has 16 = .ok (.getfield 20, 3) := by decide +kernel
theorem d_M_has_19 : decode b_M_has 19 = .ok (.iload_n 1, 1) := by decide +kernel
theorem d_M_has_20 : decode b_M_has 20 = .ok (.iaload, 1) := by decide +kernel
theorem d_M_has_21 : decode b_M_has 21 = .ok (.iload_n 2, 1) := by decide +kernel
theorem d_M_has_22 : decode b_M_has 22 = .ok (.invokestatic 74, 3) := by decide +kernel
theorem d_M_has_25 : decode b_M_has 25 = .ok (.ifCond .eq 7, 3) := by decide +kernel
theorem d_M_has_28 : decode b_M_has 28 = .ok (.iconst 1, 1) := by decide +kernel
theorem d_M_has_29 : decode b_M_has 29 = .ok (.goto 4, 3) := by decide +kernel
theorem d_M_has_32 : decode b_M_has 32 = .ok (.iconst 0, 1) := by decide +kernel
theorem d_M_has_33 : decode b_M_has 33 = .ok (.ireturn, 1) := by decide +kernel
theorem d_M_covers_0 : decode b_M_covers 0 = .ok (.iload_n 2, 1) := by decide +kernel
theorem d_M_covers_1 : decode b_M_covers 1 = .ok (.iload_n 0, 1) := by decide +kernel
theorem d_M_covers_2 : decode b_M_covers 2 = .ok (.if_icmp .lt 14, 3) := by decide +kernel
theorem d_M_covers_5 : decode b_M_covers 5 = .ok (.iload_n 2, 1) := by decide +kernel
theorem d_M_covers_6 : decode b_M_covers 6 = .ok (.iload_n 0, 1) := by decide +kernel
theorem d_M_covers_7 : decode b_M_covers 7 = .ok (.iload_n 1, 1) := by decide +kernel
theorem d_M_covers_8 : decode b_M_covers 8 = .ok (.iadd, 1) := by decide +kernel
theorem d_M_covers_9 : decode b_M_covers 9 = .ok (.if_icmp .ge 7, 3) := by decide +kernel
theorem d_M_covers_12 : decode b_M_covers 12 = .ok (.iconst 1, 1) := by decide +kernel
theorem d_M_covers_13 : decode b_M_covers 13 = .ok (.goto 4, 3) := by decide +kernel
theorem d_M_covers_16 : decode b_M_covers 16 = .ok (.iconst 0, 1) := by decide +kernel
theorem d_M_covers_17 : decode b_M_covers 17 = .ok (.ireturn, 1) := by decide +kernel
theorem d_M_undo_0 : decode b_M_undo 0 = .ok (.iconst 0, 1) := by decide +kernel
theorem d_M_undo_1 : decode b_M_undo 1 = .ok (.istore_n 2, 1) := by decide +kernel
theorem d_M_undo_2 : decode b_M_undo 2 = .ok (.iload_n 1, 1) := by decide +kernel
theorem d_M_undo_3 : decode b_M_undo 3 = .ok (.istore_n 3, 1) := by decide +kernel
theorem d_M_undo_4 : decode b_M_undo 4 = .ok (.iload_n 3, 1) := by decide +kernel
theorem d_M_undo_5 : decode b_M_undo 5 = .ok (.aload_n 0, 1) := by decide +kernel
theorem d_M_undo_6 : decode b_M_undo 6 = .ok (.getfield 60, 3) := by decide +kernel
theorem d_M_undo_9 : decode b_M_undo 9 = .ok (.if_icmp .ge 33, 3) := by decide +kernel
theorem d_M_undo_12 : decode b_M_undo 12 = .ok (.aload_n 0, 1) := by decide +kernel
theorem d_M_undo_13 : decode b_M_undo 13 = .ok (.iload_n 3, 1) := by decide +kernel
theorem d_M_undo_14 : decode b_M_undo 14 = .ok (.invokevirtual 94, 3) := by decide +kernel
theorem d_M_undo_17 : decode b_M_undo 17 = .ok (.ifCond .ne 6, 3) := by decide +kernel
theorem d_M_undo_20 : decode b_M_undo 20 = .ok (.goto 16, 3) := by decide +kernel
theorem d_M_undo_23 : decode b_M_undo 23 = .ok (.aload_n 0, 1) := by decide +kernel
theorem d_M_undo_24 : decode b_M_undo 24 = .ok (.getfield 38, 3) := by decide +kernel
theorem d_M_undo_27 : decode b_M_undo 27 = .ok (.iload_n 3, 1) := by decide +kernel
theorem d_M_undo_28 : decode b_M_undo 28 = .ok (.bipush 127, 2) := by decide +kernel
theorem d_M_undo_30 : decode b_M_undo 30 = .ok (.iand, 1) := by decide +kernel
theorem d_M_undo_31 : decode b_M_undo 31 = .ok (.iconst 0, 1) := by decide +kernel
theorem d_M_undo_32 : decode b_M_undo 32 = .ok (.bastore, 1) := by decide +kernel
theorem d_M_undo_33 : decode b_M_undo 33 = .ok (.iinc 2 1, 3) := by decide +kernel
theorem d_M_undo_36 : decode b_M_undo 36 = .ok (.iinc 3 1, 3) := by decide +kernel
theorem d_M_undo_39 : decode b_M_undo 39 = .ok (.goto (-35), 3) := by decide +kernel
theorem d_M_undo_42 : decode b_M_undo 42 = .ok (.aload_n 0, 1) := by decide +kernel
theorem d_M_undo_43 : decode b_M_undo 43 = .ok (.dup, 1) := by decide +kernel
theorem d_M_undo_44 : decode b_M_undo 44 = .ok (.getfield 104, 3) := by decide +kernel
theorem d_M_undo_47 : decode b_M_undo 47 = .ok (.iconst 1, 1) := by decide +kernel
theorem d_M_undo_48 : decode b_M_undo 48 = .ok (.iadd, 1) := by decide +kernel
theorem d_M_undo_49 : decode b_M_undo 49 = .ok (.putfield 104, 3) := by decide +kernel
theorem d_M_undo_52 : decode b_M_undo 52 = .ok (.aload_n 0, 1) := by decide +kernel
theorem d_M_undo_53 : decode b_M_undo 53 = .ok (.dup, 1) := by decide +kernel
theorem d_M_undo_54 : decode b_M_undo 54 = .ok (.getfield 107, 3) := by decide +kernel
theorem d_M_undo_57 : decode b_M_undo 57 = .ok (.iload_n 2, 1) := by decide +kernel
theorem d_M_undo_58 : decode b_M_undo 58 = .ok (.iadd, 1) := by decide +kernel
theorem d_M_undo_59 : decode b_M_undo 59 = .ok (.putfield 107, 3) := by decide +kernel
theorem d_M_undo_62 : decode b_M_undo 62 = .ok (.iload_n 2, 1) := by decide +kernel
theorem d_M_undo_63 : decode b_M_undo 63 = .ok (.ireturn, 1) := by decide +kernel
theorem d_M_number_0 : decode b_M_number 0 = .ok (.iload_n 1, 1) := by decide +kernel
theorem d_M_number_1 : decode b_M_number 1 = .ok (.bipush 127, 2) := by decide +kernel
theorem d_M_number_3 : decode b_M_number 3 = .ok (.iand, 1) := by decide +kernel
theorem d_M_number_4 : decode b_M_number 4 = .ok (.istore_n 3, 1) := by decide +kernel
theorem d_M_number_5 : decode b_M_number 5 = .ok (.aload_n 0, 1) := by decide +kernel
theorem d_M_number_6 : decode b_M_number 6 = .ok (.iload_n 1, 1) := by decide +kernel
theorem d_M_number_7 : decode b_M_number 7 = .ok (.invokevirtual 84, 3) := by decide +kernel
theorem d_M_number_10 : decode b_M_number 10 = .ok (.ifCond .eq 36, 3) := by decide +kernel
theorem d_M_number_13 : decode b_M_number 13 = .ok (.aload_n 0, 1) := by decide +kernel
theorem d_M_number_14 : decode b_M_number 14 = .ok (.getfield 17, 3) := by decide +kernel
theorem d_M_number_17 : decode b_M_number 17 = .ok (.iload_n 3, 1) := by decide +kernel
theorem d_M_number_18 : decode b_M_number 18 = .ok (.iaload, 1) := by decide +kernel
theorem d_M_number_19 : decode b_M_number 19 = .ok (.iconst 1, 1) := by decide +kernel
theorem d_M_number_20 : decode b_M_number 20 = .ok (.if_icmp .eq 13, 3) := by decide +kernel
theorem d_M_number_23 : decode b_M_number 23 = .ok (.aload_n 0, 1) := by decide +kernel
theorem d_M_number_24 : decode b_M_number 24 = .ok (.getfield 17, 3) := by decide +kernel
theorem d_M_number_27 : decode b_M_number 27 = .ok (.iload_n 3, 1) := by decide +kernel
theorem d_M_number_28 : decode b_M_number 28 = .ok (.iaload, 1) := by decide +kernel
theorem d_M_number_29 : decode b_M_number 29 = .ok (.iconst 3, 1) := by decide +kernel
theorem d_M_number_30 : decode b_M_number 30 = .ok (.if_icmp .ne 16, 3) := by decide +kernel
theorem d_M_number_33 : decode b_M_number 33 = .ok (.aload_n 0, 1) := by decide +kernel
theorem d_M_number_34 : decode b_M_number 34 = .ok (.getfield 35, 3) := by decide +kernel
theorem d_M_number_37 : decode b_M_number 37 = .ok (.iload_n 3, 1) := by decide +kernel
theorem d_M_number_38 : decode b_M_number 38 = .ok (.baload, 1) := by decide +kernel
theorem d_M_number_39 : decode b_M_number 39 = .ok (.ifCond .ne 7, 3) := by decide +kernel
theorem d_M_number_42 : decode b_M_number 42 = .ok (.iconst 1, 1) := by decide +kernel
theorem d_M_number_43 : decode b_M_number 43 = .ok (.goto 4, 3) := by decide +kernel
theorem d_M_number_46 : decode b_M_number 46 = .ok (.iconst 0, 1) := by decide +kernel
theorem d_M_number_47 : decode b_M_number 47 = .ok (.istore 4, 2) := by decide +kernel
theorem d_M_number_49 : decode b_M_number 49 = .ok (.aload_n 0, 1) := by decide +kernel
theorem d_M_number_50 : decode b_M_number 50 = .ok (.aload_n 0, 1) := by decide +kernel
theorem d_M_number_51 : decode b_M_number 51 = .ok (.iload_n 1, 1) := by decide +kernel
theorem d_M_number_52 : decode b_M_number 52 = .ok (.invokevirtual 88, 3) := by decide +kernel
theorem d_M_number_55 : decode b_M_number 55 = .ok (.ifCond .ne 7, 3) := by decide +kernel
theorem d_M_number_58 : decode b_M_number 58 = .ok (.iconst 1, 1) := by decide +kernel
theorem d_M_number_59 : decode b_M_number 59 = .ok (.goto 13, 3) := by decide +kernel
theorem d_M_number_62 : decode b_M_number 62 = .ok (.iload 4, 2) := by decide +kernel
theorem d_M_number_64 : decode b_M_number 64 = .ok (.ifCond .ne 7, 3) := by decide +kernel
theorem d_M_number_67 : decode b_M_number 67 = .ok (.iconst 2, 1) := by decide +kernel
theorem d_M_number_68 : decode b_M_number 68 = .ok (.goto 4, 3) := by decide +kernel
theorem d_M_number_71 : decode b_M_number 71 = .ok (.iconst 0, 1) := by decide +kernel
theorem d_M_number_72 : decode b_M_number 72 = .ok (.putfield 56, 3) := by decide +kernel
theorem d_M_number_75 : decode b_M_number 75 = .ok (.aload_n 0, 1) := by decide +kernel
theorem d_M_number_76 : decode b_M_number 76 = .ok (.getfield 56, 3) := by decide +kernel
theorem d_M_number_79 : decode b_M_number 79 = .ok (.ifCond .le 5, 3) := by decide +kernel
theorem d_M_number_82 : decode b_M_number 82 = .ok (.iconst 0, 1) := by decide +kernel
theorem d_M_number_83 : decode b_M_number 83 = .ok (.ireturn, 1) := by decide +kernel
theorem d_M_number_84 : decode b_M_number 84 = .ok (.aload_n 0, 1) := by decide +kernel
theorem d_M_number_85 : decode b_M_number 85 = .ok (.getfield 29, 3) := by decide +kernel
theorem d_M_number_88 : decode b_M_number 88 = .ok (.iload_n 3, 1) := by decide +kernel
theorem d_M_number_89 : decode b_M_number 89 = .ok (.iload_n 2, 1) := by decide +kernel
theorem d_M_number_90 : decode b_M_number 90 = .ok (.iastore, 1) := by decide +kernel
theorem d_M_number_91 : decode b_M_number 91 = .ok (.aload_n 0, 1) := by decide +kernel
theorem d_M_number_92 : decode b_M_number 92 = .ok (.getfield 35, 3) := by decide +kernel
theorem d_M_number_95 : decode b_M_number 95 = .ok (.iload_n 3, 1) := by decide +kernel
theorem d_M_number_96 : decode b_M_number 96 = .ok (.iconst 1, 1) := by decide +kernel
theorem d_M_number_97 : decode b_M_number 97 = .ok (.bastore, 1) := by decide +kernel
theorem d_M_number_98 : decode b_M_number 98 = .ok (.aload_n 0, 1) := by decide +kernel
theorem d_M_number_99 : decode b_M_number 99 = .ok (.getfield 20, 3) := by decide +kernel
theorem d_M_number_102 : decode b_M_number 102 = .ok (.iload_n 3, 1) := by decide +kernel
theorem d_M_number_103 : decode b_M_number 103 = .ok (.iaload, 1) := by decide +kernel
theorem d_M_number_104 : decode b_M_number 104 = .ok (.ireturn, 1) := by decide +kernel
theorem d_M_tried_0 : decode b_M_tried 0 = .ok (.iload_n 1, 1) := by decide +kernel
theorem d_M_tried_1 : decode b_M_tried 1 = .ok (.bipush 127, 2) := by decide +kernel
theorem d_M_tried_3 : decode b_M_tried 3 = .ok (.iand, 1) := by decide +kernel
theorem d_M_tried_4 : decode b_M_tried 4 = .ok (.istore_n 2, 1) := by decide +kernel
theorem d_M_tried_5 : decode b_M_tried 5 = .ok (.aload_n 0, 1) := by decide +kernel
theorem d_M_tried_6 : decode b_M_tried 6 = .ok (.iload_n 1, 1) := by decide +kernel
theorem d_M_tried_7 : decode b_M_tried 7 = .ok (.invokevirtual 84, 3) := by decide +kernel
theorem d_M_tried_10 : decode b_M_tried 10 = .ok (.ifCond .eq 34, 3) := by decide +kernel
theorem d_M_tried_13 : decode b_M_tried 13 = .ok (.aload_n 0, 1) := by decide +kernel
theorem d_M_tried_14 : decode b_M_tried 14 = .ok (.getfield 17, 3) := by decide +kernel
theorem d_M_tried_17 : decode b_M_tried 17 = .ok (.iload_n 2, 1) := by decide +kernel
theorem d_M_tried_18 : decode b_M_tried 18 = .ok (.iaload, 1) := by decide +kernel
theorem d_M_tried_19 : decode b_M_tried 19 = .ok (.ifCond .ne 25, 3) := by decide +kernel
theorem d_M_tried_22 : decode b_M_tried 22 = .ok (.aload_n 0, 1) := by decide +kernel
theorem d_M_tried_23 : decode b_M_tried 23 = .ok (.getfield 26, 3) := by decide +kernel
theorem d_M_tried_26 : decode b_M_tried 26 = .ok (.iload_n 2, 1) := by decide +kernel
theorem d_M_tried_27 : decode b_M_tried 27 = .ok (.iaload, 1) := by decide +kernel
theorem d_M_tried_28 : decode b_M_tried 28 = .ok (.ifCond .lt 16, 3) := by decide +kernel
theorem d_M_tried_31 : decode b_M_tried 31 = .ok (.aload_n 0, 1) := by decide +kernel
theorem d_M_tried_32 : decode b_M_tried 32 = .ok (.getfield 38, 3) := by decide +kernel
theorem d_M_tried_35 : decode b_M_tried 35 = .ok (.iload_n 2, 1) := by decide +kernel
theorem d_M_tried_36 : decode b_M_tried 36 = .ok (.baload, 1) := by decide +kernel
theorem d_M_tried_37 : decode b_M_tried 37 = .ok (.ifCond .ne 7, 3) := by decide +kernel
theorem d_M_tried_40 : decode b_M_tried 40 = .ok (.iconst 1, 1) := by decide +kernel
theorem d_M_tried_41 : decode b_M_tried 41 = .ok (.goto 4, 3) := by decide +kernel
theorem d_M_tried_44 : decode b_M_tried 44 = .ok (.iconst 0, 1) := by decide +kernel
theorem d_M_tried_45 : decode b_M_tried 45 = .ok (.istore_n 3, 1) := by decide +kernel
theorem d_M_tried_46 : decode b_M_tried 46 = .ok (.aload_n 0, 1) := by decide +kernel
theorem d_M_tried_47 : decode b_M_tried 47 = .ok (.aload_n 0, 1) := by decide +kernel
theorem d_M_tried_48 : decode b_M_tried 48 = .ok (.iload_n 1, 1) := by decide +kernel
theorem d_M_tried_49 : decode b_M_tried 49 = .ok (.invokevirtual 88, 3) := by decide +kernel
theorem d_M_tried_52 : decode b_M_tried 52 = .ok (.ifCond .ne 7, 3) := by decide +kernel
theorem d_M_tried_55 : decode b_M_tried 55 = .ok (.iconst 1, 1) := by decide +kernel
theorem d_M_tried_56 : decode b_M_tried 56 = .ok (.goto 12, 3) := by decide +kernel
theorem d_M_tried_59 : decode b_M_tried 59 = .ok (.iload_n 3, 1) := by decide +kernel
theorem d_M_tried_60 : decode b_M_tried 60 = .ok (.ifCond .ne 7, 3) := by decide +kernel
theorem d_M_tried_63 : decode b_M_tried 63 = .ok (.iconst 2, 1) := by decide +kernel
theorem d_M_tried_64 : decode b_M_tried 64 = .ok (.goto 4, 3) := by decide +kernel
theorem d_M_tried_67 : decode b_M_tried 67 = .ok (.iconst 0, 1) := by decide +kernel
theorem d_M_tried_68 : decode b_M_tried 68 = .ok (.putfield 56, 3) := by decide +kernel
theorem d_M_tried_71 : decode b_M_tried 71 = .ok (.aload_n 0, 1) := by decide +kernel
theorem d_M_tried_72 : decode b_M_tried 72 = .ok (.getfield 56, 3) := by decide +kernel
theorem d_M_tried_75 : decode b_M_tried 75 = .ok (.ifCond .le 5, 3) := by decide +kernel
theorem d_M_tried_78 : decode b_M_tried 78 = .ok (.iconst 0, 1) := by decide +kernel
theorem d_M_tried_79 : decode b_M_tried 79 = .ok (.ireturn, 1) := by decide +kernel
theorem d_M_tried_80 : decode b_M_tried 80 = .ok (.aload_n 0, 1) := by decide +kernel
theorem d_M_tried_81 : decode b_M_tried 81 = .ok (.iload_n 1, 1) := by decide +kernel
theorem d_M_tried_82 : decode b_M_tried 82 = .ok (.invokevirtual 110, 3) := by decide +kernel
theorem d_M_tried_85 : decode b_M_tried 85 = .ok (.ifCond .eq 5, 3) := by decide +kernel
theorem d_M_tried_88 : decode b_M_tried 88 = .ok (.iconst 2, 1) := by decide +kernel
theorem d_M_tried_89 : decode b_M_tried 89 = .ok (.ireturn, 1) := by decide +kernel
theorem d_M_tried_90 : decode b_M_tried 90 = .ok (.aload_n 0, 1) := by decide +kernel
theorem d_M_tried_91 : decode b_M_tried 91 = .ok (.getfield 13, 3) := by decide +kernel
theorem d_M_tried_94 : decode b_M_tried 94 = .ok (.aload_n 0, 1) := by decide +kernel
theorem d_M_tried_95 : decode b_M_tried 95 = .ok (.getfield 23, 3) := by decide +kernel
theorem d_M_tried_98 : decode b_M_tried 98 = .ok (.iload_n 2, 1) := by decide +kernel
theorem d_M_tried_99 : decode b_M_tried 99 = .ok (.iaload, 1) := by decide +kernel
theorem d_M_tried_100 : decode b_M_tried 100 = .ok (.baload, 1) := by decide +kernel
theorem d_M_tried_101 : decode b_M_tried 101 = .ok (.ifCond .eq 13, 3) := by decide +kernel
theorem d_M_tried_104 : decode b_M_tried 104 = .ok (.aload_n 0, 1) := by decide +kernel
theorem d_M_tried_105 : decode b_M_tried 105 = .ok (.iload_n 1, 1) := by decide +kernel
theorem d_M_tried_106 : decode b_M_tried 106 = .ok (.invokevirtual 113, 3) := by decide +kernel
theorem d_M_tried_109 : decode b_M_tried 109 = .ok (.ifCond .eq 5, 3) := by decide +kernel
theorem d_M_tried_112 : decode b_M_tried 112 = .ok (.iconst 3, 1) := by decide +kernel
theorem d_M_tried_113 : decode b_M_tried 113 = .ok (.ireturn, 1) := by decide +kernel
theorem d_M_tried_114 : decode b_M_tried 114 = .ok (.iconst 0, 1) := by decide +kernel
theorem d_M_tried_115 : decode b_M_tried 115 = .ok (.istore 4, 2) := by decide +kernel
theorem d_M_tried_117 : decode b_M_tried 117 = .ok (.iload 4, 2) := by decide +kernel
theorem d_M_tried_119 : decode b_M_tried 119 = .ok (.aload_n 0, 1) := by decide +kernel
theorem d_M_tried_120 : decode b_M_tried 120 = .ok (.getfield 20, 3) := by decide +kernel
theorem d_M_tried_123 : decode b_M_tried 123 = .ok (.iload_n 2, 1) := by decide +kernel
theorem d_M_tried_124 : decode b_M_tried 124 = .ok (.iaload, 1) := by decide +kernel
theorem d_M_tried_125 : decode b_M_tried 125 = .ok (.if_icmp .ge 45, 3) := by decide +kernel
theorem d_M_tried_128 : decode b_M_tried 128 = .ok (.aload_n 0, 1) := by decide +kernel
theorem d_M_tried_129 : decode b_M_tried 129 = .ok (.iload_n 1, 1) := by decide +kernel
theorem d_M_tried_130 : decode b_M_tried 130 = .ok (.aload_n 0, 1) := by decide +kernel
theorem d_M_tried_131 : decode b_M_tried 131 = .ok (.getfield 26, 3) := by decide +kernel
theorem d_M_tried_134 : decode b_M_tried 134 = .ok (.iload_n 2, 1) := by decide +kernel
theorem d_M_tried_135 : decode b_M_tried 135 = .ok (.iaload, 1) := by decide +kernel
