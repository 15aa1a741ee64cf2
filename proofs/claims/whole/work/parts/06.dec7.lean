theorem d_M_source_67 : decode b_M_source 67 = .ok (.iconst 0, 1) := by decide +kernel
theorem d_M_source_68 : decode b_M_source 68 = .ok (.ireturn, 1) := by decide +kernel
theorem d_M_source_69 : decode b_M_source 69 = .ok (.aload_n 0, 1) := by decide +kernel
theorem d_M_source_70 : decode b_M_source 70 = .ok (.getfield 41, 3) := by decide +kernel
theorem d_M_source_73 : decode b_M_source 73 = .ok (.iconst 4, 1) := by decide +kernel
theorem d_M_source_74 : decode b_M_source 74 = .ok (.iload_n 3, 1) := by decide +kernel
theorem d_M_source_75 : decode b_M_source 75 = .ok (.imul, 1) := by decide +kernel
theorem d_M_source_76 : decode b_M_source 76 = .ok (.iload_n 2, 1) := by decide +kernel
theorem d_M_source_77 : decode b_M_source 77 = .ok (.iadd, 1) := by decide +kernel
theorem d_M_source_78 : decode b_M_source 78 = .ok (.iaload, 1) := by decide +kernel
theorem d_M_source_79 : decode b_M_source 79 = .ok (.ifCond .lt 16, 3) := by decide +kernel
theorem d_M_source_82 : decode b_M_source 82 = .ok (.aload_n 0, 1) := by decide +kernel
theorem d_M_source_83 : decode b_M_source 83 = .ok (.getfield 41, 3) := by decide +kernel
theorem d_M_source_86 : decode b_M_source 86 = .ok (.iconst 4, 1) := by decide +kernel
theorem d_M_source_87 : decode b_M_source 87 = .ok (.iload_n 3, 1) := by decide +kernel
theorem d_M_source_88 : decode b_M_source 88 = .ok (.imul, 1) := by decide +kernel
theorem d_M_source_89 : decode b_M_source 89 = .ok (.iload_n 2, 1) := by decide +kernel
theorem d_M_source_90 : decode b_M_source 90 = .ok (.iadd, 1) := by decide +kernel
theorem d_M_source_91 : decode b_M_source 91 = .ok (.iaload, 1) := by decide +kernel
theorem d_M_source_92 : decode b_M_source 92 = .ok (.goto 4, 3) := by decide +kernel
theorem d_M_source_95 : decode b_M_source 95 = .ok (.iconst (-1), 1) := by decide +kernel
theorem d_M_source_96 : decode b_M_source 96 = .ok (.ireturn, 1) := by decide +kernel
theorem d_M_leave_0 : decode b_M_leave 0 = .ok (.aload_n 0, 1) := by decide +kernel
theorem d_M_leave_1 : decode b_M_leave 1 = .ok (.iconst 0, 1) := by decide +kernel
theorem d_M_leave_2 : decode b_M_leave 2 = .ok (.putfield 56, 3) := by decide +kernel
theorem d_M_leave_5 : decode b_M_leave 5 = .ok (.aload_n 0, 1) := by decide +kernel
theorem d_M_leave_6 : decode b_M_leave 6 = .ok (.getfield 63, 3) := by decide +kernel
theorem d_M_leave_9 : decode b_M_leave 9 = .ok (.aload_n 0, 1) := by decide +kernel
theorem d_M_leave_10 : decode b_M_leave 10 = .ok (.getfield 60, 3) := by decide +kernel
theorem d_M_leave_13 : decode b_M_leave 13 = .ok (.if_icmp .eq 10, 3) := by decide +kernel
theorem d_M_leave_16 : decode b_M_leave 16 = .ok (.aload_n 0, 1) := by decide +kernel
theorem d_M_leave_17 : decode b_M_leave 17 = .ok (.invokevirtual 132, 3) := by decide +kernel
theorem d_M_leave_20 : decode b_M_leave 20 = .ok (.ifCond .ne 5, 3) := by decide +kernel
theorem d_M_leave_23 : decode b_M_leave 23 = .ok (.iconst (-1), 1) := by decide +kernel
theorem d_M_leave_24 : decode b_M_leave 24 = .ok (.ireturn, 1) := by decide +kernel
theorem d_M_leave_25 : decode b_M_leave 25 = .ok (.aload_n 0, 1) := by decide +kernel
theorem d_M_leave_26 : decode b_M_leave 26 = .ok (.getfield 63, 3) := by decide +kernel
theorem d_M_leave_29 : decode b_M_leave 29 = .ok (.bipush 127, 2) := by decide +kernel
theorem d_M_leave_31 : decode b_M_leave 31 = .ok (.iand, 1) := by decide +kernel
theorem d_M_leave_32 : decode b_M_leave 32 = .ok (.istore_n 1, 1) := by decide +kernel
theorem d_M_leave_33 : decode b_M_leave 33 = .ok (.aload_n 0, 1) := by decide +kernel
theorem d_M_leave_34 : decode b_M_leave 34 = .ok (.getfield 17, 3) := by decide +kernel
theorem d_M_leave_37 : decode b_M_leave 37 = .ok (.iload_n 1, 1) := by decide +kernel
theorem d_M_leave_38 : decode b_M_leave 38 = .ok (.iaload, 1) := by decide +kernel
theorem d_M_leave_39 : decode b_M_leave 39 = .ok (.iconst 3, 1) := by decide +kernel
theorem d_M_leave_40 : decode b_M_leave 40 = .ok (.if_icmp .ne 57, 3) := by decide +kernel
theorem d_M_leave_43 : decode b_M_leave 43 = .ok (.aload_n 0, 1) := by decide +kernel
theorem d_M_leave_44 : decode b_M_leave 44 = .ok (.getfield 32, 3) := by decide +kernel
theorem d_M_leave_47 : decode b_M_leave 47 = .ok (.iload_n 1, 1) := by decide +kernel
theorem d_M_leave_48 : decode b_M_leave 48 = .ok (.iconst 0, 1) := by decide +kernel
theorem d_M_leave_49 : decode b_M_leave 49 = .ok (.iastore, 1) := by decide +kernel
theorem d_M_leave_50 : decode b_M_leave 50 = .ok (.iconst 0, 1) := by decide +kernel
theorem d_M_leave_51 : decode b_M_leave 51 = .ok (.istore_n 2, 1) := by decide +kernel
theorem d_M_leave_52 : decode b_M_leave 52 = .ok (.iload_n 2, 1) := by decide +kernel
theorem d_M_leave_53 : decode b_M_leave 53 = .ok (.aload_n 0, 1) := by decide +kernel
theorem d_M_leave_54 : decode b_M_leave 54 = .ok (.getfield 20, 3) := by decide +kernel
theorem d_M_leave_57 : decode b_M_leave 57 = .ok (.iload_n 1, 1) := by decide +kernel
theorem d_M_leave_58 : decode b_M_leave 58 = .ok (.iaload, 1) := by decide +kernel
theorem d_M_leave_59 : decode b_M_leave 59 = .ok (.if_icmp .ge 38, 3) := by decide +kernel
theorem d_M_leave_62 : decode b_M_leave 62 = .ok (.aload_n 0, 1) := by decide +kernel
theorem d_M_leave_63 : decode b_M_leave 63 = .ok (.getfield 32, 3) := by decide +kernel
theorem d_M_leave_66 : decode b_M_leave 66 = .ok (.iload_n 1, 1) := by decide +kernel
theorem d_M_leave_67 : decode b_M_leave 67 = .ok (.aload_n 0, 1) := by decide +kernel
theorem d_M_leave_68 : decode b_M_leave 68 = .ok (.getfield 32, 3) := by decide +kernel
theorem d_M_leave_71 : decode b_M_leave 71 = .ok (.iload_n 1, 1) := by decide +kernel
theorem d_M_leave_72 : decode b_M_leave 72 = .ok (.iaload, 1) := by decide +kernel
theorem d_M_leave_73 : decode b_M_leave 73 = .ok (.bipush 8, 2) := by decide +kernel
theorem d_M_leave_75 : decode b_M_leave 75 = .ok (.ishl, 1) := by decide +kernel
theorem d_M_leave_76 : decode b_M_leave 76 = .ok (.aload_n 0, 1) := by decide +kernel
theorem d_M_leave_77 : decode b_M_leave 77 = .ok (.getfield 7, 3) := by decide +kernel
theorem d_M_leave_80 : decode b_M_leave 80 = .ok (.aload_n 0, 1) := by decide +kernel
theorem d_M_leave_81 : decode b_M_leave 81 = .ok (.getfield 26, 3) := by decide +kernel
theorem d_M_leave_84 : decode b_M_leave 84 = .ok (.iload_n 1, 1) := by decide +kernel
theorem d_M_leave_85 : decode b_M_leave 85 = .ok (.iaload, 1) := by decide +kernel
theorem d_M_leave_86 : decode b_M_leave 86 = .ok (.iload_n 2, 1) := by decide +kernel
theorem d_M_leave_87 : decode b_M_leave 87 = .ok (.iadd, 1) := by decide +kernel
theorem d_M_leave_88 : decode b_M_leave 88 = .ok (.iaload, 1) := by decide +kernel
theorem d_M_leave_89 : decode b_M_leave 89 = .ok (.ior, 1) := by decide +kernel
theorem d_M_leave_90 : decode b_M_leave 90 = .ok (.iastore, 1) := by decide +kernel
theorem d_M_leave_91 : decode b_M_leave 91 = .ok (.iinc 2 1, 3) := by decide +kernel
theorem d_M_leave_94 : decode b_M_leave 94 = .ok (.goto (-42), 3) := by decide +kernel
theorem d_M_leave_97 : decode b_M_leave 97 = .ok (.aload_n 0, 1) := by decide +kernel
theorem d_M_leave_98 : decode b_M_leave 98 = .ok (.getfield 17, 3) := by decide +kernel
theorem d_M_leave_101 : decode b_M_leave 101 = .ok (.iload_n 1, 1) := by decide +kernel
theorem d_M_leave_102 : decode b_M_leave 102 = .ok (.iaload, 1) := by decide +kernel
theorem d_M_leave_103 : decode b_M_leave 103 = .ok (.iconst 1, 1) := by decide +kernel
theorem d_M_leave_104 : decode b_M_leave 104 = .ok (.if_icmp .ne 26, 3) := by decide +kernel
theorem d_M_leave_107 : decode b_M_leave 107 = .ok (.aload_n 0, 1) := by decide +kernel
theorem d_M_leave_108 : decode b_M_leave 108 = .ok (.getfield 26, 3) := by decide +kernel
theorem d_M_leave_111 : decode b_M_leave 111 = .ok (.iload_n 1, 1) := by decide +kernel
theorem d_M_leave_112 : decode b_M_leave 112 = .ok (.iaload, 1) := by decide +kernel
theorem d_M_leave_113 : decode b_M_leave 113 = .ok (.sipush 3072, 3) := by decide +kernel
theorem d_M_leave_116 : decode b_M_leave 116 = .ok (.if_icmp .ge 14, 3) := by decide +kernel
theorem d_M_leave_119 : decode b_M_leave 119 = .ok (.aload_n 0, 1) := by decide +kernel
theorem d_M_leave_120 : decode b_M_leave 120 = .ok (.aload_n 0, 1) := by decide +kernel
theorem d_M_leave_121 : decode b_M_leave 121 = .ok (.getfield 63, 3) := by decide +kernel
theorem d_M_leave_124 : decode b_M_leave 124 = .ok (.invokevirtual 136, 3) := by decide +kernel
theorem d_M_leave_127 : decode b_M_leave 127 = .ok (.goto 45, 3) := by decide +kernel
theorem d_M_leave_130 : decode b_M_leave 130 = .ok (.aload_n 0, 1) := by decide +kernel
theorem d_M_leave_131 : decode b_M_leave 131 = .ok (.getfield 17, 3) := by decide +kernel
theorem d_M_leave_134 : decode b_M_leave 134 = .ok (.iload_n 1, 1) := by decide +kernel
theorem d_M_leave_135 : decode b_M_leave 135 = .ok (.iaload, 1) := by decide +kernel
theorem d_M_leave_136 : decode b_M_leave 136 = .ok (.iconst 1, 1) := by decide +kernel
theorem d_M_leave_137 : decode b_M_leave 137 = .ok (.if_icmp .eq 13, 3) := by decide +kernel
theorem d_M_leave_140 : decode b_M_leave 140 = .ok (.aload_n 0, 1) := by decide +kernel
theorem d_M_leave_141 : decode b_M_leave 141 = .ok (.getfield 17, 3) := by decide +kernel
theorem d_M_leave_144 : decode b_M_leave 144 = .ok (.iload_n 1, 1) := by decide +kernel
theorem d_M_leave_145 : decode b_M_leave 145 = .ok (.iaload, 1) := by decide +kernel
theorem d_M_leave_146 : decode b_M_leave 146 = .ok (.iconst 3, 1) := by decide +kernel
theorem d_M_leave_147 : decode b_M_leave 147 = .ok (.if_icmp .ne 25, 3) := by decide +kernel
theorem d_M_leave_150 : decode b_M_leave 150 = .ok (.aload_n 0, 1) := by decide +kernel
theorem d_M_leave_151 : decode b_M_leave 151 = .ok (.aload_n 0, 1) := by decide +kernel
theorem d_M_leave_152 : decode b_M_leave 152 = .ok (.getfield 26, 3) := by decide +kernel
theorem d_M_leave_155 : decode b_M_leave 155 = .ok (.iload_n 1, 1) := by decide +kernel
theorem d_M_leave_156 : decode b_M_leave 156 = .ok (.iaload, 1) := by decide +kernel
theorem d_M_leave_157 : decode b_M_leave 157 = .ok (.aload_n 0, 1) := by decide +kernel
theorem d_M_leave_158 : decode b_M_leave 158 = .ok (.getfield 20, 3) := by decide +kernel
theorem d_M_leave_161 : decode b_M_leave 161 = .ok (.iload_n 1, 1) := by decide +kernel
theorem d_M_leave_162 : decode b_M_leave 162 = .ok (.iaload, 1) := by decide +kernel
theorem d_M_leave_163 : decode b_M_leave 163 = .ok (.aload_n 0, 1) := by decide +kernel
theorem d_M_leave_164 : decode b_M_leave 164 = .ok (.getfield 29, 3) := by decide +kernel
theorem d_M_leave_167 : decode b_M_leave 167 = .ok (.iload_n 1, 1) := by decide +kernel
theorem d_M_leave_168 : decode b_M_leave 168 = .ok (.iaload, 1) := by decide +kernel
theorem d_M_leave_169 : decode b_M_leave 169 = .ok (.invokevirtual 140, 3) := by decide +kernel
theorem d_M_leave_172 : decode b_M_leave 172 = .ok (.aload_n 0, 1) := by decide +kernel
theorem d_M_leave_173 : decode b_M_leave 173 = .ok (.dup, 1) := by decide +kernel
theorem d_M_leave_174 : decode b_M_leave 174 = .ok (.getfield 63, 3) := by decide +kernel
theorem d_M_leave_177 : decode b_M_leave 177 = .ok (.iconst 1, 1) := by decide +kernel
theorem d_M_leave_178 : decode b_M_leave 178 = .ok (.iadd, 1) := by decide +kernel
theorem d_M_leave_179 : decode b_M_leave 179 = .ok (.putfield 63, 3) := by decide +kernel
theorem d_M_leave_182 : decode b_M_leave 182 = .ok (.aload_n 0, 1) := by decide +kernel
theorem d_M_leave_183 : decode b_M_leave 183 = .ok (.getfield 63, 3) := by decide +kernel
theorem d_M_leave_186 : decode b_M_leave 186 = .ok (.iconst 1, 1) := by decide +kernel
theorem d_M_leave_187 : decode b_M_leave 187 = .ok (.isub, 1) := by decide +kernel
theorem d_M_leave_188 : decode b_M_leave 188 = .ok (.ireturn, 1) := by decide +kernel
theorem d_M_mayLeave_0 : decode b_M_mayLeave 0 = .ok (.aload_n 0, 1) := by decide +kernel
theorem d_M_mayLeave_1 : decode b_M_mayLeave 1 = .ok (.getfield 63, 3) := by decide +kernel
theorem d_M_mayLeave_4 : decode b_M_mayLeave 4 = .ok (.bipush 127, 2) := by decide +kernel
theorem d_M_mayLeave_6 : decode b_M_mayLeave 6 = .ok (.iand, 1) := by decide +kernel
theorem d_M_mayLeave_7 : decode b_M_mayLeave 7 = .ok (.istore_n 1, 1) := by decide +kernel
theorem d_M_mayLeave_8 : decode b_M_mayLeave 8 = .ok (.aload_n 0, 1) := by decide +kernel
theorem d_M_mayLeave_9 : decode b_M_mayLeave 9 = .ok (.getfield 17, 3) := by decide +kernel
theorem d_M_mayLeave_12 : decode b_M_mayLeave 12 = .ok (.iload_n 1, 1) := by decide +kernel
theorem d_M_mayLeave_13 : decode b_M_mayLeave 13 = .ok (.iaload, 1) := by decide +kernel
theorem d_M_mayLeave_14 : decode b_M_mayLeave 14 = .ok (.ifCond .ne 10, 3) := by decide +kernel
theorem d_M_mayLeave_17 : decode b_M_mayLeave 17 = .ok (.aload_n 0, 1) := by decide +kernel
theorem d_M_mayLeave_18 : decode b_M_mayLeave 18 = .ok (.getfield 38, 3) := by decide +kernel
theorem d_M_mayLeave_21 : decode b_M_mayLeave 21 = .ok (.iload_n 1, 1) := by decide +kernel
theorem d_M_mayLeave_22 : decode b_M_mayLeave 22 = .ok (.baload, 1) := by decide +kernel
theorem d_M_mayLeave_23 : decode b_M_mayLeave 23 = .ok (.ireturn, 1) := by decide +kernel
theorem d_M_mayLeave_24 : decode b_M_mayLeave 24 = .ok (.aload_n 0, 1) := by decide +kernel
theorem d_M_mayLeave_25 : decode b_M_mayLeave 25 = .ok (.getfield 17, 3) := by decide +kernel
theorem d_M_mayLeave_28 : decode b_M_mayLeave 28 = .ok (.iload_n 1, 1) := by decide +kernel
theorem d_M_mayLeave_29 : decode b_M_mayLeave 29 = .ok (.iaload, 1) := by decide +kernel
theorem d_M_mayLeave_30 : decode b_M_mayLeave 30 = .ok (.iconst 2, 1) := by decide +kernel
theorem d_M_mayLeave_31 : decode b_M_mayLeave 31 = .ok (.if_icmp .ne 16, 3) := by decide +kernel
theorem d_M_mayLeave_34 : decode b_M_mayLeave 34 = .ok (.aload_n 0, 1) := by decide +kernel
theorem d_M_mayLeave_35 : decode b_M_mayLeave 35 = .ok (.getfield 81, 3) := by decide +kernel
theorem d_M_mayLeave_38 : decode b_M_mayLeave 38 = .ok (.ifCond .ne 7, 3) := by decide +kernel
theorem d_M_mayLeave_41 : decode b_M_mayLeave 41 = .ok (.iconst 1, 1) := by decide +kernel
theorem d_M_mayLeave_42 : decode b_M_mayLeave 42 = .ok (.goto 4, 3) := by decide +kernel
theorem d_M_mayLeave_45 : decode b_M_mayLeave 45 = .ok (.iconst 0, 1) := by decide +kernel
theorem d_M_mayLeave_46 : decode b_M_mayLeave 46 = .ok (.ireturn, 1) := by decide +kernel
theorem d_M_mayLeave_47 : decode b_M_mayLeave 47 = .ok (.aload_n 0, 1) := by decide +kernel
theorem d_M_mayLeave_48 : decode b_M_mayLeave 48 = .ok (.getfield 26, 3) := by decide +kernel
theorem d_M_mayLeave_51 : decode b_M_mayLeave 51 = .ok (.iload_n 1, 1) := by decide +kernel
theorem d_M_mayLeave_52 : decode b_M_mayLeave 52 = .ok (.iaload, 1) := by decide +kernel
theorem d_M_mayLeave_53 : decode b_M_mayLeave 53 = .ok (.iconst (-1), 1) := by decide +kernel
theorem d_M_mayLeave_54 : decode b_M_mayLeave 54 = .ok (.if_icmp .eq 12, 3) := by decide +kernel
theorem d_M_mayLeave_57 : decode b_M_mayLeave 57 = .ok (.aload_n 0, 1) := by decide +kernel
theorem d_M_mayLeave_58 : decode b_M_mayLeave 58 = .ok (.getfield 35, 3) := by decide +kernel
theorem d_M_mayLeave_61 : decode b_M_mayLeave 61 = .ok (.iload_n 1, 1) := by decide +kernel
theorem d_M_mayLeave_62 : decode b_M_mayLeave 62 = .ok (.baload, 1) := by decide +kernel
theorem d_M_mayLeave_63 : decode b_M_mayLeave 63 = .ok (.ifCond .ne 5, 3) := by decide +kernel
theorem d_M_mayLeave_66 : decode b_M_mayLeave 66 = .ok (.iconst 0, 1) := by decide +kernel
theorem d_M_mayLeave_67 : decode b_M_mayLeave 67 = .ok (.ireturn, 1) := by decide +kernel
theorem d_M_mayLeave_68 : decode b_M_mayLeave 68 = .ok (.aload_n 0, 1) := by decide +kernel
theorem d_M_mayLeave_69 : decode b_M_mayLeave 69 = .ok (.getfield 81, 3) := by decide +kernel
theorem d_M_mayLeave_72 : decode b_M_mayLeave 72 = .ok (.ifCond .eq 33, 3) := by decide +kernel
theorem d_M_mayLeave_75 : decode b_M_mayLeave 75 = .ok (.aload_n 0, 1) := by decide +kernel
theorem d_M_mayLeave_76 : decode b_M_mayLeave 76 = .ok (.getfield 17, 3) := by decide +kernel
theorem d_M_mayLeave_79 : decode b_M_mayLeave 79 = .ok (.iload_n 1, 1) := by decide +kernel
theorem d_M_mayLeave_80 : decode b_M_mayLeave 80 = .ok (.iaload, 1) := by decide +kernel
theorem d_M_mayLeave_81 : decode b_M_mayLeave 81 = .ok (.iconst 1, 1) := by decide +kernel
theorem d_M_mayLeave_82 : decode b_M_mayLeave 82 = .ok (.if_icmp .ne 27, 3) := by decide +kernel
theorem d_M_mayLeave_85 : decode b_M_mayLeave 85 = .ok (.aload_n 0, 1) := by decide +kernel
theorem d_M_mayLeave_86 : decode b_M_mayLeave 86 = .ok (.getfield 26, 3) := by decide +kernel
theorem d_M_mayLeave_89 : decode b_M_mayLeave 89 = .ok (.iload_n 1, 1) := by decide +kernel
theorem d_M_mayLeave_90 : decode b_M_mayLeave 90 = .ok (.iaload, 1) := by decide +kernel
theorem d_M_mayLeave_91 : decode b_M_mayLeave 91 = .ok (.sipush 3072, 3) := by decide +kernel
theorem d_M_mayLeave_94 : decode b_M_mayLeave 94 = .ok (.if_icmp .ge 15, 3) := by decide +kernel
theorem d_M_mayLeave_97 : decode b_M_mayLeave 97 = .ok (.aload_n 0, 1) := by decide +kernel
theorem d_M_mayLeave_98 : decode b_M_mayLeave 98 = .ok (.getfield 81, 3) := by decide +kernel
theorem d_M_mayLeave_101 : decode b_M_mayLeave 101 = .ok (.iconst 4, 1) := by decide +kernel
theorem d_M_mayLeave_102 : decode b_M_mayLeave 102 = .ok (.if_icmp .ge 7, 3) := by decide +kernel
theorem d_M_mayLeave_105 : decode b_M_mayLeave 105 = .ok (.iconst 1, 1) := by decide +kernel
theorem d_M_mayLeave_106 : decode b_M_mayLeave 106 = .ok (.goto 4, 3) := by decide +kernel
theorem d_M_mayLeave_109 : decode b_M_mayLeave 109 = .ok (.iconst 0, 1) := by decide +kernel
theorem d_M_mayLeave_110 : decode b_M_mayLeave 110 = .ok (.ireturn, 1) := by decide +kernel
theorem d_M_intoBuffer_0 : decode b_M_intoBuffer 0 = .ok (.iload_n 1, 1) := by decide +kernel
theorem d_M_intoBuffer_1 : decode b_M_intoBuffer 1 = .ok (.bipush 127, 2) := by decide +kernel
theorem d_M_intoBuffer_3 : decode b_M_intoBuffer 3 = .ok (.iand, 1) := by decide +kernel
theorem d_M_intoBuffer_4 : decode b_M_intoBuffer 4 = .ok (.istore_n 2, 1) := by decide +kernel
theorem d_M_intoBuffer_5 : decode b_M_intoBuffer 5 = .ok (.aload_n 0, 1) := by decide +kernel
theorem d_M_intoBuffer_6 : decode b_M_intoBuffer 6 = .ok (.getfield 44, 3) := by decide +kernel
theorem d_M_intoBuffer_9 : decode b_M_intoBuffer 9 = .ok (.aload_n 0, 1) := by decide +kernel
theorem d_M_intoBuffer_10 : decode b_M_intoBuffer 10 = .ok (.getfield 81, 3) := by decide +kernel
theorem d_M_intoBuffer_13 : decode b_M_intoBuffer 13 = .ok (.iload_n 1, 1) := by decide +kernel
theorem d_M_intoBuffer_14 : decode b_M_intoBuffer 14 = .ok (.iastore, 1) := by decide +kernel
theorem d_M_intoBuffer_15 : decode b_M_intoBuffer 15 = .ok (.aload_n 0, 1) := by decide +kernel
theorem d_M_intoBuffer_16 : decode b_M_intoBuffer 16 = .ok (.getfield 47, 3) := by decide +kernel
theorem d_M_intoBuffer_19 : decode b_M_intoBuffer 19 = .ok (.aload_n 0, 1) := by decide +kernel
theorem d_M_intoBuffer_20 : decode b_M_intoBuffer 20 = .ok (.getfield 81, 3) := by decide +kernel
theorem d_M_intoBuffer_23 : decode b_M_intoBuffer 23 = .ok (.aload_n 0, 1) := by decide +kernel
theorem d_M_intoBuffer_24 : decode b_M_intoBuffer 24 = .ok (.getfield 26, 3) := by decide +kernel
theorem d_M_intoBuffer_27 : decode b_M_intoBuffer 27 = .ok (.iload_n 2, 1) := by decide +kernel
theorem d_M_intoBuffer_28 : decode b_M_intoBuffer 28 = .ok (.iaload, 1) := by decide +kernel
theorem d_M_intoBuffer_29 : decode b_M_intoBuffer 29 = .ok (.iastore, 1) := by decide +kernel
theorem d_M_intoBuffer_30 : decode b_M_intoBuffer 30 = .ok (.aload_n 0, 1) := by decide +kernel
theorem d_M_intoBuffer_31 : decode b_M_intoBuffer 31 = .ok (.getfield 50, 3) := by decide +kernel
theorem d_M_intoBuffer_34 : decode b_M_intoBuffer 34 = .ok (.aload_n 0, 1) := by decide +kernel
theorem d_M_intoBuffer_35 : decode b_M_intoBuffer 35 = .ok (.getfield 81, 3) := by decide +kernel
theorem d_M_intoBuffer_38 : decode b_M_intoBuffer 38 = .ok (.aload_n 0, 1) := by decide +kernel
theorem d_M_intoBuffer_39 : decode b_M_intoBuffer 39 = .ok (.getfield 20, 3) := by decide +kernel
theorem d_M_intoBuffer_42 : decode b_M_intoBuffer 42 = .ok (.iload_n 2, 1) := by decide +kernel
theorem d_M_intoBuffer_43 : decode b_M_intoBuffer 43 = .ok (.iaload, 1) := by decide +kernel
theorem d_M_intoBuffer_44 : decode b_M_intoBuffer 44 = .ok (.iastore, 1) := by decide +kernel
theorem d_M_intoBuffer_45 : decode b_M_intoBuffer 45 = .ok (.aload_n 0, 1) := by decide +kernel
theorem d_M_intoBuffer_46 : decode b_M_intoBuffer 46 = .ok (.getfield 53, 3) := by decide +kernel
theorem d_M_intoBuffer_49 : decode b_M_intoBuffer 49 = .ok (.aload_n 0, 1) := by decide +kernel
theorem d_M_intoBuffer_50 : decode b_M_intoBuffer 50 = .ok (.getfield 81, 3) := by decide +kernel
theorem d_M_intoBuffer_53 : decode b_M_intoBuffer 53 = .ok (.aload_n 0, 1) := by decide +kernel
theorem d_M_intoBuffer_54 : decode b_M_intoBuffer 54 = .ok (.getfield 29, 3) := by decide +kernel
theorem d_M_intoBuffer_57 : decode b_M_intoBuffer 57 = .ok (.iload_n 2, 1) := by decide +kernel
theorem d_M_intoBuffer_58 : decode b_M_intoBuffer 58 = .ok (.iaload, 1) := by decide +kernel
theorem d_M_intoBuffer_59 : decode b_M_intoBuffer 59 = .ok (.iastore, 1) := by decide +kernel
theorem d_M_intoBuffer_60 : decode b_M_intoBuffer 60 = .ok (.aload_n 0, 1) := by decide +kernel
theorem d_M_intoBuffer_61 : decode b_M_intoBuffer 61 = .ok (.dup, 1) := by decide +kernel
theorem d_M_intoBuffer_62 : decode b_M_intoBuffer 62 = .ok (.getfield 81, 3) := by decide +kernel
theorem d_M_intoBuffer_65 : decode b_M_intoBuffer 65 = .ok (.iconst 1, 1) := by decide +kernel
theorem d_M_intoBuffer_66 : decode b_M_intoBuffer 66 = .ok (.iadd, 1) := by decide +kernel
theorem d_M_intoBuffer_67 : decode b_M_intoBuffer 67 = .ok (.putfield 81, 3) := by decide +kernel
theorem d_M_intoBuffer_70 : decode b_M_intoBuffer 70 = .ok (.return_, 1) := by decide +kernel
theorem d_M_write_0 : decode b_M_write 0 = .ok (.iconst 0, 1) := by decide +kernel
theorem d_M_write_1 : decode b_M_write 1 = .ok (.istore 4, 2) := by decide +kernel
theorem d_M_write_3 : decode b_M_write 3 = .ok (.iload 4, 2) := by decide +kernel
theorem d_M_write_5 : decode b_M_write 5 = .ok (.iload_n 2, 1) := by decide +kernel
theorem d_M_write_6 : decode b_M_write 6 = .ok (.if_icmp .ge 25, 3) := by decide +kernel
theorem d_M_write_9 : decode b_M_write 9 = .ok (.aload_n 0, 1) := by decide +kernel
theorem d_M_write_10 : decode b_M_write 10 = .ok (.getfield 7, 3) := by decide +kernel
theorem d_M_write_13 : decode b_M_write 13 = .ok (.iload_n 1, 1) := by decide +kernel
theorem d_M_write_14 : decode b_M_write 14 = .ok (.iload 4, 2) := by decide +kernel
theorem d_M_write_16 : decode b_M_write 16 = .ok (.iadd, 1) := by decide +kernel
theorem d_M_write_17 : decode b_M_write 17 = .ok (.iload_n 3, 1) := by decide +kernel
theorem d_M_write_18 : decode b_M_write 18 = .ok (.iload_n 2, 1) := by decide +kernel
theorem d_M_write_19 : decode b_M_write 19 = .ok (.iload 4, 2) := by decide +kernel
theorem d_M_write_21 : decode b_M_write 21 = .ok (.invokestatic 70, 3) := by decide +kernel
theorem d_M_write_24 : decode b_M_write 24 = .ok (.iastore, 1) := by decide +kernel
theorem d_M_write_25 : decode b_M_write 25 = .ok (.iinc 4 1, 3) := by decide +kernel
theorem d_M_write_28 : decode b_M_write 28 = .ok (.goto (-25), 3) := by decide +kernel
theorem d_M_write_31 : decode b_M_write 31 = .ok (.return_, 1) := by decide +kernel
theorem d_M_drain_0 : decode b_M_drain 0 = .ok (.aload_n 0, 1) := by decide +kernel
theorem d_M_drain_1 : decode b_M_drain 1 = .ok (.iconst 0, 1) := by decide +kernel
theorem d_M_drain_2 : decode b_M_drain 2 = .ok (.putfield 56, 3) := by decide +kernel
theorem d_M_drain_5 : decode b_M_drain 5 = .ok (.aload_n 0, 1) := by decide +kernel
theorem d_M_drain_6 : decode b_M_drain 6 = .ok (.getfield 81, 3) := by decide +kernel
theorem d_M_drain_9 : decode b_M_drain 9 = .ok (.ifCond .ne 5, 3) := by decide +kernel
theorem d_M_drain_12 : decode b_M_drain 12 = .ok (.iconst (-1), 1) := by decide +kernel
theorem d_M_drain_13 : decode b_M_drain 13 = .ok (.ireturn, 1) := by decide +kernel
theorem d_M_drain_14 : decode b_M_drain 14 = .ok (.aload_n 0, 1) := by decide +kernel
theorem d_M_drain_15 : decode b_M_drain 15 = .ok (.getfield 44, 3) := by decide +kernel
theorem d_M_drain_18 : decode b_M_drain 18 = .ok (.iconst 0, 1) := by decide +kernel
theorem d_M_drain_19 : decode b_M_drain 19 = .ok (.iaload, 1) := by decide +kernel
theorem d_M_drain_20 : decode b_M_drain 20 = .ok (.istore_n 1, 1) := by decide +kernel
theorem d_M_drain_21 : decode b_M_drain 21 = .ok (.aload_n 0, 1) := by decide +kernel
theorem d_M_drain_22 : decode b_M_drain 22 = .ok (.aload_n 0, 1) := by decide +kernel
theorem d_M_drain_23 : decode b_M_drain 23 = .ok (.getfield 47, 3) := by decide +kernel
theorem d_M_drain_26 : decode b_M_drain 26 = .ok (.iconst 0, 1) := by decide +kernel
theorem d_M_drain_27 : decode b_M_drain 27 = .ok (.iaload, 1) := by decide +kernel
theorem d_M_drain_28 : decode b_M_drain 28 = .ok (.aload_n 0, 1) := by decide +kernel
theorem d_M_drain_29 : decode b_M_drain 29 = .ok (.getfield 50, 3) := by decide +kernel
theorem d_M_drain_32 : decode b_M_drain 32 = .ok (.iconst 0, 1) := by decide +kernel
theorem d_M_drain_33 : decode b_M_drain 33 = .ok (.iaload, 1) := by decide +kernel
theorem d_M_drain_34 : decode b_M_drain 34 = .ok (.aload_n 0, 1) := by decide +kernel
theorem d_M_drain_35 : decode b_M_drain 35 = .ok (.getfield 53, 3) := by decide +kernel
theorem d_M_drain_38 : decode b_M_drain 38 = .ok (.iconst 0, 1) := by decide +kernel
theorem d_M_drain_39 : decode b_M_drain 39 = .ok (.iaload, 1) := by decide +kernel
theorem d_M_drain_40 : decode b_M_drain 40 = .ok (.invokevirtual 140, 3) := by decide +kernel
theorem d_M_drain_43 : decode b_M_drain 43 = .ok (.aload_n 0, 1) := by decide +kernel
theorem d_M_drain_44 : decode b_M_drain 44 = .ok (.dup, 1) := by decide +kernel
theorem d_M_drain_45 : decode b_M_drain 45 = .ok (.getfield 81, 3) := by decide +kernel
theorem d_M_drain_48 : decode b_M_drain 48 = .ok (.iconst 1, 1) := by decide +kernel
theorem d_M_drain_49 : decode b_M_drain 49 = .ok (.isub, 1) := by decide +kernel
theorem d_M_drain_50 : decode b_M_drain 50 = .ok (.putfield 81, 3) := by decide +kernel
theorem d_M_drain_53 : decode b_M_drain 53 = .ok (.iconst 0, 1) := by decide +kernel
theorem d_M_drain_54 : decode b_M_drain 54 = .ok (.istore_n 2, 1) := by decide +kernel
theorem d_M_drain_55 : decode b_M_drain 55 = .ok (.iload_n 2, 1) := by decide +kernel
theorem d_M_drain_56 : decode b_M_drain 56 = .ok (.aload_n 0, 1) := by decide +kernel
theorem d_M_drain_57 : decode b_M_drain 57 = .ok (.getfield 81, 3) := by decide +kernel
theorem d_M_drain_60 : decode b_M_drain 60 = .ok (.if_icmp .ge 65, 3) := by decide +kernel
theorem d_M_drain_63 : decode b_M_drain 63 = .ok (.aload_n 0, 1) := by decide +kernel
theorem d_M_drain_64 : decode b_M_drain 64 = .ok (.getfield 44, 3) := by decide +kernel
theorem d_M_drain_67 : decode b_M_drain 67 = .ok (.iload_n 2, 1) := by decide +kernel
theorem d_M_drain_68 : decode b_M_drain 68 = .ok (.aload_n 0, 1) := by decide +kernel
theorem d_M_drain_69 : decode b_M_drain 69 = .ok (.getfield 44, 3) := by decide +kernel
theorem d_M_drain_72 : decode b_M_drain 72 = .ok (.iload_n 2, 1) := by decide +kernel
theorem d_M_drain_73 : decode b_M_drain 73 = .ok (.iconst 1, 1) := by decide +kernel
theorem d_M_drain_74 : decode b_M_drain 74 = .ok (.iadd, 1) := by decide +kernel
theorem d_M_drain_75 : decode b_M_drain 75 = .ok (.iaload, 1) := by decide +kernel
theorem d_M_drain_76 : decode b_M_drain 76 = .ok (.iastore, 1) := by decide +kernel
theorem d_M_drain_77 : decode b_M_drain 77 = .ok (.aload_n 0, 1) := by decide +kernel
theorem d_M_drain_78 : decode b_M_drain 78 = .ok (.getfield 47, 3) := by decide +kernel
theorem d_M_drain_81 : decode b_M_drain 81 = .ok (.iload_n 2, 1) := by decide +kernel
theorem d_M_drain_82 : decode b_M_drain 82 = .ok (.aload_n 0, 1) := by decide +kernel
theorem d_M_drain_83 : decode b_M_drain 83 = .ok (.getfield 47, 3) := by decide +kernel
theorem d_M_drain_86 : decode b_M_drain 86 = .ok (.iload_n 2, 1) := by decide +kernel
theorem d_M_drain_87 : decode b_M_drain 87 = .ok (.iconst 1, 1) := by decide +kernel
theorem d_M_drain_88 : decode b_M_drain 88 = .ok (.iadd, 1) := by decide +kernel
theorem d_M_drain_89 : decode b_M_drain 89 = .ok (.iaload, 1) := by decide +kernel
theorem d_M_drain_90 : decode b_M_drain 90 = .ok (.iastore, 1) := by decide +kernel
theorem d_M_drain_91 : decode b_M_drain 91 = .ok (.aload_n 0, 1) := by decide +kernel
theorem d_M_drain_92 : decode b_M_drain 92 = .ok (.getfield 50, 3) := by decide +kernel
theorem d_M_drain_95 : decode b_M_drain 95 = .ok (.iload_n 2, 1) := by decide +kernel
theorem d_M_drain_96 : decode b_M_drain 96 = .ok (.aload_n 0, 1) := by decide +kernel
theorem d_M_drain_97 : decode b_M_drain 97 = .ok (.getfield 50, 3) := by decide +kernel
theorem d_M_drain_100 : decode b_M_drain 100 = .ok (.iload_n 2, 1) := by decide +kernel
theorem d_M_drain_101 : decode b_M_drain 101 = .ok (.iconst 1, 1) := by decide +kernel
theorem d_M_drain_102 : decode b_M_drain 102 = .ok (.iadd, 1) := by decide +kernel
theorem d_M_drain_103 : decode b_M_drain 103 = .ok (.iaload, 1) := by decide +kernel
theorem d_M_drain_104 : decode b_M_drain 104 = .ok (.iastore, 1) := by decide +kernel
theorem d_M_drain_105 : decode b_M_drain 105 = .ok (.aload_n 0, 1) := by decide +kernel
theorem d_M_drain_106 : decode b_M_drain 106 = .ok (.getfield 53, 3) := by decide +kernel
theorem d_M_drain_109 : decode b_M_drain 109 = .ok (.iload_n 2, 1) := by decide +kernel
theorem d_M_drain_110 : decode b_M_drain 110 = .ok (.aload_n 0, 1) := by decide +kernel
theorem d_M_drain_111 : decode b_M_drain 111 = .ok (.getfield 53, 3) := by decide +kernel
theorem d_M_drain_114 : decode b_M_drain 114 = .ok (.iload_n 2, 1) := by decide +kernel
theorem d_M_drain_115 : decode b_M_drain 115 = .ok (.iconst 1, 1) := by decide +kernel
theorem d_M_drain_116 : decode b_M_drain 116 = .ok (.iadd, 1) := by decide +kernel
theorem d_M_drain_117 : decode b_M_drain 117 = .ok (.iaload, 1) := by decide +kernel
theorem d_M_drain_118 : decode b_M_drain 118 = .ok (.iastore, 1) := by decide +kernel
theorem d_M_drain_119 : decode b_M_drain 119 = .ok (.iinc 2 1, 3) := by decide +kernel
theorem d_M_drain_122 : decode b_M_drain 122 = .ok (.goto (-67), 3) := by decide +kernel
theorem d_M_drain_125 : decode b_M_drain 125 = .ok (.iload_n 1, 1) := by decide +kernel
theorem d_M_drain_126 : decode b_M_drain 126 = .ok (.ireturn, 1) := by decide +kernel
theorem d_M_other_0 : decode b_M_other 0 = .ok (.aload_n 0, 1) := by decide +kernel
theorem d_M_other_1 : decode b_M_other 1 = .ok (.iload_n 1, 1) := by decide +kernel
theorem d_M_other_2 : decode b_M_other 2 = .ok (.ifCond .lt 21, 3) := by decide +kernel
theorem d_M_other_5 : decode b_M_other 5 = .ok (.iload_n 1, 1) := by decide +kernel
theorem d_M_other_6 : decode b_M_other 6 = .ok (.sipush 4096, 3) := by decide +kernel
theorem d_M_other_9 : decode b_M_other 9 = .ok (.if_icmp .ge 14, 3) := by decide +kernel
theorem d_M_other_12 : decode b_M_other 12 = .ok (.iload_n 2, 1) := by decide +kernel
theorem d_M_other_13 : decode b_M_other 13 = .ok (.ifCond .lt 10, 3) := by decide +kernel
theorem d_M_other_16 : decode b_M_other 16 = .ok (.iload_n 2, 1) := by decide +kernel
theorem d_M_other_17 : decode b_M_other 17 = .ok (.sipush 255, 3) := by decide +kernel
theorem d_M_other_20 : decode b_M_other 20 = .ok (.if_icmp .le 7, 3) := by decide +kernel
theorem d_M_other_23 : decode b_M_other 23 = .ok (.iconst 1, 1) := by decide +kernel
theorem d_M_other_24 : decode b_M_other 24 = .ok (.goto 4, 3) := by decide +kernel
theorem d_M_other_27 : decode b_M_other 27 = .ok (.iconst 0, 1) := by decide +kernel
theorem d_M_other_28 : decode b_M_other 28 = .ok (.putfield 56, 3) := by decide +kernel
theorem d_M_other_31 : decode b_M_other 31 = .ok (.aload_n 0, 1) := by decide +kernel
theorem d_M_other_32 : decode b_M_other 32 = .ok (.getfield 56, 3) := by decide +kernel
theorem d_M_other_35 : decode b_M_other 35 = .ok (.ifCond .le 5, 3) := by decide +kernel
theorem d_M_other_38 : decode b_M_other 38 = .ok (.iconst 0, 1) := by decide +kernel
theorem d_M_other_39 : decode b_M_other 39 = .ok (.ireturn, 1) := by decide +kernel
theorem d_M_other_40 : decode b_M_other 40 = .ok (.aload_n 0, 1) := by decide +kernel
theorem d_M_other_41 : decode b_M_other 41 = .ok (.getfield 7, 3) := by decide +kernel
theorem d_M_other_44 : decode b_M_other 44 = .ok (.iload_n 1, 1) := by decide +kernel
theorem d_M_other_45 : decode b_M_other 45 = .ok (.iload_n 2, 1) := by decide +kernel
theorem d_M_other_46 : decode b_M_other 46 = .ok (.iastore, 1) := by decide +kernel
theorem d_M_other_47 : decode b_M_other 47 = .ok (.aload_n 0, 1) := by decide +kernel
theorem d_M_other_48 : decode b_M_other 48 = .ok (.getfield 63, 3) := by decide +kernel
theorem d_M_other_51 : decode b_M_other 51 = .ok (.istore_n 3, 1) := by decide +kernel
theorem d_M_other_52 : decode b_M_other 52 = .ok (.iload_n 3, 1) := by decide +kernel
theorem d_M_other_53 : decode b_M_other 53 = .ok (.aload_n 0, 1) := by decide +kernel
theorem d_M_other_54 : decode b_M_other 54 = .ok (.getfield 60, 3) := by decide +kernel
theorem d_M_other_57 : decode b_M_other 57 = .ok (.if_icmp .ge 24, 3) := by decide +kernel
theorem d_M_other_60 : decode b_M_other 60 = .ok (.aload_n 0, 1) := by decide +kernel
theorem d_M_other_61 : decode b_M_other 61 = .ok (.iload_n 3, 1) := by decide +kernel
theorem d_M_other_62 : decode b_M_other 62 = .ok (.iload_n 1, 1) := by decide +kernel
theorem d_M_other_63 : decode b_M_other 63 = .ok (.invokevirtual 144, 3) := by decide +kernel
theorem d_M_other_66 : decode b_M_other 66 = .ok (.ifCond .eq 9, 3) := by decide +kernel
theorem d_M_other_69 : decode b_M_other 69 = .ok (.aload_n 0, 1) := by decide +kernel
theorem d_M_other_70 : decode b_M_other 70 = .ok (.iload_n 3, 1) := by decide +kernel
theorem d_M_other_71 : decode b_M_other 71 = .ok (.invokevirtual 100, 3) := by decide +kernel
theorem d_M_other_74 : decode b_M_other 74 = .ok (.ireturn, 1) := by decide +kernel
theorem d_M_other_75 : decode b_M_other 75 = .ok (.iinc 3 1, 3) := by decide +kernel
theorem d_M_other_78 : decode b_M_other 78 = .ok (.goto (-26), 3) := by decide +kernel
theorem d_M_other_81 : decode b_M_other 81 = .ok (.iconst 0, 1) := by decide +kernel
theorem d_M_other_82 : decode b_M_other 82 = .ok (.ireturn, 1) := by decide +kernel
theorem d_M_tookFromMemory_0 : decode b_M_tookFromMemory 0 = .ok (.iload_n 1, 1) := by decide +kernel
theorem d_M_tookFromMemory_1 : decode b_M_tookFromMemory 1 = .ok (.bipush 127, 2) := by decide +kernel
theorem d_M_tookFromMemory_3 : decode b_M_tookFromMemory 3 = .ok (.iand, 1) := by decide +kernel
theorem d_M_tookFromMemory_4 : decode b_M_tookFromMemory 4 = .ok (.istore_n 3, 1) := by decide +kernel
theorem d_M_tookFromMemory_5 : decode b_M_tookFromMemory 5 = .ok (.iload_n 2, 1) := by decide +kernel
theorem d_M_tookFromMemory_6 : decode b_M_tookFromMemory 6 = .ok (.aload_n 0, 1) := by decide +kernel
theorem d_M_tookFromMemory_7 : decode b_M_tookFromMemory 7 = .ok (.getfield 26, 3) := by decide +kernel
theorem d_M_tookFromMemory_10 : decode b_M_tookFromMemory 10 = .ok (.iload_n 3, 1) := by decide +kernel
theorem d_M_tookFromMemory_11 : decode b_M_tookFromMemory 11 = .ok (.iaload, 1) := by decide +kernel
theorem d_M_tookFromMemory_12 : decode b_M_tookFromMemory 12 = .ok (.isub, 1) := by decide +kernel
theorem d_M_tookFromMemory_13 : decode b_M_tookFromMemory 13 = .ok (.istore 4, 2) := by decide +kernel
