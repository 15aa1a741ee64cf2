theorem d_M_tookFromMemory_15 : decode b_M_tookFromMemory 15 = .ok (.aload_n 0, 1) := by decide +kernel
theorem d_M_tookFromMemory_16 : decode b_M_tookFromMemory 16 = .ok (.iload_n 1, 1) := by decide +kernel
theorem d_M_tookFromMemory_17 : decode b_M_tookFromMemory 17 = .ok (.invokevirtual 94, 3) := by decide +kernel
theorem d_M_tookFromMemory_20 : decode b_M_tookFromMemory 20 = .ok (.ifCond .eq 38, 3) := by decide +kernel
theorem d_M_tookFromMemory_23 : decode b_M_tookFromMemory 23 = .ok (.iload 4, 2) := by decide +kernel
theorem d_M_tookFromMemory_25 : decode b_M_tookFromMemory 25 = .ok (.ifCond .lt 33, 3) := by decide +kernel
theorem d_M_tookFromMemory_28 : decode b_M_tookFromMemory 28 = .ok (.iload 4, 2) := by decide +kernel
theorem d_M_tookFromMemory_30 : decode b_M_tookFromMemory 30 = .ok (.aload_n 0, 1) := by decide +kernel
theorem d_M_tookFromMemory_31 : decode b_M_tookFromMemory 31 = .ok (.getfield 20, 3) := by decide +kernel
theorem d_M_tookFromMemory_34 : decode b_M_tookFromMemory 34 = .ok (.iload_n 3, 1) := by decide +kernel
theorem d_M_tookFromMemory_35 : decode b_M_tookFromMemory 35 = .ok (.iaload, 1) := by decide +kernel
theorem d_M_tookFromMemory_36 : decode b_M_tookFromMemory 36 = .ok (.if_icmp .ge 22, 3) := by decide +kernel
theorem d_M_tookFromMemory_39 : decode b_M_tookFromMemory 39 = .ok (.aload_n 0, 1) := by decide +kernel
theorem d_M_tookFromMemory_40 : decode b_M_tookFromMemory 40 = .ok (.getfield 41, 3) := by decide +kernel
theorem d_M_tookFromMemory_43 : decode b_M_tookFromMemory 43 = .ok (.iconst 4, 1) := by decide +kernel
theorem d_M_tookFromMemory_44 : decode b_M_tookFromMemory 44 = .ok (.iload_n 3, 1) := by decide +kernel
theorem d_M_tookFromMemory_45 : decode b_M_tookFromMemory 45 = .ok (.imul, 1) := by decide +kernel
theorem d_M_tookFromMemory_46 : decode b_M_tookFromMemory 46 = .ok (.iload 4, 2) := by decide +kernel
theorem d_M_tookFromMemory_48 : decode b_M_tookFromMemory 48 = .ok (.iadd, 1) := by decide +kernel
theorem d_M_tookFromMemory_49 : decode b_M_tookFromMemory 49 = .ok (.iaload, 1) := by decide +kernel
theorem d_M_tookFromMemory_50 : decode b_M_tookFromMemory 50 = .ok (.iconst (-1), 1) := by decide +kernel
theorem d_M_tookFromMemory_51 : decode b_M_tookFromMemory 51 = .ok (.if_icmp .ne 7, 3) := by decide +kernel
theorem d_M_tookFromMemory_54 : decode b_M_tookFromMemory 54 = .ok (.iconst 1, 1) := by decide +kernel
theorem d_M_tookFromMemory_55 : decode b_M_tookFromMemory 55 = .ok (.goto 4, 3) := by decide +kernel
theorem d_M_tookFromMemory_58 : decode b_M_tookFromMemory 58 = .ok (.iconst 0, 1) := by decide +kernel
theorem d_M_tookFromMemory_59 : decode b_M_tookFromMemory 59 = .ok (.ireturn, 1) := by decide +kernel
theorem d_M_memory_0 : decode b_M_memory 0 = .ok (.aload_n 0, 1) := by decide +kernel
theorem d_M_memory_1 : decode b_M_memory 1 = .ok (.iload_n 1, 1) := by decide +kernel
theorem d_M_memory_2 : decode b_M_memory 2 = .ok (.ifCond .lt 10, 3) := by decide +kernel
theorem d_M_memory_5 : decode b_M_memory 5 = .ok (.iload_n 1, 1) := by decide +kernel
theorem d_M_memory_6 : decode b_M_memory 6 = .ok (.sipush 4096, 3) := by decide +kernel
theorem d_M_memory_9 : decode b_M_memory 9 = .ok (.if_icmp .lt 7, 3) := by decide +kernel
theorem d_M_memory_12 : decode b_M_memory 12 = .ok (.iconst 1, 1) := by decide +kernel
theorem d_M_memory_13 : decode b_M_memory 13 = .ok (.goto 4, 3) := by decide +kernel
theorem d_M_memory_16 : decode b_M_memory 16 = .ok (.iconst 0, 1) := by decide +kernel
theorem d_M_memory_17 : decode b_M_memory 17 = .ok (.putfield 56, 3) := by decide +kernel
theorem d_M_memory_20 : decode b_M_memory 20 = .ok (.aload_n 0, 1) := by decide +kernel
theorem d_M_memory_21 : decode b_M_memory 21 = .ok (.getfield 56, 3) := by decide +kernel
theorem d_M_memory_24 : decode b_M_memory 24 = .ok (.ifCond .le 7, 3) := by decide +kernel
theorem d_M_memory_27 : decode b_M_memory 27 = .ok (.iconst 0, 1) := by decide +kernel
theorem d_M_memory_28 : decode b_M_memory 28 = .ok (.goto 9, 3) := by decide +kernel
theorem d_M_memory_31 : decode b_M_memory 31 = .ok (.aload_n 0, 1) := by decide +kernel
theorem d_M_memory_32 : decode b_M_memory 32 = .ok (.getfield 7, 3) := by decide +kernel
theorem d_M_memory_35 : decode b_M_memory 35 = .ok (.iload_n 1, 1) := by decide +kernel
theorem d_M_memory_36 : decode b_M_memory 36 = .ok (.iaload, 1) := by decide +kernel
theorem d_M_memory_37 : decode b_M_memory 37 = .ok (.ireturn, 1) := by decide +kernel
theorem d_M_forget_0 : decode b_M_forget 0 = .ok (.aload_n 0, 1) := by decide +kernel
theorem d_M_forget_1 : decode b_M_forget 1 = .ok (.aload_n 0, 1) := by decide +kernel
theorem d_M_forget_2 : decode b_M_forget 2 = .ok (.iload_n 1, 1) := by decide +kernel
theorem d_M_forget_3 : decode b_M_forget 3 = .ok (.invokevirtual 88, 3) := by decide +kernel
theorem d_M_forget_6 : decode b_M_forget 6 = .ok (.ifCond .ne 7, 3) := by decide +kernel
theorem d_M_forget_9 : decode b_M_forget 9 = .ok (.iconst 1, 1) := by decide +kernel
theorem d_M_forget_10 : decode b_M_forget 10 = .ok (.goto 16, 3) := by decide +kernel
theorem d_M_forget_13 : decode b_M_forget 13 = .ok (.aload_n 0, 1) := by decide +kernel
theorem d_M_forget_14 : decode b_M_forget 14 = .ok (.iload_n 1, 1) := by decide +kernel
theorem d_M_forget_15 : decode b_M_forget 15 = .ok (.invokevirtual 84, 3) := by decide +kernel
theorem d_M_forget_18 : decode b_M_forget 18 = .ok (.ifCond .ne 7, 3) := by decide +kernel
theorem d_M_forget_21 : decode b_M_forget 21 = .ok (.iconst 2, 1) := by decide +kernel
theorem d_M_forget_22 : decode b_M_forget 22 = .ok (.goto 4, 3) := by decide +kernel
theorem d_M_forget_25 : decode b_M_forget 25 = .ok (.iconst 0, 1) := by decide +kernel
theorem d_M_forget_26 : decode b_M_forget 26 = .ok (.putfield 56, 3) := by decide +kernel
theorem d_M_forget_29 : decode b_M_forget 29 = .ok (.aload_n 0, 1) := by decide +kernel
theorem d_M_forget_30 : decode b_M_forget 30 = .ok (.getfield 56, 3) := by decide +kernel
theorem d_M_forget_33 : decode b_M_forget 33 = .ok (.ifCond .le 5, 3) := by decide +kernel
theorem d_M_forget_36 : decode b_M_forget 36 = .ok (.iconst 0, 1) := by decide +kernel
theorem d_M_forget_37 : decode b_M_forget 37 = .ok (.ireturn, 1) := by decide +kernel
theorem d_M_forget_38 : decode b_M_forget 38 = .ok (.aload_n 0, 1) := by decide +kernel
theorem d_M_forget_39 : decode b_M_forget 39 = .ok (.getfield 60, 3) := by decide +kernel
theorem d_M_forget_42 : decode b_M_forget 42 = .ok (.iload_n 1, 1) := by decide +kernel
theorem d_M_forget_43 : decode b_M_forget 43 = .ok (.isub, 1) := by decide +kernel
theorem d_M_forget_44 : decode b_M_forget 44 = .ok (.istore_n 2, 1) := by decide +kernel
theorem d_M_forget_45 : decode b_M_forget 45 = .ok (.aload_n 0, 1) := by decide +kernel
theorem d_M_forget_46 : decode b_M_forget 46 = .ok (.iload_n 1, 1) := by decide +kernel
theorem d_M_forget_47 : decode b_M_forget 47 = .ok (.putfield 60, 3) := by decide +kernel
theorem d_M_forget_50 : decode b_M_forget 50 = .ok (.iload_n 2, 1) := by decide +kernel
theorem d_M_forget_51 : decode b_M_forget 51 = .ok (.ireturn, 1) := by decide +kernel
theorem d_M_marked_0 : decode b_M_marked 0 = .ok (.aload_n 0, 1) := by decide +kernel
theorem d_M_marked_1 : decode b_M_marked 1 = .ok (.iconst 0, 1) := by decide +kernel
theorem d_M_marked_2 : decode b_M_marked 2 = .ok (.putfield 56, 3) := by decide +kernel
theorem d_M_marked_5 : decode b_M_marked 5 = .ok (.aload_n 0, 1) := by decide +kernel
theorem d_M_marked_6 : decode b_M_marked 6 = .ok (.getfield 13, 3) := by decide +kernel
theorem d_M_marked_9 : decode b_M_marked 9 = .ok (.iload_n 1, 1) := by decide +kernel
theorem d_M_marked_10 : decode b_M_marked 10 = .ok (.bipush 63, 2) := by decide +kernel
theorem d_M_marked_12 : decode b_M_marked 12 = .ok (.iand, 1) := by decide +kernel
theorem d_M_marked_13 : decode b_M_marked 13 = .ok (.baload, 1) := by decide +kernel
theorem d_M_marked_14 : decode b_M_marked 14 = .ok (.ireturn, 1) := by decide +kernel
theorem d_M_count_0 : decode b_M_count 0 = .ok (.aload_n 0, 1) := by decide +kernel
theorem d_M_count_1 : decode b_M_count 1 = .ok (.iconst 0, 1) := by decide +kernel
theorem d_M_count_2 : decode b_M_count 2 = .ok (.putfield 56, 3) := by decide +kernel
theorem d_M_count_5 : decode b_M_count 5 = .ok (.iconst 0, 1) := by decide +kernel
theorem d_M_count_6 : decode b_M_count 6 = .ok (.istore_n 2, 1) := by decide +kernel
theorem d_M_count_7 : decode b_M_count 7 = .ok (.iload_n 1, 1) := by decide +kernel
theorem d_M_count_8 : decode b_M_count 8 = .ok (.tableswitch 186 0 9 #[56, 61, 71, 76, 113, 118, 123, 128, 133, 166], 56) := by decide +kernel
theorem d_M_count_64 : decode b_M_count 64 = .ok (.aload_n 0, 1) := by decide +kernel
theorem d_M_count_65 : decode b_M_count 65 = .ok (.getfield 60, 3) := by decide +kernel
theorem d_M_count_68 : decode b_M_count 68 = .ok (.ireturn, 1) := by decide +kernel
theorem d_M_count_69 : decode b_M_count 69 = .ok (.aload_n 0, 1) := by decide +kernel
theorem d_M_count_70 : decode b_M_count 70 = .ok (.getfield 60, 3) := by decide +kernel
theorem d_M_count_73 : decode b_M_count 73 = .ok (.aload_n 0, 1) := by decide +kernel
theorem d_M_count_74 : decode b_M_count 74 = .ok (.getfield 63, 3) := by decide +kernel
theorem d_M_count_77 : decode b_M_count 77 = .ok (.isub, 1) := by decide +kernel
theorem d_M_count_78 : decode b_M_count 78 = .ok (.ireturn, 1) := by decide +kernel
theorem d_M_count_79 : decode b_M_count 79 = .ok (.aload_n 0, 1) := by decide +kernel
theorem d_M_count_80 : decode b_M_count 80 = .ok (.getfield 81, 3) := by decide +kernel
theorem d_M_count_83 : decode b_M_count 83 = .ok (.ireturn, 1) := by decide +kernel
theorem d_M_count_84 : decode b_M_count 84 = .ok (.aload_n 0, 1) := by decide +kernel
theorem d_M_count_85 : decode b_M_count 85 = .ok (.getfield 63, 3) := by decide +kernel
theorem d_M_count_88 : decode b_M_count 88 = .ok (.istore_n 3, 1) := by decide +kernel
theorem d_M_count_89 : decode b_M_count 89 = .ok (.iload_n 3, 1) := by decide +kernel
theorem d_M_count_90 : decode b_M_count 90 = .ok (.aload_n 0, 1) := by decide +kernel
theorem d_M_count_91 : decode b_M_count 91 = .ok (.getfield 60, 3) := by decide +kernel
theorem d_M_count_94 : decode b_M_count 94 = .ok (.if_icmp .ge 25, 3) := by decide +kernel
theorem d_M_count_97 : decode b_M_count 97 = .ok (.iload_n 2, 1) := by decide +kernel
theorem d_M_count_98 : decode b_M_count 98 = .ok (.aload_n 0, 1) := by decide +kernel
theorem d_M_count_99 : decode b_M_count 99 = .ok (.iload_n 3, 1) := by decide +kernel
theorem d_M_count_100 : decode b_M_count 100 = .ok (.invokevirtual 94, 3) := by decide +kernel
theorem d_M_count_103 : decode b_M_count 103 = .ok (.ifCond .eq 7, 3) := by decide +kernel
theorem d_M_count_106 : decode b_M_count 106 = .ok (.iconst 1, 1) := by decide +kernel
theorem d_M_count_107 : decode b_M_count 107 = .ok (.goto 4, 3) := by decide +kernel
theorem d_M_count_110 : decode b_M_count 110 = .ok (.iconst 0, 1) := by decide +kernel
theorem d_M_count_111 : decode b_M_count 111 = .ok (.iadd, 1) := by decide +kernel
theorem d_M_count_112 : decode b_M_count 112 = .ok (.istore_n 2, 1) := by decide +kernel
theorem d_M_count_113 : decode b_M_count 113 = .ok (.iinc 3 1, 3) := by decide +kernel
theorem d_M_count_116 : decode b_M_count 116 = .ok (.goto (-27), 3) := by decide +kernel
theorem d_M_count_119 : decode b_M_count 119 = .ok (.iload_n 2, 1) := by decide +kernel
theorem d_M_count_120 : decode b_M_count 120 = .ok (.ireturn, 1) := by decide +kernel
theorem d_M_count_121 : decode b_M_count 121 = .ok (.aload_n 0, 1) := by decide +kernel
theorem d_M_count_122 : decode b_M_count 122 = .ok (.getfield 107, 3) := by decide +kernel
theorem d_M_count_125 : decode b_M_count 125 = .ok (.ireturn, 1) := by decide +kernel
theorem d_M_count_126 : decode b_M_count 126 = .ok (.aload_n 0, 1) := by decide +kernel
theorem d_M_count_127 : decode b_M_count 127 = .ok (.getfield 104, 3) := by decide +kernel
theorem d_M_count_130 : decode b_M_count 130 = .ok (.ireturn, 1) := by decide +kernel
theorem d_M_count_131 : decode b_M_count 131 = .ok (.aload_n 0, 1) := by decide +kernel
theorem d_M_count_132 : decode b_M_count 132 = .ok (.getfield 126, 3) := by decide +kernel
theorem d_M_count_135 : decode b_M_count 135 = .ok (.ireturn, 1) := by decide +kernel
theorem d_M_count_136 : decode b_M_count 136 = .ok (.aload_n 0, 1) := by decide +kernel
theorem d_M_count_137 : decode b_M_count 137 = .ok (.getfield 129, 3) := by decide +kernel
theorem d_M_count_140 : decode b_M_count 140 = .ok (.ireturn, 1) := by decide +kernel
theorem d_M_count_141 : decode b_M_count 141 = .ok (.iconst 0, 1) := by decide +kernel
theorem d_M_count_142 : decode b_M_count 142 = .ok (.istore_n 3, 1) := by decide +kernel
theorem d_M_count_143 : decode b_M_count 143 = .ok (.iload_n 3, 1) := by decide +kernel
theorem d_M_count_144 : decode b_M_count 144 = .ok (.bipush 64, 2) := by decide +kernel
theorem d_M_count_146 : decode b_M_count 146 = .ok (.if_icmp .ge 26, 3) := by decide +kernel
theorem d_M_count_149 : decode b_M_count 149 = .ok (.iload_n 2, 1) := by decide +kernel
theorem d_M_count_150 : decode b_M_count 150 = .ok (.aload_n 0, 1) := by decide +kernel
theorem d_M_count_151 : decode b_M_count 151 = .ok (.getfield 13, 3) := by decide +kernel
theorem d_M_count_154 : decode b_M_count 154 = .ok (.iload_n 3, 1) := by decide +kernel
theorem d_M_count_155 : decode b_M_count 155 = .ok (.baload, 1) := by decide +kernel
theorem d_M_count_156 : decode b_M_count 156 = .ok (.ifCond .eq 7, 3) := by decide +kernel
theorem d_M_count_159 : decode b_M_count 159 = .ok (.iconst 1, 1) := by decide +kernel
theorem d_M_count_160 : decode b_M_count 160 = .ok (.goto 4, 3) := by decide +kernel
theorem d_M_count_163 : decode b_M_count 163 = .ok (.iconst 0, 1) := by decide +kernel
theorem d_M_count_164 : decode b_M_count 164 = .ok (.iadd, 1) := by decide +kernel
theorem d_M_count_165 : decode b_M_count 165 = .ok (.istore_n 2, 1) := by decide +kernel
theorem d_M_count_166 : decode b_M_count 166 = .ok (.iinc 3 1, 3) := by decide +kernel
theorem d_M_count_169 : decode b_M_count 169 = .ok (.goto (-26), 3) := by decide +kernel
theorem d_M_count_172 : decode b_M_count 172 = .ok (.iload_n 2, 1) := by decide +kernel
theorem d_M_count_173 : decode b_M_count 173 = .ok (.ireturn, 1) := by decide +kernel
theorem d_M_count_174 : decode b_M_count 174 = .ok (.aload_n 0, 1) := by decide +kernel
theorem d_M_count_175 : decode b_M_count 175 = .ok (.getfield 63, 3) := by decide +kernel
theorem d_M_count_178 : decode b_M_count 178 = .ok (.aload_n 0, 1) := by decide +kernel
theorem d_M_count_179 : decode b_M_count 179 = .ok (.getfield 60, 3) := by decide +kernel
theorem d_M_count_182 : decode b_M_count 182 = .ok (.if_icmp .ne 7, 3) := by decide +kernel
theorem d_M_count_185 : decode b_M_count 185 = .ok (.iconst (-1), 1) := by decide +kernel
theorem d_M_count_186 : decode b_M_count 186 = .ok (.goto 7, 3) := by decide +kernel
theorem d_M_count_189 : decode b_M_count 189 = .ok (.aload_n 0, 1) := by decide +kernel
theorem d_M_count_190 : decode b_M_count 190 = .ok (.getfield 63, 3) := by decide +kernel
theorem d_M_count_193 : decode b_M_count 193 = .ok (.ireturn, 1) := by decide +kernel
theorem d_M_count_194 : decode b_M_count 194 = .ok (.iconst (-1), 1) := by decide +kernel
theorem d_M_count_195 : decode b_M_count 195 = .ok (.ireturn, 1) := by decide +kernel
