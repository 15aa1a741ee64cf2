theorem d_M_tried_136 : decode b_M_tried 136 = .ok (.iload 4, 2) := by decide +kernel
theorem d_M_tried_138 : decode b_M_tried 138 = .ok (.iadd, 1) := by decide +kernel
theorem d_M_tried_139 : decode b_M_tried 139 = .ok (.invokevirtual 116, 3) := by decide +kernel
theorem d_M_tried_142 : decode b_M_tried 142 = .ok (.istore 5, 2) := by decide +kernel
theorem d_M_tried_144 : decode b_M_tried 144 = .ok (.iload 5, 2) := by decide +kernel
theorem d_M_tried_146 : decode b_M_tried 146 = .ok (.ifCond .lt 18, 3) := by decide +kernel
theorem d_M_tried_149 : decode b_M_tried 149 = .ok (.aload_n 0, 1) := by decide +kernel
theorem d_M_tried_150 : decode b_M_tried 150 = .ok (.getfield 35, 3) := by decide +kernel
theorem d_M_tried_153 : decode b_M_tried 153 = .ok (.iload 5, 2) := by decide +kernel
theorem d_M_tried_155 : decode b_M_tried 155 = .ok (.bipush 127, 2) := by decide +kernel
theorem d_M_tried_157 : decode b_M_tried 157 = .ok (.iand, 1) := by decide +kernel
theorem d_M_tried_158 : decode b_M_tried 158 = .ok (.baload, 1) := by decide +kernel
theorem d_M_tried_159 : decode b_M_tried 159 = .ok (.ifCond .ne 5, 3) := by decide +kernel
theorem d_M_tried_162 : decode b_M_tried 162 = .ok (.iconst 4, 1) := by decide +kernel
theorem d_M_tried_163 : decode b_M_tried 163 = .ok (.ireturn, 1) := by decide +kernel
theorem d_M_tried_164 : decode b_M_tried 164 = .ok (.iinc 4 1, 3) := by decide +kernel
theorem d_M_tried_167 : decode b_M_tried 167 = .ok (.goto (-50), 3) := by decide +kernel
theorem d_M_tried_170 : decode b_M_tried 170 = .ok (.aload_n 0, 1) := by decide +kernel
theorem d_M_tried_171 : decode b_M_tried 171 = .ok (.getfield 32, 3) := by decide +kernel
theorem d_M_tried_174 : decode b_M_tried 174 = .ok (.iload_n 2, 1) := by decide +kernel
theorem d_M_tried_175 : decode b_M_tried 175 = .ok (.iconst 0, 1) := by decide +kernel
theorem d_M_tried_176 : decode b_M_tried 176 = .ok (.iastore, 1) := by decide +kernel
theorem d_M_tried_177 : decode b_M_tried 177 = .ok (.iconst 0, 1) := by decide +kernel
theorem d_M_tried_178 : decode b_M_tried 178 = .ok (.istore 4, 2) := by decide +kernel
theorem d_M_tried_180 : decode b_M_tried 180 = .ok (.iload 4, 2) := by decide +kernel
theorem d_M_tried_182 : decode b_M_tried 182 = .ok (.aload_n 0, 1) := by decide +kernel
theorem d_M_tried_183 : decode b_M_tried 183 = .ok (.getfield 20, 3) := by decide +kernel
theorem d_M_tried_186 : decode b_M_tried 186 = .ok (.iload_n 2, 1) := by decide +kernel
theorem d_M_tried_187 : decode b_M_tried 187 = .ok (.iaload, 1) := by decide +kernel
theorem d_M_tried_188 : decode b_M_tried 188 = .ok (.if_icmp .ge 32, 3) := by decide +kernel
theorem d_M_tried_191 : decode b_M_tried 191 = .ok (.aload_n 0, 1) := by decide +kernel
theorem d_M_tried_192 : decode b_M_tried 192 = .ok (.getfield 32, 3) := by decide +kernel
theorem d_M_tried_195 : decode b_M_tried 195 = .ok (.iload_n 2, 1) := by decide +kernel
theorem d_M_tried_196 : decode b_M_tried 196 = .ok (.aload_n 0, 1) := by decide +kernel
theorem d_M_tried_197 : decode b_M_tried 197 = .ok (.getfield 32, 3) := by decide +kernel
theorem d_M_tried_200 : decode b_M_tried 200 = .ok (.iload_n 2, 1) := by decide +kernel
theorem d_M_tried_201 : decode b_M_tried 201 = .ok (.iaload, 1) := by decide +kernel
theorem d_M_tried_202 : decode b_M_tried 202 = .ok (.bipush 8, 2) := by decide +kernel
theorem d_M_tried_204 : decode b_M_tried 204 = .ok (.ishl, 1) := by decide +kernel
theorem d_M_tried_205 : decode b_M_tried 205 = .ok (.aload_n 0, 1) := by decide +kernel
theorem d_M_tried_206 : decode b_M_tried 206 = .ok (.iload_n 1, 1) := by decide +kernel
theorem d_M_tried_207 : decode b_M_tried 207 = .ok (.iload 4, 2) := by decide +kernel
theorem d_M_tried_209 : decode b_M_tried 209 = .ok (.invokevirtual 120, 3) := by decide +kernel
theorem d_M_tried_212 : decode b_M_tried 212 = .ok (.ior, 1) := by decide +kernel
theorem d_M_tried_213 : decode b_M_tried 213 = .ok (.iastore, 1) := by decide +kernel
theorem d_M_tried_214 : decode b_M_tried 214 = .ok (.iinc 4 1, 3) := by decide +kernel
theorem d_M_tried_217 : decode b_M_tried 217 = .ok (.goto (-37), 3) := by decide +kernel
theorem d_M_tried_220 : decode b_M_tried 220 = .ok (.aload_n 0, 1) := by decide +kernel
theorem d_M_tried_221 : decode b_M_tried 221 = .ok (.getfield 38, 3) := by decide +kernel
theorem d_M_tried_224 : decode b_M_tried 224 = .ok (.iload_n 2, 1) := by decide +kernel
theorem d_M_tried_225 : decode b_M_tried 225 = .ok (.iconst 1, 1) := by decide +kernel
theorem d_M_tried_226 : decode b_M_tried 226 = .ok (.bastore, 1) := by decide +kernel
theorem d_M_tried_227 : decode b_M_tried 227 = .ok (.iconst 1, 1) := by decide +kernel
theorem d_M_tried_228 : decode b_M_tried 228 = .ok (.ireturn, 1) := by decide +kernel
theorem d_M_isHeld_0 : decode b_M_isHeld 0 = .ok (.aload_n 0, 1) := by decide +kernel
theorem d_M_isHeld_1 : decode b_M_isHeld 1 = .ok (.getfield 63, 3) := by decide +kernel
theorem d_M_isHeld_4 : decode b_M_isHeld 4 = .ok (.istore_n 2, 1) := by decide +kernel
theorem d_M_isHeld_5 : decode b_M_isHeld 5 = .ok (.iload_n 2, 1) := by decide +kernel
theorem d_M_isHeld_6 : decode b_M_isHeld 6 = .ok (.iload_n 1, 1) := by decide +kernel
theorem d_M_isHeld_7 : decode b_M_isHeld 7 = .ok (.if_icmp .ge 37, 3) := by decide +kernel
theorem d_M_isHeld_10 : decode b_M_isHeld 10 = .ok (.aload_n 0, 1) := by decide +kernel
theorem d_M_isHeld_11 : decode b_M_isHeld 11 = .ok (.getfield 17, 3) := by decide +kernel
theorem d_M_isHeld_14 : decode b_M_isHeld 14 = .ok (.iload_n 2, 1) := by decide +kernel
theorem d_M_isHeld_15 : decode b_M_isHeld 15 = .ok (.bipush 127, 2) := by decide +kernel
theorem d_M_isHeld_17 : decode b_M_isHeld 17 = .ok (.iand, 1) := by decide +kernel
theorem d_M_isHeld_18 : decode b_M_isHeld 18 = .ok (.iaload, 1) := by decide +kernel
theorem d_M_isHeld_19 : decode b_M_isHeld 19 = .ok (.iconst 2, 1) := by decide +kernel
theorem d_M_isHeld_20 : decode b_M_isHeld 20 = .ok (.if_icmp .eq 16, 3) := by decide +kernel
theorem d_M_isHeld_23 : decode b_M_isHeld 23 = .ok (.aload_n 0, 1) := by decide +kernel
theorem d_M_isHeld_24 : decode b_M_isHeld 24 = .ok (.getfield 17, 3) := by decide +kernel
theorem d_M_isHeld_27 : decode b_M_isHeld 27 = .ok (.iload_n 2, 1) := by decide +kernel
theorem d_M_isHeld_28 : decode b_M_isHeld 28 = .ok (.bipush 127, 2) := by decide +kernel
theorem d_M_isHeld_30 : decode b_M_isHeld 30 = .ok (.iand, 1) := by decide +kernel
theorem d_M_isHeld_31 : decode b_M_isHeld 31 = .ok (.iaload, 1) := by decide +kernel
theorem d_M_isHeld_32 : decode b_M_isHeld 32 = .ok (.iconst 3, 1) := by decide +kernel
theorem d_M_isHeld_33 : decode b_M_isHeld 33 = .ok (.if_icmp .ne 5, 3) := by decide +kernel
theorem d_M_isHeld_36 : decode b_M_isHeld 36 = .ok (.iconst 1, 1) := by decide +kernel
theorem d_M_isHeld_37 : decode b_M_isHeld 37 = .ok (.ireturn, 1) := by decide +kernel
theorem d_M_isHeld_38 : decode b_M_isHeld 38 = .ok (.iinc 2 1, 3) := by decide +kernel
theorem d_M_isHeld_41 : decode b_M_isHeld 41 = .ok (.goto (-36), 3) := by decide +kernel
theorem d_M_isHeld_44 : decode b_M_isHeld 44 = .ok (.aload_n 0, 1) := by decide +kernel
theorem d_M_isHeld_45 : decode b_M_isHeld 45 = .ok (.getfield 26, 3) := by decide +kernel
theorem d_M_isHeld_48 : decode b_M_isHeld 48 = .ok (.iload_n 1, 1) := by decide +kernel
theorem d_M_isHeld_49 : decode b_M_isHeld 49 = .ok (.bipush 127, 2) := by decide +kernel
theorem d_M_isHeld_51 : decode b_M_isHeld 51 = .ok (.iand, 1) := by decide +kernel
theorem d_M_isHeld_52 : decode b_M_isHeld 52 = .ok (.iaload, 1) := by decide +kernel
theorem d_M_isHeld_53 : decode b_M_isHeld 53 = .ok (.sipush 3072, 3) := by decide +kernel
theorem d_M_isHeld_56 : decode b_M_isHeld 56 = .ok (.if_icmp .lt 22, 3) := by decide +kernel
theorem d_M_isHeld_59 : decode b_M_isHeld 59 = .ok (.iload_n 1, 1) := by decide +kernel
theorem d_M_isHeld_60 : decode b_M_isHeld 60 = .ok (.aload_n 0, 1) := by decide +kernel
theorem d_M_isHeld_61 : decode b_M_isHeld 61 = .ok (.getfield 63, 3) := by decide +kernel
theorem d_M_isHeld_64 : decode b_M_isHeld 64 = .ok (.if_icmp .ne 10, 3) := by decide +kernel
theorem d_M_isHeld_67 : decode b_M_isHeld 67 = .ok (.aload_n 0, 1) := by decide +kernel
theorem d_M_isHeld_68 : decode b_M_isHeld 68 = .ok (.getfield 81, 3) := by decide +kernel
theorem d_M_isHeld_71 : decode b_M_isHeld 71 = .ok (.ifCond .le 7, 3) := by decide +kernel
theorem d_M_isHeld_74 : decode b_M_isHeld 74 = .ok (.iconst 1, 1) := by decide +kernel
theorem d_M_isHeld_75 : decode b_M_isHeld 75 = .ok (.goto 4, 3) := by decide +kernel
theorem d_M_isHeld_78 : decode b_M_isHeld 78 = .ok (.iconst 0, 1) := by decide +kernel
theorem d_M_isHeld_79 : decode b_M_isHeld 79 = .ok (.ireturn, 1) := by decide +kernel
theorem d_M_hasUnknown_0 : decode b_M_hasUnknown 0 = .ok (.iconst 0, 1) := by decide +kernel
theorem d_M_hasUnknown_1 : decode b_M_hasUnknown 1 = .ok (.istore_n 2, 1) := by decide +kernel
theorem d_M_hasUnknown_2 : decode b_M_hasUnknown 2 = .ok (.aload_n 0, 1) := by decide +kernel
theorem d_M_hasUnknown_3 : decode b_M_hasUnknown 3 = .ok (.getfield 63, 3) := by decide +kernel
theorem d_M_hasUnknown_6 : decode b_M_hasUnknown 6 = .ok (.istore_n 3, 1) := by decide +kernel
theorem d_M_hasUnknown_7 : decode b_M_hasUnknown 7 = .ok (.iload_n 3, 1) := by decide +kernel
theorem d_M_hasUnknown_8 : decode b_M_hasUnknown 8 = .ok (.iload_n 1, 1) := by decide +kernel
theorem d_M_hasUnknown_9 : decode b_M_hasUnknown 9 = .ok (.if_icmp .ge 45, 3) := by decide +kernel
theorem d_M_hasUnknown_12 : decode b_M_hasUnknown 12 = .ok (.iload_n 2, 1) := by decide +kernel
theorem d_M_hasUnknown_13 : decode b_M_hasUnknown 13 = .ok (.ifCond .ne 29, 3) := by decide +kernel
theorem d_M_hasUnknown_16 : decode b_M_hasUnknown 16 = .ok (.aload_n 0, 1) := by decide +kernel
theorem d_M_hasUnknown_17 : decode b_M_hasUnknown 17 = .ok (.getfield 17, 3) := by decide +kernel
theorem d_M_hasUnknown_20 : decode b_M_hasUnknown 20 = .ok (.iload_n 3, 1) := by decide +kernel
theorem d_M_hasUnknown_21 : decode b_M_hasUnknown 21 = .ok (.bipush 127, 2) := by decide +kernel
theorem d_M_hasUnknown_23 : decode b_M_hasUnknown 23 = .ok (.iand, 1) := by decide +kernel
theorem d_M_hasUnknown_24 : decode b_M_hasUnknown 24 = .ok (.iaload, 1) := by decide +kernel
theorem d_M_hasUnknown_25 : decode b_M_hasUnknown 25 = .ok (.iconst 1, 1) := by decide +kernel
theorem d_M_hasUnknown_26 : decode b_M_hasUnknown 26 = .ok (.if_icmp .ne 20, 3) := by decide +kernel
theorem d_M_hasUnknown_29 : decode b_M_hasUnknown 29 = .ok (.aload_n 0, 1) := by decide +kernel
theorem d_M_hasUnknown_30 : decode b_M_hasUnknown 30 = .ok (.getfield 26, 3) := by decide +kernel
theorem d_M_hasUnknown_33 : decode b_M_hasUnknown 33 = .ok (.iload_n 3, 1) := by decide +kernel
theorem d_M_hasUnknown_34 : decode b_M_hasUnknown 34 = .ok (.bipush 127, 2) := by decide +kernel
theorem d_M_hasUnknown_36 : decode b_M_hasUnknown 36 = .ok (.iand, 1) := by decide +kernel
theorem d_M_hasUnknown_37 : decode b_M_hasUnknown 37 = .ok (.iaload, 1) := by decide +kernel
theorem d_M_hasUnknown_38 : decode b_M_hasUnknown 38 = .ok (.iconst (-1), 1) := by decide +kernel
theorem d_M_hasUnknown_39 : decode b_M_hasUnknown 39 = .ok (.if_icmp .ne 7, 3) := by decide +kernel
theorem d_M_hasUnknown_42 : decode b_M_hasUnknown 42 = .ok (.iconst 1, 1) := by decide +kernel
theorem d_M_hasUnknown_43 : decode b_M_hasUnknown 43 = .ok (.goto 4, 3) := by decide +kernel
theorem d_M_hasUnknown_46 : decode b_M_hasUnknown 46 = .ok (.iconst 0, 1) := by decide +kernel
theorem d_M_hasUnknown_47 : decode b_M_hasUnknown 47 = .ok (.istore_n 2, 1) := by decide +kernel
theorem d_M_hasUnknown_48 : decode b_M_hasUnknown 48 = .ok (.iinc 3 1, 3) := by decide +kernel
theorem d_M_hasUnknown_51 : decode b_M_hasUnknown 51 = .ok (.goto (-44), 3) := by decide +kernel
theorem d_M_hasUnknown_54 : decode b_M_hasUnknown 54 = .ok (.iload_n 2, 1) := by decide +kernel
theorem d_M_hasUnknown_55 : decode b_M_hasUnknown 55 = .ok (.ireturn, 1) := by decide +kernel
theorem d_M_storeOf_0 : decode b_M_storeOf 0 = .ok (.iload_n 1, 1) := by decide +kernel
theorem d_M_storeOf_1 : decode b_M_storeOf 1 = .ok (.iconst 1, 1) := by decide +kernel
theorem d_M_storeOf_2 : decode b_M_storeOf 2 = .ok (.isub, 1) := by decide +kernel
theorem d_M_storeOf_3 : decode b_M_storeOf 3 = .ok (.istore_n 3, 1) := by decide +kernel
theorem d_M_storeOf_4 : decode b_M_storeOf 4 = .ok (.iload_n 3, 1) := by decide +kernel
theorem d_M_storeOf_5 : decode b_M_storeOf 5 = .ok (.aload_n 0, 1) := by decide +kernel
theorem d_M_storeOf_6 : decode b_M_storeOf 6 = .ok (.getfield 63, 3) := by decide +kernel
theorem d_M_storeOf_9 : decode b_M_storeOf 9 = .ok (.if_icmp .lt 36, 3) := by decide +kernel
theorem d_M_storeOf_12 : decode b_M_storeOf 12 = .ok (.aload_n 0, 1) := by decide +kernel
theorem d_M_storeOf_13 : decode b_M_storeOf 13 = .ok (.getfield 17, 3) := by decide +kernel
theorem d_M_storeOf_16 : decode b_M_storeOf 16 = .ok (.iload_n 3, 1) := by decide +kernel
theorem d_M_storeOf_17 : decode b_M_storeOf 17 = .ok (.bipush 127, 2) := by decide +kernel
theorem d_M_storeOf_19 : decode b_M_storeOf 19 = .ok (.iand, 1) := by decide +kernel
theorem d_M_storeOf_20 : decode b_M_storeOf 20 = .ok (.iaload, 1) := by decide +kernel
theorem d_M_storeOf_21 : decode b_M_storeOf 21 = .ok (.iconst 1, 1) := by decide +kernel
theorem d_M_storeOf_22 : decode b_M_storeOf 22 = .ok (.if_icmp .ne 17, 3) := by decide +kernel
theorem d_M_storeOf_25 : decode b_M_storeOf 25 = .ok (.aload_n 0, 1) := by decide +kernel
theorem d_M_storeOf_26 : decode b_M_storeOf 26 = .ok (.iload_n 3, 1) := by decide +kernel
theorem d_M_storeOf_27 : decode b_M_storeOf 27 = .ok (.bipush 127, 2) := by decide +kernel
theorem d_M_storeOf_29 : decode b_M_storeOf 29 = .ok (.iand, 1) := by decide +kernel
theorem d_M_storeOf_30 : decode b_M_storeOf 30 = .ok (.iload_n 2, 1) := by decide +kernel
theorem d_M_storeOf_31 : decode b_M_storeOf 31 = .ok (.invokevirtual 78, 3) := by decide +kernel
theorem d_M_storeOf_34 : decode b_M_storeOf 34 = .ok (.ifCond .eq 5, 3) := by decide +kernel
theorem d_M_storeOf_37 : decode b_M_storeOf 37 = .ok (.iload_n 3, 1) := by decide +kernel
theorem d_M_storeOf_38 : decode b_M_storeOf 38 = .ok (.ireturn, 1) := by decide +kernel
theorem d_M_storeOf_39 : decode b_M_storeOf 39 = .ok (.iinc 3 (-1), 3) := by decide +kernel
theorem d_M_storeOf_42 : decode b_M_storeOf 42 = .ok (.goto (-38), 3) := by decide +kernel
theorem d_M_storeOf_45 : decode b_M_storeOf 45 = .ok (.iconst (-1), 1) := by decide +kernel
theorem d_M_storeOf_46 : decode b_M_storeOf 46 = .ok (.ireturn, 1) := by decide +kernel
theorem d_M_taken_0 : decode b_M_taken 0 = .ok (.iload_n 1, 1) := by decide +kernel
theorem d_M_taken_1 : decode b_M_taken 1 = .ok (.bipush 127, 2) := by decide +kernel
theorem d_M_taken_3 : decode b_M_taken 3 = .ok (.iand, 1) := by decide +kernel
theorem d_M_taken_4 : decode b_M_taken 4 = .ok (.istore_n 3, 1) := by decide +kernel
theorem d_M_taken_5 : decode b_M_taken 5 = .ok (.aload_n 0, 1) := by decide +kernel
theorem d_M_taken_6 : decode b_M_taken 6 = .ok (.getfield 26, 3) := by decide +kernel
theorem d_M_taken_9 : decode b_M_taken 9 = .ok (.iload_n 3, 1) := by decide +kernel
theorem d_M_taken_10 : decode b_M_taken 10 = .ok (.iaload, 1) := by decide +kernel
theorem d_M_taken_11 : decode b_M_taken 11 = .ok (.iload_n 2, 1) := by decide +kernel
theorem d_M_taken_12 : decode b_M_taken 12 = .ok (.iadd, 1) := by decide +kernel
theorem d_M_taken_13 : decode b_M_taken 13 = .ok (.istore 4, 2) := by decide +kernel
theorem d_M_taken_15 : decode b_M_taken 15 = .ok (.aload_n 0, 1) := by decide +kernel
theorem d_M_taken_16 : decode b_M_taken 16 = .ok (.iload_n 1, 1) := by decide +kernel
theorem d_M_taken_17 : decode b_M_taken 17 = .ok (.iload 4, 2) := by decide +kernel
theorem d_M_taken_19 : decode b_M_taken 19 = .ok (.invokevirtual 116, 3) := by decide +kernel
theorem d_M_taken_22 : decode b_M_taken 22 = .ok (.istore 5, 2) := by decide +kernel
theorem d_M_taken_24 : decode b_M_taken 24 = .ok (.aload_n 0, 1) := by decide +kernel
theorem d_M_taken_25 : decode b_M_taken 25 = .ok (.iload 4, 2) := by decide +kernel
theorem d_M_taken_27 : decode b_M_taken 27 = .ok (.invokevirtual 123, 3) := by decide +kernel
theorem d_M_taken_30 : decode b_M_taken 30 = .ok (.istore 6, 2) := by decide +kernel
theorem d_M_taken_32 : decode b_M_taken 32 = .ok (.aload_n 0, 1) := by decide +kernel
theorem d_M_taken_33 : decode b_M_taken 33 = .ok (.getfield 41, 3) := by decide +kernel
theorem d_M_taken_36 : decode b_M_taken 36 = .ok (.iconst 4, 1) := by decide +kernel
theorem d_M_taken_37 : decode b_M_taken 37 = .ok (.iload_n 3, 1) := by decide +kernel
theorem d_M_taken_38 : decode b_M_taken 38 = .ok (.imul, 1) := by decide +kernel
theorem d_M_taken_39 : decode b_M_taken 39 = .ok (.iload_n 2, 1) := by decide +kernel
theorem d_M_taken_40 : decode b_M_taken 40 = .ok (.iadd, 1) := by decide +kernel
theorem d_M_taken_41 : decode b_M_taken 41 = .ok (.iload 5, 2) := by decide +kernel
theorem d_M_taken_43 : decode b_M_taken 43 = .ok (.ifCond .lt 8, 3) := by decide +kernel
theorem d_M_taken_46 : decode b_M_taken 46 = .ok (.iload 5, 2) := by decide +kernel
theorem d_M_taken_48 : decode b_M_taken 48 = .ok (.goto 14, 3) := by decide +kernel
theorem d_M_taken_51 : decode b_M_taken 51 = .ok (.iload 6, 2) := by decide +kernel
theorem d_M_taken_53 : decode b_M_taken 53 = .ok (.ifCond .lt 8, 3) := by decide +kernel
theorem d_M_taken_56 : decode b_M_taken 56 = .ok (.bipush (-2), 2) := by decide +kernel
theorem d_M_taken_58 : decode b_M_taken 58 = .ok (.goto 4, 3) := by decide +kernel
theorem d_M_taken_61 : decode b_M_taken 61 = .ok (.iconst (-1), 1) := by decide +kernel
theorem d_M_taken_62 : decode b_M_taken 62 = .ok (.iastore, 1) := by decide +kernel
theorem d_M_taken_63 : decode b_M_taken 63 = .ok (.aload_n 0, 1) := by decide +kernel
theorem d_M_taken_64 : decode b_M_taken 64 = .ok (.dup, 1) := by decide +kernel
theorem d_M_taken_65 : decode b_M_taken 65 = .ok (.getfield 126, 3) := by decide +kernel
theorem d_M_taken_68 : decode b_M_taken 68 = .ok (.iload 5, 2) := by decide +kernel
theorem d_M_taken_70 : decode b_M_taken 70 = .ok (.ifCond .lt 7, 3) := by decide +kernel
theorem d_M_taken_73 : decode b_M_taken 73 = .ok (.iconst 1, 1) := by decide +kernel
theorem d_M_taken_74 : decode b_M_taken 74 = .ok (.goto 4, 3) := by decide +kernel
theorem d_M_taken_77 : decode b_M_taken 77 = .ok (.iconst 0, 1) := by decide +kernel
theorem d_M_taken_78 : decode b_M_taken 78 = .ok (.iadd, 1) := by decide +kernel
theorem d_M_taken_79 : decode b_M_taken 79 = .ok (.putfield 126, 3) := by decide +kernel
theorem d_M_taken_82 : decode b_M_taken 82 = .ok (.aload_n 0, 1) := by decide +kernel
theorem d_M_taken_83 : decode b_M_taken 83 = .ok (.dup, 1) := by decide +kernel
theorem d_M_taken_84 : decode b_M_taken 84 = .ok (.getfield 129, 3) := by decide +kernel
theorem d_M_taken_87 : decode b_M_taken 87 = .ok (.iload 5, 2) := by decide +kernel
theorem d_M_taken_89 : decode b_M_taken 89 = .ok (.ifCond .lt 7, 3) := by decide +kernel
theorem d_M_taken_92 : decode b_M_taken 92 = .ok (.iconst 0, 1) := by decide +kernel
theorem d_M_taken_93 : decode b_M_taken 93 = .ok (.goto 4, 3) := by decide +kernel
theorem d_M_taken_96 : decode b_M_taken 96 = .ok (.iconst 1, 1) := by decide +kernel
theorem d_M_taken_97 : decode b_M_taken 97 = .ok (.iadd, 1) := by decide +kernel
theorem d_M_taken_98 : decode b_M_taken 98 = .ok (.putfield 129, 3) := by decide +kernel
theorem d_M_taken_101 : decode b_M_taken 101 = .ok (.iload 5, 2) := by decide +kernel
theorem d_M_taken_103 : decode b_M_taken 103 = .ok (.bipush 127, 2) := by decide +kernel
theorem d_M_taken_105 : decode b_M_taken 105 = .ok (.iand, 1) := by decide +kernel
theorem d_M_taken_106 : decode b_M_taken 106 = .ok (.istore 7, 2) := by decide +kernel
theorem d_M_taken_108 : decode b_M_taken 108 = .ok (.iload 5, 2) := by decide +kernel
theorem d_M_taken_110 : decode b_M_taken 110 = .ok (.ifCond .lt 31, 3) := by decide +kernel
theorem d_M_taken_113 : decode b_M_taken 113 = .ok (.aload_n 0, 1) := by decide +kernel
theorem d_M_taken_114 : decode b_M_taken 114 = .ok (.getfield 29, 3) := by decide +kernel
theorem d_M_taken_117 : decode b_M_taken 117 = .ok (.iload 7, 2) := by decide +kernel
theorem d_M_taken_119 : decode b_M_taken 119 = .ok (.iaload, 1) := by decide +kernel
theorem d_M_taken_120 : decode b_M_taken 120 = .ok (.aload_n 0, 1) := by decide +kernel
theorem d_M_taken_121 : decode b_M_taken 121 = .ok (.getfield 20, 3) := by decide +kernel
theorem d_M_taken_124 : decode b_M_taken 124 = .ok (.iload 7, 2) := by decide +kernel
theorem d_M_taken_126 : decode b_M_taken 126 = .ok (.iaload, 1) := by decide +kernel
theorem d_M_taken_127 : decode b_M_taken 127 = .ok (.iload 4, 2) := by decide +kernel
theorem d_M_taken_129 : decode b_M_taken 129 = .ok (.aload_n 0, 1) := by decide +kernel
theorem d_M_taken_130 : decode b_M_taken 130 = .ok (.getfield 26, 3) := by decide +kernel
theorem d_M_taken_133 : decode b_M_taken 133 = .ok (.iload 7, 2) := by decide +kernel
theorem d_M_taken_135 : decode b_M_taken 135 = .ok (.iaload, 1) := by decide +kernel
theorem d_M_taken_136 : decode b_M_taken 136 = .ok (.isub, 1) := by decide +kernel
theorem d_M_taken_137 : decode b_M_taken 137 = .ok (.invokestatic 70, 3) := by decide +kernel
theorem d_M_taken_140 : decode b_M_taken 140 = .ok (.ireturn, 1) := by decide +kernel
theorem d_M_taken_141 : decode b_M_taken 141 = .ok (.iload 6, 2) := by decide +kernel
theorem d_M_taken_143 : decode b_M_taken 143 = .ok (.ifCond .lt 33, 3) := by decide +kernel
theorem d_M_taken_146 : decode b_M_taken 146 = .ok (.aload_n 0, 1) := by decide +kernel
theorem d_M_taken_147 : decode b_M_taken 147 = .ok (.getfield 53, 3) := by decide +kernel
theorem d_M_taken_150 : decode b_M_taken 150 = .ok (.iload 6, 2) := by decide +kernel
theorem d_M_taken_152 : decode b_M_taken 152 = .ok (.iaload, 1) := by decide +kernel
theorem d_M_taken_153 : decode b_M_taken 153 = .ok (.aload_n 0, 1) := by decide +kernel
theorem d_M_taken_154 : decode b_M_taken 154 = .ok (.getfield 50, 3) := by decide +kernel
theorem d_M_taken_157 : decode b_M_taken 157 = .ok (.iload 6, 2) := by decide +kernel
theorem d_M_taken_159 : decode b_M_taken 159 = .ok (.iaload, 1) := by decide +kernel
theorem d_M_taken_160 : decode b_M_taken 160 = .ok (.iload 4, 2) := by decide +kernel
theorem d_M_taken_162 : decode b_M_taken 162 = .ok (.aload_n 0, 1) := by decide +kernel
theorem d_M_taken_163 : decode b_M_taken 163 = .ok (.getfield 47, 3) := by decide +kernel
theorem d_M_taken_166 : decode b_M_taken 166 = .ok (.iload 6, 2) := by decide +kernel
theorem d_M_taken_168 : decode b_M_taken 168 = .ok (.iaload, 1) := by decide +kernel
theorem d_M_taken_169 : decode b_M_taken 169 = .ok (.isub, 1) := by decide +kernel
theorem d_M_taken_170 : decode b_M_taken 170 = .ok (.invokestatic 70, 3) := by decide +kernel
theorem d_M_taken_173 : decode b_M_taken 173 = .ok (.goto 10, 3) := by decide +kernel
theorem d_M_taken_176 : decode b_M_taken 176 = .ok (.aload_n 0, 1) := by decide +kernel
theorem d_M_taken_177 : decode b_M_taken 177 = .ok (.getfield 7, 3) := by decide +kernel
theorem d_M_taken_180 : decode b_M_taken 180 = .ok (.iload 4, 2) := by decide +kernel
theorem d_M_taken_182 : decode b_M_taken 182 = .ok (.iaload, 1) := by decide +kernel
theorem d_M_taken_183 : decode b_M_taken 183 = .ok (.ireturn, 1) := by decide +kernel
theorem d_M_bufferOf_0 : decode b_M_bufferOf 0 = .ok (.iconst (-1), 1) := by decide +kernel
theorem d_M_bufferOf_1 : decode b_M_bufferOf 1 = .ok (.istore_n 2, 1) := by decide +kernel
theorem d_M_bufferOf_2 : decode b_M_bufferOf 2 = .ok (.iconst 0, 1) := by decide +kernel
theorem d_M_bufferOf_3 : decode b_M_bufferOf 3 = .ok (.istore_n 3, 1) := by decide +kernel
theorem d_M_bufferOf_4 : decode b_M_bufferOf 4 = .ok (.iload_n 3, 1) := by decide +kernel
theorem d_M_bufferOf_5 : decode b_M_bufferOf 5 = .ok (.aload_n 0, 1) := by decide +kernel
theorem d_M_bufferOf_6 : decode b_M_bufferOf 6 = .ok (.getfield 81, 3) := by decide +kernel
theorem d_M_bufferOf_9 : decode b_M_bufferOf 9 = .ok (.if_icmp .ge 34, 3) := by decide +kernel
theorem d_M_bufferOf_12 : decode b_M_bufferOf 12 = .ok (.aload_n 0, 1) := by decide +kernel
theorem d_M_bufferOf_13 : decode b_M_bufferOf 13 = .ok (.getfield 47, 3) := by decide +kernel
theorem d_M_bufferOf_16 : decode b_M_bufferOf 16 = .ok (.iload_n 3, 1) := by decide +kernel
theorem d_M_bufferOf_17 : decode b_M_bufferOf 17 = .ok (.iaload, 1) := by decide +kernel
theorem d_M_bufferOf_18 : decode b_M_bufferOf 18 = .ok (.aload_n 0, 1) := by decide +kernel
theorem d_M_bufferOf_19 : decode b_M_bufferOf 19 = .ok (.getfield 50, 3) := by decide +kernel
theorem d_M_bufferOf_22 : decode b_M_bufferOf 22 = .ok (.iload_n 3, 1) := by decide +kernel
theorem d_M_bufferOf_23 : decode b_M_bufferOf 23 = .ok (.iaload, 1) := by decide +kernel
theorem d_M_bufferOf_24 : decode b_M_bufferOf 24 = .ok (.iload_n 1, 1) := by decide +kernel
theorem d_M_bufferOf_25 : decode b_M_bufferOf 25 = .ok (.invokestatic 74, 3) := by decide +kernel
theorem d_M_bufferOf_28 : decode b_M_bufferOf 28 = .ok (.ifCond .eq 7, 3) := by decide +kernel
theorem d_M_bufferOf_31 : decode b_M_bufferOf 31 = .ok (.iload_n 3, 1) := by decide +kernel
theorem d_M_bufferOf_32 : decode b_M_bufferOf 32 = .ok (.goto 4, 3) := by decide +kernel
theorem d_M_bufferOf_35 : decode b_M_bufferOf 35 = .ok (.iload_n 2, 1) := by decide +kernel
theorem d_M_bufferOf_36 : decode b_M_bufferOf 36 = .ok (.istore_n 2, 1) := by decide +kernel
theorem d_M_bufferOf_37 : decode b_M_bufferOf 37 = .ok (.iinc 3 1, 3) := by decide +kernel
theorem d_M_bufferOf_40 : decode b_M_bufferOf 40 = .ok (.goto (-36), 3) := by decide +kernel
theorem d_M_bufferOf_43 : decode b_M_bufferOf 43 = .ok (.iload_n 2, 1) := by decide +kernel
theorem d_M_bufferOf_44 : decode b_M_bufferOf 44 = .ok (.ireturn, 1) := by decide +kernel
theorem d_M_byteOf_0 : decode b_M_byteOf 0 = .ok (.iload_n 0, 1) := by decide +kernel
theorem d_M_byteOf_1 : decode b_M_byteOf 1 = .ok (.bipush 8, 2) := by decide +kernel
theorem d_M_byteOf_3 : decode b_M_byteOf 3 = .ok (.iload_n 1, 1) := by decide +kernel
theorem d_M_byteOf_4 : decode b_M_byteOf 4 = .ok (.iconst 1, 1) := by decide +kernel
theorem d_M_byteOf_5 : decode b_M_byteOf 5 = .ok (.isub, 1) := by decide +kernel
theorem d_M_byteOf_6 : decode b_M_byteOf 6 = .ok (.iload_n 2, 1) := by decide +kernel
theorem d_M_byteOf_7 : decode b_M_byteOf 7 = .ok (.isub, 1) := by decide +kernel
theorem d_M_byteOf_8 : decode b_M_byteOf 8 = .ok (.imul, 1) := by decide +kernel
theorem d_M_byteOf_9 : decode b_M_byteOf 9 = .ok (.ishr, 1) := by decide +kernel
theorem d_M_byteOf_10 : decode b_M_byteOf 10 = .ok (.sipush 255, 3) := by decide +kernel
theorem d_M_byteOf_13 : decode b_M_byteOf 13 = .ok (.iand, 1) := by decide +kernel
theorem d_M_byteOf_14 : decode b_M_byteOf 14 = .ok (.ireturn, 1) := by decide +kernel
theorem d_M_loaded_0 : decode b_M_loaded 0 = .ok (.iload_n 1, 1) := by decide +kernel
theorem d_M_loaded_1 : decode b_M_loaded 1 = .ok (.bipush 127, 2) := by decide +kernel
theorem d_M_loaded_3 : decode b_M_loaded 3 = .ok (.iand, 1) := by decide +kernel
theorem d_M_loaded_4 : decode b_M_loaded 4 = .ok (.istore_n 2, 1) := by decide +kernel
theorem d_M_loaded_5 : decode b_M_loaded 5 = .ok (.aload_n 0, 1) := by decide +kernel
theorem d_M_loaded_6 : decode b_M_loaded 6 = .ok (.getfield 17, 3) := by decide +kernel
theorem d_M_loaded_9 : decode b_M_loaded 9 = .ok (.iload_n 2, 1) := by decide +kernel
theorem d_M_loaded_10 : decode b_M_loaded 10 = .ok (.iaload, 1) := by decide +kernel
theorem d_M_loaded_11 : decode b_M_loaded 11 = .ok (.ifCond .ne 12, 3) := by decide +kernel
theorem d_M_loaded_14 : decode b_M_loaded 14 = .ok (.aload_n 0, 1) := by decide +kernel
theorem d_M_loaded_15 : decode b_M_loaded 15 = .ok (.getfield 38, 3) := by decide +kernel
theorem d_M_loaded_18 : decode b_M_loaded 18 = .ok (.iload_n 2, 1) := by decide +kernel
theorem d_M_loaded_19 : decode b_M_loaded 19 = .ok (.baload, 1) := by decide +kernel
theorem d_M_loaded_20 : decode b_M_loaded 20 = .ok (.ifCond .ne 21, 3) := by decide +kernel
theorem d_M_loaded_23 : decode b_M_loaded 23 = .ok (.aload_n 0, 1) := by decide +kernel
theorem d_M_loaded_24 : decode b_M_loaded 24 = .ok (.getfield 17, 3) := by decide +kernel
theorem d_M_loaded_27 : decode b_M_loaded 27 = .ok (.iload_n 2, 1) := by decide +kernel
theorem d_M_loaded_28 : decode b_M_loaded 28 = .ok (.iaload, 1) := by decide +kernel
theorem d_M_loaded_29 : decode b_M_loaded 29 = .ok (.iconst 3, 1) := by decide +kernel
theorem d_M_loaded_30 : decode b_M_loaded 30 = .ok (.if_icmp .ne 15, 3) := by decide +kernel
theorem d_M_loaded_33 : decode b_M_loaded 33 = .ok (.iload_n 1, 1) := by decide +kernel
theorem d_M_loaded_34 : decode b_M_loaded 34 = .ok (.aload_n 0, 1) := by decide +kernel
theorem d_M_loaded_35 : decode b_M_loaded 35 = .ok (.getfield 63, 3) := by decide +kernel
theorem d_M_loaded_38 : decode b_M_loaded 38 = .ok (.if_icmp .ge 7, 3) := by decide +kernel
theorem d_M_loaded_41 : decode b_M_loaded 41 = .ok (.iconst 1, 1) := by decide +kernel
theorem d_M_loaded_42 : decode b_M_loaded 42 = .ok (.goto 4, 3) := by decide +kernel
theorem d_M_loaded_45 : decode b_M_loaded 45 = .ok (.iconst 0, 1) := by decide +kernel
theorem d_M_loaded_46 : decode b_M_loaded 46 = .ok (.istore_n 3, 1) := by decide +kernel
theorem d_M_loaded_47 : decode b_M_loaded 47 = .ok (.aload_n 0, 1) := by decide +kernel
theorem d_M_loaded_48 : decode b_M_loaded 48 = .ok (.aload_n 0, 1) := by decide +kernel
theorem d_M_loaded_49 : decode b_M_loaded 49 = .ok (.iload_n 1, 1) := by decide +kernel
theorem d_M_loaded_50 : decode b_M_loaded 50 = .ok (.invokevirtual 88, 3) := by decide +kernel
theorem d_M_loaded_53 : decode b_M_loaded 53 = .ok (.ifCond .ne 7, 3) := by decide +kernel
theorem d_M_loaded_56 : decode b_M_loaded 56 = .ok (.iconst 1, 1) := by decide +kernel
theorem d_M_loaded_57 : decode b_M_loaded 57 = .ok (.goto 29, 3) := by decide +kernel
theorem d_M_loaded_60 : decode b_M_loaded 60 = .ok (.aload_n 0, 1) := by decide +kernel
theorem d_M_loaded_61 : decode b_M_loaded 61 = .ok (.getfield 60, 3) := by decide +kernel
theorem d_M_loaded_64 : decode b_M_loaded 64 = .ok (.iconst 1, 1) := by decide +kernel
theorem d_M_loaded_65 : decode b_M_loaded 65 = .ok (.isub, 1) := by decide +kernel
theorem d_M_loaded_66 : decode b_M_loaded 66 = .ok (.iload_n 1, 1) := by decide +kernel
theorem d_M_loaded_67 : decode b_M_loaded 67 = .ok (.isub, 1) := by decide +kernel
theorem d_M_loaded_68 : decode b_M_loaded 68 = .ok (.bipush 64, 2) := by decide +kernel
theorem d_M_loaded_70 : decode b_M_loaded 70 = .ok (.if_icmp .lt 7, 3) := by decide +kernel
theorem d_M_loaded_73 : decode b_M_loaded 73 = .ok (.iconst 3, 1) := by decide +kernel
theorem d_M_loaded_74 : decode b_M_loaded 74 = .ok (.goto 12, 3) := by decide +kernel
theorem d_M_loaded_77 : decode b_M_loaded 77 = .ok (.iload_n 3, 1) := by decide +kernel
theorem d_M_loaded_78 : decode b_M_loaded 78 = .ok (.ifCond .ne 7, 3) := by decide +kernel
theorem d_M_loaded_81 : decode b_M_loaded 81 = .ok (.iconst 2, 1) := by decide +kernel
theorem d_M_loaded_82 : decode b_M_loaded 82 = .ok (.goto 4, 3) := by decide +kernel
theorem d_M_loaded_85 : decode b_M_loaded 85 = .ok (.iconst 0, 1) := by decide +kernel
theorem d_M_loaded_86 : decode b_M_loaded 86 = .ok (.putfield 56, 3) := by decide +kernel
theorem d_M_loaded_89 : decode b_M_loaded 89 = .ok (.aload_n 0, 1) := by decide +kernel
theorem d_M_loaded_90 : decode b_M_loaded 90 = .ok (.getfield 56, 3) := by decide +kernel
theorem d_M_loaded_93 : decode b_M_loaded 93 = .ok (.ifCond .le 7, 3) := by decide +kernel
theorem d_M_loaded_96 : decode b_M_loaded 96 = .ok (.iconst 0, 1) := by decide +kernel
theorem d_M_loaded_97 : decode b_M_loaded 97 = .ok (.goto 9, 3) := by decide +kernel
theorem d_M_loaded_100 : decode b_M_loaded 100 = .ok (.aload_n 0, 1) := by decide +kernel
theorem d_M_loaded_101 : decode b_M_loaded 101 = .ok (.getfield 32, 3) := by decide +kernel
theorem d_M_loaded_104 : decode b_M_loaded 104 = .ok (.iload_n 2, 1) := by decide +kernel
theorem d_M_loaded_105 : decode b_M_loaded 105 = .ok (.iaload, 1) := by decide +kernel
theorem d_M_loaded_106 : decode b_M_loaded 106 = .ok (.ireturn, 1) := by decide +kernel
theorem d_M_source_0 : decode b_M_source 0 = .ok (.iload_n 1, 1) := by decide +kernel
theorem d_M_source_1 : decode b_M_source 1 = .ok (.bipush 127, 2) := by decide +kernel
theorem d_M_source_3 : decode b_M_source 3 = .ok (.iand, 1) := by decide +kernel
theorem d_M_source_4 : decode b_M_source 4 = .ok (.istore_n 3, 1) := by decide +kernel
theorem d_M_source_5 : decode b_M_source 5 = .ok (.aload_n 0, 1) := by decide +kernel
theorem d_M_source_6 : decode b_M_source 6 = .ok (.aload_n 0, 1) := by decide +kernel
theorem d_M_source_7 : decode b_M_source 7 = .ok (.iload_n 1, 1) := by decide +kernel
theorem d_M_source_8 : decode b_M_source 8 = .ok (.invokevirtual 88, 3) := by decide +kernel
theorem d_M_source_11 : decode b_M_source 11 = .ok (.ifCond .ne 7, 3) := by decide +kernel
theorem d_M_source_14 : decode b_M_source 14 = .ok (.iconst 1, 1) := by decide +kernel
theorem d_M_source_15 : decode b_M_source 15 = .ok (.goto 42, 3) := by decide +kernel
theorem d_M_source_18 : decode b_M_source 18 = .ok (.aload_n 0, 1) := by decide +kernel
theorem d_M_source_19 : decode b_M_source 19 = .ok (.iload_n 1, 1) := by decide +kernel
theorem d_M_source_20 : decode b_M_source 20 = .ok (.invokevirtual 84, 3) := by decide +kernel
theorem d_M_source_23 : decode b_M_source 23 = .ok (.ifCond .eq 11, 3) := by decide +kernel
theorem d_M_source_26 : decode b_M_source 26 = .ok (.aload_n 0, 1) := by decide +kernel
theorem d_M_source_27 : decode b_M_source 27 = .ok (.iload_n 1, 1) := by decide +kernel
theorem d_M_source_28 : decode b_M_source 28 = .ok (.invokevirtual 94, 3) := by decide +kernel
theorem d_M_source_31 : decode b_M_source 31 = .ok (.ifCond .ne 7, 3) := by decide +kernel
theorem d_M_source_34 : decode b_M_source 34 = .ok (.iconst 2, 1) := by decide +kernel
theorem d_M_source_35 : decode b_M_source 35 = .ok (.goto 22, 3) := by decide +kernel
theorem d_M_source_38 : decode b_M_source 38 = .ok (.iload_n 2, 1) := by decide +kernel
theorem d_M_source_39 : decode b_M_source 39 = .ok (.ifCond .lt 13, 3) := by decide +kernel
theorem d_M_source_42 : decode b_M_source 42 = .ok (.iload_n 2, 1) := by decide +kernel
theorem d_M_source_43 : decode b_M_source 43 = .ok (.aload_n 0, 1) := by decide +kernel
theorem d_M_source_44 : decode b_M_source 44 = .ok (.getfield 20, 3) := by decide +kernel
theorem d_M_source_47 : decode b_M_source 47 = .ok (.iload_n 3, 1) := by decide +kernel
theorem d_M_source_48 : decode b_M_source 48 = .ok (.iaload, 1) := by decide +kernel
theorem d_M_source_49 : decode b_M_source 49 = .ok (.if_icmp .lt 7, 3) := by decide +kernel
theorem d_M_source_52 : decode b_M_source 52 = .ok (.iconst 3, 1) := by decide +kernel
theorem d_M_source_53 : decode b_M_source 53 = .ok (.goto 4, 3) := by decide +kernel
theorem d_M_source_56 : decode b_M_source 56 = .ok (.iconst 0, 1) := by decide +kernel
theorem d_M_source_57 : decode b_M_source 57 = .ok (.putfield 56, 3) := by decide +kernel
theorem d_M_source_60 : decode b_M_source 60 = .ok (.aload_n 0, 1) := by decide +kernel
theorem d_M_source_61 : decode b_M_source 61 = .ok (.getfield 56, 3) := by decide +kernel
theorem d_M_source_64 : decode b_M_source 64 = .ok (.ifCond .le 5, 3) := by decide +kernel
