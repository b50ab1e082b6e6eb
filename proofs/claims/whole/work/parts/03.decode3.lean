theorem d_M_set_65 : decode b_M_set 65 = .ok (.if_icmp .ne 6, 3) := by decide +kernel
theorem d_M_set_68 : decode b_M_set 68 = .ok (.iconst 3, 1) := by decide +kernel
theorem d_M_set_69 : decode b_M_set 69 = .ok (.istore 6, 2) := by decide +kernel
theorem d_M_set_71 : decode b_M_set 71 = .ok (.iload 6, 2) := by decide +kernel
theorem d_M_set_73 : decode b_M_set 73 = .ok (.ifCond .eq 11, 3) := by decide +kernel
theorem d_M_set_76 : decode b_M_set 76 = .ok (.aload_n 0, 1) := by decide +kernel
theorem d_M_set_77 : decode b_M_set 77 = .ok (.iload 6, 2) := by decide +kernel
theorem d_M_set_79 : decode b_M_set 79 = .ok (.lconst 0, 1) := by decide +kernel
theorem d_M_set_80 : decode b_M_set 80 = .ok (.invokevirtual 83, 3) := by decide +kernel
theorem d_M_set_83 : decode b_M_set 83 = .ok (.ireturn, 1) := by decide +kernel
theorem d_M_set_84 : decode b_M_set 84 = .ok (.iload_n 2, 1) := by decide +kernel
theorem d_M_set_85 : decode b_M_set 85 = .ok (.invokestatic 101, 3) := by decide +kernel
theorem d_M_set_88 : decode b_M_set 88 = .ok (.istore 7, 2) := by decide +kernel
theorem d_M_set_90 : decode b_M_set 90 = .ok (.iload 7, 2) := by decide +kernel
theorem d_M_set_92 : decode b_M_set 92 = .ok (.ifCond .ge 16, 3) := by decide +kernel
theorem d_M_set_95 : decode b_M_set 95 = .ok (.aload_n 0, 1) := by decide +kernel
theorem d_M_set_96 : decode b_M_set 96 = .ok (.iload 5, 2) := by decide +kernel
theorem d_M_set_98 : decode b_M_set 98 = .ok (.iload_n 2, 1) := by decide +kernel
theorem d_M_set_99 : decode b_M_set 99 = .ok (.invokevirtual 114, 3) := by decide +kernel
theorem d_M_set_102 : decode b_M_set 102 = .ok (.ifCond .ne 24, 3) := by decide +kernel
theorem d_M_set_105 : decode b_M_set 105 = .ok (.goto 14, 3) := by decide +kernel
theorem d_M_set_108 : decode b_M_set 108 = .ok (.aload_n 0, 1) := by decide +kernel
theorem d_M_set_109 : decode b_M_set 109 = .ok (.iload 5, 2) := by decide +kernel
theorem d_M_set_111 : decode b_M_set 111 = .ok (.iload 7, 2) := by decide +kernel
theorem d_M_set_113 : decode b_M_set 113 = .ok (.invokevirtual 117, 3) := by decide +kernel
theorem d_M_set_116 : decode b_M_set 116 = .ok (.ifCond .ne 10, 3) := by decide +kernel
theorem d_M_set_119 : decode b_M_set 119 = .ok (.aload_n 0, 1) := by decide +kernel
theorem d_M_set_120 : decode b_M_set 120 = .ok (.iconst 2, 1) := by decide +kernel
theorem d_M_set_121 : decode b_M_set 121 = .ok (.lconst 0, 1) := by decide +kernel
theorem d_M_set_122 : decode b_M_set 122 = .ok (.invokevirtual 83, 3) := by decide +kernel
theorem d_M_set_125 : decode b_M_set 125 = .ok (.ireturn, 1) := by decide +kernel
theorem d_M_set_126 : decode b_M_set 126 = .ok (.iload_n 2, 1) := by decide +kernel
theorem d_M_set_127 : decode b_M_set 127 = .ok (.ifCond .ne 14, 3) := by decide +kernel
theorem d_M_set_130 : decode b_M_set 130 = .ok (.aload_n 0, 1) := by decide +kernel
theorem d_M_set_131 : decode b_M_set 131 = .ok (.getfield 13, 3) := by decide +kernel
theorem d_M_set_134 : decode b_M_set 134 = .ok (.iload 4, 2) := by decide +kernel
theorem d_M_set_136 : decode b_M_set 136 = .ok (.aload_n 0, 1) := by decide +kernel
theorem d_M_set_137 : decode b_M_set 137 = .ok (.getfield 56, 3) := by decide +kernel
theorem d_M_set_140 : decode b_M_set 140 = .ok (.lastore, 1) := by decide +kernel
theorem d_M_set_141 : decode b_M_set 141 = .ok (.iload_n 2, 1) := by decide +kernel
theorem d_M_set_142 : decode b_M_set 142 = .ok (.iconst 1, 1) := by decide +kernel
theorem d_M_set_143 : decode b_M_set 143 = .ok (.if_icmp .ne 15, 3) := by decide +kernel
theorem d_M_set_146 : decode b_M_set 146 = .ok (.aload_n 0, 1) := by decide +kernel
theorem d_M_set_147 : decode b_M_set 147 = .ok (.getfield 21, 3) := by decide +kernel
theorem d_M_set_150 : decode b_M_set 150 = .ok (.iload 4, 2) := by decide +kernel
theorem d_M_set_152 : decode b_M_set 152 = .ok (.aload_n 0, 1) := by decide +kernel
theorem d_M_set_153 : decode b_M_set 153 = .ok (.getfield 56, 3) := by decide +kernel
theorem d_M_set_156 : decode b_M_set 156 = .ok (.l2i, 1) := by decide +kernel
theorem d_M_set_157 : decode b_M_set 157 = .ok (.iastore, 1) := by decide +kernel
theorem d_M_set_158 : decode b_M_set 158 = .ok (.iload_n 2, 1) := by decide +kernel
theorem d_M_set_159 : decode b_M_set 159 = .ok (.iconst 2, 1) := by decide +kernel
theorem d_M_set_160 : decode b_M_set 160 = .ok (.if_icmp .ne 14, 3) := by decide +kernel
theorem d_M_set_163 : decode b_M_set 163 = .ok (.aload_n 0, 1) := by decide +kernel
theorem d_M_set_164 : decode b_M_set 164 = .ok (.getfield 17, 3) := by decide +kernel
theorem d_M_set_167 : decode b_M_set 167 = .ok (.iload 4, 2) := by decide +kernel
theorem d_M_set_169 : decode b_M_set 169 = .ok (.aload_n 0, 1) := by decide +kernel
theorem d_M_set_170 : decode b_M_set 170 = .ok (.getfield 59, 3) := by decide +kernel
theorem d_M_set_173 : decode b_M_set 173 = .ok (.dastore, 1) := by decide +kernel
theorem d_M_set_174 : decode b_M_set 174 = .ok (.iload_n 2, 1) := by decide +kernel
theorem d_M_set_175 : decode b_M_set 175 = .ok (.iconst 3, 1) := by decide +kernel
theorem d_M_set_176 : decode b_M_set 176 = .ok (.if_icmp .ne 12, 3) := by decide +kernel
theorem d_M_set_179 : decode b_M_set 179 = .ok (.aload_n 0, 1) := by decide +kernel
theorem d_M_set_180 : decode b_M_set 180 = .ok (.getfield 27, 3) := by decide +kernel
theorem d_M_set_183 : decode b_M_set 183 = .ok (.iload 4, 2) := by decide +kernel
theorem d_M_set_185 : decode b_M_set 185 = .ok (.iload 5, 2) := by decide +kernel
theorem d_M_set_187 : decode b_M_set 187 = .ok (.iastore, 1) := by decide +kernel
theorem d_M_set_188 : decode b_M_set 188 = .ok (.iload_n 2, 1) := by decide +kernel
theorem d_M_set_189 : decode b_M_set 189 = .ok (.iconst 4, 1) := by decide +kernel
theorem d_M_set_190 : decode b_M_set 190 = .ok (.if_icmp .ne 12, 3) := by decide +kernel
theorem d_M_set_193 : decode b_M_set 193 = .ok (.aload_n 0, 1) := by decide +kernel
theorem d_M_set_194 : decode b_M_set 194 = .ok (.getfield 30, 3) := by decide +kernel
theorem d_M_set_197 : decode b_M_set 197 = .ok (.iload 4, 2) := by decide +kernel
theorem d_M_set_199 : decode b_M_set 199 = .ok (.iload 5, 2) := by decide +kernel
theorem d_M_set_201 : decode b_M_set 201 = .ok (.iastore, 1) := by decide +kernel
theorem d_M_set_202 : decode b_M_set 202 = .ok (.iload_n 2, 1) := by decide +kernel
theorem d_M_set_203 : decode b_M_set 203 = .ok (.iconst 5, 1) := by decide +kernel
theorem d_M_set_204 : decode b_M_set 204 = .ok (.if_icmp .ne 12, 3) := by decide +kernel
theorem d_M_set_207 : decode b_M_set 207 = .ok (.aload_n 0, 1) := by decide +kernel
theorem d_M_set_208 : decode b_M_set 208 = .ok (.getfield 33, 3) := by decide +kernel
theorem d_M_set_211 : decode b_M_set 211 = .ok (.iload 4, 2) := by decide +kernel
theorem d_M_set_213 : decode b_M_set 213 = .ok (.iload 5, 2) := by decide +kernel
theorem d_M_set_215 : decode b_M_set 215 = .ok (.iastore, 1) := by decide +kernel
theorem d_M_set_216 : decode b_M_set 216 = .ok (.iload_n 2, 1) := by decide +kernel
theorem d_M_set_217 : decode b_M_set 217 = .ok (.bipush 7, 2) := by decide +kernel
theorem d_M_set_219 : decode b_M_set 219 = .ok (.if_icmp .ne 11, 3) := by decide +kernel
theorem d_M_set_222 : decode b_M_set 222 = .ok (.aload_n 0, 1) := by decide +kernel
theorem d_M_set_223 : decode b_M_set 223 = .ok (.aload_n 0, 1) := by decide +kernel
theorem d_M_set_224 : decode b_M_set 224 = .ok (.getfield 56, 3) := by decide +kernel
theorem d_M_set_227 : decode b_M_set 227 = .ok (.putfield 41, 3) := by decide +kernel
theorem d_M_set_230 : decode b_M_set 230 = .ok (.iload_n 2, 1) := by decide +kernel
theorem d_M_set_231 : decode b_M_set 231 = .ok (.bipush 8, 2) := by decide +kernel
theorem d_M_set_233 : decode b_M_set 233 = .ok (.if_icmp .ne 15, 3) := by decide +kernel
theorem d_M_set_236 : decode b_M_set 236 = .ok (.aload_n 0, 1) := by decide +kernel
theorem d_M_set_237 : decode b_M_set 237 = .ok (.getfield 24, 3) := by decide +kernel
theorem d_M_set_240 : decode b_M_set 240 = .ok (.iload 4, 2) := by decide +kernel
theorem d_M_set_242 : decode b_M_set 242 = .ok (.aload_n 0, 1) := by decide +kernel
theorem d_M_set_243 : decode b_M_set 243 = .ok (.getfield 56, 3) := by decide +kernel
theorem d_M_set_246 : decode b_M_set 246 = .ok (.l2i, 1) := by decide +kernel
theorem d_M_set_247 : decode b_M_set 247 = .ok (.iastore, 1) := by decide +kernel
theorem d_M_set_248 : decode b_M_set 248 = .ok (.aload_n 0, 1) := by decide +kernel
theorem d_M_set_249 : decode b_M_set 249 = .ok (.iconst 0, 1) := by decide +kernel
theorem d_M_set_250 : decode b_M_set 250 = .ok (.lconst 0, 1) := by decide +kernel
theorem d_M_set_251 : decode b_M_set 251 = .ok (.invokevirtual 83, 3) := by decide +kernel
theorem d_M_set_254 : decode b_M_set 254 = .ok (.ireturn, 1) := by decide +kernel
theorem d_M_answer_0 : decode b_M_answer 0 = .ok (.aload_n 0, 1) := by decide +kernel
theorem d_M_answer_1 : decode b_M_answer 1 = .ok (.lload_n 2, 1) := by decide +kernel
theorem d_M_answer_2 : decode b_M_answer 2 = .ok (.putfield 56, 3) := by decide +kernel
theorem d_M_answer_5 : decode b_M_answer 5 = .ok (.aload_n 0, 1) := by decide +kernel
theorem d_M_answer_6 : decode b_M_answer 6 = .ok (.getfield 36, 3) := by decide +kernel
theorem d_M_answer_9 : decode b_M_answer 9 = .ok (.bipush 8, 2) := by decide +kernel
theorem d_M_answer_11 : decode b_M_answer 11 = .ok (.aload_n 0, 1) := by decide +kernel
theorem d_M_answer_12 : decode b_M_answer 12 = .ok (.iload_n 1, 1) := by decide +kernel
theorem d_M_answer_13 : decode b_M_answer 13 = .ok (.invokevirtual 92, 3) := by decide +kernel
theorem d_M_answer_16 : decode b_M_answer 16 = .ok (.iastore, 1) := by decide +kernel
theorem d_M_answer_17 : decode b_M_answer 17 = .ok (.aload_n 0, 1) := by decide +kernel
theorem d_M_answer_18 : decode b_M_answer 18 = .ok (.iconst 0, 1) := by decide +kernel
theorem d_M_answer_19 : decode b_M_answer 19 = .ok (.lconst 0, 1) := by decide +kernel
theorem d_M_answer_20 : decode b_M_answer 20 = .ok (.invokevirtual 83, 3) := by decide +kernel
theorem d_M_answer_23 : decode b_M_answer 23 = .ok (.ireturn, 1) := by decide +kernel
theorem d_M_sum_0 : decode b_M_sum 0 = .ok (.aload_n 0, 1) := by decide +kernel
theorem d_M_sum_1 : decode b_M_sum 1 = .ok (.iload_n 2, 1) := by decide +kernel
theorem d_M_sum_2 : decode b_M_sum 2 = .ok (.iconst 4, 1) := by decide +kernel
theorem d_M_sum_3 : decode b_M_sum 3 = .ok (.invokevirtual 117, 3) := by decide +kernel
theorem d_M_sum_6 : decode b_M_sum 6 = .ok (.ifCond .ne 10, 3) := by decide +kernel
theorem d_M_sum_9 : decode b_M_sum 9 = .ok (.aload_n 0, 1) := by decide +kernel
theorem d_M_sum_10 : decode b_M_sum 10 = .ok (.iconst 2, 1) := by decide +kernel
theorem d_M_sum_11 : decode b_M_sum 11 = .ok (.lconst 0, 1) := by decide +kernel
theorem d_M_sum_12 : decode b_M_sum 12 = .ok (.invokevirtual 83, 3) := by decide +kernel
theorem d_M_sum_15 : decode b_M_sum 15 = .ok (.ireturn, 1) := by decide +kernel
theorem d_M_sum_16 : decode b_M_sum 16 = .ok (.aload_n 0, 1) := by decide +kernel
theorem d_M_sum_17 : decode b_M_sum 17 = .ok (.getfield 56, 3) := by decide +kernel
theorem d_M_sum_20 : decode b_M_sum 20 = .ok (.lstore 4, 2) := by decide +kernel
theorem d_M_sum_22 : decode b_M_sum 22 = .ok (.aload_n 0, 1) := by decide +kernel
theorem d_M_sum_23 : decode b_M_sum 23 = .ok (.iload_n 3, 1) := by decide +kernel
theorem d_M_sum_24 : decode b_M_sum 24 = .ok (.iconst 5, 1) := by decide +kernel
theorem d_M_sum_25 : decode b_M_sum 25 = .ok (.invokevirtual 117, 3) := by decide +kernel
theorem d_M_sum_28 : decode b_M_sum 28 = .ok (.ifCond .ne 10, 3) := by decide +kernel
theorem d_M_sum_31 : decode b_M_sum 31 = .ok (.aload_n 0, 1) := by decide +kernel
theorem d_M_sum_32 : decode b_M_sum 32 = .ok (.iconst 2, 1) := by decide +kernel
theorem d_M_sum_33 : decode b_M_sum 33 = .ok (.lconst 0, 1) := by decide +kernel
theorem d_M_sum_34 : decode b_M_sum 34 = .ok (.invokevirtual 83, 3) := by decide +kernel
theorem d_M_sum_37 : decode b_M_sum 37 = .ok (.ireturn, 1) := by decide +kernel
theorem d_M_sum_38 : decode b_M_sum 38 = .ok (.aload_n 0, 1) := by decide +kernel
theorem d_M_sum_39 : decode b_M_sum 39 = .ok (.iconst 5, 1) := by decide +kernel
theorem d_M_sum_40 : decode b_M_sum 40 = .ok (.lload 4, 2) := by decide +kernel
theorem d_M_sum_42 : decode b_M_sum 42 = .ok (.aload_n 0, 1) := by decide +kernel
theorem d_M_sum_43 : decode b_M_sum 43 = .ok (.getfield 56, 3) := by decide +kernel
theorem d_M_sum_46 : decode b_M_sum 46 = .ok (.ladd, 1) := by decide +kernel
theorem d_M_sum_47 : decode b_M_sum 47 = .ok (.aload_n 0, 1) := by decide +kernel
theorem d_M_sum_48 : decode b_M_sum 48 = .ok (.getfield 13, 3) := by decide +kernel
theorem d_M_sum_51 : decode b_M_sum 51 = .ok (.iload_n 1, 1) := by decide +kernel
theorem d_M_sum_52 : decode b_M_sum 52 = .ok (.laload, 1) := by decide +kernel
theorem d_M_sum_53 : decode b_M_sum 53 = .ok (.ladd, 1) := by decide +kernel
theorem d_M_sum_54 : decode b_M_sum 54 = .ok (.invokevirtual 120, 3) := by decide +kernel
theorem d_M_sum_57 : decode b_M_sum 57 = .ok (.ireturn, 1) := by decide +kernel
theorem d_M_tag_0 : decode b_M_tag 0 = .ok (.iload_n 1, 1) := by decide +kernel
theorem d_M_tag_1 : decode b_M_tag 1 = .ok (.ifCond .eq 21, 3) := by decide +kernel
theorem d_M_tag_4 : decode b_M_tag 4 = .ok (.aload_n 0, 1) := by decide +kernel
theorem d_M_tag_5 : decode b_M_tag 5 = .ok (.getfield 7, 3) := by decide +kernel
theorem d_M_tag_8 : decode b_M_tag 8 = .ok (.iload_n 1, 1) := by decide +kernel
theorem d_M_tag_9 : decode b_M_tag 9 = .ok (.iaload, 1) := by decide +kernel
theorem d_M_tag_10 : decode b_M_tag 10 = .ok (.bipush 9, 2) := by decide +kernel
theorem d_M_tag_12 : decode b_M_tag 12 = .ok (.if_icmp .eq 10, 3) := by decide +kernel
theorem d_M_tag_15 : decode b_M_tag 15 = .ok (.aload_n 0, 1) := by decide +kernel
theorem d_M_tag_16 : decode b_M_tag 16 = .ok (.iconst 2, 1) := by decide +kernel
theorem d_M_tag_17 : decode b_M_tag 17 = .ok (.lconst 0, 1) := by decide +kernel
theorem d_M_tag_18 : decode b_M_tag 18 = .ok (.invokevirtual 83, 3) := by decide +kernel
theorem d_M_tag_21 : decode b_M_tag 21 = .ok (.ireturn, 1) := by decide +kernel
theorem d_M_tag_22 : decode b_M_tag 22 = .ok (.iload_n 1, 1) := by decide +kernel
theorem d_M_tag_23 : decode b_M_tag 23 = .ok (.ifCond .ne 12, 3) := by decide +kernel
theorem d_M_tag_26 : decode b_M_tag 26 = .ok (.aload_n 0, 1) := by decide +kernel
theorem d_M_tag_27 : decode b_M_tag 27 = .ok (.iconst 4, 1) := by decide +kernel
theorem d_M_tag_28 : decode b_M_tag 28 = .ok (.ldc2_w 123, 3) := by decide +kernel
theorem d_M_tag_31 : decode b_M_tag 31 = .ok (.invokevirtual 83, 3) := by decide +kernel
theorem d_M_tag_34 : decode b_M_tag 34 = .ok (.ireturn, 1) := by decide +kernel
theorem d_M_tag_35 : decode b_M_tag 35 = .ok (.aload_n 0, 1) := by decide +kernel
theorem d_M_tag_36 : decode b_M_tag 36 = .ok (.iconst 4, 1) := by decide +kernel
theorem d_M_tag_37 : decode b_M_tag 37 = .ok (.ldc2_w 39, 3) := by decide +kernel
theorem d_M_tag_40 : decode b_M_tag 40 = .ok (.aload_n 0, 1) := by decide +kernel
theorem d_M_tag_41 : decode b_M_tag 41 = .ok (.getfield 13, 3) := by decide +kernel
theorem d_M_tag_44 : decode b_M_tag 44 = .ok (.iload_n 1, 1) := by decide +kernel
theorem d_M_tag_45 : decode b_M_tag 45 = .ok (.laload, 1) := by decide +kernel
theorem d_M_tag_46 : decode b_M_tag 46 = .ok (.lmul, 1) := by decide +kernel
theorem d_M_tag_47 : decode b_M_tag 47 = .ok (.aload_n 0, 1) := by decide +kernel
theorem d_M_tag_48 : decode b_M_tag 48 = .ok (.getfield 7, 3) := by decide +kernel
theorem d_M_tag_51 : decode b_M_tag 51 = .ok (.iload_n 2, 1) := by decide +kernel
theorem d_M_tag_52 : decode b_M_tag 52 = .ok (.iaload, 1) := by decide +kernel
theorem d_M_tag_53 : decode b_M_tag 53 = .ok (.i2l, 1) := by decide +kernel
theorem d_M_tag_54 : decode b_M_tag 54 = .ok (.ladd, 1) := by decide +kernel
theorem d_M_tag_55 : decode b_M_tag 55 = .ok (.invokevirtual 120, 3) := by decide +kernel
theorem d_M_tag_58 : decode b_M_tag 58 = .ok (.ireturn, 1) := by decide +kernel
theorem d_M_twice_0 : decode b_M_twice 0 = .ok (.aload_n 0, 1) := by decide +kernel
theorem d_M_twice_1 : decode b_M_twice 1 = .ok (.iload_n 1, 1) := by decide +kernel
theorem d_M_twice_2 : decode b_M_twice 2 = .ok (.bipush 7, 2) := by decide +kernel
theorem d_M_twice_4 : decode b_M_twice 4 = .ok (.invokevirtual 117, 3) := by decide +kernel
theorem d_M_twice_7 : decode b_M_twice 7 = .ok (.ifCond .ne 10, 3) := by decide +kernel
theorem d_M_twice_10 : decode b_M_twice 10 = .ok (.aload_n 0, 1) := by decide +kernel
theorem d_M_twice_11 : decode b_M_twice 11 = .ok (.iconst 2, 1) := by decide +kernel
theorem d_M_twice_12 : decode b_M_twice 12 = .ok (.lconst 0, 1) := by decide +kernel
theorem d_M_twice_13 : decode b_M_twice 13 = .ok (.invokevirtual 83, 3) := by decide +kernel
theorem d_M_twice_16 : decode b_M_twice 16 = .ok (.ireturn, 1) := by decide +kernel
theorem d_M_twice_17 : decode b_M_twice 17 = .ok (.aload_n 0, 1) := by decide +kernel
theorem d_M_twice_18 : decode b_M_twice 18 = .ok (.aload_n 0, 1) := by decide +kernel
theorem d_M_twice_19 : decode b_M_twice 19 = .ok (.getfield 59, 3) := by decide +kernel
theorem d_M_twice_22 : decode b_M_twice 22 = .ok (.aload_n 0, 1) := by decide +kernel
theorem d_M_twice_23 : decode b_M_twice 23 = .ok (.getfield 59, 3) := by decide +kernel
theorem d_M_twice_26 : decode b_M_twice 26 = .ok (.dadd, 1) := by decide +kernel
theorem d_M_twice_27 : decode b_M_twice 27 = .ok (.putfield 59, 3) := by decide +kernel
theorem d_M_twice_30 : decode b_M_twice 30 = .ok (.aload_n 0, 1) := by decide +kernel
theorem d_M_twice_31 : decode b_M_twice 31 = .ok (.getfield 36, 3) := by decide +kernel
theorem d_M_twice_34 : decode b_M_twice 34 = .ok (.bipush 8, 2) := by decide +kernel
theorem d_M_twice_36 : decode b_M_twice 36 = .ok (.aload_n 0, 1) := by decide +kernel
theorem d_M_twice_37 : decode b_M_twice 37 = .ok (.bipush 7, 2) := by decide +kernel
theorem d_M_twice_39 : decode b_M_twice 39 = .ok (.invokevirtual 92, 3) := by decide +kernel
theorem d_M_twice_42 : decode b_M_twice 42 = .ok (.iastore, 1) := by decide +kernel
theorem d_M_twice_43 : decode b_M_twice 43 = .ok (.aload_n 0, 1) := by decide +kernel
theorem d_M_twice_44 : decode b_M_twice 44 = .ok (.iconst 0, 1) := by decide +kernel
theorem d_M_twice_45 : decode b_M_twice 45 = .ok (.lconst 0, 1) := by decide +kernel
theorem d_M_twice_46 : decode b_M_twice 46 = .ok (.invokevirtual 83, 3) := by decide +kernel
theorem d_M_twice_49 : decode b_M_twice 49 = .ok (.ireturn, 1) := by decide +kernel
theorem d_M_div_0 : decode b_M_div 0 = .ok (.aload_n 0, 1) := by decide +kernel
theorem d_M_div_1 : decode b_M_div 1 = .ok (.iload_n 1, 1) := by decide +kernel
theorem d_M_div_2 : decode b_M_div 2 = .ok (.iconst 4, 1) := by decide +kernel
theorem d_M_div_3 : decode b_M_div 3 = .ok (.invokevirtual 117, 3) := by decide +kernel
theorem d_M_div_6 : decode b_M_div 6 = .ok (.ifCond .ne 10, 3) := by decide +kernel
theorem d_M_div_9 : decode b_M_div 9 = .ok (.aload_n 0, 1) := by decide +kernel
theorem d_M_div_10 : decode b_M_div 10 = .ok (.iconst 2, 1) := by decide +kernel
theorem d_M_div_11 : decode b_M_div 11 = .ok (.lconst 0, 1) := by decide +kernel
theorem d_M_div_12 : decode b_M_div 12 = .ok (.invokevirtual 83, 3) := by decide +kernel
theorem d_M_div_15 : decode b_M_div 15 = .ok (.ireturn, 1) := by decide +kernel
theorem d_M_div_16 : decode b_M_div 16 = .ok (.aload_n 0, 1) := by decide +kernel
theorem d_M_div_17 : decode b_M_div 17 = .ok (.getfield 56, 3) := by decide +kernel
theorem d_M_div_20 : decode b_M_div 20 = .ok (.l2i, 1) := by decide +kernel
theorem d_M_div_21 : decode b_M_div 21 = .ok (.istore_n 3, 1) := by decide +kernel
theorem d_M_div_22 : decode b_M_div 22 = .ok (.aload_n 0, 1) := by decide +kernel
theorem d_M_div_23 : decode b_M_div 23 = .ok (.iload_n 2, 1) := by decide +kernel
theorem d_M_div_24 : decode b_M_div 24 = .ok (.iconst 4, 1) := by decide +kernel
theorem d_M_div_25 : decode b_M_div 25 = .ok (.invokevirtual 117, 3) := by decide +kernel
theorem d_M_div_28 : decode b_M_div 28 = .ok (.ifCond .ne 10, 3) := by decide +kernel
theorem d_M_div_31 : decode b_M_div 31 = .ok (.aload_n 0, 1) := by decide +kernel
theorem d_M_div_32 : decode b_M_div 32 = .ok (.iconst 2, 1) := by decide +kernel
theorem d_M_div_33 : decode b_M_div 33 = .ok (.lconst 0, 1) := by decide +kernel
theorem d_M_div_34 : decode b_M_div 34 = .ok (.invokevirtual 83, 3) := by decide +kernel
theorem d_M_div_37 : decode b_M_div 37 = .ok (.ireturn, 1) := by decide +kernel
theorem d_M_div_38 : decode b_M_div 38 = .ok (.aload_n 0, 1) := by decide +kernel
theorem d_M_div_39 : decode b_M_div 39 = .ok (.getfield 56, 3) := by decide +kernel
theorem d_M_div_42 : decode b_M_div 42 = .ok (.l2i, 1) := by decide +kernel
theorem d_M_div_43 : decode b_M_div 43 = .ok (.istore 4, 2) := by decide +kernel
theorem d_M_div_45 : decode b_M_div 45 = .ok (.iload 4, 2) := by decide +kernel
theorem d_M_div_47 : decode b_M_div 47 = .ok (.ifCond .ne 10, 3) := by decide +kernel
theorem d_M_div_50 : decode b_M_div 50 = .ok (.aload_n 0, 1) := by decide +kernel
theorem d_M_div_51 : decode b_M_div 51 = .ok (.iconst 4, 1) := by decide +kernel
theorem d_M_div_52 : decode b_M_div 52 = .ok (.lconst 1, 1) := by decide +kernel
theorem d_M_div_53 : decode b_M_div 53 = .ok (.invokevirtual 83, 3) := by decide +kernel
theorem d_M_div_56 : decode b_M_div 56 = .ok (.ireturn, 1) := by decide +kernel
theorem d_M_div_57 : decode b_M_div 57 = .ok (.aload_n 0, 1) := by decide +kernel
theorem d_M_div_58 : decode b_M_div 58 = .ok (.iconst 4, 1) := by decide +kernel
theorem d_M_div_59 : decode b_M_div 59 = .ok (.iload 4, 2) := by decide +kernel
theorem d_M_div_61 : decode b_M_div 61 = .ok (.iconst (-1), 1) := by decide +kernel
theorem d_M_div_62 : decode b_M_div 62 = .ok (.if_icmp .ne 9, 3) := by decide +kernel
theorem d_M_div_65 : decode b_M_div 65 = .ok (.iload_n 3, 1) := by decide +kernel
theorem d_M_div_66 : decode b_M_div 66 = .ok (.ineg, 1) := by decide +kernel
theorem d_M_div_67 : decode b_M_div 67 = .ok (.i2l, 1) := by decide +kernel
theorem d_M_div_68 : decode b_M_div 68 = .ok (.goto 8, 3) := by decide +kernel
theorem d_M_div_71 : decode b_M_div 71 = .ok (.iload_n 3, 1) := by decide +kernel
theorem d_M_div_72 : decode b_M_div 72 = .ok (.iload 4, 2) := by decide +kernel
theorem d_M_div_74 : decode b_M_div 74 = .ok (.idiv, 1) := by decide +kernel
theorem d_M_div_75 : decode b_M_div 75 = .ok (.i2l, 1) := by decide +kernel
theorem d_M_div_76 : decode b_M_div 76 = .ok (.invokevirtual 120, 3) := by decide +kernel
theorem d_M_div_79 : decode b_M_div 79 = .ok (.ireturn, 1) := by decide +kernel
theorem d_M_pick_0 : decode b_M_pick 0 = .ok (.iload_n 2, 1) := by decide +kernel
theorem d_M_pick_1 : decode b_M_pick 1 = .ok (.ifCond .eq 18, 3) := by decide +kernel
theorem d_M_pick_4 : decode b_M_pick 4 = .ok (.aload_n 0, 1) := by decide +kernel
theorem d_M_pick_5 : decode b_M_pick 5 = .ok (.iload_n 2, 1) := by decide +kernel
theorem d_M_pick_6 : decode b_M_pick 6 = .ok (.invokevirtual 111, 3) := by decide +kernel
theorem d_M_pick_9 : decode b_M_pick 9 = .ok (.ifCond .ne 10, 3) := by decide +kernel
theorem d_M_pick_12 : decode b_M_pick 12 = .ok (.aload_n 0, 1) := by decide +kernel
theorem d_M_pick_13 : decode b_M_pick 13 = .ok (.iconst 2, 1) := by decide +kernel
theorem d_M_pick_14 : decode b_M_pick 14 = .ok (.lconst 0, 1) := by decide +kernel
theorem d_M_pick_15 : decode b_M_pick 15 = .ok (.invokevirtual 83, 3) := by decide +kernel
theorem d_M_pick_18 : decode b_M_pick 18 = .ok (.ireturn, 1) := by decide +kernel
theorem d_M_pick_19 : decode b_M_pick 19 = .ok (.iload_n 2, 1) := by decide +kernel
theorem d_M_pick_20 : decode b_M_pick 20 = .ok (.ifCond .ne 12, 3) := by decide +kernel
theorem d_M_pick_23 : decode b_M_pick 23 = .ok (.aload_n 0, 1) := by decide +kernel
theorem d_M_pick_24 : decode b_M_pick 24 = .ok (.iconst 4, 1) := by decide +kernel
theorem d_M_pick_25 : decode b_M_pick 25 = .ok (.ldc2_w 123, 3) := by decide +kernel
theorem d_M_pick_28 : decode b_M_pick 28 = .ok (.invokevirtual 83, 3) := by decide +kernel
theorem d_M_pick_31 : decode b_M_pick 31 = .ok (.ireturn, 1) := by decide +kernel
theorem d_M_pick_32 : decode b_M_pick 32 = .ok (.aload_n 0, 1) := by decide +kernel
theorem d_M_pick_33 : decode b_M_pick 33 = .ok (.getfield 13, 3) := by decide +kernel
theorem d_M_pick_36 : decode b_M_pick 36 = .ok (.iload_n 2, 1) := by decide +kernel
theorem d_M_pick_37 : decode b_M_pick 37 = .ok (.laload, 1) := by decide +kernel
theorem d_M_pick_38 : decode b_M_pick 38 = .ok (.l2i, 1) := by decide +kernel
theorem d_M_pick_39 : decode b_M_pick 39 = .ok (.istore_n 3, 1) := by decide +kernel
theorem d_M_pick_40 : decode b_M_pick 40 = .ok (.aload_n 0, 1) := by decide +kernel
theorem d_M_pick_41 : decode b_M_pick 41 = .ok (.iconst 4, 1) := by decide +kernel
theorem d_M_pick_42 : decode b_M_pick 42 = .ok (.aload_n 0, 1) := by decide +kernel
theorem d_M_pick_43 : decode b_M_pick 43 = .ok (.getfield 7, 3) := by decide +kernel
theorem d_M_pick_46 : decode b_M_pick 46 = .ok (.iload_n 1, 1) := by decide +kernel
theorem d_M_pick_47 : decode b_M_pick 47 = .ok (.iaload, 1) := by decide +kernel
theorem d_M_pick_48 : decode b_M_pick 48 = .ok (.bipush 11, 2) := by decide +kernel
theorem d_M_pick_50 : decode b_M_pick 50 = .ok (.if_icmp .ne 15, 3) := by decide +kernel
theorem d_M_pick_53 : decode b_M_pick 53 = .ok (.aload_n 0, 1) := by decide +kernel
theorem d_M_pick_54 : decode b_M_pick 54 = .ok (.getfield 24, 3) := by decide +kernel
theorem d_M_pick_57 : decode b_M_pick 57 = .ok (.iload_n 1, 1) := by decide +kernel
theorem d_M_pick_58 : decode b_M_pick 58 = .ok (.iaload, 1) := by decide +kernel
theorem d_M_pick_59 : decode b_M_pick 59 = .ok (.iload_n 3, 1) := by decide +kernel
theorem d_M_pick_60 : decode b_M_pick 60 = .ok (.iadd, 1) := by decide +kernel
theorem d_M_pick_61 : decode b_M_pick 61 = .ok (.i2l, 1) := by decide +kernel
theorem d_M_pick_62 : decode b_M_pick 62 = .ok (.goto 13, 3) := by decide +kernel
theorem d_M_pick_65 : decode b_M_pick 65 = .ok (.aload_n 0, 1) := by decide +kernel
theorem d_M_pick_66 : decode b_M_pick 66 = .ok (.getfield 13, 3) := by decide +kernel
theorem d_M_pick_69 : decode b_M_pick 69 = .ok (.iload_n 1, 1) := by decide +kernel
theorem d_M_pick_70 : decode b_M_pick 70 = .ok (.laload, 1) := by decide +kernel
theorem d_M_pick_71 : decode b_M_pick 71 = .ok (.l2i, 1) := by decide +kernel
theorem d_M_pick_72 : decode b_M_pick 72 = .ok (.iload_n 3, 1) := by decide +kernel
theorem d_M_pick_73 : decode b_M_pick 73 = .ok (.isub, 1) := by decide +kernel
theorem d_M_pick_74 : decode b_M_pick 74 = .ok (.i2l, 1) := by decide +kernel
theorem d_M_pick_75 : decode b_M_pick 75 = .ok (.invokevirtual 120, 3) := by decide +kernel
theorem d_M_pick_78 : decode b_M_pick 78 = .ok (.ireturn, 1) := by decide +kernel
theorem d_M_self_0 : decode b_M_self 0 = .ok (.aload_n 0, 1) := by decide +kernel
theorem d_M_self_1 : decode b_M_self 1 = .ok (.iload_n 2, 1) := by decide +kernel
theorem d_M_self_2 : decode b_M_self 2 = .ok (.iconst 3, 1) := by decide +kernel
theorem d_M_self_3 : decode b_M_self 3 = .ok (.invokevirtual 117, 3) := by decide +kernel
theorem d_M_self_6 : decode b_M_self 6 = .ok (.ifCond .ne 10, 3) := by decide +kernel
theorem d_M_self_9 : decode b_M_self 9 = .ok (.aload_n 0, 1) := by decide +kernel
theorem d_M_self_10 : decode b_M_self 10 = .ok (.iconst 2, 1) := by decide +kernel
theorem d_M_self_11 : decode b_M_self 11 = .ok (.lconst 0, 1) := by decide +kernel
theorem d_M_self_12 : decode b_M_self 12 = .ok (.invokevirtual 83, 3) := by decide +kernel
theorem d_M_self_15 : decode b_M_self 15 = .ok (.ireturn, 1) := by decide +kernel
theorem d_M_self_16 : decode b_M_self 16 = .ok (.aload_n 0, 1) := by decide +kernel
theorem d_M_self_17 : decode b_M_self 17 = .ok (.getfield 21, 3) := by decide +kernel
theorem d_M_self_20 : decode b_M_self 20 = .ok (.iload_n 1, 1) := by decide +kernel
theorem d_M_self_21 : decode b_M_self 21 = .ok (.aload_n 0, 1) := by decide +kernel
theorem d_M_self_22 : decode b_M_self 22 = .ok (.getfield 56, 3) := by decide +kernel
theorem d_M_self_25 : decode b_M_self 25 = .ok (.l2i, 1) := by decide +kernel
theorem d_M_self_26 : decode b_M_self 26 = .ok (.i2b, 1) := by decide +kernel
theorem d_M_self_27 : decode b_M_self 27 = .ok (.iastore, 1) := by decide +kernel
theorem d_M_self_28 : decode b_M_self 28 = .ok (.aload_n 0, 1) := by decide +kernel
theorem d_M_self_29 : decode b_M_self 29 = .ok (.getfield 36, 3) := by decide +kernel
theorem d_M_self_32 : decode b_M_self 32 = .ok (.bipush 8, 2) := by decide +kernel
theorem d_M_self_34 : decode b_M_self 34 = .ok (.iload_n 1, 1) := by decide +kernel
theorem d_M_self_35 : decode b_M_self 35 = .ok (.iastore, 1) := by decide +kernel
theorem d_M_self_36 : decode b_M_self 36 = .ok (.aload_n 0, 1) := by decide +kernel
theorem d_M_self_37 : decode b_M_self 37 = .ok (.iconst 0, 1) := by decide +kernel
theorem d_M_self_38 : decode b_M_self 38 = .ok (.lconst 0, 1) := by decide +kernel
theorem d_M_self_39 : decode b_M_self 39 = .ok (.invokevirtual 83, 3) := by decide +kernel
theorem d_M_self_42 : decode b_M_self 42 = .ok (.ireturn, 1) := by decide +kernel
theorem d_M_invoke_0 : decode b_M_invoke 0 = .ok (.iload_n 1, 1) := by decide +kernel
theorem d_M_invoke_1 : decode b_M_invoke 1 = .ok (.iconst 0, 1) := by decide +kernel
theorem d_M_invoke_2 : decode b_M_invoke 2 = .ok (.bipush 8, 2) := by decide +kernel
theorem d_M_invoke_4 : decode b_M_invoke 4 = .ok (.invokestatic 52, 3) := by decide +kernel
theorem d_M_invoke_7 : decode b_M_invoke 7 = .ok (.ifCond .eq 32, 3) := by decide +kernel
theorem d_M_invoke_10 : decode b_M_invoke 10 = .ok (.iload_n 2, 1) := by decide +kernel
theorem d_M_invoke_11 : decode b_M_invoke 11 = .ok (.iconst 0, 1) := by decide +kernel
theorem d_M_invoke_12 : decode b_M_invoke 12 = .ok (.iconst 5, 1) := by decide +kernel
theorem d_M_invoke_13 : decode b_M_invoke 13 = .ok (.invokestatic 52, 3) := by decide +kernel
theorem d_M_invoke_16 : decode b_M_invoke 16 = .ok (.ifCond .eq 23, 3) := by decide +kernel
theorem d_M_invoke_19 : decode b_M_invoke 19 = .ok (.iload_n 3, 1) := by decide +kernel
theorem d_M_invoke_20 : decode b_M_invoke 20 = .ok (.iconst 0, 1) := by decide +kernel
theorem d_M_invoke_21 : decode b_M_invoke 21 = .ok (.iconst 2, 1) := by decide +kernel
theorem d_M_invoke_22 : decode b_M_invoke 22 = .ok (.invokestatic 52, 3) := by decide +kernel
theorem d_M_invoke_25 : decode b_M_invoke 25 = .ok (.ifCond .eq 14, 3) := by decide +kernel
theorem d_M_invoke_28 : decode b_M_invoke 28 = .ok (.iload 4, 2) := by decide +kernel
theorem d_M_invoke_30 : decode b_M_invoke 30 = .ok (.iconst 0, 1) := by decide +kernel
theorem d_M_invoke_31 : decode b_M_invoke 31 = .ok (.bipush 80, 2) := by decide +kernel
theorem d_M_invoke_33 : decode b_M_invoke 33 = .ok (.invokestatic 52, 3) := by decide +kernel
theorem d_M_invoke_36 : decode b_M_invoke 36 = .ok (.ifCond .ne 5, 3) := by decide +kernel
theorem d_M_invoke_39 : decode b_M_invoke 39 = .ok (.iconst (-1), 1) := by decide +kernel
theorem d_M_invoke_40 : decode b_M_invoke 40 = .ok (.ireturn, 1) := by decide +kernel
theorem d_M_invoke_41 : decode b_M_invoke 41 = .ok (.aload_n 0, 1) := by decide +kernel
theorem d_M_invoke_42 : decode b_M_invoke 42 = .ok (.getfield 36, 3) := by decide +kernel
theorem d_M_invoke_45 : decode b_M_invoke 45 = .ok (.iload_n 1, 1) := by decide +kernel
theorem d_M_invoke_46 : decode b_M_invoke 46 = .ok (.iaload, 1) := by decide +kernel
theorem d_M_invoke_47 : decode b_M_invoke 47 = .ok (.istore 5, 2) := by decide +kernel
theorem d_M_invoke_49 : decode b_M_invoke 49 = .ok (.aload_n 0, 1) := by decide +kernel
theorem d_M_invoke_50 : decode b_M_invoke 50 = .ok (.getfield 36, 3) := by decide +kernel
theorem d_M_invoke_53 : decode b_M_invoke 53 = .ok (.iload 4, 2) := by decide +kernel
theorem d_M_invoke_55 : decode b_M_invoke 55 = .ok (.bipush 9, 2) := by decide +kernel
theorem d_M_invoke_57 : decode b_M_invoke 57 = .ok (.idiv, 1) := by decide +kernel
theorem d_M_invoke_58 : decode b_M_invoke 58 = .ok (.iaload, 1) := by decide +kernel
theorem d_M_invoke_59 : decode b_M_invoke 59 = .ok (.istore 6, 2) := by decide +kernel
theorem d_M_invoke_61 : decode b_M_invoke 61 = .ok (.aload_n 0, 1) := by decide +kernel
theorem d_M_invoke_62 : decode b_M_invoke 62 = .ok (.getfield 36, 3) := by decide +kernel
theorem d_M_invoke_65 : decode b_M_invoke 65 = .ok (.iload 4, 2) := by decide +kernel
theorem d_M_invoke_67 : decode b_M_invoke 67 = .ok (.bipush 9, 2) := by decide +kernel
theorem d_M_invoke_69 : decode b_M_invoke 69 = .ok (.irem, 1) := by decide +kernel
theorem d_M_invoke_70 : decode b_M_invoke 70 = .ok (.iaload, 1) := by decide +kernel
theorem d_M_invoke_71 : decode b_M_invoke 71 = .ok (.istore 7, 2) := by decide +kernel
theorem d_M_invoke_73 : decode b_M_invoke 73 = .ok (.iload_n 2, 1) := by decide +kernel
theorem d_M_invoke_74 : decode b_M_invoke 74 = .ok (.iconst 2, 1) := by decide +kernel
theorem d_M_invoke_75 : decode b_M_invoke 75 = .ok (.if_icmp .eq 15, 3) := by decide +kernel
theorem d_M_invoke_78 : decode b_M_invoke 78 = .ok (.iload 5, 2) := by decide +kernel
theorem d_M_invoke_80 : decode b_M_invoke 80 = .ok (.ifCond .ne 10, 3) := by decide +kernel
theorem d_M_invoke_83 : decode b_M_invoke 83 = .ok (.aload_n 0, 1) := by decide +kernel
theorem d_M_invoke_84 : decode b_M_invoke 84 = .ok (.iconst 1, 1) := by decide +kernel
theorem d_M_invoke_85 : decode b_M_invoke 85 = .ok (.lconst 0, 1) := by decide +kernel
theorem d_M_invoke_86 : decode b_M_invoke 86 = .ok (.invokevirtual 83, 3) := by decide +kernel
theorem d_M_invoke_89 : decode b_M_invoke 89 = .ok (.ireturn, 1) := by decide +kernel
theorem d_M_invoke_90 : decode b_M_invoke 90 = .ok (.iload_n 2, 1) := by decide +kernel
theorem d_M_invoke_91 : decode b_M_invoke 91 = .ok (.iconst 2, 1) := by decide +kernel
theorem d_M_invoke_92 : decode b_M_invoke 92 = .ok (.if_icmp .eq 19, 3) := by decide +kernel
theorem d_M_invoke_95 : decode b_M_invoke 95 = .ok (.aload_n 0, 1) := by decide +kernel
theorem d_M_invoke_96 : decode b_M_invoke 96 = .ok (.iload 5, 2) := by decide +kernel
theorem d_M_invoke_98 : decode b_M_invoke 98 = .ok (.invokevirtual 111, 3) := by decide +kernel
theorem d_M_invoke_101 : decode b_M_invoke 101 = .ok (.ifCond .ne 10, 3) := by decide +kernel
theorem d_M_invoke_104 : decode b_M_invoke 104 = .ok (.aload_n 0, 1) := by decide +kernel
theorem d_M_invoke_105 : decode b_M_invoke 105 = .ok (.iconst 2, 1) := by decide +kernel
theorem d_M_invoke_106 : decode b_M_invoke 106 = .ok (.lconst 0, 1) := by decide +kernel
theorem d_M_invoke_107 : decode b_M_invoke 107 = .ok (.invokevirtual 83, 3) := by decide +kernel
theorem d_M_invoke_110 : decode b_M_invoke 110 = .ok (.ireturn, 1) := by decide +kernel
theorem d_M_invoke_111 : decode b_M_invoke 111 = .ok (.iload_n 2, 1) := by decide +kernel
theorem d_M_invoke_112 : decode b_M_invoke 112 = .ok (.ifCond .eq 13, 3) := by decide +kernel
theorem d_M_invoke_115 : decode b_M_invoke 115 = .ok (.iload_n 2, 1) := by decide +kernel
theorem d_M_invoke_116 : decode b_M_invoke 116 = .ok (.iconst 1, 1) := by decide +kernel
theorem d_M_invoke_117 : decode b_M_invoke 117 = .ok (.if_icmp .eq 8, 3) := by decide +kernel
theorem d_M_invoke_120 : decode b_M_invoke 120 = .ok (.iload_n 2, 1) := by decide +kernel
theorem d_M_invoke_121 : decode b_M_invoke 121 = .ok (.iconst 3, 1) := by decide +kernel
theorem d_M_invoke_122 : decode b_M_invoke 122 = .ok (.if_icmp .ne 7, 3) := by decide +kernel
theorem d_M_invoke_125 : decode b_M_invoke 125 = .ok (.iconst 2, 1) := by decide +kernel
theorem d_M_invoke_126 : decode b_M_invoke 126 = .ok (.goto 4, 3) := by decide +kernel
theorem d_M_invoke_129 : decode b_M_invoke 129 = .ok (.iconst 1, 1) := by decide +kernel
theorem d_M_invoke_130 : decode b_M_invoke 130 = .ok (.istore 8, 2) := by decide +kernel
theorem d_M_invoke_132 : decode b_M_invoke 132 = .ok (.iload_n 3, 1) := by decide +kernel
theorem d_M_invoke_133 : decode b_M_invoke 133 = .ok (.iload 8, 2) := by decide +kernel
theorem d_M_invoke_135 : decode b_M_invoke 135 = .ok (.if_icmp .eq 10, 3) := by decide +kernel
theorem d_M_invoke_138 : decode b_M_invoke 138 = .ok (.aload_n 0, 1) := by decide +kernel
theorem d_M_invoke_139 : decode b_M_invoke 139 = .ok (.iconst 2, 1) := by decide +kernel
theorem d_M_invoke_140 : decode b_M_invoke 140 = .ok (.lconst 0, 1) := by decide +kernel
theorem d_M_invoke_141 : decode b_M_invoke 141 = .ok (.invokevirtual 83, 3) := by decide +kernel
theorem d_M_invoke_144 : decode b_M_invoke 144 = .ok (.ireturn, 1) := by decide +kernel
theorem d_M_invoke_145 : decode b_M_invoke 145 = .ok (.iload_n 2, 1) := by decide +kernel
theorem d_M_invoke_146 : decode b_M_invoke 146 = .ok (.ifCond .ne 14, 3) := by decide +kernel
theorem d_M_invoke_149 : decode b_M_invoke 149 = .ok (.aload_n 0, 1) := by decide +kernel
theorem d_M_invoke_150 : decode b_M_invoke 150 = .ok (.iload 5, 2) := by decide +kernel
theorem d_M_invoke_152 : decode b_M_invoke 152 = .ok (.iload 6, 2) := by decide +kernel
theorem d_M_invoke_154 : decode b_M_invoke 154 = .ok (.iload 7, 2) := by decide +kernel
theorem d_M_invoke_156 : decode b_M_invoke 156 = .ok (.invokevirtual 125, 3) := by decide +kernel
theorem d_M_invoke_159 : decode b_M_invoke 159 = .ok (.ireturn, 1) := by decide +kernel
theorem d_M_invoke_160 : decode b_M_invoke 160 = .ok (.iload_n 2, 1) := by decide +kernel
theorem d_M_invoke_161 : decode b_M_invoke 161 = .ok (.iconst 1, 1) := by decide +kernel
theorem d_M_invoke_162 : decode b_M_invoke 162 = .ok (.if_icmp .ne 12, 3) := by decide +kernel
theorem d_M_invoke_165 : decode b_M_invoke 165 = .ok (.aload_n 0, 1) := by decide +kernel
theorem d_M_invoke_166 : decode b_M_invoke 166 = .ok (.iload 6, 2) := by decide +kernel
theorem d_M_invoke_168 : decode b_M_invoke 168 = .ok (.iload 7, 2) := by decide +kernel
theorem d_M_invoke_170 : decode b_M_invoke 170 = .ok (.invokevirtual 129, 3) := by decide +kernel
theorem d_M_invoke_173 : decode b_M_invoke 173 = .ok (.ireturn, 1) := by decide +kernel
theorem d_M_invoke_174 : decode b_M_invoke 174 = .ok (.iload_n 2, 1) := by decide +kernel
theorem d_M_invoke_175 : decode b_M_invoke 175 = .ok (.iconst 2, 1) := by decide +kernel
theorem d_M_invoke_176 : decode b_M_invoke 176 = .ok (.if_icmp .ne 10, 3) := by decide +kernel
theorem d_M_invoke_179 : decode b_M_invoke 179 = .ok (.aload_n 0, 1) := by decide +kernel
theorem d_M_invoke_180 : decode b_M_invoke 180 = .ok (.iload 6, 2) := by decide +kernel
theorem d_M_invoke_182 : decode b_M_invoke 182 = .ok (.invokevirtual 132, 3) := by decide +kernel
theorem d_M_invoke_185 : decode b_M_invoke 185 = .ok (.ireturn, 1) := by decide +kernel
theorem d_M_invoke_186 : decode b_M_invoke 186 = .ok (.iload_n 2, 1) := by decide +kernel
theorem d_M_invoke_187 : decode b_M_invoke 187 = .ok (.iconst 3, 1) := by decide +kernel
theorem d_M_invoke_188 : decode b_M_invoke 188 = .ok (.if_icmp .ne 12, 3) := by decide +kernel
theorem d_M_invoke_191 : decode b_M_invoke 191 = .ok (.aload_n 0, 1) := by decide +kernel
theorem d_M_invoke_192 : decode b_M_invoke 192 = .ok (.iload 6, 2) := by decide +kernel
theorem d_M_invoke_194 : decode b_M_invoke 194 = .ok (.iload 7, 2) := by decide +kernel
theorem d_M_invoke_196 : decode b_M_invoke 196 = .ok (.invokevirtual 135, 3) := by decide +kernel
theorem d_M_invoke_199 : decode b_M_invoke 199 = .ok (.ireturn, 1) := by decide +kernel
theorem d_M_invoke_200 : decode b_M_invoke 200 = .ok (.iload_n 2, 1) := by decide +kernel
theorem d_M_invoke_201 : decode b_M_invoke 201 = .ok (.iconst 4, 1) := by decide +kernel
theorem d_M_invoke_202 : decode b_M_invoke 202 = .ok (.if_icmp .ne 14, 3) := by decide +kernel
theorem d_M_invoke_205 : decode b_M_invoke 205 = .ok (.aload_n 0, 1) := by decide +kernel
theorem d_M_invoke_206 : decode b_M_invoke 206 = .ok (.iload 5, 2) := by decide +kernel
theorem d_M_invoke_208 : decode b_M_invoke 208 = .ok (.iload 6, 2) := by decide +kernel
theorem d_M_invoke_210 : decode b_M_invoke 210 = .ok (.invokevirtual 138, 3) := by decide +kernel
theorem d_M_invoke_213 : decode b_M_invoke 213 = .ok (.goto 11, 3) := by decide +kernel
theorem d_M_invoke_216 : decode b_M_invoke 216 = .ok (.aload_n 0, 1) := by decide +kernel
theorem d_M_invoke_217 : decode b_M_invoke 217 = .ok (.iload 5, 2) := by decide +kernel
theorem d_M_invoke_219 : decode b_M_invoke 219 = .ok (.iload 6, 2) := by decide +kernel
theorem d_M_invoke_221 : decode b_M_invoke 221 = .ok (.invokevirtual 141, 3) := by decide +kernel
theorem d_M_invoke_224 : decode b_M_invoke 224 = .ok (.ireturn, 1) := by decide +kernel
theorem d_M_isOf_0 : decode b_M_isOf 0 = .ok (.aload_n 0, 1) := by decide +kernel
theorem d_M_isOf_1 : decode b_M_isOf 1 = .ok (.getfield 7, 3) := by decide +kernel
theorem d_M_isOf_4 : decode b_M_isOf 4 = .ok (.iload_n 1, 1) := by decide +kernel
theorem d_M_isOf_5 : decode b_M_isOf 5 = .ok (.iaload, 1) := by decide +kernel
theorem d_M_isOf_6 : decode b_M_isOf 6 = .ok (.istore_n 3, 1) := by decide +kernel
theorem d_M_isOf_7 : decode b_M_isOf 7 = .ok (.iload_n 2, 1) := by decide +kernel
theorem d_M_isOf_8 : decode b_M_isOf 8 = .ok (.ifCond .ne 5, 3) := by decide +kernel
theorem d_M_isOf_11 : decode b_M_isOf 11 = .ok (.iconst 1, 1) := by decide +kernel
theorem d_M_isOf_12 : decode b_M_isOf 12 = .ok (.ireturn, 1) := by decide +kernel
theorem d_M_isOf_13 : decode b_M_isOf 13 = .ok (.iload_n 2, 1) := by decide +kernel
theorem d_M_isOf_14 : decode b_M_isOf 14 = .ok (.iconst 1, 1) := by decide +kernel
theorem d_M_isOf_15 : decode b_M_isOf 15 = .ok (.if_icmp .ne 27, 3) := by decide +kernel
theorem d_M_isOf_18 : decode b_M_isOf 18 = .ok (.aload_n 0, 1) := by decide +kernel
theorem d_M_isOf_19 : decode b_M_isOf 19 = .ok (.iload_n 1, 1) := by decide +kernel
theorem d_M_isOf_20 : decode b_M_isOf 20 = .ok (.invokevirtual 69, 3) := by decide +kernel
theorem d_M_isOf_23 : decode b_M_isOf 23 = .ok (.ifCond .eq 17, 3) := by decide +kernel
theorem d_M_isOf_26 : decode b_M_isOf 26 = .ok (.iload_n 3, 1) := by decide +kernel
theorem d_M_isOf_27 : decode b_M_isOf 27 = .ok (.iconst 1, 1) := by decide +kernel
theorem d_M_isOf_28 : decode b_M_isOf 28 = .ok (.if_icmp .eq 12, 3) := by decide +kernel
theorem d_M_isOf_31 : decode b_M_isOf 31 = .ok (.iload_n 3, 1) := by decide +kernel
theorem d_M_isOf_32 : decode b_M_isOf 32 = .ok (.iconst 3, 1) := by decide +kernel
theorem d_M_isOf_33 : decode b_M_isOf 33 = .ok (.if_icmp .eq 7, 3) := by decide +kernel
theorem d_M_isOf_36 : decode b_M_isOf 36 = .ok (.iconst 1, 1) := by decide +kernel
theorem d_M_isOf_37 : decode b_M_isOf 37 = .ok (.goto 4, 3) := by decide +kernel
theorem d_M_isOf_40 : decode b_M_isOf 40 = .ok (.iconst 0, 1) := by decide +kernel
theorem d_M_isOf_41 : decode b_M_isOf 41 = .ok (.ireturn, 1) := by decide +kernel
theorem d_M_isOf_42 : decode b_M_isOf 42 = .ok (.iload_n 2, 1) := by decide +kernel
theorem d_M_isOf_43 : decode b_M_isOf 43 = .ok (.iconst 2, 1) := by decide +kernel
theorem d_M_isOf_44 : decode b_M_isOf 44 = .ok (.if_icmp .ne 14, 3) := by decide +kernel
theorem d_M_isOf_47 : decode b_M_isOf 47 = .ok (.iload_n 3, 1) := by decide +kernel
theorem d_M_isOf_48 : decode b_M_isOf 48 = .ok (.iconst 5, 1) := by decide +kernel
theorem d_M_isOf_49 : decode b_M_isOf 49 = .ok (.if_icmp .ne 7, 3) := by decide +kernel
theorem d_M_isOf_52 : decode b_M_isOf 52 = .ok (.iconst 1, 1) := by decide +kernel
theorem d_M_isOf_53 : decode b_M_isOf 53 = .ok (.goto 4, 3) := by decide +kernel
theorem d_M_isOf_56 : decode b_M_isOf 56 = .ok (.iconst 0, 1) := by decide +kernel
theorem d_M_isOf_57 : decode b_M_isOf 57 = .ok (.ireturn, 1) := by decide +kernel
theorem d_M_isOf_58 : decode b_M_isOf 58 = .ok (.iload_n 2, 1) := by decide +kernel
theorem d_M_isOf_59 : decode b_M_isOf 59 = .ok (.iconst 3, 1) := by decide +kernel
theorem d_M_isOf_60 : decode b_M_isOf 60 = .ok (.if_icmp .ne 15, 3) := by decide +kernel
theorem d_M_isOf_63 : decode b_M_isOf 63 = .ok (.iload_n 3, 1) := by decide +kernel
theorem d_M_isOf_64 : decode b_M_isOf 64 = .ok (.bipush 9, 2) := by decide +kernel
theorem d_M_isOf_66 : decode b_M_isOf 66 = .ok (.if_icmp .ne 7, 3) := by decide +kernel
theorem d_M_isOf_69 : decode b_M_isOf 69 = .ok (.iconst 1, 1) := by decide +kernel
theorem d_M_isOf_70 : decode b_M_isOf 70 = .ok (.goto 4, 3) := by decide +kernel
theorem d_M_isOf_73 : decode b_M_isOf 73 = .ok (.iconst 0, 1) := by decide +kernel
theorem d_M_isOf_74 : decode b_M_isOf 74 = .ok (.ireturn, 1) := by decide +kernel
theorem d_M_isOf_75 : decode b_M_isOf 75 = .ok (.iload_n 2, 1) := by decide +kernel
theorem d_M_isOf_76 : decode b_M_isOf 76 = .ok (.iconst 5, 1) := by decide +kernel
theorem d_M_isOf_77 : decode b_M_isOf 77 = .ok (.if_icmp .ne 9, 3) := by decide +kernel
theorem d_M_isOf_80 : decode b_M_isOf 80 = .ok (.aload_n 0, 1) := by decide +kernel
theorem d_M_isOf_81 : decode b_M_isOf 81 = .ok (.iload_n 1, 1) := by decide +kernel
theorem d_M_isOf_82 : decode b_M_isOf 82 = .ok (.invokevirtual 111, 3) := by decide +kernel
theorem d_M_isOf_85 : decode b_M_isOf 85 = .ok (.ireturn, 1) := by decide +kernel
theorem d_M_isOf_86 : decode b_M_isOf 86 = .ok (.iload_n 2, 1) := by decide +kernel
theorem d_M_isOf_87 : decode b_M_isOf 87 = .ok (.bipush 7, 2) := by decide +kernel
theorem d_M_isOf_89 : decode b_M_isOf 89 = .ok (.if_icmp .eq 13, 3) := by decide +kernel
theorem d_M_isOf_92 : decode b_M_isOf 92 = .ok (.iload_n 3, 1) := by decide +kernel
theorem d_M_isOf_93 : decode b_M_isOf 93 = .ok (.bipush 11, 2) := by decide +kernel
theorem d_M_isOf_95 : decode b_M_isOf 95 = .ok (.if_icmp .ne 7, 3) := by decide +kernel
theorem d_M_isOf_98 : decode b_M_isOf 98 = .ok (.iconst 1, 1) := by decide +kernel
theorem d_M_isOf_99 : decode b_M_isOf 99 = .ok (.goto 4, 3) := by decide +kernel
theorem d_M_isOf_102 : decode b_M_isOf 102 = .ok (.iconst 0, 1) := by decide +kernel
theorem d_M_isOf_103 : decode b_M_isOf 103 = .ok (.ireturn, 1) := by decide +kernel
theorem d_M_cast_0 : decode b_M_cast 0 = .ok (.iload_n 1, 1) := by decide +kernel
theorem d_M_cast_1 : decode b_M_cast 1 = .ok (.iconst 0, 1) := by decide +kernel
theorem d_M_cast_2 : decode b_M_cast 2 = .ok (.bipush 8, 2) := by decide +kernel
theorem d_M_cast_4 : decode b_M_cast 4 = .ok (.invokestatic 52, 3) := by decide +kernel
theorem d_M_cast_7 : decode b_M_cast 7 = .ok (.ifCond .eq 13, 3) := by decide +kernel
theorem d_M_cast_10 : decode b_M_cast 10 = .ok (.iload_n 2, 1) := by decide +kernel
theorem d_M_cast_11 : decode b_M_cast 11 = .ok (.iconst 0, 1) := by decide +kernel
theorem d_M_cast_12 : decode b_M_cast 12 = .ok (.bipush 7, 2) := by decide +kernel
theorem d_M_cast_14 : decode b_M_cast 14 = .ok (.invokestatic 52, 3) := by decide +kernel
theorem d_M_cast_17 : decode b_M_cast 17 = .ok (.ifCond .ne 5, 3) := by decide +kernel
theorem d_M_cast_20 : decode b_M_cast 20 = .ok (.iconst (-1), 1) := by decide +kernel
theorem d_M_cast_21 : decode b_M_cast 21 = .ok (.ireturn, 1) := by decide +kernel
theorem d_M_cast_22 : decode b_M_cast 22 = .ok (.aload_n 0, 1) := by decide +kernel
theorem d_M_cast_23 : decode b_M_cast 23 = .ok (.getfield 36, 3) := by decide +kernel
theorem d_M_cast_26 : decode b_M_cast 26 = .ok (.iload_n 1, 1) := by decide +kernel
theorem d_M_cast_27 : decode b_M_cast 27 = .ok (.iaload, 1) := by decide +kernel
theorem d_M_cast_28 : decode b_M_cast 28 = .ok (.istore_n 3, 1) := by decide +kernel
theorem d_M_cast_29 : decode b_M_cast 29 = .ok (.iload_n 3, 1) := by decide +kernel
theorem d_M_cast_30 : decode b_M_cast 30 = .ok (.ifCond .eq 20, 3) := by decide +kernel
theorem d_M_cast_33 : decode b_M_cast 33 = .ok (.aload_n 0, 1) := by decide +kernel
theorem d_M_cast_34 : decode b_M_cast 34 = .ok (.iload_n 3, 1) := by decide +kernel
theorem d_M_cast_35 : decode b_M_cast 35 = .ok (.iload_n 2, 1) := by decide +kernel
theorem d_M_cast_36 : decode b_M_cast 36 = .ok (.invokevirtual 144, 3) := by decide +kernel
theorem d_M_cast_39 : decode b_M_cast 39 = .ok (.ifCond .ne 11, 3) := by decide +kernel
theorem d_M_cast_42 : decode b_M_cast 42 = .ok (.aload_n 0, 1) := by decide +kernel
theorem d_M_cast_43 : decode b_M_cast 43 = .ok (.bipush 7, 2) := by decide +kernel
theorem d_M_cast_45 : decode b_M_cast 45 = .ok (.lconst 0, 1) := by decide +kernel
theorem d_M_cast_46 : decode b_M_cast 46 = .ok (.invokevirtual 83, 3) := by decide +kernel
theorem d_M_cast_49 : decode b_M_cast 49 = .ok (.ireturn, 1) := by decide +kernel
theorem d_M_cast_50 : decode b_M_cast 50 = .ok (.aload_n 0, 1) := by decide +kernel
theorem d_M_cast_51 : decode b_M_cast 51 = .ok (.getfield 36, 3) := by decide +kernel
theorem d_M_cast_54 : decode b_M_cast 54 = .ok (.bipush 8, 2) := by decide +kernel
theorem d_M_cast_56 : decode b_M_cast 56 = .ok (.iload_n 3, 1) := by decide +kernel
theorem d_M_cast_57 : decode b_M_cast 57 = .ok (.iastore, 1) := by decide +kernel
theorem d_M_cast_58 : decode b_M_cast 58 = .ok (.aload_n 0, 1) := by decide +kernel
theorem d_M_cast_59 : decode b_M_cast 59 = .ok (.iconst 0, 1) := by decide +kernel
theorem d_M_cast_60 : decode b_M_cast 60 = .ok (.lconst 0, 1) := by decide +kernel
theorem d_M_cast_61 : decode b_M_cast 61 = .ok (.invokevirtual 83, 3) := by decide +kernel
theorem d_M_cast_64 : decode b_M_cast 64 = .ok (.ireturn, 1) := by decide +kernel
theorem d_M_last_0 : decode b_M_last 0 = .ok (.aload_n 0, 1) := by decide +kernel
theorem d_M_last_1 : decode b_M_last 1 = .ok (.getfield 45, 3) := by decide +kernel
theorem d_M_last_4 : decode b_M_last 4 = .ok (.lreturn, 1) := by decide +kernel
theorem d_M_look_0 : decode b_M_look 0 = .ok (.iload_n 1, 1) := by decide +kernel
theorem d_M_look_1 : decode b_M_look 1 = .ok (.iconst 0, 1) := by decide +kernel
theorem d_M_look_2 : decode b_M_look 2 = .ok (.bipush 8, 2) := by decide +kernel
theorem d_M_look_4 : decode b_M_look 4 = .ok (.invokestatic 52, 3) := by decide +kernel
theorem d_M_look_7 : decode b_M_look 7 = .ok (.ifCond .ne 5, 3) := by decide +kernel
theorem d_M_look_10 : decode b_M_look 10 = .ok (.iconst (-1), 1) := by decide +kernel
theorem d_M_look_11 : decode b_M_look 11 = .ok (.ireturn, 1) := by decide +kernel
theorem d_M_look_12 : decode b_M_look 12 = .ok (.aload_n 0, 1) := by decide +kernel
theorem d_M_look_13 : decode b_M_look 13 = .ok (.getfield 36, 3) := by decide +kernel
theorem d_M_look_16 : decode b_M_look 16 = .ok (.iload_n 1, 1) := by decide +kernel
theorem d_M_look_17 : decode b_M_look 17 = .ok (.iaload, 1) := by decide +kernel
theorem d_M_look_18 : decode b_M_look 18 = .ok (.istore_n 3, 1) := by decide +kernel
theorem d_M_look_19 : decode b_M_look 19 = .ok (.iload_n 2, 1) := by decide +kernel
theorem d_M_look_20 : decode b_M_look 20 = .ok (.ifCond .ne 10, 3) := by decide +kernel
theorem d_M_look_23 : decode b_M_look 23 = .ok (.aload_n 0, 1) := by decide +kernel
theorem d_M_look_24 : decode b_M_look 24 = .ok (.getfield 7, 3) := by decide +kernel
theorem d_M_look_27 : decode b_M_look 27 = .ok (.iload_n 3, 1) := by decide +kernel
theorem d_M_look_28 : decode b_M_look 28 = .ok (.iaload, 1) := by decide +kernel
theorem d_M_look_29 : decode b_M_look 29 = .ok (.ireturn, 1) := by decide +kernel
theorem d_M_look_30 : decode b_M_look 30 = .ok (.iconst 0, 1) := by decide +kernel
theorem d_M_look_31 : decode b_M_look 31 = .ok (.istore 4, 2) := by decide +kernel
theorem d_M_look_33 : decode b_M_look 33 = .ok (.iload 4, 2) := by decide +kernel
theorem d_M_look_35 : decode b_M_look 35 = .ok (.bipush 8, 2) := by decide +kernel
theorem d_M_look_37 : decode b_M_look 37 = .ok (.if_icmp .ge 34, 3) := by decide +kernel
theorem d_M_look_40 : decode b_M_look 40 = .ok (.aload_n 0, 1) := by decide +kernel
theorem d_M_look_41 : decode b_M_look 41 = .ok (.getfield 7, 3) := by decide +kernel
theorem d_M_look_44 : decode b_M_look 44 = .ok (.iload_n 3, 1) := by decide +kernel
theorem d_M_look_45 : decode b_M_look 45 = .ok (.iaload, 1) := by decide +kernel
theorem d_M_look_46 : decode b_M_look 46 = .ok (.bipush 10, 2) := by decide +kernel
theorem d_M_look_48 : decode b_M_look 48 = .ok (.if_icmp .lt 17, 3) := by decide +kernel
theorem d_M_look_51 : decode b_M_look 51 = .ok (.aload_n 0, 1) := by decide +kernel
theorem d_M_look_52 : decode b_M_look 52 = .ok (.getfield 36, 3) := by decide +kernel
theorem d_M_look_55 : decode b_M_look 55 = .ok (.iload 4, 2) := by decide +kernel
theorem d_M_look_57 : decode b_M_look 57 = .ok (.iaload, 1) := by decide +kernel
theorem d_M_look_58 : decode b_M_look 58 = .ok (.iload_n 3, 1) := by decide +kernel
theorem d_M_look_59 : decode b_M_look 59 = .ok (.if_icmp .ne 6, 3) := by decide +kernel
theorem d_M_look_62 : decode b_M_look 62 = .ok (.iload 4, 2) := by decide +kernel
theorem d_M_look_64 : decode b_M_look 64 = .ok (.ireturn, 1) := by decide +kernel
theorem d_M_look_65 : decode b_M_look 65 = .ok (.iinc 4 1, 3) := by decide +kernel
theorem d_M_look_68 : decode b_M_look 68 = .ok (.goto (-35), 3) := by decide +kernel
theorem d_M_look_71 : decode b_M_look 71 = .ok (.bipush (-2), 2) := by decide +kernel
theorem d_M_look_73 : decode b_M_look 73 = .ok (.ireturn, 1) := by decide +kernel
theorem d_M_value_0 : decode b_M_value 0 = .ok (.iload_n 1, 1) := by decide +kernel
theorem d_M_value_1 : decode b_M_value 1 = .ok (.iconst 0, 1) := by decide +kernel
theorem d_M_value_2 : decode b_M_value 2 = .ok (.bipush 8, 2) := by decide +kernel
theorem d_M_value_4 : decode b_M_value 4 = .ok (.invokestatic 52, 3) := by decide +kernel
theorem d_M_value_7 : decode b_M_value 7 = .ok (.ifCond .ne 7, 3) := by decide +kernel
theorem d_M_value_10 : decode b_M_value 10 = .ok (.ldc2_w 147, 3) := by decide +kernel
theorem d_M_value_13 : decode b_M_value 13 = .ok (.lreturn, 1) := by decide +kernel
theorem d_M_value_14 : decode b_M_value 14 = .ok (.aload_n 0, 1) := by decide +kernel
theorem d_M_value_15 : decode b_M_value 15 = .ok (.getfield 36, 3) := by decide +kernel
theorem d_M_value_18 : decode b_M_value 18 = .ok (.iload_n 1, 1) := by decide +kernel
theorem d_M_value_19 : decode b_M_value 19 = .ok (.iaload, 1) := by decide +kernel
theorem d_M_value_20 : decode b_M_value 20 = .ok (.istore_n 2, 1) := by decide +kernel
theorem d_M_value_21 : decode b_M_value 21 = .ok (.aload_n 0, 1) := by decide +kernel
theorem d_M_value_22 : decode b_M_value 22 = .ok (.getfield 7, 3) := by decide +kernel
theorem d_M_value_25 : decode b_M_value 25 = .ok (.iload_n 2, 1) := by decide +kernel
theorem d_M_value_26 : decode b_M_value 26 = .ok (.iaload, 1) := by decide +kernel
theorem d_M_value_27 : decode b_M_value 27 = .ok (.bipush 9, 2) := by decide +kernel
theorem d_M_value_29 : decode b_M_value 29 = .ok (.if_icmp .ne 10, 3) := by decide +kernel
theorem d_M_value_32 : decode b_M_value 32 = .ok (.aload_n 0, 1) := by decide +kernel
theorem d_M_value_33 : decode b_M_value 33 = .ok (.getfield 13, 3) := by decide +kernel
theorem d_M_value_36 : decode b_M_value 36 = .ok (.iload_n 2, 1) := by decide +kernel
theorem d_M_value_37 : decode b_M_value 37 = .ok (.laload, 1) := by decide +kernel
theorem d_M_value_38 : decode b_M_value 38 = .ok (.lreturn, 1) := by decide +kernel
theorem d_M_value_39 : decode b_M_value 39 = .ok (.aload_n 0, 1) := by decide +kernel
theorem d_M_value_40 : decode b_M_value 40 = .ok (.iload_n 2, 1) := by decide +kernel
theorem d_M_value_41 : decode b_M_value 41 = .ok (.invokevirtual 69, 3) := by decide +kernel
theorem d_M_value_44 : decode b_M_value 44 = .ok (.ifCond .ne 5, 3) := by decide +kernel
theorem d_M_value_47 : decode b_M_value 47 = .ok (.lconst 0, 1) := by decide +kernel
theorem d_M_value_48 : decode b_M_value 48 = .ok (.lreturn, 1) := by decide +kernel
theorem d_M_value_49 : decode b_M_value 49 = .ok (.aload_n 0, 1) := by decide +kernel
theorem d_M_value_50 : decode b_M_value 50 = .ok (.aload_n 0, 1) := by decide +kernel
theorem d_M_value_51 : decode b_M_value 51 = .ok (.getfield 13, 3) := by decide +kernel
theorem d_M_value_54 : decode b_M_value 54 = .ok (.iload_n 2, 1) := by decide +kernel
theorem d_M_value_55 : decode b_M_value 55 = .ok (.laload, 1) := by decide +kernel
theorem d_M_value_56 : decode b_M_value 56 = .ok (.putfield 56, 3) := by decide +kernel
theorem d_M_value_59 : decode b_M_value 59 = .ok (.aload_n 0, 1) := by decide +kernel
theorem d_M_value_60 : decode b_M_value 60 = .ok (.aload_n 0, 1) := by decide +kernel
theorem d_M_value_61 : decode b_M_value 61 = .ok (.getfield 17, 3) := by decide +kernel
theorem d_M_value_64 : decode b_M_value 64 = .ok (.iload_n 2, 1) := by decide +kernel
theorem d_M_value_65 : decode b_M_value 65 = .ok (.daload, 1) := by decide +kernel
theorem d_M_value_66 : decode b_M_value 66 = .ok (.putfield 59, 3) := by decide +kernel
theorem d_M_value_69 : decode b_M_value 69 = .ok (.aload_n 0, 1) := by decide +kernel
theorem d_M_value_70 : decode b_M_value 70 = .ok (.aload_n 0, 1) := by decide +kernel
theorem d_M_value_71 : decode b_M_value 71 = .ok (.getfield 7, 3) := by decide +kernel
theorem d_M_value_74 : decode b_M_value 74 = .ok (.iload_n 2, 1) := by decide +kernel
theorem d_M_value_75 : decode b_M_value 75 = .ok (.iaload, 1) := by decide +kernel
theorem d_M_value_76 : decode b_M_value 76 = .ok (.iconst 1, 1) := by decide +kernel
theorem d_M_value_77 : decode b_M_value 77 = .ok (.isub, 1) := by decide +kernel
theorem d_M_value_78 : decode b_M_value 78 = .ok (.invokevirtual 107, 3) := by decide +kernel
theorem d_M_value_81 : decode b_M_value 81 = .ok (.lreturn, 1) := by decide +kernel
theorem d_M_above_0 : decode b_M_above 0 = .ok (.iload_n 0, 1) := by decide +kernel
theorem d_M_above_1 : decode b_M_above 1 = .ok (.ifCond .eq 14, 3) := by decide +kernel
theorem d_M_above_4 : decode b_M_above 4 = .ok (.iload_n 0, 1) := by decide +kernel
theorem d_M_above_5 : decode b_M_above 5 = .ok (.iconst 4, 1) := by decide +kernel
theorem d_M_above_6 : decode b_M_above 6 = .ok (.if_icmp .eq 9, 3) := by decide +kernel
theorem d_M_above_9 : decode b_M_above 9 = .ok (.iload_n 0, 1) := by decide +kernel
theorem d_M_above_10 : decode b_M_above 10 = .ok (.bipush 8, 2) := by decide +kernel
theorem d_M_above_12 : decode b_M_above 12 = .ok (.if_icmp .ne 6, 3) := by decide +kernel
theorem d_M_above_15 : decode b_M_above 15 = .ok (.bipush (-2), 2) := by decide +kernel
theorem d_M_above_17 : decode b_M_above 17 = .ok (.ireturn, 1) := by decide +kernel
theorem d_M_above_18 : decode b_M_above 18 = .ok (.iload_n 0, 1) := by decide +kernel
theorem d_M_above_19 : decode b_M_above 19 = .ok (.iconst 2, 1) := by decide +kernel
theorem d_M_above_20 : decode b_M_above 20 = .ok (.if_icmp .ne 7, 3) := by decide +kernel
theorem d_M_above_23 : decode b_M_above 23 = .ok (.iconst 1, 1) := by decide +kernel
theorem d_M_above_24 : decode b_M_above 24 = .ok (.goto 14, 3) := by decide +kernel
theorem d_M_above_27 : decode b_M_above 27 = .ok (.iload_n 0, 1) := by decide +kernel
theorem d_M_above_28 : decode b_M_above 28 = .ok (.bipush 6, 2) := by decide +kernel
theorem d_M_above_30 : decode b_M_above 30 = .ok (.if_icmp .ne 7, 3) := by decide +kernel
theorem d_M_above_33 : decode b_M_above 33 = .ok (.iconst 5, 1) := by decide +kernel
theorem d_M_above_34 : decode b_M_above 34 = .ok (.goto 4, 3) := by decide +kernel
theorem d_M_above_37 : decode b_M_above 37 = .ok (.iconst 0, 1) := by decide +kernel
theorem d_M_above_38 : decode b_M_above 38 = .ok (.ireturn, 1) := by decide +kernel
theorem d_M_elements_0 : decode b_M_elements 0 = .ok (.iload_n 0, 1) := by decide +kernel
theorem d_M_elements_1 : decode b_M_elements 1 = .ok (.bipush 9, 2) := by decide +kernel
theorem d_M_elements_3 : decode b_M_elements 3 = .ok (.if_icmp .ne 8, 3) := by decide +kernel
theorem d_M_elements_6 : decode b_M_elements 6 = .ok (.bipush 8, 2) := by decide +kernel
theorem d_M_elements_8 : decode b_M_elements 8 = .ok (.goto 36, 3) := by decide +kernel
theorem d_M_elements_11 : decode b_M_elements 11 = .ok (.iload_n 0, 1) := by decide +kernel
theorem d_M_elements_12 : decode b_M_elements 12 = .ok (.bipush 10, 2) := by decide +kernel
theorem d_M_elements_14 : decode b_M_elements 14 = .ok (.if_icmp .ne 7, 3) := by decide +kernel
theorem d_M_elements_17 : decode b_M_elements 17 = .ok (.iconst 0, 1) := by decide +kernel
theorem d_M_elements_18 : decode b_M_elements 18 = .ok (.goto 26, 3) := by decide +kernel
theorem d_M_elements_21 : decode b_M_elements 21 = .ok (.iload_n 0, 1) := by decide +kernel
theorem d_M_elements_22 : decode b_M_elements 22 = .ok (.bipush 11, 2) := by decide +kernel
theorem d_M_elements_24 : decode b_M_elements 24 = .ok (.if_icmp .ne 7, 3) := by decide +kernel
theorem d_M_elements_27 : decode b_M_elements 27 = .ok (.iconst 5, 1) := by decide +kernel
theorem d_M_elements_28 : decode b_M_elements 28 = .ok (.goto 16, 3) := by decide +kernel
theorem d_M_elements_31 : decode b_M_elements 31 = .ok (.iload_n 0, 1) := by decide +kernel
theorem d_M_elements_32 : decode b_M_elements 32 = .ok (.bipush 12, 2) := by decide +kernel
theorem d_M_elements_34 : decode b_M_elements 34 = .ok (.if_icmp .ne 8, 3) := by decide +kernel
theorem d_M_elements_37 : decode b_M_elements 37 = .ok (.bipush 6, 2) := by decide +kernel
theorem d_M_elements_39 : decode b_M_elements 39 = .ok (.goto 5, 3) := by decide +kernel
theorem d_M_elements_42 : decode b_M_elements 42 = .ok (.bipush (-2), 2) := by decide +kernel
theorem d_M_elements_44 : decode b_M_elements 44 = .ok (.ireturn, 1) := by decide +kernel
theorem d_M_takes_0 : decode b_M_takes 0 = .ok (.iload_n 0, 1) := by decide +kernel
theorem d_M_takes_1 : decode b_M_takes 1 = .ok (.iload_n 1, 1) := by decide +kernel
theorem d_M_takes_2 : decode b_M_takes 2 = .ok (.if_icmp .ne 5, 3) := by decide +kernel
theorem d_M_takes_5 : decode b_M_takes 5 = .ok (.iconst 1, 1) := by decide +kernel
theorem d_M_takes_6 : decode b_M_takes 6 = .ok (.ireturn, 1) := by decide +kernel
theorem d_M_takes_7 : decode b_M_takes 7 = .ok (.iload_n 0, 1) := by decide +kernel
theorem d_M_takes_8 : decode b_M_takes 8 = .ok (.ifCond .ne 15, 3) := by decide +kernel
theorem d_M_takes_11 : decode b_M_takes 11 = .ok (.iload_n 1, 1) := by decide +kernel
theorem d_M_takes_12 : decode b_M_takes 12 = .ok (.bipush 8, 2) := by decide +kernel
theorem d_M_takes_14 : decode b_M_takes 14 = .ok (.if_icmp .eq 7, 3) := by decide +kernel
theorem d_M_takes_17 : decode b_M_takes 17 = .ok (.iconst 1, 1) := by decide +kernel
theorem d_M_takes_18 : decode b_M_takes 18 = .ok (.goto 4, 3) := by decide +kernel
theorem d_M_takes_21 : decode b_M_takes 21 = .ok (.iconst 0, 1) := by decide +kernel
theorem d_M_takes_22 : decode b_M_takes 22 = .ok (.ireturn, 1) := by decide +kernel
theorem d_M_takes_23 : decode b_M_takes 23 = .ok (.iload_n 0, 1) := by decide +kernel
theorem d_M_takes_24 : decode b_M_takes 24 = .ok (.iconst 4, 1) := by decide +kernel
theorem d_M_takes_25 : decode b_M_takes 25 = .ok (.if_icmp .ne 21, 3) := by decide +kernel
theorem d_M_takes_28 : decode b_M_takes 28 = .ok (.iload_n 1, 1) := by decide +kernel
theorem d_M_takes_29 : decode b_M_takes 29 = .ok (.bipush 6, 2) := by decide +kernel
theorem d_M_takes_31 : decode b_M_takes 31 = .ok (.if_icmp .eq 9, 3) := by decide +kernel
theorem d_M_takes_34 : decode b_M_takes 34 = .ok (.iload_n 1, 1) := by decide +kernel
theorem d_M_takes_35 : decode b_M_takes 35 = .ok (.bipush 7, 2) := by decide +kernel
theorem d_M_takes_37 : decode b_M_takes 37 = .ok (.if_icmp .ne 7, 3) := by decide +kernel
theorem d_M_takes_40 : decode b_M_takes 40 = .ok (.iconst 1, 1) := by decide +kernel
theorem d_M_takes_41 : decode b_M_takes 41 = .ok (.goto 4, 3) := by decide +kernel
theorem d_M_takes_44 : decode b_M_takes 44 = .ok (.iconst 0, 1) := by decide +kernel
theorem d_M_takes_45 : decode b_M_takes 45 = .ok (.ireturn, 1) := by decide +kernel
theorem d_M_takes_46 : decode b_M_takes 46 = .ok (.iload_n 0, 1) := by decide +kernel
theorem d_M_takes_47 : decode b_M_takes 47 = .ok (.bipush 10, 2) := by decide +kernel
theorem d_M_takes_49 : decode b_M_takes 49 = .ok (.if_icmp .ne 15, 3) := by decide +kernel
theorem d_M_takes_52 : decode b_M_takes 52 = .ok (.iload_n 1, 1) := by decide +kernel
theorem d_M_takes_53 : decode b_M_takes 53 = .ok (.bipush 10, 2) := by decide +kernel
theorem d_M_takes_55 : decode b_M_takes 55 = .ok (.if_icmp .le 7, 3) := by decide +kernel
theorem d_M_takes_58 : decode b_M_takes 58 = .ok (.iconst 1, 1) := by decide +kernel
theorem d_M_takes_59 : decode b_M_takes 59 = .ok (.goto 4, 3) := by decide +kernel
theorem d_M_takes_62 : decode b_M_takes 62 = .ok (.iconst 0, 1) := by decide +kernel
theorem d_M_takes_63 : decode b_M_takes 63 = .ok (.ireturn, 1) := by decide +kernel
theorem d_M_takes_64 : decode b_M_takes 64 = .ok (.iload_n 0, 1) := by decide +kernel
theorem d_M_takes_65 : decode b_M_takes 65 = .ok (.bipush 11, 2) := by decide +kernel
theorem d_M_takes_67 : decode b_M_takes 67 = .ok (.if_icmp .ne 15, 3) := by decide +kernel
theorem d_M_takes_70 : decode b_M_takes 70 = .ok (.iload_n 1, 1) := by decide +kernel
theorem d_M_takes_71 : decode b_M_takes 71 = .ok (.bipush 12, 2) := by decide +kernel
theorem d_M_takes_73 : decode b_M_takes 73 = .ok (.if_icmp .ne 7, 3) := by decide +kernel
theorem d_M_takes_76 : decode b_M_takes 76 = .ok (.iconst 1, 1) := by decide +kernel
theorem d_M_takes_77 : decode b_M_takes 77 = .ok (.goto 4, 3) := by decide +kernel
theorem d_M_takes_80 : decode b_M_takes 80 = .ok (.iconst 0, 1) := by decide +kernel
theorem d_M_takes_81 : decode b_M_takes 81 = .ok (.ireturn, 1) := by decide +kernel
theorem d_M_takes_82 : decode b_M_takes 82 = .ok (.iload_n 0, 1) := by decide +kernel
theorem d_M_takes_83 : decode b_M_takes 83 = .ok (.iconst 1, 1) := by decide +kernel
theorem d_M_takes_84 : decode b_M_takes 84 = .ok (.if_icmp .ne 8, 3) := by decide +kernel
theorem d_M_takes_87 : decode b_M_takes 87 = .ok (.iload_n 1, 1) := by decide +kernel
theorem d_M_takes_88 : decode b_M_takes 88 = .ok (.iconst 2, 1) := by decide +kernel
theorem d_M_takes_89 : decode b_M_takes 89 = .ok (.if_icmp .eq 14, 3) := by decide +kernel
theorem d_M_takes_92 : decode b_M_takes 92 = .ok (.iload_n 0, 1) := by decide +kernel
theorem d_M_takes_93 : decode b_M_takes 93 = .ok (.iconst 5, 1) := by decide +kernel
theorem d_M_takes_94 : decode b_M_takes 94 = .ok (.if_icmp .ne 13, 3) := by decide +kernel
theorem d_M_takes_97 : decode b_M_takes 97 = .ok (.iload_n 1, 1) := by decide +kernel
theorem d_M_takes_98 : decode b_M_takes 98 = .ok (.bipush 6, 2) := by decide +kernel
theorem d_M_takes_100 : decode b_M_takes 100 = .ok (.if_icmp .ne 7, 3) := by decide +kernel
theorem d_M_takes_103 : decode b_M_takes 103 = .ok (.iconst 1, 1) := by decide +kernel
theorem d_M_takes_104 : decode b_M_takes 104 = .ok (.goto 4, 3) := by decide +kernel
theorem d_M_takes_107 : decode b_M_takes 107 = .ok (.iconst 0, 1) := by decide +kernel
theorem d_M_takes_108 : decode b_M_takes 108 = .ok (.ireturn, 1) := by decide +kernel
theorem d_M_typed_0 : decode b_M_typed 0 = .ok (.iload_n 1, 1) := by decide +kernel
theorem d_M_typed_1 : decode b_M_typed 1 = .ok (.iconst 0, 1) := by decide +kernel
theorem d_M_typed_2 : decode b_M_typed 2 = .ok (.bipush 12, 2) := by decide +kernel
theorem d_M_typed_4 : decode b_M_typed 4 = .ok (.invokestatic 52, 3) := by decide +kernel
theorem d_M_typed_7 : decode b_M_typed 7 = .ok (.ifCond .eq 12, 3) := by decide +kernel
theorem d_M_typed_10 : decode b_M_typed 10 = .ok (.iload_n 3, 1) := by decide +kernel
theorem d_M_typed_11 : decode b_M_typed 11 = .ok (.iconst 0, 1) := by decide +kernel
theorem d_M_typed_12 : decode b_M_typed 12 = .ok (.iconst 3, 1) := by decide +kernel
theorem d_M_typed_13 : decode b_M_typed 13 = .ok (.invokestatic 52, 3) := by decide +kernel
theorem d_M_typed_16 : decode b_M_typed 16 = .ok (.ifCond .ne 5, 3) := by decide +kernel
theorem d_M_typed_19 : decode b_M_typed 19 = .ok (.iconst (-1), 1) := by decide +kernel
theorem d_M_typed_20 : decode b_M_typed 20 = .ok (.ireturn, 1) := by decide +kernel
theorem d_M_typed_21 : decode b_M_typed 21 = .ok (.iload_n 3, 1) := by decide +kernel
theorem d_M_typed_22 : decode b_M_typed 22 = .ok (.iconst 1, 1) := by decide +kernel
theorem d_M_typed_23 : decode b_M_typed 23 = .ok (.if_icmp .ne 8, 3) := by decide +kernel
theorem d_M_typed_26 : decode b_M_typed 26 = .ok (.iload_n 1, 1) := by decide +kernel
theorem d_M_typed_27 : decode b_M_typed 27 = .ok (.invokestatic 149, 3) := by decide +kernel
theorem d_M_typed_30 : decode b_M_typed 30 = .ok (.ireturn, 1) := by decide +kernel
theorem d_M_typed_31 : decode b_M_typed 31 = .ok (.iload_n 3, 1) := by decide +kernel
theorem d_M_typed_32 : decode b_M_typed 32 = .ok (.iconst 2, 1) := by decide +kernel
theorem d_M_typed_33 : decode b_M_typed 33 = .ok (.if_icmp .ne 8, 3) := by decide +kernel
theorem d_M_typed_36 : decode b_M_typed 36 = .ok (.iload_n 1, 1) := by decide +kernel
theorem d_M_typed_37 : decode b_M_typed 37 = .ok (.invokestatic 152, 3) := by decide +kernel
theorem d_M_typed_40 : decode b_M_typed 40 = .ok (.ireturn, 1) := by decide +kernel
theorem d_M_typed_41 : decode b_M_typed 41 = .ok (.iload_n 3, 1) := by decide +kernel
theorem d_M_typed_42 : decode b_M_typed 42 = .ok (.iconst 3, 1) := by decide +kernel
theorem d_M_typed_43 : decode b_M_typed 43 = .ok (.if_icmp .ne 25, 3) := by decide +kernel
theorem d_M_typed_46 : decode b_M_typed 46 = .ok (.iload_n 1, 1) := by decide +kernel
theorem d_M_typed_47 : decode b_M_typed 47 = .ok (.iconst 1, 1) := by decide +kernel
theorem d_M_typed_48 : decode b_M_typed 48 = .ok (.if_icmp .eq 14, 3) := by decide +kernel
theorem d_M_typed_51 : decode b_M_typed 51 = .ok (.iload_n 1, 1) := by decide +kernel
theorem d_M_typed_52 : decode b_M_typed 52 = .ok (.iconst 4, 1) := by decide +kernel
theorem d_M_typed_53 : decode b_M_typed 53 = .ok (.if_icmp .eq 9, 3) := by decide +kernel
theorem d_M_typed_56 : decode b_M_typed 56 = .ok (.iload_n 1, 1) := by decide +kernel
theorem d_M_typed_57 : decode b_M_typed 57 = .ok (.bipush 7, 2) := by decide +kernel
theorem d_M_typed_59 : decode b_M_typed 59 = .ok (.if_icmp .lt 7, 3) := by decide +kernel
theorem d_M_typed_62 : decode b_M_typed 62 = .ok (.iconst 1, 1) := by decide +kernel
theorem d_M_typed_63 : decode b_M_typed 63 = .ok (.goto 4, 3) := by decide +kernel
theorem d_M_typed_66 : decode b_M_typed 66 = .ok (.iconst 0, 1) := by decide +kernel
theorem d_M_typed_67 : decode b_M_typed 67 = .ok (.ireturn, 1) := by decide +kernel
theorem d_M_typed_68 : decode b_M_typed 68 = .ok (.iload_n 2, 1) := by decide +kernel
theorem d_M_typed_69 : decode b_M_typed 69 = .ok (.iconst 0, 1) := by decide +kernel
theorem d_M_typed_70 : decode b_M_typed 70 = .ok (.bipush 12, 2) := by decide +kernel
theorem d_M_typed_72 : decode b_M_typed 72 = .ok (.invokestatic 52, 3) := by decide +kernel
theorem d_M_typed_75 : decode b_M_typed 75 = .ok (.ifCond .ne 5, 3) := by decide +kernel
theorem d_M_typed_78 : decode b_M_typed 78 = .ok (.iconst (-1), 1) := by decide +kernel
theorem d_M_typed_79 : decode b_M_typed 79 = .ok (.ireturn, 1) := by decide +kernel
theorem d_M_typed_80 : decode b_M_typed 80 = .ok (.iload_n 1, 1) := by decide +kernel
theorem d_M_typed_81 : decode b_M_typed 81 = .ok (.iload_n 2, 1) := by decide +kernel
theorem d_M_typed_82 : decode b_M_typed 82 = .ok (.invokestatic 155, 3) := by decide +kernel
theorem d_M_typed_85 : decode b_M_typed 85 = .ok (.ifCond .eq 7, 3) := by decide +kernel
theorem d_M_typed_88 : decode b_M_typed 88 = .ok (.iconst 1, 1) := by decide +kernel
theorem d_M_typed_89 : decode b_M_typed 89 = .ok (.goto 4, 3) := by decide +kernel
theorem d_M_typed_92 : decode b_M_typed 92 = .ok (.iconst 0, 1) := by decide +kernel
theorem d_M_typed_93 : decode b_M_typed 93 = .ok (.ireturn, 1) := by decide +kernel
theorem d_B_init_0 : decode b_B_init 0 = .ok (.aload_n 0, 1) := by decide +kernel
theorem d_B_init_1 : decode b_B_init 1 = .ok (.invokespecial 3, 3) := by decide +kernel
theorem d_B_init_4 : decode b_B_init 4 = .ok (.aload_n 0, 1) := by decide +kernel
theorem d_B_init_5 : decode b_B_init 5 = .ok (.iload_n 1, 1) := by decide +kernel
theorem d_B_init_6 : decode b_B_init 6 = .ok (.putfield 9, 3) := by decide +kernel
theorem d_B_init_9 : decode b_B_init 9 = .ok (.aload_n 0, 1) := by decide +kernel
theorem d_B_init_10 : decode b_B_init 10 = .ok (.lload_n 2, 1) := by decide +kernel
theorem d_B_init_11 : decode b_B_init 11 = .ok (.putfield 15, 3) := by decide +kernel
theorem d_B_init_14 : decode b_B_init 14 = .ok (.aload_n 0, 1) := by decide +kernel
theorem d_B_init_15 : decode b_B_init 15 = .ok (.dload 4, 2) := by decide +kernel
theorem d_B_init_17 : decode b_B_init 17 = .ok (.putfield 19, 3) := by decide +kernel
theorem d_B_init_20 : decode b_B_init 20 = .ok (.return_, 1) := by decide +kernel
theorem d_B_sort_0 : decode b_B_sort 0 = .ok (.aload_n 0, 1) := by decide +kernel
theorem d_B_sort_1 : decode b_B_sort 1 = .ok (.getfield 9, 3) := by decide +kernel
theorem d_B_sort_4 : decode b_B_sort 4 = .ok (.iconst 1, 1) := by decide +kernel
theorem d_B_sort_5 : decode b_B_sort 5 = .ok (.iadd, 1) := by decide +kernel
theorem d_B_sort_6 : decode b_B_sort 6 = .ok (.ireturn, 1) := by decide +kernel
theorem d_B_type_0 : decode b_B_type 0 = .ok (.getstatic 23, 3) := by decide +kernel
theorem d_B_type_3 : decode b_B_type 3 = .ok (.aload_n 0, 1) := by decide +kernel
theorem d_B_type_4 : decode b_B_type 4 = .ok (.getfield 9, 3) := by decide +kernel
theorem d_B_type_7 : decode b_B_type 7 = .ok (.iaload, 1) := by decide +kernel
theorem d_B_type_8 : decode b_B_type 8 = .ok (.ireturn, 1) := by decide +kernel
theorem d_B_told_0 : decode b_B_told 0 = .ok (.aload_n 0, 1) := by decide +kernel
theorem d_B_told_1 : decode b_B_told 1 = .ok (.aload_n 0, 1) := by decide +kernel
theorem d_B_told_2 : decode b_B_told 2 = .ok (.getfield 9, 3) := by decide +kernel
theorem d_B_told_5 : decode b_B_told 5 = .ok (.invokevirtual 27, 3) := by decide +kernel
theorem d_B_told_8 : decode b_B_told 8 = .ok (.lreturn, 1) := by decide +kernel
theorem d_B_toldAs_0 : decode b_B_toldAs 0 = .ok (.iload_n 1, 1) := by decide +kernel
theorem d_B_toldAs_1 : decode b_B_toldAs 1 = .ok (.iconst 5, 1) := by decide +kernel
theorem d_B_toldAs_2 : decode b_B_toldAs 2 = .ok (.if_icmp .gt 8, 3) := by decide +kernel
theorem d_B_toldAs_5 : decode b_B_toldAs 5 = .ok (.aload_n 0, 1) := by decide +kernel
theorem d_B_toldAs_6 : decode b_B_toldAs 6 = .ok (.getfield 15, 3) := by decide +kernel
theorem d_B_toldAs_9 : decode b_B_toldAs 9 = .ok (.lreturn, 1) := by decide +kernel
theorem d_B_toldAs_10 : decode b_B_toldAs 10 = .ok (.iload_n 1, 1) := by decide +kernel
theorem d_B_toldAs_11 : decode b_B_toldAs 11 = .ok (.bipush 6, 2) := by decide +kernel
theorem d_B_toldAs_13 : decode b_B_toldAs 13 = .ok (.if_icmp .ne 23, 3) := by decide +kernel
theorem d_B_toldAs_16 : decode b_B_toldAs 16 = .ok (.aload_n 0, 1) := by decide +kernel
theorem d_B_toldAs_17 : decode b_B_toldAs 17 = .ok (.getfield 9, 3) := by decide +kernel
theorem d_B_toldAs_20 : decode b_B_toldAs 20 = .ok (.iconst 5, 1) := by decide +kernel
theorem d_B_toldAs_21 : decode b_B_toldAs 21 = .ok (.if_icmp .gt 15, 3) := by decide +kernel
theorem d_B_toldAs_24 : decode b_B_toldAs 24 = .ok (.aload_n 0, 1) := by decide +kernel
theorem d_B_toldAs_25 : decode b_B_toldAs 25 = .ok (.getfield 15, 3) := by decide +kernel
theorem d_B_toldAs_28 : decode b_B_toldAs 28 = .ok (.l2f, 1) := by decide +kernel
theorem d_B_toldAs_29 : decode b_B_toldAs 29 = .ok (.f2d, 1) := by decide +kernel
theorem d_B_toldAs_30 : decode b_B_toldAs 30 = .ok (.ldc2_w 31, 3) := by decide +kernel
theorem d_B_toldAs_33 : decode b_B_toldAs 33 = .ok (.dmul, 1) := by decide +kernel
theorem d_B_toldAs_34 : decode b_B_toldAs 34 = .ok (.d2l, 1) := by decide +kernel
theorem d_B_toldAs_35 : decode b_B_toldAs 35 = .ok (.lreturn, 1) := by decide +kernel
theorem d_B_toldAs_36 : decode b_B_toldAs 36 = .ok (.aload_n 0, 1) := by decide +kernel
theorem d_B_toldAs_37 : decode b_B_toldAs 37 = .ok (.getfield 19, 3) := by decide +kernel
theorem d_B_toldAs_40 : decode b_B_toldAs 40 = .ok (.ldc2_w 31, 3) := by decide +kernel
theorem d_B_toldAs_43 : decode b_B_toldAs 43 = .ok (.dmul, 1) := by decide +kernel
theorem d_B_toldAs_44 : decode b_B_toldAs 44 = .ok (.d2l, 1) := by decide +kernel
theorem d_B_toldAs_45 : decode b_B_toldAs 45 = .ok (.lreturn, 1) := by decide +kernel
theorem d_H_init_0 : decode b_H_init 0 = .ok (.aload_n 0, 1) := by decide +kernel
theorem d_H_init_1 : decode b_H_init 1 = .ok (.invokespecial 1, 3) := by decide +kernel
theorem d_H_init_4 : decode b_H_init 4 = .ok (.return_, 1) := by decide +kernel
theorem d_H_told_0 : decode b_H_told 0 = .ok (.lconst 0, 1) := by decide +kernel
theorem d_H_told_1 : decode b_H_told 1 = .ok (.lreturn, 1) := by decide +kernel
theorem d_I_init_0 : decode b_I_init 0 = .ok (.aload_n 0, 1) := by decide +kernel
theorem d_I_init_1 : decode b_I_init 1 = .ok (.invokespecial 3, 3) := by decide +kernel
theorem d_I_init_4 : decode b_I_init 4 = .ok (.aload_n 0, 1) := by decide +kernel
theorem d_I_init_5 : decode b_I_init 5 = .ok (.iload_n 1, 1) := by decide +kernel
theorem d_I_init_6 : decode b_I_init 6 = .ok (.putfield 9, 3) := by decide +kernel
theorem d_I_init_9 : decode b_I_init 9 = .ok (.return_, 1) := by decide +kernel
theorem d_I_sort_0 : decode b_I_sort 0 = .ok (.bipush 10, 2) := by decide +kernel
