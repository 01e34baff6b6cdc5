theorem dX11_childAt_9 : decode cX11_childAt 9 = .ok (.aload_n 0, 1) := by decide +kernel
theorem dX11_childAt_10 : decode cX11_childAt 10 = .ok (.getfield 386, 3) := by decide +kernel
theorem dX11_childAt_13 : decode cX11_childAt 13 = .ok (.if_icmp .ge 118, 3) := by decide +kernel
theorem dX11_childAt_16 : decode cX11_childAt 16 = .ok (.aload_n 0, 1) := by decide +kernel
theorem dX11_childAt_17 : decode cX11_childAt 17 = .ok (.getfield 114, 3) := by decide +kernel
theorem dX11_childAt_20 : decode cX11_childAt 20 = .ok (.iload 6, 2) := by decide +kernel
theorem dX11_childAt_22 : decode cX11_childAt 22 = .ok (.iaload, 1) := by decide +kernel
theorem dX11_childAt_23 : decode cX11_childAt 23 = .ok (.iload_n 1, 1) := by decide +kernel
theorem dX11_childAt_24 : decode cX11_childAt 24 = .ok (.if_icmp .ne 30, 3) := by decide +kernel
theorem dX11_childAt_27 : decode cX11_childAt 27 = .ok (.aload_n 0, 1) := by decide +kernel
theorem dX11_childAt_28 : decode cX11_childAt 28 = .ok (.getfield 117, 3) := by decide +kernel
theorem dX11_childAt_31 : decode cX11_childAt 31 = .ok (.iload 6, 2) := by decide +kernel
theorem dX11_childAt_33 : decode cX11_childAt 33 = .ok (.iaload, 1) := by decide +kernel
theorem dX11_childAt_34 : decode cX11_childAt 34 = .ok (.iload 4, 2) := by decide +kernel
theorem dX11_childAt_36 : decode cX11_childAt 36 = .ok (.if_icmp .ne 18, 3) := by decide +kernel
theorem dX11_childAt_39 : decode cX11_childAt 39 = .ok (.aload_n 0, 1) := by decide +kernel
theorem dX11_childAt_40 : decode cX11_childAt 40 = .ok (.getfield 111, 3) := by decide +kernel
theorem dX11_childAt_43 : decode cX11_childAt 43 = .ok (.iload 6, 2) := by decide +kernel
theorem dX11_childAt_45 : decode cX11_childAt 45 = .ok (.iaload, 1) := by decide +kernel
theorem dX11_childAt_46 : decode cX11_childAt 46 = .ok (.iload_n 3, 1) := by decide +kernel
theorem dX11_childAt_47 : decode cX11_childAt 47 = .ok (.if_icmp .ne 7, 3) := by decide +kernel
theorem dX11_childAt_50 : decode cX11_childAt 50 = .ok (.iconst 1, 1) := by decide +kernel
theorem dX11_childAt_51 : decode cX11_childAt 51 = .ok (.goto 4, 3) := by decide +kernel
theorem dX11_childAt_54 : decode cX11_childAt 54 = .ok (.iconst 0, 1) := by decide +kernel
theorem dX11_childAt_55 : decode cX11_childAt 55 = .ok (.istore 7, 2) := by decide +kernel
theorem dX11_childAt_57 : decode cX11_childAt 57 = .ok (.iconst 0, 1) := by decide +kernel
theorem dX11_childAt_58 : decode cX11_childAt 58 = .ok (.istore 8, 2) := by decide +kernel
theorem dX11_childAt_60 : decode cX11_childAt 60 = .ok (.iload 8, 2) := by decide +kernel
theorem dX11_childAt_62 : decode cX11_childAt 62 = .ok (.iload_n 3, 1) := by decide +kernel
theorem dX11_childAt_63 : decode cX11_childAt 63 = .ok (.if_icmp .ge 48, 3) := by decide +kernel
theorem dX11_childAt_66 : decode cX11_childAt 66 = .ok (.iload 7, 2) := by decide +kernel
theorem dX11_childAt_68 : decode cX11_childAt 68 = .ok (.ifCond .eq 43, 3) := by decide +kernel
theorem dX11_childAt_71 : decode cX11_childAt 71 = .ok (.aload_n 0, 1) := by decide +kernel
theorem dX11_childAt_72 : decode cX11_childAt 72 = .ok (.getfield 102, 3) := by decide +kernel
theorem dX11_childAt_75 : decode cX11_childAt 75 = .ok (.aload_n 0, 1) := by decide +kernel
theorem dX11_childAt_76 : decode cX11_childAt 76 = .ok (.getfield 108, 3) := by decide +kernel
theorem dX11_childAt_79 : decode cX11_childAt 79 = .ok (.iload 6, 2) := by decide +kernel
theorem dX11_childAt_81 : decode cX11_childAt 81 = .ok (.iaload, 1) := by decide +kernel
theorem dX11_childAt_82 : decode cX11_childAt 82 = .ok (.iload 8, 2) := by decide +kernel
theorem dX11_childAt_84 : decode cX11_childAt 84 = .ok (.iadd, 1) := by decide +kernel
theorem dX11_childAt_85 : decode cX11_childAt 85 = .ok (.iaload, 1) := by decide +kernel
theorem dX11_childAt_86 : decode cX11_childAt 86 = .ok (.aload_n 0, 1) := by decide +kernel
theorem dX11_childAt_87 : decode cX11_childAt 87 = .ok (.getfield 162, 3) := by decide +kernel
theorem dX11_childAt_90 : decode cX11_childAt 90 = .ok (.iload_n 2, 1) := by decide +kernel
theorem dX11_childAt_91 : decode cX11_childAt 91 = .ok (.iload 8, 2) := by decide +kernel
theorem dX11_childAt_93 : decode cX11_childAt 93 = .ok (.iadd, 1) := by decide +kernel
theorem dX11_childAt_94 : decode cX11_childAt 94 = .ok (.iaload, 1) := by decide +kernel
theorem dX11_childAt_95 : decode cX11_childAt 95 = .ok (.if_icmp .ne 7, 3) := by decide +kernel
theorem dX11_childAt_98 : decode cX11_childAt 98 = .ok (.iconst 1, 1) := by decide +kernel
theorem dX11_childAt_99 : decode cX11_childAt 99 = .ok (.goto 4, 3) := by decide +kernel
theorem dX11_childAt_102 : decode cX11_childAt 102 = .ok (.iconst 0, 1) := by decide +kernel
theorem dX11_childAt_103 : decode cX11_childAt 103 = .ok (.istore 7, 2) := by decide +kernel
theorem dX11_childAt_105 : decode cX11_childAt 105 = .ok (.iinc 8 1, 3) := by decide +kernel
theorem dX11_childAt_108 : decode cX11_childAt 108 = .ok (.goto (-48), 3) := by decide +kernel
theorem dX11_childAt_111 : decode cX11_childAt 111 = .ok (.iload 7, 2) := by decide +kernel
theorem dX11_childAt_113 : decode cX11_childAt 113 = .ok (.ifCond .eq 8, 3) := by decide +kernel
theorem dX11_childAt_116 : decode cX11_childAt 116 = .ok (.iload 6, 2) := by decide +kernel
theorem dX11_childAt_118 : decode cX11_childAt 118 = .ok (.goto 5, 3) := by decide +kernel
theorem dX11_childAt_121 : decode cX11_childAt 121 = .ok (.iload 5, 2) := by decide +kernel
theorem dX11_childAt_123 : decode cX11_childAt 123 = .ok (.istore 5, 2) := by decide +kernel
theorem dX11_childAt_125 : decode cX11_childAt 125 = .ok (.iinc 6 1, 3) := by decide +kernel
theorem dX11_childAt_128 : decode cX11_childAt 128 = .ok (.goto (-121), 3) := by decide +kernel
theorem dX11_childAt_131 : decode cX11_childAt 131 = .ok (.iload 5, 2) := by decide +kernel
theorem dX11_childAt_133 : decode cX11_childAt 133 = .ok (.ireturn, 1) := by decide +kernel
theorem dX11_pieceAt_0 : decode cX11_pieceAt 0 = .ok (.iload_n 1, 1) := by decide +kernel
theorem dX11_pieceAt_1 : decode cX11_pieceAt 1 = .ok (.aload_n 0, 1) := by decide +kernel
theorem dX11_pieceAt_2 : decode cX11_pieceAt 2 = .ok (.getfield 420, 3) := by decide +kernel
theorem dX11_pieceAt_5 : decode cX11_pieceAt 5 = .ok (.if_icmp .ge 12, 3) := by decide +kernel
theorem dX11_pieceAt_8 : decode cX11_pieceAt 8 = .ok (.aload_n 0, 1) := by decide +kernel
theorem dX11_pieceAt_9 : decode cX11_pieceAt 9 = .ok (.getfield 162, 3) := by decide +kernel
theorem dX11_pieceAt_12 : decode cX11_pieceAt 12 = .ok (.iload_n 1, 1) := by decide +kernel
theorem dX11_pieceAt_13 : decode cX11_pieceAt 13 = .ok (.iaload, 1) := by decide +kernel
theorem dX11_pieceAt_14 : decode cX11_pieceAt 14 = .ok (.goto 4, 3) := by decide +kernel
theorem dX11_pieceAt_17 : decode cX11_pieceAt 17 = .ok (.iconst (-1), 1) := by decide +kernel
theorem dX11_pieceAt_18 : decode cX11_pieceAt 18 = .ok (.ireturn, 1) := by decide +kernel
theorem dX11_steps_0 : decode cX11_steps 0 = .ok (.iload_n 2, 1) := by decide +kernel
theorem dX11_steps_1 : decode cX11_steps 1 = .ok (.istore_n 3, 1) := by decide +kernel
theorem dX11_steps_2 : decode cX11_steps 2 = .ok (.iload_n 1, 1) := by decide +kernel
theorem dX11_steps_3 : decode cX11_steps 3 = .ok (.istore 4, 2) := by decide +kernel
theorem dX11_steps_5 : decode cX11_steps 5 = .ok (.iconst 1, 1) := by decide +kernel
theorem dX11_steps_6 : decode cX11_steps 6 = .ok (.istore 5, 2) := by decide +kernel
theorem dX11_steps_8 : decode cX11_steps 8 = .ok (.iload 5, 2) := by decide +kernel
theorem dX11_steps_10 : decode cX11_steps 10 = .ok (.ifCond .eq 235, 3) := by decide +kernel
theorem dX11_steps_13 : decode cX11_steps 13 = .ok (.aload_n 0, 1) := by decide +kernel
theorem dX11_steps_14 : decode cX11_steps 14 = .ok (.iload 4, 2) := by decide +kernel
theorem dX11_steps_16 : decode cX11_steps 16 = .ok (.invokevirtual 473, 3) := by decide +kernel
theorem dX11_steps_19 : decode cX11_steps 19 = .ok (.invokestatic 346, 3) := by decide +kernel
theorem dX11_steps_22 : decode cX11_steps 22 = .ok (.ifCond .ne 6, 3) := by decide +kernel
theorem dX11_steps_25 : decode cX11_steps 25 = .ok (.bipush (-2), 2) := by decide +kernel
theorem dX11_steps_27 : decode cX11_steps 27 = .ok (.ireturn, 1) := by decide +kernel
theorem dX11_steps_28 : decode cX11_steps 28 = .ok (.iload 4, 2) := by decide +kernel
theorem dX11_steps_30 : decode cX11_steps 30 = .ok (.istore 6, 2) := by decide +kernel
theorem dX11_steps_32 : decode cX11_steps 32 = .ok (.aload_n 0, 1) := by decide +kernel
theorem dX11_steps_33 : decode cX11_steps 33 = .ok (.iload 6, 2) := by decide +kernel
theorem dX11_steps_35 : decode cX11_steps 35 = .ok (.invokevirtual 473, 3) := by decide +kernel
theorem dX11_steps_38 : decode cX11_steps 38 = .ok (.invokestatic 352, 3) := by decide +kernel
theorem dX11_steps_41 : decode cX11_steps 41 = .ok (.ifCond .eq 9, 3) := by decide +kernel
theorem dX11_steps_44 : decode cX11_steps 44 = .ok (.iinc 6 1, 3) := by decide +kernel
theorem dX11_steps_47 : decode cX11_steps 47 = .ok (.goto (-15), 3) := by decide +kernel
theorem dX11_steps_50 : decode cX11_steps 50 = .ok (.iload 6, 2) := by decide +kernel
theorem dX11_steps_52 : decode cX11_steps 52 = .ok (.iload 4, 2) := by decide +kernel
theorem dX11_steps_54 : decode cX11_steps 54 = .ok (.isub, 1) := by decide +kernel
theorem dX11_steps_55 : decode cX11_steps 55 = .ok (.istore 7, 2) := by decide +kernel
theorem dX11_steps_57 : decode cX11_steps 57 = .ok (.iconst 1, 1) := by decide +kernel
theorem dX11_steps_58 : decode cX11_steps 58 = .ok (.istore 8, 2) := by decide +kernel
theorem dX11_steps_60 : decode cX11_steps 60 = .ok (.aload_n 0, 1) := by decide +kernel
theorem dX11_steps_61 : decode cX11_steps 61 = .ok (.iload 6, 2) := by decide +kernel
theorem dX11_steps_63 : decode cX11_steps 63 = .ok (.invokevirtual 473, 3) := by decide +kernel
theorem dX11_steps_66 : decode cX11_steps 66 = .ok (.bipush 91, 2) := by decide +kernel
theorem dX11_steps_68 : decode cX11_steps 68 = .ok (.if_icmp .ne 112, 3) := by decide +kernel
theorem dX11_steps_71 : decode cX11_steps 71 = .ok (.iconst 0, 1) := by decide +kernel
theorem dX11_steps_72 : decode cX11_steps 72 = .ok (.istore 9, 2) := by decide +kernel
theorem dX11_steps_74 : decode cX11_steps 74 = .ok (.iconst 0, 1) := by decide +kernel
theorem dX11_steps_75 : decode cX11_steps 75 = .ok (.istore 8, 2) := by decide +kernel
theorem dX11_steps_77 : decode cX11_steps 77 = .ok (.iload 9, 2) := by decide +kernel
theorem dX11_steps_79 : decode cX11_steps 79 = .ok (.iconst 5, 1) := by decide +kernel
theorem dX11_steps_80 : decode cX11_steps 80 = .ok (.if_icmp .ge 48, 3) := by decide +kernel
theorem dX11_steps_83 : decode cX11_steps 83 = .ok (.aload_n 0, 1) := by decide +kernel
theorem dX11_steps_84 : decode cX11_steps 84 = .ok (.iload 6, 2) := by decide +kernel
theorem dX11_steps_86 : decode cX11_steps 86 = .ok (.iconst 1, 1) := by decide +kernel
theorem dX11_steps_87 : decode cX11_steps 87 = .ok (.iadd, 1) := by decide +kernel
theorem dX11_steps_88 : decode cX11_steps 88 = .ok (.iload 9, 2) := by decide +kernel
theorem dX11_steps_90 : decode cX11_steps 90 = .ok (.iadd, 1) := by decide +kernel
theorem dX11_steps_91 : decode cX11_steps 91 = .ok (.invokevirtual 473, 3) := by decide +kernel
theorem dX11_steps_94 : decode cX11_steps 94 = .ok (.invokestatic 189, 3) := by decide +kernel
theorem dX11_steps_97 : decode cX11_steps 97 = .ok (.ifCond .eq 31, 3) := by decide +kernel
theorem dX11_steps_100 : decode cX11_steps 100 = .ok (.bipush 10, 2) := by decide +kernel
theorem dX11_steps_102 : decode cX11_steps 102 = .ok (.iload 8, 2) := by decide +kernel
theorem dX11_steps_104 : decode cX11_steps 104 = .ok (.imul, 1) := by decide +kernel
theorem dX11_steps_105 : decode cX11_steps 105 = .ok (.aload_n 0, 1) := by decide +kernel
theorem dX11_steps_106 : decode cX11_steps 106 = .ok (.iload 6, 2) := by decide +kernel
theorem dX11_steps_108 : decode cX11_steps 108 = .ok (.iconst 1, 1) := by decide +kernel
theorem dX11_steps_109 : decode cX11_steps 109 = .ok (.iadd, 1) := by decide +kernel
theorem dX11_steps_110 : decode cX11_steps 110 = .ok (.iload 9, 2) := by decide +kernel
theorem dX11_steps_112 : decode cX11_steps 112 = .ok (.iadd, 1) := by decide +kernel
theorem dX11_steps_113 : decode cX11_steps 113 = .ok (.invokevirtual 473, 3) := by decide +kernel
theorem dX11_steps_116 : decode cX11_steps 116 = .ok (.iadd, 1) := by decide +kernel
theorem dX11_steps_117 : decode cX11_steps 117 = .ok (.bipush 48, 2) := by decide +kernel
theorem dX11_steps_119 : decode cX11_steps 119 = .ok (.isub, 1) := by decide +kernel
theorem dX11_steps_120 : decode cX11_steps 120 = .ok (.istore 8, 2) := by decide +kernel
theorem dX11_steps_122 : decode cX11_steps 122 = .ok (.iinc 9 1, 3) := by decide +kernel
theorem dX11_steps_125 : decode cX11_steps 125 = .ok (.goto (-48), 3) := by decide +kernel
theorem dX11_steps_128 : decode cX11_steps 128 = .ok (.iload 9, 2) := by decide +kernel
theorem dX11_steps_130 : decode cX11_steps 130 = .ok (.ifCond .eq 38, 3) := by decide +kernel
theorem dX11_steps_133 : decode cX11_steps 133 = .ok (.aload_n 0, 1) := by decide +kernel
theorem dX11_steps_134 : decode cX11_steps 134 = .ok (.iload 6, 2) := by decide +kernel
theorem dX11_steps_136 : decode cX11_steps 136 = .ok (.iconst 1, 1) := by decide +kernel
theorem dX11_steps_137 : decode cX11_steps 137 = .ok (.iadd, 1) := by decide +kernel
theorem dX11_steps_138 : decode cX11_steps 138 = .ok (.invokevirtual 473, 3) := by decide +kernel
theorem dX11_steps_141 : decode cX11_steps 141 = .ok (.bipush 48, 2) := by decide +kernel
theorem dX11_steps_143 : decode cX11_steps 143 = .ok (.if_icmp .eq 25, 3) := by decide +kernel
theorem dX11_steps_146 : decode cX11_steps 146 = .ok (.iload 8, 2) := by decide +kernel
theorem dX11_steps_148 : decode cX11_steps 148 = .ok (.iconst 2, 1) := by decide +kernel
theorem dX11_steps_149 : decode cX11_steps 149 = .ok (.if_icmp .lt 19, 3) := by decide +kernel
theorem dX11_steps_152 : decode cX11_steps 152 = .ok (.aload_n 0, 1) := by decide +kernel
theorem dX11_steps_153 : decode cX11_steps 153 = .ok (.iload 6, 2) := by decide +kernel
theorem dX11_steps_155 : decode cX11_steps 155 = .ok (.iconst 1, 1) := by decide +kernel
theorem dX11_steps_156 : decode cX11_steps 156 = .ok (.iadd, 1) := by decide +kernel
theorem dX11_steps_157 : decode cX11_steps 157 = .ok (.iload 9, 2) := by decide +kernel
theorem dX11_steps_159 : decode cX11_steps 159 = .ok (.iadd, 1) := by decide +kernel
theorem dX11_steps_160 : decode cX11_steps 160 = .ok (.invokevirtual 473, 3) := by decide +kernel
theorem dX11_steps_163 : decode cX11_steps 163 = .ok (.bipush 93, 2) := by decide +kernel
theorem dX11_steps_165 : decode cX11_steps 165 = .ok (.if_icmp .eq 6, 3) := by decide +kernel
theorem dX11_steps_168 : decode cX11_steps 168 = .ok (.bipush (-2), 2) := by decide +kernel
theorem dX11_steps_170 : decode cX11_steps 170 = .ok (.ireturn, 1) := by decide +kernel
theorem dX11_steps_171 : decode cX11_steps 171 = .ok (.iload 6, 2) := by decide +kernel
theorem dX11_steps_173 : decode cX11_steps 173 = .ok (.iload 9, 2) := by decide +kernel
theorem dX11_steps_175 : decode cX11_steps 175 = .ok (.iadd, 1) := by decide +kernel
theorem dX11_steps_176 : decode cX11_steps 176 = .ok (.iconst 2, 1) := by decide +kernel
theorem dX11_steps_177 : decode cX11_steps 177 = .ok (.iadd, 1) := by decide +kernel
theorem dX11_steps_178 : decode cX11_steps 178 = .ok (.istore 6, 2) := by decide +kernel
theorem dX11_steps_180 : decode cX11_steps 180 = .ok (.aload_n 0, 1) := by decide +kernel
theorem dX11_steps_181 : decode cX11_steps 181 = .ok (.iload_n 3, 1) := by decide +kernel
theorem dX11_steps_182 : decode cX11_steps 182 = .ok (.iload 4, 2) := by decide +kernel
theorem dX11_steps_184 : decode cX11_steps 184 = .ok (.iload 7, 2) := by decide +kernel
theorem dX11_steps_186 : decode cX11_steps 186 = .ok (.iload 8, 2) := by decide +kernel
theorem dX11_steps_188 : decode cX11_steps 188 = .ok (.invokevirtual 476, 3) := by decide +kernel
theorem dX11_steps_191 : decode cX11_steps 191 = .ok (.istore_n 3, 1) := by decide +kernel
theorem dX11_steps_192 : decode cX11_steps 192 = .ok (.iload_n 3, 1) := by decide +kernel
theorem dX11_steps_193 : decode cX11_steps 193 = .ok (.bipush (-2), 2) := by decide +kernel
theorem dX11_steps_195 : decode cX11_steps 195 = .ok (.if_icmp .ne 6, 3) := by decide +kernel
theorem dX11_steps_198 : decode cX11_steps 198 = .ok (.bipush (-2), 2) := by decide +kernel
theorem dX11_steps_200 : decode cX11_steps 200 = .ok (.ireturn, 1) := by decide +kernel
theorem dX11_steps_201 : decode cX11_steps 201 = .ok (.aload_n 0, 1) := by decide +kernel
theorem dX11_steps_202 : decode cX11_steps 202 = .ok (.iload 6, 2) := by decide +kernel
theorem dX11_steps_204 : decode cX11_steps 204 = .ok (.invokevirtual 473, 3) := by decide +kernel
theorem dX11_steps_207 : decode cX11_steps 207 = .ok (.bipush 47, 2) := by decide +kernel
theorem dX11_steps_209 : decode cX11_steps 209 = .ok (.if_icmp .ne 7, 3) := by decide +kernel
theorem dX11_steps_212 : decode cX11_steps 212 = .ok (.iconst 1, 1) := by decide +kernel
theorem dX11_steps_213 : decode cX11_steps 213 = .ok (.goto 4, 3) := by decide +kernel
theorem dX11_steps_216 : decode cX11_steps 216 = .ok (.iconst 0, 1) := by decide +kernel
theorem dX11_steps_217 : decode cX11_steps 217 = .ok (.istore 5, 2) := by decide +kernel
theorem dX11_steps_219 : decode cX11_steps 219 = .ok (.iload 6, 2) := by decide +kernel
theorem dX11_steps_221 : decode cX11_steps 221 = .ok (.iconst 1, 1) := by decide +kernel
theorem dX11_steps_222 : decode cX11_steps 222 = .ok (.iadd, 1) := by decide +kernel
theorem dX11_steps_223 : decode cX11_steps 223 = .ok (.istore 4, 2) := by decide +kernel
theorem dX11_steps_225 : decode cX11_steps 225 = .ok (.iload 5, 2) := by decide +kernel
theorem dX11_steps_227 : decode cX11_steps 227 = .ok (.ifCond .ne 15, 3) := by decide +kernel
theorem dX11_steps_230 : decode cX11_steps 230 = .ok (.iload 6, 2) := by decide +kernel
theorem dX11_steps_232 : decode cX11_steps 232 = .ok (.aload_n 0, 1) := by decide +kernel
theorem dX11_steps_233 : decode cX11_steps 233 = .ok (.getfield 420, 3) := by decide +kernel
theorem dX11_steps_236 : decode cX11_steps 236 = .ok (.if_icmp .ge 6, 3) := by decide +kernel
theorem dX11_steps_239 : decode cX11_steps 239 = .ok (.bipush (-2), 2) := by decide +kernel
theorem dX11_steps_241 : decode cX11_steps 241 = .ok (.ireturn, 1) := by decide +kernel
theorem dX11_steps_242 : decode cX11_steps 242 = .ok (.goto (-234), 3) := by decide +kernel
theorem dX11_steps_245 : decode cX11_steps 245 = .ok (.iload_n 3, 1) := by decide +kernel
theorem dX11_steps_246 : decode cX11_steps 246 = .ok (.ireturn, 1) := by decide +kernel
theorem dX11_way_0 : decode cX11_way 0 = .ok (.iload_n 1, 1) := by decide +kernel
theorem dX11_way_1 : decode cX11_way 1 = .ok (.istore_n 2, 1) := by decide +kernel
theorem dX11_way_2 : decode cX11_way 2 = .ok (.iconst 0, 1) := by decide +kernel
theorem dX11_way_3 : decode cX11_way 3 = .ok (.istore_n 3, 1) := by decide +kernel
theorem dX11_way_4 : decode cX11_way 4 = .ok (.iconst 1, 1) := by decide +kernel
theorem dX11_way_5 : decode cX11_way 5 = .ok (.istore 4, 2) := by decide +kernel
theorem dX11_way_7 : decode cX11_way 7 = .ok (.iload 4, 2) := by decide +kernel
theorem dX11_way_9 : decode cX11_way 9 = .ok (.ifCond .eq 88, 3) := by decide +kernel
theorem dX11_way_12 : decode cX11_way 12 = .ok (.aload_n 0, 1) := by decide +kernel
theorem dX11_way_13 : decode cX11_way 13 = .ok (.iload_n 3, 1) := by decide +kernel
theorem dX11_way_14 : decode cX11_way 14 = .ok (.invokevirtual 473, 3) := by decide +kernel
theorem dX11_way_17 : decode cX11_way 17 = .ok (.bipush 46, 2) := by decide +kernel
theorem dX11_way_19 : decode cX11_way 19 = .ok (.if_icmp .ne 78, 3) := by decide +kernel
theorem dX11_way_22 : decode cX11_way 22 = .ok (.aload_n 0, 1) := by decide +kernel
theorem dX11_way_23 : decode cX11_way 23 = .ok (.iload_n 3, 1) := by decide +kernel
theorem dX11_way_24 : decode cX11_way 24 = .ok (.iconst 1, 1) := by decide +kernel
theorem dX11_way_25 : decode cX11_way 25 = .ok (.iadd, 1) := by decide +kernel
theorem dX11_way_26 : decode cX11_way 26 = .ok (.invokevirtual 473, 3) := by decide +kernel
theorem dX11_way_29 : decode cX11_way 29 = .ok (.bipush 46, 2) := by decide +kernel
theorem dX11_way_31 : decode cX11_way 31 = .ok (.if_icmp .ne 66, 3) := by decide +kernel
theorem dX11_way_34 : decode cX11_way 34 = .ok (.iload_n 2, 1) := by decide +kernel
theorem dX11_way_35 : decode cX11_way 35 = .ok (.bipush (-2), 2) := by decide +kernel
theorem dX11_way_37 : decode cX11_way 37 = .ok (.if_icmp .ne 6, 3) := by decide +kernel
theorem dX11_way_40 : decode cX11_way 40 = .ok (.bipush (-2), 2) := by decide +kernel
theorem dX11_way_42 : decode cX11_way 42 = .ok (.ireturn, 1) := by decide +kernel
theorem dX11_way_43 : decode cX11_way 43 = .ok (.aload_n 0, 1) := by decide +kernel
theorem dX11_way_44 : decode cX11_way 44 = .ok (.getfield 114, 3) := by decide +kernel
theorem dX11_way_47 : decode cX11_way 47 = .ok (.iload_n 2, 1) := by decide +kernel
theorem dX11_way_48 : decode cX11_way 48 = .ok (.iaload, 1) := by decide +kernel
theorem dX11_way_49 : decode cX11_way 49 = .ok (.istore_n 2, 1) := by decide +kernel
theorem dX11_way_50 : decode cX11_way 50 = .ok (.iload_n 3, 1) := by decide +kernel
theorem dX11_way_51 : decode cX11_way 51 = .ok (.iconst 2, 1) := by decide +kernel
theorem dX11_way_52 : decode cX11_way 52 = .ok (.iadd, 1) := by decide +kernel
theorem dX11_way_53 : decode cX11_way 53 = .ok (.istore_n 3, 1) := by decide +kernel
theorem dX11_way_54 : decode cX11_way 54 = .ok (.aload_n 0, 1) := by decide +kernel
theorem dX11_way_55 : decode cX11_way 55 = .ok (.iload_n 3, 1) := by decide +kernel
theorem dX11_way_56 : decode cX11_way 56 = .ok (.invokevirtual 473, 3) := by decide +kernel
theorem dX11_way_59 : decode cX11_way 59 = .ok (.bipush 47, 2) := by decide +kernel
theorem dX11_way_61 : decode cX11_way 61 = .ok (.if_icmp .ne 7, 3) := by decide +kernel
theorem dX11_way_64 : decode cX11_way 64 = .ok (.iconst 1, 1) := by decide +kernel
theorem dX11_way_65 : decode cX11_way 65 = .ok (.goto 4, 3) := by decide +kernel
theorem dX11_way_68 : decode cX11_way 68 = .ok (.iconst 0, 1) := by decide +kernel
theorem dX11_way_69 : decode cX11_way 69 = .ok (.istore 4, 2) := by decide +kernel
theorem dX11_way_71 : decode cX11_way 71 = .ok (.iload 4, 2) := by decide +kernel
theorem dX11_way_73 : decode cX11_way 73 = .ok (.ifCond .ne 18, 3) := by decide +kernel
theorem dX11_way_76 : decode cX11_way 76 = .ok (.iload_n 3, 1) := by decide +kernel
theorem dX11_way_77 : decode cX11_way 77 = .ok (.aload_n 0, 1) := by decide +kernel
theorem dX11_way_78 : decode cX11_way 78 = .ok (.getfield 420, 3) := by decide +kernel
theorem dX11_way_81 : decode cX11_way 81 = .ok (.if_icmp .ne 7, 3) := by decide +kernel
theorem dX11_way_84 : decode cX11_way 84 = .ok (.iload_n 2, 1) := by decide +kernel
theorem dX11_way_85 : decode cX11_way 85 = .ok (.goto 5, 3) := by decide +kernel
theorem dX11_way_88 : decode cX11_way 88 = .ok (.bipush (-2), 2) := by decide +kernel
theorem dX11_way_90 : decode cX11_way 90 = .ok (.ireturn, 1) := by decide +kernel
theorem dX11_way_91 : decode cX11_way 91 = .ok (.iinc 3 1, 3) := by decide +kernel
theorem dX11_way_94 : decode cX11_way 94 = .ok (.goto (-87), 3) := by decide +kernel
theorem dX11_way_97 : decode cX11_way 97 = .ok (.iload_n 2, 1) := by decide +kernel
theorem dX11_way_98 : decode cX11_way 98 = .ok (.bipush (-2), 2) := by decide +kernel
theorem dX11_way_100 : decode cX11_way 100 = .ok (.if_icmp .ne 8, 3) := by decide +kernel
theorem dX11_way_103 : decode cX11_way 103 = .ok (.bipush (-2), 2) := by decide +kernel
theorem dX11_way_105 : decode cX11_way 105 = .ok (.goto 9, 3) := by decide +kernel
theorem dX11_way_108 : decode cX11_way 108 = .ok (.aload_n 0, 1) := by decide +kernel
theorem dX11_way_109 : decode cX11_way 109 = .ok (.iload_n 3, 1) := by decide +kernel
theorem dX11_way_110 : decode cX11_way 110 = .ok (.iload_n 2, 1) := by decide +kernel
theorem dX11_way_111 : decode cX11_way 111 = .ok (.invokevirtual 480, 3) := by decide +kernel
theorem dX11_way_114 : decode cX11_way 114 = .ok (.ireturn, 1) := by decide +kernel
theorem dX11_withId_0 : decode cX11_withId 0 = .ok (.iconst 0, 1) := by decide +kernel
theorem dX11_withId_1 : decode cX11_withId 1 = .ok (.istore_n 1, 1) := by decide +kernel
theorem dX11_withId_2 : decode cX11_withId 2 = .ok (.aload_n 0, 1) := by decide +kernel
theorem dX11_withId_3 : decode cX11_withId 3 = .ok (.getfield 420, 3) := by decide +kernel
theorem dX11_withId_6 : decode cX11_withId 6 = .ok (.ifCond .le 26, 3) := by decide +kernel
theorem dX11_withId_9 : decode cX11_withId 9 = .ok (.aload_n 0, 1) := by decide +kernel
theorem dX11_withId_10 : decode cX11_withId 10 = .ok (.getfield 420, 3) := by decide +kernel
theorem dX11_withId_13 : decode cX11_withId 13 = .ok (.iconst 5, 1) := by decide +kernel
theorem dX11_withId_14 : decode cX11_withId 14 = .ok (.if_icmp .ge 18, 3) := by decide +kernel
theorem dX11_withId_17 : decode cX11_withId 17 = .ok (.aload_n 0, 1) := by decide +kernel
theorem dX11_withId_18 : decode cX11_withId 18 = .ok (.getfield 162, 3) := by decide +kernel
theorem dX11_withId_21 : decode cX11_withId 21 = .ok (.iconst 0, 1) := by decide +kernel
theorem dX11_withId_22 : decode cX11_withId 22 = .ok (.iaload, 1) := by decide +kernel
theorem dX11_withId_23 : decode cX11_withId 23 = .ok (.bipush 48, 2) := by decide +kernel
theorem dX11_withId_25 : decode cX11_withId 25 = .ok (.if_icmp .eq 7, 3) := by decide +kernel
theorem dX11_withId_28 : decode cX11_withId 28 = .ok (.iconst 1, 1) := by decide +kernel
theorem dX11_withId_29 : decode cX11_withId 29 = .ok (.goto 4, 3) := by decide +kernel
theorem dX11_withId_32 : decode cX11_withId 32 = .ok (.iconst 0, 1) := by decide +kernel
theorem dX11_withId_33 : decode cX11_withId 33 = .ok (.istore_n 2, 1) := by decide +kernel
theorem dX11_withId_34 : decode cX11_withId 34 = .ok (.iconst 0, 1) := by decide +kernel
theorem dX11_withId_35 : decode cX11_withId 35 = .ok (.istore_n 3, 1) := by decide +kernel
theorem dX11_withId_36 : decode cX11_withId 36 = .ok (.iload_n 3, 1) := by decide +kernel
theorem dX11_withId_37 : decode cX11_withId 37 = .ok (.aload_n 0, 1) := by decide +kernel
theorem dX11_withId_38 : decode cX11_withId 38 = .ok (.getfield 420, 3) := by decide +kernel
theorem dX11_withId_41 : decode cX11_withId 41 = .ok (.if_icmp .ge 38, 3) := by decide +kernel
theorem dX11_withId_44 : decode cX11_withId 44 = .ok (.iload_n 2, 1) := by decide +kernel
theorem dX11_withId_45 : decode cX11_withId 45 = .ok (.ifCond .eq 34, 3) := by decide +kernel
theorem dX11_withId_48 : decode cX11_withId 48 = .ok (.aload_n 0, 1) := by decide +kernel
theorem dX11_withId_49 : decode cX11_withId 49 = .ok (.getfield 162, 3) := by decide +kernel
theorem dX11_withId_52 : decode cX11_withId 52 = .ok (.iload_n 3, 1) := by decide +kernel
theorem dX11_withId_53 : decode cX11_withId 53 = .ok (.iaload, 1) := by decide +kernel
theorem dX11_withId_54 : decode cX11_withId 54 = .ok (.invokestatic 189, 3) := by decide +kernel
theorem dX11_withId_57 : decode cX11_withId 57 = .ok (.istore_n 2, 1) := by decide +kernel
theorem dX11_withId_58 : decode cX11_withId 58 = .ok (.bipush 10, 2) := by decide +kernel
theorem dX11_withId_60 : decode cX11_withId 60 = .ok (.iload_n 1, 1) := by decide +kernel
theorem dX11_withId_61 : decode cX11_withId 61 = .ok (.imul, 1) := by decide +kernel
theorem dX11_withId_62 : decode cX11_withId 62 = .ok (.aload_n 0, 1) := by decide +kernel
theorem dX11_withId_63 : decode cX11_withId 63 = .ok (.getfield 162, 3) := by decide +kernel
theorem dX11_withId_66 : decode cX11_withId 66 = .ok (.iload_n 3, 1) := by decide +kernel
theorem dX11_withId_67 : decode cX11_withId 67 = .ok (.iaload, 1) := by decide +kernel
theorem dX11_withId_68 : decode cX11_withId 68 = .ok (.iadd, 1) := by decide +kernel
theorem dX11_withId_69 : decode cX11_withId 69 = .ok (.bipush 48, 2) := by decide +kernel
theorem dX11_withId_71 : decode cX11_withId 71 = .ok (.isub, 1) := by decide +kernel
theorem dX11_withId_72 : decode cX11_withId 72 = .ok (.istore_n 1, 1) := by decide +kernel
theorem dX11_withId_73 : decode cX11_withId 73 = .ok (.iinc 3 1, 3) := by decide +kernel
theorem dX11_withId_76 : decode cX11_withId 76 = .ok (.goto (-40), 3) := by decide +kernel
theorem dX11_withId_79 : decode cX11_withId 79 = .ok (.bipush (-2), 2) := by decide +kernel
theorem dX11_withId_81 : decode cX11_withId 81 = .ok (.istore_n 3, 1) := by decide +kernel
theorem dX11_withId_82 : decode cX11_withId 82 = .ok (.iconst 0, 1) := by decide +kernel
theorem dX11_withId_83 : decode cX11_withId 83 = .ok (.istore 4, 2) := by decide +kernel
theorem dX11_withId_85 : decode cX11_withId 85 = .ok (.iload 4, 2) := by decide +kernel
theorem dX11_withId_87 : decode cX11_withId 87 = .ok (.aload_n 0, 1) := by decide +kernel
theorem dX11_withId_88 : decode cX11_withId 88 = .ok (.getfield 386, 3) := by decide +kernel
theorem dX11_withId_91 : decode cX11_withId 91 = .ok (.if_icmp .ge 42, 3) := by decide +kernel
theorem dX11_withId_94 : decode cX11_withId 94 = .ok (.iload_n 2, 1) := by decide +kernel
theorem dX11_withId_95 : decode cX11_withId 95 = .ok (.ifCond .eq 38, 3) := by decide +kernel
theorem dX11_withId_98 : decode cX11_withId 98 = .ok (.aload_n 0, 1) := by decide +kernel
theorem dX11_withId_99 : decode cX11_withId 99 = .ok (.getfield 144, 3) := by decide +kernel
theorem dX11_withId_102 : decode cX11_withId 102 = .ok (.iload 4, 2) := by decide +kernel
theorem dX11_withId_104 : decode cX11_withId 104 = .ok (.iaload, 1) := by decide +kernel
theorem dX11_withId_105 : decode cX11_withId 105 = .ok (.iconst 4, 1) := by decide +kernel
theorem dX11_withId_106 : decode cX11_withId 106 = .ok (.if_icmp .ne 19, 3) := by decide +kernel
theorem dX11_withId_109 : decode cX11_withId 109 = .ok (.aload_n 0, 1) := by decide +kernel
theorem dX11_withId_110 : decode cX11_withId 110 = .ok (.getfield 156, 3) := by decide +kernel
theorem dX11_withId_113 : decode cX11_withId 113 = .ok (.iload 4, 2) := by decide +kernel
theorem dX11_withId_115 : decode cX11_withId 115 = .ok (.iaload, 1) := by decide +kernel
theorem dX11_withId_116 : decode cX11_withId 116 = .ok (.iload_n 1, 1) := by decide +kernel
theorem dX11_withId_117 : decode cX11_withId 117 = .ok (.if_icmp .ne 8, 3) := by decide +kernel
theorem dX11_withId_120 : decode cX11_withId 120 = .ok (.iload 4, 2) := by decide +kernel
theorem dX11_withId_122 : decode cX11_withId 122 = .ok (.goto 4, 3) := by decide +kernel
theorem dX11_withId_125 : decode cX11_withId 125 = .ok (.iload_n 3, 1) := by decide +kernel
theorem dX11_withId_126 : decode cX11_withId 126 = .ok (.istore_n 3, 1) := by decide +kernel
theorem dX11_withId_127 : decode cX11_withId 127 = .ok (.iinc 4 1, 3) := by decide +kernel
theorem dX11_withId_130 : decode cX11_withId 130 = .ok (.goto (-45), 3) := by decide +kernel
theorem dX11_withId_133 : decode cX11_withId 133 = .ok (.iload_n 3, 1) := by decide +kernel
theorem dX11_withId_134 : decode cX11_withId 134 = .ok (.ireturn, 1) := by decide +kernel
theorem dX11_target_0 : decode cX11_target 0 = .ok (.aload_n 0, 1) := by decide +kernel
theorem dX11_target_1 : decode cX11_target 1 = .ok (.aload_n 0, 1) := by decide +kernel
theorem dX11_target_2 : decode cX11_target 2 = .ok (.getfield 120, 3) := by decide +kernel
theorem dX11_target_5 : decode cX11_target 5 = .ok (.iload_n 1, 1) := by decide +kernel
theorem dX11_target_6 : decode cX11_target 6 = .ok (.iaload, 1) := by decide +kernel
theorem dX11_target_7 : decode cX11_target 7 = .ok (.invokevirtual 451, 3) := by decide +kernel
theorem dX11_target_10 : decode cX11_target 10 = .ok (.aload_n 0, 1) := by decide +kernel
theorem dX11_target_11 : decode cX11_target 11 = .ok (.iconst 0, 1) := by decide +kernel
theorem dX11_target_12 : decode cX11_target 12 = .ok (.invokevirtual 473, 3) := by decide +kernel
theorem dX11_target_15 : decode cX11_target 15 = .ok (.istore_n 2, 1) := by decide +kernel
theorem dX11_target_16 : decode cX11_target 16 = .ok (.iload_n 2, 1) := by decide +kernel
theorem dX11_target_17 : decode cX11_target 17 = .ok (.invokestatic 189, 3) := by decide +kernel
theorem dX11_target_20 : decode cX11_target 20 = .ok (.ifCond .eq 10, 3) := by decide +kernel
theorem dX11_target_23 : decode cX11_target 23 = .ok (.aload_n 0, 1) := by decide +kernel
theorem dX11_target_24 : decode cX11_target 24 = .ok (.invokevirtual 483, 3) := by decide +kernel
theorem dX11_target_27 : decode cX11_target 27 = .ok (.goto 24, 3) := by decide +kernel
theorem dX11_target_30 : decode cX11_target 30 = .ok (.iload_n 2, 1) := by decide +kernel
theorem dX11_target_31 : decode cX11_target 31 = .ok (.bipush 47, 2) := by decide +kernel
theorem dX11_target_33 : decode cX11_target 33 = .ok (.if_icmp .ne 13, 3) := by decide +kernel
theorem dX11_target_36 : decode cX11_target 36 = .ok (.aload_n 0, 1) := by decide +kernel
theorem dX11_target_37 : decode cX11_target 37 = .ok (.iconst 1, 1) := by decide +kernel
theorem dX11_target_38 : decode cX11_target 38 = .ok (.bipush (-2), 2) := by decide +kernel
theorem dX11_target_40 : decode cX11_target 40 = .ok (.invokevirtual 480, 3) := by decide +kernel
theorem dX11_target_43 : decode cX11_target 43 = .ok (.goto 8, 3) := by decide +kernel
theorem dX11_target_46 : decode cX11_target 46 = .ok (.aload_n 0, 1) := by decide +kernel
theorem dX11_target_47 : decode cX11_target 47 = .ok (.iload_n 1, 1) := by decide +kernel
theorem dX11_target_48 : decode cX11_target 48 = .ok (.invokevirtual 487, 3) := by decide +kernel
theorem dX11_target_51 : decode cX11_target 51 = .ok (.istore_n 3, 1) := by decide +kernel
theorem dX11_target_52 : decode cX11_target 52 = .ok (.iload_n 3, 1) := by decide +kernel
theorem dX11_target_53 : decode cX11_target 53 = .ok (.bipush (-2), 2) := by decide +kernel
theorem dX11_target_55 : decode cX11_target 55 = .ok (.if_icmp .eq 22, 3) := by decide +kernel
theorem dX11_target_58 : decode cX11_target 58 = .ok (.iload_n 3, 1) := by decide +kernel
theorem dX11_target_59 : decode cX11_target 59 = .ok (.iload_n 1, 1) := by decide +kernel
theorem dX11_target_60 : decode cX11_target 60 = .ok (.if_icmp .ge 17, 3) := by decide +kernel
theorem dX11_target_63 : decode cX11_target 63 = .ok (.aload_n 0, 1) := by decide +kernel
theorem dX11_target_64 : decode cX11_target 64 = .ok (.getfield 144, 3) := by decide +kernel
theorem dX11_target_67 : decode cX11_target 67 = .ok (.iload_n 3, 1) := by decide +kernel
theorem dX11_target_68 : decode cX11_target 68 = .ok (.iaload, 1) := by decide +kernel
theorem dX11_target_69 : decode cX11_target 69 = .ok (.iconst 4, 1) := by decide +kernel
theorem dX11_target_70 : decode cX11_target 70 = .ok (.if_icmp .ne 7, 3) := by decide +kernel
theorem dX11_target_73 : decode cX11_target 73 = .ok (.iload_n 3, 1) := by decide +kernel
theorem dX11_target_74 : decode cX11_target 74 = .ok (.goto 5, 3) := by decide +kernel
theorem dX11_target_77 : decode cX11_target 77 = .ok (.bipush (-2), 2) := by decide +kernel
theorem dX11_target_79 : decode cX11_target 79 = .ok (.ireturn, 1) := by decide +kernel
theorem dX11_leads_0 : decode cX11_leads 0 = .ok (.aload_n 0, 1) := by decide +kernel
theorem dX11_leads_1 : decode cX11_leads 1 = .ok (.iload_n 1, 1) := by decide +kernel
theorem dX11_leads_2 : decode cX11_leads 2 = .ok (.invokevirtual 490, 3) := by decide +kernel
theorem dX11_leads_5 : decode cX11_leads 5 = .ok (.istore_n 2, 1) := by decide +kernel
theorem dX11_leads_6 : decode cX11_leads 6 = .ok (.iload_n 2, 1) := by decide +kernel
theorem dX11_leads_7 : decode cX11_leads 7 = .ok (.bipush (-2), 2) := by decide +kernel
theorem dX11_leads_9 : decode cX11_leads 9 = .ok (.if_icmp .ne 5, 3) := by decide +kernel
theorem dX11_leads_12 : decode cX11_leads 12 = .ok (.iconst 0, 1) := by decide +kernel
theorem dX11_leads_13 : decode cX11_leads 13 = .ok (.ireturn, 1) := by decide +kernel
theorem dX11_leads_14 : decode cX11_leads 14 = .ok (.aload_n 0, 1) := by decide +kernel
theorem dX11_leads_15 : decode cX11_leads 15 = .ok (.getfield 150, 3) := by decide +kernel
theorem dX11_leads_18 : decode cX11_leads 18 = .ok (.iload_n 1, 1) := by decide +kernel
theorem dX11_leads_19 : decode cX11_leads 19 = .ok (.iaload, 1) := by decide +kernel
theorem dX11_leads_20 : decode cX11_leads 20 = .ok (.istore_n 3, 1) := by decide +kernel
theorem dX11_leads_21 : decode cX11_leads 21 = .ok (.iload_n 3, 1) := by decide +kernel
theorem dX11_leads_22 : decode cX11_leads 22 = .ok (.bipush (-2), 2) := by decide +kernel
theorem dX11_leads_24 : decode cX11_leads 24 = .ok (.if_icmp .eq 49, 3) := by decide +kernel
theorem dX11_leads_27 : decode cX11_leads 27 = .ok (.aload_n 0, 1) := by decide +kernel
theorem dX11_leads_28 : decode cX11_leads 28 = .ok (.getfield 153, 3) := by decide +kernel
theorem dX11_leads_31 : decode cX11_leads 31 = .ok (.iload_n 1, 1) := by decide +kernel
theorem dX11_leads_32 : decode cX11_leads 32 = .ok (.iaload, 1) := by decide +kernel
theorem dX11_leads_33 : decode cX11_leads 33 = .ok (.bipush (-2), 2) := by decide +kernel
theorem dX11_leads_35 : decode cX11_leads 35 = .ok (.if_icmp .eq 38, 3) := by decide +kernel
theorem dX11_leads_38 : decode cX11_leads 38 = .ok (.aload_n 0, 1) := by decide +kernel
theorem dX11_leads_39 : decode cX11_leads 39 = .ok (.aload_n 0, 1) := by decide +kernel
theorem dX11_leads_40 : decode cX11_leads 40 = .ok (.getfield 108, 3) := by decide +kernel
theorem dX11_leads_43 : decode cX11_leads 43 = .ok (.iload_n 1, 1) := by decide +kernel
theorem dX11_leads_44 : decode cX11_leads 44 = .ok (.iaload, 1) := by decide +kernel
theorem dX11_leads_45 : decode cX11_leads 45 = .ok (.aload_n 0, 1) := by decide +kernel
theorem dX11_leads_46 : decode cX11_leads 46 = .ok (.getfield 111, 3) := by decide +kernel
theorem dX11_leads_49 : decode cX11_leads 49 = .ok (.iload_n 1, 1) := by decide +kernel
theorem dX11_leads_50 : decode cX11_leads 50 = .ok (.iaload, 1) := by decide +kernel
theorem dX11_leads_51 : decode cX11_leads 51 = .ok (.invokevirtual 438, 3) := by decide +kernel
theorem dX11_leads_54 : decode cX11_leads 54 = .ok (.aload_n 0, 1) := by decide +kernel
theorem dX11_leads_55 : decode cX11_leads 55 = .ok (.getfield 50, 3) := by decide +kernel
theorem dX11_leads_58 : decode cX11_leads 58 = .ok (.bipush 60, 2) := by decide +kernel
theorem dX11_leads_60 : decode cX11_leads 60 = .ok (.aload_n 0, 1) := by decide +kernel
theorem dX11_leads_61 : decode cX11_leads 61 = .ok (.getfield 147, 3) := by decide +kernel
theorem dX11_leads_64 : decode cX11_leads 64 = .ok (.iload_n 2, 1) := by decide +kernel
theorem dX11_leads_65 : decode cX11_leads 65 = .ok (.iaload, 1) := by decide +kernel
theorem dX11_leads_66 : decode cX11_leads 66 = .ok (.iadd, 1) := by decide +kernel
theorem dX11_leads_67 : decode cX11_leads 67 = .ok (.iaload, 1) := by decide +kernel
theorem dX11_leads_68 : decode cX11_leads 68 = .ok (.if_icmp .eq 5, 3) := by decide +kernel
theorem dX11_leads_71 : decode cX11_leads 71 = .ok (.iconst 0, 1) := by decide +kernel
theorem dX11_leads_72 : decode cX11_leads 72 = .ok (.ireturn, 1) := by decide +kernel
theorem dX11_leads_73 : decode cX11_leads 73 = .ok (.iload_n 3, 1) := by decide +kernel
theorem dX11_leads_74 : decode cX11_leads 74 = .ok (.bipush (-2), 2) := by decide +kernel
theorem dX11_leads_76 : decode cX11_leads 76 = .ok (.if_icmp .eq 29, 3) := by decide +kernel
theorem dX11_leads_79 : decode cX11_leads 79 = .ok (.aload_n 0, 1) := by decide +kernel
theorem dX11_leads_80 : decode cX11_leads 80 = .ok (.getfield 153, 3) := by decide +kernel
theorem dX11_leads_83 : decode cX11_leads 83 = .ok (.iload_n 1, 1) := by decide +kernel
theorem dX11_leads_84 : decode cX11_leads 84 = .ok (.iaload, 1) := by decide +kernel
theorem dX11_leads_85 : decode cX11_leads 85 = .ok (.bipush (-2), 2) := by decide +kernel
theorem dX11_leads_87 : decode cX11_leads 87 = .ok (.if_icmp .ne 18, 3) := by decide +kernel
theorem dX11_leads_90 : decode cX11_leads 90 = .ok (.aload_n 0, 1) := by decide +kernel
theorem dX11_leads_91 : decode cX11_leads 91 = .ok (.getfield 53, 3) := by decide +kernel
theorem dX11_leads_94 : decode cX11_leads 94 = .ok (.iload_n 3, 1) := by decide +kernel
theorem dX11_leads_95 : decode cX11_leads 95 = .ok (.aload_n 0, 1) := by decide +kernel
theorem dX11_leads_96 : decode cX11_leads 96 = .ok (.getfield 147, 3) := by decide +kernel
theorem dX11_leads_99 : decode cX11_leads 99 = .ok (.iload_n 2, 1) := by decide +kernel
theorem dX11_leads_100 : decode cX11_leads 100 = .ok (.iaload, 1) := by decide +kernel
theorem dX11_leads_101 : decode cX11_leads 101 = .ok (.iastore, 1) := by decide +kernel
theorem dX11_leads_102 : decode cX11_leads 102 = .ok (.goto 31, 3) := by decide +kernel
theorem dX11_leads_105 : decode cX11_leads 105 = .ok (.iload_n 3, 1) := by decide +kernel
theorem dX11_leads_106 : decode cX11_leads 106 = .ok (.bipush (-2), 2) := by decide +kernel
theorem dX11_leads_108 : decode cX11_leads 108 = .ok (.if_icmp .eq 25, 3) := by decide +kernel
theorem dX11_leads_111 : decode cX11_leads 111 = .ok (.aload_n 0, 1) := by decide +kernel
theorem dX11_leads_112 : decode cX11_leads 112 = .ok (.getfield 56, 3) := by decide +kernel
theorem dX11_leads_115 : decode cX11_leads 115 = .ok (.bipush 20, 2) := by decide +kernel
theorem dX11_leads_117 : decode cX11_leads 117 = .ok (.iload_n 3, 1) := by decide +kernel
theorem dX11_leads_118 : decode cX11_leads 118 = .ok (.imul, 1) := by decide +kernel
theorem dX11_leads_119 : decode cX11_leads 119 = .ok (.aload_n 0, 1) := by decide +kernel
theorem dX11_leads_120 : decode cX11_leads 120 = .ok (.getfield 153, 3) := by decide +kernel
theorem dX11_leads_123 : decode cX11_leads 123 = .ok (.iload_n 1, 1) := by decide +kernel
theorem dX11_leads_124 : decode cX11_leads 124 = .ok (.iaload, 1) := by decide +kernel
theorem dX11_leads_125 : decode cX11_leads 125 = .ok (.iadd, 1) := by decide +kernel
theorem dX11_leads_126 : decode cX11_leads 126 = .ok (.aload_n 0, 1) := by decide +kernel
theorem dX11_leads_127 : decode cX11_leads 127 = .ok (.getfield 147, 3) := by decide +kernel
theorem dX11_leads_130 : decode cX11_leads 130 = .ok (.iload_n 2, 1) := by decide +kernel
theorem dX11_leads_131 : decode cX11_leads 131 = .ok (.iaload, 1) := by decide +kernel
theorem dX11_leads_132 : decode cX11_leads 132 = .ok (.iastore, 1) := by decide +kernel
theorem dX11_leads_133 : decode cX11_leads 133 = .ok (.iconst 1, 1) := by decide +kernel
theorem dX11_leads_134 : decode cX11_leads 134 = .ok (.ireturn, 1) := by decide +kernel
theorem dX11_meaningless_0 : decode cX11_meaningless 0 = .ok (.aload_n 0, 1) := by decide +kernel
theorem dX11_meaningless_1 : decode cX11_meaningless 1 = .ok (.getfield 47, 3) := by decide +kernel
theorem dX11_meaningless_4 : decode cX11_meaningless 4 = .ok (.iconst 2, 1) := by decide +kernel
theorem dX11_meaningless_5 : decode cX11_meaningless 5 = .ok (.iconst 0, 1) := by decide +kernel
theorem dX11_meaningless_6 : decode cX11_meaningless 6 = .ok (.iastore, 1) := by decide +kernel
theorem dX11_meaningless_7 : decode cX11_meaningless 7 = .ok (.iconst 0, 1) := by decide +kernel
theorem dX11_meaningless_8 : decode cX11_meaningless 8 = .ok (.istore_n 1, 1) := by decide +kernel
theorem dX11_meaningless_9 : decode cX11_meaningless 9 = .ok (.iload_n 1, 1) := by decide +kernel
theorem dX11_meaningless_10 : decode cX11_meaningless 10 = .ok (.aload_n 0, 1) := by decide +kernel
theorem dX11_meaningless_11 : decode cX11_meaningless 11 = .ok (.getfield 386, 3) := by decide +kernel
theorem dX11_meaningless_14 : decode cX11_meaningless 14 = .ok (.if_icmp .ge 19, 3) := by decide +kernel
theorem dX11_meaningless_17 : decode cX11_meaningless 17 = .ok (.aload_n 0, 1) := by decide +kernel
theorem dX11_meaningless_18 : decode cX11_meaningless 18 = .ok (.iload_n 1, 1) := by decide +kernel
theorem dX11_meaningless_19 : decode cX11_meaningless 19 = .ok (.invokevirtual 493, 3) := by decide +kernel
theorem dX11_meaningless_22 : decode cX11_meaningless 22 = .ok (.ifCond .ne 5, 3) := by decide +kernel
theorem dX11_meaningless_25 : decode cX11_meaningless 25 = .ok (.iload_n 1, 1) := by decide +kernel
theorem dX11_meaningless_26 : decode cX11_meaningless 26 = .ok (.ireturn, 1) := by decide +kernel
theorem dX11_meaningless_27 : decode cX11_meaningless 27 = .ok (.iinc 1 1, 3) := by decide +kernel
theorem dX11_meaningless_30 : decode cX11_meaningless 30 = .ok (.goto (-21), 3) := by decide +kernel
theorem dX11_meaningless_33 : decode cX11_meaningless 33 = .ok (.iconst 0, 1) := by decide +kernel
theorem dX11_meaningless_34 : decode cX11_meaningless 34 = .ok (.istore_n 1, 1) := by decide +kernel
theorem dX11_meaningless_35 : decode cX11_meaningless 35 = .ok (.iload_n 1, 1) := by decide +kernel
theorem dX11_meaningless_36 : decode cX11_meaningless 36 = .ok (.aload_n 0, 1) := by decide +kernel
theorem dX11_meaningless_37 : decode cX11_meaningless 37 = .ok (.getfield 386, 3) := by decide +kernel
theorem dX11_meaningless_40 : decode cX11_meaningless 40 = .ok (.if_icmp .ge 29, 3) := by decide +kernel
theorem dX11_meaningless_43 : decode cX11_meaningless 43 = .ok (.aload_n 0, 1) := by decide +kernel
theorem dX11_meaningless_44 : decode cX11_meaningless 44 = .ok (.getfield 144, 3) := by decide +kernel
theorem dX11_meaningless_47 : decode cX11_meaningless 47 = .ok (.iload_n 1, 1) := by decide +kernel
theorem dX11_meaningless_48 : decode cX11_meaningless 48 = .ok (.iaload, 1) := by decide +kernel
theorem dX11_meaningless_49 : decode cX11_meaningless 49 = .ok (.iconst 5, 1) := by decide +kernel
theorem dX11_meaningless_50 : decode cX11_meaningless 50 = .ok (.if_icmp .ne 13, 3) := by decide +kernel
theorem dX11_meaningless_53 : decode cX11_meaningless 53 = .ok (.aload_n 0, 1) := by decide +kernel
theorem dX11_meaningless_54 : decode cX11_meaningless 54 = .ok (.iload_n 1, 1) := by decide +kernel
theorem dX11_meaningless_55 : decode cX11_meaningless 55 = .ok (.invokevirtual 496, 3) := by decide +kernel
theorem dX11_meaningless_58 : decode cX11_meaningless 58 = .ok (.ifCond .ne 5, 3) := by decide +kernel
theorem dX11_meaningless_61 : decode cX11_meaningless 61 = .ok (.iload_n 1, 1) := by decide +kernel
theorem dX11_meaningless_62 : decode cX11_meaningless 62 = .ok (.ireturn, 1) := by decide +kernel
theorem dX11_meaningless_63 : decode cX11_meaningless 63 = .ok (.iinc 1 1, 3) := by decide +kernel
theorem dX11_meaningless_66 : decode cX11_meaningless 66 = .ok (.goto (-31), 3) := by decide +kernel
theorem dX11_meaningless_69 : decode cX11_meaningless 69 = .ok (.bipush (-2), 2) := by decide +kernel
theorem dX11_meaningless_71 : decode cX11_meaningless 71 = .ok (.ireturn, 1) := by decide +kernel
theorem dX11_read_0 : decode cX11_read 0 = .ok (.aload_n 0, 1) := by decide +kernel
theorem dX11_read_1 : decode cX11_read 1 = .ok (.getfield 238, 3) := by decide +kernel
theorem dX11_read_4 : decode cX11_read 4 = .ok (.ifCond .ne 7, 3) := by decide +kernel
theorem dX11_read_7 : decode cX11_read 7 = .ok (.sipush (-3001), 3) := by decide +kernel
theorem dX11_read_10 : decode cX11_read 10 = .ok (.ireturn, 1) := by decide +kernel
theorem dX11_read_11 : decode cX11_read 11 = .ok (.aload_n 0, 1) := by decide +kernel
theorem dX11_read_12 : decode cX11_read 12 = .ok (.aload_n 0, 1) := by decide +kernel
theorem dX11_read_13 : decode cX11_read 13 = .ok (.getfield 171, 3) := by decide +kernel
theorem dX11_read_16 : decode cX11_read 16 = .ok (.putfield 340, 3) := by decide +kernel
theorem dX11_read_19 : decode cX11_read 19 = .ok (.iconst 0, 1) := by decide +kernel
theorem dX11_read_20 : decode cX11_read 20 = .ok (.istore_n 1, 1) := by decide +kernel
theorem dX11_read_21 : decode cX11_read 21 = .ok (.iload_n 1, 1) := by decide +kernel
theorem dX11_read_22 : decode cX11_read 22 = .ok (.aload_n 0, 1) := by decide +kernel
theorem dX11_read_23 : decode cX11_read 23 = .ok (.getfield 340, 3) := by decide +kernel
theorem dX11_read_26 : decode cX11_read 26 = .ok (.if_icmp .ge 21, 3) := by decide +kernel
theorem dX11_read_29 : decode cX11_read 29 = .ok (.aload_n 0, 1) := by decide +kernel
theorem dX11_read_30 : decode cX11_read 30 = .ok (.getfield 102, 3) := by decide +kernel
theorem dX11_read_33 : decode cX11_read 33 = .ok (.iload_n 1, 1) := by decide +kernel
theorem dX11_read_34 : decode cX11_read 34 = .ok (.aload_n 0, 1) := by decide +kernel
theorem dX11_read_35 : decode cX11_read 35 = .ok (.getfield 7, 3) := by decide +kernel
theorem dX11_read_38 : decode cX11_read 38 = .ok (.iload_n 1, 1) := by decide +kernel
theorem dX11_read_39 : decode cX11_read 39 = .ok (.iaload, 1) := by decide +kernel
theorem dX11_read_40 : decode cX11_read 40 = .ok (.iastore, 1) := by decide +kernel
theorem dX11_read_41 : decode cX11_read 41 = .ok (.iinc 1 1, 3) := by decide +kernel
theorem dX11_read_44 : decode cX11_read 44 = .ok (.goto (-23), 3) := by decide +kernel
theorem dX11_read_47 : decode cX11_read 47 = .ok (.aload_n 0, 1) := by decide +kernel
theorem dX11_read_48 : decode cX11_read 48 = .ok (.iconst 0, 1) := by decide +kernel
theorem dX11_read_49 : decode cX11_read 49 = .ok (.putfield 171, 3) := by decide +kernel
theorem dX11_read_52 : decode cX11_read 52 = .ok (.aload_n 0, 1) := by decide +kernel
theorem dX11_read_53 : decode cX11_read 53 = .ok (.invokevirtual 499, 3) := by decide +kernel
theorem dX11_read_56 : decode cX11_read 56 = .ok (.aload_n 0, 1) := by decide +kernel
theorem dX11_read_57 : decode cX11_read 57 = .ok (.getfield 343, 3) := by decide +kernel
theorem dX11_read_60 : decode cX11_read 60 = .ok (.bipush (-2), 2) := by decide +kernel
theorem dX11_read_62 : decode cX11_read 62 = .ok (.if_icmp .eq 10, 3) := by decide +kernel
theorem dX11_read_65 : decode cX11_read 65 = .ok (.iconst (-1), 1) := by decide +kernel
theorem dX11_read_66 : decode cX11_read 66 = .ok (.aload_n 0, 1) := by decide +kernel
theorem dX11_read_67 : decode cX11_read 67 = .ok (.getfield 343, 3) := by decide +kernel
theorem dX11_read_70 : decode cX11_read 70 = .ok (.isub, 1) := by decide +kernel
theorem dX11_read_71 : decode cX11_read 71 = .ok (.ireturn, 1) := by decide +kernel
theorem dX11_read_72 : decode cX11_read 72 = .ok (.aload_n 0, 1) := by decide +kernel
theorem dX11_read_73 : decode cX11_read 73 = .ok (.invokevirtual 502, 3) := by decide +kernel
theorem dX11_read_76 : decode cX11_read 76 = .ok (.istore_n 1, 1) := by decide +kernel
theorem dX11_read_77 : decode cX11_read 77 = .ok (.iload_n 1, 1) := by decide +kernel
theorem dX11_read_78 : decode cX11_read 78 = .ok (.bipush (-2), 2) := by decide +kernel
theorem dX11_read_80 : decode cX11_read 80 = .ok (.if_icmp .eq 14, 3) := by decide +kernel
theorem dX11_read_83 : decode cX11_read 83 = .ok (.sipush (-10001), 3) := by decide +kernel
theorem dX11_read_86 : decode cX11_read 86 = .ok (.aload_n 0, 1) := by decide +kernel
theorem dX11_read_87 : decode cX11_read 87 = .ok (.getfield 105, 3) := by decide +kernel
theorem dX11_read_90 : decode cX11_read 90 = .ok (.iload_n 1, 1) := by decide +kernel
theorem dX11_read_91 : decode cX11_read 91 = .ok (.iaload, 1) := by decide +kernel
theorem dX11_read_92 : decode cX11_read 92 = .ok (.isub, 1) := by decide +kernel
theorem dX11_read_93 : decode cX11_read 93 = .ok (.ireturn, 1) := by decide +kernel
theorem dX11_read_94 : decode cX11_read 94 = .ok (.aload_n 0, 1) := by decide +kernel
theorem dX11_read_95 : decode cX11_read 95 = .ok (.getfield 47, 3) := by decide +kernel
theorem dX11_read_98 : decode cX11_read 98 = .ok (.iconst 1, 1) := by decide +kernel
theorem dX11_read_99 : decode cX11_read 99 = .ok (.aload_n 0, 1) := by decide +kernel
theorem dX11_read_100 : decode cX11_read 100 = .ok (.getfield 47, 3) := by decide +kernel
theorem dX11_read_103 : decode cX11_read 103 = .ok (.iconst 2, 1) := by decide +kernel
theorem dX11_read_104 : decode cX11_read 104 = .ok (.iaload, 1) := by decide +kernel
theorem dX11_read_105 : decode cX11_read 105 = .ok (.iastore, 1) := by decide +kernel
theorem dX11_read_106 : decode cX11_read 106 = .ok (.aload_n 0, 1) := by decide +kernel
theorem dX11_read_107 : decode cX11_read 107 = .ok (.iconst 1, 1) := by decide +kernel
theorem dX11_read_108 : decode cX11_read 108 = .ok (.putfield 241, 3) := by decide +kernel
theorem dX11_read_111 : decode cX11_read 111 = .ok (.iconst 0, 1) := by decide +kernel
theorem dX11_read_112 : decode cX11_read 112 = .ok (.istore_n 2, 1) := by decide +kernel
theorem dX11_read_113 : decode cX11_read 113 = .ok (.iload_n 2, 1) := by decide +kernel
theorem dX11_read_114 : decode cX11_read 114 = .ok (.aload_n 0, 1) := by decide +kernel
theorem dX11_read_115 : decode cX11_read 115 = .ok (.getfield 47, 3) := by decide +kernel
theorem dX11_read_118 : decode cX11_read 118 = .ok (.iconst 1, 1) := by decide +kernel
theorem dX11_read_119 : decode cX11_read 119 = .ok (.iaload, 1) := by decide +kernel
theorem dX11_read_120 : decode cX11_read 120 = .ok (.if_icmp .ge 27, 3) := by decide +kernel
theorem dX11_read_123 : decode cX11_read 123 = .ok (.aload_n 0, 1) := by decide +kernel
theorem dX11_read_124 : decode cX11_read 124 = .ok (.getfield 50, 3) := by decide +kernel
theorem dX11_read_127 : decode cX11_read 127 = .ok (.bipush 30, 2) := by decide +kernel
theorem dX11_read_129 : decode cX11_read 129 = .ok (.iload_n 2, 1) := by decide +kernel
theorem dX11_read_130 : decode cX11_read 130 = .ok (.iadd, 1) := by decide +kernel
theorem dX11_read_131 : decode cX11_read 131 = .ok (.aload_n 0, 1) := by decide +kernel
theorem dX11_read_132 : decode cX11_read 132 = .ok (.getfield 50, 3) := by decide +kernel
theorem dX11_read_135 : decode cX11_read 135 = .ok (.bipush 60, 2) := by decide +kernel
theorem dX11_read_137 : decode cX11_read 137 = .ok (.iload_n 2, 1) := by decide +kernel
theorem dX11_read_138 : decode cX11_read 138 = .ok (.iadd, 1) := by decide +kernel
theorem dX11_read_139 : decode cX11_read 139 = .ok (.iaload, 1) := by decide +kernel
theorem dX11_read_140 : decode cX11_read 140 = .ok (.iastore, 1) := by decide +kernel
theorem dX11_read_141 : decode cX11_read 141 = .ok (.iinc 2 1, 3) := by decide +kernel
theorem dX11_read_144 : decode cX11_read 144 = .ok (.goto (-31), 3) := by decide +kernel
theorem dX11_read_147 : decode cX11_read 147 = .ok (.iconst 0, 1) := by decide +kernel
theorem dX11_read_148 : decode cX11_read 148 = .ok (.istore_n 2, 1) := by decide +kernel
theorem dX11_read_149 : decode cX11_read 149 = .ok (.iload_n 2, 1) := by decide +kernel
theorem dX11_read_150 : decode cX11_read 150 = .ok (.iconst 4, 1) := by decide +kernel
theorem dX11_read_151 : decode cX11_read 151 = .ok (.aload_n 0, 1) := by decide +kernel
theorem dX11_read_152 : decode cX11_read 152 = .ok (.getfield 47, 3) := by decide +kernel
theorem dX11_read_155 : decode cX11_read 155 = .ok (.iconst 1, 1) := by decide +kernel
theorem dX11_read_156 : decode cX11_read 156 = .ok (.iaload, 1) := by decide +kernel
theorem dX11_read_157 : decode cX11_read 157 = .ok (.imul, 1) := by decide +kernel
theorem dX11_read_158 : decode cX11_read 158 = .ok (.if_icmp .ge 28, 3) := by decide +kernel
theorem dX11_read_161 : decode cX11_read 161 = .ok (.aload_n 0, 1) := by decide +kernel
theorem dX11_read_162 : decode cX11_read 162 = .ok (.getfield 53, 3) := by decide +kernel
theorem dX11_read_165 : decode cX11_read 165 = .ok (.bipush 120, 2) := by decide +kernel
theorem dX11_read_167 : decode cX11_read 167 = .ok (.iload_n 2, 1) := by decide +kernel
theorem dX11_read_168 : decode cX11_read 168 = .ok (.iadd, 1) := by decide +kernel
theorem dX11_read_169 : decode cX11_read 169 = .ok (.aload_n 0, 1) := by decide +kernel
theorem dX11_read_170 : decode cX11_read 170 = .ok (.getfield 53, 3) := by decide +kernel
theorem dX11_read_173 : decode cX11_read 173 = .ok (.sipush 240, 3) := by decide +kernel
theorem dX11_read_176 : decode cX11_read 176 = .ok (.iload_n 2, 1) := by decide +kernel
theorem dX11_read_177 : decode cX11_read 177 = .ok (.iadd, 1) := by decide +kernel
theorem dX11_read_178 : decode cX11_read 178 = .ok (.iaload, 1) := by decide +kernel
theorem dX11_read_179 : decode cX11_read 179 = .ok (.iastore, 1) := by decide +kernel
theorem dX11_read_180 : decode cX11_read 180 = .ok (.iinc 2 1, 3) := by decide +kernel
theorem dX11_read_183 : decode cX11_read 183 = .ok (.goto (-34), 3) := by decide +kernel
theorem dX11_read_186 : decode cX11_read 186 = .ok (.iconst 0, 1) := by decide +kernel
theorem dX11_read_187 : decode cX11_read 187 = .ok (.istore_n 2, 1) := by decide +kernel
theorem dX11_read_188 : decode cX11_read 188 = .ok (.iload_n 2, 1) := by decide +kernel
theorem dX11_read_189 : decode cX11_read 189 = .ok (.bipush 80, 2) := by decide +kernel
theorem dX11_read_191 : decode cX11_read 191 = .ok (.aload_n 0, 1) := by decide +kernel
theorem dX11_read_192 : decode cX11_read 192 = .ok (.getfield 47, 3) := by decide +kernel
theorem dX11_read_195 : decode cX11_read 195 = .ok (.iconst 1, 1) := by decide +kernel
theorem dX11_read_196 : decode cX11_read 196 = .ok (.iaload, 1) := by decide +kernel
theorem dX11_read_197 : decode cX11_read 197 = .ok (.imul, 1) := by decide +kernel
theorem dX11_read_198 : decode cX11_read 198 = .ok (.if_icmp .ge 29, 3) := by decide +kernel
theorem dX11_read_201 : decode cX11_read 201 = .ok (.aload_n 0, 1) := by decide +kernel
theorem dX11_read_202 : decode cX11_read 202 = .ok (.getfield 56, 3) := by decide +kernel
theorem dX11_read_205 : decode cX11_read 205 = .ok (.sipush 2400, 3) := by decide +kernel
theorem dX11_read_208 : decode cX11_read 208 = .ok (.iload_n 2, 1) := by decide +kernel
theorem dX11_read_209 : decode cX11_read 209 = .ok (.iadd, 1) := by decide +kernel
theorem dX11_read_210 : decode cX11_read 210 = .ok (.aload_n 0, 1) := by decide +kernel
theorem dX11_read_211 : decode cX11_read 211 = .ok (.getfield 56, 3) := by decide +kernel
theorem dX11_read_214 : decode cX11_read 214 = .ok (.sipush 4800, 3) := by decide +kernel
theorem dX11_read_217 : decode cX11_read 217 = .ok (.iload_n 2, 1) := by decide +kernel
theorem dX11_read_218 : decode cX11_read 218 = .ok (.iadd, 1) := by decide +kernel
theorem dX11_read_219 : decode cX11_read 219 = .ok (.iaload, 1) := by decide +kernel
theorem dX11_read_220 : decode cX11_read 220 = .ok (.iastore, 1) := by decide +kernel
theorem dX11_read_221 : decode cX11_read 221 = .ok (.iinc 2 1, 3) := by decide +kernel
theorem dX11_read_224 : decode cX11_read 224 = .ok (.goto (-36), 3) := by decide +kernel
theorem dX11_read_227 : decode cX11_read 227 = .ok (.aload_n 0, 1) := by decide +kernel
theorem dX11_read_228 : decode cX11_read 228 = .ok (.getfield 47, 3) := by decide +kernel
theorem dX11_read_231 : decode cX11_read 231 = .ok (.iconst 1, 1) := by decide +kernel
theorem dX11_read_232 : decode cX11_read 232 = .ok (.iaload, 1) := by decide +kernel
theorem dX11_read_233 : decode cX11_read 233 = .ok (.ireturn, 1) := by decide +kernel
theorem dX11_pair_0 : decode cX11_pair 0 = .ok (.iload_n 1, 1) := by decide +kernel
theorem dX11_pair_1 : decode cX11_pair 1 = .ok (.bipush (-2), 2) := by decide +kernel
theorem dX11_pair_3 : decode cX11_pair 3 = .ok (.if_icmp .eq 9, 3) := by decide +kernel
theorem dX11_pair_6 : decode cX11_pair 6 = .ok (.iload_n 2, 1) := by decide +kernel
theorem dX11_pair_7 : decode cX11_pair 7 = .ok (.bipush (-2), 2) := by decide +kernel
theorem dX11_pair_9 : decode cX11_pair 9 = .ok (.if_icmp .ne 14, 3) := by decide +kernel
theorem dX11_pair_12 : decode cX11_pair 12 = .ok (.iload_n 1, 1) := by decide +kernel
theorem dX11_pair_13 : decode cX11_pair 13 = .ok (.iload_n 2, 1) := by decide +kernel
theorem dX11_pair_14 : decode cX11_pair 14 = .ok (.if_icmp .ne 7, 3) := by decide +kernel
theorem dX11_pair_17 : decode cX11_pair 17 = .ok (.iconst 1, 1) := by decide +kernel
theorem dX11_pair_18 : decode cX11_pair 18 = .ok (.goto 4, 3) := by decide +kernel
theorem dX11_pair_21 : decode cX11_pair 21 = .ok (.iconst 0, 1) := by decide +kernel
theorem dX11_pair_22 : decode cX11_pair 22 = .ok (.ireturn, 1) := by decide +kernel
theorem dX11_pair_23 : decode cX11_pair 23 = .ok (.iconst 0, 1) := by decide +kernel
theorem dX11_pair_24 : decode cX11_pair 24 = .ok (.istore_n 3, 1) := by decide +kernel
theorem dX11_pair_25 : decode cX11_pair 25 = .ok (.iload_n 3, 1) := by decide +kernel
theorem dX11_pair_26 : decode cX11_pair 26 = .ok (.aload_n 0, 1) := by decide +kernel
theorem dX11_pair_27 : decode cX11_pair 27 = .ok (.getfield 505, 3) := by decide +kernel
theorem dX11_pair_30 : decode cX11_pair 30 = .ok (.if_icmp .ge 55, 3) := by decide +kernel
theorem dX11_pair_33 : decode cX11_pair 33 = .ok (.aload_n 0, 1) := by decide +kernel
theorem dX11_pair_34 : decode cX11_pair 34 = .ok (.getfield 165, 3) := by decide +kernel
theorem dX11_pair_37 : decode cX11_pair 37 = .ok (.iload_n 3, 1) := by decide +kernel
theorem dX11_pair_38 : decode cX11_pair 38 = .ok (.iaload, 1) := by decide +kernel
theorem dX11_pair_39 : decode cX11_pair 39 = .ok (.iload_n 1, 1) := by decide +kernel
theorem dX11_pair_40 : decode cX11_pair 40 = .ok (.if_icmp .eq 13, 3) := by decide +kernel
theorem dX11_pair_43 : decode cX11_pair 43 = .ok (.aload_n 0, 1) := by decide +kernel
theorem dX11_pair_44 : decode cX11_pair 44 = .ok (.getfield 168, 3) := by decide +kernel
theorem dX11_pair_47 : decode cX11_pair 47 = .ok (.iload_n 3, 1) := by decide +kernel
theorem dX11_pair_48 : decode cX11_pair 48 = .ok (.iaload, 1) := by decide +kernel
theorem dX11_pair_49 : decode cX11_pair 49 = .ok (.iload_n 2, 1) := by decide +kernel
theorem dX11_pair_50 : decode cX11_pair 50 = .ok (.if_icmp .ne 29, 3) := by decide +kernel
theorem dX11_pair_53 : decode cX11_pair 53 = .ok (.aload_n 0, 1) := by decide +kernel
theorem dX11_pair_54 : decode cX11_pair 54 = .ok (.getfield 165, 3) := by decide +kernel
theorem dX11_pair_57 : decode cX11_pair 57 = .ok (.iload_n 3, 1) := by decide +kernel
theorem dX11_pair_58 : decode cX11_pair 58 = .ok (.iaload, 1) := by decide +kernel
theorem dX11_pair_59 : decode cX11_pair 59 = .ok (.iload_n 1, 1) := by decide +kernel
theorem dX11_pair_60 : decode cX11_pair 60 = .ok (.if_icmp .ne 17, 3) := by decide +kernel
theorem dX11_pair_63 : decode cX11_pair 63 = .ok (.aload_n 0, 1) := by decide +kernel
theorem dX11_pair_64 : decode cX11_pair 64 = .ok (.getfield 168, 3) := by decide +kernel
theorem dX11_pair_67 : decode cX11_pair 67 = .ok (.iload_n 3, 1) := by decide +kernel
theorem dX11_pair_68 : decode cX11_pair 68 = .ok (.iaload, 1) := by decide +kernel
theorem dX11_pair_69 : decode cX11_pair 69 = .ok (.iload_n 2, 1) := by decide +kernel
theorem dX11_pair_70 : decode cX11_pair 70 = .ok (.if_icmp .ne 7, 3) := by decide +kernel
theorem dX11_pair_73 : decode cX11_pair 73 = .ok (.iconst 1, 1) := by decide +kernel
theorem dX11_pair_74 : decode cX11_pair 74 = .ok (.goto 4, 3) := by decide +kernel
theorem dX11_pair_77 : decode cX11_pair 77 = .ok (.iconst 0, 1) := by decide +kernel
theorem dX11_pair_78 : decode cX11_pair 78 = .ok (.ireturn, 1) := by decide +kernel
theorem dX11_pair_79 : decode cX11_pair 79 = .ok (.iinc 3 1, 3) := by decide +kernel
theorem dX11_pair_82 : decode cX11_pair 82 = .ok (.goto (-57), 3) := by decide +kernel
theorem dX11_pair_85 : decode cX11_pair 85 = .ok (.aload_n 0, 1) := by decide +kernel
theorem dX11_pair_86 : decode cX11_pair 86 = .ok (.getfield 165, 3) := by decide +kernel
theorem dX11_pair_89 : decode cX11_pair 89 = .ok (.aload_n 0, 1) := by decide +kernel
theorem dX11_pair_90 : decode cX11_pair 90 = .ok (.getfield 505, 3) := by decide +kernel
theorem dX11_pair_93 : decode cX11_pair 93 = .ok (.iload_n 1, 1) := by decide +kernel
theorem dX11_pair_94 : decode cX11_pair 94 = .ok (.iastore, 1) := by decide +kernel
theorem dX11_pair_95 : decode cX11_pair 95 = .ok (.aload_n 0, 1) := by decide +kernel
theorem dX11_pair_96 : decode cX11_pair 96 = .ok (.getfield 168, 3) := by decide +kernel
theorem dX11_pair_99 : decode cX11_pair 99 = .ok (.aload_n 0, 1) := by decide +kernel
theorem dX11_pair_100 : decode cX11_pair 100 = .ok (.getfield 505, 3) := by decide +kernel
theorem dX11_pair_103 : decode cX11_pair 103 = .ok (.iload_n 2, 1) := by decide +kernel
theorem dX11_pair_104 : decode cX11_pair 104 = .ok (.iastore, 1) := by decide +kernel
theorem dX11_pair_105 : decode cX11_pair 105 = .ok (.aload_n 0, 1) := by decide +kernel
theorem dX11_pair_106 : decode cX11_pair 106 = .ok (.dup, 1) := by decide +kernel
theorem dX11_pair_107 : decode cX11_pair 107 = .ok (.getfield 505, 3) := by decide +kernel
theorem dX11_pair_110 : decode cX11_pair 110 = .ok (.iconst 1, 1) := by decide +kernel
theorem dX11_pair_111 : decode cX11_pair 111 = .ok (.iadd, 1) := by decide +kernel
theorem dX11_pair_112 : decode cX11_pair 112 = .ok (.putfield 505, 3) := by decide +kernel
theorem dX11_pair_115 : decode cX11_pair 115 = .ok (.iconst 1, 1) := by decide +kernel
theorem dX11_pair_116 : decode cX11_pair 116 = .ok (.ireturn, 1) := by decide +kernel
theorem dX11_areSame_0 : decode cX11_areSame 0 = .ok (.aload_n 0, 1) := by decide +kernel
theorem dX11_areSame_1 : decode cX11_areSame 1 = .ok (.getfield 50, 3) := by decide +kernel
theorem dX11_areSame_4 : decode cX11_areSame 4 = .ok (.iload_n 1, 1) := by decide +kernel
theorem dX11_areSame_5 : decode cX11_areSame 5 = .ok (.iaload, 1) := by decide +kernel
theorem dX11_areSame_6 : decode cX11_areSame 6 = .ok (.istore_n 3, 1) := by decide +kernel
theorem dX11_areSame_7 : decode cX11_areSame 7 = .ok (.iload_n 3, 1) := by decide +kernel
theorem dX11_areSame_8 : decode cX11_areSame 8 = .ok (.aload_n 0, 1) := by decide +kernel
theorem dX11_areSame_9 : decode cX11_areSame 9 = .ok (.getfield 50, 3) := by decide +kernel
theorem dX11_areSame_12 : decode cX11_areSame 12 = .ok (.bipush 30, 2) := by decide +kernel
theorem dX11_areSame_14 : decode cX11_areSame 14 = .ok (.iload_n 2, 1) := by decide +kernel
theorem dX11_areSame_15 : decode cX11_areSame 15 = .ok (.iadd, 1) := by decide +kernel
theorem dX11_areSame_16 : decode cX11_areSame 16 = .ok (.iaload, 1) := by decide +kernel
theorem dX11_areSame_17 : decode cX11_areSame 17 = .ok (.if_icmp .eq 5, 3) := by decide +kernel
theorem dX11_areSame_20 : decode cX11_areSame 20 = .ok (.iconst 0, 1) := by decide +kernel
theorem dX11_areSame_21 : decode cX11_areSame 21 = .ok (.ireturn, 1) := by decide +kernel
theorem dX11_areSame_22 : decode cX11_areSame 22 = .ok (.iconst 1, 1) := by decide +kernel
theorem dX11_areSame_23 : decode cX11_areSame 23 = .ok (.istore 4, 2) := by decide +kernel
theorem dX11_areSame_25 : decode cX11_areSame 25 = .ok (.iconst 0, 1) := by decide +kernel
theorem dX11_areSame_26 : decode cX11_areSame 26 = .ok (.istore 5, 2) := by decide +kernel
theorem dX11_areSame_28 : decode cX11_areSame 28 = .ok (.iload 5, 2) := by decide +kernel
theorem dX11_areSame_30 : decode cX11_areSame 30 = .ok (.aload_n 0, 1) := by decide +kernel
theorem dX11_areSame_31 : decode cX11_areSame 31 = .ok (.getfield 13, 3) := by decide +kernel
theorem dX11_areSame_34 : decode cX11_areSame 34 = .ok (.iload_n 3, 1) := by decide +kernel
theorem dX11_areSame_35 : decode cX11_areSame 35 = .ok (.iaload, 1) := by decide +kernel
theorem dX11_areSame_36 : decode cX11_areSame 36 = .ok (.if_icmp .ge 195, 3) := by decide +kernel
theorem dX11_areSame_39 : decode cX11_areSame 39 = .ok (.iload 4, 2) := by decide +kernel
theorem dX11_areSame_41 : decode cX11_areSame 41 = .ok (.ifCond .eq 190, 3) := by decide +kernel
theorem dX11_areSame_44 : decode cX11_areSame 44 = .ok (.iconst 4, 1) := by decide +kernel
theorem dX11_areSame_45 : decode cX11_areSame 45 = .ok (.iload_n 1, 1) := by decide +kernel
theorem dX11_areSame_46 : decode cX11_areSame 46 = .ok (.imul, 1) := by decide +kernel
theorem dX11_areSame_47 : decode cX11_areSame 47 = .ok (.iload 5, 2) := by decide +kernel
theorem dX11_areSame_49 : decode cX11_areSame 49 = .ok (.iadd, 1) := by decide +kernel
theorem dX11_areSame_50 : decode cX11_areSame 50 = .ok (.istore 6, 2) := by decide +kernel
theorem dX11_areSame_52 : decode cX11_areSame 52 = .ok (.iconst 4, 1) := by decide +kernel
theorem dX11_areSame_53 : decode cX11_areSame 53 = .ok (.bipush 30, 2) := by decide +kernel
theorem dX11_areSame_55 : decode cX11_areSame 55 = .ok (.iload_n 2, 1) := by decide +kernel
theorem dX11_areSame_56 : decode cX11_areSame 56 = .ok (.iadd, 1) := by decide +kernel
theorem dX11_areSame_57 : decode cX11_areSame 57 = .ok (.imul, 1) := by decide +kernel
theorem dX11_areSame_58 : decode cX11_areSame 58 = .ok (.iload 5, 2) := by decide +kernel
theorem dX11_areSame_60 : decode cX11_areSame 60 = .ok (.iadd, 1) := by decide +kernel
theorem dX11_areSame_61 : decode cX11_areSame 61 = .ok (.istore 7, 2) := by decide +kernel
theorem dX11_areSame_63 : decode cX11_areSame 63 = .ok (.aload_n 0, 1) := by decide +kernel
theorem dX11_areSame_64 : decode cX11_areSame 64 = .ok (.getfield 22, 3) := by decide +kernel
theorem dX11_areSame_67 : decode cX11_areSame 67 = .ok (.iconst 4, 1) := by decide +kernel
theorem dX11_areSame_68 : decode cX11_areSame 68 = .ok (.iload_n 3, 1) := by decide +kernel
theorem dX11_areSame_69 : decode cX11_areSame 69 = .ok (.imul, 1) := by decide +kernel
theorem dX11_areSame_70 : decode cX11_areSame 70 = .ok (.iload 5, 2) := by decide +kernel
theorem dX11_areSame_72 : decode cX11_areSame 72 = .ok (.iadd, 1) := by decide +kernel
theorem dX11_areSame_73 : decode cX11_areSame 73 = .ok (.iaload, 1) := by decide +kernel
theorem dX11_areSame_74 : decode cX11_areSame 74 = .ok (.istore 8, 2) := by decide +kernel
theorem dX11_areSame_76 : decode cX11_areSame 76 = .ok (.iload 8, 2) := by decide +kernel
theorem dX11_areSame_78 : decode cX11_areSame 78 = .ok (.iconst 2, 1) := by decide +kernel
theorem dX11_areSame_79 : decode cX11_areSame 79 = .ok (.if_icmp .ne 24, 3) := by decide +kernel
theorem dX11_areSame_82 : decode cX11_areSame 82 = .ok (.aload_n 0, 1) := by decide +kernel
theorem dX11_areSame_83 : decode cX11_areSame 83 = .ok (.aload_n 0, 1) := by decide +kernel
theorem dX11_areSame_84 : decode cX11_areSame 84 = .ok (.getfield 53, 3) := by decide +kernel
theorem dX11_areSame_87 : decode cX11_areSame 87 = .ok (.iload 6, 2) := by decide +kernel
theorem dX11_areSame_89 : decode cX11_areSame 89 = .ok (.iaload, 1) := by decide +kernel
theorem dX11_areSame_90 : decode cX11_areSame 90 = .ok (.aload_n 0, 1) := by decide +kernel
theorem dX11_areSame_91 : decode cX11_areSame 91 = .ok (.getfield 53, 3) := by decide +kernel
theorem dX11_areSame_94 : decode cX11_areSame 94 = .ok (.iload 7, 2) := by decide +kernel
theorem dX11_areSame_96 : decode cX11_areSame 96 = .ok (.iaload, 1) := by decide +kernel
theorem dX11_areSame_97 : decode cX11_areSame 97 = .ok (.invokevirtual 508, 3) := by decide +kernel
theorem dX11_areSame_100 : decode cX11_areSame 100 = .ok (.goto 25, 3) := by decide +kernel
theorem dX11_areSame_103 : decode cX11_areSame 103 = .ok (.aload_n 0, 1) := by decide +kernel
theorem dX11_areSame_104 : decode cX11_areSame 104 = .ok (.getfield 53, 3) := by decide +kernel
theorem dX11_areSame_107 : decode cX11_areSame 107 = .ok (.iload 6, 2) := by decide +kernel
theorem dX11_areSame_109 : decode cX11_areSame 109 = .ok (.iaload, 1) := by decide +kernel
theorem dX11_areSame_110 : decode cX11_areSame 110 = .ok (.aload_n 0, 1) := by decide +kernel
theorem dX11_areSame_111 : decode cX11_areSame 111 = .ok (.getfield 53, 3) := by decide +kernel
theorem dX11_areSame_114 : decode cX11_areSame 114 = .ok (.iload 7, 2) := by decide +kernel
theorem dX11_areSame_116 : decode cX11_areSame 116 = .ok (.iaload, 1) := by decide +kernel
theorem dX11_areSame_117 : decode cX11_areSame 117 = .ok (.if_icmp .ne 7, 3) := by decide +kernel
theorem dX11_areSame_120 : decode cX11_areSame 120 = .ok (.iconst 1, 1) := by decide +kernel
theorem dX11_areSame_121 : decode cX11_areSame 121 = .ok (.goto 4, 3) := by decide +kernel
theorem dX11_areSame_124 : decode cX11_areSame 124 = .ok (.iconst 0, 1) := by decide +kernel
theorem dX11_areSame_125 : decode cX11_areSame 125 = .ok (.istore 4, 2) := by decide +kernel
theorem dX11_areSame_127 : decode cX11_areSame 127 = .ok (.iconst 0, 1) := by decide +kernel
theorem dX11_areSame_128 : decode cX11_areSame 128 = .ok (.istore 9, 2) := by decide +kernel
theorem dX11_areSame_130 : decode cX11_areSame 130 = .ok (.iload 8, 2) := by decide +kernel
theorem dX11_areSame_132 : decode cX11_areSame 132 = .ok (.ifCond .eq 93, 3) := by decide +kernel
theorem dX11_areSame_135 : decode cX11_areSame 135 = .ok (.iload 8, 2) := by decide +kernel
theorem dX11_areSame_137 : decode cX11_areSame 137 = .ok (.iconst 2, 1) := by decide +kernel
theorem dX11_areSame_138 : decode cX11_areSame 138 = .ok (.if_icmp .eq 87, 3) := by decide +kernel
theorem dX11_areSame_141 : decode cX11_areSame 141 = .ok (.iload 9, 2) := by decide +kernel
theorem dX11_areSame_143 : decode cX11_areSame 143 = .ok (.aload_n 0, 1) := by decide +kernel
theorem dX11_areSame_144 : decode cX11_areSame 144 = .ok (.getfield 53, 3) := by decide +kernel
theorem dX11_areSame_147 : decode cX11_areSame 147 = .ok (.iload 6, 2) := by decide +kernel
theorem dX11_areSame_149 : decode cX11_areSame 149 = .ok (.iaload, 1) := by decide +kernel
theorem dX11_areSame_150 : decode cX11_areSame 150 = .ok (.if_icmp .ge 75, 3) := by decide +kernel
theorem dX11_areSame_153 : decode cX11_areSame 153 = .ok (.iload 4, 2) := by decide +kernel
theorem dX11_areSame_155 : decode cX11_areSame 155 = .ok (.ifCond .eq 70, 3) := by decide +kernel
theorem dX11_areSame_158 : decode cX11_areSame 158 = .ok (.aload_n 0, 1) := by decide +kernel
theorem dX11_areSame_159 : decode cX11_areSame 159 = .ok (.getfield 56, 3) := by decide +kernel
theorem dX11_areSame_162 : decode cX11_areSame 162 = .ok (.bipush 20, 2) := by decide +kernel
theorem dX11_areSame_164 : decode cX11_areSame 164 = .ok (.iload 6, 2) := by decide +kernel
theorem dX11_areSame_166 : decode cX11_areSame 166 = .ok (.imul, 1) := by decide +kernel
theorem dX11_areSame_167 : decode cX11_areSame 167 = .ok (.iload 9, 2) := by decide +kernel
theorem dX11_areSame_169 : decode cX11_areSame 169 = .ok (.iadd, 1) := by decide +kernel
theorem dX11_areSame_170 : decode cX11_areSame 170 = .ok (.iaload, 1) := by decide +kernel
theorem dX11_areSame_171 : decode cX11_areSame 171 = .ok (.istore 10, 2) := by decide +kernel
theorem dX11_areSame_173 : decode cX11_areSame 173 = .ok (.aload_n 0, 1) := by decide +kernel
theorem dX11_areSame_174 : decode cX11_areSame 174 = .ok (.getfield 56, 3) := by decide +kernel
theorem dX11_areSame_177 : decode cX11_areSame 177 = .ok (.bipush 20, 2) := by decide +kernel
theorem dX11_areSame_179 : decode cX11_areSame 179 = .ok (.iload 7, 2) := by decide +kernel
theorem dX11_areSame_181 : decode cX11_areSame 181 = .ok (.imul, 1) := by decide +kernel
theorem dX11_areSame_182 : decode cX11_areSame 182 = .ok (.iload 9, 2) := by decide +kernel
theorem dX11_areSame_184 : decode cX11_areSame 184 = .ok (.iadd, 1) := by decide +kernel
theorem dX11_areSame_185 : decode cX11_areSame 185 = .ok (.iaload, 1) := by decide +kernel
theorem dX11_areSame_186 : decode cX11_areSame 186 = .ok (.istore 11, 2) := by decide +kernel
theorem dX11_areSame_188 : decode cX11_areSame 188 = .ok (.iload 8, 2) := by decide +kernel
theorem dX11_areSame_190 : decode cX11_areSame 190 = .ok (.iconst 1, 1) := by decide +kernel
theorem dX11_areSame_191 : decode cX11_areSame 191 = .ok (.if_icmp .ne 18, 3) := by decide +kernel
theorem dX11_areSame_194 : decode cX11_areSame 194 = .ok (.iload 10, 2) := by decide +kernel
theorem dX11_areSame_196 : decode cX11_areSame 196 = .ok (.iload 11, 2) := by decide +kernel
theorem dX11_areSame_198 : decode cX11_areSame 198 = .ok (.if_icmp .ne 7, 3) := by decide +kernel
theorem dX11_areSame_201 : decode cX11_areSame 201 = .ok (.iconst 1, 1) := by decide +kernel
theorem dX11_areSame_202 : decode cX11_areSame 202 = .ok (.goto 15, 3) := by decide +kernel
theorem dX11_areSame_205 : decode cX11_areSame 205 = .ok (.iconst 0, 1) := by decide +kernel
theorem dX11_areSame_206 : decode cX11_areSame 206 = .ok (.goto 11, 3) := by decide +kernel
theorem dX11_areSame_209 : decode cX11_areSame 209 = .ok (.aload_n 0, 1) := by decide +kernel
theorem dX11_areSame_210 : decode cX11_areSame 210 = .ok (.iload 10, 2) := by decide +kernel
theorem dX11_areSame_212 : decode cX11_areSame 212 = .ok (.iload 11, 2) := by decide +kernel
theorem dX11_areSame_214 : decode cX11_areSame 214 = .ok (.invokevirtual 508, 3) := by decide +kernel
theorem dX11_areSame_217 : decode cX11_areSame 217 = .ok (.istore 4, 2) := by decide +kernel
theorem dX11_areSame_219 : decode cX11_areSame 219 = .ok (.iinc 9 1, 3) := by decide +kernel
theorem dX11_areSame_222 : decode cX11_areSame 222 = .ok (.goto (-92), 3) := by decide +kernel
theorem dX11_areSame_225 : decode cX11_areSame 225 = .ok (.iinc 5 1, 3) := by decide +kernel
theorem dX11_areSame_228 : decode cX11_areSame 228 = .ok (.goto (-200), 3) := by decide +kernel
theorem dX11_areSame_231 : decode cX11_areSame 231 = .ok (.iload 4, 2) := by decide +kernel
theorem dX11_areSame_233 : decode cX11_areSame 233 = .ok (.ireturn, 1) := by decide +kernel
theorem dX11_same_0 : decode cX11_same 0 = .ok (.aload_n 0, 1) := by decide +kernel
theorem dX11_same_1 : decode cX11_same 1 = .ok (.getfield 241, 3) := by decide +kernel
theorem dX11_same_4 : decode cX11_same 4 = .ok (.ifCond .eq 12, 3) := by decide +kernel
theorem dX11_same_7 : decode cX11_same 7 = .ok (.aload_n 0, 1) := by decide +kernel
theorem dX11_same_8 : decode cX11_same 8 = .ok (.iconst 0, 1) := by decide +kernel
theorem dX11_same_9 : decode cX11_same 9 = .ok (.iload_n 1, 1) := by decide +kernel
theorem dX11_same_10 : decode cX11_same 10 = .ok (.invokevirtual 247, 3) := by decide +kernel
theorem dX11_same_13 : decode cX11_same 13 = .ok (.ifCond .ne 5, 3) := by decide +kernel
theorem dX11_same_16 : decode cX11_same 16 = .ok (.iconst 0, 1) := by decide +kernel
theorem dX11_same_17 : decode cX11_same 17 = .ok (.ireturn, 1) := by decide +kernel
theorem dX11_same_18 : decode cX11_same 18 = .ok (.aload_n 0, 1) := by decide +kernel
theorem dX11_same_19 : decode cX11_same 19 = .ok (.iconst 0, 1) := by decide +kernel
theorem dX11_same_20 : decode cX11_same 20 = .ok (.putfield 505, 3) := by decide +kernel
theorem dX11_same_23 : decode cX11_same 23 = .ok (.aload_n 0, 1) := by decide +kernel
theorem dX11_same_24 : decode cX11_same 24 = .ok (.iload_n 1, 1) := by decide +kernel
theorem dX11_same_25 : decode cX11_same 25 = .ok (.iconst 0, 1) := by decide +kernel
theorem dX11_same_26 : decode cX11_same 26 = .ok (.invokevirtual 508, 3) := by decide +kernel
theorem dX11_same_29 : decode cX11_same 29 = .ok (.istore_n 2, 1) := by decide +kernel
theorem dX11_same_30 : decode cX11_same 30 = .ok (.iconst 0, 1) := by decide +kernel
theorem dX11_same_31 : decode cX11_same 31 = .ok (.istore_n 3, 1) := by decide +kernel
theorem dX11_same_32 : decode cX11_same 32 = .ok (.iload_n 3, 1) := by decide +kernel
theorem dX11_same_33 : decode cX11_same 33 = .ok (.aload_n 0, 1) := by decide +kernel
theorem dX11_same_34 : decode cX11_same 34 = .ok (.getfield 505, 3) := by decide +kernel
theorem dX11_same_37 : decode cX11_same 37 = .ok (.if_icmp .ge 30, 3) := by decide +kernel
theorem dX11_same_40 : decode cX11_same 40 = .ok (.iload_n 2, 1) := by decide +kernel
theorem dX11_same_41 : decode cX11_same 41 = .ok (.ifCond .eq 26, 3) := by decide +kernel
theorem dX11_same_44 : decode cX11_same 44 = .ok (.aload_n 0, 1) := by decide +kernel
theorem dX11_same_45 : decode cX11_same 45 = .ok (.aload_n 0, 1) := by decide +kernel
theorem dX11_same_46 : decode cX11_same 46 = .ok (.getfield 165, 3) := by decide +kernel
theorem dX11_same_49 : decode cX11_same 49 = .ok (.iload_n 3, 1) := by decide +kernel
theorem dX11_same_50 : decode cX11_same 50 = .ok (.iaload, 1) := by decide +kernel
theorem dX11_same_51 : decode cX11_same 51 = .ok (.aload_n 0, 1) := by decide +kernel
theorem dX11_same_52 : decode cX11_same 52 = .ok (.getfield 168, 3) := by decide +kernel
theorem dX11_same_55 : decode cX11_same 55 = .ok (.iload_n 3, 1) := by decide +kernel
theorem dX11_same_56 : decode cX11_same 56 = .ok (.iaload, 1) := by decide +kernel
theorem dX11_same_57 : decode cX11_same 57 = .ok (.invokevirtual 511, 3) := by decide +kernel
theorem dX11_same_60 : decode cX11_same 60 = .ok (.istore_n 2, 1) := by decide +kernel
theorem dX11_same_61 : decode cX11_same 61 = .ok (.iinc 3 1, 3) := by decide +kernel
theorem dX11_same_64 : decode cX11_same 64 = .ok (.goto (-32), 3) := by decide +kernel
theorem dX11_same_67 : decode cX11_same 67 = .ok (.iload_n 2, 1) := by decide +kernel
theorem dX11_same_68 : decode cX11_same 68 = .ok (.ireturn, 1) := by decide +kernel
theorem dX11_kind_0 : decode cX11_kind 0 = .ok (.iload_n 1, 1) := by decide +kernel
theorem dX11_kind_1 : decode cX11_kind 1 = .ok (.iconst 0, 1) := by decide +kernel
theorem dX11_kind_2 : decode cX11_kind 2 = .ok (.iconst 1, 1) := by decide +kernel
theorem dX11_kind_3 : decode cX11_kind 3 = .ok (.invokestatic 174, 3) := by decide +kernel
theorem dX11_kind_6 : decode cX11_kind 6 = .ok (.ifCond .eq 26, 3) := by decide +kernel
theorem dX11_kind_9 : decode cX11_kind 9 = .ok (.aload_n 0, 1) := by decide +kernel
theorem dX11_kind_10 : decode cX11_kind 10 = .ok (.iload_n 1, 1) := by decide +kernel
theorem dX11_kind_11 : decode cX11_kind 11 = .ok (.iload_n 2, 1) := by decide +kernel
theorem dX11_kind_12 : decode cX11_kind 12 = .ok (.invokevirtual 247, 3) := by decide +kernel
theorem dX11_kind_15 : decode cX11_kind 15 = .ok (.ifCond .eq 17, 3) := by decide +kernel
theorem dX11_kind_18 : decode cX11_kind 18 = .ok (.aload_n 0, 1) := by decide +kernel
theorem dX11_kind_19 : decode cX11_kind 19 = .ok (.getfield 50, 3) := by decide +kernel
theorem dX11_kind_22 : decode cX11_kind 22 = .ok (.bipush 30, 2) := by decide +kernel
theorem dX11_kind_24 : decode cX11_kind 24 = .ok (.iload_n 1, 1) := by decide +kernel
theorem dX11_kind_25 : decode cX11_kind 25 = .ok (.imul, 1) := by decide +kernel
theorem dX11_kind_26 : decode cX11_kind 26 = .ok (.iload_n 2, 1) := by decide +kernel
theorem dX11_kind_27 : decode cX11_kind 27 = .ok (.iadd, 1) := by decide +kernel
theorem dX11_kind_28 : decode cX11_kind 28 = .ok (.iaload, 1) := by decide +kernel
theorem dX11_kind_29 : decode cX11_kind 29 = .ok (.goto 4, 3) := by decide +kernel
theorem dX11_kind_32 : decode cX11_kind 32 = .ok (.iconst (-1), 1) := by decide +kernel
theorem dX11_kind_33 : decode cX11_kind 33 = .ok (.ireturn, 1) := by decide +kernel
theorem dX11_value_0 : decode cX11_value 0 = .ok (.aload_n 0, 1) := by decide +kernel
theorem dX11_value_1 : decode cX11_value 1 = .ok (.iload_n 1, 1) := by decide +kernel
theorem dX11_value_2 : decode cX11_value 2 = .ok (.iload_n 2, 1) := by decide +kernel
theorem dX11_value_3 : decode cX11_value 3 = .ok (.iload_n 3, 1) := by decide +kernel
theorem dX11_value_4 : decode cX11_value 4 = .ok (.invokevirtual 253, 3) := by decide +kernel
theorem dX11_value_7 : decode cX11_value 7 = .ok (.istore 5, 2) := by decide +kernel
theorem dX11_value_9 : decode cX11_value 9 = .ok (.iload 5, 2) := by decide +kernel
theorem dX11_value_11 : decode cX11_value 11 = .ok (.iconst (-1), 1) := by decide +kernel
theorem dX11_value_12 : decode cX11_value 12 = .ok (.if_icmp .ne 5, 3) := by decide +kernel
theorem dX11_value_15 : decode cX11_value 15 = .ok (.iconst 0, 1) := by decide +kernel
theorem dX11_value_16 : decode cX11_value 16 = .ok (.ireturn, 1) := by decide +kernel
theorem dX11_value_17 : decode cX11_value 17 = .ok (.iconst 4, 1) := by decide +kernel
theorem dX11_value_18 : decode cX11_value 18 = .ok (.bipush 30, 2) := by decide +kernel
theorem dX11_value_20 : decode cX11_value 20 = .ok (.iload_n 1, 1) := by decide +kernel
theorem dX11_value_21 : decode cX11_value 21 = .ok (.imul, 1) := by decide +kernel
theorem dX11_value_22 : decode cX11_value 22 = .ok (.iload_n 2, 1) := by decide +kernel
theorem dX11_value_23 : decode cX11_value 23 = .ok (.iadd, 1) := by decide +kernel
theorem dX11_value_24 : decode cX11_value 24 = .ok (.imul, 1) := by decide +kernel
theorem dX11_value_25 : decode cX11_value 25 = .ok (.iload_n 3, 1) := by decide +kernel
theorem dX11_value_26 : decode cX11_value 26 = .ok (.iadd, 1) := by decide +kernel
theorem dX11_value_27 : decode cX11_value 27 = .ok (.istore 6, 2) := by decide +kernel
theorem dX11_value_29 : decode cX11_value 29 = .ok (.iload 5, 2) := by decide +kernel
theorem dX11_value_31 : decode cX11_value 31 = .ok (.ifCond .eq 9, 3) := by decide +kernel
theorem dX11_value_34 : decode cX11_value 34 = .ok (.iload 5, 2) := by decide +kernel
theorem dX11_value_36 : decode cX11_value 36 = .ok (.iconst 2, 1) := by decide +kernel
theorem dX11_value_37 : decode cX11_value 37 = .ok (.if_icmp .ne 11, 3) := by decide +kernel
theorem dX11_value_40 : decode cX11_value 40 = .ok (.aload_n 0, 1) := by decide +kernel
theorem dX11_value_41 : decode cX11_value 41 = .ok (.getfield 53, 3) := by decide +kernel
theorem dX11_value_44 : decode cX11_value 44 = .ok (.iload 6, 2) := by decide +kernel
theorem dX11_value_46 : decode cX11_value 46 = .ok (.iaload, 1) := by decide +kernel
theorem dX11_value_47 : decode cX11_value 47 = .ok (.ireturn, 1) := by decide +kernel
theorem dX11_value_48 : decode cX11_value 48 = .ok (.iload 4, 2) := by decide +kernel
theorem dX11_value_50 : decode cX11_value 50 = .ok (.iconst 0, 1) := by decide +kernel
theorem dX11_value_51 : decode cX11_value 51 = .ok (.aload_n 0, 1) := by decide +kernel
theorem dX11_value_52 : decode cX11_value 52 = .ok (.getfield 53, 3) := by decide +kernel
theorem dX11_value_55 : decode cX11_value 55 = .ok (.iload 6, 2) := by decide +kernel
theorem dX11_value_57 : decode cX11_value 57 = .ok (.iaload, 1) := by decide +kernel
theorem dX11_value_58 : decode cX11_value 58 = .ok (.iconst 1, 1) := by decide +kernel
theorem dX11_value_59 : decode cX11_value 59 = .ok (.isub, 1) := by decide +kernel
theorem dX11_value_60 : decode cX11_value 60 = .ok (.invokestatic 174, 3) := by decide +kernel
theorem dX11_value_63 : decode cX11_value 63 = .ok (.ifCond .eq 19, 3) := by decide +kernel
theorem dX11_value_66 : decode cX11_value 66 = .ok (.aload_n 0, 1) := by decide +kernel
theorem dX11_value_67 : decode cX11_value 67 = .ok (.getfield 56, 3) := by decide +kernel
theorem dX11_value_70 : decode cX11_value 70 = .ok (.bipush 20, 2) := by decide +kernel
theorem dX11_value_72 : decode cX11_value 72 = .ok (.iload 6, 2) := by decide +kernel
theorem dX11_value_74 : decode cX11_value 74 = .ok (.imul, 1) := by decide +kernel
theorem dX11_value_75 : decode cX11_value 75 = .ok (.iload 4, 2) := by decide +kernel
theorem dX11_value_77 : decode cX11_value 77 = .ok (.iadd, 1) := by decide +kernel
theorem dX11_value_78 : decode cX11_value 78 = .ok (.iaload, 1) := by decide +kernel
theorem dX11_value_79 : decode cX11_value 79 = .ok (.goto 5, 3) := by decide +kernel
theorem dX11_value_82 : decode cX11_value 82 = .ok (.bipush (-2), 2) := by decide +kernel
theorem dX11_value_84 : decode cX11_value 84 = .ok (.ireturn, 1) := by decide +kernel
theorem dX11_count_0 : decode cX11_count 0 = .ok (.iconst 0, 1) := by decide +kernel
theorem dX11_count_1 : decode cX11_count 1 = .ok (.istore_n 2, 1) := by decide +kernel
theorem dX11_count_2 : decode cX11_count 2 = .ok (.iconst 0, 1) := by decide +kernel
theorem dX11_count_3 : decode cX11_count 3 = .ok (.istore_n 3, 1) := by decide +kernel
theorem dX11_count_4 : decode cX11_count 4 = .ok (.iload_n 3, 1) := by decide +kernel
theorem dX11_count_5 : decode cX11_count 5 = .ok (.aload_n 0, 1) := by decide +kernel
theorem dX11_count_6 : decode cX11_count 6 = .ok (.getfield 238, 3) := by decide +kernel
theorem dX11_count_9 : decode cX11_count 9 = .ok (.if_icmp .ge 26, 3) := by decide +kernel
theorem dX11_count_12 : decode cX11_count 12 = .ok (.aload_n 0, 1) := by decide +kernel
theorem dX11_count_13 : decode cX11_count 13 = .ok (.getfield 29, 3) := by decide +kernel
theorem dX11_count_16 : decode cX11_count 16 = .ok (.iload_n 3, 1) := by decide +kernel
theorem dX11_count_17 : decode cX11_count 17 = .ok (.baload, 1) := by decide +kernel
theorem dX11_count_18 : decode cX11_count 18 = .ok (.ifCond .eq 9, 3) := by decide +kernel
theorem dX11_count_21 : decode cX11_count 21 = .ok (.iload_n 2, 1) := by decide +kernel
theorem dX11_count_22 : decode cX11_count 22 = .ok (.iconst 1, 1) := by decide +kernel
theorem dX11_count_23 : decode cX11_count 23 = .ok (.iadd, 1) := by decide +kernel
theorem dX11_count_24 : decode cX11_count 24 = .ok (.goto 4, 3) := by decide +kernel
theorem dX11_count_27 : decode cX11_count 27 = .ok (.iload_n 2, 1) := by decide +kernel
theorem dX11_count_28 : decode cX11_count 28 = .ok (.istore_n 2, 1) := by decide +kernel
theorem dX11_count_29 : decode cX11_count 29 = .ok (.iinc 3 1, 3) := by decide +kernel
theorem dX11_count_32 : decode cX11_count 32 = .ok (.goto (-28), 3) := by decide +kernel
theorem dX11_count_35 : decode cX11_count 35 = .ok (.iload_n 1, 1) := by decide +kernel
theorem dX11_count_36 : decode cX11_count 36 = .ok (.tableswitch 71 0 5 #[40, 45, 52, 59, 64, 69], 40) := by decide +kernel
theorem dX11_count_76 : decode cX11_count 76 = .ok (.aload_n 0, 1) := by decide +kernel
theorem dX11_count_77 : decode cX11_count 77 = .ok (.getfield 238, 3) := by decide +kernel
theorem dX11_count_80 : decode cX11_count 80 = .ok (.ireturn, 1) := by decide +kernel
theorem dX11_count_81 : decode cX11_count 81 = .ok (.aload_n 0, 1) := by decide +kernel
theorem dX11_count_82 : decode cX11_count 82 = .ok (.getfield 47, 3) := by decide +kernel
theorem dX11_count_85 : decode cX11_count 85 = .ok (.iconst 0, 1) := by decide +kernel
theorem dX11_count_86 : decode cX11_count 86 = .ok (.iaload, 1) := by decide +kernel
theorem dX11_count_87 : decode cX11_count 87 = .ok (.ireturn, 1) := by decide +kernel
theorem dX11_count_88 : decode cX11_count 88 = .ok (.aload_n 0, 1) := by decide +kernel
theorem dX11_count_89 : decode cX11_count 89 = .ok (.getfield 47, 3) := by decide +kernel
theorem dX11_count_92 : decode cX11_count 92 = .ok (.iconst 1, 1) := by decide +kernel
theorem dX11_count_93 : decode cX11_count 93 = .ok (.iaload, 1) := by decide +kernel
theorem dX11_count_94 : decode cX11_count 94 = .ok (.ireturn, 1) := by decide +kernel
theorem dX11_count_95 : decode cX11_count 95 = .ok (.aload_n 0, 1) := by decide +kernel
theorem dX11_count_96 : decode cX11_count 96 = .ok (.getfield 244, 3) := by decide +kernel
theorem dX11_count_99 : decode cX11_count 99 = .ok (.ireturn, 1) := by decide +kernel
theorem dX11_count_100 : decode cX11_count 100 = .ok (.aload_n 0, 1) := by decide +kernel
theorem dX11_count_101 : decode cX11_count 101 = .ok (.getfield 171, 3) := by decide +kernel
theorem dX11_count_104 : decode cX11_count 104 = .ok (.ireturn, 1) := by decide +kernel
theorem dX11_count_105 : decode cX11_count 105 = .ok (.iload_n 2, 1) := by decide +kernel
theorem dX11_count_106 : decode cX11_count 106 = .ok (.ireturn, 1) := by decide +kernel
theorem dX11_count_107 : decode cX11_count 107 = .ok (.iconst (-1), 1) := by decide +kernel
theorem dX11_count_108 : decode cX11_count 108 = .ok (.ireturn, 1) := by decide +kernel
theorem dJ0_length_8abf5_0 : decode cJ0_length_8abf5 0 = .ok (.aload_n 0, 1) := by decide +kernel
theorem dJ0_length_8abf5_1 : decode cJ0_length_8abf5 1 = .ok (.getfield 9, 3) := by decide +kernel
theorem dJ0_length_8abf5_4 : decode cJ0_length_8abf5 4 = .ok (.arraylength, 1) := by decide +kernel
theorem dJ0_length_8abf5_5 : decode cJ0_length_8abf5 5 = .ok (.aload_n 0, 1) := by decide +kernel
theorem dJ0_length_8abf5_6 : decode cJ0_length_8abf5 6 = .ok (.invokevirtual 335, 3) := by decide +kernel
theorem dJ0_length_8abf5_9 : decode cJ0_length_8abf5 9 = .ok (.ishr, 1) := by decide +kernel
theorem dJ0_length_8abf5_10 : decode cJ0_length_8abf5 10 = .ok (.ireturn, 1) := by decide +kernel
theorem dJ0_charAt_5068e_0 : decode cJ0_charAt_5068e 0 = .ok (.aload_n 0, 1) := by decide +kernel
theorem dJ0_charAt_5068e_1 : decode cJ0_charAt_5068e 1 = .ok (.invokevirtual 492, 3) := by decide +kernel
theorem dJ0_charAt_5068e_4 : decode cJ0_charAt_5068e 4 = .ok (.ifCond .eq 12, 3) := by decide +kernel
theorem dJ0_charAt_5068e_7 : decode cJ0_charAt_5068e 7 = .ok (.aload_n 0, 1) := by decide +kernel
theorem dJ0_charAt_5068e_8 : decode cJ0_charAt_5068e 8 = .ok (.getfield 9, 3) := by decide +kernel
theorem dJ0_charAt_5068e_11 : decode cJ0_charAt_5068e 11 = .ok (.iload_n 1, 1) := by decide +kernel
theorem dJ0_charAt_5068e_12 : decode cJ0_charAt_5068e 12 = .ok (.invokestatic 495, 3) := by decide +kernel
theorem dJ0_charAt_5068e_15 : decode cJ0_charAt_5068e 15 = .ok (.ireturn, 1) := by decide +kernel
theorem dJ0_coder_7d493_0 : decode cJ0_coder_7d493 0 = .ok (.getstatic 38, 3) := by decide +kernel
theorem dJ0_coder_7d493_3 : decode cJ0_coder_7d493 3 = .ok (.ifCond .eq 10, 3) := by decide +kernel
theorem dJ0_coder_7d493_6 : decode cJ0_coder_7d493 6 = .ok (.aload_n 0, 1) := by decide +kernel
theorem dJ0_coder_7d493_7 : decode cJ0_coder_7d493 7 = .ok (.getfield 15, 3) := by decide +kernel
theorem dJ0_coder_7d493_10 : decode cJ0_coder_7d493 10 = .ok (.goto 4, 3) := by decide +kernel
theorem dJ0_coder_7d493_14 : decode cJ0_coder_7d493 14 = .ok (.ireturn, 1) := by decide +kernel
theorem dJ0_isLatin1_aae02_0 : decode cJ0_isLatin1_aae02 0 = .ok (.getstatic 38, 3) := by decide +kernel
theorem dJ0_isLatin1_aae02_3 : decode cJ0_isLatin1_aae02 3 = .ok (.ifCond .eq 14, 3) := by decide +kernel
theorem dJ0_isLatin1_aae02_6 : decode cJ0_isLatin1_aae02 6 = .ok (.aload_n 0, 1) := by decide +kernel
theorem dJ0_isLatin1_aae02_7 : decode cJ0_isLatin1_aae02 7 = .ok (.getfield 15, 3) := by decide +kernel
theorem dJ0_isLatin1_aae02_10 : decode cJ0_isLatin1_aae02 10 = .ok (.ifCond .ne 7, 3) := by decide +kernel
theorem dJ0_isLatin1_aae02_13 : decode cJ0_isLatin1_aae02 13 = .ok (.iconst 1, 1) := by decide +kernel
theorem dJ0_isLatin1_aae02_14 : decode cJ0_isLatin1_aae02 14 = .ok (.goto 4, 3) := by decide +kernel
theorem dJ0_isLatin1_aae02_18 : decode cJ0_isLatin1_aae02 18 = .ok (.ireturn, 1) := by decide +kernel
theorem dJ0_checkIndex_df160_0 : decode cJ0_checkIndex_df160 0 = .ok (.iload_n 0, 1) := by decide +kernel
theorem dJ0_checkIndex_df160_1 : decode cJ0_checkIndex_df160 1 = .ok (.iload_n 1, 1) := by decide +kernel
theorem dJ0_checkIndex_df160_2 : decode cJ0_checkIndex_df160 2 = .ok (.getstatic 1053, 3) := by decide +kernel
theorem dJ0_checkIndex_df160_5 : decode cJ0_checkIndex_df160 5 = .ok (.invokestatic 1059, 3) := by decide +kernel
theorem dJ0_checkIndex_df160_8 : decode cJ0_checkIndex_df160 8 = .ok (.pop, 1) := by decide +kernel
theorem dJ0_checkIndex_df160_9 : decode cJ0_checkIndex_df160 9 = .ok (.return_, 1) := by decide +kernel
theorem dJ1_charAt_3b067_0 : decode cJ1_charAt_3b067 0 = .ok (.iload_n 1, 1) := by decide +kernel
theorem dJ1_charAt_3b067_1 : decode cJ1_charAt_3b067 1 = .ok (.aload_n 0, 1) := by decide +kernel
theorem dJ1_charAt_3b067_2 : decode cJ1_charAt_3b067 2 = .ok (.arraylength, 1) := by decide +kernel
theorem dJ1_charAt_3b067_3 : decode cJ1_charAt_3b067 3 = .ok (.invokestatic 9, 3) := by decide +kernel
theorem dJ1_charAt_3b067_6 : decode cJ1_charAt_3b067 6 = .ok (.aload_n 0, 1) := by decide +kernel
theorem dJ1_charAt_3b067_7 : decode cJ1_charAt_3b067 7 = .ok (.iload_n 1, 1) := by decide +kernel
theorem dJ1_charAt_3b067_8 : decode cJ1_charAt_3b067 8 = .ok (.baload, 1) := by decide +kernel
theorem dJ1_charAt_3b067_9 : decode cJ1_charAt_3b067 9 = .ok (.sipush 255, 3) := by decide +kernel
theorem dJ1_charAt_3b067_12 : decode cJ1_charAt_3b067 12 = .ok (.iand, 1) := by decide +kernel
theorem dJ1_charAt_3b067_13 : decode cJ1_charAt_3b067 13 = .ok (.i2c, 1) := by decide +kernel
theorem dJ1_charAt_3b067_14 : decode cJ1_charAt_3b067 14 = .ok (.ireturn, 1) := by decide +kernel
theorem dJ7_fill_53178_0 : decode cJ7_fill_53178 0 = .ok (.iconst 0, 1) := by decide +kernel
theorem dJ7_fill_53178_1 : decode cJ7_fill_53178 1 = .ok (.istore_n 2, 1) := by decide +kernel
theorem dJ7_fill_53178_2 : decode cJ7_fill_53178 2 = .ok (.aload_n 0, 1) := by decide +kernel
theorem dJ7_fill_53178_3 : decode cJ7_fill_53178 3 = .ok (.arraylength, 1) := by decide +kernel
theorem dJ7_fill_53178_4 : decode cJ7_fill_53178 4 = .ok (.istore_n 3, 1) := by decide +kernel
theorem dJ7_fill_53178_5 : decode cJ7_fill_53178 5 = .ok (.iload_n 2, 1) := by decide +kernel
theorem dJ7_fill_53178_6 : decode cJ7_fill_53178 6 = .ok (.iload_n 3, 1) := by decide +kernel
theorem dJ7_fill_53178_7 : decode cJ7_fill_53178 7 = .ok (.if_icmp .ge 13, 3) := by decide +kernel
theorem dJ7_fill_53178_10 : decode cJ7_fill_53178 10 = .ok (.aload_n 0, 1) := by decide +kernel
theorem dJ7_fill_53178_11 : decode cJ7_fill_53178 11 = .ok (.iload_n 2, 1) := by decide +kernel
theorem dJ7_fill_53178_12 : decode cJ7_fill_53178 12 = .ok (.iload_n 1, 1) := by decide +kernel
theorem dJ7_fill_53178_13 : decode cJ7_fill_53178 13 = .ok (.iastore, 1) := by decide +kernel
theorem dJ7_fill_53178_14 : decode cJ7_fill_53178 14 = .ok (.iinc 2 1, 3) := by decide +kernel
theorem dJ7_fill_53178_17 : decode cJ7_fill_53178 17 = .ok (.goto (-12), 3) := by decide +kernel
theorem dJ7_fill_53178_20 : decode cJ7_fill_53178 20 = .ok (.return_, 1) := by decide +kernel
theorem dJ3_checkIndex_8e157_0 : decode cJ3_checkIndex_8e157 0 = .ok (.iload_n 0, 1) := by decide +kernel
theorem dJ3_checkIndex_8e157_1 : decode cJ3_checkIndex_8e157 1 = .ok (.ifCond .lt 8, 3) := by decide +kernel
theorem dJ3_checkIndex_8e157_4 : decode cJ3_checkIndex_8e157 4 = .ok (.iload_n 0, 1) := by decide +kernel
theorem dJ3_checkIndex_8e157_5 : decode cJ3_checkIndex_8e157 5 = .ok (.iload_n 1, 1) := by decide +kernel
theorem dJ3_checkIndex_8e157_6 : decode cJ3_checkIndex_8e157 6 = .ok (.if_icmp .lt 10, 3) := by decide +kernel
theorem dJ3_checkIndex_8e157_16 : decode cJ3_checkIndex_8e157 16 = .ok (.iload_n 0, 1) := by decide +kernel
theorem dJ3_checkIndex_8e157_17 : decode cJ3_checkIndex_8e157 17 = .ok (.ireturn, 1) := by decide +kernel
theorem dL_law_0 : decode cL_law 0 = .ok (.new 7, 3) := by decide +kernel
theorem dL_law_3 : decode cL_law 3 = .ok (.dup, 1) := by decide +kernel
theorem dL_law_4 : decode cL_law 4 = .ok (.invokespecial 9, 3) := by decide +kernel
theorem dL_law_7 : decode cL_law 7 = .ok (.astore_n 1, 1) := by decide +kernel
theorem dL_law_8 : decode cL_law 8 = .ok (.new 10, 3) := by decide +kernel
theorem dL_law_11 : decode cL_law 11 = .ok (.dup, 1) := by decide +kernel
theorem dL_law_12 : decode cL_law 12 = .ok (.invokespecial 12, 3) := by decide +kernel
theorem dL_law_15 : decode cL_law 15 = .ok (.astore_n 2, 1) := by decide +kernel
theorem dL_law_16 : decode cL_law 16 = .ok (.iconst 0, 1) := by decide +kernel
theorem dL_law_17 : decode cL_law 17 = .ok (.istore_n 3, 1) := by decide +kernel
theorem dL_law_18 : decode cL_law 18 = .ok (.iload_n 3, 1) := by decide +kernel
theorem dL_law_19 : decode cL_law 19 = .ok (.aload_n 0, 1) := by decide +kernel
theorem dL_law_20 : decode cL_law 20 = .ok (.arraylength, 1) := by decide +kernel
theorem dL_law_21 : decode cL_law 21 = .ok (.iconst 5, 1) := by decide +kernel
theorem dL_law_22 : decode cL_law 22 = .ok (.isub, 1) := by decide +kernel
theorem dL_law_23 : decode cL_law 23 = .ok (.if_icmp .gt 559, 3) := by decide +kernel
theorem dL_law_26 : decode cL_law 26 = .ok (.aload_n 0, 1) := by decide +kernel
theorem dL_law_27 : decode cL_law 27 = .ok (.iload_n 3, 1) := by decide +kernel
theorem dL_law_28 : decode cL_law 28 = .ok (.iaload, 1) := by decide +kernel
theorem dL_law_29 : decode cL_law 29 = .ok (.bipush 15, 2) := by decide +kernel
theorem dL_law_31 : decode cL_law 31 = .ok (.iand, 1) := by decide +kernel
theorem dL_law_32 : decode cL_law 32 = .ok (.tableswitch 544 0 15 #[80, 103, 116, 139, 182, 215, 258, 281, 314, 337, 350, 399, 412, 435, 468, 521], 80) := by decide +kernel
theorem dL_law_112 : decode cL_law 112 = .ok (.aload_n 1, 1) := by decide +kernel
theorem dL_law_113 : decode cL_law 113 = .ok (.aload_n 0, 1) := by decide +kernel
theorem dL_law_114 : decode cL_law 114 = .ok (.iload_n 3, 1) := by decide +kernel
theorem dL_law_115 : decode cL_law 115 = .ok (.iconst 1, 1) := by decide +kernel
theorem dL_law_116 : decode cL_law 116 = .ok (.iadd, 1) := by decide +kernel
theorem dL_law_117 : decode cL_law 117 = .ok (.iaload, 1) := by decide +kernel
theorem dL_law_118 : decode cL_law 118 = .ok (.invokevirtual 13, 3) := by decide +kernel
theorem dL_law_121 : decode cL_law 121 = .ok (.pop, 1) := by decide +kernel
theorem dL_law_122 : decode cL_law 122 = .ok (.aload_n 2, 1) := by decide +kernel
theorem dL_law_123 : decode cL_law 123 = .ok (.aload_n 0, 1) := by decide +kernel
theorem dL_law_124 : decode cL_law 124 = .ok (.iload_n 3, 1) := by decide +kernel
theorem dL_law_125 : decode cL_law 125 = .ok (.iconst 1, 1) := by decide +kernel
theorem dL_law_126 : decode cL_law 126 = .ok (.iadd, 1) := by decide +kernel
theorem dL_law_127 : decode cL_law 127 = .ok (.iaload, 1) := by decide +kernel
theorem dL_law_128 : decode cL_law 128 = .ok (.invokevirtual 17, 3) := by decide +kernel
theorem dL_law_131 : decode cL_law 131 = .ok (.pop, 1) := by decide +kernel
theorem dL_law_132 : decode cL_law 132 = .ok (.goto 444, 3) := by decide +kernel
theorem dL_law_135 : decode cL_law 135 = .ok (.aload_n 1, 1) := by decide +kernel
theorem dL_law_136 : decode cL_law 136 = .ok (.invokevirtual 18, 3) := by decide +kernel
theorem dL_law_139 : decode cL_law 139 = .ok (.pop, 1) := by decide +kernel
theorem dL_law_140 : decode cL_law 140 = .ok (.aload_n 2, 1) := by decide +kernel
theorem dL_law_141 : decode cL_law 141 = .ok (.invokevirtual 22, 3) := by decide +kernel
theorem dL_law_144 : decode cL_law 144 = .ok (.pop, 1) := by decide +kernel
theorem dL_law_145 : decode cL_law 145 = .ok (.goto 431, 3) := by decide +kernel
theorem dL_law_148 : decode cL_law 148 = .ok (.aload_n 1, 1) := by decide +kernel
theorem dL_law_149 : decode cL_law 149 = .ok (.aload_n 0, 1) := by decide +kernel
theorem dL_law_150 : decode cL_law 150 = .ok (.iload_n 3, 1) := by decide +kernel
theorem dL_law_151 : decode cL_law 151 = .ok (.iconst 1, 1) := by decide +kernel
theorem dL_law_152 : decode cL_law 152 = .ok (.iadd, 1) := by decide +kernel
theorem dL_law_153 : decode cL_law 153 = .ok (.iaload, 1) := by decide +kernel
theorem dL_law_154 : decode cL_law 154 = .ok (.invokevirtual 23, 3) := by decide +kernel
theorem dL_law_157 : decode cL_law 157 = .ok (.pop, 1) := by decide +kernel
theorem dL_law_158 : decode cL_law 158 = .ok (.aload_n 2, 1) := by decide +kernel
theorem dL_law_159 : decode cL_law 159 = .ok (.aload_n 0, 1) := by decide +kernel
theorem dL_law_160 : decode cL_law 160 = .ok (.iload_n 3, 1) := by decide +kernel
theorem dL_law_161 : decode cL_law 161 = .ok (.iconst 1, 1) := by decide +kernel
theorem dL_law_162 : decode cL_law 162 = .ok (.iadd, 1) := by decide +kernel
theorem dL_law_163 : decode cL_law 163 = .ok (.iaload, 1) := by decide +kernel
theorem dL_law_164 : decode cL_law 164 = .ok (.invokevirtual 27, 3) := by decide +kernel
theorem dL_law_167 : decode cL_law 167 = .ok (.pop, 1) := by decide +kernel
theorem dL_law_168 : decode cL_law 168 = .ok (.goto 408, 3) := by decide +kernel
theorem dL_law_171 : decode cL_law 171 = .ok (.aload_n 1, 1) := by decide +kernel
theorem dL_law_172 : decode cL_law 172 = .ok (.aload_n 0, 1) := by decide +kernel
theorem dL_law_173 : decode cL_law 173 = .ok (.iload_n 3, 1) := by decide +kernel
theorem dL_law_174 : decode cL_law 174 = .ok (.iconst 1, 1) := by decide +kernel
theorem dL_law_175 : decode cL_law 175 = .ok (.iadd, 1) := by decide +kernel
theorem dL_law_176 : decode cL_law 176 = .ok (.iaload, 1) := by decide +kernel
theorem dL_law_177 : decode cL_law 177 = .ok (.aload_n 0, 1) := by decide +kernel
theorem dL_law_178 : decode cL_law 178 = .ok (.iload_n 3, 1) := by decide +kernel
theorem dL_law_179 : decode cL_law 179 = .ok (.iconst 2, 1) := by decide +kernel
theorem dL_law_180 : decode cL_law 180 = .ok (.iadd, 1) := by decide +kernel
theorem dL_law_181 : decode cL_law 181 = .ok (.iaload, 1) := by decide +kernel
theorem dL_law_182 : decode cL_law 182 = .ok (.aload_n 0, 1) := by decide +kernel
theorem dL_law_183 : decode cL_law 183 = .ok (.iload_n 3, 1) := by decide +kernel
theorem dL_law_184 : decode cL_law 184 = .ok (.iconst 3, 1) := by decide +kernel
theorem dL_law_185 : decode cL_law 185 = .ok (.iadd, 1) := by decide +kernel
theorem dL_law_186 : decode cL_law 186 = .ok (.iaload, 1) := by decide +kernel
theorem dL_law_187 : decode cL_law 187 = .ok (.invokevirtual 28, 3) := by decide +kernel
theorem dL_law_190 : decode cL_law 190 = .ok (.pop, 1) := by decide +kernel
theorem dL_law_191 : decode cL_law 191 = .ok (.aload_n 2, 1) := by decide +kernel
theorem dL_law_192 : decode cL_law 192 = .ok (.aload_n 0, 1) := by decide +kernel
theorem dL_law_193 : decode cL_law 193 = .ok (.iload_n 3, 1) := by decide +kernel
theorem dL_law_194 : decode cL_law 194 = .ok (.iconst 1, 1) := by decide +kernel
theorem dL_law_195 : decode cL_law 195 = .ok (.iadd, 1) := by decide +kernel
theorem dL_law_196 : decode cL_law 196 = .ok (.iaload, 1) := by decide +kernel
theorem dL_law_197 : decode cL_law 197 = .ok (.aload_n 0, 1) := by decide +kernel
theorem dL_law_198 : decode cL_law 198 = .ok (.iload_n 3, 1) := by decide +kernel
theorem dL_law_199 : decode cL_law 199 = .ok (.iconst 2, 1) := by decide +kernel
theorem dL_law_200 : decode cL_law 200 = .ok (.iadd, 1) := by decide +kernel
theorem dL_law_201 : decode cL_law 201 = .ok (.iaload, 1) := by decide +kernel
theorem dL_law_202 : decode cL_law 202 = .ok (.aload_n 0, 1) := by decide +kernel
theorem dL_law_203 : decode cL_law 203 = .ok (.iload_n 3, 1) := by decide +kernel
theorem dL_law_204 : decode cL_law 204 = .ok (.iconst 3, 1) := by decide +kernel
theorem dL_law_205 : decode cL_law 205 = .ok (.iadd, 1) := by decide +kernel
theorem dL_law_206 : decode cL_law 206 = .ok (.iaload, 1) := by decide +kernel
theorem dL_law_207 : decode cL_law 207 = .ok (.invokevirtual 32, 3) := by decide +kernel
theorem dL_law_210 : decode cL_law 210 = .ok (.pop, 1) := by decide +kernel
theorem dL_law_211 : decode cL_law 211 = .ok (.goto 365, 3) := by decide +kernel
theorem dL_law_214 : decode cL_law 214 = .ok (.aload_n 1, 1) := by decide +kernel
theorem dL_law_215 : decode cL_law 215 = .ok (.aload_n 0, 1) := by decide +kernel
theorem dL_law_216 : decode cL_law 216 = .ok (.iload_n 3, 1) := by decide +kernel
theorem dL_law_217 : decode cL_law 217 = .ok (.iconst 1, 1) := by decide +kernel
theorem dL_law_218 : decode cL_law 218 = .ok (.iadd, 1) := by decide +kernel
theorem dL_law_219 : decode cL_law 219 = .ok (.iaload, 1) := by decide +kernel
theorem dL_law_220 : decode cL_law 220 = .ok (.aload_n 0, 1) := by decide +kernel
theorem dL_law_221 : decode cL_law 221 = .ok (.iload_n 3, 1) := by decide +kernel
theorem dL_law_222 : decode cL_law 222 = .ok (.iconst 2, 1) := by decide +kernel
theorem dL_law_223 : decode cL_law 223 = .ok (.iadd, 1) := by decide +kernel
theorem dL_law_224 : decode cL_law 224 = .ok (.iaload, 1) := by decide +kernel
theorem dL_law_225 : decode cL_law 225 = .ok (.invokevirtual 33, 3) := by decide +kernel
theorem dL_law_228 : decode cL_law 228 = .ok (.pop, 1) := by decide +kernel
theorem dL_law_229 : decode cL_law 229 = .ok (.aload_n 2, 1) := by decide +kernel
theorem dL_law_230 : decode cL_law 230 = .ok (.aload_n 0, 1) := by decide +kernel
theorem dL_law_231 : decode cL_law 231 = .ok (.iload_n 3, 1) := by decide +kernel
theorem dL_law_232 : decode cL_law 232 = .ok (.iconst 1, 1) := by decide +kernel
theorem dL_law_233 : decode cL_law 233 = .ok (.iadd, 1) := by decide +kernel
theorem dL_law_234 : decode cL_law 234 = .ok (.iaload, 1) := by decide +kernel
theorem dL_law_235 : decode cL_law 235 = .ok (.aload_n 0, 1) := by decide +kernel
theorem dL_law_236 : decode cL_law 236 = .ok (.iload_n 3, 1) := by decide +kernel
theorem dL_law_237 : decode cL_law 237 = .ok (.iconst 2, 1) := by decide +kernel
theorem dL_law_238 : decode cL_law 238 = .ok (.iadd, 1) := by decide +kernel
theorem dL_law_239 : decode cL_law 239 = .ok (.iaload, 1) := by decide +kernel
theorem dL_law_240 : decode cL_law 240 = .ok (.invokevirtual 37, 3) := by decide +kernel
theorem dL_law_243 : decode cL_law 243 = .ok (.pop, 1) := by decide +kernel
theorem dL_law_244 : decode cL_law 244 = .ok (.goto 332, 3) := by decide +kernel
theorem dL_law_247 : decode cL_law 247 = .ok (.aload_n 1, 1) := by decide +kernel
theorem dL_law_248 : decode cL_law 248 = .ok (.aload_n 0, 1) := by decide +kernel
theorem dL_law_249 : decode cL_law 249 = .ok (.iload_n 3, 1) := by decide +kernel
theorem dL_law_250 : decode cL_law 250 = .ok (.iconst 1, 1) := by decide +kernel
theorem dL_law_251 : decode cL_law 251 = .ok (.iadd, 1) := by decide +kernel
theorem dL_law_252 : decode cL_law 252 = .ok (.iaload, 1) := by decide +kernel
theorem dL_law_253 : decode cL_law 253 = .ok (.aload_n 0, 1) := by decide +kernel
theorem dL_law_254 : decode cL_law 254 = .ok (.iload_n 3, 1) := by decide +kernel
theorem dL_law_255 : decode cL_law 255 = .ok (.iconst 2, 1) := by decide +kernel
theorem dL_law_256 : decode cL_law 256 = .ok (.iadd, 1) := by decide +kernel
theorem dL_law_257 : decode cL_law 257 = .ok (.iaload, 1) := by decide +kernel
theorem dL_law_258 : decode cL_law 258 = .ok (.aload_n 0, 1) := by decide +kernel
theorem dL_law_259 : decode cL_law 259 = .ok (.iload_n 3, 1) := by decide +kernel
theorem dL_law_260 : decode cL_law 260 = .ok (.iconst 3, 1) := by decide +kernel
theorem dL_law_261 : decode cL_law 261 = .ok (.iadd, 1) := by decide +kernel
theorem dL_law_262 : decode cL_law 262 = .ok (.iaload, 1) := by decide +kernel
theorem dL_law_263 : decode cL_law 263 = .ok (.invokevirtual 38, 3) := by decide +kernel
theorem dL_law_266 : decode cL_law 266 = .ok (.pop, 1) := by decide +kernel
theorem dL_law_267 : decode cL_law 267 = .ok (.aload_n 2, 1) := by decide +kernel
theorem dL_law_268 : decode cL_law 268 = .ok (.aload_n 0, 1) := by decide +kernel
theorem dL_law_269 : decode cL_law 269 = .ok (.iload_n 3, 1) := by decide +kernel
theorem dL_law_270 : decode cL_law 270 = .ok (.iconst 1, 1) := by decide +kernel
theorem dL_law_271 : decode cL_law 271 = .ok (.iadd, 1) := by decide +kernel
theorem dL_law_272 : decode cL_law 272 = .ok (.iaload, 1) := by decide +kernel
theorem dL_law_273 : decode cL_law 273 = .ok (.aload_n 0, 1) := by decide +kernel
theorem dL_law_274 : decode cL_law 274 = .ok (.iload_n 3, 1) := by decide +kernel
theorem dL_law_275 : decode cL_law 275 = .ok (.iconst 2, 1) := by decide +kernel
theorem dL_law_276 : decode cL_law 276 = .ok (.iadd, 1) := by decide +kernel
theorem dL_law_277 : decode cL_law 277 = .ok (.iaload, 1) := by decide +kernel
theorem dL_law_278 : decode cL_law 278 = .ok (.aload_n 0, 1) := by decide +kernel
theorem dL_law_279 : decode cL_law 279 = .ok (.iload_n 3, 1) := by decide +kernel
theorem dL_law_280 : decode cL_law 280 = .ok (.iconst 3, 1) := by decide +kernel
theorem dL_law_281 : decode cL_law 281 = .ok (.iadd, 1) := by decide +kernel
theorem dL_law_282 : decode cL_law 282 = .ok (.iaload, 1) := by decide +kernel
theorem dL_law_283 : decode cL_law 283 = .ok (.invokevirtual 42, 3) := by decide +kernel
theorem dL_law_286 : decode cL_law 286 = .ok (.pop, 1) := by decide +kernel
theorem dL_law_287 : decode cL_law 287 = .ok (.goto 289, 3) := by decide +kernel
theorem dL_law_290 : decode cL_law 290 = .ok (.aload_n 1, 1) := by decide +kernel
theorem dL_law_291 : decode cL_law 291 = .ok (.aload_n 0, 1) := by decide +kernel
theorem dL_law_292 : decode cL_law 292 = .ok (.iload_n 3, 1) := by decide +kernel
theorem dL_law_293 : decode cL_law 293 = .ok (.iconst 1, 1) := by decide +kernel
theorem dL_law_294 : decode cL_law 294 = .ok (.iadd, 1) := by decide +kernel
theorem dL_law_295 : decode cL_law 295 = .ok (.iaload, 1) := by decide +kernel
theorem dL_law_296 : decode cL_law 296 = .ok (.invokevirtual 43, 3) := by decide +kernel
theorem dL_law_299 : decode cL_law 299 = .ok (.pop, 1) := by decide +kernel
theorem dL_law_300 : decode cL_law 300 = .ok (.aload_n 2, 1) := by decide +kernel
theorem dL_law_301 : decode cL_law 301 = .ok (.aload_n 0, 1) := by decide +kernel
theorem dL_law_302 : decode cL_law 302 = .ok (.iload_n 3, 1) := by decide +kernel
theorem dL_law_303 : decode cL_law 303 = .ok (.iconst 1, 1) := by decide +kernel
theorem dL_law_304 : decode cL_law 304 = .ok (.iadd, 1) := by decide +kernel
theorem dL_law_305 : decode cL_law 305 = .ok (.iaload, 1) := by decide +kernel
theorem dL_law_306 : decode cL_law 306 = .ok (.invokevirtual 46, 3) := by decide +kernel
theorem dL_law_309 : decode cL_law 309 = .ok (.pop, 1) := by decide +kernel
theorem dL_law_310 : decode cL_law 310 = .ok (.goto 266, 3) := by decide +kernel
theorem dL_law_313 : decode cL_law 313 = .ok (.aload_n 1, 1) := by decide +kernel
theorem dL_law_314 : decode cL_law 314 = .ok (.aload_n 0, 1) := by decide +kernel
theorem dL_law_315 : decode cL_law 315 = .ok (.iload_n 3, 1) := by decide +kernel
theorem dL_law_316 : decode cL_law 316 = .ok (.iconst 1, 1) := by decide +kernel
theorem dL_law_317 : decode cL_law 317 = .ok (.iadd, 1) := by decide +kernel
theorem dL_law_318 : decode cL_law 318 = .ok (.iaload, 1) := by decide +kernel
theorem dL_law_319 : decode cL_law 319 = .ok (.aload_n 0, 1) := by decide +kernel
theorem dL_law_320 : decode cL_law 320 = .ok (.iload_n 3, 1) := by decide +kernel
theorem dL_law_321 : decode cL_law 321 = .ok (.iconst 2, 1) := by decide +kernel
theorem dL_law_322 : decode cL_law 322 = .ok (.iadd, 1) := by decide +kernel
theorem dL_law_323 : decode cL_law 323 = .ok (.iaload, 1) := by decide +kernel
theorem dL_law_324 : decode cL_law 324 = .ok (.invokevirtual 47, 3) := by decide +kernel
theorem dL_law_327 : decode cL_law 327 = .ok (.pop, 1) := by decide +kernel
theorem dL_law_328 : decode cL_law 328 = .ok (.aload_n 2, 1) := by decide +kernel
theorem dL_law_329 : decode cL_law 329 = .ok (.aload_n 0, 1) := by decide +kernel
theorem dL_law_330 : decode cL_law 330 = .ok (.iload_n 3, 1) := by decide +kernel
theorem dL_law_331 : decode cL_law 331 = .ok (.iconst 1, 1) := by decide +kernel
theorem dL_law_332 : decode cL_law 332 = .ok (.iadd, 1) := by decide +kernel
theorem dL_law_333 : decode cL_law 333 = .ok (.iaload, 1) := by decide +kernel
theorem dL_law_334 : decode cL_law 334 = .ok (.aload_n 0, 1) := by decide +kernel
theorem dL_law_335 : decode cL_law 335 = .ok (.iload_n 3, 1) := by decide +kernel
theorem dL_law_336 : decode cL_law 336 = .ok (.iconst 2, 1) := by decide +kernel
theorem dL_law_337 : decode cL_law 337 = .ok (.iadd, 1) := by decide +kernel
theorem dL_law_338 : decode cL_law 338 = .ok (.iaload, 1) := by decide +kernel
theorem dL_law_339 : decode cL_law 339 = .ok (.invokevirtual 51, 3) := by decide +kernel
theorem dL_law_342 : decode cL_law 342 = .ok (.pop, 1) := by decide +kernel
theorem dL_law_343 : decode cL_law 343 = .ok (.goto 233, 3) := by decide +kernel
theorem dL_law_346 : decode cL_law 346 = .ok (.aload_n 1, 1) := by decide +kernel
theorem dL_law_347 : decode cL_law 347 = .ok (.aload_n 0, 1) := by decide +kernel
theorem dL_law_348 : decode cL_law 348 = .ok (.iload_n 3, 1) := by decide +kernel
theorem dL_law_349 : decode cL_law 349 = .ok (.iconst 1, 1) := by decide +kernel
theorem dL_law_350 : decode cL_law 350 = .ok (.iadd, 1) := by decide +kernel
theorem dL_law_351 : decode cL_law 351 = .ok (.iaload, 1) := by decide +kernel
theorem dL_law_352 : decode cL_law 352 = .ok (.invokevirtual 52, 3) := by decide +kernel
theorem dL_law_355 : decode cL_law 355 = .ok (.pop, 1) := by decide +kernel
theorem dL_law_356 : decode cL_law 356 = .ok (.aload_n 2, 1) := by decide +kernel
theorem dL_law_357 : decode cL_law 357 = .ok (.aload_n 0, 1) := by decide +kernel
theorem dL_law_358 : decode cL_law 358 = .ok (.iload_n 3, 1) := by decide +kernel
theorem dL_law_359 : decode cL_law 359 = .ok (.iconst 1, 1) := by decide +kernel
theorem dL_law_360 : decode cL_law 360 = .ok (.iadd, 1) := by decide +kernel
theorem dL_law_361 : decode cL_law 361 = .ok (.iaload, 1) := by decide +kernel
theorem dL_law_362 : decode cL_law 362 = .ok (.invokevirtual 55, 3) := by decide +kernel
theorem dL_law_365 : decode cL_law 365 = .ok (.pop, 1) := by decide +kernel
theorem dL_law_366 : decode cL_law 366 = .ok (.goto 210, 3) := by decide +kernel
theorem dL_law_369 : decode cL_law 369 = .ok (.aload_n 1, 1) := by decide +kernel
theorem dL_law_370 : decode cL_law 370 = .ok (.invokevirtual 56, 3) := by decide +kernel
theorem dL_law_373 : decode cL_law 373 = .ok (.pop, 1) := by decide +kernel
theorem dL_law_374 : decode cL_law 374 = .ok (.aload_n 2, 1) := by decide +kernel
theorem dL_law_375 : decode cL_law 375 = .ok (.invokevirtual 59, 3) := by decide +kernel
theorem dL_law_378 : decode cL_law 378 = .ok (.pop, 1) := by decide +kernel
theorem dL_law_379 : decode cL_law 379 = .ok (.goto 197, 3) := by decide +kernel
theorem dL_law_382 : decode cL_law 382 = .ok (.aload_n 1, 1) := by decide +kernel
theorem dL_law_383 : decode cL_law 383 = .ok (.aload_n 0, 1) := by decide +kernel
theorem dL_law_384 : decode cL_law 384 = .ok (.iload_n 3, 1) := by decide +kernel
theorem dL_law_385 : decode cL_law 385 = .ok (.iconst 1, 1) := by decide +kernel
theorem dL_law_386 : decode cL_law 386 = .ok (.iadd, 1) := by decide +kernel
theorem dL_law_387 : decode cL_law 387 = .ok (.iaload, 1) := by decide +kernel
theorem dL_law_388 : decode cL_law 388 = .ok (.aload_n 0, 1) := by decide +kernel
theorem dL_law_389 : decode cL_law 389 = .ok (.iload_n 3, 1) := by decide +kernel
theorem dL_law_390 : decode cL_law 390 = .ok (.iconst 2, 1) := by decide +kernel
theorem dL_law_391 : decode cL_law 391 = .ok (.iadd, 1) := by decide +kernel
theorem dL_law_392 : decode cL_law 392 = .ok (.iaload, 1) := by decide +kernel
theorem dL_law_393 : decode cL_law 393 = .ok (.ifCond .eq 7, 3) := by decide +kernel
theorem dL_law_396 : decode cL_law 396 = .ok (.iconst 1, 1) := by decide +kernel
theorem dL_law_397 : decode cL_law 397 = .ok (.goto 4, 3) := by decide +kernel
theorem dL_law_400 : decode cL_law 400 = .ok (.iconst 0, 1) := by decide +kernel
theorem dL_law_401 : decode cL_law 401 = .ok (.invokevirtual 60, 3) := by decide +kernel
theorem dL_law_404 : decode cL_law 404 = .ok (.pop, 1) := by decide +kernel
theorem dL_law_405 : decode cL_law 405 = .ok (.aload_n 2, 1) := by decide +kernel
theorem dL_law_406 : decode cL_law 406 = .ok (.aload_n 0, 1) := by decide +kernel
theorem dL_law_407 : decode cL_law 407 = .ok (.iload_n 3, 1) := by decide +kernel
theorem dL_law_408 : decode cL_law 408 = .ok (.iconst 1, 1) := by decide +kernel
theorem dL_law_409 : decode cL_law 409 = .ok (.iadd, 1) := by decide +kernel
theorem dL_law_410 : decode cL_law 410 = .ok (.iaload, 1) := by decide +kernel
theorem dL_law_411 : decode cL_law 411 = .ok (.aload_n 0, 1) := by decide +kernel
theorem dL_law_412 : decode cL_law 412 = .ok (.iload_n 3, 1) := by decide +kernel
theorem dL_law_413 : decode cL_law 413 = .ok (.iconst 2, 1) := by decide +kernel
theorem dL_law_414 : decode cL_law 414 = .ok (.iadd, 1) := by decide +kernel
theorem dL_law_415 : decode cL_law 415 = .ok (.iaload, 1) := by decide +kernel
theorem dL_law_416 : decode cL_law 416 = .ok (.ifCond .eq 7, 3) := by decide +kernel
theorem dL_law_419 : decode cL_law 419 = .ok (.iconst 1, 1) := by decide +kernel
theorem dL_law_420 : decode cL_law 420 = .ok (.goto 4, 3) := by decide +kernel
theorem dL_law_423 : decode cL_law 423 = .ok (.iconst 0, 1) := by decide +kernel
theorem dL_law_424 : decode cL_law 424 = .ok (.invokevirtual 64, 3) := by decide +kernel
theorem dL_law_427 : decode cL_law 427 = .ok (.pop, 1) := by decide +kernel
theorem dL_law_428 : decode cL_law 428 = .ok (.goto 148, 3) := by decide +kernel
theorem dL_law_431 : decode cL_law 431 = .ok (.aload_n 1, 1) := by decide +kernel
theorem dL_law_432 : decode cL_law 432 = .ok (.invokevirtual 65, 3) := by decide +kernel
theorem dL_law_435 : decode cL_law 435 = .ok (.pop, 1) := by decide +kernel
theorem dL_law_436 : decode cL_law 436 = .ok (.aload_n 2, 1) := by decide +kernel
theorem dL_law_437 : decode cL_law 437 = .ok (.invokevirtual 68, 3) := by decide +kernel
theorem dL_law_440 : decode cL_law 440 = .ok (.pop, 1) := by decide +kernel
theorem dL_law_441 : decode cL_law 441 = .ok (.goto 135, 3) := by decide +kernel
theorem dL_law_444 : decode cL_law 444 = .ok (.aload_n 1, 1) := by decide +kernel
theorem dL_law_445 : decode cL_law 445 = .ok (.aload_n 0, 1) := by decide +kernel
theorem dL_law_446 : decode cL_law 446 = .ok (.iload_n 3, 1) := by decide +kernel
theorem dL_law_447 : decode cL_law 447 = .ok (.iconst 1, 1) := by decide +kernel
theorem dL_law_448 : decode cL_law 448 = .ok (.iadd, 1) := by decide +kernel
theorem dL_law_449 : decode cL_law 449 = .ok (.iaload, 1) := by decide +kernel
theorem dL_law_450 : decode cL_law 450 = .ok (.invokevirtual 69, 3) := by decide +kernel
theorem dL_law_453 : decode cL_law 453 = .ok (.pop, 1) := by decide +kernel
theorem dL_law_454 : decode cL_law 454 = .ok (.aload_n 2, 1) := by decide +kernel
theorem dL_law_455 : decode cL_law 455 = .ok (.aload_n 0, 1) := by decide +kernel
theorem dL_law_456 : decode cL_law 456 = .ok (.iload_n 3, 1) := by decide +kernel
theorem dL_law_457 : decode cL_law 457 = .ok (.iconst 1, 1) := by decide +kernel
theorem dL_law_458 : decode cL_law 458 = .ok (.iadd, 1) := by decide +kernel
theorem dL_law_459 : decode cL_law 459 = .ok (.iaload, 1) := by decide +kernel
theorem dL_law_460 : decode cL_law 460 = .ok (.invokevirtual 72, 3) := by decide +kernel
theorem dL_law_463 : decode cL_law 463 = .ok (.pop, 1) := by decide +kernel
theorem dL_law_464 : decode cL_law 464 = .ok (.goto 112, 3) := by decide +kernel
theorem dL_law_467 : decode cL_law 467 = .ok (.aload_n 1, 1) := by decide +kernel
theorem dL_law_468 : decode cL_law 468 = .ok (.aload_n 0, 1) := by decide +kernel
theorem dL_law_469 : decode cL_law 469 = .ok (.iload_n 3, 1) := by decide +kernel
theorem dL_law_470 : decode cL_law 470 = .ok (.iconst 1, 1) := by decide +kernel
theorem dL_law_471 : decode cL_law 471 = .ok (.iadd, 1) := by decide +kernel
theorem dL_law_472 : decode cL_law 472 = .ok (.iaload, 1) := by decide +kernel
theorem dL_law_473 : decode cL_law 473 = .ok (.aload_n 0, 1) := by decide +kernel
theorem dL_law_474 : decode cL_law 474 = .ok (.iload_n 3, 1) := by decide +kernel
theorem dL_law_475 : decode cL_law 475 = .ok (.iconst 2, 1) := by decide +kernel
theorem dL_law_476 : decode cL_law 476 = .ok (.iadd, 1) := by decide +kernel
theorem dL_law_477 : decode cL_law 477 = .ok (.iaload, 1) := by decide +kernel
theorem dL_law_478 : decode cL_law 478 = .ok (.invokevirtual 73, 3) := by decide +kernel
theorem dL_law_481 : decode cL_law 481 = .ok (.pop, 1) := by decide +kernel
theorem dL_law_482 : decode cL_law 482 = .ok (.aload_n 2, 1) := by decide +kernel
theorem dL_law_483 : decode cL_law 483 = .ok (.aload_n 0, 1) := by decide +kernel
theorem dL_law_484 : decode cL_law 484 = .ok (.iload_n 3, 1) := by decide +kernel
theorem dL_law_485 : decode cL_law 485 = .ok (.iconst 1, 1) := by decide +kernel
theorem dL_law_486 : decode cL_law 486 = .ok (.iadd, 1) := by decide +kernel
theorem dL_law_487 : decode cL_law 487 = .ok (.iaload, 1) := by decide +kernel
theorem dL_law_488 : decode cL_law 488 = .ok (.aload_n 0, 1) := by decide +kernel
theorem dL_law_489 : decode cL_law 489 = .ok (.iload_n 3, 1) := by decide +kernel
theorem dL_law_490 : decode cL_law 490 = .ok (.iconst 2, 1) := by decide +kernel
theorem dL_law_491 : decode cL_law 491 = .ok (.iadd, 1) := by decide +kernel
theorem dL_law_492 : decode cL_law 492 = .ok (.iaload, 1) := by decide +kernel
theorem dL_law_493 : decode cL_law 493 = .ok (.invokevirtual 76, 3) := by decide +kernel
theorem dL_law_496 : decode cL_law 496 = .ok (.pop, 1) := by decide +kernel
theorem dL_law_497 : decode cL_law 497 = .ok (.goto 79, 3) := by decide +kernel
theorem dL_law_500 : decode cL_law 500 = .ok (.aload_n 1, 1) := by decide +kernel
theorem dL_law_501 : decode cL_law 501 = .ok (.aload_n 0, 1) := by decide +kernel
theorem dL_law_502 : decode cL_law 502 = .ok (.iload_n 3, 1) := by decide +kernel
theorem dL_law_503 : decode cL_law 503 = .ok (.iconst 1, 1) := by decide +kernel
theorem dL_law_504 : decode cL_law 504 = .ok (.iadd, 1) := by decide +kernel
theorem dL_law_505 : decode cL_law 505 = .ok (.iaload, 1) := by decide +kernel
theorem dL_law_506 : decode cL_law 506 = .ok (.aload_n 0, 1) := by decide +kernel
theorem dL_law_507 : decode cL_law 507 = .ok (.iload_n 3, 1) := by decide +kernel
theorem dL_law_508 : decode cL_law 508 = .ok (.iconst 2, 1) := by decide +kernel
theorem dL_law_509 : decode cL_law 509 = .ok (.iadd, 1) := by decide +kernel
theorem dL_law_510 : decode cL_law 510 = .ok (.iaload, 1) := by decide +kernel
theorem dL_law_511 : decode cL_law 511 = .ok (.aload_n 0, 1) := by decide +kernel
theorem dL_law_512 : decode cL_law 512 = .ok (.iload_n 3, 1) := by decide +kernel
theorem dL_law_513 : decode cL_law 513 = .ok (.iconst 3, 1) := by decide +kernel
theorem dL_law_514 : decode cL_law 514 = .ok (.iadd, 1) := by decide +kernel
theorem dL_law_515 : decode cL_law 515 = .ok (.iaload, 1) := by decide +kernel
theorem dL_law_516 : decode cL_law 516 = .ok (.aload_n 0, 1) := by decide +kernel
theorem dL_law_517 : decode cL_law 517 = .ok (.iload_n 3, 1) := by decide +kernel
theorem dL_law_518 : decode cL_law 518 = .ok (.iconst 4, 1) := by decide +kernel
theorem dL_law_519 : decode cL_law 519 = .ok (.iadd, 1) := by decide +kernel
theorem dL_law_520 : decode cL_law 520 = .ok (.iaload, 1) := by decide +kernel
theorem dL_law_521 : decode cL_law 521 = .ok (.invokevirtual 77, 3) := by decide +kernel
theorem dL_law_524 : decode cL_law 524 = .ok (.pop, 1) := by decide +kernel
theorem dL_law_525 : decode cL_law 525 = .ok (.aload_n 2, 1) := by decide +kernel
theorem dL_law_526 : decode cL_law 526 = .ok (.aload_n 0, 1) := by decide +kernel
theorem dL_law_527 : decode cL_law 527 = .ok (.iload_n 3, 1) := by decide +kernel
theorem dL_law_528 : decode cL_law 528 = .ok (.iconst 1, 1) := by decide +kernel
theorem dL_law_529 : decode cL_law 529 = .ok (.iadd, 1) := by decide +kernel
theorem dL_law_530 : decode cL_law 530 = .ok (.iaload, 1) := by decide +kernel
theorem dL_law_531 : decode cL_law 531 = .ok (.aload_n 0, 1) := by decide +kernel
theorem dL_law_532 : decode cL_law 532 = .ok (.iload_n 3, 1) := by decide +kernel
theorem dL_law_533 : decode cL_law 533 = .ok (.iconst 2, 1) := by decide +kernel
theorem dL_law_534 : decode cL_law 534 = .ok (.iadd, 1) := by decide +kernel
theorem dL_law_535 : decode cL_law 535 = .ok (.iaload, 1) := by decide +kernel
theorem dL_law_536 : decode cL_law 536 = .ok (.aload_n 0, 1) := by decide +kernel
theorem dL_law_537 : decode cL_law 537 = .ok (.iload_n 3, 1) := by decide +kernel
theorem dL_law_538 : decode cL_law 538 = .ok (.iconst 3, 1) := by decide +kernel
theorem dL_law_539 : decode cL_law 539 = .ok (.iadd, 1) := by decide +kernel
theorem dL_law_540 : decode cL_law 540 = .ok (.iaload, 1) := by decide +kernel
theorem dL_law_541 : decode cL_law 541 = .ok (.aload_n 0, 1) := by decide +kernel
theorem dL_law_542 : decode cL_law 542 = .ok (.iload_n 3, 1) := by decide +kernel
theorem dL_law_543 : decode cL_law 543 = .ok (.iconst 4, 1) := by decide +kernel
theorem dL_law_544 : decode cL_law 544 = .ok (.iadd, 1) := by decide +kernel
theorem dL_law_545 : decode cL_law 545 = .ok (.iaload, 1) := by decide +kernel
theorem dL_law_546 : decode cL_law 546 = .ok (.invokevirtual 81, 3) := by decide +kernel
theorem dL_law_549 : decode cL_law 549 = .ok (.pop, 1) := by decide +kernel
theorem dL_law_550 : decode cL_law 550 = .ok (.goto 26, 3) := by decide +kernel
theorem dL_law_553 : decode cL_law 553 = .ok (.aload_n 1, 1) := by decide +kernel
theorem dL_law_554 : decode cL_law 554 = .ok (.aload_n 0, 1) := by decide +kernel
theorem dL_law_555 : decode cL_law 555 = .ok (.iload_n 3, 1) := by decide +kernel
theorem dL_law_556 : decode cL_law 556 = .ok (.iconst 1, 1) := by decide +kernel
theorem dL_law_557 : decode cL_law 557 = .ok (.iadd, 1) := by decide +kernel
theorem dL_law_558 : decode cL_law 558 = .ok (.iaload, 1) := by decide +kernel
theorem dL_law_559 : decode cL_law 559 = .ok (.invokevirtual 82, 3) := by decide +kernel
theorem dL_law_562 : decode cL_law 562 = .ok (.aload_n 2, 1) := by decide +kernel
theorem dL_law_563 : decode cL_law 563 = .ok (.aload_n 0, 1) := by decide +kernel
theorem dL_law_564 : decode cL_law 564 = .ok (.iload_n 3, 1) := by decide +kernel
theorem dL_law_565 : decode cL_law 565 = .ok (.iconst 1, 1) := by decide +kernel
theorem dL_law_566 : decode cL_law 566 = .ok (.iadd, 1) := by decide +kernel
theorem dL_law_567 : decode cL_law 567 = .ok (.iaload, 1) := by decide +kernel
theorem dL_law_568 : decode cL_law 568 = .ok (.invokevirtual 85, 3) := by decide +kernel
theorem dL_law_571 : decode cL_law 571 = .ok (.if_icmp .eq 5, 3) := by decide +kernel
theorem dL_law_576 : decode cL_law 576 = .ok (.iinc 3 5, 3) := by decide +kernel
theorem dL_law_579 : decode cL_law 579 = .ok (.goto (-561), 3) := by decide +kernel
theorem dL_law_582 : decode cL_law 582 = .ok (.iconst 1, 1) := by decide +kernel
theorem dL_law_583 : decode cL_law 583 = .ok (.ireturn, 1) := by decide +kernel

